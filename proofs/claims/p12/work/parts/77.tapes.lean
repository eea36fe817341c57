-- how long the tape is: feed, wipe and siege on both sides
def feedA (n : Nat) (a : Int32) : Int32 := if 1 ≤ a ∧ a ≤ 4 then (if n + a.toInt.toNat ≤ 120 then nI (n + a.toInt.toNat) else -1000000002) else -1000000001
def feedL (n : Nat) (a : Int32) : Nat := if 1 ≤ a ∧ a ≤ 4 then (if n + a.toInt.toNat ≤ 120 then n + a.toInt.toNat else n) else n
theorem feed_n {n : Nat} {a : Int32} (q : ¬ (1 ≤ a ∧ a ≤ 4)) : feedA n a = -1000000001 ∧ feedL n a = n := by
  unfold feedA feedL
  rw [if_neg q, if_neg q]
  exact ⟨rfl, rfl⟩
theorem feed_in {x : Nat} (h1 : 1 ≤ x) (h4 : x ≤ 4) : (1 : Int32) ≤ nI x ∧ nI x ≤ 4 := ⟨nI_le (a := 1) h1 (by omega), nI_le (b := 4) h4 (by decide)⟩
theorem feed_f {n x : Nat} (h1 : 1 ≤ x) (h4 : x ≤ 4) (h : ¬ n + x ≤ 120) : feedA n (nI x) = -1000000002 ∧ feedL n (nI x) = n := by
  unfold feedA feedL
  rw [if_pos (feed_in h1 h4), if_pos (feed_in h1 h4), nI_toInt (by omega), Int.toNat_natCast, if_neg h, if_neg h]
  exact ⟨rfl, rfl⟩
theorem feed_y {n x : Nat} (h1 : 1 ≤ x) (h4 : x ≤ 4) (h : n + x ≤ 120) : feedA n (nI x) = nI (n + x) ∧ feedL n (nI x) = n + x := by
  unfold feedA feedL
  rw [if_pos (feed_in h1 h4), if_pos (feed_in h1 h4), nI_toInt (by omega), Int.toNat_natCast, if_pos h, if_pos h]
  exact ⟨rfl, rfl⟩
theorem feedL_le {n : Nat} {a : Int32} (h : n ≤ 120) : feedL n a ≤ 120 := by
  unfold feedL
  split
  · split <;> omega
  · exact h
set_option maxRecDepth 20000 in
set_option maxHeartbeats 4000000 in
theorem s89T {xs : Option (List Int32)} {d n : Nat} {w : List sx_C} (hI : WI w) (hn : fi w 96 1 = nI n) (hn1 : n < 120) (b : Int32) : sx_RP xs d 89 0 (lv_args 0 [.ref 96, .int b]) [] w (fun r w2 => (r = none ∧ fi w2 96 1 = nI (n + 1)) ∧ WI w2 ∧ EX 96 w w2) := by
  have hE : EX 96 w w := EX.rf
  refine sx_RP.step (pc2 := 1) (ls2 := [(0, .ref 96), (1, .int b)]) (st2 := [.ref 96]) (w3 := w) rfl rfl ?_
  refine sx_RP.gt (k := 1) hI rfl rfl (by decide) (show _ = 4 from rfl) ?_
  rw [hn]
  refine sx_RP.step (pc2 := 6) (ls2 := [(0, .ref 96), (1, .int b)]) (st2 := [.int 120, .int (nI n)]) (w3 := w) rfl rfl ?_
  refine sx_RP.br (p1 := 29) (l1 := [(0, .ref 96), (1, .int b)]) (s1 := []) (v1 := w) (p2 := 9) (l2 := [(0, .ref 96), (1, .int b)]) (s2 := []) (v2 := w) rfl rfl (fun q1 => ?_) (fun q1 => ?_)
  · replace q1 := of_decide_eq_true q1
    replace q1 := (nI_leI (a := 120) (b := n) (by omega) (by omega)).mp q1
    refine sx_RP.ret (r := none) rfl rfl ?_
    exact absurd hn1 (by omega)
  · replace q1 := of_decide_eq_false q1
    replace q1 := mt (nI_leI (a := 120) (b := n) (by omega) (by omega)).mpr q1
    refine sx_RP.step (pc2 := 10) (ls2 := [(0, .ref 96), (1, .int b)]) (st2 := [.ref 96]) (w3 := w) rfl rfl ?_
    refine sx_RP.gf (v := .ref 97) rfl rfl hI.1.o96 rfl rfl (show _ = 13 from rfl) ?_
    refine sx_RP.step (pc2 := 14) (ls2 := [(0, .ref 96), (1, .int b)]) (st2 := [.ref 96, .ref 97]) (w3 := w) rfl rfl ?_
    refine sx_RP.gt (k := 1) hI rfl rfl (by decide) (show _ = 17 from rfl) ?_
    rw [hn]
    refine sx_RP.step (pc2 := 18) (ls2 := [(0, .ref 96), (1, .int b)]) (st2 := [.int b, .int (nI n), .ref 97]) (w3 := w) rfl rfl ?_
    refine sx_RP.stT hI EC.rf rfl hI.1.a97 (sx_in_nI (show n < 120 by omega) (by decide)) trivial (show _ = 19 from rfl) (fun w2 hI3 hE5 => ?_)
    have hE4 := hE.tr hE5.ex
    have ex6 := (keep96 hI hI3 ((hE5 96).1 (by decide))).trans hn
    refine sx_RP.step (pc2 := 20) (ls2 := [(0, .ref 96), (1, .int b)]) (st2 := [.ref 96]) (w3 := w2) rfl rfl ?_
    refine sx_RP.step (pc2 := 21) (ls2 := [(0, .ref 96), (1, .int b)]) (st2 := [.ref 96, .ref 96]) (w3 := w2) rfl rfl ?_
    refine sx_RP.gt (k := 1) hI3 rfl rfl (by decide) (show _ = 24 from rfl) ?_
    rw [ex6]
    refine sx_RP.step (pc2 := 25) (ls2 := [(0, .ref 96), (1, .int b)]) (st2 := [.int 1, .int (nI n), .ref 96]) (w3 := w2) rfl rfl ?_
    refine sx_RP.step (pc2 := 26) (ls2 := [(0, .ref 96), (1, .int b)]) (st2 := [.int ((nI n) + 1), .ref 96]) (w3 := w2) rfl rfl ?_
    rw [show ((nI n) + 1 : Int32) = nI (n + 1) from nI_add n 1]
    refine sx_RP.pl hI3 rfl rfl rfl (inR.n (show (n + 1) ≤ 120 by omega)) (show _ = 29 from rfl) (fun w7 hI8 hE10 ht11 => ?_)
    have hE9 := hE4.tr hE10
    refine sx_RP.ret (r := none) rfl rfl ?_
    exact ⟨⟨rfl, ht11⟩, hI8, hE9⟩
set_option maxRecDepth 20000 in
set_option maxHeartbeats 4000000 in
theorem p88y {xs : Option (List Int32)} {d n k : Nat} {w : List sx_C} (hI : WI w) (hn : fi w 96 1 = nI n) (hn1 : n ≤ 120) (hk : k ≤ 4) (hh : n + k ≤ 120) : sx_RU xs d 88 0 (lv_args 0 [.ref 96, .int (nI k)]) [] w (some (.int 1)) w := by
  have h : sx_RP xs d 88 0 (lv_args 0 [.ref 96, .int (nI k)]) [] w (fun r w2 => r = some (.int 1) ∧ w2 = w) := by
    refine sx_RP.step (pc2 := 1) (ls2 := [(0, .ref 96), (1, .int (nI k))]) (st2 := [.ref 96]) (w3 := w) rfl rfl ?_
    refine sx_RP.gt (k := 1) hI rfl rfl (by decide) (show _ = 4 from rfl) ?_
    rw [hn]
    refine sx_RP.step (pc2 := 5) (ls2 := [(0, .ref 96), (1, .int (nI k))]) (st2 := [.int (nI k), .int (nI n)]) (w3 := w) rfl rfl ?_
    refine sx_RP.step (pc2 := 6) (ls2 := [(0, .ref 96), (1, .int (nI k))]) (st2 := [.int ((nI n) + (nI k))]) (w3 := w) rfl rfl ?_
    rw [show ((nI n) + (nI k) : Int32) = nI (n + k) from nI_add n k]
    refine sx_RP.step (pc2 := 8) (ls2 := [(0, .ref 96), (1, .int (nI k))]) (st2 := [.int 120, .int (nI (n + k))]) (w3 := w) rfl rfl ?_
    refine sx_RP.br (p1 := 15) (l1 := [(0, .ref 96), (1, .int (nI k))]) (s1 := []) (v1 := w) (p2 := 11) (l2 := [(0, .ref 96), (1, .int (nI k))]) (s2 := []) (v2 := w) rfl rfl (fun q1 => ?_) (fun q1 => ?_)
    · replace q1 := of_decide_eq_true q1
      replace q1 := (nI_ltI (a := 120) (b := (n + k)) (by omega) (by omega)).mp q1
      refine sx_RP.step (pc2 := 16) (ls2 := [(0, .ref 96), (1, .int (nI k))]) (st2 := [.int 0]) (w3 := w) rfl rfl ?_
      refine sx_RP.ret (r := (some (.int 0))) rfl rfl ?_
      first | exact ⟨rfl, rfl⟩ | (exfalso; omega)
    · replace q1 := of_decide_eq_false q1
      replace q1 := mt (nI_ltI (a := 120) (b := (n + k)) (by omega) (by omega)).mpr q1
      refine sx_RP.step (pc2 := 12) (ls2 := [(0, .ref 96), (1, .int (nI k))]) (st2 := [.int 1]) (w3 := w) rfl rfl ?_
      refine sx_RP.step (pc2 := 16) (ls2 := [(0, .ref 96), (1, .int (nI k))]) (st2 := [.int 1]) (w3 := w) rfl rfl ?_
      refine sx_RP.ret (r := (some (.int 1))) rfl rfl ?_
      first | exact ⟨rfl, rfl⟩ | (exfalso; omega)
  obtain ⟨r, w2, h1, rfl, rfl⟩ := h
  exact h1
set_option maxRecDepth 20000 in
set_option maxHeartbeats 4000000 in
theorem p88n {xs : Option (List Int32)} {d n k : Nat} {w : List sx_C} (hI : WI w) (hn : fi w 96 1 = nI n) (hn1 : n ≤ 120) (hk : k ≤ 4) (hh : ¬ n + k ≤ 120) : sx_RU xs d 88 0 (lv_args 0 [.ref 96, .int (nI k)]) [] w (some (.int 0)) w := by
  have h : sx_RP xs d 88 0 (lv_args 0 [.ref 96, .int (nI k)]) [] w (fun r w2 => r = some (.int 0) ∧ w2 = w) := by
    refine sx_RP.step (pc2 := 1) (ls2 := [(0, .ref 96), (1, .int (nI k))]) (st2 := [.ref 96]) (w3 := w) rfl rfl ?_
    refine sx_RP.gt (k := 1) hI rfl rfl (by decide) (show _ = 4 from rfl) ?_
    rw [hn]
    refine sx_RP.step (pc2 := 5) (ls2 := [(0, .ref 96), (1, .int (nI k))]) (st2 := [.int (nI k), .int (nI n)]) (w3 := w) rfl rfl ?_
    refine sx_RP.step (pc2 := 6) (ls2 := [(0, .ref 96), (1, .int (nI k))]) (st2 := [.int ((nI n) + (nI k))]) (w3 := w) rfl rfl ?_
    rw [show ((nI n) + (nI k) : Int32) = nI (n + k) from nI_add n k]
    refine sx_RP.step (pc2 := 8) (ls2 := [(0, .ref 96), (1, .int (nI k))]) (st2 := [.int 120, .int (nI (n + k))]) (w3 := w) rfl rfl ?_
    refine sx_RP.br (p1 := 15) (l1 := [(0, .ref 96), (1, .int (nI k))]) (s1 := []) (v1 := w) (p2 := 11) (l2 := [(0, .ref 96), (1, .int (nI k))]) (s2 := []) (v2 := w) rfl rfl (fun q1 => ?_) (fun q1 => ?_)
    · replace q1 := of_decide_eq_true q1
      replace q1 := (nI_ltI (a := 120) (b := (n + k)) (by omega) (by omega)).mp q1
      refine sx_RP.step (pc2 := 16) (ls2 := [(0, .ref 96), (1, .int (nI k))]) (st2 := [.int 0]) (w3 := w) rfl rfl ?_
      refine sx_RP.ret (r := (some (.int 0))) rfl rfl ?_
      first | exact ⟨rfl, rfl⟩ | (exfalso; omega)
    · replace q1 := of_decide_eq_false q1
      replace q1 := mt (nI_ltI (a := 120) (b := (n + k)) (by omega) (by omega)).mpr q1
      refine sx_RP.step (pc2 := 12) (ls2 := [(0, .ref 96), (1, .int (nI k))]) (st2 := [.int 1]) (w3 := w) rfl rfl ?_
      refine sx_RP.step (pc2 := 16) (ls2 := [(0, .ref 96), (1, .int (nI k))]) (st2 := [.int 1]) (w3 := w) rfl rfl ?_
      refine sx_RP.ret (r := (some (.int 1))) rfl rfl ?_
      first | exact ⟨rfl, rfl⟩ | (exfalso; omega)
  obtain ⟨r, w2, h1, rfl, rfl⟩ := h
  exact h1
set_option maxRecDepth 20000 in
set_option maxHeartbeats 4000000 in
theorem s87T_m1 {xs : Option (List Int32)} {d n m T : Nat} {a1 : Int32} {w w0 : List sx_C} (hT : m + 0 = T) (h120 : T ≤ 120) (hI : WI w) (hm : fi w 96 1 = nI m) (hE : EX 96 w0 w) : sx_RP xs (d + 7) 87 38 [(0, .ref 0), (1, .int a1), (2, .int (nI n)), (3, .int (-1))] [] w (fun r w2 => (r = some (.int (nI T)) ∧ fi w2 96 1 = nI T) ∧ WI w2 ∧ EX 96 w0 w2) := by
  obtain rfl : m = T := by omega
  refine sx_RP.step (pc2 := 39) (ls2 := [(0, .ref 0), (1, .int a1), (2, .int (nI n)), (3, .int (-1))]) (st2 := [.int (-1)]) (w3 := w) rfl rfl ?_
  refine sx_RP.step (pc2 := 62) (ls2 := [(0, .ref 0), (1, .int a1), (2, .int (nI n)), (3, .int (-1))]) (st2 := []) (w3 := w) rfl rfl ?_
  refine sx_RP.step (pc2 := 63) (ls2 := [(0, .ref 0), (1, .int a1), (2, .int (nI n)), (3, .int (-1))]) (st2 := [.ref 0]) (w3 := w) rfl rfl ?_
  refine sx_RP.gf (v := .ref 96) rfl rfl hI.1.o0 rfl rfl (show _ = 66 from rfl) ?_
  refine sx_RP.gt (k := 1) hI rfl rfl (by decide) (show _ = 69 from rfl) ?_
  rw [hm]
  refine sx_RP.ret (r := (some (.int (nI m)))) rfl rfl ?_
  exact ⟨⟨rfl, hm⟩, hI, hE⟩
set_option maxRecDepth 20000 in
set_option maxHeartbeats 4000000 in
theorem s87T_0 {xs : Option (List Int32)} {d n m T : Nat} {a1 : Int32} {w w0 : List sx_C} (hT : m + 1 = T) (h120 : T ≤ 120) (hI : WI w) (hm : fi w 96 1 = nI m) (hE : EX 96 w0 w) : sx_RP xs (d + 7) 87 38 [(0, .ref 0), (1, .int a1), (2, .int (nI n)), (3, .int 0)] [] w (fun r w2 => (r = some (.int (nI T)) ∧ fi w2 96 1 = nI T) ∧ WI w2 ∧ EX 96 w0 w2) := by
  refine sx_RP.step (pc2 := 39) (ls2 := [(0, .ref 0), (1, .int a1), (2, .int (nI n)), (3, .int 0)]) (st2 := [.int 0]) (w3 := w) rfl rfl ?_
  refine sx_RP.step (pc2 := 42) (ls2 := [(0, .ref 0), (1, .int a1), (2, .int (nI n)), (3, .int 0)]) (st2 := []) (w3 := w) rfl rfl ?_
  refine sx_RP.step (pc2 := 43) (ls2 := [(0, .ref 0), (1, .int a1), (2, .int (nI n)), (3, .int 0)]) (st2 := [.ref 0]) (w3 := w) rfl rfl ?_
  refine sx_RP.gf (v := .ref 96) rfl rfl hI.1.o0 rfl rfl (show _ = 46 from rfl) ?_
  refine sx_RP.step (pc2 := 47) (ls2 := [(0, .ref 0), (1, .int a1), (2, .int (nI n)), (3, .int 0)]) (st2 := [.int a1, .ref 96]) (w3 := w) rfl rfl ?_
  refine sx_RP.step (pc2 := 49) (ls2 := [(0, .ref 0), (1, .int a1), (2, .int (nI n)), (3, .int 0)]) (st2 := [.int 8, .int a1, .ref 96]) (w3 := w) rfl rfl ?_
  refine sx_RP.step (pc2 := 50) (ls2 := [(0, .ref 0), (1, .int a1), (2, .int (nI n)), (3, .int 0)]) (st2 := [.int 0, .int 8, .int a1, .ref 96]) (w3 := w) rfl rfl ?_
  refine sx_RP.step (pc2 := 51) (ls2 := [(0, .ref 0), (1, .int a1), (2, .int (nI n)), (3, .int 0)]) (st2 := [.int 0, .int a1, .ref 96]) (w3 := w) rfl rfl ?_
  refine sx_RP.step (pc2 := 52) (ls2 := [(0, .ref 0), (1, .int a1), (2, .int (nI n)), (3, .int 0)]) (st2 := [.int (a1 >>> (0 &&& 31)), .ref 96]) (w3 := w) rfl rfl ?_
  refine sx_RP.step (pc2 := 53) (ls2 := [(0, .ref 0), (1, .int a1), (2, .int (nI n)), (3, .int 0)]) (st2 := [.int ((a1 >>> (0 &&& 31)).toInt8.toInt32), .ref 96]) (w3 := w) rfl rfl ?_
  refine sx_RP.callp (as2 := [.ref 96, .int ((a1 >>> (0 &&& 31)).toInt8.toInt32)]) (rest2 := []) rfl rfl (sx_inv_v2 (mi := 87) (k := 282) (st := [.int ((a1 >>> (0 &&& 31)).toInt8.toInt32), .ref 96]) (w := w) rfl rfl hI.1.o96 rfl rfl rfl) rfl rfl rfl (s89T hI hm (by omega) ((a1 >>> (0 &&& 31)).toInt8.toInt32)) (show _ = 56 from rfl) ?_
  rintro r4 w2 ⟨⟨rfl, ht1⟩, hI3, hE5⟩
  have hE4 := hE.tr (hE5)
  show sx_RP _ _ _ _ _ [] _ _
  refine sx_RP.step (pc2 := 59) (ls2 := [(3, .int (-1)), (0, .ref 0), (1, .int a1), (2, .int (nI n))]) (st2 := []) (w3 := w2) rfl rfl ?_
  refine sx_RP.step (pc2 := 38) (ls2 := [(3, .int (-1)), (0, .ref 0), (1, .int a1), (2, .int (nI n))]) (st2 := []) (w3 := w2) rfl rfl ?_
  exact sx_RP.ls (sx_lr.cons rfl (sx_lr.cons rfl (sx_lr.cons rfl (sx_lr.cons rfl sx_lr.nil)))) (s87T_m1 (m := m + 1) (by omega) h120 hI3 ht1 hE4)
set_option maxRecDepth 20000 in
set_option maxHeartbeats 4000000 in
theorem s87T_1 {xs : Option (List Int32)} {d n m T : Nat} {a1 : Int32} {w w0 : List sx_C} (hT : m + 2 = T) (h120 : T ≤ 120) (hI : WI w) (hm : fi w 96 1 = nI m) (hE : EX 96 w0 w) : sx_RP xs (d + 7) 87 38 [(0, .ref 0), (1, .int a1), (2, .int (nI n)), (3, .int 1)] [] w (fun r w2 => (r = some (.int (nI T)) ∧ fi w2 96 1 = nI T) ∧ WI w2 ∧ EX 96 w0 w2) := by
  refine sx_RP.step (pc2 := 39) (ls2 := [(0, .ref 0), (1, .int a1), (2, .int (nI n)), (3, .int 1)]) (st2 := [.int 1]) (w3 := w) rfl rfl ?_
  refine sx_RP.step (pc2 := 42) (ls2 := [(0, .ref 0), (1, .int a1), (2, .int (nI n)), (3, .int 1)]) (st2 := []) (w3 := w) rfl rfl ?_
  refine sx_RP.step (pc2 := 43) (ls2 := [(0, .ref 0), (1, .int a1), (2, .int (nI n)), (3, .int 1)]) (st2 := [.ref 0]) (w3 := w) rfl rfl ?_
  refine sx_RP.gf (v := .ref 96) rfl rfl hI.1.o0 rfl rfl (show _ = 46 from rfl) ?_
  refine sx_RP.step (pc2 := 47) (ls2 := [(0, .ref 0), (1, .int a1), (2, .int (nI n)), (3, .int 1)]) (st2 := [.int a1, .ref 96]) (w3 := w) rfl rfl ?_
  refine sx_RP.step (pc2 := 49) (ls2 := [(0, .ref 0), (1, .int a1), (2, .int (nI n)), (3, .int 1)]) (st2 := [.int 8, .int a1, .ref 96]) (w3 := w) rfl rfl ?_
  refine sx_RP.step (pc2 := 50) (ls2 := [(0, .ref 0), (1, .int a1), (2, .int (nI n)), (3, .int 1)]) (st2 := [.int 1, .int 8, .int a1, .ref 96]) (w3 := w) rfl rfl ?_
  refine sx_RP.step (pc2 := 51) (ls2 := [(0, .ref 0), (1, .int a1), (2, .int (nI n)), (3, .int 1)]) (st2 := [.int 8, .int a1, .ref 96]) (w3 := w) rfl rfl ?_
  refine sx_RP.step (pc2 := 52) (ls2 := [(0, .ref 0), (1, .int a1), (2, .int (nI n)), (3, .int 1)]) (st2 := [.int (a1 >>> (8 &&& 31)), .ref 96]) (w3 := w) rfl rfl ?_
  refine sx_RP.step (pc2 := 53) (ls2 := [(0, .ref 0), (1, .int a1), (2, .int (nI n)), (3, .int 1)]) (st2 := [.int ((a1 >>> (8 &&& 31)).toInt8.toInt32), .ref 96]) (w3 := w) rfl rfl ?_
  refine sx_RP.callp (as2 := [.ref 96, .int ((a1 >>> (8 &&& 31)).toInt8.toInt32)]) (rest2 := []) rfl rfl (sx_inv_v2 (mi := 87) (k := 282) (st := [.int ((a1 >>> (8 &&& 31)).toInt8.toInt32), .ref 96]) (w := w) rfl rfl hI.1.o96 rfl rfl rfl) rfl rfl rfl (s89T hI hm (by omega) ((a1 >>> (8 &&& 31)).toInt8.toInt32)) (show _ = 56 from rfl) ?_
  rintro r4 w2 ⟨⟨rfl, ht1⟩, hI3, hE5⟩
  have hE4 := hE.tr (hE5)
  show sx_RP _ _ _ _ _ [] _ _
  refine sx_RP.step (pc2 := 59) (ls2 := [(3, .int 0), (0, .ref 0), (1, .int a1), (2, .int (nI n))]) (st2 := []) (w3 := w2) rfl rfl ?_
  refine sx_RP.step (pc2 := 38) (ls2 := [(3, .int 0), (0, .ref 0), (1, .int a1), (2, .int (nI n))]) (st2 := []) (w3 := w2) rfl rfl ?_
  exact sx_RP.ls (sx_lr.cons rfl (sx_lr.cons rfl (sx_lr.cons rfl (sx_lr.cons rfl sx_lr.nil)))) (s87T_0 (m := m + 1) (by omega) h120 hI3 ht1 hE4)
set_option maxRecDepth 20000 in
set_option maxHeartbeats 4000000 in
theorem s87T_2 {xs : Option (List Int32)} {d n m T : Nat} {a1 : Int32} {w w0 : List sx_C} (hT : m + 3 = T) (h120 : T ≤ 120) (hI : WI w) (hm : fi w 96 1 = nI m) (hE : EX 96 w0 w) : sx_RP xs (d + 7) 87 38 [(0, .ref 0), (1, .int a1), (2, .int (nI n)), (3, .int 2)] [] w (fun r w2 => (r = some (.int (nI T)) ∧ fi w2 96 1 = nI T) ∧ WI w2 ∧ EX 96 w0 w2) := by
  refine sx_RP.step (pc2 := 39) (ls2 := [(0, .ref 0), (1, .int a1), (2, .int (nI n)), (3, .int 2)]) (st2 := [.int 2]) (w3 := w) rfl rfl ?_
  refine sx_RP.step (pc2 := 42) (ls2 := [(0, .ref 0), (1, .int a1), (2, .int (nI n)), (3, .int 2)]) (st2 := []) (w3 := w) rfl rfl ?_
  refine sx_RP.step (pc2 := 43) (ls2 := [(0, .ref 0), (1, .int a1), (2, .int (nI n)), (3, .int 2)]) (st2 := [.ref 0]) (w3 := w) rfl rfl ?_
  refine sx_RP.gf (v := .ref 96) rfl rfl hI.1.o0 rfl rfl (show _ = 46 from rfl) ?_
  refine sx_RP.step (pc2 := 47) (ls2 := [(0, .ref 0), (1, .int a1), (2, .int (nI n)), (3, .int 2)]) (st2 := [.int a1, .ref 96]) (w3 := w) rfl rfl ?_
  refine sx_RP.step (pc2 := 49) (ls2 := [(0, .ref 0), (1, .int a1), (2, .int (nI n)), (3, .int 2)]) (st2 := [.int 8, .int a1, .ref 96]) (w3 := w) rfl rfl ?_
  refine sx_RP.step (pc2 := 50) (ls2 := [(0, .ref 0), (1, .int a1), (2, .int (nI n)), (3, .int 2)]) (st2 := [.int 2, .int 8, .int a1, .ref 96]) (w3 := w) rfl rfl ?_
  refine sx_RP.step (pc2 := 51) (ls2 := [(0, .ref 0), (1, .int a1), (2, .int (nI n)), (3, .int 2)]) (st2 := [.int 16, .int a1, .ref 96]) (w3 := w) rfl rfl ?_
  refine sx_RP.step (pc2 := 52) (ls2 := [(0, .ref 0), (1, .int a1), (2, .int (nI n)), (3, .int 2)]) (st2 := [.int (a1 >>> (16 &&& 31)), .ref 96]) (w3 := w) rfl rfl ?_
  refine sx_RP.step (pc2 := 53) (ls2 := [(0, .ref 0), (1, .int a1), (2, .int (nI n)), (3, .int 2)]) (st2 := [.int ((a1 >>> (16 &&& 31)).toInt8.toInt32), .ref 96]) (w3 := w) rfl rfl ?_
  refine sx_RP.callp (as2 := [.ref 96, .int ((a1 >>> (16 &&& 31)).toInt8.toInt32)]) (rest2 := []) rfl rfl (sx_inv_v2 (mi := 87) (k := 282) (st := [.int ((a1 >>> (16 &&& 31)).toInt8.toInt32), .ref 96]) (w := w) rfl rfl hI.1.o96 rfl rfl rfl) rfl rfl rfl (s89T hI hm (by omega) ((a1 >>> (16 &&& 31)).toInt8.toInt32)) (show _ = 56 from rfl) ?_
  rintro r4 w2 ⟨⟨rfl, ht1⟩, hI3, hE5⟩
  have hE4 := hE.tr (hE5)
  show sx_RP _ _ _ _ _ [] _ _
  refine sx_RP.step (pc2 := 59) (ls2 := [(3, .int 1), (0, .ref 0), (1, .int a1), (2, .int (nI n))]) (st2 := []) (w3 := w2) rfl rfl ?_
  refine sx_RP.step (pc2 := 38) (ls2 := [(3, .int 1), (0, .ref 0), (1, .int a1), (2, .int (nI n))]) (st2 := []) (w3 := w2) rfl rfl ?_
  exact sx_RP.ls (sx_lr.cons rfl (sx_lr.cons rfl (sx_lr.cons rfl (sx_lr.cons rfl sx_lr.nil)))) (s87T_1 (m := m + 1) (by omega) h120 hI3 ht1 hE4)
set_option maxRecDepth 20000 in
set_option maxHeartbeats 4000000 in
theorem s87T_3 {xs : Option (List Int32)} {d n m T : Nat} {a1 : Int32} {w w0 : List sx_C} (hT : m + 4 = T) (h120 : T ≤ 120) (hI : WI w) (hm : fi w 96 1 = nI m) (hE : EX 96 w0 w) : sx_RP xs (d + 7) 87 38 [(0, .ref 0), (1, .int a1), (2, .int (nI n)), (3, .int 3)] [] w (fun r w2 => (r = some (.int (nI T)) ∧ fi w2 96 1 = nI T) ∧ WI w2 ∧ EX 96 w0 w2) := by
  refine sx_RP.step (pc2 := 39) (ls2 := [(0, .ref 0), (1, .int a1), (2, .int (nI n)), (3, .int 3)]) (st2 := [.int 3]) (w3 := w) rfl rfl ?_
  refine sx_RP.step (pc2 := 42) (ls2 := [(0, .ref 0), (1, .int a1), (2, .int (nI n)), (3, .int 3)]) (st2 := []) (w3 := w) rfl rfl ?_
  refine sx_RP.step (pc2 := 43) (ls2 := [(0, .ref 0), (1, .int a1), (2, .int (nI n)), (3, .int 3)]) (st2 := [.ref 0]) (w3 := w) rfl rfl ?_
  refine sx_RP.gf (v := .ref 96) rfl rfl hI.1.o0 rfl rfl (show _ = 46 from rfl) ?_
  refine sx_RP.step (pc2 := 47) (ls2 := [(0, .ref 0), (1, .int a1), (2, .int (nI n)), (3, .int 3)]) (st2 := [.int a1, .ref 96]) (w3 := w) rfl rfl ?_
  refine sx_RP.step (pc2 := 49) (ls2 := [(0, .ref 0), (1, .int a1), (2, .int (nI n)), (3, .int 3)]) (st2 := [.int 8, .int a1, .ref 96]) (w3 := w) rfl rfl ?_
  refine sx_RP.step (pc2 := 50) (ls2 := [(0, .ref 0), (1, .int a1), (2, .int (nI n)), (3, .int 3)]) (st2 := [.int 3, .int 8, .int a1, .ref 96]) (w3 := w) rfl rfl ?_
  refine sx_RP.step (pc2 := 51) (ls2 := [(0, .ref 0), (1, .int a1), (2, .int (nI n)), (3, .int 3)]) (st2 := [.int 24, .int a1, .ref 96]) (w3 := w) rfl rfl ?_
  refine sx_RP.step (pc2 := 52) (ls2 := [(0, .ref 0), (1, .int a1), (2, .int (nI n)), (3, .int 3)]) (st2 := [.int (a1 >>> (24 &&& 31)), .ref 96]) (w3 := w) rfl rfl ?_
  refine sx_RP.step (pc2 := 53) (ls2 := [(0, .ref 0), (1, .int a1), (2, .int (nI n)), (3, .int 3)]) (st2 := [.int ((a1 >>> (24 &&& 31)).toInt8.toInt32), .ref 96]) (w3 := w) rfl rfl ?_
  refine sx_RP.callp (as2 := [.ref 96, .int ((a1 >>> (24 &&& 31)).toInt8.toInt32)]) (rest2 := []) rfl rfl (sx_inv_v2 (mi := 87) (k := 282) (st := [.int ((a1 >>> (24 &&& 31)).toInt8.toInt32), .ref 96]) (w := w) rfl rfl hI.1.o96 rfl rfl rfl) rfl rfl rfl (s89T hI hm (by omega) ((a1 >>> (24 &&& 31)).toInt8.toInt32)) (show _ = 56 from rfl) ?_
  rintro r4 w2 ⟨⟨rfl, ht1⟩, hI3, hE5⟩
  have hE4 := hE.tr (hE5)
  show sx_RP _ _ _ _ _ [] _ _
  refine sx_RP.step (pc2 := 59) (ls2 := [(3, .int 2), (0, .ref 0), (1, .int a1), (2, .int (nI n))]) (st2 := []) (w3 := w2) rfl rfl ?_
  refine sx_RP.step (pc2 := 38) (ls2 := [(3, .int 2), (0, .ref 0), (1, .int a1), (2, .int (nI n))]) (st2 := []) (w3 := w2) rfl rfl ?_
  exact sx_RP.ls (sx_lr.cons rfl (sx_lr.cons rfl (sx_lr.cons rfl (sx_lr.cons rfl sx_lr.nil)))) (s87T_2 (m := m + 1) (by omega) h120 hI3 ht1 hE4)
set_option maxRecDepth 20000 in
set_option maxHeartbeats 4000000 in
theorem s87T {xs : Option (List Int32)} {d n : Nat} {w : List sx_C} (hI : WI w) (hn : fi w 96 1 = nI n) (h120 : n ≤ 120) (a1 a2 : Int32) : sx_RP xs (d + 7) 87 0 (lv_args 0 [.ref 0, .int a1, .int a2]) [] w (fun r w2 => (r = some (.int (feedA n a2)) ∧ fi w2 96 1 = nI (feedL n a2)) ∧ WI w2 ∧ EX 96 w w2) := by
  have hE : EX 96 w w := EX.rf
  refine sx_RP.step (pc2 := 1) (ls2 := [(0, .ref 0), (1, .int a1), (2, .int a2)]) (st2 := [.int a2]) (w3 := w) rfl rfl ?_
  refine sx_RP.step (pc2 := 2) (ls2 := [(0, .ref 0), (1, .int a1), (2, .int a2)]) (st2 := [.int 1, .int a2]) (w3 := w) rfl rfl ?_
  refine sx_RP.step (pc2 := 3) (ls2 := [(0, .ref 0), (1, .int a1), (2, .int a2)]) (st2 := [.int 4, .int 1, .int a2]) (w3 := w) rfl rfl ?_
  rcases in_cases a2 1 4 (m := 1) (n := 4) rfl rfl (by decide) (by decide) with q1 | ⟨x2, hx3, hx4, rfl⟩
  · refine sx_RP.cu (as := [.int a2, .int 1, .int 4]) (rest2 := []) (st3 := [.int 0]) rfl rfl rfl rfl rfl (cx_8n q1) rfl ?_
    refine sx_RP.step (pc2 := 9) (ls2 := [(0, .ref 0), (1, .int a1), (2, .int a2)]) (st2 := []) (w3 := w) rfl rfl ?_
    refine sx_RP.step (pc2 := 10) (ls2 := [(0, .ref 0), (1, .int a1), (2, .int a2)]) (st2 := [.ref 0]) (w3 := w) rfl rfl ?_
    refine sx_RP.step (pc2 := 12) (ls2 := [(0, .ref 0), (1, .int a1), (2, .int a2)]) (st2 := [.int (-1000000001), .ref 0]) (w3 := w) rfl rfl ?_
    refine sx_RP.callp (as2 := [.ref 0, .int (-1000000001)]) (rest2 := []) rfl rfl (sx_inv_v2 (mi := 87) (k := 78) (st := [.int (-1000000001), .ref 0]) (w := w) rfl rfl hI.1.o0 rfl rfl rfl) rfl rfl rfl (s9_0 hI) (show _ = 15 from rfl) ?_
    rintro r4 w6 ⟨rfl, hI7, hE9⟩
    have hE8 := hE.tr (hE9.ex)
    show sx_RP _ _ _ _ _ [.int (-1000000001)] _ _
    refine sx_RP.ret (r := (some (.int (-1000000001)))) rfl rfl ?_
    exact ⟨⟨by rw [(feed_n q1).1], by rw [(feed_n q1).2]; exact (keep96 hI hI7 ((hE9 96).1 (by decide))).trans hn⟩, hI7, hE8⟩
  · refine sx_RP.cu (as := [.int (nI x2), .int 1, .int 4]) (rest2 := []) (st3 := [.int 1]) rfl rfl rfl rfl rfl (cx_8p ⟨nI_le (a := 1) hx3 (by omega), nI_le (b := 4) hx4 (by decide)⟩) rfl ?_
    refine sx_RP.step (pc2 := 16) (ls2 := [(0, .ref 0), (1, .int a1), (2, .int (nI x2))]) (st2 := []) (w3 := w) rfl rfl ?_
    refine sx_RP.step (pc2 := 17) (ls2 := [(0, .ref 0), (1, .int a1), (2, .int (nI x2))]) (st2 := [.ref 0]) (w3 := w) rfl rfl ?_
    refine sx_RP.gf (v := .ref 96) rfl rfl hI.1.o0 rfl rfl (show _ = 20 from rfl) ?_
    refine sx_RP.step (pc2 := 21) (ls2 := [(0, .ref 0), (1, .int a1), (2, .int (nI x2))]) (st2 := [.int (nI x2), .ref 96]) (w3 := w) rfl rfl ?_
    rcases Decidable.em (n + x2 ≤ 120) with c10 | c10
    · refine sx_RP.cu (as := [.ref 96, .int (nI x2)]) (rest2 := []) (st3 := [.int 1]) rfl rfl (sx_inv_v2 (mi := 87) (k := 279) (st := [.int (nI x2), .ref 96]) (w := w) rfl rfl hI.1.o96 rfl rfl rfl) rfl rfl (p88y hI hn h120 (by omega) c10) rfl ?_
      refine sx_RP.step (pc2 := 34) (ls2 := [(0, .ref 0), (1, .int a1), (2, .int (nI x2))]) (st2 := []) (w3 := w) rfl rfl ?_
      refine sx_RP.step (pc2 := 35) (ls2 := [(0, .ref 0), (1, .int a1), (2, .int (nI x2))]) (st2 := [.int (nI x2)]) (w3 := w) rfl rfl ?_
      refine sx_RP.step (pc2 := 36) (ls2 := [(0, .ref 0), (1, .int a1), (2, .int (nI x2))]) (st2 := [.int 1, .int (nI x2)]) (w3 := w) rfl rfl ?_
      refine sx_RP.step (pc2 := 37) (ls2 := [(0, .ref 0), (1, .int a1), (2, .int (nI x2))]) (st2 := [.int ((nI x2) - 1)]) (w3 := w) rfl rfl ?_
      refine sx_RP.step (pc2 := 38) (ls2 := [(3, .int ((nI x2) - 1)), (0, .ref 0), (1, .int a1), (2, .int (nI x2))]) (st2 := []) (w3 := w) rfl rfl ?_
      rw [(feed_y (n := n) (x := x2) (by omega) (by omega) c10).1, (feed_y (n := n) (x := x2) (by omega) (by omega) c10).2]
      rcases (show x2 = 1 ∨ x2 = 2 ∨ x2 = 3 ∨ x2 = 4 by omega) with rfl | rfl | rfl | rfl
      · exact sx_RP.ls (sx_lr.cons rfl (sx_lr.cons rfl (sx_lr.cons rfl (sx_lr.cons rfl sx_lr.nil)))) (s87T_0 rfl (by omega) hI hn hE)
      · exact sx_RP.ls (sx_lr.cons rfl (sx_lr.cons rfl (sx_lr.cons rfl (sx_lr.cons rfl sx_lr.nil)))) (s87T_1 rfl (by omega) hI hn hE)
      · exact sx_RP.ls (sx_lr.cons rfl (sx_lr.cons rfl (sx_lr.cons rfl (sx_lr.cons rfl sx_lr.nil)))) (s87T_2 rfl (by omega) hI hn hE)
      · exact sx_RP.ls (sx_lr.cons rfl (sx_lr.cons rfl (sx_lr.cons rfl (sx_lr.cons rfl sx_lr.nil)))) (s87T_3 rfl (by omega) hI hn hE)
    · refine sx_RP.cu (as := [.ref 96, .int (nI x2)]) (rest2 := []) (st3 := [.int 0]) rfl rfl (sx_inv_v2 (mi := 87) (k := 279) (st := [.int (nI x2), .ref 96]) (w := w) rfl rfl hI.1.o96 rfl rfl rfl) rfl rfl (p88n hI hn h120 (by omega) c10) rfl ?_
      refine sx_RP.step (pc2 := 27) (ls2 := [(0, .ref 0), (1, .int a1), (2, .int (nI x2))]) (st2 := []) (w3 := w) rfl rfl ?_
      refine sx_RP.step (pc2 := 28) (ls2 := [(0, .ref 0), (1, .int a1), (2, .int (nI x2))]) (st2 := [.ref 0]) (w3 := w) rfl rfl ?_
      refine sx_RP.step (pc2 := 30) (ls2 := [(0, .ref 0), (1, .int a1), (2, .int (nI x2))]) (st2 := [.int (-1000000002), .ref 0]) (w3 := w) rfl rfl ?_
      refine sx_RP.callp (as2 := [.ref 0, .int (-1000000002)]) (rest2 := []) rfl rfl (sx_inv_v2 (mi := 87) (k := 78) (st := [.int (-1000000002), .ref 0]) (w := w) rfl rfl hI.1.o0 rfl rfl rfl) rfl rfl rfl (s9_1 hI) (show _ = 33 from rfl) ?_
      rintro r4 w11 ⟨rfl, hI12, hE14⟩
      have hE13 := hE.tr (hE14.ex)
      show sx_RP _ _ _ _ _ [.int (-1000000002)] _ _
      refine sx_RP.ret (r := (some (.int (-1000000002)))) rfl rfl ?_
      exact ⟨⟨by rw [(feed_f (x := x2) (by omega) (by omega) c10).1], by rw [(feed_f (x := x2) (by omega) (by omega) c10).2]; exact (keep96 hI hI12 ((hE14 96).1 (by decide))).trans hn⟩, hI12, hE13⟩
set_option maxRecDepth 20000 in
set_option maxHeartbeats 4000000 in
theorem s208LT {xs : Option (List Int32)} {d : Nat} {w0 : List sx_C} (x : Int32) : ∀ (kz t T : Nat) (w : List sx_C), t + kz = T → T ≤ 120 → fi w 111 11 = nI t → WI w → EF w0 w → sx_RP xs (d + 7) 208 36 [(0, .ref 111), (1, .int x), (3, .int (nI kz - 1))] [] w (fun r w2 => (r = some (.int (nI T)) ∧ fi w2 111 11 = nI T) ∧ WI w2 ∧ EF w0 w2)
  | 0, t, T, w, ht, h120, et, hI, hE => by
    rw [show nI 0 - 1 = -1 from rfl]
    refine sx_RP.step (pc2 := 37) (ls2 := [(0, .ref 111), (1, .int x), (3, .int (-1))]) (st2 := [.int (-1)]) (w3 := w) rfl rfl ?_
    refine sx_RP.step (pc2 := 75) (ls2 := [(0, .ref 111), (1, .int x), (3, .int (-1))]) (st2 := []) (w3 := w) rfl rfl ?_
    refine sx_RP.step (pc2 := 76) (ls2 := [(0, .ref 111), (1, .int x), (3, .int (-1))]) (st2 := [.ref 111]) (w3 := w) rfl rfl ?_
    refine sx_RP.gf (v := .int (fi w 111 11)) rfl rfl hI.1.o111 rfl rfl (show _ = 79 from rfl) ?_
    rw [et]
    refine sx_RP.ret (r := (some (.int (nI t)))) rfl rfl ?_
    exact ⟨⟨by rw [show t = T by omega], by rw [et, show t = T by omega]⟩, hI, hE⟩
  | kz + 1, t, T, w, ht, h120, et, hI, hE => by
    rw [show nI (kz + 1) - 1 = nI kz from fd_s1]
    refine sx_RP.step (pc2 := 37) (ls2 := [(0, .ref 111), (1, .int x), (3, .int (nI kz))]) (st2 := [.int (nI kz)]) (w3 := w) rfl rfl ?_
    refine sx_RP.br (p2 := 40) (l2 := [(0, .ref 111), (1, .int x), (3, .int (nI kz))]) (s2 := []) (v2 := w) rfl rfl (fun q => absurd (of_decide_eq_true q) (nI_pos (by omega))) (fun _ => ?_)
    refine sx_RP.step (pc2 := 41) (ls2 := [(0, .ref 111), (1, .int x), (3, .int (nI kz))]) (st2 := [.ref 111]) (w3 := w) rfl rfl ?_
    refine sx_RP.gf (v := .ref 121) rfl rfl hI.1.o111 rfl rfl (show _ = 44 from rfl) ?_
    refine sx_RP.step (pc2 := 45) (ls2 := [(0, .ref 111), (1, .int x), (3, .int (nI kz))]) (st2 := [.ref 111, .ref 121]) (w3 := w) rfl rfl ?_
    refine sx_RP.gf (v := .int (fi w 111 11)) rfl rfl hI.1.o111 rfl rfl (show _ = 48 from rfl) ?_
    rw [et]
    refine sx_RP.step (pc2 := 49) (ls2 := [(0, .ref 111), (1, .int x), (3, .int (nI kz))]) (st2 := [.int x, .int (nI t), .ref 121]) (w3 := w) rfl rfl ?_
    refine sx_RP.step (pc2 := 51) (ls2 := [(0, .ref 111), (1, .int x), (3, .int (nI kz))]) (st2 := [.int 8, .int x, .int (nI t), .ref 121]) (w3 := w) rfl rfl ?_
    refine sx_RP.step (pc2 := 52) (ls2 := [(0, .ref 111), (1, .int x), (3, .int (nI kz))]) (st2 := [.int (nI kz), .int 8, .int x, .int (nI t), .ref 121]) (w3 := w) rfl rfl ?_
    refine sx_RP.step (pc2 := 53) (ls2 := [(0, .ref 111), (1, .int x), (3, .int (nI kz))]) (st2 := [.int (8 * (nI kz)), .int x, .int (nI t), .ref 121]) (w3 := w) rfl rfl ?_
    rw [show (8 * (nI kz) : Int32) = nI (8 * kz) from nI_mul 8 kz]
    refine sx_RP.step (pc2 := 54) (ls2 := [(0, .ref 111), (1, .int x), (3, .int (nI kz))]) (st2 := [.int (x >>> ((nI (8 * kz)) &&& 31)), .int (nI t), .ref 121]) (w3 := w) rfl rfl ?_
    refine sx_RP.step (pc2 := 57) (ls2 := [(0, .ref 111), (1, .int x), (3, .int (nI kz))]) (st2 := [.int 255, .int (x >>> ((nI (8 * kz)) &&& 31)), .int (nI t), .ref 121]) (w3 := w) rfl rfl ?_
    refine sx_RP.step (pc2 := 58) (ls2 := [(0, .ref 111), (1, .int x), (3, .int (nI kz))]) (st2 := [.int ((x >>> ((nI (8 * kz)) &&& 31)) &&& 255), .int (nI t), .ref 121]) (w3 := w) rfl rfl ?_
    refine sx_RP.mFT hI hE rfl hI.1.a121 (sx_in_nI (show t < 120 by omega) (by decide)) (show _ = 59 from rfl) (fun w1 hI2 hE3 ht4 => ?_)
    have ex5 := ht4.trans et
    refine sx_RP.step (pc2 := 60) (ls2 := [(0, .ref 111), (1, .int x), (3, .int (nI kz))]) (st2 := [.ref 111]) (w3 := w1) rfl rfl ?_
    refine sx_RP.step (pc2 := 61) (ls2 := [(0, .ref 111), (1, .int x), (3, .int (nI kz))]) (st2 := [.ref 111, .ref 111]) (w3 := w1) rfl rfl ?_
    refine sx_RP.gf (v := .int (fi w1 111 11)) rfl rfl hI2.1.o111 rfl rfl (show _ = 64 from rfl) ?_
    rw [ex5]
    refine sx_RP.step (pc2 := 65) (ls2 := [(0, .ref 111), (1, .int x), (3, .int (nI kz))]) (st2 := [.int 1, .int (nI t), .ref 111]) (w3 := w1) rfl rfl ?_
    refine sx_RP.step (pc2 := 66) (ls2 := [(0, .ref 111), (1, .int x), (3, .int (nI kz))]) (st2 := [.int ((nI t) + 1), .ref 111]) (w3 := w1) rfl rfl ?_
    rw [show ((nI t) + 1 : Int32) = nI (t + 1) from nI_add t 1]
    refine sx_RP.pmtF hI2 hE3 rfl rfl rfl ⟨(t + 1), by omega, rfl⟩ (show _ = 69 from rfl) (fun w6 hI7 hE8 ht9 => ?_)
    refine sx_RP.step (pc2 := 72) (ls2 := [(3, .int ((nI kz) + (-1))), (0, .ref 111), (1, .int x)]) (st2 := []) (w3 := w6) rfl rfl ?_
    refine sx_RP.step (pc2 := 36) (ls2 := [(3, .int ((nI kz) + (-1))), (0, .ref 111), (1, .int x)]) (st2 := []) (w3 := w6) rfl rfl ?_
    rw [fd_m1]
    exact sx_RP.ls (sx_lr.cons rfl (sx_lr.cons rfl (sx_lr.cons rfl sx_lr.nil))) (s208LT x kz (t + 1) T w6 (by omega) h120 ht9 hI7 hE8)
set_option maxRecDepth 20000 in
set_option maxHeartbeats 4000000 in
theorem s208T {xs : Option (List Int32)} {d n : Nat} {w : List sx_C} (hI : WI w) (hn : fi w 111 11 = nI n) (h120 : n ≤ 120) (a1 a2 : Int32) : sx_RP xs (d + 7) 208 0 (lv_args 0 [.ref 111, .int a1, .int a2]) [] w (fun r w2 => (r = some (.int (feedA n a2)) ∧ fi w2 111 11 = nI (feedL n a2)) ∧ WI w2 ∧ EF w w2) := by
  have hE : EF w w := EF.rf
  refine sx_RP.step (pc2 := 1) (ls2 := [(0, .ref 111), (1, .int a1), (2, .int a2)]) (st2 := [.int a2]) (w3 := w) rfl rfl ?_
  refine sx_RP.step (pc2 := 2) (ls2 := [(0, .ref 111), (1, .int a1), (2, .int a2)]) (st2 := [.int 1, .int a2]) (w3 := w) rfl rfl ?_
  refine sx_RP.step (pc2 := 3) (ls2 := [(0, .ref 111), (1, .int a1), (2, .int a2)]) (st2 := [.int 4, .int 1, .int a2]) (w3 := w) rfl rfl ?_
  rcases in_cases a2 1 4 (m := 1) (n := 4) rfl rfl (by decide) (by decide) with q1 | ⟨x2, hx3, hx4, rfl⟩
  · refine sx_RP.cu (as := [.int a2, .int 1, .int 4]) (rest2 := []) (st3 := [.int 0]) rfl rfl rfl rfl rfl (cx_132o q1) rfl ?_
    refine sx_RP.step (pc2 := 9) (ls2 := [(0, .ref 111), (1, .int a1), (2, .int a2)]) (st2 := []) (w3 := w) rfl rfl ?_
    refine sx_RP.step (pc2 := 10) (ls2 := [(0, .ref 111), (1, .int a1), (2, .int a2)]) (st2 := [.ref 111]) (w3 := w) rfl rfl ?_
    refine sx_RP.step (pc2 := 11) (ls2 := [(0, .ref 111), (1, .int a1), (2, .int a2)]) (st2 := [.int 0, .ref 111]) (w3 := w) rfl rfl ?_
    refine sx_RP.callp (as2 := [.ref 111, .int 0]) (rest2 := []) rfl rfl (sx_inv_v2 (mi := 208) (k := 70) (st := [.int 0, .ref 111]) (w := w) rfl rfl hI.1.o111 rfl rfl rfl) rfl rfl rfl (s133_0 hI) (show _ = 14 from rfl) ?_
    rintro r4 w6 ⟨rfl, hI7, hE9⟩
    have hE8 := hE.tr (hE9.ef hI hI7)
    show sx_RP _ _ _ _ _ [.int (-1000000001)] _ _
    refine sx_RP.ret (r := (some (.int (-1000000001)))) rfl rfl ?_
    exact ⟨⟨by rw [(feed_n q1).1], by rw [(feed_n q1).2]; exact ((keep111 hI hI7 ((hE9 111).2 (by decide))).2).trans hn⟩, hI7, hE8⟩
  · refine sx_RP.cu (as := [.int (nI x2), .int 1, .int 4]) (rest2 := []) (st3 := [.int 1]) rfl rfl rfl rfl rfl (cx_132p ⟨nI_le (a := 1) hx3 (by omega), nI_le (b := 4) hx4 (by decide)⟩) rfl ?_
    refine sx_RP.step (pc2 := 15) (ls2 := [(0, .ref 111), (1, .int a1), (2, .int (nI x2))]) (st2 := []) (w3 := w) rfl rfl ?_
    refine sx_RP.step (pc2 := 16) (ls2 := [(0, .ref 111), (1, .int a1), (2, .int (nI x2))]) (st2 := [.ref 111]) (w3 := w) rfl rfl ?_
    refine sx_RP.gf (v := .int (fi w 111 11)) rfl rfl hI.1.o111 rfl rfl (show _ = 19 from rfl) ?_
    rw [hn]
    refine sx_RP.step (pc2 := 20) (ls2 := [(0, .ref 111), (1, .int a1), (2, .int (nI x2))]) (st2 := [.int (nI x2), .int (nI n)]) (w3 := w) rfl rfl ?_
    refine sx_RP.step (pc2 := 21) (ls2 := [(0, .ref 111), (1, .int a1), (2, .int (nI x2))]) (st2 := [.int ((nI n) + (nI x2))]) (w3 := w) rfl rfl ?_
    rw [show ((nI n) + (nI x2) : Int32) = nI (n + x2) from nI_add n x2]
    refine sx_RP.step (pc2 := 23) (ls2 := [(0, .ref 111), (1, .int a1), (2, .int (nI x2))]) (st2 := [.int 120, .int (nI (n + x2))]) (w3 := w) rfl rfl ?_
    refine sx_RP.br (p1 := 32) (l1 := [(0, .ref 111), (1, .int a1), (2, .int (nI x2))]) (s1 := []) (v1 := w) (p2 := 26) (l2 := [(0, .ref 111), (1, .int a1), (2, .int (nI x2))]) (s2 := []) (v2 := w) rfl rfl (fun q10 => ?_) (fun q10 => ?_)
    · replace q10 := of_decide_eq_true q10
      replace q10 := (nI_leI (a := (n + x2)) (b := 120) (by omega) (by omega)).mp q10
      refine sx_RP.step (pc2 := 33) (ls2 := [(0, .ref 111), (1, .int a1), (2, .int (nI x2))]) (st2 := [.int (nI x2)]) (w3 := w) rfl rfl ?_
      refine sx_RP.step (pc2 := 34) (ls2 := [(0, .ref 111), (1, .int a1), (2, .int (nI x2))]) (st2 := [.int 1, .int (nI x2)]) (w3 := w) rfl rfl ?_
      refine sx_RP.step (pc2 := 35) (ls2 := [(0, .ref 111), (1, .int a1), (2, .int (nI x2))]) (st2 := [.int ((nI x2) - 1)]) (w3 := w) rfl rfl ?_
      refine sx_RP.step (pc2 := 36) (ls2 := [(3, .int ((nI x2) - 1)), (0, .ref 111), (1, .int a1), (2, .int (nI x2))]) (st2 := []) (w3 := w) rfl rfl ?_
      rw [(feed_y (n := n) (x := x2) (by omega) (by omega) q10).1, (feed_y (n := n) (x := x2) (by omega) (by omega) q10).2]
      exact sx_RP.ls (sx_lr.cons rfl (sx_lr.cons rfl (sx_lr.cons rfl sx_lr.nil))) (s208LT a1 x2 n (n + x2) w rfl q10 hn hI hE)
    · replace q10 := of_decide_eq_false q10
      replace q10 := mt (nI_leI (a := (n + x2)) (b := 120) (by omega) (by omega)).mpr q10
      refine sx_RP.step (pc2 := 27) (ls2 := [(0, .ref 111), (1, .int a1), (2, .int (nI x2))]) (st2 := [.ref 111]) (w3 := w) rfl rfl ?_
      refine sx_RP.step (pc2 := 28) (ls2 := [(0, .ref 111), (1, .int a1), (2, .int (nI x2))]) (st2 := [.int 1, .ref 111]) (w3 := w) rfl rfl ?_
      refine sx_RP.callp (as2 := [.ref 111, .int 1]) (rest2 := []) rfl rfl (sx_inv_v2 (mi := 208) (k := 70) (st := [.int 1, .ref 111]) (w := w) rfl rfl hI.1.o111 rfl rfl rfl) rfl rfl rfl (s133_1 hI) (show _ = 31 from rfl) ?_
      rintro r4 w11 ⟨rfl, hI12, hE14⟩
      have hE13 := hE.tr (hE14.ef hI hI12)
      show sx_RP _ _ _ _ _ [.int (-1000000002)] _ _
      refine sx_RP.ret (r := (some (.int (-1000000002)))) rfl rfl ?_
      exact ⟨⟨by rw [(feed_f (x := x2) (by omega) (by omega) q10).1], by rw [(feed_f (x := x2) (by omega) (by omega) q10).2]; exact ((keep111 hI hI12 ((hE14 111).2 (by decide))).2).trans hn⟩, hI12, hE13⟩
/-- as EF, and the tape's length -/
def EFT (w w2 : List sx_C) : Prop := EF w w2 ∧ fi w2 111 11 = fi w 111 11
theorem EFT.rf {w : List sx_C} : EFT w w := ⟨EF.rf, rfl⟩
theorem EFT.tr {w w1 w2 : List sx_C} (h : EFT w w1) (h2 : EFT w1 w2) : EFT w w2 := ⟨h.1.tr h2.1, h2.2.trans h.2⟩
theorem EM.eft {w w2 : List sx_C} (h : EM w w2) (hI : WI w) (hI2 : WI w2) : EFT w w2 := ⟨h.ef hI hI2, (keep111 hI hI2 ((h 111).2 (by decide))).2⟩
theorem EFT.set {w0 w : List sx_C} {a : Nat} {c : sx_C} (h : EFT w0 w) (ha : 112 ≤ a) : EFT w0 (w.set a c) := h.tr ⟨EF.rf.set ha, fi_ne (by omega)⟩
section SXEFT
variable {xs : Option (List Int32)} {d mi pc pc2 idx p : Nat} {ls : sx_L} {r : List Value} {w w0 : List sx_C} {P : Option Value → List sx_C → Prop}
theorem sx_RP.mFFt {a : Nat} {i x : Int32} {n : Nat} (hI : WI w) (hE : EFT w0 w) (hi : sx_ins mi pc = some (.iastore, 1)) (hw : w[a]? = some (.inl (0, ia w a)) ∧ (ia w a).length = n) (hn : sx_in i n = true) (hf : a = 116 ∨ a = 117 ∨ a = 119 ∨ a = 121 ∨ a = 122) (hp : pc + 1 = pc2) (kk : ∀ w2, WI w2 → EFT w0 w2 → (∀ j, (ia w2 112).getD j 0 = (ia w 112).getD j 0) → sx_RP xs d mi pc2 ls r w2 P) : sx_RP xs d mi pc ls (.int x :: .int i :: .ref a :: r) w P :=
  sx_RP.ist hi hw.1 hw.2 hn rfl rfl hp (kk _ (hI.set hw.1 sh_set (cOK.free (by omega))) (hE.set (by omega)) (fun j => by rw [ia_ne (by omega)]))
theorem sx_RP.mSzt {k : Nat} {x : Int32} (hI : WI w) (hE : EFT w0 w) (hi : sx_ins mi pc = some (.iastore, 1)) (hk : k < 4) (hx : inR x 40) (hp : pc + 1 = pc2) (kk : ∀ w2, WI w2 → EFT w0 w2 → sx_RP xs d mi pc2 ls r w2 P) : sx_RP xs d mi pc ls (.int x :: .int (nI k) :: .ref 123 :: r) w P := by
  have hw := hI.1.a123
  refine sx_RP.ist hi hw.1 hw.2 (sx_in_nI hk (by decide)) rfl rfl hp (kk _ (hI.set hw.1 sh_set (cOK.l (fun j hj => ?_))) (hE.set (by omega)))
  rw [nI_clamp (by omega)]
  show inR (((ia w 123).set k x).getD j 0) 40
  rw [gd_set (by rw [hw.2]; exact hk)]
  split
  · exact hx
  · exact hI.l hj
theorem sx_RP.mNFt {a : Nat} {i : Int32} {x : Int64} {n : Nat} (hI : WI w) (hE : EFT w0 w) (hi : sx_ins mi pc = some (.lastore, 1)) (hw : w[a]? = some (.inr (.inl (3, ja w a))) ∧ (ja w a).length = n) (hn : sx_in i n = true) (hf : a = 124 ∨ a = 125) (hp : pc + 1 = pc2) (kk : ∀ w2, WI w2 → EFT w0 w2 → (∀ j, (ia w2 112).getD j 0 = (ia w 112).getD j 0) → sx_RP xs d mi pc2 ls r w2 P) : sx_RP xs d mi pc ls (.long x :: .int i :: .ref a :: r) w P :=
  sx_RP.mN hI EM.rf hi hw hn hf hp (fun w2 h1 h2 h3 => kk w2 h1 (hE.tr (h2.eft hI h1)) h3)
end SXEFT
set_option maxRecDepth 20000 in
set_option maxHeartbeats 4000000 in
theorem s230tB {xs : Option (List Int32)} {d : Nat} {w w0 : List sx_C} {k : Nat} (hk : k < 4) (hI : WI w) (hE : EFT w0 w) {j : Nat} (hj : j ≤ 40) (kk : ∀ (w4 : List sx_C), WI w4 → EFT w0 w4 → j + 1 ≤ 40 → sx_RP xs (d + 7) 230 83 [(0, .ref 111), (1, .int (nI k)), (4, .int (nI (j + 1)))] [] w4 (fun r w2 => (∃ v : Int32, r = some (.int v)) ∧ WI w2 ∧ EFT w0 w2)) : sx_RP xs (d + 7) 230 83 [(0, .ref 111), (1, .int (nI k)), (4, .int (nI j))] [] w (fun r w2 => (∃ v : Int32, r = some (.int v)) ∧ WI w2 ∧ EFT w0 w2) := by
  refine sx_RP.step (pc2 := 85) (ls2 := [(0, .ref 111), (1, .int (nI k)), (4, .int (nI j))]) (st2 := [.int (nI j)]) (w3 := w) rfl rfl ?_
  refine sx_RP.step (pc2 := 87) (ls2 := [(0, .ref 111), (1, .int (nI k)), (4, .int (nI j))]) (st2 := [.int 40, .int (nI j)]) (w3 := w) rfl rfl ?_
  refine sx_RP.br (p1 := 109) (l1 := [(0, .ref 111), (1, .int (nI k)), (4, .int (nI j))]) (s1 := []) (v1 := w) (p2 := 90) (l2 := [(0, .ref 111), (1, .int (nI k)), (4, .int (nI j))]) (s2 := []) (v2 := w) rfl rfl (fun q1 => ?_) (fun q1 => ?_)
  · replace q1 := of_decide_eq_true q1
    replace q1 := (nI_leI (a := 40) (b := j) (by omega) (by omega)).mp q1
    refine sx_RP.step (pc2 := 110) (ls2 := [(0, .ref 111), (1, .int (nI k)), (4, .int (nI j))]) (st2 := [.ref 111]) (w3 := w) rfl rfl ?_
    refine sx_RP.gf (v := .ref 123) rfl rfl hI.1.o111 rfl rfl (show _ = 113 from rfl) ?_
    refine sx_RP.step (pc2 := 114) (ls2 := [(0, .ref 111), (1, .int (nI k)), (4, .int (nI j))]) (st2 := [.int (nI k), .ref 123]) (w3 := w) rfl rfl ?_
    refine sx_RP.ild (c := k) rfl hI.1.a123.1 hI.1.a123.2 (sx_in_nI (show k < 4 by omega) (by decide)) (show (nI k).toNatClampNeg = k from nI_clamp (by omega)) (show _ = 115 from rfl) ?_
    obtain ⟨x2, hx3, ex4⟩ : inR ((ia w 123).getD k 0) 40 := hI.l (show k < 4 by omega)
    rw [ex4]
    refine sx_RP.ret (r := (some (.int (nI x2)))) rfl rfl ?_
    exact ⟨⟨_, rfl⟩, hI, hE⟩
  · replace q1 := of_decide_eq_false q1
    replace q1 := mt (nI_leI (a := 40) (b := j) (by omega) (by omega)).mpr q1
    refine sx_RP.step (pc2 := 91) (ls2 := [(0, .ref 111), (1, .int (nI k)), (4, .int (nI j))]) (st2 := [.ref 111]) (w3 := w) rfl rfl ?_
    refine sx_RP.gf (v := .ref 124) rfl rfl hI.1.o111 rfl rfl (show _ = 94 from rfl) ?_
    refine sx_RP.step (pc2 := 96) (ls2 := [(0, .ref 111), (1, .int (nI k)), (4, .int (nI j))]) (st2 := [.int 40, .ref 124]) (w3 := w) rfl rfl ?_
    refine sx_RP.step (pc2 := 97) (ls2 := [(0, .ref 111), (1, .int (nI k)), (4, .int (nI j))]) (st2 := [.int (nI k), .int 40, .ref 124]) (w3 := w) rfl rfl ?_
    refine sx_RP.step (pc2 := 98) (ls2 := [(0, .ref 111), (1, .int (nI k)), (4, .int (nI j))]) (st2 := [.int (40 * (nI k)), .ref 124]) (w3 := w) rfl rfl ?_
    rw [show (40 * (nI k) : Int32) = nI (40 * k) from nI_mul 40 k]
    refine sx_RP.step (pc2 := 100) (ls2 := [(0, .ref 111), (1, .int (nI k)), (4, .int (nI j))]) (st2 := [.int (nI j), .int (nI (40 * k)), .ref 124]) (w3 := w) rfl rfl ?_
    refine sx_RP.step (pc2 := 101) (ls2 := [(0, .ref 111), (1, .int (nI k)), (4, .int (nI j))]) (st2 := [.int ((nI (40 * k)) + (nI j)), .ref 124]) (w3 := w) rfl rfl ?_
    rw [show ((nI (40 * k)) + (nI j) : Int32) = nI ((40 * k) + j) from nI_add (40 * k) j]
    refine sx_RP.step (pc2 := 102) (ls2 := [(0, .ref 111), (1, .int (nI k)), (4, .int (nI j))]) (st2 := [.long 0, .int (nI ((40 * k) + j)), .ref 124]) (w3 := w) rfl rfl ?_
    refine sx_RP.mNFt hI hE rfl hI.1.a124 (sx_in_nI (show ((40 * k) + j) < 160 by omega) (by decide)) (by decide) (show _ = 103 from rfl) (fun w5 hI6 hE7 hk8 => ?_)
    refine sx_RP.step (pc2 := 106) (ls2 := [(4, .int ((nI j) + 1)), (0, .ref 111), (1, .int (nI k))]) (st2 := []) (w3 := w5) rfl rfl ?_
    rw [nI_1 j]
    refine sx_RP.step (pc2 := 83) (ls2 := [(4, .int (nI (j + 1))), (0, .ref 111), (1, .int (nI k))]) (st2 := []) (w3 := w5) rfl rfl ?_
    exact sx_RP.ls (sx_lr.cons rfl (sx_lr.cons rfl (sx_lr.cons rfl sx_lr.nil))) (kk w5 hI6 hE7 (by omega))
set_option maxRecDepth 20000 in
set_option maxHeartbeats 4000000 in
theorem s230tL {xs : Option (List Int32)} {d : Nat} {w0 : List sx_C} {k : Nat} (hk : k < 4) : ∀ (fz j : Nat) (w : List sx_C) , 40 ≤ j + fz * 1 → j ≤ 40 → WI w → EFT w0 w → sx_RP xs (d + 7) 230 83 [(0, .ref 111), (1, .int (nI k)), (4, .int (nI j))] [] w (fun r w2 => (∃ v : Int32, r = some (.int v)) ∧ WI w2 ∧ EFT w0 w2)
  | 0, j, w, h, hj, hI, hE => s230tB hk hI hE hj   (fun w4  hI4 hE4 hlt  => absurd hlt (by omega)) 
  | fz + 1, j, w, h, hj, hI, hE => s230tB hk hI hE hj   (fun w4  hI4 hE4 hlt  => s230tL hk  fz (j + 1) w4  (by omega) hlt hI4 hE4 ) 
set_option maxRecDepth 20000 in
set_option maxHeartbeats 4000000 in
theorem s230t {xs : Option (List Int32)} {d : Nat} {w : List sx_C} (hI : WI w) (a1 a2 a3 : Int32) : sx_RP xs (d + 7) 230 0 (lv_args 0 [.ref 111, .int a1, .int a2, .int a3]) [] w (fun r w2 => (∃ v : Int32, r = some (.int v)) ∧ WI w2 ∧ EFT w w2) := by
  have hE : EFT w w := EFT.rf
  refine sx_RP.step (pc2 := 1) (ls2 := [(0, .ref 111), (1, .int a1), (2, .int a2), (3, .int a3)]) (st2 := [.int a1]) (w3 := w) rfl rfl ?_
  rcases in_cases a1 0 3 (m := 0) (n := 3) rfl rfl (by decide) (by decide) with q1 | ⟨x2, hx3, hx4, rfl⟩
  · refine sx_RP.cu (as := [.int a1]) (rest2 := []) (st3 := [.int 0]) rfl rfl rfl rfl rfl (cx_231n q1) rfl ?_
    refine sx_RP.step (pc2 := 29) (ls2 := [(0, .ref 111), (1, .int a1), (2, .int a2), (3, .int a3)]) (st2 := []) (w3 := w) rfl rfl ?_
    refine sx_RP.step (pc2 := 30) (ls2 := [(0, .ref 111), (1, .int a1), (2, .int a2), (3, .int a3)]) (st2 := [.ref 111]) (w3 := w) rfl rfl ?_
    refine sx_RP.step (pc2 := 31) (ls2 := [(0, .ref 111), (1, .int a1), (2, .int a2), (3, .int a3)]) (st2 := [.int 0, .ref 111]) (w3 := w) rfl rfl ?_
    refine sx_RP.callp (as2 := [.ref 111, .int 0]) (rest2 := []) rfl rfl (sx_inv_v2 (mi := 230) (k := 70) (st := [.int 0, .ref 111]) (w := w) rfl rfl hI.1.o111 rfl rfl rfl) rfl rfl rfl (s133_0 hI) (show _ = 34 from rfl) ?_
    rintro r4 w6 ⟨rfl, hI7, hE9⟩
    have hE8 := hE.tr (hE9.eft hI hI7)
    show sx_RP _ _ _ _ _ [.int (-1000000001)] _ _
    refine sx_RP.ret (r := (some (.int (-1000000001)))) rfl rfl ?_
    exact ⟨⟨_, rfl⟩, hI7, hE8⟩
  · refine sx_RP.cu (as := [.int (nI x2)]) (rest2 := []) (st3 := [.int 1]) rfl rfl rfl rfl rfl (cx_231p ⟨nI_le (a := 0) hx3 (by omega), nI_le (b := 3) hx4 (by decide)⟩) rfl ?_
    refine sx_RP.step (pc2 := 7) (ls2 := [(0, .ref 111), (1, .int (nI x2)), (2, .int a2), (3, .int a3)]) (st2 := []) (w3 := w) rfl rfl ?_
    refine sx_RP.step (pc2 := 8) (ls2 := [(0, .ref 111), (1, .int (nI x2)), (2, .int a2), (3, .int a3)]) (st2 := [.int a2]) (w3 := w) rfl rfl ?_
    refine sx_RP.br (p1 := 35) (l1 := [(0, .ref 111), (1, .int (nI x2)), (2, .int a2), (3, .int a3)]) (s1 := []) (v1 := w) (p2 := 11) (l2 := [(0, .ref 111), (1, .int (nI x2)), (2, .int a2), (3, .int a3)]) (s2 := []) (v2 := w) rfl rfl (fun q10 => ?_) (fun q10 => ?_)
    · replace q10 := of_decide_eq_true q10
      refine sx_RP.step (pc2 := 36) (ls2 := [(0, .ref 111), (1, .int (nI x2)), (2, .int a2), (3, .int a3)]) (st2 := [.int a3]) (w3 := w) rfl rfl ?_
      refine sx_RP.br (p1 := 46) (l1 := [(0, .ref 111), (1, .int (nI x2)), (2, .int a2), (3, .int a3)]) (s1 := []) (v1 := w) (p2 := 39) (l2 := [(0, .ref 111), (1, .int (nI x2)), (2, .int a2), (3, .int a3)]) (s2 := []) (v2 := w) rfl rfl (fun q11 => ?_) (fun q11 => ?_)
      · replace q11 := of_decide_eq_true q11
        refine sx_RP.step (pc2 := 47) (ls2 := [(0, .ref 111), (1, .int (nI x2)), (2, .int a2), (3, .int a3)]) (st2 := [.int a3]) (w3 := w) rfl rfl ?_
        refine sx_RP.step (pc2 := 49) (ls2 := [(0, .ref 111), (1, .int (nI x2)), (2, .int a2), (3, .int a3)]) (st2 := [.int 40, .int a3]) (w3 := w) rfl rfl ?_
        refine sx_RP.br (p1 := 58) (l1 := [(0, .ref 111), (1, .int (nI x2)), (2, .int a2), (3, .int a3)]) (s1 := []) (v1 := w) (p2 := 52) (l2 := [(0, .ref 111), (1, .int (nI x2)), (2, .int a2), (3, .int a3)]) (s2 := []) (v2 := w) rfl rfl (fun q12 => ?_) (fun q12 => ?_)
        · replace q12 := of_decide_eq_true q12
          refine sx_RP.step (pc2 := 59) (ls2 := [(0, .ref 111), (1, .int (nI x2)), (2, .int a2), (3, .int a3)]) (st2 := [.ref 111]) (w3 := w) rfl rfl ?_
          refine sx_RP.gf (v := .ref 122) rfl rfl hI.1.o111 rfl rfl (show _ = 62 from rfl) ?_
          refine sx_RP.step (pc2 := 63) (ls2 := [(0, .ref 111), (1, .int (nI x2)), (2, .int a2), (3, .int a3)]) (st2 := [.int (nI x2), .ref 122]) (w3 := w) rfl rfl ?_
          refine sx_RP.step (pc2 := 64) (ls2 := [(0, .ref 111), (1, .int (nI x2)), (2, .int a2), (3, .int a3)]) (st2 := [.int a2, .int (nI x2), .ref 122]) (w3 := w) rfl rfl ?_
          refine sx_RP.mFFt (a := 122) hI hE rfl hI.1.a122 (sx_in_nI (show x2 < 4 by omega) (by decide)) (by decide) (show _ = 65 from rfl) (fun w13 hI14 hE15 _ => ?_)
          refine sx_RP.step (pc2 := 66) (ls2 := [(0, .ref 111), (1, .int (nI x2)), (2, .int a2), (3, .int a3)]) (st2 := [.ref 111]) (w3 := w13) rfl rfl ?_
          refine sx_RP.gf (v := .ref 123) rfl rfl hI14.1.o111 rfl rfl (show _ = 69 from rfl) ?_
          refine sx_RP.step (pc2 := 70) (ls2 := [(0, .ref 111), (1, .int (nI x2)), (2, .int a2), (3, .int a3)]) (st2 := [.int (nI x2), .ref 123]) (w3 := w13) rfl rfl ?_
          refine sx_RP.step (pc2 := 71) (ls2 := [(0, .ref 111), (1, .int (nI x2)), (2, .int a2), (3, .int a3)]) (st2 := [.int a2, .int (nI x2), .ref 123]) (w3 := w13) rfl rfl ?_
          refine sx_RP.br (p1 := 78) (l1 := [(0, .ref 111), (1, .int (nI x2)), (2, .int a2), (3, .int a3)]) (s1 := [.int (nI x2), .ref 123]) (v1 := w13) (p2 := 74) (l2 := [(0, .ref 111), (1, .int (nI x2)), (2, .int a2), (3, .int a3)]) (s2 := [.int (nI x2), .ref 123]) (v2 := w13) rfl rfl (fun q16 => ?_) (fun q16 => ?_)
          · replace q16 := of_decide_eq_true q16
            refine sx_RP.step (pc2 := 79) (ls2 := [(0, .ref 111), (1, .int (nI x2)), (2, .int a2), (3, .int a3)]) (st2 := [.int a3, .int (nI x2), .ref 123]) (w3 := w13) rfl rfl ?_
            refine sx_RP.mSzt (k := x2) hI14 hE15 rfl (show x2 < 4 by omega) (sz_of (Int32.not_lt.mpr q11) q12) (show _ = 80 from rfl) (fun w17 hI18 hE19 => ?_)
            refine sx_RP.step (pc2 := 81) (ls2 := [(0, .ref 111), (1, .int (nI x2)), (2, .int a2), (3, .int a3)]) (st2 := [.int 0]) (w3 := w17) rfl rfl ?_
            refine sx_RP.step (pc2 := 83) (ls2 := [(4, .int 0), (0, .ref 111), (1, .int (nI x2)), (2, .int a2), (3, .int a3)]) (st2 := []) (w3 := w17) rfl rfl ?_
            exact sx_RP.ls (sx_lr.cons rfl (sx_lr.cons rfl (sx_lr.cons rfl sx_lr.nil))) (s230tL (show x2 < 4 by omega) 40 0 w17  (by omega) (by omega) hI18 hE19 )
          · replace q16 := Decidable.not_not.mp (of_decide_eq_false q16)
            refine sx_RP.step (pc2 := 75) (ls2 := [(0, .ref 111), (1, .int (nI x2)), (2, .int a2), (3, .int a3)]) (st2 := [.int 0, .int (nI x2), .ref 123]) (w3 := w13) rfl rfl ?_
            refine sx_RP.step (pc2 := 79) (ls2 := [(0, .ref 111), (1, .int (nI x2)), (2, .int a2), (3, .int a3)]) (st2 := [.int 0, .int (nI x2), .ref 123]) (w3 := w13) rfl rfl ?_
            refine sx_RP.mSzt (k := x2) hI14 hE15 rfl (show x2 < 4 by omega) ⟨0, by decide, rfl⟩ (show _ = 80 from rfl) (fun w20 hI21 hE22 => ?_)
            refine sx_RP.step (pc2 := 81) (ls2 := [(0, .ref 111), (1, .int (nI x2)), (2, .int a2), (3, .int a3)]) (st2 := [.int 0]) (w3 := w20) rfl rfl ?_
            refine sx_RP.step (pc2 := 83) (ls2 := [(4, .int 0), (0, .ref 111), (1, .int (nI x2)), (2, .int a2), (3, .int a3)]) (st2 := []) (w3 := w20) rfl rfl ?_
            exact sx_RP.ls (sx_lr.cons rfl (sx_lr.cons rfl (sx_lr.cons rfl sx_lr.nil))) (s230tL (show x2 < 4 by omega) 40 0 w20  (by omega) (by omega) hI21 hE22 )
        · replace q12 := of_decide_eq_false q12
          refine sx_RP.step (pc2 := 53) (ls2 := [(0, .ref 111), (1, .int (nI x2)), (2, .int a2), (3, .int a3)]) (st2 := [.ref 111]) (w3 := w) rfl rfl ?_
          refine sx_RP.step (pc2 := 54) (ls2 := [(0, .ref 111), (1, .int (nI x2)), (2, .int a2), (3, .int a3)]) (st2 := [.int 0, .ref 111]) (w3 := w) rfl rfl ?_
          refine sx_RP.callp (as2 := [.ref 111, .int 0]) (rest2 := []) rfl rfl (sx_inv_v2 (mi := 230) (k := 70) (st := [.int 0, .ref 111]) (w := w) rfl rfl hI.1.o111 rfl rfl rfl) rfl rfl rfl (s133_0 hI) (show _ = 57 from rfl) ?_
          rintro r4 w23 ⟨rfl, hI24, hE26⟩
          have hE25 := hE.tr (hE26.eft hI hI24)
          show sx_RP _ _ _ _ _ [.int (-1000000001)] _ _
          refine sx_RP.ret (r := (some (.int (-1000000001)))) rfl rfl ?_
          exact ⟨⟨_, rfl⟩, hI24, hE25⟩
      · replace q11 := of_decide_eq_false q11
        refine sx_RP.step (pc2 := 40) (ls2 := [(0, .ref 111), (1, .int (nI x2)), (2, .int a2), (3, .int a3)]) (st2 := [.ref 111]) (w3 := w) rfl rfl ?_
        refine sx_RP.step (pc2 := 42) (ls2 := [(0, .ref 111), (1, .int (nI x2)), (2, .int a2), (3, .int a3)]) (st2 := [.int 6, .ref 111]) (w3 := w) rfl rfl ?_
        refine sx_RP.callp (as2 := [.ref 111, .int 6]) (rest2 := []) rfl rfl (sx_inv_v2 (mi := 230) (k := 70) (st := [.int 6, .ref 111]) (w := w) rfl rfl hI.1.o111 rfl rfl rfl) rfl rfl rfl (s133_6 hI) (show _ = 45 from rfl) ?_
        rintro r4 w27 ⟨rfl, hI28, hE30⟩
        have hE29 := hE.tr (hE30.eft hI hI28)
        show sx_RP _ _ _ _ _ [.int (-1000000007)] _ _
        refine sx_RP.ret (r := (some (.int (-1000000007)))) rfl rfl ?_
        exact ⟨⟨_, rfl⟩, hI28, hE29⟩
    · replace q10 := of_decide_eq_false q10
      refine sx_RP.step (pc2 := 12) (ls2 := [(0, .ref 111), (1, .int (nI x2)), (2, .int a2), (3, .int a3)]) (st2 := [.int a2]) (w3 := w) rfl rfl ?_
      refine sx_RP.step (pc2 := 14) (ls2 := [(0, .ref 111), (1, .int (nI x2)), (2, .int a2), (3, .int a3)]) (st2 := [.int 8, .int a2]) (w3 := w) rfl rfl ?_
      refine sx_RP.br (p1 := 35) (l1 := [(0, .ref 111), (1, .int (nI x2)), (2, .int a2), (3, .int a3)]) (s1 := []) (v1 := w) (p2 := 17) (l2 := [(0, .ref 111), (1, .int (nI x2)), (2, .int a2), (3, .int a3)]) (s2 := []) (v2 := w) rfl rfl (fun q31 => ?_) (fun q31 => ?_)
      · replace q31 := of_decide_eq_true q31
        refine sx_RP.step (pc2 := 36) (ls2 := [(0, .ref 111), (1, .int (nI x2)), (2, .int a2), (3, .int a3)]) (st2 := [.int a3]) (w3 := w) rfl rfl ?_
        refine sx_RP.br (p1 := 46) (l1 := [(0, .ref 111), (1, .int (nI x2)), (2, .int a2), (3, .int a3)]) (s1 := []) (v1 := w) (p2 := 39) (l2 := [(0, .ref 111), (1, .int (nI x2)), (2, .int a2), (3, .int a3)]) (s2 := []) (v2 := w) rfl rfl (fun q32 => ?_) (fun q32 => ?_)
        · replace q32 := of_decide_eq_true q32
          refine sx_RP.step (pc2 := 47) (ls2 := [(0, .ref 111), (1, .int (nI x2)), (2, .int a2), (3, .int a3)]) (st2 := [.int a3]) (w3 := w) rfl rfl ?_
          refine sx_RP.step (pc2 := 49) (ls2 := [(0, .ref 111), (1, .int (nI x2)), (2, .int a2), (3, .int a3)]) (st2 := [.int 40, .int a3]) (w3 := w) rfl rfl ?_
          refine sx_RP.br (p1 := 58) (l1 := [(0, .ref 111), (1, .int (nI x2)), (2, .int a2), (3, .int a3)]) (s1 := []) (v1 := w) (p2 := 52) (l2 := [(0, .ref 111), (1, .int (nI x2)), (2, .int a2), (3, .int a3)]) (s2 := []) (v2 := w) rfl rfl (fun q33 => ?_) (fun q33 => ?_)
          · replace q33 := of_decide_eq_true q33
            refine sx_RP.step (pc2 := 59) (ls2 := [(0, .ref 111), (1, .int (nI x2)), (2, .int a2), (3, .int a3)]) (st2 := [.ref 111]) (w3 := w) rfl rfl ?_
            refine sx_RP.gf (v := .ref 122) rfl rfl hI.1.o111 rfl rfl (show _ = 62 from rfl) ?_
            refine sx_RP.step (pc2 := 63) (ls2 := [(0, .ref 111), (1, .int (nI x2)), (2, .int a2), (3, .int a3)]) (st2 := [.int (nI x2), .ref 122]) (w3 := w) rfl rfl ?_
            refine sx_RP.step (pc2 := 64) (ls2 := [(0, .ref 111), (1, .int (nI x2)), (2, .int a2), (3, .int a3)]) (st2 := [.int a2, .int (nI x2), .ref 122]) (w3 := w) rfl rfl ?_
            refine sx_RP.mFFt (a := 122) hI hE rfl hI.1.a122 (sx_in_nI (show x2 < 4 by omega) (by decide)) (by decide) (show _ = 65 from rfl) (fun w34 hI35 hE36 _ => ?_)
            refine sx_RP.step (pc2 := 66) (ls2 := [(0, .ref 111), (1, .int (nI x2)), (2, .int a2), (3, .int a3)]) (st2 := [.ref 111]) (w3 := w34) rfl rfl ?_
            refine sx_RP.gf (v := .ref 123) rfl rfl hI35.1.o111 rfl rfl (show _ = 69 from rfl) ?_
            refine sx_RP.step (pc2 := 70) (ls2 := [(0, .ref 111), (1, .int (nI x2)), (2, .int a2), (3, .int a3)]) (st2 := [.int (nI x2), .ref 123]) (w3 := w34) rfl rfl ?_
            refine sx_RP.step (pc2 := 71) (ls2 := [(0, .ref 111), (1, .int (nI x2)), (2, .int a2), (3, .int a3)]) (st2 := [.int a2, .int (nI x2), .ref 123]) (w3 := w34) rfl rfl ?_
            refine sx_RP.br (p1 := 78) (l1 := [(0, .ref 111), (1, .int (nI x2)), (2, .int a2), (3, .int a3)]) (s1 := [.int (nI x2), .ref 123]) (v1 := w34) (p2 := 74) (l2 := [(0, .ref 111), (1, .int (nI x2)), (2, .int a2), (3, .int a3)]) (s2 := [.int (nI x2), .ref 123]) (v2 := w34) rfl rfl (fun q37 => ?_) (fun q37 => ?_)
            · replace q37 := of_decide_eq_true q37
              refine sx_RP.step (pc2 := 79) (ls2 := [(0, .ref 111), (1, .int (nI x2)), (2, .int a2), (3, .int a3)]) (st2 := [.int a3, .int (nI x2), .ref 123]) (w3 := w34) rfl rfl ?_
              refine sx_RP.mSzt (k := x2) hI35 hE36 rfl (show x2 < 4 by omega) (sz_of (Int32.not_lt.mpr q32) q33) (show _ = 80 from rfl) (fun w38 hI39 hE40 => ?_)
              refine sx_RP.step (pc2 := 81) (ls2 := [(0, .ref 111), (1, .int (nI x2)), (2, .int a2), (3, .int a3)]) (st2 := [.int 0]) (w3 := w38) rfl rfl ?_
              refine sx_RP.step (pc2 := 83) (ls2 := [(4, .int 0), (0, .ref 111), (1, .int (nI x2)), (2, .int a2), (3, .int a3)]) (st2 := []) (w3 := w38) rfl rfl ?_
              exact sx_RP.ls (sx_lr.cons rfl (sx_lr.cons rfl (sx_lr.cons rfl sx_lr.nil))) (s230tL (show x2 < 4 by omega) 40 0 w38  (by omega) (by omega) hI39 hE40 )
            · replace q37 := Decidable.not_not.mp (of_decide_eq_false q37)
              refine sx_RP.step (pc2 := 75) (ls2 := [(0, .ref 111), (1, .int (nI x2)), (2, .int a2), (3, .int a3)]) (st2 := [.int 0, .int (nI x2), .ref 123]) (w3 := w34) rfl rfl ?_
              refine sx_RP.step (pc2 := 79) (ls2 := [(0, .ref 111), (1, .int (nI x2)), (2, .int a2), (3, .int a3)]) (st2 := [.int 0, .int (nI x2), .ref 123]) (w3 := w34) rfl rfl ?_
              refine sx_RP.mSzt (k := x2) hI35 hE36 rfl (show x2 < 4 by omega) ⟨0, by decide, rfl⟩ (show _ = 80 from rfl) (fun w41 hI42 hE43 => ?_)
              refine sx_RP.step (pc2 := 81) (ls2 := [(0, .ref 111), (1, .int (nI x2)), (2, .int a2), (3, .int a3)]) (st2 := [.int 0]) (w3 := w41) rfl rfl ?_
              refine sx_RP.step (pc2 := 83) (ls2 := [(4, .int 0), (0, .ref 111), (1, .int (nI x2)), (2, .int a2), (3, .int a3)]) (st2 := []) (w3 := w41) rfl rfl ?_
              exact sx_RP.ls (sx_lr.cons rfl (sx_lr.cons rfl (sx_lr.cons rfl sx_lr.nil))) (s230tL (show x2 < 4 by omega) 40 0 w41  (by omega) (by omega) hI42 hE43 )
          · replace q33 := of_decide_eq_false q33
            refine sx_RP.step (pc2 := 53) (ls2 := [(0, .ref 111), (1, .int (nI x2)), (2, .int a2), (3, .int a3)]) (st2 := [.ref 111]) (w3 := w) rfl rfl ?_
            refine sx_RP.step (pc2 := 54) (ls2 := [(0, .ref 111), (1, .int (nI x2)), (2, .int a2), (3, .int a3)]) (st2 := [.int 0, .ref 111]) (w3 := w) rfl rfl ?_
            refine sx_RP.callp (as2 := [.ref 111, .int 0]) (rest2 := []) rfl rfl (sx_inv_v2 (mi := 230) (k := 70) (st := [.int 0, .ref 111]) (w := w) rfl rfl hI.1.o111 rfl rfl rfl) rfl rfl rfl (s133_0 hI) (show _ = 57 from rfl) ?_
            rintro r4 w44 ⟨rfl, hI45, hE47⟩
            have hE46 := hE.tr (hE47.eft hI hI45)
            show sx_RP _ _ _ _ _ [.int (-1000000001)] _ _
            refine sx_RP.ret (r := (some (.int (-1000000001)))) rfl rfl ?_
            exact ⟨⟨_, rfl⟩, hI45, hE46⟩
        · replace q32 := of_decide_eq_false q32
          refine sx_RP.step (pc2 := 40) (ls2 := [(0, .ref 111), (1, .int (nI x2)), (2, .int a2), (3, .int a3)]) (st2 := [.ref 111]) (w3 := w) rfl rfl ?_
          refine sx_RP.step (pc2 := 42) (ls2 := [(0, .ref 111), (1, .int (nI x2)), (2, .int a2), (3, .int a3)]) (st2 := [.int 6, .ref 111]) (w3 := w) rfl rfl ?_
          refine sx_RP.callp (as2 := [.ref 111, .int 6]) (rest2 := []) rfl rfl (sx_inv_v2 (mi := 230) (k := 70) (st := [.int 6, .ref 111]) (w := w) rfl rfl hI.1.o111 rfl rfl rfl) rfl rfl rfl (s133_6 hI) (show _ = 45 from rfl) ?_
          rintro r4 w48 ⟨rfl, hI49, hE51⟩
          have hE50 := hE.tr (hE51.eft hI hI49)
          show sx_RP _ _ _ _ _ [.int (-1000000007)] _ _
          refine sx_RP.ret (r := (some (.int (-1000000007)))) rfl rfl ?_
          exact ⟨⟨_, rfl⟩, hI49, hE50⟩
      · replace q31 := of_decide_eq_false q31
        refine sx_RP.step (pc2 := 18) (ls2 := [(0, .ref 111), (1, .int (nI x2)), (2, .int a2), (3, .int a3)]) (st2 := [.int a2]) (w3 := w) rfl rfl ?_
        refine sx_RP.step (pc2 := 20) (ls2 := [(0, .ref 111), (1, .int (nI x2)), (2, .int a2), (3, .int a3)]) (st2 := [.int 16, .int a2]) (w3 := w) rfl rfl ?_
        refine sx_RP.br (p1 := 35) (l1 := [(0, .ref 111), (1, .int (nI x2)), (2, .int a2), (3, .int a3)]) (s1 := []) (v1 := w) (p2 := 23) (l2 := [(0, .ref 111), (1, .int (nI x2)), (2, .int a2), (3, .int a3)]) (s2 := []) (v2 := w) rfl rfl (fun q52 => ?_) (fun q52 => ?_)
        · replace q52 := of_decide_eq_true q52
          refine sx_RP.step (pc2 := 36) (ls2 := [(0, .ref 111), (1, .int (nI x2)), (2, .int a2), (3, .int a3)]) (st2 := [.int a3]) (w3 := w) rfl rfl ?_
          refine sx_RP.br (p1 := 46) (l1 := [(0, .ref 111), (1, .int (nI x2)), (2, .int a2), (3, .int a3)]) (s1 := []) (v1 := w) (p2 := 39) (l2 := [(0, .ref 111), (1, .int (nI x2)), (2, .int a2), (3, .int a3)]) (s2 := []) (v2 := w) rfl rfl (fun q53 => ?_) (fun q53 => ?_)
          · replace q53 := of_decide_eq_true q53
            refine sx_RP.step (pc2 := 47) (ls2 := [(0, .ref 111), (1, .int (nI x2)), (2, .int a2), (3, .int a3)]) (st2 := [.int a3]) (w3 := w) rfl rfl ?_
            refine sx_RP.step (pc2 := 49) (ls2 := [(0, .ref 111), (1, .int (nI x2)), (2, .int a2), (3, .int a3)]) (st2 := [.int 40, .int a3]) (w3 := w) rfl rfl ?_
            refine sx_RP.br (p1 := 58) (l1 := [(0, .ref 111), (1, .int (nI x2)), (2, .int a2), (3, .int a3)]) (s1 := []) (v1 := w) (p2 := 52) (l2 := [(0, .ref 111), (1, .int (nI x2)), (2, .int a2), (3, .int a3)]) (s2 := []) (v2 := w) rfl rfl (fun q54 => ?_) (fun q54 => ?_)
            · replace q54 := of_decide_eq_true q54
              refine sx_RP.step (pc2 := 59) (ls2 := [(0, .ref 111), (1, .int (nI x2)), (2, .int a2), (3, .int a3)]) (st2 := [.ref 111]) (w3 := w) rfl rfl ?_
              refine sx_RP.gf (v := .ref 122) rfl rfl hI.1.o111 rfl rfl (show _ = 62 from rfl) ?_
              refine sx_RP.step (pc2 := 63) (ls2 := [(0, .ref 111), (1, .int (nI x2)), (2, .int a2), (3, .int a3)]) (st2 := [.int (nI x2), .ref 122]) (w3 := w) rfl rfl ?_
              refine sx_RP.step (pc2 := 64) (ls2 := [(0, .ref 111), (1, .int (nI x2)), (2, .int a2), (3, .int a3)]) (st2 := [.int a2, .int (nI x2), .ref 122]) (w3 := w) rfl rfl ?_
              refine sx_RP.mFFt (a := 122) hI hE rfl hI.1.a122 (sx_in_nI (show x2 < 4 by omega) (by decide)) (by decide) (show _ = 65 from rfl) (fun w55 hI56 hE57 _ => ?_)
              refine sx_RP.step (pc2 := 66) (ls2 := [(0, .ref 111), (1, .int (nI x2)), (2, .int a2), (3, .int a3)]) (st2 := [.ref 111]) (w3 := w55) rfl rfl ?_
              refine sx_RP.gf (v := .ref 123) rfl rfl hI56.1.o111 rfl rfl (show _ = 69 from rfl) ?_
              refine sx_RP.step (pc2 := 70) (ls2 := [(0, .ref 111), (1, .int (nI x2)), (2, .int a2), (3, .int a3)]) (st2 := [.int (nI x2), .ref 123]) (w3 := w55) rfl rfl ?_
              refine sx_RP.step (pc2 := 71) (ls2 := [(0, .ref 111), (1, .int (nI x2)), (2, .int a2), (3, .int a3)]) (st2 := [.int a2, .int (nI x2), .ref 123]) (w3 := w55) rfl rfl ?_
              refine sx_RP.br (p1 := 78) (l1 := [(0, .ref 111), (1, .int (nI x2)), (2, .int a2), (3, .int a3)]) (s1 := [.int (nI x2), .ref 123]) (v1 := w55) (p2 := 74) (l2 := [(0, .ref 111), (1, .int (nI x2)), (2, .int a2), (3, .int a3)]) (s2 := [.int (nI x2), .ref 123]) (v2 := w55) rfl rfl (fun q58 => ?_) (fun q58 => ?_)
              · replace q58 := of_decide_eq_true q58
                refine sx_RP.step (pc2 := 79) (ls2 := [(0, .ref 111), (1, .int (nI x2)), (2, .int a2), (3, .int a3)]) (st2 := [.int a3, .int (nI x2), .ref 123]) (w3 := w55) rfl rfl ?_
                refine sx_RP.mSzt (k := x2) hI56 hE57 rfl (show x2 < 4 by omega) (sz_of (Int32.not_lt.mpr q53) q54) (show _ = 80 from rfl) (fun w59 hI60 hE61 => ?_)
                refine sx_RP.step (pc2 := 81) (ls2 := [(0, .ref 111), (1, .int (nI x2)), (2, .int a2), (3, .int a3)]) (st2 := [.int 0]) (w3 := w59) rfl rfl ?_
                refine sx_RP.step (pc2 := 83) (ls2 := [(4, .int 0), (0, .ref 111), (1, .int (nI x2)), (2, .int a2), (3, .int a3)]) (st2 := []) (w3 := w59) rfl rfl ?_
                exact sx_RP.ls (sx_lr.cons rfl (sx_lr.cons rfl (sx_lr.cons rfl sx_lr.nil))) (s230tL (show x2 < 4 by omega) 40 0 w59  (by omega) (by omega) hI60 hE61 )
              · replace q58 := Decidable.not_not.mp (of_decide_eq_false q58)
                refine sx_RP.step (pc2 := 75) (ls2 := [(0, .ref 111), (1, .int (nI x2)), (2, .int a2), (3, .int a3)]) (st2 := [.int 0, .int (nI x2), .ref 123]) (w3 := w55) rfl rfl ?_
                refine sx_RP.step (pc2 := 79) (ls2 := [(0, .ref 111), (1, .int (nI x2)), (2, .int a2), (3, .int a3)]) (st2 := [.int 0, .int (nI x2), .ref 123]) (w3 := w55) rfl rfl ?_
                refine sx_RP.mSzt (k := x2) hI56 hE57 rfl (show x2 < 4 by omega) ⟨0, by decide, rfl⟩ (show _ = 80 from rfl) (fun w62 hI63 hE64 => ?_)
                refine sx_RP.step (pc2 := 81) (ls2 := [(0, .ref 111), (1, .int (nI x2)), (2, .int a2), (3, .int a3)]) (st2 := [.int 0]) (w3 := w62) rfl rfl ?_
                refine sx_RP.step (pc2 := 83) (ls2 := [(4, .int 0), (0, .ref 111), (1, .int (nI x2)), (2, .int a2), (3, .int a3)]) (st2 := []) (w3 := w62) rfl rfl ?_
                exact sx_RP.ls (sx_lr.cons rfl (sx_lr.cons rfl (sx_lr.cons rfl sx_lr.nil))) (s230tL (show x2 < 4 by omega) 40 0 w62  (by omega) (by omega) hI63 hE64 )
            · replace q54 := of_decide_eq_false q54
              refine sx_RP.step (pc2 := 53) (ls2 := [(0, .ref 111), (1, .int (nI x2)), (2, .int a2), (3, .int a3)]) (st2 := [.ref 111]) (w3 := w) rfl rfl ?_
              refine sx_RP.step (pc2 := 54) (ls2 := [(0, .ref 111), (1, .int (nI x2)), (2, .int a2), (3, .int a3)]) (st2 := [.int 0, .ref 111]) (w3 := w) rfl rfl ?_
              refine sx_RP.callp (as2 := [.ref 111, .int 0]) (rest2 := []) rfl rfl (sx_inv_v2 (mi := 230) (k := 70) (st := [.int 0, .ref 111]) (w := w) rfl rfl hI.1.o111 rfl rfl rfl) rfl rfl rfl (s133_0 hI) (show _ = 57 from rfl) ?_
              rintro r4 w65 ⟨rfl, hI66, hE68⟩
              have hE67 := hE.tr (hE68.eft hI hI66)
              show sx_RP _ _ _ _ _ [.int (-1000000001)] _ _
              refine sx_RP.ret (r := (some (.int (-1000000001)))) rfl rfl ?_
              exact ⟨⟨_, rfl⟩, hI66, hE67⟩
          · replace q53 := of_decide_eq_false q53
            refine sx_RP.step (pc2 := 40) (ls2 := [(0, .ref 111), (1, .int (nI x2)), (2, .int a2), (3, .int a3)]) (st2 := [.ref 111]) (w3 := w) rfl rfl ?_
            refine sx_RP.step (pc2 := 42) (ls2 := [(0, .ref 111), (1, .int (nI x2)), (2, .int a2), (3, .int a3)]) (st2 := [.int 6, .ref 111]) (w3 := w) rfl rfl ?_
            refine sx_RP.callp (as2 := [.ref 111, .int 6]) (rest2 := []) rfl rfl (sx_inv_v2 (mi := 230) (k := 70) (st := [.int 6, .ref 111]) (w := w) rfl rfl hI.1.o111 rfl rfl rfl) rfl rfl rfl (s133_6 hI) (show _ = 45 from rfl) ?_
            rintro r4 w69 ⟨rfl, hI70, hE72⟩
            have hE71 := hE.tr (hE72.eft hI hI70)
            show sx_RP _ _ _ _ _ [.int (-1000000007)] _ _
            refine sx_RP.ret (r := (some (.int (-1000000007)))) rfl rfl ?_
            exact ⟨⟨_, rfl⟩, hI70, hE71⟩
        · replace q52 := of_decide_eq_false q52
          refine sx_RP.step (pc2 := 24) (ls2 := [(0, .ref 111), (1, .int (nI x2)), (2, .int a2), (3, .int a3)]) (st2 := [.int a2]) (w3 := w) rfl rfl ?_
          refine sx_RP.step (pc2 := 26) (ls2 := [(0, .ref 111), (1, .int (nI x2)), (2, .int a2), (3, .int a3)]) (st2 := [.int 64, .int a2]) (w3 := w) rfl rfl ?_
          refine sx_RP.br (p1 := 35) (l1 := [(0, .ref 111), (1, .int (nI x2)), (2, .int a2), (3, .int a3)]) (s1 := []) (v1 := w) (p2 := 29) (l2 := [(0, .ref 111), (1, .int (nI x2)), (2, .int a2), (3, .int a3)]) (s2 := []) (v2 := w) rfl rfl (fun q73 => ?_) (fun q73 => ?_)
          · replace q73 := of_decide_eq_true q73
            refine sx_RP.step (pc2 := 36) (ls2 := [(0, .ref 111), (1, .int (nI x2)), (2, .int a2), (3, .int a3)]) (st2 := [.int a3]) (w3 := w) rfl rfl ?_
            refine sx_RP.br (p1 := 46) (l1 := [(0, .ref 111), (1, .int (nI x2)), (2, .int a2), (3, .int a3)]) (s1 := []) (v1 := w) (p2 := 39) (l2 := [(0, .ref 111), (1, .int (nI x2)), (2, .int a2), (3, .int a3)]) (s2 := []) (v2 := w) rfl rfl (fun q74 => ?_) (fun q74 => ?_)
            · replace q74 := of_decide_eq_true q74
              refine sx_RP.step (pc2 := 47) (ls2 := [(0, .ref 111), (1, .int (nI x2)), (2, .int a2), (3, .int a3)]) (st2 := [.int a3]) (w3 := w) rfl rfl ?_
              refine sx_RP.step (pc2 := 49) (ls2 := [(0, .ref 111), (1, .int (nI x2)), (2, .int a2), (3, .int a3)]) (st2 := [.int 40, .int a3]) (w3 := w) rfl rfl ?_
              refine sx_RP.br (p1 := 58) (l1 := [(0, .ref 111), (1, .int (nI x2)), (2, .int a2), (3, .int a3)]) (s1 := []) (v1 := w) (p2 := 52) (l2 := [(0, .ref 111), (1, .int (nI x2)), (2, .int a2), (3, .int a3)]) (s2 := []) (v2 := w) rfl rfl (fun q75 => ?_) (fun q75 => ?_)
              · replace q75 := of_decide_eq_true q75
                refine sx_RP.step (pc2 := 59) (ls2 := [(0, .ref 111), (1, .int (nI x2)), (2, .int a2), (3, .int a3)]) (st2 := [.ref 111]) (w3 := w) rfl rfl ?_
                refine sx_RP.gf (v := .ref 122) rfl rfl hI.1.o111 rfl rfl (show _ = 62 from rfl) ?_
                refine sx_RP.step (pc2 := 63) (ls2 := [(0, .ref 111), (1, .int (nI x2)), (2, .int a2), (3, .int a3)]) (st2 := [.int (nI x2), .ref 122]) (w3 := w) rfl rfl ?_
                refine sx_RP.step (pc2 := 64) (ls2 := [(0, .ref 111), (1, .int (nI x2)), (2, .int a2), (3, .int a3)]) (st2 := [.int a2, .int (nI x2), .ref 122]) (w3 := w) rfl rfl ?_
                refine sx_RP.mFFt (a := 122) hI hE rfl hI.1.a122 (sx_in_nI (show x2 < 4 by omega) (by decide)) (by decide) (show _ = 65 from rfl) (fun w76 hI77 hE78 _ => ?_)
                refine sx_RP.step (pc2 := 66) (ls2 := [(0, .ref 111), (1, .int (nI x2)), (2, .int a2), (3, .int a3)]) (st2 := [.ref 111]) (w3 := w76) rfl rfl ?_
                refine sx_RP.gf (v := .ref 123) rfl rfl hI77.1.o111 rfl rfl (show _ = 69 from rfl) ?_
                refine sx_RP.step (pc2 := 70) (ls2 := [(0, .ref 111), (1, .int (nI x2)), (2, .int a2), (3, .int a3)]) (st2 := [.int (nI x2), .ref 123]) (w3 := w76) rfl rfl ?_
                refine sx_RP.step (pc2 := 71) (ls2 := [(0, .ref 111), (1, .int (nI x2)), (2, .int a2), (3, .int a3)]) (st2 := [.int a2, .int (nI x2), .ref 123]) (w3 := w76) rfl rfl ?_
                refine sx_RP.br (p1 := 78) (l1 := [(0, .ref 111), (1, .int (nI x2)), (2, .int a2), (3, .int a3)]) (s1 := [.int (nI x2), .ref 123]) (v1 := w76) (p2 := 74) (l2 := [(0, .ref 111), (1, .int (nI x2)), (2, .int a2), (3, .int a3)]) (s2 := [.int (nI x2), .ref 123]) (v2 := w76) rfl rfl (fun q79 => ?_) (fun q79 => ?_)
                · replace q79 := of_decide_eq_true q79
                  refine sx_RP.step (pc2 := 79) (ls2 := [(0, .ref 111), (1, .int (nI x2)), (2, .int a2), (3, .int a3)]) (st2 := [.int a3, .int (nI x2), .ref 123]) (w3 := w76) rfl rfl ?_
                  refine sx_RP.mSzt (k := x2) hI77 hE78 rfl (show x2 < 4 by omega) (sz_of (Int32.not_lt.mpr q74) q75) (show _ = 80 from rfl) (fun w80 hI81 hE82 => ?_)
                  refine sx_RP.step (pc2 := 81) (ls2 := [(0, .ref 111), (1, .int (nI x2)), (2, .int a2), (3, .int a3)]) (st2 := [.int 0]) (w3 := w80) rfl rfl ?_
                  refine sx_RP.step (pc2 := 83) (ls2 := [(4, .int 0), (0, .ref 111), (1, .int (nI x2)), (2, .int a2), (3, .int a3)]) (st2 := []) (w3 := w80) rfl rfl ?_
                  exact sx_RP.ls (sx_lr.cons rfl (sx_lr.cons rfl (sx_lr.cons rfl sx_lr.nil))) (s230tL (show x2 < 4 by omega) 40 0 w80  (by omega) (by omega) hI81 hE82 )
                · replace q79 := Decidable.not_not.mp (of_decide_eq_false q79)
                  refine sx_RP.step (pc2 := 75) (ls2 := [(0, .ref 111), (1, .int (nI x2)), (2, .int a2), (3, .int a3)]) (st2 := [.int 0, .int (nI x2), .ref 123]) (w3 := w76) rfl rfl ?_
                  refine sx_RP.step (pc2 := 79) (ls2 := [(0, .ref 111), (1, .int (nI x2)), (2, .int a2), (3, .int a3)]) (st2 := [.int 0, .int (nI x2), .ref 123]) (w3 := w76) rfl rfl ?_
                  refine sx_RP.mSzt (k := x2) hI77 hE78 rfl (show x2 < 4 by omega) ⟨0, by decide, rfl⟩ (show _ = 80 from rfl) (fun w83 hI84 hE85 => ?_)
                  refine sx_RP.step (pc2 := 81) (ls2 := [(0, .ref 111), (1, .int (nI x2)), (2, .int a2), (3, .int a3)]) (st2 := [.int 0]) (w3 := w83) rfl rfl ?_
                  refine sx_RP.step (pc2 := 83) (ls2 := [(4, .int 0), (0, .ref 111), (1, .int (nI x2)), (2, .int a2), (3, .int a3)]) (st2 := []) (w3 := w83) rfl rfl ?_
                  exact sx_RP.ls (sx_lr.cons rfl (sx_lr.cons rfl (sx_lr.cons rfl sx_lr.nil))) (s230tL (show x2 < 4 by omega) 40 0 w83  (by omega) (by omega) hI84 hE85 )
              · replace q75 := of_decide_eq_false q75
                refine sx_RP.step (pc2 := 53) (ls2 := [(0, .ref 111), (1, .int (nI x2)), (2, .int a2), (3, .int a3)]) (st2 := [.ref 111]) (w3 := w) rfl rfl ?_
                refine sx_RP.step (pc2 := 54) (ls2 := [(0, .ref 111), (1, .int (nI x2)), (2, .int a2), (3, .int a3)]) (st2 := [.int 0, .ref 111]) (w3 := w) rfl rfl ?_
                refine sx_RP.callp (as2 := [.ref 111, .int 0]) (rest2 := []) rfl rfl (sx_inv_v2 (mi := 230) (k := 70) (st := [.int 0, .ref 111]) (w := w) rfl rfl hI.1.o111 rfl rfl rfl) rfl rfl rfl (s133_0 hI) (show _ = 57 from rfl) ?_
                rintro r4 w86 ⟨rfl, hI87, hE89⟩
                have hE88 := hE.tr (hE89.eft hI hI87)
                show sx_RP _ _ _ _ _ [.int (-1000000001)] _ _
                refine sx_RP.ret (r := (some (.int (-1000000001)))) rfl rfl ?_
                exact ⟨⟨_, rfl⟩, hI87, hE88⟩
            · replace q74 := of_decide_eq_false q74
              refine sx_RP.step (pc2 := 40) (ls2 := [(0, .ref 111), (1, .int (nI x2)), (2, .int a2), (3, .int a3)]) (st2 := [.ref 111]) (w3 := w) rfl rfl ?_
              refine sx_RP.step (pc2 := 42) (ls2 := [(0, .ref 111), (1, .int (nI x2)), (2, .int a2), (3, .int a3)]) (st2 := [.int 6, .ref 111]) (w3 := w) rfl rfl ?_
              refine sx_RP.callp (as2 := [.ref 111, .int 6]) (rest2 := []) rfl rfl (sx_inv_v2 (mi := 230) (k := 70) (st := [.int 6, .ref 111]) (w := w) rfl rfl hI.1.o111 rfl rfl rfl) rfl rfl rfl (s133_6 hI) (show _ = 45 from rfl) ?_
              rintro r4 w90 ⟨rfl, hI91, hE93⟩
              have hE92 := hE.tr (hE93.eft hI hI91)
              show sx_RP _ _ _ _ _ [.int (-1000000007)] _ _
              refine sx_RP.ret (r := (some (.int (-1000000007)))) rfl rfl ?_
              exact ⟨⟨_, rfl⟩, hI91, hE92⟩
          · replace q73 := of_decide_eq_false q73
            refine sx_RP.step (pc2 := 30) (ls2 := [(0, .ref 111), (1, .int (nI x2)), (2, .int a2), (3, .int a3)]) (st2 := [.ref 111]) (w3 := w) rfl rfl ?_
            refine sx_RP.step (pc2 := 31) (ls2 := [(0, .ref 111), (1, .int (nI x2)), (2, .int a2), (3, .int a3)]) (st2 := [.int 0, .ref 111]) (w3 := w) rfl rfl ?_
            refine sx_RP.callp (as2 := [.ref 111, .int 0]) (rest2 := []) rfl rfl (sx_inv_v2 (mi := 230) (k := 70) (st := [.int 0, .ref 111]) (w := w) rfl rfl hI.1.o111 rfl rfl rfl) rfl rfl rfl (s133_0 hI) (show _ = 34 from rfl) ?_
            rintro r4 w94 ⟨rfl, hI95, hE97⟩
            have hE96 := hE.tr (hE97.eft hI hI95)
            show sx_RP _ _ _ _ _ [.int (-1000000001)] _ _
            refine sx_RP.ret (r := (some (.int (-1000000001)))) rfl rfl ?_
            exact ⟨⟨_, rfl⟩, hI95, hE96⟩
set_option maxRecDepth 20000 in
set_option maxHeartbeats 4000000 in
theorem s210eT {xs : Option (List Int32)} {d : Nat} {w w0 : List sx_C} (l : Int32) (hI : WI w) (hE : EF w0 w) : sx_RP xs (d + 8) 210 83 [(0, .ref 111), (1, .int l)] [] w (fun r w2 => (∃ v : Int32, r = some (.int v)) ∧ WI w2 ∧ EF w0 w2 ∧ fi w2 111 11 = 0) := by
  refine sx_RP.step (pc2 := 84) (ls2 := [(0, .ref 111), (1, .int l)]) (st2 := [.ref 111]) (w3 := w) rfl rfl ?_
  refine sx_RP.gf (v := .int (fi w 111 13)) rfl rfl hI.1.o111 rfl rfl (show _ = 87 from rfl) ?_
  refine sx_RP.br (p1 := 106) (l1 := [(0, .ref 111), (1, .int l)]) (s1 := []) (v1 := w) (p2 := 90) (l2 := [(0, .ref 111), (1, .int l)]) (s2 := []) (v2 := w) rfl rfl (fun q1 => ?_) (fun q1 => ?_)
  · replace q1 := of_decide_eq_true q1
    refine sx_RP.step (pc2 := 107) (ls2 := [(0, .ref 111), (1, .int l)]) (st2 := [.ref 111]) (w3 := w) rfl rfl ?_
    refine sx_RP.step (pc2 := 108) (ls2 := [(0, .ref 111), (1, .int l)]) (st2 := [.int 0, .ref 111]) (w3 := w) rfl rfl ?_
    refine sx_RP.pmtF hI hE rfl rfl rfl ⟨0, by decide, rfl⟩ (show _ = 111 from rfl) (fun w2 hI3 hE4 ht5 => ?_)
    refine sx_RP.step (pc2 := 112) (ls2 := [(0, .ref 111), (1, .int l)]) (st2 := [.ref 111]) (w3 := w2) rfl rfl ?_
    refine sx_RP.gf (v := .int (fi w2 111 13)) rfl rfl hI3.1.o111 rfl rfl (show _ = 115 from rfl) ?_
    refine sx_RP.br (p1 := 136) (l1 := [(0, .ref 111), (1, .int l)]) (s1 := []) (v1 := w2) (p2 := 118) (l2 := [(0, .ref 111), (1, .int l)]) (s2 := []) (v2 := w2) rfl rfl (fun q6 => ?_) (fun q6 => ?_)
    · replace q6 := of_decide_eq_true q6
      refine sx_RP.step (pc2 := 137) (ls2 := [(0, .ref 111), (1, .int l)]) (st2 := [.int l]) (w3 := w2) rfl rfl ?_
      refine sx_RP.ret (r := (some (.int l))) rfl rfl ?_
      exact ⟨⟨_, rfl⟩, hI3, hE4, ht5⟩
    · replace q6 := of_decide_eq_false q6
      refine sx_RP.step (pc2 := 119) (ls2 := [(0, .ref 111), (1, .int l)]) (st2 := [.ref 111]) (w3 := w2) rfl rfl ?_
      refine sx_RP.gf (v := .ref 115) rfl rfl hI3.1.o111 rfl rfl (show _ = 122 from rfl) ?_
      refine sx_RP.step (pc2 := 123) (ls2 := [(0, .ref 111), (1, .int l)]) (st2 := [.ref 111, .ref 115]) (w3 := w2) rfl rfl ?_
      refine sx_RP.gf (v := .ref 112) rfl rfl hI3.1.o111 rfl rfl (show _ = 126 from rfl) ?_
      refine sx_RP.callp (as2 := [.ref 115, .ref 112]) (rest2 := []) rfl rfl rfl rfl rfl rfl (s175 hI3 (a := 115) (b := 112) (by decide) (by decide)) (show _ = 129 from rfl) ?_
      rintro r4 w7 ⟨rfl, hI8, hE10⟩
      have hE9 := hE4.tr (hE10.ef hI3 hI8)
      show sx_RP _ _ _ _ _ [] _ _
      refine sx_RP.step (pc2 := 130) (ls2 := [(0, .ref 111), (1, .int l)]) (st2 := [.int (-1)]) (w3 := w7) rfl rfl ?_
      refine sx_RP.step (pc2 := 131) (ls2 := [(0, .ref 111), (1, .int l)]) (st2 := [.ref 111, .int (-1)]) (w3 := w7) rfl rfl ?_
      refine sx_RP.gf (v := .int (fi w7 111 13)) rfl rfl hI8.1.o111 rfl rfl (show _ = 134 from rfl) ?_
      refine sx_RP.step (pc2 := 135) (ls2 := [(0, .ref 111), (1, .int l)]) (st2 := [.int ((-1) - (fi w7 111 13))]) (w3 := w7) rfl rfl ?_
      refine sx_RP.ret (r := (some (.int ((-1) - (fi w7 111 13))))) rfl rfl ?_
      exact ⟨⟨_, rfl⟩, hI8, hE9, ((keep111 hI3 hI8 ((hE10 111).2 (by decide))).2).trans ht5⟩
  · replace q1 := of_decide_eq_false q1
    refine sx_RP.step (pc2 := 91) (ls2 := [(0, .ref 111), (1, .int l)]) (st2 := [.ref 111]) (w3 := w) rfl rfl ?_
    refine sx_RP.gf (v := .int (fi w 111 12)) rfl rfl hI.1.o111 rfl rfl (show _ = 94 from rfl) ?_
    obtain ⟨x11, hx12, ex13⟩ : inR (fi w 111 12) 120 := hI.m.2.2
    rw [ex13]
    refine sx_RP.step (pc2 := 95) (ls2 := [(0, .ref 111), (1, .int l)]) (st2 := [.ref 111, .int (nI x11)]) (w3 := w) rfl rfl ?_
    refine sx_RP.gf (v := .int (fi w 111 11)) rfl rfl hI.1.o111 rfl rfl (show _ = 98 from rfl) ?_
    obtain ⟨x14, hx15, ex16⟩ : inR (fi w 111 11) 120 := hI.m.2.1
    rw [ex16]
    refine sx_RP.br (p1 := 106) (l1 := [(0, .ref 111), (1, .int l)]) (s1 := []) (v1 := w) (p2 := 101) (l2 := [(0, .ref 111), (1, .int l)]) (s2 := []) (v2 := w) rfl rfl (fun q17 => ?_) (fun q17 => ?_)
    · replace q17 := of_decide_eq_true q17
      replace q17 := (nI_leI (a := x14) (b := x11) (by omega) (by omega)).mp q17
      refine sx_RP.step (pc2 := 107) (ls2 := [(0, .ref 111), (1, .int l)]) (st2 := [.ref 111]) (w3 := w) rfl rfl ?_
      refine sx_RP.step (pc2 := 108) (ls2 := [(0, .ref 111), (1, .int l)]) (st2 := [.int 0, .ref 111]) (w3 := w) rfl rfl ?_
      refine sx_RP.pmtF hI hE rfl rfl rfl ⟨0, by decide, rfl⟩ (show _ = 111 from rfl) (fun w18 hI19 hE20 ht21 => ?_)
      refine sx_RP.step (pc2 := 112) (ls2 := [(0, .ref 111), (1, .int l)]) (st2 := [.ref 111]) (w3 := w18) rfl rfl ?_
      refine sx_RP.gf (v := .int (fi w18 111 13)) rfl rfl hI19.1.o111 rfl rfl (show _ = 115 from rfl) ?_
      refine sx_RP.br (p1 := 136) (l1 := [(0, .ref 111), (1, .int l)]) (s1 := []) (v1 := w18) (p2 := 118) (l2 := [(0, .ref 111), (1, .int l)]) (s2 := []) (v2 := w18) rfl rfl (fun q22 => ?_) (fun q22 => ?_)
      · replace q22 := of_decide_eq_true q22
        refine sx_RP.step (pc2 := 137) (ls2 := [(0, .ref 111), (1, .int l)]) (st2 := [.int l]) (w3 := w18) rfl rfl ?_
        refine sx_RP.ret (r := (some (.int l))) rfl rfl ?_
        exact ⟨⟨_, rfl⟩, hI19, hE20, ht21⟩
      · replace q22 := of_decide_eq_false q22
        refine sx_RP.step (pc2 := 119) (ls2 := [(0, .ref 111), (1, .int l)]) (st2 := [.ref 111]) (w3 := w18) rfl rfl ?_
        refine sx_RP.gf (v := .ref 115) rfl rfl hI19.1.o111 rfl rfl (show _ = 122 from rfl) ?_
        refine sx_RP.step (pc2 := 123) (ls2 := [(0, .ref 111), (1, .int l)]) (st2 := [.ref 111, .ref 115]) (w3 := w18) rfl rfl ?_
        refine sx_RP.gf (v := .ref 112) rfl rfl hI19.1.o111 rfl rfl (show _ = 126 from rfl) ?_
        refine sx_RP.callp (as2 := [.ref 115, .ref 112]) (rest2 := []) rfl rfl rfl rfl rfl rfl (s175 hI19 (a := 115) (b := 112) (by decide) (by decide)) (show _ = 129 from rfl) ?_
        rintro r4 w23 ⟨rfl, hI24, hE26⟩
        have hE25 := hE20.tr (hE26.ef hI19 hI24)
        show sx_RP _ _ _ _ _ [] _ _
        refine sx_RP.step (pc2 := 130) (ls2 := [(0, .ref 111), (1, .int l)]) (st2 := [.int (-1)]) (w3 := w23) rfl rfl ?_
        refine sx_RP.step (pc2 := 131) (ls2 := [(0, .ref 111), (1, .int l)]) (st2 := [.ref 111, .int (-1)]) (w3 := w23) rfl rfl ?_
        refine sx_RP.gf (v := .int (fi w23 111 13)) rfl rfl hI24.1.o111 rfl rfl (show _ = 134 from rfl) ?_
        refine sx_RP.step (pc2 := 135) (ls2 := [(0, .ref 111), (1, .int l)]) (st2 := [.int ((-1) - (fi w23 111 13))]) (w3 := w23) rfl rfl ?_
        refine sx_RP.ret (r := (some (.int ((-1) - (fi w23 111 13))))) rfl rfl ?_
        exact ⟨⟨_, rfl⟩, hI24, hE25, ((keep111 hI19 hI24 ((hE26 111).2 (by decide))).2).trans ht21⟩
    · replace q17 := of_decide_eq_false q17
      replace q17 := mt (nI_leI (a := x14) (b := x11) (by omega) (by omega)).mpr q17
      refine sx_RP.step (pc2 := 102) (ls2 := [(0, .ref 111), (1, .int l)]) (st2 := [.ref 111]) (w3 := w) rfl rfl ?_
      refine sx_RP.callp (as2 := [.ref 111]) (rest2 := []) rfl rfl (sx_inv_v2 (mi := 210) (k := 245) (st := [.ref 111]) (w := w) rfl rfl hI.1.o111 rfl rfl rfl) rfl rfl rfl (s222 hI) (show _ = 105 from rfl) ?_
      rintro r4 w27 ⟨rfl, hI28, hE30⟩
      have hE29 := hE.tr (hE30.em.ef hI hI28)
      show sx_RP _ _ _ _ _ [.int 0] _ _
      refine sx_RP.step (pc2 := 106) (ls2 := [(0, .ref 111), (1, .int l)]) (st2 := []) (w3 := w27) rfl rfl ?_
      refine sx_RP.step (pc2 := 107) (ls2 := [(0, .ref 111), (1, .int l)]) (st2 := [.ref 111]) (w3 := w27) rfl rfl ?_
      refine sx_RP.step (pc2 := 108) (ls2 := [(0, .ref 111), (1, .int l)]) (st2 := [.int 0, .ref 111]) (w3 := w27) rfl rfl ?_
      refine sx_RP.pmtF hI28 hE29 rfl rfl rfl ⟨0, by decide, rfl⟩ (show _ = 111 from rfl) (fun w31 hI32 hE33 ht34 => ?_)
      refine sx_RP.step (pc2 := 112) (ls2 := [(0, .ref 111), (1, .int l)]) (st2 := [.ref 111]) (w3 := w31) rfl rfl ?_
      refine sx_RP.gf (v := .int (fi w31 111 13)) rfl rfl hI32.1.o111 rfl rfl (show _ = 115 from rfl) ?_
      refine sx_RP.br (p1 := 136) (l1 := [(0, .ref 111), (1, .int l)]) (s1 := []) (v1 := w31) (p2 := 118) (l2 := [(0, .ref 111), (1, .int l)]) (s2 := []) (v2 := w31) rfl rfl (fun q35 => ?_) (fun q35 => ?_)
      · replace q35 := of_decide_eq_true q35
        refine sx_RP.step (pc2 := 137) (ls2 := [(0, .ref 111), (1, .int l)]) (st2 := [.int l]) (w3 := w31) rfl rfl ?_
        refine sx_RP.ret (r := (some (.int l))) rfl rfl ?_
        exact ⟨⟨_, rfl⟩, hI32, hE33, ht34⟩
      · replace q35 := of_decide_eq_false q35
        refine sx_RP.step (pc2 := 119) (ls2 := [(0, .ref 111), (1, .int l)]) (st2 := [.ref 111]) (w3 := w31) rfl rfl ?_
        refine sx_RP.gf (v := .ref 115) rfl rfl hI32.1.o111 rfl rfl (show _ = 122 from rfl) ?_
        refine sx_RP.step (pc2 := 123) (ls2 := [(0, .ref 111), (1, .int l)]) (st2 := [.ref 111, .ref 115]) (w3 := w31) rfl rfl ?_
        refine sx_RP.gf (v := .ref 112) rfl rfl hI32.1.o111 rfl rfl (show _ = 126 from rfl) ?_
        refine sx_RP.callp (as2 := [.ref 115, .ref 112]) (rest2 := []) rfl rfl rfl rfl rfl rfl (s175 hI32 (a := 115) (b := 112) (by decide) (by decide)) (show _ = 129 from rfl) ?_
        rintro r4 w36 ⟨rfl, hI37, hE39⟩
        have hE38 := hE33.tr (hE39.ef hI32 hI37)
        show sx_RP _ _ _ _ _ [] _ _
        refine sx_RP.step (pc2 := 130) (ls2 := [(0, .ref 111), (1, .int l)]) (st2 := [.int (-1)]) (w3 := w36) rfl rfl ?_
        refine sx_RP.step (pc2 := 131) (ls2 := [(0, .ref 111), (1, .int l)]) (st2 := [.ref 111, .int (-1)]) (w3 := w36) rfl rfl ?_
        refine sx_RP.gf (v := .int (fi w36 111 13)) rfl rfl hI37.1.o111 rfl rfl (show _ = 134 from rfl) ?_
        refine sx_RP.step (pc2 := 135) (ls2 := [(0, .ref 111), (1, .int l)]) (st2 := [.int ((-1) - (fi w36 111 13))]) (w3 := w36) rfl rfl ?_
        refine sx_RP.ret (r := (some (.int ((-1) - (fi w36 111 13))))) rfl rfl ?_
        exact ⟨⟨_, rfl⟩, hI37, hE38, ((keep111 hI32 hI37 ((hE39 111).2 (by decide))).2).trans ht34⟩
set_option maxRecDepth 20000 in
set_option maxHeartbeats 4000000 in
theorem s210LT {xs : Option (List Int32)} {d : Nat} {w0 : List sx_C} : ∀ (fz p : Nat) (l : Int32) (w : List sx_C), 121 ≤ p + fz → p ≤ 120 → fi w 111 12 = nI p → WI w → EF w0 w → sx_RP xs (d + 8) 210 25 [(0, .ref 111), (1, .int l), (2, .int 1)] [] w (fun r w2 => (∃ v : Int32, r = some (.int v)) ∧ WI w2 ∧ EF w0 w2 ∧ fi w2 111 11 = 0)
  | fz, p, l, w, h, hp, ep, hI, hE => by
    refine sx_RP.step (pc2 := 26) (ls2 := [(0, .ref 111), (1, .int l), (2, .int 1)]) (st2 := [.int 1]) (w3 := w) rfl rfl ?_
    refine sx_RP.step (pc2 := 29) (ls2 := [(0, .ref 111), (1, .int l), (2, .int 1)]) (st2 := []) (w3 := w) rfl rfl ?_
    refine sx_RP.step (pc2 := 30) (ls2 := [(0, .ref 111), (1, .int l), (2, .int 1)]) (st2 := [.ref 111]) (w3 := w) rfl rfl ?_
    refine sx_RP.callp (as2 := [.ref 111]) (rest2 := []) rfl rfl (sx_inv_v2 (mi := 210) (k := 333) (st := [.ref 111]) (w := w) rfl rfl hI.1.o111 rfl rfl rfl) rfl rfl rfl (s211 hI ) (show _ = 33 from rfl) ?_
    rintro r4 w1 ⟨(rfl | rfl), hI2, hE4⟩
    · have hE3 := hE.tr (hE4.1.ef hI hI2)
      show sx_RP _ _ _ _ _ [.int 0] _ _
      refine sx_RP.step (pc2 := 83) (ls2 := [(0, .ref 111), (1, .int l), (2, .int 1)]) (st2 := []) (w3 := w1) rfl rfl ?_
      exact sx_RP.ls (sx_lr.cons rfl (sx_lr.cons rfl sx_lr.nil)) (s210eT _ hI2 hE3)
    · have hE3 := hE.tr (hE4.1.ef hI hI2)
      show sx_RP _ _ _ _ _ [.int 1] _ _
      refine sx_RP.step (pc2 := 36) (ls2 := [(0, .ref 111), (1, .int l), (2, .int 1)]) (st2 := []) (w3 := w1) rfl rfl ?_
      refine sx_RP.step (pc2 := 39) (ls2 := [(1, .int (l + 1)), (0, .ref 111), (2, .int 1)]) (st2 := []) (w3 := w1) rfl rfl ?_
      refine sx_RP.step (pc2 := 40) (ls2 := [(1, .int (l + 1)), (0, .ref 111), (2, .int 1)]) (st2 := [.ref 111]) (w3 := w1) rfl rfl ?_
      refine sx_RP.callp (as2 := [.ref 111]) (rest2 := []) rfl rfl (sx_inv_v2 (mi := 210) (k := 224) (st := [.ref 111]) (w := w1) rfl rfl hI2.1.o111 rfl rfl rfl) rfl rfl rfl (s215 hI2) (show _ = 43 from rfl) ?_
      rintro r4 w5 ⟨⟨rfl, _⟩, hI6, hE8⟩
      have hE7 := hE3.tr (hE8.em.ef hI2 hI6)
      show sx_RP _ _ _ _ _ [] _ _
      refine sx_RP.step (pc2 := 44) (ls2 := [(1, .int (l + 1)), (0, .ref 111), (2, .int 1)]) (st2 := [.ref 111]) (w3 := w5) rfl rfl ?_
      refine sx_RP.step (pc2 := 45) (ls2 := [(1, .int (l + 1)), (0, .ref 111), (2, .int 1)]) (st2 := [.ref 111, .ref 111]) (w3 := w5) rfl rfl ?_
      refine sx_RP.gf (v := .int (fi w5 111 12)) rfl rfl hI6.1.o111 rfl rfl (show _ = 48 from rfl) ?_
      obtain ⟨x9, hx10, ex11⟩ : inR (fi w5 111 12) 120 := hI6.m.2.2
      rw [ex11]
      rcases p216 (xs := xs) (a := x9) hI6 (by omega) with c12 | ⟨hx13, v14, c12⟩
      · refine sx_RP.cu (as := [.ref 111, .int (nI x9)]) (rest2 := []) (st3 := [.int (-1)]) rfl rfl (sx_inv_v2 (mi := 210) (k := 215) (st := [.int (nI x9), .ref 111]) (w := w5) rfl rfl hI6.1.o111 rfl rfl rfl) rfl rfl (c12) rfl ?_
        refine sx_RP.step (pc2 := 53) (ls2 := [(1, .int (l + 1)), (0, .ref 111), (2, .int 1)]) (st2 := [.int 59, .int (-1)]) (w3 := w5) rfl rfl ?_
        refine sx_RP.step (pc2 := 60) (ls2 := [(1, .int (l + 1)), (0, .ref 111), (2, .int 1)]) (st2 := []) (w3 := w5) rfl rfl ?_
        refine sx_RP.step (pc2 := 61) (ls2 := [(1, .int (l + 1)), (0, .ref 111), (2, .int 1)]) (st2 := [.int 0]) (w3 := w5) rfl rfl ?_
        refine sx_RP.step (pc2 := 62) (ls2 := [(2, .int 0), (1, .int (l + 1)), (0, .ref 111)]) (st2 := []) (w3 := w5) rfl rfl ?_
        refine sx_RP.step (pc2 := 63) (ls2 := [(2, .int 0), (1, .int (l + 1)), (0, .ref 111)]) (st2 := [.ref 111]) (w3 := w5) rfl rfl ?_
        refine sx_RP.step (pc2 := 64) (ls2 := [(2, .int 0), (1, .int (l + 1)), (0, .ref 111)]) (st2 := [.ref 111, .ref 111]) (w3 := w5) rfl rfl ?_
        refine sx_RP.gf (v := .int (fi w5 111 12)) rfl rfl hI6.1.o111 rfl rfl (show _ = 67 from rfl) ?_
        rw [ex11]
        refine sx_RP.step (pc2 := 68) (ls2 := [(2, .int 0), (1, .int (l + 1)), (0, .ref 111)]) (st2 := [.int 0, .int (nI x9), .ref 111]) (w3 := w5) rfl rfl ?_
        refine sx_RP.step (pc2 := 75) (ls2 := [(2, .int 0), (1, .int (l + 1)), (0, .ref 111)]) (st2 := [.int (nI x9), .ref 111]) (w3 := w5) rfl rfl ?_
        refine sx_RP.step (pc2 := 76) (ls2 := [(2, .int 0), (1, .int (l + 1)), (0, .ref 111)]) (st2 := [.int 0, .int (nI x9), .ref 111]) (w3 := w5) rfl rfl ?_
        refine sx_RP.step (pc2 := 77) (ls2 := [(2, .int 0), (1, .int (l + 1)), (0, .ref 111)]) (st2 := [.int ((nI x9) + 0), .ref 111]) (w3 := w5) rfl rfl ?_
        rw [show ((nI x9) + 0 : Int32) = nI (x9 + 0) from nI_add x9 0]
        have hpx := hr_n ep ex11 (by omega) (by omega) (Int.le_trans hE4.2 hE8.2.2)
        refine sx_RP.pmF (k := 12) hI6 hE7 rfl rfl (by decide) rfl (inR.n (show (x9 + 0) ≤ 120 by omega)) (show _ = 80 from rfl) (fun w15 hI16 hE17 ht18 ht19 ht20 => ?_)
        refine sx_RP.step (pc2 := 25) (ls2 := [(2, .int 0), (1, .int (l + 1)), (0, .ref 111)]) (st2 := []) (w3 := w15) rfl rfl ?_
        refine sx_RP.step (pc2 := 26) (ls2 := [(2, .int 0), (1, .int (l + 1)), (0, .ref 111)]) (st2 := [.int 0]) (w3 := w15) rfl rfl ?_
        refine sx_RP.step (pc2 := 83) (ls2 := [(2, .int 0), (1, .int (l + 1)), (0, .ref 111)]) (st2 := []) (w3 := w15) rfl rfl ?_
        exact sx_RP.ls (sx_lr.cons rfl (sx_lr.cons rfl sx_lr.nil)) (s210eT _ hI16 hE17)
      · refine sx_RP.cu (as := [.ref 111, .int (nI x9)]) (rest2 := []) (st3 := [.int v14]) rfl rfl (sx_inv_v2 (mi := 210) (k := 215) (st := [.int (nI x9), .ref 111]) (w := w5) rfl rfl hI6.1.o111 rfl rfl rfl) rfl rfl (c12) rfl ?_
        refine sx_RP.step (pc2 := 53) (ls2 := [(1, .int (l + 1)), (0, .ref 111), (2, .int 1)]) (st2 := [.int 59, .int v14]) (w3 := w5) rfl rfl ?_
        refine sx_RP.br (p1 := 60) (l1 := [(1, .int (l + 1)), (0, .ref 111), (2, .int 1)]) (s1 := []) (v1 := w5) (p2 := 56) (l2 := [(1, .int (l + 1)), (0, .ref 111), (2, .int 1)]) (s2 := []) (v2 := w5) rfl rfl (fun q21 => ?_) (fun q21 => ?_)
        · replace q21 := of_decide_eq_true q21
          refine sx_RP.step (pc2 := 61) (ls2 := [(1, .int (l + 1)), (0, .ref 111), (2, .int 1)]) (st2 := [.int 0]) (w3 := w5) rfl rfl ?_
          refine sx_RP.step (pc2 := 62) (ls2 := [(2, .int 0), (1, .int (l + 1)), (0, .ref 111)]) (st2 := []) (w3 := w5) rfl rfl ?_
          refine sx_RP.step (pc2 := 63) (ls2 := [(2, .int 0), (1, .int (l + 1)), (0, .ref 111)]) (st2 := [.ref 111]) (w3 := w5) rfl rfl ?_
          refine sx_RP.step (pc2 := 64) (ls2 := [(2, .int 0), (1, .int (l + 1)), (0, .ref 111)]) (st2 := [.ref 111, .ref 111]) (w3 := w5) rfl rfl ?_
          refine sx_RP.gf (v := .int (fi w5 111 12)) rfl rfl hI6.1.o111 rfl rfl (show _ = 67 from rfl) ?_
          rw [ex11]
          refine sx_RP.step (pc2 := 68) (ls2 := [(2, .int 0), (1, .int (l + 1)), (0, .ref 111)]) (st2 := [.int 0, .int (nI x9), .ref 111]) (w3 := w5) rfl rfl ?_
          refine sx_RP.step (pc2 := 75) (ls2 := [(2, .int 0), (1, .int (l + 1)), (0, .ref 111)]) (st2 := [.int (nI x9), .ref 111]) (w3 := w5) rfl rfl ?_
          refine sx_RP.step (pc2 := 76) (ls2 := [(2, .int 0), (1, .int (l + 1)), (0, .ref 111)]) (st2 := [.int 0, .int (nI x9), .ref 111]) (w3 := w5) rfl rfl ?_
          refine sx_RP.step (pc2 := 77) (ls2 := [(2, .int 0), (1, .int (l + 1)), (0, .ref 111)]) (st2 := [.int ((nI x9) + 0), .ref 111]) (w3 := w5) rfl rfl ?_
          rw [show ((nI x9) + 0 : Int32) = nI (x9 + 0) from nI_add x9 0]
          have hpx := hr_n ep ex11 (by omega) (by omega) (Int.le_trans hE4.2 hE8.2.2)
          refine sx_RP.pmF (k := 12) hI6 hE7 rfl rfl (by decide) rfl (inR.n (show (x9 + 0) ≤ 120 by omega)) (show _ = 80 from rfl) (fun w22 hI23 hE24 ht25 ht26 ht27 => ?_)
          refine sx_RP.step (pc2 := 25) (ls2 := [(2, .int 0), (1, .int (l + 1)), (0, .ref 111)]) (st2 := []) (w3 := w22) rfl rfl ?_
          refine sx_RP.step (pc2 := 26) (ls2 := [(2, .int 0), (1, .int (l + 1)), (0, .ref 111)]) (st2 := [.int 0]) (w3 := w22) rfl rfl ?_
          refine sx_RP.step (pc2 := 83) (ls2 := [(2, .int 0), (1, .int (l + 1)), (0, .ref 111)]) (st2 := []) (w3 := w22) rfl rfl ?_
          exact sx_RP.ls (sx_lr.cons rfl (sx_lr.cons rfl sx_lr.nil)) (s210eT _ hI23 hE24)
        · replace q21 := Decidable.not_not.mp (of_decide_eq_false q21)
          refine sx_RP.step (pc2 := 57) (ls2 := [(1, .int (l + 1)), (0, .ref 111), (2, .int 1)]) (st2 := [.int 1]) (w3 := w5) rfl rfl ?_
          refine sx_RP.step (pc2 := 61) (ls2 := [(1, .int (l + 1)), (0, .ref 111), (2, .int 1)]) (st2 := [.int 1]) (w3 := w5) rfl rfl ?_
          refine sx_RP.step (pc2 := 62) (ls2 := [(2, .int 1), (1, .int (l + 1)), (0, .ref 111)]) (st2 := []) (w3 := w5) rfl rfl ?_
          refine sx_RP.step (pc2 := 63) (ls2 := [(2, .int 1), (1, .int (l + 1)), (0, .ref 111)]) (st2 := [.ref 111]) (w3 := w5) rfl rfl ?_
          refine sx_RP.step (pc2 := 64) (ls2 := [(2, .int 1), (1, .int (l + 1)), (0, .ref 111)]) (st2 := [.ref 111, .ref 111]) (w3 := w5) rfl rfl ?_
          refine sx_RP.gf (v := .int (fi w5 111 12)) rfl rfl hI6.1.o111 rfl rfl (show _ = 67 from rfl) ?_
          rw [ex11]
          refine sx_RP.step (pc2 := 68) (ls2 := [(2, .int 1), (1, .int (l + 1)), (0, .ref 111)]) (st2 := [.int 1, .int (nI x9), .ref 111]) (w3 := w5) rfl rfl ?_
          refine sx_RP.step (pc2 := 71) (ls2 := [(2, .int 1), (1, .int (l + 1)), (0, .ref 111)]) (st2 := [.int (nI x9), .ref 111]) (w3 := w5) rfl rfl ?_
          refine sx_RP.step (pc2 := 72) (ls2 := [(2, .int 1), (1, .int (l + 1)), (0, .ref 111)]) (st2 := [.int 1, .int (nI x9), .ref 111]) (w3 := w5) rfl rfl ?_
          refine sx_RP.step (pc2 := 76) (ls2 := [(2, .int 1), (1, .int (l + 1)), (0, .ref 111)]) (st2 := [.int 1, .int (nI x9), .ref 111]) (w3 := w5) rfl rfl ?_
          refine sx_RP.step (pc2 := 77) (ls2 := [(2, .int 1), (1, .int (l + 1)), (0, .ref 111)]) (st2 := [.int ((nI x9) + 1), .ref 111]) (w3 := w5) rfl rfl ?_
          rw [show ((nI x9) + 1 : Int32) = nI (x9 + 1) from nI_add x9 1]
          have hpx := hr_n ep ex11 (by omega) (by omega) (Int.le_trans hE4.2 hE8.2.2)
          refine sx_RP.pmF (k := 12) hI6 hE7 rfl rfl (by decide) rfl (inR.n (show (x9 + 1) ≤ 120 by omega)) (show _ = 80 from rfl) (fun w28 hI29 hE30 ht31 ht32 ht33 => ?_)
          refine sx_RP.step (pc2 := 25) (ls2 := [(2, .int 1), (1, .int (l + 1)), (0, .ref 111)]) (st2 := []) (w3 := w28) rfl rfl ?_
          match fz, h with
          | 0, h => exact absurd h (by omega)
          | fz + 1, h => exact sx_RP.ls (sx_lr.cons rfl (sx_lr.cons rfl (sx_lr.cons rfl sx_lr.nil))) (s210LT fz ((x9 + 1)) _ _ (by omega) (by omega) ht31 hI29 hE30)
set_option maxRecDepth 20000 in
set_option maxHeartbeats 4000000 in
theorem s210T {xs : Option (List Int32)} {d : Nat} {w : List sx_C} (hI : WI w) : sx_RP xs (d + 8) 210 0 (lv_args 0 [.ref 111]) [] w (fun r w2 => (∃ v : Int32, r = some (.int v)) ∧ WI w2 ∧ EF w w2 ∧ fi w2 111 11 = 0) := by
  have hE : EF w w := EF.rf
  refine sx_RP.step (pc2 := 1) (ls2 := [(0, .ref 111)]) (st2 := [.ref 111]) (w3 := w) rfl rfl ?_
  refine sx_RP.step (pc2 := 2) (ls2 := [(0, .ref 111)]) (st2 := [.int 0, .ref 111]) (w3 := w) rfl rfl ?_
  refine sx_RP.pmF (k := 12) hI hE rfl rfl (by decide) rfl (show inR 0 120 from ⟨0, by decide, rfl⟩) (show _ = 5 from rfl) (fun w1 hI2 hE3 ht4 ht5 ht6 => ?_)
  refine sx_RP.step (pc2 := 6) (ls2 := [(0, .ref 111)]) (st2 := [.ref 111]) (w3 := w1) rfl rfl ?_
  refine sx_RP.step (pc2 := 7) (ls2 := [(0, .ref 111)]) (st2 := [.int (-1), .ref 111]) (w3 := w1) rfl rfl ?_
  refine sx_RP.pmF (k := 13) hI2 hE3 rfl rfl (by decide) rfl trivial (show _ = 10 from rfl) (fun w7 hI8 hE9 ht10 ht11 ht12 => ?_)
  have ex13 := (ht11 12 (by decide)).trans ht4
  refine sx_RP.step (pc2 := 11) (ls2 := [(0, .ref 111)]) (st2 := [.ref 111]) (w3 := w7) rfl rfl ?_
  refine sx_RP.gf (v := .ref 112) rfl rfl hI8.1.o111 rfl rfl (show _ = 14 from rfl) ?_
  refine sx_RP.step (pc2 := 15) (ls2 := [(0, .ref 111)]) (st2 := [.ref 111, .ref 112]) (w3 := w7) rfl rfl ?_
  refine sx_RP.gf (v := .ref 115) rfl rfl hI8.1.o111 rfl rfl (show _ = 18 from rfl) ?_
  refine sx_RP.callp (as2 := [.ref 112, .ref 115]) (rest2 := []) rfl rfl rfl rfl rfl rfl (s175 hI8 (a := 112) (b := 115) (by decide) (by decide)) (show _ = 21 from rfl) ?_
  rintro r4 w14 ⟨rfl, hI15, hE17⟩
  have hE16 := hE9.tr (hE17.ef hI8 hI15)
  show sx_RP _ _ _ _ _ [] _ _
  refine sx_RP.step (pc2 := 22) (ls2 := [(0, .ref 111)]) (st2 := [.int 0]) (w3 := w14) rfl rfl ?_
  refine sx_RP.step (pc2 := 23) (ls2 := [(1, .int 0), (0, .ref 111)]) (st2 := []) (w3 := w14) rfl rfl ?_
  refine sx_RP.step (pc2 := 24) (ls2 := [(1, .int 0), (0, .ref 111)]) (st2 := [.int 1]) (w3 := w14) rfl rfl ?_
  refine sx_RP.step (pc2 := 25) (ls2 := [(2, .int 1), (1, .int 0), (0, .ref 111)]) (st2 := []) (w3 := w14) rfl rfl ?_
  obtain ⟨pz, hpz, epz⟩ := hI15.m.2.2
  exact sx_RP.ls (sx_lr.cons rfl (sx_lr.cons rfl (sx_lr.cons rfl sx_lr.nil))) (s210LT 121 pz _ _ (by omega) hpz epz hI15 hE16)
