-- answers: walls
def wlN (l : List Int32) : Nat → Int64
  | 0 => 0
  | n + 1 => wlN l n ||| (if l.getD (55 + n) 0 = 1 then (1 : Int64) <<< ((nI n).toInt64 &&& 63) else 0)
theorem bit_or0 {v : Int64} {j : Nat} : bitL (v ||| 0) j = bitL v j := by
  unfold bitL
  rw [Int64.toBitVec_or, BitVec.getLsbD_or, show ((0 : Int64)).toBitVec = 0#64 from rfl, BitVec.getLsbD_zero, Bool.or_false]
theorem wlN_bit {l : List Int32} : ∀ (n : Nat), n ≤ 48 → ∀ j, j < 64 → bitL (wlN l n) j = (ltB n j && decide (l.getD (55 + j) 0 = 1))
  | 0, _, j, _ => by
    show bitL 0 j = _
    rw [bit_0, ltB_n (by omega)]
    rfl
  | n + 1, h, j, hj => by
    show bitL (wlN l n ||| _) j = _
    have ih := wlN_bit (l := l) n (by omega) j hj
    by_cases e : l.getD (55 + n) 0 = 1
    · rw [if_pos e, bit_or (by omega), ih]
      by_cases c : n = j
      · rw [decide_eq_true c, Bool.or_true, ← c, ltB_y (by omega), decide_eq_true e]
        rfl
      · rw [decide_eq_false c, Bool.or_false, ltB_ne (Ne.symm c)]
    · rw [if_neg e, bit_or0, ih]
      by_cases c : n = j
      · rw [← c, decide_eq_false e, Bool.and_false, Bool.and_false]
      · rw [ltB_ne (Ne.symm c)]
theorem i64_ext {a b : Int64} (h : ∀ c, c < 64 → bitL a c = bitL b c) : a = b := Int64.toBitVec_inj.mp (BitVec.eq_of_getLsbD_eq (fun i hi => h i hi))
theorem rel.walls {w : List sx_C} {l : List Int32} (hR : rel w 1 l) : fj w 1 1 = wlN l 48 := i64_ext (fun c hc => by
  have e := hR.wl hc
  unfold wbt wlr at e
  rw [wlN_bit 48 (by omega) c hc]
  by_cases h : c < 48
  · rw [if_pos h] at e
    rw [ltB_y h, ← e]
    cases bitL (fj w 1 1) c <;> decide
  · rw [if_neg h] at e
    rw [ltB_n h, Bool.false_and]
    cases hb : bitL (fj w 1 1) c with
    | false => rfl
    | true =>
      rw [hb] at e
      exact absurd e (by decide))
set_option maxRecDepth 20000 in
set_option maxHeartbeats 4000000 in
theorem A14 {xs : Option (List Int32)} {d : Nat} {w : List sx_C} (hI : WI w) (l : List Int32) (hR : rel w 1 l) : sx_RP xs (d + 7) 14 0 (lv_args 0 [.ref 0]) [] w (fun r w2 => r = some (.long (wlN l 48)) ∧ WI w2) := by
  refine sx_RP.step (pc2 := 1) (ls2 := [(0, .ref 0)]) (st2 := [.ref 0]) (w3 := w) rfl rfl ?_
  refine sx_RP.gf (v := .ref 1) rfl rfl hI.1.o0 rfl rfl (show _ = 4 from rfl) ?_
  refine sx_RP.gw hI (Or.inl rfl) rfl rfl (show _ = 7 from rfl) ?_
  refine sx_RP.ret (r := (some (.long (fj w 1 1)))) rfl rfl ?_
  exact ⟨by rw [hR.walls], hI⟩
set_option maxRecDepth 20000 in
set_option maxHeartbeats 4000000 in
theorem A139L {xs : Option (List Int32)} {d : Nat} {w : List sx_C} (hI : WI w) : ∀ (q j : Nat), j + q = 48 → sx_RP xs (d + 7) 139 4 [(0, .ref 111), (1, .long (wlN (ia w 112) j)), (3, .int (nI j))] [] w (fun r w2 => r = some (.long (wlN (ia w 112) 48)) ∧ WI w2)
  | 0, j, hj => by
    obtain rfl : j = 48 := by omega
    refine sx_RP.step (pc2 := 5) (ls2 := [(0, .ref 111), (1, .long (wlN (ia w 112) 48)), (3, .int 48)]) (st2 := [.int 48]) (w3 := w) rfl rfl ?_
    refine sx_RP.step (pc2 := 7) (ls2 := [(0, .ref 111), (1, .long (wlN (ia w 112) 48)), (3, .int 48)]) (st2 := [.int 48, .int 48]) (w3 := w) rfl rfl ?_
    refine sx_RP.step (pc2 := 39) (ls2 := [(0, .ref 111), (1, .long (wlN (ia w 112) 48)), (3, .int 48)]) (st2 := []) (w3 := w) rfl rfl ?_
    refine sx_RP.step (pc2 := 40) (ls2 := [(0, .ref 111), (1, .long (wlN (ia w 112) 48)), (3, .int 48)]) (st2 := [.long (wlN (ia w 112) 48)]) (w3 := w) rfl rfl ?_
    refine sx_RP.ret (r := (some (.long (wlN (ia w 112) 48)))) rfl rfl ?_
    exact ⟨rfl, hI⟩
  | q + 1, j, hj => by
    refine sx_RP.step (pc2 := 5) (ls2 := [(0, .ref 111), (1, .long (wlN (ia w 112) j)), (3, .int (nI j))]) (st2 := [.int (nI j)]) (w3 := w) rfl rfl ?_
    refine sx_RP.step (pc2 := 7) (ls2 := [(0, .ref 111), (1, .long (wlN (ia w 112) j)), (3, .int (nI j))]) (st2 := [.int 48, .int (nI j)]) (w3 := w) rfl rfl ?_
    refine sx_RP.br (p2 := 10) (l2 := [(0, .ref 111), (1, .long (wlN (ia w 112) j)), (3, .int (nI j))]) (s2 := []) (v2 := w) rfl rfl (fun q => absurd (of_decide_eq_true q) (fun z => absurd ((nI_leI (a := 48) (b := j) (by omega) (by omega)).mp z) (by omega))) (fun _ => ?_)
    refine sx_RP.step (pc2 := 11) (ls2 := [(0, .ref 111), (1, .long (wlN (ia w 112) j)), (3, .int (nI j))]) (st2 := [.long (wlN (ia w 112) j)]) (w3 := w) rfl rfl ?_
    refine sx_RP.step (pc2 := 12) (ls2 := [(0, .ref 111), (1, .long (wlN (ia w 112) j)), (3, .int (nI j))]) (st2 := [.ref 111, .long (wlN (ia w 112) j)]) (w3 := w) rfl rfl ?_
    refine sx_RP.gf (v := .ref 112) rfl rfl hI.1.o111 rfl rfl (show _ = 15 from rfl) ?_
    refine sx_RP.step (pc2 := 17) (ls2 := [(0, .ref 111), (1, .long (wlN (ia w 112) j)), (3, .int (nI j))]) (st2 := [.int 55, .ref 112, .long (wlN (ia w 112) j)]) (w3 := w) rfl rfl ?_
    refine sx_RP.step (pc2 := 18) (ls2 := [(0, .ref 111), (1, .long (wlN (ia w 112) j)), (3, .int (nI j))]) (st2 := [.int (nI j), .int 55, .ref 112, .long (wlN (ia w 112) j)]) (w3 := w) rfl rfl ?_
    refine sx_RP.step (pc2 := 19) (ls2 := [(0, .ref 111), (1, .long (wlN (ia w 112) j)), (3, .int (nI j))]) (st2 := [.int (55 + (nI j)), .ref 112, .long (wlN (ia w 112) j)]) (w3 := w) rfl rfl ?_
    rw [show (55 + (nI j) : Int32) = nI (55 + j) from nI_add 55 j]
    refine sx_RP.ild (c := (55 + j)) rfl hI.1.a112.1 hI.1.a112.2 (sx_in_nI (show (55 + j) < 172 by omega) (by decide)) (show (nI (55 + j)).toNatClampNeg = (55 + j) from nI_clamp (by omega)) (show _ = 20 from rfl) ?_
    refine sx_RP.step (pc2 := 21) (ls2 := [(0, .ref 111), (1, .long (wlN (ia w 112) j)), (3, .int (nI j))]) (st2 := [.int 1, .int ((ia w 112).getD (55 + j) 0), .long (wlN (ia w 112) j)]) (w3 := w) rfl rfl ?_
    refine sx_RP.br (p1 := 30) (l1 := [(0, .ref 111), (1, .long (wlN (ia w 112) j)), (3, .int (nI j))]) (s1 := [.long (wlN (ia w 112) j)]) (v1 := w) (p2 := 24) (l2 := [(0, .ref 111), (1, .long (wlN (ia w 112) j)), (3, .int (nI j))]) (s2 := [.long (wlN (ia w 112) j)]) (v2 := w) rfl rfl (fun q1 => ?_) (fun q1 => ?_)
    · replace q1 := of_decide_eq_true q1
      refine sx_RP.step (pc2 := 31) (ls2 := [(0, .ref 111), (1, .long (wlN (ia w 112) j)), (3, .int (nI j))]) (st2 := [.long 0, .long (wlN (ia w 112) j)]) (w3 := w) rfl rfl ?_
      refine sx_RP.step (pc2 := 32) (ls2 := [(0, .ref 111), (1, .long (wlN (ia w 112) j)), (3, .int (nI j))]) (st2 := [.long ((wlN (ia w 112) j) ||| 0)]) (w3 := w) rfl rfl ?_
      refine sx_RP.step (pc2 := 33) (ls2 := [(1, .long ((wlN (ia w 112) j) ||| 0)), (0, .ref 111), (3, .int (nI j))]) (st2 := []) (w3 := w) rfl rfl ?_
      refine sx_RP.step (pc2 := 36) (ls2 := [(3, .int ((nI j) + 1)), (1, .long ((wlN (ia w 112) j) ||| 0)), (0, .ref 111)]) (st2 := []) (w3 := w) rfl rfl ?_
      rw [nI_1 j]
      refine sx_RP.step (pc2 := 4) (ls2 := [(3, .int (nI (j + 1))), (1, .long ((wlN (ia w 112) j) ||| 0)), (0, .ref 111)]) (st2 := []) (w3 := w) rfl rfl ?_
      have e9 : (wlN (ia w 112) j) ||| 0 = wlN (ia w 112) (j + 1) := by show _ = wlN (ia w 112) j ||| _; rw [if_neg q1]
      rw [e9]
      exact sx_RP.ls (sx_lr.cons rfl (sx_lr.cons rfl (sx_lr.cons rfl sx_lr.nil))) (A139L hI q (j + 1) (by omega))
    · replace q1 := Decidable.not_not.mp (of_decide_eq_false q1)
      refine sx_RP.step (pc2 := 25) (ls2 := [(0, .ref 111), (1, .long (wlN (ia w 112) j)), (3, .int (nI j))]) (st2 := [.long 1, .long (wlN (ia w 112) j)]) (w3 := w) rfl rfl ?_
      refine sx_RP.step (pc2 := 26) (ls2 := [(0, .ref 111), (1, .long (wlN (ia w 112) j)), (3, .int (nI j))]) (st2 := [.int (nI j), .long 1, .long (wlN (ia w 112) j)]) (w3 := w) rfl rfl ?_
      refine sx_RP.step (pc2 := 27) (ls2 := [(0, .ref 111), (1, .long (wlN (ia w 112) j)), (3, .int (nI j))]) (st2 := [.long ((1 : Int64) <<< ((nI j).toInt64 &&& 63)), .long (wlN (ia w 112) j)]) (w3 := w) rfl rfl ?_
      refine sx_RP.step (pc2 := 31) (ls2 := [(0, .ref 111), (1, .long (wlN (ia w 112) j)), (3, .int (nI j))]) (st2 := [.long ((1 : Int64) <<< ((nI j).toInt64 &&& 63)), .long (wlN (ia w 112) j)]) (w3 := w) rfl rfl ?_
      refine sx_RP.step (pc2 := 32) (ls2 := [(0, .ref 111), (1, .long (wlN (ia w 112) j)), (3, .int (nI j))]) (st2 := [.long ((wlN (ia w 112) j) ||| ((1 : Int64) <<< ((nI j).toInt64 &&& 63)))]) (w3 := w) rfl rfl ?_
      refine sx_RP.step (pc2 := 33) (ls2 := [(1, .long ((wlN (ia w 112) j) ||| ((1 : Int64) <<< ((nI j).toInt64 &&& 63)))), (0, .ref 111), (3, .int (nI j))]) (st2 := []) (w3 := w) rfl rfl ?_
      refine sx_RP.step (pc2 := 36) (ls2 := [(3, .int ((nI j) + 1)), (1, .long ((wlN (ia w 112) j) ||| ((1 : Int64) <<< ((nI j).toInt64 &&& 63)))), (0, .ref 111)]) (st2 := []) (w3 := w) rfl rfl ?_
      rw [nI_1 j]
      refine sx_RP.step (pc2 := 4) (ls2 := [(3, .int (nI (j + 1))), (1, .long ((wlN (ia w 112) j) ||| ((1 : Int64) <<< ((nI j).toInt64 &&& 63)))), (0, .ref 111)]) (st2 := []) (w3 := w) rfl rfl ?_
      have e9 : (wlN (ia w 112) j) ||| ((1 : Int64) <<< ((nI j).toInt64 &&& 63)) = wlN (ia w 112) (j + 1) := by show _ = wlN (ia w 112) j ||| _; rw [if_pos q1]
      rw [e9]
      exact sx_RP.ls (sx_lr.cons rfl (sx_lr.cons rfl (sx_lr.cons rfl sx_lr.nil))) (A139L hI q (j + 1) (by omega))
set_option maxRecDepth 20000 in
set_option maxHeartbeats 4000000 in
theorem A139 {xs : Option (List Int32)} {d : Nat} {w : List sx_C} (hI : WI w) : sx_RP xs (d + 7) 139 0 (lv_args 0 [.ref 111]) [] w (fun r w2 => r = some (.long (wlN (ia w 112) 48)) ∧ WI w2) := by
  refine sx_RP.step (pc2 := 1) (ls2 := [(0, .ref 111)]) (st2 := [.long 0]) (w3 := w) rfl rfl ?_
  refine sx_RP.step (pc2 := 2) (ls2 := [(1, .long 0), (0, .ref 111)]) (st2 := []) (w3 := w) rfl rfl ?_
  refine sx_RP.step (pc2 := 3) (ls2 := [(1, .long 0), (0, .ref 111)]) (st2 := [.int 0]) (w3 := w) rfl rfl ?_
  refine sx_RP.step (pc2 := 4) (ls2 := [(3, .int 0), (1, .long 0), (0, .ref 111)]) (st2 := []) (w3 := w) rfl rfl ?_
  exact sx_RP.ls (sx_lr.cons rfl (sx_lr.cons rfl (sx_lr.cons rfl sx_lr.nil))) (A139L hI 48 0 (by omega))
theorem a14 {xs : Option (List Int32)} {d : Nat} {w : List sx_C} {s : ST} (hI : WI w) (hC : CLS w s) : sx_RP xs (d + 7) 14 0 (lv_args 0 [.ref 0]) [] w (fun r w2 => r = some (.long (wlN s.1 48)) ∧ WI w2 ∧ CLS w2 (s) ∧ ∀ a, 111 ≤ a → w2[a]? = w[a]?) :=
  ((c14 (xs := xs) (d := d) hI hC).and (A14 hI s.1 hC.1.1)).mono9 (fun r w2 z => ⟨z.2.1, z.1.2.1, z.1.2.2.1, z.1.2.2.2⟩)
theorem a139 {xs : Option (List Int32)} {d : Nat} {w : List sx_C} {s : ST} (hI : WI w) (hR : REF w s) : sx_RP xs (d + 7) 139 0 (lv_args 0 [.ref 111]) [] w (fun r w2 => r = some (.long (wlN s.1 48)) ∧ WI w2 ∧ REF w2 (s) ∧ ∀ a, a < 111 → w2[a]? = w[a]?) := by
  obtain ⟨v, h⟩ := p139 (xs := xs) (d := d) hI
  have h2 : sx_RP xs (d + 7) 139 0 (lv_args 0 [.ref 111]) [] w (fun _ w2 => w2 = w) := ⟨_, _, h, rfl⟩
  refine ((A139 (xs := xs) (d := d) hI).and h2).mono9 (fun r w2 z => ?_)
  obtain ⟨⟨z1, z2⟩, z3⟩ := z
  subst z3
  exact ⟨by rw [z1, hR.1.1], z2, hR, fun _ _ => rfl⟩
