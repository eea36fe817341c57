-- lasts and ration, as answers
def BR (b : BB) : Prop := ∃ o m r, b.2.2.1 = nI o ∧ o ≤ 999999 ∧ b.2.2.2.1 = nI m ∧ 1 ≤ m ∧ m ≤ 999 ∧ b.2.2.2.2 = nI r ∧ 1 ≤ r ∧ r ≤ 99
def lasA (t : BT) : Int32 := nI (daysN (iN t.1.2.2.1) (iN t.1.2.2.2.1) (iN t.1.2.2.2.2))
def okN (o m x v : Nat) : Bool := decide (x ≤ daysN o m v)
def rat0 (v : Nat) : Int32 := if v = 0 then -1000000004 else nI v
def ratA (t : BT) (a1 : Int32) : Int32 := if 1 ≤ a1 ∧ a1 ≤ 999 then rat0 (topN (okN (iN t.1.2.2.1) (iN t.1.2.2.2.1) (iN a1)) 99) else -1000000001
theorem okN_anti {o m x : Nat} : ∀ a b, 1 ≤ a → a ≤ b → okN o m x b = true → okN o m x a = true := fun _ _ _ h2 h => decide_eq_true (Nat.le_trans (of_decide_eq_true h) (daysN_anti h2))
theorem nI_999 {x : Nat} (h1 : 1 ≤ x) (h2 : x ≤ 999) : (1 : Int32) ≤ nI x ∧ nI x ≤ 999 := ⟨nI_le (a := 1) h1 (by omega), nI_le (b := 999) h2 (by decide)⟩
theorem lasA_c {w : List sx_C} {o m r : Nat} (ho : fi w 1 8 = nI o) (ho1 : o ≤ 999999) (hm : fi w 1 9 = nI m) (hm1 : m ≤ 999) (hr : fi w 1 10 = nI r) (hr1 : r ≤ 99) : lasA (FCb w) = nI (daysN o m r) := by
  show nI (daysN (iN (fi w 1 8)) (iN (fi w 1 9)) (iN (fi w 1 10))) = _
  rw [ho, hm, hr, iN_n (by omega), iN_n (by omega), iN_n (by omega)]
theorem lasA_m {w : List sx_C} {o m r : Nat} (ho : (ia w 112).getD 4 0 = nI o) (ho1 : o ≤ 999999) (hm : (ia w 112).getD 5 0 = nI m) (hm1 : m ≤ 999) (hr : (ia w 112).getD 6 0 = nI r) (hr1 : r ≤ 99) : lasA (FMb w) = nI (daysN o m r) := by
  show nI (daysN (iN ((ia w 112).getD 4 0)) (iN ((ia w 112).getD 5 0)) (iN ((ia w 112).getD 6 0))) = _
  rw [ho, hm, hr, iN_n (by omega), iN_n (by omega), iN_n (by omega)]
theorem ratA_c {w : List sx_C} {o m x : Nat} (ho : fi w 1 8 = nI o) (ho1 : o ≤ 999999) (hm : fi w 1 9 = nI m) (hm1 : m ≤ 999) (h1 : 1 ≤ x) (h2 : x ≤ 999) : ratA (FCb w) (nI x) = rat0 (topN (okN o m x) 99) := by
  unfold ratA
  rw [if_pos (nI_999 h1 h2)]
  show rat0 (topN (okN (iN (fi w 1 8)) (iN (fi w 1 9)) (iN (nI x))) 99) = _
  rw [ho, hm, iN_n (by omega), iN_n (by omega), iN_n (by omega)]
theorem ratA_m {w : List sx_C} {o m x : Nat} (ho : (ia w 112).getD 4 0 = nI o) (ho1 : o ≤ 999999) (hm : (ia w 112).getD 5 0 = nI m) (hm1 : m ≤ 999) (h1 : 1 ≤ x) (h2 : x ≤ 999) : ratA (FMb w) (nI x) = rat0 (topN (okN o m x) 99) := by
  unfold ratA
  rw [if_pos (nI_999 h1 h2)]
  show rat0 (topN (okN (iN ((ia w 112).getD 4 0)) (iN ((ia w 112).getD 5 0)) (iN (nI x))) 99) = _
  rw [ho, hm, iN_n (by omega), iN_n (by omega), iN_n (by omega)]
theorem ratA_n {t : BT} {a1 : Int32} (h : ¬ (1 ≤ a1 ∧ a1 ≤ 999)) : ratA t a1 = -1000000001 := if_neg h
set_option maxRecDepth 20000 in
set_option maxHeartbeats 4000000 in
theorem C83 {xs : Option (List Int32)} {d : Nat} {w : List sx_C} (hI : WI w) (hb : BR (FCb w).1) : sx_RP xs (d + 7) 83 0 (lv_args 0 [.ref 0]) [] w (fun r w2 => (r = some (.int (lasA (FCb w)))) ∧ WI w2 ∧ EQ w w2) := by
  obtain ⟨o, m, r, ho, ho1, hm, hm0, hm1, hr, hr0, hr1⟩ := hb
  replace ho : fi w 1 8 = nI o := ho
  replace hm : fi w 1 9 = nI m := hm
  replace hr : fi w 1 10 = nI r := hr
  refine sx_RP.step (pc2 := 1) (ls2 := [(0, .ref 0)]) (st2 := [.ref 0]) (w3 := w) rfl rfl ?_
  refine sx_RP.gf (v := .ref 1) rfl rfl hI.1.o0 rfl rfl (show _ = 4 from rfl) ?_
  refine sx_RP.step (pc2 := 5) (ls2 := [(0, .ref 0)]) (st2 := [.ref 0, .ref 1]) (w3 := w) rfl rfl ?_
  refine sx_RP.gf (v := .ref 1) rfl rfl hI.1.o0 rfl rfl (show _ = 8 from rfl) ?_
  refine sx_RP.gc (k := 10) hI (Or.inl rfl) rfl rfl (by omega) (show _ = 11 from rfl) ?_
  rw [hr]
  refine sx_RP.cu (as := [.ref 1, .int (nI r)]) (rest2 := []) (st3 := [.int (nI (daysN o m r))]) rfl rfl (sx_inv_v2 (mi := 83) (k := 276) (st := [.int (nI r), .ref 1]) (w := w) rfl rfl (hI.1.oC (Or.inl rfl)) rfl rfl rfl) rfl rfl (x84 hI (Or.inl rfl) ho ho1 hm hm1 (by omega)) rfl ?_
  refine sx_RP.ret (r := (some (.int (nI (daysN o m r))))) rfl rfl ?_
  exact ⟨by rw [lasA_c ho ho1 hm hm1 hr hr1], hI, EQ.rf⟩
set_option maxRecDepth 20000 in
set_option maxHeartbeats 4000000 in
theorem C205 {xs : Option (List Int32)} {d : Nat} {w : List sx_C} (hI : WI w) (hb : BR (FMb w).1) : sx_RP xs (d + 7) 205 0 (lv_args 0 [.ref 111]) [] w (fun r w2 => (r = some (.int (lasA (FMb w)))) ∧ WI w2 ∧ EL w w2) := by
  obtain ⟨o, m, r, ho, ho1, hm, hm0, hm1, hr, hr0, hr1⟩ := hb
  replace ho : (ia w 112).getD 4 0 = nI o := ho
  replace hm : (ia w 112).getD 5 0 = nI m := hm
  replace hr : (ia w 112).getD 6 0 = nI r := hr
  refine sx_RP.step (pc2 := 1) (ls2 := [(0, .ref 111)]) (st2 := [.ref 111]) (w3 := w) rfl rfl ?_
  refine sx_RP.step (pc2 := 2) (ls2 := [(0, .ref 111)]) (st2 := [.ref 111, .ref 111]) (w3 := w) rfl rfl ?_
  refine sx_RP.gf (v := .ref 112) rfl rfl hI.1.o111 rfl rfl (show _ = 5 from rfl) ?_
  refine sx_RP.step (pc2 := 7) (ls2 := [(0, .ref 111)]) (st2 := [.int 6, .ref 112, .ref 111]) (w3 := w) rfl rfl ?_
  refine sx_RP.ild (c := 6) rfl hI.1.a112.1 hI.1.a112.2 (sx_in_nI (show 6 < 172 by omega) (by decide)) (show (nI 6).toNatClampNeg = 6 from nI_clamp (by omega)) (show _ = 8 from rfl) ?_
  rw [hr]
  refine sx_RP.cu (as := [.ref 111, .int (nI r)]) (rest2 := []) (st3 := [.int (nI (daysN o m r))]) rfl rfl (sx_inv_v2 (mi := 205) (k := 205) (st := [.int (nI r), .ref 111]) (w := w) rfl rfl hI.1.o111 rfl rfl rfl) rfl rfl (x206 hI ho ho1 hm hm1 (by omega) (by omega)) rfl ?_
  refine sx_RP.ret (r := (some (.int (nI (daysN o m r))))) rfl rfl ?_
  exact ⟨by rw [lasA_m ho ho1 hm hm1 hr hr1], hI, EL.rf⟩
set_option maxRecDepth 20000 in
set_option maxHeartbeats 4000000 in
theorem x86_0 {xs : Option (List Int32)} {d o m x : Nat} {w : List sx_C} (hI : WI w) (ho : fi w 1 8 = nI o) (ho1 : o ≤ 999999) (hm : fi w 1 9 = nI m) (hm1 : m ≤ 999) (hx : x ≤ 999) {g : Nat} (hg : g ≤ 99) : sx_RP xs (d + 7) 86 23 [(0, .ref 0), (1, .int (nI x)), (2, .int (nI g)), (3, .int 0)] [] w (fun r2 w2 => (r2 = some (.int (rat0 (g)))) ∧ WI w2 ∧ EQ w w2) := by
  refine sx_RP.step (pc2 := 24) (ls2 := [(0, .ref 0), (1, .int (nI x)), (2, .int (nI g)), (3, .int 0)]) (st2 := [.int 0]) (w3 := w) rfl rfl ?_
  refine sx_RP.step (pc2 := 62) (ls2 := [(0, .ref 0), (1, .int (nI x)), (2, .int (nI g)), (3, .int 0)]) (st2 := []) (w3 := w) rfl rfl ?_
  refine sx_RP.step (pc2 := 63) (ls2 := [(0, .ref 0), (1, .int (nI x)), (2, .int (nI g)), (3, .int 0)]) (st2 := [.int (nI g)]) (w3 := w) rfl rfl ?_
  refine sx_RP.br (p1 := 75) (l1 := [(0, .ref 0), (1, .int (nI x)), (2, .int (nI g)), (3, .int 0)]) (s1 := []) (v1 := w) (p2 := 66) (l2 := [(0, .ref 0), (1, .int (nI x)), (2, .int (nI g)), (3, .int 0)]) (s2 := []) (v2 := w) rfl rfl (fun q1 => ?_) (fun q1 => ?_)
  · replace q1 := of_decide_eq_true q1
    replace q1 := mt (nI_eq (a := g) (b := 0) (by omega) (by omega)).mpr q1
    refine sx_RP.step (pc2 := 76) (ls2 := [(0, .ref 0), (1, .int (nI x)), (2, .int (nI g)), (3, .int 0)]) (st2 := [.int (nI g)]) (w3 := w) rfl rfl ?_
    refine sx_RP.ret (r := (some (.int (nI g)))) rfl rfl ?_
    exact ⟨by unfold rat0; rw [if_neg q1], hI, EQ.rf⟩
  · replace q1 := Decidable.not_not.mp (of_decide_eq_false q1)
    replace q1 := (nI_eq (a := g) (b := 0) (by omega) (by omega)).mp q1
    refine sx_RP.step (pc2 := 67) (ls2 := [(0, .ref 0), (1, .int (nI x)), (2, .int (nI g)), (3, .int 0)]) (st2 := [.ref 0]) (w3 := w) rfl rfl ?_
    refine sx_RP.step (pc2 := 69) (ls2 := [(0, .ref 0), (1, .int (nI x)), (2, .int (nI g)), (3, .int 0)]) (st2 := [.int (-1000000004), .ref 0]) (w3 := w) rfl rfl ?_
    refine sx_RP.callp (as2 := [.ref 0, .int (-1000000004)]) (rest2 := []) rfl rfl (sx_inv_v2 (mi := 86) (k := 78) (st := [.int (-1000000004), .ref 0]) (w := w) rfl rfl hI.1.o0 rfl rfl rfl) rfl rfl rfl (Q9_3 hI) (show _ = 72 from rfl) ?_
    rintro r4 w3 ⟨rfl, hI4, hE2⟩
    show sx_RP _ _ _ _ _ [.int (-1000000004)] _ _
    refine sx_RP.step (pc2 := 76) (ls2 := [(0, .ref 0), (1, .int (nI x)), (2, .int (nI g)), (3, .int 0)]) (st2 := [.int (-1000000004)]) (w3 := w3) rfl rfl ?_
    refine sx_RP.ret (r := (some (.int (-1000000004)))) rfl rfl ?_
    exact ⟨by unfold rat0; rw [if_pos q1], hI4, hE2⟩
set_option maxRecDepth 20000 in
set_option maxHeartbeats 4000000 in
theorem x86_1 {xs : Option (List Int32)} {d o m x : Nat} {w : List sx_C} (hI : WI w) (ho : fi w 1 8 = nI o) (ho1 : o ≤ 999999) (hm : fi w 1 9 = nI m) (hm1 : m ≤ 999) (hx : x ≤ 999) {g : Nat} (hg : g ≤ 99) : sx_RP xs (d + 7) 86 23 [(0, .ref 0), (1, .int (nI x)), (2, .int (nI g)), (3, .int 1)] [] w (fun r2 w2 => (r2 = some (.int (rat0 ((halfN (okN o m x) g 1))))) ∧ WI w2 ∧ EQ w w2) := by
  have hdd : daysN o m (g + 1) ≤ 999 := daysN_le
  refine sx_RP.step (pc2 := 24) (ls2 := [(0, .ref 0), (1, .int (nI x)), (2, .int (nI g)), (3, .int 1)]) (st2 := [.int 1]) (w3 := w) rfl rfl ?_
  refine sx_RP.step (pc2 := 27) (ls2 := [(0, .ref 0), (1, .int (nI x)), (2, .int (nI g)), (3, .int 1)]) (st2 := []) (w3 := w) rfl rfl ?_
  refine sx_RP.step (pc2 := 28) (ls2 := [(0, .ref 0), (1, .int (nI x)), (2, .int (nI g)), (3, .int 1)]) (st2 := [.int (nI g)]) (w3 := w) rfl rfl ?_
  refine sx_RP.step (pc2 := 29) (ls2 := [(0, .ref 0), (1, .int (nI x)), (2, .int (nI g)), (3, .int 1)]) (st2 := [.int 1, .int (nI g)]) (w3 := w) rfl rfl ?_
  refine sx_RP.step (pc2 := 30) (ls2 := [(0, .ref 0), (1, .int (nI x)), (2, .int (nI g)), (3, .int 1)]) (st2 := [.int ((nI g) + 1)]) (w3 := w) rfl rfl ?_
  rw [show ((nI g) + 1 : Int32) = nI (g + 1) from nI_add g 1]
  refine sx_RP.step (pc2 := 32) (ls2 := [(4, .int (nI (g + 1))), (0, .ref 0), (1, .int (nI x)), (2, .int (nI g)), (3, .int 1)]) (st2 := []) (w3 := w) rfl rfl ?_
  refine sx_RP.step (pc2 := 34) (ls2 := [(4, .int (nI (g + 1))), (0, .ref 0), (1, .int (nI x)), (2, .int (nI g)), (3, .int 1)]) (st2 := [.int (nI (g + 1))]) (w3 := w) rfl rfl ?_
  refine sx_RP.step (pc2 := 36) (ls2 := [(4, .int (nI (g + 1))), (0, .ref 0), (1, .int (nI x)), (2, .int (nI g)), (3, .int 1)]) (st2 := [.int 99, .int (nI (g + 1))]) (w3 := w) rfl rfl ?_
  refine sx_RP.br (p1 := 55) (l1 := [(4, .int (nI (g + 1))), (0, .ref 0), (1, .int (nI x)), (2, .int (nI g)), (3, .int 1)]) (s1 := []) (v1 := w) (p2 := 39) (l2 := [(4, .int (nI (g + 1))), (0, .ref 0), (1, .int (nI x)), (2, .int (nI g)), (3, .int 1)]) (s2 := []) (v2 := w) rfl rfl (fun q1 => ?_) (fun q1 => ?_)
  · replace q1 := of_decide_eq_true q1
    replace q1 := (nI_ltI (a := 99) (b := (g + 1)) (by omega) (by omega)).mp q1
    refine sx_RP.step (pc2 := 56) (ls2 := [(4, .int (nI (g + 1))), (0, .ref 0), (1, .int (nI x)), (2, .int (nI g)), (3, .int 1)]) (st2 := [.int 1]) (w3 := w) rfl rfl ?_
    refine sx_RP.step (pc2 := 57) (ls2 := [(4, .int (nI (g + 1))), (0, .ref 0), (1, .int (nI x)), (2, .int (nI g)), (3, .int 1)]) (st2 := [.int 2, .int 1]) (w3 := w) rfl rfl ?_
    refine sx_RP.step (pc2 := 58) (ls2 := [(4, .int (nI (g + 1))), (0, .ref 0), (1, .int (nI x)), (2, .int (nI g)), (3, .int 1)]) (st2 := [.int 0]) (w3 := w) rfl rfl ?_
    refine sx_RP.step (pc2 := 59) (ls2 := [(3, .int 0), (4, .int (nI (g + 1))), (0, .ref 0), (1, .int (nI x)), (2, .int (nI g))]) (st2 := []) (w3 := w) rfl rfl ?_
    refine sx_RP.step (pc2 := 23) (ls2 := [(3, .int 0), (4, .int (nI (g + 1))), (0, .ref 0), (1, .int (nI x)), (2, .int (nI g))]) (st2 := []) (w3 := w) rfl rfl ?_
    rw [show halfN (okN o m x) g 1 = g from if_neg (fun z => by have z2 := of_decide_eq_true z.2; omega)]
    exact sx_RP.ls (sx_lr.cons rfl (sx_lr.cons rfl (sx_lr.cons rfl (sx_lr.cons rfl sx_lr.nil)))) (x86_0 hI ho ho1 hm hm1 hx (g := g) (by omega))
  · replace q1 := of_decide_eq_false q1
    replace q1 := mt (nI_ltI (a := 99) (b := (g + 1)) (by omega) (by omega)).mpr q1
    refine sx_RP.step (pc2 := 40) (ls2 := [(4, .int (nI (g + 1))), (0, .ref 0), (1, .int (nI x)), (2, .int (nI g)), (3, .int 1)]) (st2 := [.ref 0]) (w3 := w) rfl rfl ?_
    refine sx_RP.gf (v := .ref 1) rfl rfl hI.1.o0 rfl rfl (show _ = 43 from rfl) ?_
    refine sx_RP.step (pc2 := 45) (ls2 := [(4, .int (nI (g + 1))), (0, .ref 0), (1, .int (nI x)), (2, .int (nI g)), (3, .int 1)]) (st2 := [.int (nI (g + 1)), .ref 1]) (w3 := w) rfl rfl ?_
    refine sx_RP.cu (as := [.ref 1, .int (nI (g + 1))]) (rest2 := []) (st3 := [.int (nI (daysN o m (g + 1)))]) rfl rfl (sx_inv_v2 (mi := 86) (k := 276) (st := [.int (nI (g + 1)), .ref 1]) (w := w) rfl rfl (hI.1.oC (Or.inl rfl)) rfl rfl rfl) rfl rfl (x84 hI (Or.inl rfl) ho ho1 hm hm1 (by omega)) rfl ?_
    refine sx_RP.step (pc2 := 49) (ls2 := [(4, .int (nI (g + 1))), (0, .ref 0), (1, .int (nI x)), (2, .int (nI g)), (3, .int 1)]) (st2 := [.int (nI x), .int (nI (daysN o m (g + 1)))]) (w3 := w) rfl rfl ?_
    refine sx_RP.br (p1 := 55) (l1 := [(4, .int (nI (g + 1))), (0, .ref 0), (1, .int (nI x)), (2, .int (nI g)), (3, .int 1)]) (s1 := []) (v1 := w) (p2 := 52) (l2 := [(4, .int (nI (g + 1))), (0, .ref 0), (1, .int (nI x)), (2, .int (nI g)), (3, .int 1)]) (s2 := []) (v2 := w) rfl rfl (fun q2 => ?_) (fun q2 => ?_)
    · replace q2 := of_decide_eq_true q2
      replace q2 := (nI_ltI (a := (daysN o m (g + 1))) (b := x) (by omega) (by omega)).mp q2
      refine sx_RP.step (pc2 := 56) (ls2 := [(4, .int (nI (g + 1))), (0, .ref 0), (1, .int (nI x)), (2, .int (nI g)), (3, .int 1)]) (st2 := [.int 1]) (w3 := w) rfl rfl ?_
      refine sx_RP.step (pc2 := 57) (ls2 := [(4, .int (nI (g + 1))), (0, .ref 0), (1, .int (nI x)), (2, .int (nI g)), (3, .int 1)]) (st2 := [.int 2, .int 1]) (w3 := w) rfl rfl ?_
      refine sx_RP.step (pc2 := 58) (ls2 := [(4, .int (nI (g + 1))), (0, .ref 0), (1, .int (nI x)), (2, .int (nI g)), (3, .int 1)]) (st2 := [.int 0]) (w3 := w) rfl rfl ?_
      refine sx_RP.step (pc2 := 59) (ls2 := [(3, .int 0), (4, .int (nI (g + 1))), (0, .ref 0), (1, .int (nI x)), (2, .int (nI g))]) (st2 := []) (w3 := w) rfl rfl ?_
      refine sx_RP.step (pc2 := 23) (ls2 := [(3, .int 0), (4, .int (nI (g + 1))), (0, .ref 0), (1, .int (nI x)), (2, .int (nI g))]) (st2 := []) (w3 := w) rfl rfl ?_
      rw [show halfN (okN o m x) g 1 = g from if_neg (fun z => by have z2 := of_decide_eq_true z.2; omega)]
      exact sx_RP.ls (sx_lr.cons rfl (sx_lr.cons rfl (sx_lr.cons rfl (sx_lr.cons rfl sx_lr.nil)))) (x86_0 hI ho ho1 hm hm1 hx (g := g) (by omega))
    · replace q2 := of_decide_eq_false q2
      replace q2 := mt (nI_ltI (a := (daysN o m (g + 1))) (b := x) (by omega) (by omega)).mpr q2
      refine sx_RP.step (pc2 := 54) (ls2 := [(4, .int (nI (g + 1))), (0, .ref 0), (1, .int (nI x)), (2, .int (nI g)), (3, .int 1)]) (st2 := [.int (nI (g + 1))]) (w3 := w) rfl rfl ?_
      refine sx_RP.step (pc2 := 55) (ls2 := [(2, .int (nI (g + 1))), (4, .int (nI (g + 1))), (0, .ref 0), (1, .int (nI x)), (3, .int 1)]) (st2 := []) (w3 := w) rfl rfl ?_
      refine sx_RP.step (pc2 := 56) (ls2 := [(2, .int (nI (g + 1))), (4, .int (nI (g + 1))), (0, .ref 0), (1, .int (nI x)), (3, .int 1)]) (st2 := [.int 1]) (w3 := w) rfl rfl ?_
      refine sx_RP.step (pc2 := 57) (ls2 := [(2, .int (nI (g + 1))), (4, .int (nI (g + 1))), (0, .ref 0), (1, .int (nI x)), (3, .int 1)]) (st2 := [.int 2, .int 1]) (w3 := w) rfl rfl ?_
      refine sx_RP.step (pc2 := 58) (ls2 := [(2, .int (nI (g + 1))), (4, .int (nI (g + 1))), (0, .ref 0), (1, .int (nI x)), (3, .int 1)]) (st2 := [.int 0]) (w3 := w) rfl rfl ?_
      refine sx_RP.step (pc2 := 59) (ls2 := [(3, .int 0), (2, .int (nI (g + 1))), (4, .int (nI (g + 1))), (0, .ref 0), (1, .int (nI x))]) (st2 := []) (w3 := w) rfl rfl ?_
      refine sx_RP.step (pc2 := 23) (ls2 := [(3, .int 0), (2, .int (nI (g + 1))), (4, .int (nI (g + 1))), (0, .ref 0), (1, .int (nI x))]) (st2 := []) (w3 := w) rfl rfl ?_
      rw [show halfN (okN o m x) g 1 = g + 1 from if_pos ⟨by omega, decide_eq_true (by omega)⟩]
      exact sx_RP.ls (sx_lr.cons rfl (sx_lr.cons rfl (sx_lr.cons rfl (sx_lr.cons rfl sx_lr.nil)))) (x86_0 hI ho ho1 hm hm1 hx (g := (g + 1)) (by omega))
set_option maxRecDepth 20000 in
set_option maxHeartbeats 4000000 in
theorem x86_2 {xs : Option (List Int32)} {d o m x : Nat} {w : List sx_C} (hI : WI w) (ho : fi w 1 8 = nI o) (ho1 : o ≤ 999999) (hm : fi w 1 9 = nI m) (hm1 : m ≤ 999) (hx : x ≤ 999) {g : Nat} (hg : g ≤ 99) : sx_RP xs (d + 7) 86 23 [(0, .ref 0), (1, .int (nI x)), (2, .int (nI g)), (3, .int 2)] [] w (fun r2 w2 => (r2 = some (.int (rat0 ((halfN (okN o m x) (halfN (okN o m x) g 2) 1))))) ∧ WI w2 ∧ EQ w w2) := by
  have hdd : daysN o m (g + 2) ≤ 999 := daysN_le
  refine sx_RP.step (pc2 := 24) (ls2 := [(0, .ref 0), (1, .int (nI x)), (2, .int (nI g)), (3, .int 2)]) (st2 := [.int 2]) (w3 := w) rfl rfl ?_
  refine sx_RP.step (pc2 := 27) (ls2 := [(0, .ref 0), (1, .int (nI x)), (2, .int (nI g)), (3, .int 2)]) (st2 := []) (w3 := w) rfl rfl ?_
  refine sx_RP.step (pc2 := 28) (ls2 := [(0, .ref 0), (1, .int (nI x)), (2, .int (nI g)), (3, .int 2)]) (st2 := [.int (nI g)]) (w3 := w) rfl rfl ?_
  refine sx_RP.step (pc2 := 29) (ls2 := [(0, .ref 0), (1, .int (nI x)), (2, .int (nI g)), (3, .int 2)]) (st2 := [.int 2, .int (nI g)]) (w3 := w) rfl rfl ?_
  refine sx_RP.step (pc2 := 30) (ls2 := [(0, .ref 0), (1, .int (nI x)), (2, .int (nI g)), (3, .int 2)]) (st2 := [.int ((nI g) + 2)]) (w3 := w) rfl rfl ?_
  rw [show ((nI g) + 2 : Int32) = nI (g + 2) from nI_add g 2]
  refine sx_RP.step (pc2 := 32) (ls2 := [(4, .int (nI (g + 2))), (0, .ref 0), (1, .int (nI x)), (2, .int (nI g)), (3, .int 2)]) (st2 := []) (w3 := w) rfl rfl ?_
  refine sx_RP.step (pc2 := 34) (ls2 := [(4, .int (nI (g + 2))), (0, .ref 0), (1, .int (nI x)), (2, .int (nI g)), (3, .int 2)]) (st2 := [.int (nI (g + 2))]) (w3 := w) rfl rfl ?_
  refine sx_RP.step (pc2 := 36) (ls2 := [(4, .int (nI (g + 2))), (0, .ref 0), (1, .int (nI x)), (2, .int (nI g)), (3, .int 2)]) (st2 := [.int 99, .int (nI (g + 2))]) (w3 := w) rfl rfl ?_
  refine sx_RP.br (p1 := 55) (l1 := [(4, .int (nI (g + 2))), (0, .ref 0), (1, .int (nI x)), (2, .int (nI g)), (3, .int 2)]) (s1 := []) (v1 := w) (p2 := 39) (l2 := [(4, .int (nI (g + 2))), (0, .ref 0), (1, .int (nI x)), (2, .int (nI g)), (3, .int 2)]) (s2 := []) (v2 := w) rfl rfl (fun q1 => ?_) (fun q1 => ?_)
  · replace q1 := of_decide_eq_true q1
    replace q1 := (nI_ltI (a := 99) (b := (g + 2)) (by omega) (by omega)).mp q1
    refine sx_RP.step (pc2 := 56) (ls2 := [(4, .int (nI (g + 2))), (0, .ref 0), (1, .int (nI x)), (2, .int (nI g)), (3, .int 2)]) (st2 := [.int 2]) (w3 := w) rfl rfl ?_
    refine sx_RP.step (pc2 := 57) (ls2 := [(4, .int (nI (g + 2))), (0, .ref 0), (1, .int (nI x)), (2, .int (nI g)), (3, .int 2)]) (st2 := [.int 2, .int 2]) (w3 := w) rfl rfl ?_
    refine sx_RP.step (pc2 := 58) (ls2 := [(4, .int (nI (g + 2))), (0, .ref 0), (1, .int (nI x)), (2, .int (nI g)), (3, .int 2)]) (st2 := [.int 1]) (w3 := w) rfl rfl ?_
    refine sx_RP.step (pc2 := 59) (ls2 := [(3, .int 1), (4, .int (nI (g + 2))), (0, .ref 0), (1, .int (nI x)), (2, .int (nI g))]) (st2 := []) (w3 := w) rfl rfl ?_
    refine sx_RP.step (pc2 := 23) (ls2 := [(3, .int 1), (4, .int (nI (g + 2))), (0, .ref 0), (1, .int (nI x)), (2, .int (nI g))]) (st2 := []) (w3 := w) rfl rfl ?_
    rw [show halfN (okN o m x) g 2 = g from if_neg (fun z => by have z2 := of_decide_eq_true z.2; omega)]
    exact sx_RP.ls (sx_lr.cons rfl (sx_lr.cons rfl (sx_lr.cons rfl (sx_lr.cons rfl sx_lr.nil)))) (x86_1 hI ho ho1 hm hm1 hx (g := g) (by omega))
  · replace q1 := of_decide_eq_false q1
    replace q1 := mt (nI_ltI (a := 99) (b := (g + 2)) (by omega) (by omega)).mpr q1
    refine sx_RP.step (pc2 := 40) (ls2 := [(4, .int (nI (g + 2))), (0, .ref 0), (1, .int (nI x)), (2, .int (nI g)), (3, .int 2)]) (st2 := [.ref 0]) (w3 := w) rfl rfl ?_
    refine sx_RP.gf (v := .ref 1) rfl rfl hI.1.o0 rfl rfl (show _ = 43 from rfl) ?_
    refine sx_RP.step (pc2 := 45) (ls2 := [(4, .int (nI (g + 2))), (0, .ref 0), (1, .int (nI x)), (2, .int (nI g)), (3, .int 2)]) (st2 := [.int (nI (g + 2)), .ref 1]) (w3 := w) rfl rfl ?_
    refine sx_RP.cu (as := [.ref 1, .int (nI (g + 2))]) (rest2 := []) (st3 := [.int (nI (daysN o m (g + 2)))]) rfl rfl (sx_inv_v2 (mi := 86) (k := 276) (st := [.int (nI (g + 2)), .ref 1]) (w := w) rfl rfl (hI.1.oC (Or.inl rfl)) rfl rfl rfl) rfl rfl (x84 hI (Or.inl rfl) ho ho1 hm hm1 (by omega)) rfl ?_
    refine sx_RP.step (pc2 := 49) (ls2 := [(4, .int (nI (g + 2))), (0, .ref 0), (1, .int (nI x)), (2, .int (nI g)), (3, .int 2)]) (st2 := [.int (nI x), .int (nI (daysN o m (g + 2)))]) (w3 := w) rfl rfl ?_
    refine sx_RP.br (p1 := 55) (l1 := [(4, .int (nI (g + 2))), (0, .ref 0), (1, .int (nI x)), (2, .int (nI g)), (3, .int 2)]) (s1 := []) (v1 := w) (p2 := 52) (l2 := [(4, .int (nI (g + 2))), (0, .ref 0), (1, .int (nI x)), (2, .int (nI g)), (3, .int 2)]) (s2 := []) (v2 := w) rfl rfl (fun q2 => ?_) (fun q2 => ?_)
    · replace q2 := of_decide_eq_true q2
      replace q2 := (nI_ltI (a := (daysN o m (g + 2))) (b := x) (by omega) (by omega)).mp q2
      refine sx_RP.step (pc2 := 56) (ls2 := [(4, .int (nI (g + 2))), (0, .ref 0), (1, .int (nI x)), (2, .int (nI g)), (3, .int 2)]) (st2 := [.int 2]) (w3 := w) rfl rfl ?_
      refine sx_RP.step (pc2 := 57) (ls2 := [(4, .int (nI (g + 2))), (0, .ref 0), (1, .int (nI x)), (2, .int (nI g)), (3, .int 2)]) (st2 := [.int 2, .int 2]) (w3 := w) rfl rfl ?_
      refine sx_RP.step (pc2 := 58) (ls2 := [(4, .int (nI (g + 2))), (0, .ref 0), (1, .int (nI x)), (2, .int (nI g)), (3, .int 2)]) (st2 := [.int 1]) (w3 := w) rfl rfl ?_
      refine sx_RP.step (pc2 := 59) (ls2 := [(3, .int 1), (4, .int (nI (g + 2))), (0, .ref 0), (1, .int (nI x)), (2, .int (nI g))]) (st2 := []) (w3 := w) rfl rfl ?_
      refine sx_RP.step (pc2 := 23) (ls2 := [(3, .int 1), (4, .int (nI (g + 2))), (0, .ref 0), (1, .int (nI x)), (2, .int (nI g))]) (st2 := []) (w3 := w) rfl rfl ?_
      rw [show halfN (okN o m x) g 2 = g from if_neg (fun z => by have z2 := of_decide_eq_true z.2; omega)]
      exact sx_RP.ls (sx_lr.cons rfl (sx_lr.cons rfl (sx_lr.cons rfl (sx_lr.cons rfl sx_lr.nil)))) (x86_1 hI ho ho1 hm hm1 hx (g := g) (by omega))
    · replace q2 := of_decide_eq_false q2
      replace q2 := mt (nI_ltI (a := (daysN o m (g + 2))) (b := x) (by omega) (by omega)).mpr q2
      refine sx_RP.step (pc2 := 54) (ls2 := [(4, .int (nI (g + 2))), (0, .ref 0), (1, .int (nI x)), (2, .int (nI g)), (3, .int 2)]) (st2 := [.int (nI (g + 2))]) (w3 := w) rfl rfl ?_
      refine sx_RP.step (pc2 := 55) (ls2 := [(2, .int (nI (g + 2))), (4, .int (nI (g + 2))), (0, .ref 0), (1, .int (nI x)), (3, .int 2)]) (st2 := []) (w3 := w) rfl rfl ?_
      refine sx_RP.step (pc2 := 56) (ls2 := [(2, .int (nI (g + 2))), (4, .int (nI (g + 2))), (0, .ref 0), (1, .int (nI x)), (3, .int 2)]) (st2 := [.int 2]) (w3 := w) rfl rfl ?_
      refine sx_RP.step (pc2 := 57) (ls2 := [(2, .int (nI (g + 2))), (4, .int (nI (g + 2))), (0, .ref 0), (1, .int (nI x)), (3, .int 2)]) (st2 := [.int 2, .int 2]) (w3 := w) rfl rfl ?_
      refine sx_RP.step (pc2 := 58) (ls2 := [(2, .int (nI (g + 2))), (4, .int (nI (g + 2))), (0, .ref 0), (1, .int (nI x)), (3, .int 2)]) (st2 := [.int 1]) (w3 := w) rfl rfl ?_
      refine sx_RP.step (pc2 := 59) (ls2 := [(3, .int 1), (2, .int (nI (g + 2))), (4, .int (nI (g + 2))), (0, .ref 0), (1, .int (nI x))]) (st2 := []) (w3 := w) rfl rfl ?_
      refine sx_RP.step (pc2 := 23) (ls2 := [(3, .int 1), (2, .int (nI (g + 2))), (4, .int (nI (g + 2))), (0, .ref 0), (1, .int (nI x))]) (st2 := []) (w3 := w) rfl rfl ?_
      rw [show halfN (okN o m x) g 2 = g + 2 from if_pos ⟨by omega, decide_eq_true (by omega)⟩]
      exact sx_RP.ls (sx_lr.cons rfl (sx_lr.cons rfl (sx_lr.cons rfl (sx_lr.cons rfl sx_lr.nil)))) (x86_1 hI ho ho1 hm hm1 hx (g := (g + 2)) (by omega))
set_option maxRecDepth 20000 in
set_option maxHeartbeats 4000000 in
theorem x86_4 {xs : Option (List Int32)} {d o m x : Nat} {w : List sx_C} (hI : WI w) (ho : fi w 1 8 = nI o) (ho1 : o ≤ 999999) (hm : fi w 1 9 = nI m) (hm1 : m ≤ 999) (hx : x ≤ 999) {g : Nat} (hg : g ≤ 99) : sx_RP xs (d + 7) 86 23 [(0, .ref 0), (1, .int (nI x)), (2, .int (nI g)), (3, .int 4)] [] w (fun r2 w2 => (r2 = some (.int (rat0 ((halfN (okN o m x) (halfN (okN o m x) (halfN (okN o m x) g 4) 2) 1))))) ∧ WI w2 ∧ EQ w w2) := by
  have hdd : daysN o m (g + 4) ≤ 999 := daysN_le
  refine sx_RP.step (pc2 := 24) (ls2 := [(0, .ref 0), (1, .int (nI x)), (2, .int (nI g)), (3, .int 4)]) (st2 := [.int 4]) (w3 := w) rfl rfl ?_
  refine sx_RP.step (pc2 := 27) (ls2 := [(0, .ref 0), (1, .int (nI x)), (2, .int (nI g)), (3, .int 4)]) (st2 := []) (w3 := w) rfl rfl ?_
  refine sx_RP.step (pc2 := 28) (ls2 := [(0, .ref 0), (1, .int (nI x)), (2, .int (nI g)), (3, .int 4)]) (st2 := [.int (nI g)]) (w3 := w) rfl rfl ?_
  refine sx_RP.step (pc2 := 29) (ls2 := [(0, .ref 0), (1, .int (nI x)), (2, .int (nI g)), (3, .int 4)]) (st2 := [.int 4, .int (nI g)]) (w3 := w) rfl rfl ?_
  refine sx_RP.step (pc2 := 30) (ls2 := [(0, .ref 0), (1, .int (nI x)), (2, .int (nI g)), (3, .int 4)]) (st2 := [.int ((nI g) + 4)]) (w3 := w) rfl rfl ?_
  rw [show ((nI g) + 4 : Int32) = nI (g + 4) from nI_add g 4]
  refine sx_RP.step (pc2 := 32) (ls2 := [(4, .int (nI (g + 4))), (0, .ref 0), (1, .int (nI x)), (2, .int (nI g)), (3, .int 4)]) (st2 := []) (w3 := w) rfl rfl ?_
  refine sx_RP.step (pc2 := 34) (ls2 := [(4, .int (nI (g + 4))), (0, .ref 0), (1, .int (nI x)), (2, .int (nI g)), (3, .int 4)]) (st2 := [.int (nI (g + 4))]) (w3 := w) rfl rfl ?_
  refine sx_RP.step (pc2 := 36) (ls2 := [(4, .int (nI (g + 4))), (0, .ref 0), (1, .int (nI x)), (2, .int (nI g)), (3, .int 4)]) (st2 := [.int 99, .int (nI (g + 4))]) (w3 := w) rfl rfl ?_
  refine sx_RP.br (p1 := 55) (l1 := [(4, .int (nI (g + 4))), (0, .ref 0), (1, .int (nI x)), (2, .int (nI g)), (3, .int 4)]) (s1 := []) (v1 := w) (p2 := 39) (l2 := [(4, .int (nI (g + 4))), (0, .ref 0), (1, .int (nI x)), (2, .int (nI g)), (3, .int 4)]) (s2 := []) (v2 := w) rfl rfl (fun q1 => ?_) (fun q1 => ?_)
  · replace q1 := of_decide_eq_true q1
    replace q1 := (nI_ltI (a := 99) (b := (g + 4)) (by omega) (by omega)).mp q1
    refine sx_RP.step (pc2 := 56) (ls2 := [(4, .int (nI (g + 4))), (0, .ref 0), (1, .int (nI x)), (2, .int (nI g)), (3, .int 4)]) (st2 := [.int 4]) (w3 := w) rfl rfl ?_
    refine sx_RP.step (pc2 := 57) (ls2 := [(4, .int (nI (g + 4))), (0, .ref 0), (1, .int (nI x)), (2, .int (nI g)), (3, .int 4)]) (st2 := [.int 2, .int 4]) (w3 := w) rfl rfl ?_
    refine sx_RP.step (pc2 := 58) (ls2 := [(4, .int (nI (g + 4))), (0, .ref 0), (1, .int (nI x)), (2, .int (nI g)), (3, .int 4)]) (st2 := [.int 2]) (w3 := w) rfl rfl ?_
    refine sx_RP.step (pc2 := 59) (ls2 := [(3, .int 2), (4, .int (nI (g + 4))), (0, .ref 0), (1, .int (nI x)), (2, .int (nI g))]) (st2 := []) (w3 := w) rfl rfl ?_
    refine sx_RP.step (pc2 := 23) (ls2 := [(3, .int 2), (4, .int (nI (g + 4))), (0, .ref 0), (1, .int (nI x)), (2, .int (nI g))]) (st2 := []) (w3 := w) rfl rfl ?_
    rw [show halfN (okN o m x) g 4 = g from if_neg (fun z => by have z2 := of_decide_eq_true z.2; omega)]
    exact sx_RP.ls (sx_lr.cons rfl (sx_lr.cons rfl (sx_lr.cons rfl (sx_lr.cons rfl sx_lr.nil)))) (x86_2 hI ho ho1 hm hm1 hx (g := g) (by omega))
  · replace q1 := of_decide_eq_false q1
    replace q1 := mt (nI_ltI (a := 99) (b := (g + 4)) (by omega) (by omega)).mpr q1
    refine sx_RP.step (pc2 := 40) (ls2 := [(4, .int (nI (g + 4))), (0, .ref 0), (1, .int (nI x)), (2, .int (nI g)), (3, .int 4)]) (st2 := [.ref 0]) (w3 := w) rfl rfl ?_
    refine sx_RP.gf (v := .ref 1) rfl rfl hI.1.o0 rfl rfl (show _ = 43 from rfl) ?_
    refine sx_RP.step (pc2 := 45) (ls2 := [(4, .int (nI (g + 4))), (0, .ref 0), (1, .int (nI x)), (2, .int (nI g)), (3, .int 4)]) (st2 := [.int (nI (g + 4)), .ref 1]) (w3 := w) rfl rfl ?_
    refine sx_RP.cu (as := [.ref 1, .int (nI (g + 4))]) (rest2 := []) (st3 := [.int (nI (daysN o m (g + 4)))]) rfl rfl (sx_inv_v2 (mi := 86) (k := 276) (st := [.int (nI (g + 4)), .ref 1]) (w := w) rfl rfl (hI.1.oC (Or.inl rfl)) rfl rfl rfl) rfl rfl (x84 hI (Or.inl rfl) ho ho1 hm hm1 (by omega)) rfl ?_
    refine sx_RP.step (pc2 := 49) (ls2 := [(4, .int (nI (g + 4))), (0, .ref 0), (1, .int (nI x)), (2, .int (nI g)), (3, .int 4)]) (st2 := [.int (nI x), .int (nI (daysN o m (g + 4)))]) (w3 := w) rfl rfl ?_
    refine sx_RP.br (p1 := 55) (l1 := [(4, .int (nI (g + 4))), (0, .ref 0), (1, .int (nI x)), (2, .int (nI g)), (3, .int 4)]) (s1 := []) (v1 := w) (p2 := 52) (l2 := [(4, .int (nI (g + 4))), (0, .ref 0), (1, .int (nI x)), (2, .int (nI g)), (3, .int 4)]) (s2 := []) (v2 := w) rfl rfl (fun q2 => ?_) (fun q2 => ?_)
    · replace q2 := of_decide_eq_true q2
      replace q2 := (nI_ltI (a := (daysN o m (g + 4))) (b := x) (by omega) (by omega)).mp q2
      refine sx_RP.step (pc2 := 56) (ls2 := [(4, .int (nI (g + 4))), (0, .ref 0), (1, .int (nI x)), (2, .int (nI g)), (3, .int 4)]) (st2 := [.int 4]) (w3 := w) rfl rfl ?_
      refine sx_RP.step (pc2 := 57) (ls2 := [(4, .int (nI (g + 4))), (0, .ref 0), (1, .int (nI x)), (2, .int (nI g)), (3, .int 4)]) (st2 := [.int 2, .int 4]) (w3 := w) rfl rfl ?_
      refine sx_RP.step (pc2 := 58) (ls2 := [(4, .int (nI (g + 4))), (0, .ref 0), (1, .int (nI x)), (2, .int (nI g)), (3, .int 4)]) (st2 := [.int 2]) (w3 := w) rfl rfl ?_
      refine sx_RP.step (pc2 := 59) (ls2 := [(3, .int 2), (4, .int (nI (g + 4))), (0, .ref 0), (1, .int (nI x)), (2, .int (nI g))]) (st2 := []) (w3 := w) rfl rfl ?_
      refine sx_RP.step (pc2 := 23) (ls2 := [(3, .int 2), (4, .int (nI (g + 4))), (0, .ref 0), (1, .int (nI x)), (2, .int (nI g))]) (st2 := []) (w3 := w) rfl rfl ?_
      rw [show halfN (okN o m x) g 4 = g from if_neg (fun z => by have z2 := of_decide_eq_true z.2; omega)]
      exact sx_RP.ls (sx_lr.cons rfl (sx_lr.cons rfl (sx_lr.cons rfl (sx_lr.cons rfl sx_lr.nil)))) (x86_2 hI ho ho1 hm hm1 hx (g := g) (by omega))
    · replace q2 := of_decide_eq_false q2
      replace q2 := mt (nI_ltI (a := (daysN o m (g + 4))) (b := x) (by omega) (by omega)).mpr q2
      refine sx_RP.step (pc2 := 54) (ls2 := [(4, .int (nI (g + 4))), (0, .ref 0), (1, .int (nI x)), (2, .int (nI g)), (3, .int 4)]) (st2 := [.int (nI (g + 4))]) (w3 := w) rfl rfl ?_
      refine sx_RP.step (pc2 := 55) (ls2 := [(2, .int (nI (g + 4))), (4, .int (nI (g + 4))), (0, .ref 0), (1, .int (nI x)), (3, .int 4)]) (st2 := []) (w3 := w) rfl rfl ?_
      refine sx_RP.step (pc2 := 56) (ls2 := [(2, .int (nI (g + 4))), (4, .int (nI (g + 4))), (0, .ref 0), (1, .int (nI x)), (3, .int 4)]) (st2 := [.int 4]) (w3 := w) rfl rfl ?_
      refine sx_RP.step (pc2 := 57) (ls2 := [(2, .int (nI (g + 4))), (4, .int (nI (g + 4))), (0, .ref 0), (1, .int (nI x)), (3, .int 4)]) (st2 := [.int 2, .int 4]) (w3 := w) rfl rfl ?_
      refine sx_RP.step (pc2 := 58) (ls2 := [(2, .int (nI (g + 4))), (4, .int (nI (g + 4))), (0, .ref 0), (1, .int (nI x)), (3, .int 4)]) (st2 := [.int 2]) (w3 := w) rfl rfl ?_
      refine sx_RP.step (pc2 := 59) (ls2 := [(3, .int 2), (2, .int (nI (g + 4))), (4, .int (nI (g + 4))), (0, .ref 0), (1, .int (nI x))]) (st2 := []) (w3 := w) rfl rfl ?_
      refine sx_RP.step (pc2 := 23) (ls2 := [(3, .int 2), (2, .int (nI (g + 4))), (4, .int (nI (g + 4))), (0, .ref 0), (1, .int (nI x))]) (st2 := []) (w3 := w) rfl rfl ?_
      rw [show halfN (okN o m x) g 4 = g + 4 from if_pos ⟨by omega, decide_eq_true (by omega)⟩]
      exact sx_RP.ls (sx_lr.cons rfl (sx_lr.cons rfl (sx_lr.cons rfl (sx_lr.cons rfl sx_lr.nil)))) (x86_2 hI ho ho1 hm hm1 hx (g := (g + 4)) (by omega))
set_option maxRecDepth 20000 in
set_option maxHeartbeats 4000000 in
theorem x86_8 {xs : Option (List Int32)} {d o m x : Nat} {w : List sx_C} (hI : WI w) (ho : fi w 1 8 = nI o) (ho1 : o ≤ 999999) (hm : fi w 1 9 = nI m) (hm1 : m ≤ 999) (hx : x ≤ 999) {g : Nat} (hg : g ≤ 99) : sx_RP xs (d + 7) 86 23 [(0, .ref 0), (1, .int (nI x)), (2, .int (nI g)), (3, .int 8)] [] w (fun r2 w2 => (r2 = some (.int (rat0 ((halfN (okN o m x) (halfN (okN o m x) (halfN (okN o m x) (halfN (okN o m x) g 8) 4) 2) 1))))) ∧ WI w2 ∧ EQ w w2) := by
  have hdd : daysN o m (g + 8) ≤ 999 := daysN_le
  refine sx_RP.step (pc2 := 24) (ls2 := [(0, .ref 0), (1, .int (nI x)), (2, .int (nI g)), (3, .int 8)]) (st2 := [.int 8]) (w3 := w) rfl rfl ?_
  refine sx_RP.step (pc2 := 27) (ls2 := [(0, .ref 0), (1, .int (nI x)), (2, .int (nI g)), (3, .int 8)]) (st2 := []) (w3 := w) rfl rfl ?_
  refine sx_RP.step (pc2 := 28) (ls2 := [(0, .ref 0), (1, .int (nI x)), (2, .int (nI g)), (3, .int 8)]) (st2 := [.int (nI g)]) (w3 := w) rfl rfl ?_
  refine sx_RP.step (pc2 := 29) (ls2 := [(0, .ref 0), (1, .int (nI x)), (2, .int (nI g)), (3, .int 8)]) (st2 := [.int 8, .int (nI g)]) (w3 := w) rfl rfl ?_
  refine sx_RP.step (pc2 := 30) (ls2 := [(0, .ref 0), (1, .int (nI x)), (2, .int (nI g)), (3, .int 8)]) (st2 := [.int ((nI g) + 8)]) (w3 := w) rfl rfl ?_
  rw [show ((nI g) + 8 : Int32) = nI (g + 8) from nI_add g 8]
  refine sx_RP.step (pc2 := 32) (ls2 := [(4, .int (nI (g + 8))), (0, .ref 0), (1, .int (nI x)), (2, .int (nI g)), (3, .int 8)]) (st2 := []) (w3 := w) rfl rfl ?_
  refine sx_RP.step (pc2 := 34) (ls2 := [(4, .int (nI (g + 8))), (0, .ref 0), (1, .int (nI x)), (2, .int (nI g)), (3, .int 8)]) (st2 := [.int (nI (g + 8))]) (w3 := w) rfl rfl ?_
  refine sx_RP.step (pc2 := 36) (ls2 := [(4, .int (nI (g + 8))), (0, .ref 0), (1, .int (nI x)), (2, .int (nI g)), (3, .int 8)]) (st2 := [.int 99, .int (nI (g + 8))]) (w3 := w) rfl rfl ?_
  refine sx_RP.br (p1 := 55) (l1 := [(4, .int (nI (g + 8))), (0, .ref 0), (1, .int (nI x)), (2, .int (nI g)), (3, .int 8)]) (s1 := []) (v1 := w) (p2 := 39) (l2 := [(4, .int (nI (g + 8))), (0, .ref 0), (1, .int (nI x)), (2, .int (nI g)), (3, .int 8)]) (s2 := []) (v2 := w) rfl rfl (fun q1 => ?_) (fun q1 => ?_)
  · replace q1 := of_decide_eq_true q1
    replace q1 := (nI_ltI (a := 99) (b := (g + 8)) (by omega) (by omega)).mp q1
    refine sx_RP.step (pc2 := 56) (ls2 := [(4, .int (nI (g + 8))), (0, .ref 0), (1, .int (nI x)), (2, .int (nI g)), (3, .int 8)]) (st2 := [.int 8]) (w3 := w) rfl rfl ?_
    refine sx_RP.step (pc2 := 57) (ls2 := [(4, .int (nI (g + 8))), (0, .ref 0), (1, .int (nI x)), (2, .int (nI g)), (3, .int 8)]) (st2 := [.int 2, .int 8]) (w3 := w) rfl rfl ?_
    refine sx_RP.step (pc2 := 58) (ls2 := [(4, .int (nI (g + 8))), (0, .ref 0), (1, .int (nI x)), (2, .int (nI g)), (3, .int 8)]) (st2 := [.int 4]) (w3 := w) rfl rfl ?_
    refine sx_RP.step (pc2 := 59) (ls2 := [(3, .int 4), (4, .int (nI (g + 8))), (0, .ref 0), (1, .int (nI x)), (2, .int (nI g))]) (st2 := []) (w3 := w) rfl rfl ?_
    refine sx_RP.step (pc2 := 23) (ls2 := [(3, .int 4), (4, .int (nI (g + 8))), (0, .ref 0), (1, .int (nI x)), (2, .int (nI g))]) (st2 := []) (w3 := w) rfl rfl ?_
    rw [show halfN (okN o m x) g 8 = g from if_neg (fun z => by have z2 := of_decide_eq_true z.2; omega)]
    exact sx_RP.ls (sx_lr.cons rfl (sx_lr.cons rfl (sx_lr.cons rfl (sx_lr.cons rfl sx_lr.nil)))) (x86_4 hI ho ho1 hm hm1 hx (g := g) (by omega))
  · replace q1 := of_decide_eq_false q1
    replace q1 := mt (nI_ltI (a := 99) (b := (g + 8)) (by omega) (by omega)).mpr q1
    refine sx_RP.step (pc2 := 40) (ls2 := [(4, .int (nI (g + 8))), (0, .ref 0), (1, .int (nI x)), (2, .int (nI g)), (3, .int 8)]) (st2 := [.ref 0]) (w3 := w) rfl rfl ?_
    refine sx_RP.gf (v := .ref 1) rfl rfl hI.1.o0 rfl rfl (show _ = 43 from rfl) ?_
    refine sx_RP.step (pc2 := 45) (ls2 := [(4, .int (nI (g + 8))), (0, .ref 0), (1, .int (nI x)), (2, .int (nI g)), (3, .int 8)]) (st2 := [.int (nI (g + 8)), .ref 1]) (w3 := w) rfl rfl ?_
    refine sx_RP.cu (as := [.ref 1, .int (nI (g + 8))]) (rest2 := []) (st3 := [.int (nI (daysN o m (g + 8)))]) rfl rfl (sx_inv_v2 (mi := 86) (k := 276) (st := [.int (nI (g + 8)), .ref 1]) (w := w) rfl rfl (hI.1.oC (Or.inl rfl)) rfl rfl rfl) rfl rfl (x84 hI (Or.inl rfl) ho ho1 hm hm1 (by omega)) rfl ?_
    refine sx_RP.step (pc2 := 49) (ls2 := [(4, .int (nI (g + 8))), (0, .ref 0), (1, .int (nI x)), (2, .int (nI g)), (3, .int 8)]) (st2 := [.int (nI x), .int (nI (daysN o m (g + 8)))]) (w3 := w) rfl rfl ?_
    refine sx_RP.br (p1 := 55) (l1 := [(4, .int (nI (g + 8))), (0, .ref 0), (1, .int (nI x)), (2, .int (nI g)), (3, .int 8)]) (s1 := []) (v1 := w) (p2 := 52) (l2 := [(4, .int (nI (g + 8))), (0, .ref 0), (1, .int (nI x)), (2, .int (nI g)), (3, .int 8)]) (s2 := []) (v2 := w) rfl rfl (fun q2 => ?_) (fun q2 => ?_)
    · replace q2 := of_decide_eq_true q2
      replace q2 := (nI_ltI (a := (daysN o m (g + 8))) (b := x) (by omega) (by omega)).mp q2
      refine sx_RP.step (pc2 := 56) (ls2 := [(4, .int (nI (g + 8))), (0, .ref 0), (1, .int (nI x)), (2, .int (nI g)), (3, .int 8)]) (st2 := [.int 8]) (w3 := w) rfl rfl ?_
      refine sx_RP.step (pc2 := 57) (ls2 := [(4, .int (nI (g + 8))), (0, .ref 0), (1, .int (nI x)), (2, .int (nI g)), (3, .int 8)]) (st2 := [.int 2, .int 8]) (w3 := w) rfl rfl ?_
      refine sx_RP.step (pc2 := 58) (ls2 := [(4, .int (nI (g + 8))), (0, .ref 0), (1, .int (nI x)), (2, .int (nI g)), (3, .int 8)]) (st2 := [.int 4]) (w3 := w) rfl rfl ?_
      refine sx_RP.step (pc2 := 59) (ls2 := [(3, .int 4), (4, .int (nI (g + 8))), (0, .ref 0), (1, .int (nI x)), (2, .int (nI g))]) (st2 := []) (w3 := w) rfl rfl ?_
      refine sx_RP.step (pc2 := 23) (ls2 := [(3, .int 4), (4, .int (nI (g + 8))), (0, .ref 0), (1, .int (nI x)), (2, .int (nI g))]) (st2 := []) (w3 := w) rfl rfl ?_
      rw [show halfN (okN o m x) g 8 = g from if_neg (fun z => by have z2 := of_decide_eq_true z.2; omega)]
      exact sx_RP.ls (sx_lr.cons rfl (sx_lr.cons rfl (sx_lr.cons rfl (sx_lr.cons rfl sx_lr.nil)))) (x86_4 hI ho ho1 hm hm1 hx (g := g) (by omega))
    · replace q2 := of_decide_eq_false q2
      replace q2 := mt (nI_ltI (a := (daysN o m (g + 8))) (b := x) (by omega) (by omega)).mpr q2
      refine sx_RP.step (pc2 := 54) (ls2 := [(4, .int (nI (g + 8))), (0, .ref 0), (1, .int (nI x)), (2, .int (nI g)), (3, .int 8)]) (st2 := [.int (nI (g + 8))]) (w3 := w) rfl rfl ?_
      refine sx_RP.step (pc2 := 55) (ls2 := [(2, .int (nI (g + 8))), (4, .int (nI (g + 8))), (0, .ref 0), (1, .int (nI x)), (3, .int 8)]) (st2 := []) (w3 := w) rfl rfl ?_
      refine sx_RP.step (pc2 := 56) (ls2 := [(2, .int (nI (g + 8))), (4, .int (nI (g + 8))), (0, .ref 0), (1, .int (nI x)), (3, .int 8)]) (st2 := [.int 8]) (w3 := w) rfl rfl ?_
      refine sx_RP.step (pc2 := 57) (ls2 := [(2, .int (nI (g + 8))), (4, .int (nI (g + 8))), (0, .ref 0), (1, .int (nI x)), (3, .int 8)]) (st2 := [.int 2, .int 8]) (w3 := w) rfl rfl ?_
      refine sx_RP.step (pc2 := 58) (ls2 := [(2, .int (nI (g + 8))), (4, .int (nI (g + 8))), (0, .ref 0), (1, .int (nI x)), (3, .int 8)]) (st2 := [.int 4]) (w3 := w) rfl rfl ?_
      refine sx_RP.step (pc2 := 59) (ls2 := [(3, .int 4), (2, .int (nI (g + 8))), (4, .int (nI (g + 8))), (0, .ref 0), (1, .int (nI x))]) (st2 := []) (w3 := w) rfl rfl ?_
      refine sx_RP.step (pc2 := 23) (ls2 := [(3, .int 4), (2, .int (nI (g + 8))), (4, .int (nI (g + 8))), (0, .ref 0), (1, .int (nI x))]) (st2 := []) (w3 := w) rfl rfl ?_
      rw [show halfN (okN o m x) g 8 = g + 8 from if_pos ⟨by omega, decide_eq_true (by omega)⟩]
      exact sx_RP.ls (sx_lr.cons rfl (sx_lr.cons rfl (sx_lr.cons rfl (sx_lr.cons rfl sx_lr.nil)))) (x86_4 hI ho ho1 hm hm1 hx (g := (g + 8)) (by omega))
set_option maxRecDepth 20000 in
set_option maxHeartbeats 4000000 in
theorem x86_16 {xs : Option (List Int32)} {d o m x : Nat} {w : List sx_C} (hI : WI w) (ho : fi w 1 8 = nI o) (ho1 : o ≤ 999999) (hm : fi w 1 9 = nI m) (hm1 : m ≤ 999) (hx : x ≤ 999) {g : Nat} (hg : g ≤ 99) : sx_RP xs (d + 7) 86 23 [(0, .ref 0), (1, .int (nI x)), (2, .int (nI g)), (3, .int 16)] [] w (fun r2 w2 => (r2 = some (.int (rat0 ((halfN (okN o m x) (halfN (okN o m x) (halfN (okN o m x) (halfN (okN o m x) (halfN (okN o m x) g 16) 8) 4) 2) 1))))) ∧ WI w2 ∧ EQ w w2) := by
  have hdd : daysN o m (g + 16) ≤ 999 := daysN_le
  refine sx_RP.step (pc2 := 24) (ls2 := [(0, .ref 0), (1, .int (nI x)), (2, .int (nI g)), (3, .int 16)]) (st2 := [.int 16]) (w3 := w) rfl rfl ?_
  refine sx_RP.step (pc2 := 27) (ls2 := [(0, .ref 0), (1, .int (nI x)), (2, .int (nI g)), (3, .int 16)]) (st2 := []) (w3 := w) rfl rfl ?_
  refine sx_RP.step (pc2 := 28) (ls2 := [(0, .ref 0), (1, .int (nI x)), (2, .int (nI g)), (3, .int 16)]) (st2 := [.int (nI g)]) (w3 := w) rfl rfl ?_
  refine sx_RP.step (pc2 := 29) (ls2 := [(0, .ref 0), (1, .int (nI x)), (2, .int (nI g)), (3, .int 16)]) (st2 := [.int 16, .int (nI g)]) (w3 := w) rfl rfl ?_
  refine sx_RP.step (pc2 := 30) (ls2 := [(0, .ref 0), (1, .int (nI x)), (2, .int (nI g)), (3, .int 16)]) (st2 := [.int ((nI g) + 16)]) (w3 := w) rfl rfl ?_
  rw [show ((nI g) + 16 : Int32) = nI (g + 16) from nI_add g 16]
  refine sx_RP.step (pc2 := 32) (ls2 := [(4, .int (nI (g + 16))), (0, .ref 0), (1, .int (nI x)), (2, .int (nI g)), (3, .int 16)]) (st2 := []) (w3 := w) rfl rfl ?_
  refine sx_RP.step (pc2 := 34) (ls2 := [(4, .int (nI (g + 16))), (0, .ref 0), (1, .int (nI x)), (2, .int (nI g)), (3, .int 16)]) (st2 := [.int (nI (g + 16))]) (w3 := w) rfl rfl ?_
  refine sx_RP.step (pc2 := 36) (ls2 := [(4, .int (nI (g + 16))), (0, .ref 0), (1, .int (nI x)), (2, .int (nI g)), (3, .int 16)]) (st2 := [.int 99, .int (nI (g + 16))]) (w3 := w) rfl rfl ?_
  refine sx_RP.br (p1 := 55) (l1 := [(4, .int (nI (g + 16))), (0, .ref 0), (1, .int (nI x)), (2, .int (nI g)), (3, .int 16)]) (s1 := []) (v1 := w) (p2 := 39) (l2 := [(4, .int (nI (g + 16))), (0, .ref 0), (1, .int (nI x)), (2, .int (nI g)), (3, .int 16)]) (s2 := []) (v2 := w) rfl rfl (fun q1 => ?_) (fun q1 => ?_)
  · replace q1 := of_decide_eq_true q1
    replace q1 := (nI_ltI (a := 99) (b := (g + 16)) (by omega) (by omega)).mp q1
    refine sx_RP.step (pc2 := 56) (ls2 := [(4, .int (nI (g + 16))), (0, .ref 0), (1, .int (nI x)), (2, .int (nI g)), (3, .int 16)]) (st2 := [.int 16]) (w3 := w) rfl rfl ?_
    refine sx_RP.step (pc2 := 57) (ls2 := [(4, .int (nI (g + 16))), (0, .ref 0), (1, .int (nI x)), (2, .int (nI g)), (3, .int 16)]) (st2 := [.int 2, .int 16]) (w3 := w) rfl rfl ?_
    refine sx_RP.step (pc2 := 58) (ls2 := [(4, .int (nI (g + 16))), (0, .ref 0), (1, .int (nI x)), (2, .int (nI g)), (3, .int 16)]) (st2 := [.int 8]) (w3 := w) rfl rfl ?_
    refine sx_RP.step (pc2 := 59) (ls2 := [(3, .int 8), (4, .int (nI (g + 16))), (0, .ref 0), (1, .int (nI x)), (2, .int (nI g))]) (st2 := []) (w3 := w) rfl rfl ?_
    refine sx_RP.step (pc2 := 23) (ls2 := [(3, .int 8), (4, .int (nI (g + 16))), (0, .ref 0), (1, .int (nI x)), (2, .int (nI g))]) (st2 := []) (w3 := w) rfl rfl ?_
    rw [show halfN (okN o m x) g 16 = g from if_neg (fun z => by have z2 := of_decide_eq_true z.2; omega)]
    exact sx_RP.ls (sx_lr.cons rfl (sx_lr.cons rfl (sx_lr.cons rfl (sx_lr.cons rfl sx_lr.nil)))) (x86_8 hI ho ho1 hm hm1 hx (g := g) (by omega))
  · replace q1 := of_decide_eq_false q1
    replace q1 := mt (nI_ltI (a := 99) (b := (g + 16)) (by omega) (by omega)).mpr q1
    refine sx_RP.step (pc2 := 40) (ls2 := [(4, .int (nI (g + 16))), (0, .ref 0), (1, .int (nI x)), (2, .int (nI g)), (3, .int 16)]) (st2 := [.ref 0]) (w3 := w) rfl rfl ?_
    refine sx_RP.gf (v := .ref 1) rfl rfl hI.1.o0 rfl rfl (show _ = 43 from rfl) ?_
    refine sx_RP.step (pc2 := 45) (ls2 := [(4, .int (nI (g + 16))), (0, .ref 0), (1, .int (nI x)), (2, .int (nI g)), (3, .int 16)]) (st2 := [.int (nI (g + 16)), .ref 1]) (w3 := w) rfl rfl ?_
    refine sx_RP.cu (as := [.ref 1, .int (nI (g + 16))]) (rest2 := []) (st3 := [.int (nI (daysN o m (g + 16)))]) rfl rfl (sx_inv_v2 (mi := 86) (k := 276) (st := [.int (nI (g + 16)), .ref 1]) (w := w) rfl rfl (hI.1.oC (Or.inl rfl)) rfl rfl rfl) rfl rfl (x84 hI (Or.inl rfl) ho ho1 hm hm1 (by omega)) rfl ?_
    refine sx_RP.step (pc2 := 49) (ls2 := [(4, .int (nI (g + 16))), (0, .ref 0), (1, .int (nI x)), (2, .int (nI g)), (3, .int 16)]) (st2 := [.int (nI x), .int (nI (daysN o m (g + 16)))]) (w3 := w) rfl rfl ?_
    refine sx_RP.br (p1 := 55) (l1 := [(4, .int (nI (g + 16))), (0, .ref 0), (1, .int (nI x)), (2, .int (nI g)), (3, .int 16)]) (s1 := []) (v1 := w) (p2 := 52) (l2 := [(4, .int (nI (g + 16))), (0, .ref 0), (1, .int (nI x)), (2, .int (nI g)), (3, .int 16)]) (s2 := []) (v2 := w) rfl rfl (fun q2 => ?_) (fun q2 => ?_)
    · replace q2 := of_decide_eq_true q2
      replace q2 := (nI_ltI (a := (daysN o m (g + 16))) (b := x) (by omega) (by omega)).mp q2
      refine sx_RP.step (pc2 := 56) (ls2 := [(4, .int (nI (g + 16))), (0, .ref 0), (1, .int (nI x)), (2, .int (nI g)), (3, .int 16)]) (st2 := [.int 16]) (w3 := w) rfl rfl ?_
      refine sx_RP.step (pc2 := 57) (ls2 := [(4, .int (nI (g + 16))), (0, .ref 0), (1, .int (nI x)), (2, .int (nI g)), (3, .int 16)]) (st2 := [.int 2, .int 16]) (w3 := w) rfl rfl ?_
      refine sx_RP.step (pc2 := 58) (ls2 := [(4, .int (nI (g + 16))), (0, .ref 0), (1, .int (nI x)), (2, .int (nI g)), (3, .int 16)]) (st2 := [.int 8]) (w3 := w) rfl rfl ?_
      refine sx_RP.step (pc2 := 59) (ls2 := [(3, .int 8), (4, .int (nI (g + 16))), (0, .ref 0), (1, .int (nI x)), (2, .int (nI g))]) (st2 := []) (w3 := w) rfl rfl ?_
      refine sx_RP.step (pc2 := 23) (ls2 := [(3, .int 8), (4, .int (nI (g + 16))), (0, .ref 0), (1, .int (nI x)), (2, .int (nI g))]) (st2 := []) (w3 := w) rfl rfl ?_
      rw [show halfN (okN o m x) g 16 = g from if_neg (fun z => by have z2 := of_decide_eq_true z.2; omega)]
      exact sx_RP.ls (sx_lr.cons rfl (sx_lr.cons rfl (sx_lr.cons rfl (sx_lr.cons rfl sx_lr.nil)))) (x86_8 hI ho ho1 hm hm1 hx (g := g) (by omega))
    · replace q2 := of_decide_eq_false q2
      replace q2 := mt (nI_ltI (a := (daysN o m (g + 16))) (b := x) (by omega) (by omega)).mpr q2
      refine sx_RP.step (pc2 := 54) (ls2 := [(4, .int (nI (g + 16))), (0, .ref 0), (1, .int (nI x)), (2, .int (nI g)), (3, .int 16)]) (st2 := [.int (nI (g + 16))]) (w3 := w) rfl rfl ?_
      refine sx_RP.step (pc2 := 55) (ls2 := [(2, .int (nI (g + 16))), (4, .int (nI (g + 16))), (0, .ref 0), (1, .int (nI x)), (3, .int 16)]) (st2 := []) (w3 := w) rfl rfl ?_
      refine sx_RP.step (pc2 := 56) (ls2 := [(2, .int (nI (g + 16))), (4, .int (nI (g + 16))), (0, .ref 0), (1, .int (nI x)), (3, .int 16)]) (st2 := [.int 16]) (w3 := w) rfl rfl ?_
      refine sx_RP.step (pc2 := 57) (ls2 := [(2, .int (nI (g + 16))), (4, .int (nI (g + 16))), (0, .ref 0), (1, .int (nI x)), (3, .int 16)]) (st2 := [.int 2, .int 16]) (w3 := w) rfl rfl ?_
      refine sx_RP.step (pc2 := 58) (ls2 := [(2, .int (nI (g + 16))), (4, .int (nI (g + 16))), (0, .ref 0), (1, .int (nI x)), (3, .int 16)]) (st2 := [.int 8]) (w3 := w) rfl rfl ?_
      refine sx_RP.step (pc2 := 59) (ls2 := [(3, .int 8), (2, .int (nI (g + 16))), (4, .int (nI (g + 16))), (0, .ref 0), (1, .int (nI x))]) (st2 := []) (w3 := w) rfl rfl ?_
      refine sx_RP.step (pc2 := 23) (ls2 := [(3, .int 8), (2, .int (nI (g + 16))), (4, .int (nI (g + 16))), (0, .ref 0), (1, .int (nI x))]) (st2 := []) (w3 := w) rfl rfl ?_
      rw [show halfN (okN o m x) g 16 = g + 16 from if_pos ⟨by omega, decide_eq_true (by omega)⟩]
      exact sx_RP.ls (sx_lr.cons rfl (sx_lr.cons rfl (sx_lr.cons rfl (sx_lr.cons rfl sx_lr.nil)))) (x86_8 hI ho ho1 hm hm1 hx (g := (g + 16)) (by omega))
set_option maxRecDepth 20000 in
set_option maxHeartbeats 4000000 in
theorem x86_32 {xs : Option (List Int32)} {d o m x : Nat} {w : List sx_C} (hI : WI w) (ho : fi w 1 8 = nI o) (ho1 : o ≤ 999999) (hm : fi w 1 9 = nI m) (hm1 : m ≤ 999) (hx : x ≤ 999) {g : Nat} (hg : g ≤ 99) : sx_RP xs (d + 7) 86 23 [(0, .ref 0), (1, .int (nI x)), (2, .int (nI g)), (3, .int 32)] [] w (fun r2 w2 => (r2 = some (.int (rat0 ((halfN (okN o m x) (halfN (okN o m x) (halfN (okN o m x) (halfN (okN o m x) (halfN (okN o m x) (halfN (okN o m x) g 32) 16) 8) 4) 2) 1))))) ∧ WI w2 ∧ EQ w w2) := by
  have hdd : daysN o m (g + 32) ≤ 999 := daysN_le
  refine sx_RP.step (pc2 := 24) (ls2 := [(0, .ref 0), (1, .int (nI x)), (2, .int (nI g)), (3, .int 32)]) (st2 := [.int 32]) (w3 := w) rfl rfl ?_
  refine sx_RP.step (pc2 := 27) (ls2 := [(0, .ref 0), (1, .int (nI x)), (2, .int (nI g)), (3, .int 32)]) (st2 := []) (w3 := w) rfl rfl ?_
  refine sx_RP.step (pc2 := 28) (ls2 := [(0, .ref 0), (1, .int (nI x)), (2, .int (nI g)), (3, .int 32)]) (st2 := [.int (nI g)]) (w3 := w) rfl rfl ?_
  refine sx_RP.step (pc2 := 29) (ls2 := [(0, .ref 0), (1, .int (nI x)), (2, .int (nI g)), (3, .int 32)]) (st2 := [.int 32, .int (nI g)]) (w3 := w) rfl rfl ?_
  refine sx_RP.step (pc2 := 30) (ls2 := [(0, .ref 0), (1, .int (nI x)), (2, .int (nI g)), (3, .int 32)]) (st2 := [.int ((nI g) + 32)]) (w3 := w) rfl rfl ?_
  rw [show ((nI g) + 32 : Int32) = nI (g + 32) from nI_add g 32]
  refine sx_RP.step (pc2 := 32) (ls2 := [(4, .int (nI (g + 32))), (0, .ref 0), (1, .int (nI x)), (2, .int (nI g)), (3, .int 32)]) (st2 := []) (w3 := w) rfl rfl ?_
  refine sx_RP.step (pc2 := 34) (ls2 := [(4, .int (nI (g + 32))), (0, .ref 0), (1, .int (nI x)), (2, .int (nI g)), (3, .int 32)]) (st2 := [.int (nI (g + 32))]) (w3 := w) rfl rfl ?_
  refine sx_RP.step (pc2 := 36) (ls2 := [(4, .int (nI (g + 32))), (0, .ref 0), (1, .int (nI x)), (2, .int (nI g)), (3, .int 32)]) (st2 := [.int 99, .int (nI (g + 32))]) (w3 := w) rfl rfl ?_
  refine sx_RP.br (p1 := 55) (l1 := [(4, .int (nI (g + 32))), (0, .ref 0), (1, .int (nI x)), (2, .int (nI g)), (3, .int 32)]) (s1 := []) (v1 := w) (p2 := 39) (l2 := [(4, .int (nI (g + 32))), (0, .ref 0), (1, .int (nI x)), (2, .int (nI g)), (3, .int 32)]) (s2 := []) (v2 := w) rfl rfl (fun q1 => ?_) (fun q1 => ?_)
  · replace q1 := of_decide_eq_true q1
    replace q1 := (nI_ltI (a := 99) (b := (g + 32)) (by omega) (by omega)).mp q1
    refine sx_RP.step (pc2 := 56) (ls2 := [(4, .int (nI (g + 32))), (0, .ref 0), (1, .int (nI x)), (2, .int (nI g)), (3, .int 32)]) (st2 := [.int 32]) (w3 := w) rfl rfl ?_
    refine sx_RP.step (pc2 := 57) (ls2 := [(4, .int (nI (g + 32))), (0, .ref 0), (1, .int (nI x)), (2, .int (nI g)), (3, .int 32)]) (st2 := [.int 2, .int 32]) (w3 := w) rfl rfl ?_
    refine sx_RP.step (pc2 := 58) (ls2 := [(4, .int (nI (g + 32))), (0, .ref 0), (1, .int (nI x)), (2, .int (nI g)), (3, .int 32)]) (st2 := [.int 16]) (w3 := w) rfl rfl ?_
    refine sx_RP.step (pc2 := 59) (ls2 := [(3, .int 16), (4, .int (nI (g + 32))), (0, .ref 0), (1, .int (nI x)), (2, .int (nI g))]) (st2 := []) (w3 := w) rfl rfl ?_
    refine sx_RP.step (pc2 := 23) (ls2 := [(3, .int 16), (4, .int (nI (g + 32))), (0, .ref 0), (1, .int (nI x)), (2, .int (nI g))]) (st2 := []) (w3 := w) rfl rfl ?_
    rw [show halfN (okN o m x) g 32 = g from if_neg (fun z => by have z2 := of_decide_eq_true z.2; omega)]
    exact sx_RP.ls (sx_lr.cons rfl (sx_lr.cons rfl (sx_lr.cons rfl (sx_lr.cons rfl sx_lr.nil)))) (x86_16 hI ho ho1 hm hm1 hx (g := g) (by omega))
  · replace q1 := of_decide_eq_false q1
    replace q1 := mt (nI_ltI (a := 99) (b := (g + 32)) (by omega) (by omega)).mpr q1
    refine sx_RP.step (pc2 := 40) (ls2 := [(4, .int (nI (g + 32))), (0, .ref 0), (1, .int (nI x)), (2, .int (nI g)), (3, .int 32)]) (st2 := [.ref 0]) (w3 := w) rfl rfl ?_
    refine sx_RP.gf (v := .ref 1) rfl rfl hI.1.o0 rfl rfl (show _ = 43 from rfl) ?_
    refine sx_RP.step (pc2 := 45) (ls2 := [(4, .int (nI (g + 32))), (0, .ref 0), (1, .int (nI x)), (2, .int (nI g)), (3, .int 32)]) (st2 := [.int (nI (g + 32)), .ref 1]) (w3 := w) rfl rfl ?_
    refine sx_RP.cu (as := [.ref 1, .int (nI (g + 32))]) (rest2 := []) (st3 := [.int (nI (daysN o m (g + 32)))]) rfl rfl (sx_inv_v2 (mi := 86) (k := 276) (st := [.int (nI (g + 32)), .ref 1]) (w := w) rfl rfl (hI.1.oC (Or.inl rfl)) rfl rfl rfl) rfl rfl (x84 hI (Or.inl rfl) ho ho1 hm hm1 (by omega)) rfl ?_
    refine sx_RP.step (pc2 := 49) (ls2 := [(4, .int (nI (g + 32))), (0, .ref 0), (1, .int (nI x)), (2, .int (nI g)), (3, .int 32)]) (st2 := [.int (nI x), .int (nI (daysN o m (g + 32)))]) (w3 := w) rfl rfl ?_
    refine sx_RP.br (p1 := 55) (l1 := [(4, .int (nI (g + 32))), (0, .ref 0), (1, .int (nI x)), (2, .int (nI g)), (3, .int 32)]) (s1 := []) (v1 := w) (p2 := 52) (l2 := [(4, .int (nI (g + 32))), (0, .ref 0), (1, .int (nI x)), (2, .int (nI g)), (3, .int 32)]) (s2 := []) (v2 := w) rfl rfl (fun q2 => ?_) (fun q2 => ?_)
    · replace q2 := of_decide_eq_true q2
      replace q2 := (nI_ltI (a := (daysN o m (g + 32))) (b := x) (by omega) (by omega)).mp q2
      refine sx_RP.step (pc2 := 56) (ls2 := [(4, .int (nI (g + 32))), (0, .ref 0), (1, .int (nI x)), (2, .int (nI g)), (3, .int 32)]) (st2 := [.int 32]) (w3 := w) rfl rfl ?_
      refine sx_RP.step (pc2 := 57) (ls2 := [(4, .int (nI (g + 32))), (0, .ref 0), (1, .int (nI x)), (2, .int (nI g)), (3, .int 32)]) (st2 := [.int 2, .int 32]) (w3 := w) rfl rfl ?_
      refine sx_RP.step (pc2 := 58) (ls2 := [(4, .int (nI (g + 32))), (0, .ref 0), (1, .int (nI x)), (2, .int (nI g)), (3, .int 32)]) (st2 := [.int 16]) (w3 := w) rfl rfl ?_
      refine sx_RP.step (pc2 := 59) (ls2 := [(3, .int 16), (4, .int (nI (g + 32))), (0, .ref 0), (1, .int (nI x)), (2, .int (nI g))]) (st2 := []) (w3 := w) rfl rfl ?_
      refine sx_RP.step (pc2 := 23) (ls2 := [(3, .int 16), (4, .int (nI (g + 32))), (0, .ref 0), (1, .int (nI x)), (2, .int (nI g))]) (st2 := []) (w3 := w) rfl rfl ?_
      rw [show halfN (okN o m x) g 32 = g from if_neg (fun z => by have z2 := of_decide_eq_true z.2; omega)]
      exact sx_RP.ls (sx_lr.cons rfl (sx_lr.cons rfl (sx_lr.cons rfl (sx_lr.cons rfl sx_lr.nil)))) (x86_16 hI ho ho1 hm hm1 hx (g := g) (by omega))
    · replace q2 := of_decide_eq_false q2
      replace q2 := mt (nI_ltI (a := (daysN o m (g + 32))) (b := x) (by omega) (by omega)).mpr q2
      refine sx_RP.step (pc2 := 54) (ls2 := [(4, .int (nI (g + 32))), (0, .ref 0), (1, .int (nI x)), (2, .int (nI g)), (3, .int 32)]) (st2 := [.int (nI (g + 32))]) (w3 := w) rfl rfl ?_
      refine sx_RP.step (pc2 := 55) (ls2 := [(2, .int (nI (g + 32))), (4, .int (nI (g + 32))), (0, .ref 0), (1, .int (nI x)), (3, .int 32)]) (st2 := []) (w3 := w) rfl rfl ?_
      refine sx_RP.step (pc2 := 56) (ls2 := [(2, .int (nI (g + 32))), (4, .int (nI (g + 32))), (0, .ref 0), (1, .int (nI x)), (3, .int 32)]) (st2 := [.int 32]) (w3 := w) rfl rfl ?_
      refine sx_RP.step (pc2 := 57) (ls2 := [(2, .int (nI (g + 32))), (4, .int (nI (g + 32))), (0, .ref 0), (1, .int (nI x)), (3, .int 32)]) (st2 := [.int 2, .int 32]) (w3 := w) rfl rfl ?_
      refine sx_RP.step (pc2 := 58) (ls2 := [(2, .int (nI (g + 32))), (4, .int (nI (g + 32))), (0, .ref 0), (1, .int (nI x)), (3, .int 32)]) (st2 := [.int 16]) (w3 := w) rfl rfl ?_
      refine sx_RP.step (pc2 := 59) (ls2 := [(3, .int 16), (2, .int (nI (g + 32))), (4, .int (nI (g + 32))), (0, .ref 0), (1, .int (nI x))]) (st2 := []) (w3 := w) rfl rfl ?_
      refine sx_RP.step (pc2 := 23) (ls2 := [(3, .int 16), (2, .int (nI (g + 32))), (4, .int (nI (g + 32))), (0, .ref 0), (1, .int (nI x))]) (st2 := []) (w3 := w) rfl rfl ?_
      rw [show halfN (okN o m x) g 32 = g + 32 from if_pos ⟨by omega, decide_eq_true (by omega)⟩]
      exact sx_RP.ls (sx_lr.cons rfl (sx_lr.cons rfl (sx_lr.cons rfl (sx_lr.cons rfl sx_lr.nil)))) (x86_16 hI ho ho1 hm hm1 hx (g := (g + 32)) (by omega))
set_option maxRecDepth 20000 in
set_option maxHeartbeats 4000000 in
theorem x86_64 {xs : Option (List Int32)} {d o m x : Nat} {w : List sx_C} (hI : WI w) (ho : fi w 1 8 = nI o) (ho1 : o ≤ 999999) (hm : fi w 1 9 = nI m) (hm1 : m ≤ 999) (hx : x ≤ 999) {g : Nat} (hg : g ≤ 99) : sx_RP xs (d + 7) 86 23 [(0, .ref 0), (1, .int (nI x)), (2, .int (nI g)), (3, .int 64)] [] w (fun r2 w2 => (r2 = some (.int (rat0 ((halfN (okN o m x) (halfN (okN o m x) (halfN (okN o m x) (halfN (okN o m x) (halfN (okN o m x) (halfN (okN o m x) (halfN (okN o m x) g 64) 32) 16) 8) 4) 2) 1))))) ∧ WI w2 ∧ EQ w w2) := by
  have hdd : daysN o m (g + 64) ≤ 999 := daysN_le
  refine sx_RP.step (pc2 := 24) (ls2 := [(0, .ref 0), (1, .int (nI x)), (2, .int (nI g)), (3, .int 64)]) (st2 := [.int 64]) (w3 := w) rfl rfl ?_
  refine sx_RP.step (pc2 := 27) (ls2 := [(0, .ref 0), (1, .int (nI x)), (2, .int (nI g)), (3, .int 64)]) (st2 := []) (w3 := w) rfl rfl ?_
  refine sx_RP.step (pc2 := 28) (ls2 := [(0, .ref 0), (1, .int (nI x)), (2, .int (nI g)), (3, .int 64)]) (st2 := [.int (nI g)]) (w3 := w) rfl rfl ?_
  refine sx_RP.step (pc2 := 29) (ls2 := [(0, .ref 0), (1, .int (nI x)), (2, .int (nI g)), (3, .int 64)]) (st2 := [.int 64, .int (nI g)]) (w3 := w) rfl rfl ?_
  refine sx_RP.step (pc2 := 30) (ls2 := [(0, .ref 0), (1, .int (nI x)), (2, .int (nI g)), (3, .int 64)]) (st2 := [.int ((nI g) + 64)]) (w3 := w) rfl rfl ?_
  rw [show ((nI g) + 64 : Int32) = nI (g + 64) from nI_add g 64]
  refine sx_RP.step (pc2 := 32) (ls2 := [(4, .int (nI (g + 64))), (0, .ref 0), (1, .int (nI x)), (2, .int (nI g)), (3, .int 64)]) (st2 := []) (w3 := w) rfl rfl ?_
  refine sx_RP.step (pc2 := 34) (ls2 := [(4, .int (nI (g + 64))), (0, .ref 0), (1, .int (nI x)), (2, .int (nI g)), (3, .int 64)]) (st2 := [.int (nI (g + 64))]) (w3 := w) rfl rfl ?_
  refine sx_RP.step (pc2 := 36) (ls2 := [(4, .int (nI (g + 64))), (0, .ref 0), (1, .int (nI x)), (2, .int (nI g)), (3, .int 64)]) (st2 := [.int 99, .int (nI (g + 64))]) (w3 := w) rfl rfl ?_
  refine sx_RP.br (p1 := 55) (l1 := [(4, .int (nI (g + 64))), (0, .ref 0), (1, .int (nI x)), (2, .int (nI g)), (3, .int 64)]) (s1 := []) (v1 := w) (p2 := 39) (l2 := [(4, .int (nI (g + 64))), (0, .ref 0), (1, .int (nI x)), (2, .int (nI g)), (3, .int 64)]) (s2 := []) (v2 := w) rfl rfl (fun q1 => ?_) (fun q1 => ?_)
  · replace q1 := of_decide_eq_true q1
    replace q1 := (nI_ltI (a := 99) (b := (g + 64)) (by omega) (by omega)).mp q1
    refine sx_RP.step (pc2 := 56) (ls2 := [(4, .int (nI (g + 64))), (0, .ref 0), (1, .int (nI x)), (2, .int (nI g)), (3, .int 64)]) (st2 := [.int 64]) (w3 := w) rfl rfl ?_
    refine sx_RP.step (pc2 := 57) (ls2 := [(4, .int (nI (g + 64))), (0, .ref 0), (1, .int (nI x)), (2, .int (nI g)), (3, .int 64)]) (st2 := [.int 2, .int 64]) (w3 := w) rfl rfl ?_
    refine sx_RP.step (pc2 := 58) (ls2 := [(4, .int (nI (g + 64))), (0, .ref 0), (1, .int (nI x)), (2, .int (nI g)), (3, .int 64)]) (st2 := [.int 32]) (w3 := w) rfl rfl ?_
    refine sx_RP.step (pc2 := 59) (ls2 := [(3, .int 32), (4, .int (nI (g + 64))), (0, .ref 0), (1, .int (nI x)), (2, .int (nI g))]) (st2 := []) (w3 := w) rfl rfl ?_
    refine sx_RP.step (pc2 := 23) (ls2 := [(3, .int 32), (4, .int (nI (g + 64))), (0, .ref 0), (1, .int (nI x)), (2, .int (nI g))]) (st2 := []) (w3 := w) rfl rfl ?_
    rw [show halfN (okN o m x) g 64 = g from if_neg (fun z => by have z2 := of_decide_eq_true z.2; omega)]
    exact sx_RP.ls (sx_lr.cons rfl (sx_lr.cons rfl (sx_lr.cons rfl (sx_lr.cons rfl sx_lr.nil)))) (x86_32 hI ho ho1 hm hm1 hx (g := g) (by omega))
  · replace q1 := of_decide_eq_false q1
    replace q1 := mt (nI_ltI (a := 99) (b := (g + 64)) (by omega) (by omega)).mpr q1
    refine sx_RP.step (pc2 := 40) (ls2 := [(4, .int (nI (g + 64))), (0, .ref 0), (1, .int (nI x)), (2, .int (nI g)), (3, .int 64)]) (st2 := [.ref 0]) (w3 := w) rfl rfl ?_
    refine sx_RP.gf (v := .ref 1) rfl rfl hI.1.o0 rfl rfl (show _ = 43 from rfl) ?_
    refine sx_RP.step (pc2 := 45) (ls2 := [(4, .int (nI (g + 64))), (0, .ref 0), (1, .int (nI x)), (2, .int (nI g)), (3, .int 64)]) (st2 := [.int (nI (g + 64)), .ref 1]) (w3 := w) rfl rfl ?_
    refine sx_RP.cu (as := [.ref 1, .int (nI (g + 64))]) (rest2 := []) (st3 := [.int (nI (daysN o m (g + 64)))]) rfl rfl (sx_inv_v2 (mi := 86) (k := 276) (st := [.int (nI (g + 64)), .ref 1]) (w := w) rfl rfl (hI.1.oC (Or.inl rfl)) rfl rfl rfl) rfl rfl (x84 hI (Or.inl rfl) ho ho1 hm hm1 (by omega)) rfl ?_
    refine sx_RP.step (pc2 := 49) (ls2 := [(4, .int (nI (g + 64))), (0, .ref 0), (1, .int (nI x)), (2, .int (nI g)), (3, .int 64)]) (st2 := [.int (nI x), .int (nI (daysN o m (g + 64)))]) (w3 := w) rfl rfl ?_
    refine sx_RP.br (p1 := 55) (l1 := [(4, .int (nI (g + 64))), (0, .ref 0), (1, .int (nI x)), (2, .int (nI g)), (3, .int 64)]) (s1 := []) (v1 := w) (p2 := 52) (l2 := [(4, .int (nI (g + 64))), (0, .ref 0), (1, .int (nI x)), (2, .int (nI g)), (3, .int 64)]) (s2 := []) (v2 := w) rfl rfl (fun q2 => ?_) (fun q2 => ?_)
    · replace q2 := of_decide_eq_true q2
      replace q2 := (nI_ltI (a := (daysN o m (g + 64))) (b := x) (by omega) (by omega)).mp q2
      refine sx_RP.step (pc2 := 56) (ls2 := [(4, .int (nI (g + 64))), (0, .ref 0), (1, .int (nI x)), (2, .int (nI g)), (3, .int 64)]) (st2 := [.int 64]) (w3 := w) rfl rfl ?_
      refine sx_RP.step (pc2 := 57) (ls2 := [(4, .int (nI (g + 64))), (0, .ref 0), (1, .int (nI x)), (2, .int (nI g)), (3, .int 64)]) (st2 := [.int 2, .int 64]) (w3 := w) rfl rfl ?_
      refine sx_RP.step (pc2 := 58) (ls2 := [(4, .int (nI (g + 64))), (0, .ref 0), (1, .int (nI x)), (2, .int (nI g)), (3, .int 64)]) (st2 := [.int 32]) (w3 := w) rfl rfl ?_
      refine sx_RP.step (pc2 := 59) (ls2 := [(3, .int 32), (4, .int (nI (g + 64))), (0, .ref 0), (1, .int (nI x)), (2, .int (nI g))]) (st2 := []) (w3 := w) rfl rfl ?_
      refine sx_RP.step (pc2 := 23) (ls2 := [(3, .int 32), (4, .int (nI (g + 64))), (0, .ref 0), (1, .int (nI x)), (2, .int (nI g))]) (st2 := []) (w3 := w) rfl rfl ?_
      rw [show halfN (okN o m x) g 64 = g from if_neg (fun z => by have z2 := of_decide_eq_true z.2; omega)]
      exact sx_RP.ls (sx_lr.cons rfl (sx_lr.cons rfl (sx_lr.cons rfl (sx_lr.cons rfl sx_lr.nil)))) (x86_32 hI ho ho1 hm hm1 hx (g := g) (by omega))
    · replace q2 := of_decide_eq_false q2
      replace q2 := mt (nI_ltI (a := (daysN o m (g + 64))) (b := x) (by omega) (by omega)).mpr q2
      refine sx_RP.step (pc2 := 54) (ls2 := [(4, .int (nI (g + 64))), (0, .ref 0), (1, .int (nI x)), (2, .int (nI g)), (3, .int 64)]) (st2 := [.int (nI (g + 64))]) (w3 := w) rfl rfl ?_
      refine sx_RP.step (pc2 := 55) (ls2 := [(2, .int (nI (g + 64))), (4, .int (nI (g + 64))), (0, .ref 0), (1, .int (nI x)), (3, .int 64)]) (st2 := []) (w3 := w) rfl rfl ?_
      refine sx_RP.step (pc2 := 56) (ls2 := [(2, .int (nI (g + 64))), (4, .int (nI (g + 64))), (0, .ref 0), (1, .int (nI x)), (3, .int 64)]) (st2 := [.int 64]) (w3 := w) rfl rfl ?_
      refine sx_RP.step (pc2 := 57) (ls2 := [(2, .int (nI (g + 64))), (4, .int (nI (g + 64))), (0, .ref 0), (1, .int (nI x)), (3, .int 64)]) (st2 := [.int 2, .int 64]) (w3 := w) rfl rfl ?_
      refine sx_RP.step (pc2 := 58) (ls2 := [(2, .int (nI (g + 64))), (4, .int (nI (g + 64))), (0, .ref 0), (1, .int (nI x)), (3, .int 64)]) (st2 := [.int 32]) (w3 := w) rfl rfl ?_
      refine sx_RP.step (pc2 := 59) (ls2 := [(3, .int 32), (2, .int (nI (g + 64))), (4, .int (nI (g + 64))), (0, .ref 0), (1, .int (nI x))]) (st2 := []) (w3 := w) rfl rfl ?_
      refine sx_RP.step (pc2 := 23) (ls2 := [(3, .int 32), (2, .int (nI (g + 64))), (4, .int (nI (g + 64))), (0, .ref 0), (1, .int (nI x))]) (st2 := []) (w3 := w) rfl rfl ?_
      rw [show halfN (okN o m x) g 64 = g + 64 from if_pos ⟨by omega, decide_eq_true (by omega)⟩]
      exact sx_RP.ls (sx_lr.cons rfl (sx_lr.cons rfl (sx_lr.cons rfl (sx_lr.cons rfl sx_lr.nil)))) (x86_32 hI ho ho1 hm hm1 hx (g := (g + 64)) (by omega))
set_option maxRecDepth 20000 in
set_option maxHeartbeats 4000000 in
theorem C86 {xs : Option (List Int32)} {d : Nat} {w : List sx_C} (hI : WI w) (hb : BR (FCb w).1) (a1 : Int32) : sx_RP xs (d + 7) 86 0 (lv_args 0 [.ref 0, .int a1]) [] w (fun r w2 => (r = some (.int (ratA (FCb w) a1))) ∧ WI w2 ∧ EQ w w2) := by
  obtain ⟨o, m, r9, ho, ho1, hm, hm0, hm1, hr, hr0, hr1⟩ := hb
  replace ho : fi w 1 8 = nI o := ho
  replace hm : fi w 1 9 = nI m := hm
  replace hr : fi w 1 10 = nI r9 := hr
  refine sx_RP.step (pc2 := 1) (ls2 := [(0, .ref 0), (1, .int a1)]) (st2 := [.int a1]) (w3 := w) rfl rfl ?_
  refine sx_RP.step (pc2 := 2) (ls2 := [(0, .ref 0), (1, .int a1)]) (st2 := [.int 1, .int a1]) (w3 := w) rfl rfl ?_
  refine sx_RP.step (pc2 := 5) (ls2 := [(0, .ref 0), (1, .int a1)]) (st2 := [.int 999, .int 1, .int a1]) (w3 := w) rfl rfl ?_
  rcases in_cases a1 1 999 (m := 1) (n := 999) rfl rfl (by decide) (by decide) with q1 | ⟨x2, hx3, hx4, rfl⟩
  · refine sx_RP.cu (as := [.int a1, .int 1, .int 999]) (rest2 := []) (st3 := [.int 0]) rfl rfl rfl rfl rfl (cx_8n q1) rfl ?_
    refine sx_RP.step (pc2 := 11) (ls2 := [(0, .ref 0), (1, .int a1)]) (st2 := []) (w3 := w) rfl rfl ?_
    refine sx_RP.step (pc2 := 12) (ls2 := [(0, .ref 0), (1, .int a1)]) (st2 := [.ref 0]) (w3 := w) rfl rfl ?_
    refine sx_RP.step (pc2 := 14) (ls2 := [(0, .ref 0), (1, .int a1)]) (st2 := [.int (-1000000001), .ref 0]) (w3 := w) rfl rfl ?_
    refine sx_RP.callp (as2 := [.ref 0, .int (-1000000001)]) (rest2 := []) rfl rfl (sx_inv_v2 (mi := 86) (k := 78) (st := [.int (-1000000001), .ref 0]) (w := w) rfl rfl hI.1.o0 rfl rfl rfl) rfl rfl rfl (Q9_0 hI) (show _ = 17 from rfl) ?_
    rintro r4 w7 ⟨rfl, hI8, hE6⟩
    show sx_RP _ _ _ _ _ [.int (-1000000001)] _ _
    refine sx_RP.ret (r := (some (.int (-1000000001)))) rfl rfl ?_
    exact ⟨by rw [ratA_n q1], hI8, hE6⟩
  · refine sx_RP.cu (as := [.int (nI x2), .int 1, .int 999]) (rest2 := []) (st3 := [.int 1]) rfl rfl rfl rfl rfl (cx_8p ⟨nI_le (a := 1) hx3 (by omega), nI_le (b := 999) hx4 (by decide)⟩) rfl ?_
    refine sx_RP.step (pc2 := 18) (ls2 := [(0, .ref 0), (1, .int (nI x2))]) (st2 := []) (w3 := w) rfl rfl ?_
    refine sx_RP.step (pc2 := 19) (ls2 := [(0, .ref 0), (1, .int (nI x2))]) (st2 := [.int 0]) (w3 := w) rfl rfl ?_
    refine sx_RP.step (pc2 := 20) (ls2 := [(2, .int 0), (0, .ref 0), (1, .int (nI x2))]) (st2 := []) (w3 := w) rfl rfl ?_
    refine sx_RP.step (pc2 := 22) (ls2 := [(2, .int 0), (0, .ref 0), (1, .int (nI x2))]) (st2 := [.int 64]) (w3 := w) rfl rfl ?_
    refine sx_RP.step (pc2 := 23) (ls2 := [(3, .int 64), (2, .int 0), (0, .ref 0), (1, .int (nI x2))]) (st2 := []) (w3 := w) rfl rfl ?_
    rw [ratA_c ho ho1 hm hm1 (x := x2) (by omega) (by omega), ← halves_top okN_anti]
    exact sx_RP.ls (sx_lr.cons rfl (sx_lr.cons rfl (sx_lr.cons rfl (sx_lr.cons rfl sx_lr.nil)))) (x86_64 hI ho ho1 hm hm1 (x := x2) (by omega) (g := 0) (by omega))
set_option maxRecDepth 20000 in
set_option maxHeartbeats 4000000 in
theorem x207L {xs : Option (List Int32)} {d o m x : Nat} {w : List sx_C} (hI : WI w) (ho : (ia w 112).getD 4 0 = nI o) (ho1 : o ≤ 999999) (hm : (ia w 112).getD 5 0 = nI m) (hm1 : m ≤ 999) (hx : x ≤ 999) : ∀ v : Nat, v ≤ 99 → sx_RP xs (d + 7) 207 20 [(0, .ref 111), (1, .int (nI x)), (2, .int (nI v))] [] w (fun r2 w2 => (r2 = some (.int (rat0 (topN (okN o m x) v)))) ∧ WI w2 ∧ EL w w2)
  | 0, hv => by
    refine sx_RP.step (pc2 := 21) (ls2 := [(0, .ref 111), (1, .int (nI x)), (2, .int 0)]) (st2 := [.int 0]) (w3 := w) rfl rfl ?_
    refine sx_RP.step (pc2 := 39) (ls2 := [(0, .ref 111), (1, .int (nI x)), (2, .int 0)]) (st2 := []) (w3 := w) rfl rfl ?_
    refine sx_RP.step (pc2 := 40) (ls2 := [(0, .ref 111), (1, .int (nI x)), (2, .int 0)]) (st2 := [.int 0]) (w3 := w) rfl rfl ?_
    refine sx_RP.step (pc2 := 47) (ls2 := [(0, .ref 111), (1, .int (nI x)), (2, .int 0)]) (st2 := []) (w3 := w) rfl rfl ?_
    refine sx_RP.step (pc2 := 48) (ls2 := [(0, .ref 111), (1, .int (nI x)), (2, .int 0)]) (st2 := [.ref 111]) (w3 := w) rfl rfl ?_
    refine sx_RP.step (pc2 := 49) (ls2 := [(0, .ref 111), (1, .int (nI x)), (2, .int 0)]) (st2 := [.int 3, .ref 111]) (w3 := w) rfl rfl ?_
    refine sx_RP.callp (as2 := [.ref 111, .int 3]) (rest2 := []) rfl rfl (sx_inv_v2 (mi := 207) (k := 70) (st := [.int 3, .ref 111]) (w := w) rfl rfl hI.1.o111 rfl rfl rfl) rfl rfl rfl (K133_3 hI) (show _ = 52 from rfl) ?_
    rintro r4 w2 ⟨rfl, hI3, hE1⟩
    show sx_RP _ _ _ _ _ [.int (-1000000004)] _ _
    refine sx_RP.ret (r := (some (.int (-1000000004)))) rfl rfl ?_
    exact ⟨rfl, hI3, hE1.el⟩
  | v + 1, hv => by
    have hdd : daysN o m (v + 1) ≤ 999 := daysN_le
    refine sx_RP.step (pc2 := 21) (ls2 := [(0, .ref 111), (1, .int (nI x)), (2, .int (nI (v + 1)))]) (st2 := [.int (nI (v + 1))]) (w3 := w) rfl rfl ?_
    refine sx_RP.br (p2 := 24) (l2 := [(0, .ref 111), (1, .int (nI x)), (2, .int (nI (v + 1)))]) (s2 := []) (v2 := w) rfl rfl (fun q => absurd (of_decide_eq_true q) (fun z => absurd ((nI_leI (a := v + 1) (b := 0) (by omega) (by omega)).mp z) (by omega))) (fun _ => ?_)
    refine sx_RP.step (pc2 := 25) (ls2 := [(0, .ref 111), (1, .int (nI x)), (2, .int (nI (v + 1)))]) (st2 := [.ref 111]) (w3 := w) rfl rfl ?_
    refine sx_RP.step (pc2 := 26) (ls2 := [(0, .ref 111), (1, .int (nI x)), (2, .int (nI (v + 1)))]) (st2 := [.int (nI (v + 1)), .ref 111]) (w3 := w) rfl rfl ?_
    refine sx_RP.cu (as := [.ref 111, .int (nI (v + 1))]) (rest2 := []) (st3 := [.int (nI (daysN o m (v + 1)))]) rfl rfl (sx_inv_v2 (mi := 207) (k := 205) (st := [.int (nI (v + 1)), .ref 111]) (w := w) rfl rfl hI.1.o111 rfl rfl rfl) rfl rfl (x206 hI ho ho1 hm hm1 (by omega) (by omega)) rfl ?_
    refine sx_RP.step (pc2 := 30) (ls2 := [(0, .ref 111), (1, .int (nI x)), (2, .int (nI (v + 1)))]) (st2 := [.int (nI x), .int (nI (daysN o m (v + 1)))]) (w3 := w) rfl rfl ?_
    refine sx_RP.br (p1 := 39) (l1 := [(0, .ref 111), (1, .int (nI x)), (2, .int (nI (v + 1)))]) (s1 := []) (v1 := w) (p2 := 33) (l2 := [(0, .ref 111), (1, .int (nI x)), (2, .int (nI (v + 1)))]) (s2 := []) (v2 := w) rfl rfl (fun q1 => ?_) (fun q1 => ?_)
    · replace q1 := of_decide_eq_true q1
      replace q1 := (nI_leI (a := x) (b := (daysN o m (v + 1))) (by omega) (by omega)).mp q1
      refine sx_RP.step (pc2 := 40) (ls2 := [(0, .ref 111), (1, .int (nI x)), (2, .int (nI (v + 1)))]) (st2 := [.int (nI (v + 1))]) (w3 := w) rfl rfl ?_
      refine sx_RP.br (p2 := 43) (l2 := [(0, .ref 111), (1, .int (nI x)), (2, .int (nI (v + 1)))]) (s2 := []) (v2 := w) rfl rfl (fun q => absurd (of_decide_eq_true q) (fun z => absurd ((nI_leI (a := v + 1) (b := 0) (by omega) (by omega)).mp z) (by omega))) (fun _ => ?_)
      refine sx_RP.step (pc2 := 44) (ls2 := [(0, .ref 111), (1, .int (nI x)), (2, .int (nI (v + 1)))]) (st2 := [.int (nI (v + 1))]) (w3 := w) rfl rfl ?_
      refine sx_RP.step (pc2 := 52) (ls2 := [(0, .ref 111), (1, .int (nI x)), (2, .int (nI (v + 1)))]) (st2 := [.int (nI (v + 1))]) (w3 := w) rfl rfl ?_
      refine sx_RP.ret (r := (some (.int (nI (v + 1))))) rfl rfl ?_
      exact ⟨by rw [show topN (okN o m x) (v + 1) = v + 1 from if_pos (decide_eq_true (by omega))]; rfl, hI, EL.rf⟩
    · replace q1 := of_decide_eq_false q1
      replace q1 := mt (nI_leI (a := x) (b := (daysN o m (v + 1))) (by omega) (by omega)).mpr q1
      refine sx_RP.step (pc2 := 36) (ls2 := [(2, .int ((nI (v + 1)) + (-1))), (0, .ref 111), (1, .int (nI x))]) (st2 := []) (w3 := w) rfl rfl ?_
      refine sx_RP.step (pc2 := 20) (ls2 := [(2, .int ((nI (v + 1)) + (-1))), (0, .ref 111), (1, .int (nI x))]) (st2 := []) (w3 := w) rfl rfl ?_
      rw [show topN (okN o m x) (v + 1) = topN (okN o m x) v from if_neg (fun z => by have z2 := of_decide_eq_true z; omega)]
      rw [show (nI (v + 1) + (-1) : Int32) = nI v from nI_m1 (v := v + 1) (by omega)]
      exact sx_RP.ls (sx_lr.cons rfl (sx_lr.cons rfl (sx_lr.cons rfl sx_lr.nil))) (x207L hI ho ho1 hm hm1 hx v (by omega))
set_option maxRecDepth 20000 in
set_option maxHeartbeats 4000000 in
theorem C207 {xs : Option (List Int32)} {d : Nat} {w : List sx_C} (hI : WI w) (hb : BR (FMb w).1) (a1 : Int32) : sx_RP xs (d + 7) 207 0 (lv_args 0 [.ref 111, .int a1]) [] w (fun r w2 => (r = some (.int (ratA (FMb w) a1))) ∧ WI w2 ∧ EL w w2) := by
  obtain ⟨o, m, r9, ho, ho1, hm, hm0, hm1, hr, hr0, hr1⟩ := hb
  replace ho : (ia w 112).getD 4 0 = nI o := ho
  replace hm : (ia w 112).getD 5 0 = nI m := hm
  replace hr : (ia w 112).getD 6 0 = nI r9 := hr
  refine sx_RP.step (pc2 := 1) (ls2 := [(0, .ref 111), (1, .int a1)]) (st2 := [.int a1]) (w3 := w) rfl rfl ?_
  refine sx_RP.step (pc2 := 2) (ls2 := [(0, .ref 111), (1, .int a1)]) (st2 := [.int 1, .int a1]) (w3 := w) rfl rfl ?_
  refine sx_RP.step (pc2 := 5) (ls2 := [(0, .ref 111), (1, .int a1)]) (st2 := [.int 999, .int 1, .int a1]) (w3 := w) rfl rfl ?_
  rcases in_cases a1 1 999 (m := 1) (n := 999) rfl rfl (by decide) (by decide) with q1 | ⟨x2, hx3, hx4, rfl⟩
  · refine sx_RP.cu (as := [.int a1, .int 1, .int 999]) (rest2 := []) (st3 := [.int 0]) rfl rfl rfl rfl rfl (cx_132o q1) rfl ?_
    refine sx_RP.step (pc2 := 11) (ls2 := [(0, .ref 111), (1, .int a1)]) (st2 := []) (w3 := w) rfl rfl ?_
    refine sx_RP.step (pc2 := 12) (ls2 := [(0, .ref 111), (1, .int a1)]) (st2 := [.ref 111]) (w3 := w) rfl rfl ?_
    refine sx_RP.step (pc2 := 13) (ls2 := [(0, .ref 111), (1, .int a1)]) (st2 := [.int 0, .ref 111]) (w3 := w) rfl rfl ?_
    refine sx_RP.callp (as2 := [.ref 111, .int 0]) (rest2 := []) rfl rfl (sx_inv_v2 (mi := 207) (k := 70) (st := [.int 0, .ref 111]) (w := w) rfl rfl hI.1.o111 rfl rfl rfl) rfl rfl rfl (K133_0 hI) (show _ = 16 from rfl) ?_
    rintro r4 w7 ⟨rfl, hI8, hE6⟩
    show sx_RP _ _ _ _ _ [.int (-1000000001)] _ _
    refine sx_RP.ret (r := (some (.int (-1000000001)))) rfl rfl ?_
    exact ⟨by rw [ratA_n q1], hI8, hE6.el⟩
  · refine sx_RP.cu (as := [.int (nI x2), .int 1, .int 999]) (rest2 := []) (st3 := [.int 1]) rfl rfl rfl rfl rfl (cx_132p ⟨nI_le (a := 1) hx3 (by omega), nI_le (b := 999) hx4 (by decide)⟩) rfl ?_
    refine sx_RP.step (pc2 := 17) (ls2 := [(0, .ref 111), (1, .int (nI x2))]) (st2 := []) (w3 := w) rfl rfl ?_
    refine sx_RP.step (pc2 := 19) (ls2 := [(0, .ref 111), (1, .int (nI x2))]) (st2 := [.int 99]) (w3 := w) rfl rfl ?_
    refine sx_RP.step (pc2 := 20) (ls2 := [(2, .int 99), (0, .ref 111), (1, .int (nI x2))]) (st2 := []) (w3 := w) rfl rfl ?_
    rw [ratA_m ho ho1 hm hm1 (x := x2) (by omega) (by omega)]
    exact sx_RP.ls (sx_lr.cons rfl (sx_lr.cons rfl (sx_lr.cons rfl sx_lr.nil))) (x207L hI ho ho1 hm hm1 (x := x2) (by omega) 99 (by omega))
