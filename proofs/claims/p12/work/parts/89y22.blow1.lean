-- blow
set_option maxRecDepth 20000 in
set_option maxHeartbeats 4000000 in
theorem X77L {xs : Option (List Int32)} {d : Nat} {w : List sx_C} {l : List Int32} (hI : WI w) (hR : rel w 1 l) {c p : Nat} (hc : c < 48) (hp : p ≤ 30) : ∀ (q j : Nat) (u : Int64), j + q = 48 → (∀ i, i < 64 → bitL u i = (ltB j i && rcB l c p i)) → sx_RP xs (d + 2) 77 5 [(0, .ref 1), (1, .int (nI c)), (2, .int (nI p)), (3, .long u), (5, .int (nI j))] [] w (fun r w2 => (∃ v : Int64, r = some (.long v) ∧ ∀ i, i < 64 → bitL v i = (ltB 48 i && rcB l c p i)) ∧ w2 = w)
  | 0, j, u, hj, hu => by
    obtain rfl : j = 48 := by omega
    refine sx_RP.step (pc2 := 7) (ls2 := [(0, .ref 1), (1, .int (nI c)), (2, .int (nI p)), (3, .long u), (5, .int 48)]) (st2 := [.int 48]) (w3 := w) rfl rfl ?_
    refine sx_RP.step (pc2 := 9) (ls2 := [(0, .ref 1), (1, .int (nI c)), (2, .int (nI p)), (3, .long u), (5, .int 48)]) (st2 := [.int 48, .int 48]) (w3 := w) rfl rfl ?_
    refine sx_RP.step (pc2 := 58) (ls2 := [(0, .ref 1), (1, .int (nI c)), (2, .int (nI p)), (3, .long u), (5, .int 48)]) (st2 := []) (w3 := w) rfl rfl ?_
    refine sx_RP.step (pc2 := 59) (ls2 := [(0, .ref 1), (1, .int (nI c)), (2, .int (nI p)), (3, .long u), (5, .int 48)]) (st2 := [.long u]) (w3 := w) rfl rfl ?_
    refine sx_RP.ret (r := (some (.long u))) rfl rfl ?_
    exact ⟨⟨u, rfl, hu⟩, rfl⟩
  | q + 1, j, u, hj, hu => by
    refine sx_RP.step (pc2 := 7) (ls2 := [(0, .ref 1), (1, .int (nI c)), (2, .int (nI p)), (3, .long u), (5, .int (nI j))]) (st2 := [.int (nI j)]) (w3 := w) rfl rfl ?_
    refine sx_RP.step (pc2 := 9) (ls2 := [(0, .ref 1), (1, .int (nI c)), (2, .int (nI p)), (3, .long u), (5, .int (nI j))]) (st2 := [.int 48, .int (nI j)]) (w3 := w) rfl rfl ?_
    refine sx_RP.br (p2 := 12) (l2 := [(0, .ref 1), (1, .int (nI c)), (2, .int (nI p)), (3, .long u), (5, .int (nI j))]) (s2 := []) (v2 := w) rfl rfl (fun q => absurd (of_decide_eq_true q) (fun z => absurd ((nI_leI (a := 48) (b := j) (by omega) (by omega)).mp z) (by omega))) (fun _ => ?_)
    refine sx_RP.step (pc2 := 13) (ls2 := [(0, .ref 1), (1, .int (nI c)), (2, .int (nI p)), (3, .long u), (5, .int (nI j))]) (st2 := [.int (nI p)]) (w3 := w) rfl rfl ?_
    refine sx_RP.step (pc2 := 14) (ls2 := [(0, .ref 1), (1, .int (nI c)), (2, .int (nI p)), (3, .long u), (5, .int (nI j))]) (st2 := [.int 3, .int (nI p)]) (w3 := w) rfl rfl ?_
    refine sx_RP.step (pc2 := 15) (ls2 := [(0, .ref 1), (1, .int (nI c)), (2, .int (nI p)), (3, .long u), (5, .int (nI j))]) (st2 := [.int (nI c), .int 3, .int (nI p)]) (w3 := w) rfl rfl ?_
    refine sx_RP.step (pc2 := 17) (ls2 := [(0, .ref 1), (1, .int (nI c)), (2, .int (nI p)), (3, .long u), (5, .int (nI j))]) (st2 := [.int (nI j), .int (nI c), .int 3, .int (nI p)]) (w3 := w) rfl rfl ?_
    refine sx_RP.cu (as := [.int (nI c), .int (nI j)]) (rest2 := [.int 3, .int (nI p)]) (st3 := [.int (apF c j), .int 3, .int (nI p)]) rfl rfl rfl rfl rfl (x46 hI c j) rfl ?_
    refine sx_RP.step (pc2 := 21) (ls2 := [(0, .ref 1), (1, .int (nI c)), (2, .int (nI p)), (3, .long u), (5, .int (nI j))]) (st2 := [.int (3 * (apF c j)), .int (nI p)]) (w3 := w) rfl rfl ?_
    refine sx_RP.step (pc2 := 22) (ls2 := [(0, .ref 1), (1, .int (nI c)), (2, .int (nI p)), (3, .long u), (5, .int (nI j))]) (st2 := [.int ((nI p) - (3 * (apF c j)))]) (w3 := w) rfl rfl ?_
    refine sx_RP.step (pc2 := 24) (ls2 := [(6, .int ((nI p) - (3 * (apF c j)))), (0, .ref 1), (1, .int (nI c)), (2, .int (nI p)), (3, .long u), (5, .int (nI j))]) (st2 := []) (w3 := w) rfl rfl ?_
    refine sx_RP.step (pc2 := 26) (ls2 := [(6, .int ((nI p) - (3 * (apF c j)))), (0, .ref 1), (1, .int (nI c)), (2, .int (nI p)), (3, .long u), (5, .int (nI j))]) (st2 := [.int ((nI p) - (3 * (apF c j)))]) (w3 := w) rfl rfl ?_
    refine sx_RP.step (pc2 := 27) (ls2 := [(6, .int ((nI p) - (3 * (apF c j)))), (0, .ref 1), (1, .int (nI c)), (2, .int (nI p)), (3, .long u), (5, .int (nI j))]) (st2 := [.ref 1, .int ((nI p) - (3 * (apF c j)))]) (w3 := w) rfl rfl ?_
    refine sx_RP.gref (k := 0) (b := 2) hI (Or.inl rfl) rfl rfl (by omega) (show _ = 30 from rfl) ?_
    refine sx_RP.step (pc2 := 32) (ls2 := [(6, .int ((nI p) - (3 * (apF c j)))), (0, .ref 1), (1, .int (nI c)), (2, .int (nI p)), (3, .long u), (5, .int (nI j))]) (st2 := [.int (nI j), .ref 2, .int ((nI p) - (3 * (apF c j)))]) (w3 := w) rfl rfl ?_
    refine sx_RP.ild (c := j) rfl (hI.1.aS (Or.inl rfl)).1 (hI.1.aS (Or.inl rfl)).2 (sx_in_nI (show j < 48 by omega) (by decide)) (show (nI j).toNatClampNeg = j from nI_clamp (by omega)) (show _ = 33 from rfl) ?_
    obtain ⟨x1, hx2, ex3⟩ : inR ((ia w 2).getD j 0) 3 := hI.st (Or.inl rfl) (show j < 48 by omega)
    rw [ex3]
    refine sx_RP.step (pc2 := 34) (ls2 := [(6, .int ((nI p) - (3 * (apF c j)))), (0, .ref 1), (1, .int (nI c)), (2, .int (nI p)), (3, .long u), (5, .int (nI j))]) (st2 := [.int 2, .int (nI x1), .int ((nI p) - (3 * (apF c j)))]) (w3 := w) rfl rfl ?_
    refine sx_RP.br (p1 := 41) (l1 := [(6, .int ((nI p) - (3 * (apF c j)))), (0, .ref 1), (1, .int (nI c)), (2, .int (nI p)), (3, .long u), (5, .int (nI j))]) (s1 := [.int ((nI p) - (3 * (apF c j)))]) (v1 := w) (p2 := 37) (l2 := [(6, .int ((nI p) - (3 * (apF c j)))), (0, .ref 1), (1, .int (nI c)), (2, .int (nI p)), (3, .long u), (5, .int (nI j))]) (s2 := [.int ((nI p) - (3 * (apF c j)))]) (v2 := w) rfl rfl (fun q4 => ?_) (fun q4 => ?_)
    · replace q4 := of_decide_eq_true q4
      replace q4 := mt (nI_eq (a := x1) (b := 2) (by omega) (by omega)).mpr q4
      refine sx_RP.step (pc2 := 42) (ls2 := [(6, .int ((nI p) - (3 * (apF c j)))), (0, .ref 1), (1, .int (nI c)), (2, .int (nI p)), (3, .long u), (5, .int (nI j))]) (st2 := [.int 0, .int ((nI p) - (3 * (apF c j)))]) (w3 := w) rfl rfl ?_
      refine sx_RP.br (p1 := 52) (l1 := [(6, .int ((nI p) - (3 * (apF c j)))), (0, .ref 1), (1, .int (nI c)), (2, .int (nI p)), (3, .long u), (5, .int (nI j))]) (s1 := []) (v1 := w) (p2 := 45) (l2 := [(6, .int ((nI p) - (3 * (apF c j)))), (0, .ref 1), (1, .int (nI c)), (2, .int (nI p)), (3, .long u), (5, .int (nI j))]) (s2 := []) (v2 := w) rfl rfl (fun q5 => ?_) (fun q5 => ?_)
      · replace q5 := of_decide_eq_true q5
        refine sx_RP.step (pc2 := 55) (ls2 := [(5, .int ((nI j) + 1)), (6, .int ((nI p) - (3 * (apF c j)))), (0, .ref 1), (1, .int (nI c)), (2, .int (nI p)), (3, .long u)]) (st2 := []) (w3 := w) rfl rfl ?_
        rw [nI_1 j]
        refine sx_RP.step (pc2 := 5) (ls2 := [(5, .int (nI (j + 1))), (6, .int ((nI p) - (3 * (apF c j)))), (0, .ref 1), (1, .int (nI c)), (2, .int (nI p)), (3, .long u)]) (st2 := []) (w3 := w) rfl rfl ?_
        -- [('¬ (nI x1) = 2', True, 'q4'), ('((nI p) - (3 * (apF c j))) ≤ 0', True, 'q5')]
        have er : rcB l c p j = false := by
          unfold rcB
          rw [show l.getD (7 + j) 0 = nI x1 from (hR.gr (by omega)).symm.trans ex3, if_neg (show ¬ nI x1 = 2 from fun z => q4 ((nI_eq (a := x1) (b := 2) (by omega) (by decide)).mp z))]
          exact decide_eq_false (by first | exact q5 | exact Int32.not_lt.mpr q5)
        refine sx_RP.ls (sx_lr.cons rfl (sx_lr.cons rfl (sx_lr.cons rfl (sx_lr.cons rfl (sx_lr.cons rfl sx_lr.nil))))) (X77L hI hR hc hp q (j + 1) _ (by omega) (fun i hi => ?_))
        rw [hu i hi]
        exact (ltB_B er).symm
      · replace q5 := of_decide_eq_false q5
        refine sx_RP.step (pc2 := 46) (ls2 := [(6, .int ((nI p) - (3 * (apF c j)))), (0, .ref 1), (1, .int (nI c)), (2, .int (nI p)), (3, .long u), (5, .int (nI j))]) (st2 := [.long u]) (w3 := w) rfl rfl ?_
        refine sx_RP.step (pc2 := 47) (ls2 := [(6, .int ((nI p) - (3 * (apF c j)))), (0, .ref 1), (1, .int (nI c)), (2, .int (nI p)), (3, .long u), (5, .int (nI j))]) (st2 := [.long 1, .long u]) (w3 := w) rfl rfl ?_
        refine sx_RP.step (pc2 := 49) (ls2 := [(6, .int ((nI p) - (3 * (apF c j)))), (0, .ref 1), (1, .int (nI c)), (2, .int (nI p)), (3, .long u), (5, .int (nI j))]) (st2 := [.int (nI j), .long 1, .long u]) (w3 := w) rfl rfl ?_
        refine sx_RP.step (pc2 := 50) (ls2 := [(6, .int ((nI p) - (3 * (apF c j)))), (0, .ref 1), (1, .int (nI c)), (2, .int (nI p)), (3, .long u), (5, .int (nI j))]) (st2 := [.long ((1 : Int64) <<< ((nI j).toInt64 &&& 63)), .long u]) (w3 := w) rfl rfl ?_
        refine sx_RP.step (pc2 := 51) (ls2 := [(6, .int ((nI p) - (3 * (apF c j)))), (0, .ref 1), (1, .int (nI c)), (2, .int (nI p)), (3, .long u), (5, .int (nI j))]) (st2 := [.long (u ||| ((1 : Int64) <<< ((nI j).toInt64 &&& 63)))]) (w3 := w) rfl rfl ?_
        refine sx_RP.step (pc2 := 52) (ls2 := [(3, .long (u ||| ((1 : Int64) <<< ((nI j).toInt64 &&& 63)))), (6, .int ((nI p) - (3 * (apF c j)))), (0, .ref 1), (1, .int (nI c)), (2, .int (nI p)), (5, .int (nI j))]) (st2 := []) (w3 := w) rfl rfl ?_
        refine sx_RP.step (pc2 := 55) (ls2 := [(5, .int ((nI j) + 1)), (3, .long (u ||| ((1 : Int64) <<< ((nI j).toInt64 &&& 63)))), (6, .int ((nI p) - (3 * (apF c j)))), (0, .ref 1), (1, .int (nI c)), (2, .int (nI p))]) (st2 := []) (w3 := w) rfl rfl ?_
        rw [nI_1 j]
        refine sx_RP.step (pc2 := 5) (ls2 := [(5, .int (nI (j + 1))), (3, .long (u ||| ((1 : Int64) <<< ((nI j).toInt64 &&& 63)))), (6, .int ((nI p) - (3 * (apF c j)))), (0, .ref 1), (1, .int (nI c)), (2, .int (nI p))]) (st2 := []) (w3 := w) rfl rfl ?_
        -- [('¬ (nI x1) = 2', True, 'q4'), ('((nI p) - (3 * (apF c j))) ≤ 0', False, 'q5')]
        have er : rcB l c p j = true := by
          unfold rcB
          rw [show l.getD (7 + j) 0 = nI x1 from (hR.gr (by omega)).symm.trans ex3, if_neg (show ¬ nI x1 = 2 from fun z => q4 ((nI_eq (a := x1) (b := 2) (by omega) (by decide)).mp z))]
          exact decide_eq_true (by first | exact q5 | exact Int32.not_le.mp q5)
        refine sx_RP.ls (sx_lr.cons rfl (sx_lr.cons rfl (sx_lr.cons rfl (sx_lr.cons rfl (sx_lr.cons rfl sx_lr.nil))))) (X77L hI hR hc hp q (j + 1) _ (by omega) (fun i hi => ?_))
        rw [bit_or (by omega), hu i hi]
        by_cases e : j = i
        · rw [decide_eq_true e, Bool.or_true, ← e, er, ltB_y (by omega)]; rfl
        · rw [decide_eq_false e, Bool.or_false, ltB_ne (Ne.symm e)]
    · replace q4 := Decidable.not_not.mp (of_decide_eq_false q4)
      replace q4 := (nI_eq (a := x1) (b := 2) (by omega) (by omega)).mp q4
      refine sx_RP.step (pc2 := 38) (ls2 := [(6, .int ((nI p) - (3 * (apF c j)))), (0, .ref 1), (1, .int (nI c)), (2, .int (nI p)), (3, .long u), (5, .int (nI j))]) (st2 := [.int 4, .int ((nI p) - (3 * (apF c j)))]) (w3 := w) rfl rfl ?_
      refine sx_RP.step (pc2 := 42) (ls2 := [(6, .int ((nI p) - (3 * (apF c j)))), (0, .ref 1), (1, .int (nI c)), (2, .int (nI p)), (3, .long u), (5, .int (nI j))]) (st2 := [.int 4, .int ((nI p) - (3 * (apF c j)))]) (w3 := w) rfl rfl ?_
      refine sx_RP.br (p1 := 52) (l1 := [(6, .int ((nI p) - (3 * (apF c j)))), (0, .ref 1), (1, .int (nI c)), (2, .int (nI p)), (3, .long u), (5, .int (nI j))]) (s1 := []) (v1 := w) (p2 := 45) (l2 := [(6, .int ((nI p) - (3 * (apF c j)))), (0, .ref 1), (1, .int (nI c)), (2, .int (nI p)), (3, .long u), (5, .int (nI j))]) (s2 := []) (v2 := w) rfl rfl (fun q6 => ?_) (fun q6 => ?_)
      · replace q6 := of_decide_eq_true q6
        refine sx_RP.step (pc2 := 55) (ls2 := [(5, .int ((nI j) + 1)), (6, .int ((nI p) - (3 * (apF c j)))), (0, .ref 1), (1, .int (nI c)), (2, .int (nI p)), (3, .long u)]) (st2 := []) (w3 := w) rfl rfl ?_
        rw [nI_1 j]
        refine sx_RP.step (pc2 := 5) (ls2 := [(5, .int (nI (j + 1))), (6, .int ((nI p) - (3 * (apF c j)))), (0, .ref 1), (1, .int (nI c)), (2, .int (nI p)), (3, .long u)]) (st2 := []) (w3 := w) rfl rfl ?_
        -- [('¬ (nI x1) = 2', False, 'q4'), ('((nI p) - (3 * (apF c j))) ≤ 4', True, 'q6')]
        have er : rcB l c p j = false := by
          unfold rcB
          rw [show l.getD (7 + j) 0 = nI x1 from (hR.gr (by omega)).symm.trans ex3, if_pos (by rw [q4]; rfl)]
          exact decide_eq_false (by first | exact q6 | exact Int32.not_lt.mpr q6)
        refine sx_RP.ls (sx_lr.cons rfl (sx_lr.cons rfl (sx_lr.cons rfl (sx_lr.cons rfl (sx_lr.cons rfl sx_lr.nil))))) (X77L hI hR hc hp q (j + 1) _ (by omega) (fun i hi => ?_))
        rw [hu i hi]
        exact (ltB_B er).symm
      · replace q6 := of_decide_eq_false q6
        refine sx_RP.step (pc2 := 46) (ls2 := [(6, .int ((nI p) - (3 * (apF c j)))), (0, .ref 1), (1, .int (nI c)), (2, .int (nI p)), (3, .long u), (5, .int (nI j))]) (st2 := [.long u]) (w3 := w) rfl rfl ?_
        refine sx_RP.step (pc2 := 47) (ls2 := [(6, .int ((nI p) - (3 * (apF c j)))), (0, .ref 1), (1, .int (nI c)), (2, .int (nI p)), (3, .long u), (5, .int (nI j))]) (st2 := [.long 1, .long u]) (w3 := w) rfl rfl ?_
        refine sx_RP.step (pc2 := 49) (ls2 := [(6, .int ((nI p) - (3 * (apF c j)))), (0, .ref 1), (1, .int (nI c)), (2, .int (nI p)), (3, .long u), (5, .int (nI j))]) (st2 := [.int (nI j), .long 1, .long u]) (w3 := w) rfl rfl ?_
        refine sx_RP.step (pc2 := 50) (ls2 := [(6, .int ((nI p) - (3 * (apF c j)))), (0, .ref 1), (1, .int (nI c)), (2, .int (nI p)), (3, .long u), (5, .int (nI j))]) (st2 := [.long ((1 : Int64) <<< ((nI j).toInt64 &&& 63)), .long u]) (w3 := w) rfl rfl ?_
        refine sx_RP.step (pc2 := 51) (ls2 := [(6, .int ((nI p) - (3 * (apF c j)))), (0, .ref 1), (1, .int (nI c)), (2, .int (nI p)), (3, .long u), (5, .int (nI j))]) (st2 := [.long (u ||| ((1 : Int64) <<< ((nI j).toInt64 &&& 63)))]) (w3 := w) rfl rfl ?_
        refine sx_RP.step (pc2 := 52) (ls2 := [(3, .long (u ||| ((1 : Int64) <<< ((nI j).toInt64 &&& 63)))), (6, .int ((nI p) - (3 * (apF c j)))), (0, .ref 1), (1, .int (nI c)), (2, .int (nI p)), (5, .int (nI j))]) (st2 := []) (w3 := w) rfl rfl ?_
        refine sx_RP.step (pc2 := 55) (ls2 := [(5, .int ((nI j) + 1)), (3, .long (u ||| ((1 : Int64) <<< ((nI j).toInt64 &&& 63)))), (6, .int ((nI p) - (3 * (apF c j)))), (0, .ref 1), (1, .int (nI c)), (2, .int (nI p))]) (st2 := []) (w3 := w) rfl rfl ?_
        rw [nI_1 j]
        refine sx_RP.step (pc2 := 5) (ls2 := [(5, .int (nI (j + 1))), (3, .long (u ||| ((1 : Int64) <<< ((nI j).toInt64 &&& 63)))), (6, .int ((nI p) - (3 * (apF c j)))), (0, .ref 1), (1, .int (nI c)), (2, .int (nI p))]) (st2 := []) (w3 := w) rfl rfl ?_
        -- [('¬ (nI x1) = 2', False, 'q4'), ('((nI p) - (3 * (apF c j))) ≤ 4', False, 'q6')]
        have er : rcB l c p j = true := by
          unfold rcB
          rw [show l.getD (7 + j) 0 = nI x1 from (hR.gr (by omega)).symm.trans ex3, if_pos (by rw [q4]; rfl)]
          exact decide_eq_true (by first | exact q6 | exact Int32.not_le.mp q6)
        refine sx_RP.ls (sx_lr.cons rfl (sx_lr.cons rfl (sx_lr.cons rfl (sx_lr.cons rfl (sx_lr.cons rfl sx_lr.nil))))) (X77L hI hR hc hp q (j + 1) _ (by omega) (fun i hi => ?_))
        rw [bit_or (by omega), hu i hi]
        by_cases e : j = i
        · rw [decide_eq_true e, Bool.or_true, ← e, er, ltB_y (by omega)]; rfl
        · rw [decide_eq_false e, Bool.or_false, ltB_ne (Ne.symm e)]
set_option maxRecDepth 20000 in
set_option maxHeartbeats 4000000 in
theorem X77 {xs : Option (List Int32)} {d : Nat} {w : List sx_C} (hI : WI w) (l : List Int32) (hR : rel w 1 l) {c p : Nat} (hc : c < 48) (hp : p ≤ 30) : sx_RP xs (d + 2) 77 0 (lv_args 0 [.ref 1, .int (nI c), .int (nI p)]) [] w (fun r w2 => (∃ v : Int64, r = some (.long v) ∧ ∀ i, i < 64 → bitL v i = (ltB 48 i && rcB l c p i)) ∧ w2 = w) := by
  refine sx_RP.step (pc2 := 1) (ls2 := [(0, .ref 1), (1, .int (nI c)), (2, .int (nI p))]) (st2 := [.long 0]) (w3 := w) rfl rfl ?_
  refine sx_RP.step (pc2 := 2) (ls2 := [(3, .long 0), (0, .ref 1), (1, .int (nI c)), (2, .int (nI p))]) (st2 := []) (w3 := w) rfl rfl ?_
  refine sx_RP.step (pc2 := 3) (ls2 := [(3, .long 0), (0, .ref 1), (1, .int (nI c)), (2, .int (nI p))]) (st2 := [.int 0]) (w3 := w) rfl rfl ?_
  refine sx_RP.step (pc2 := 5) (ls2 := [(5, .int 0), (3, .long 0), (0, .ref 1), (1, .int (nI c)), (2, .int (nI p))]) (st2 := []) (w3 := w) rfl rfl ?_
  exact sx_RP.ls (sx_lr.cons rfl (sx_lr.cons rfl (sx_lr.cons rfl (sx_lr.cons rfl (sx_lr.cons rfl sx_lr.nil))))) (X77L hI hR hc hp 48 0 0 (by omega) (fun i hi => by rw [bit_0, ltB_n (by omega)]; rfl))
set_option maxRecDepth 20000 in
set_option maxHeartbeats 4000000 in
theorem X80c {xs : Option (List Int32)} {d : Nat} {l : List Int32} {Z : Nat → Bool} {w0 : List sx_C} {n : Int32} {B : Nat → Bool} {u : Int64} (hu : ∀ i, i < 64 → bitL u i = (ltB 48 i && B i)) : ∀ (q j : Nat) (w : List sx_C) (m : List Int32), j + q = 48 → WI w → rel w 1 m → BG l B (ltB j) allT Z m → Out 1 w0 w → sx_RP xs (d + 1) 80 77 [(0, .ref 1), (1, .long u), (3, .int n), (4, .int (nI j))] [] w (fun r w2 => (r = some (.int n) ∧ ∃ m2, rel w2 1 m2 ∧ BG l B (ltB 48) allT Z m2) ∧ WI w2 ∧ Out 1 w0 w2)
  | 0, j, w, m, hj, hI, hR, hm, hO => by
    obtain rfl : j = 48 := by omega
    refine sx_RP.step (pc2 := 79) (ls2 := [(0, .ref 1), (1, .long u), (3, .int n), (4, .int 48)]) (st2 := [.int 48]) (w3 := w) rfl rfl ?_
    refine sx_RP.step (pc2 := 81) (ls2 := [(0, .ref 1), (1, .long u), (3, .int n), (4, .int 48)]) (st2 := [.int 48, .int 48]) (w3 := w) rfl rfl ?_
    refine sx_RP.step (pc2 := 120) (ls2 := [(0, .ref 1), (1, .long u), (3, .int n), (4, .int 48)]) (st2 := []) (w3 := w) rfl rfl ?_
    refine sx_RP.step (pc2 := 121) (ls2 := [(0, .ref 1), (1, .long u), (3, .int n), (4, .int 48)]) (st2 := [.int n]) (w3 := w) rfl rfl ?_
    refine sx_RP.ret (r := (some (.int n))) rfl rfl ?_
    exact ⟨⟨rfl, m, hR, hm⟩, hI, hO⟩
  | q + 1, j, w, m, hj, hI, hR, hm, hO => by
    refine sx_RP.step (pc2 := 79) (ls2 := [(0, .ref 1), (1, .long u), (3, .int n), (4, .int (nI j))]) (st2 := [.int (nI j)]) (w3 := w) rfl rfl ?_
    refine sx_RP.step (pc2 := 81) (ls2 := [(0, .ref 1), (1, .long u), (3, .int n), (4, .int (nI j))]) (st2 := [.int 48, .int (nI j)]) (w3 := w) rfl rfl ?_
    refine sx_RP.br (p2 := 84) (l2 := [(0, .ref 1), (1, .long u), (3, .int n), (4, .int (nI j))]) (s2 := []) (v2 := w) rfl rfl (fun q => absurd (of_decide_eq_true q) (fun z => absurd ((nI_leI (a := 48) (b := j) (by omega) (by omega)).mp z) (by omega))) (fun _ => ?_)
    refine sx_RP.step (pc2 := 85) (ls2 := [(0, .ref 1), (1, .long u), (3, .int n), (4, .int (nI j))]) (st2 := [.ref 1]) (w3 := w) rfl rfl ?_
    refine sx_RP.gref (k := 0) (b := 2) hI (Or.inl rfl) rfl rfl (by omega) (show _ = 88 from rfl) ?_
    refine sx_RP.step (pc2 := 90) (ls2 := [(0, .ref 1), (1, .long u), (3, .int n), (4, .int (nI j))]) (st2 := [.int (nI j), .ref 2]) (w3 := w) rfl rfl ?_
    refine sx_RP.ild (c := j) rfl (hI.1.aS (Or.inl rfl)).1 (hI.1.aS (Or.inl rfl)).2 (sx_in_nI (show j < 48 by omega) (by decide)) (show (nI j).toNatClampNeg = j from nI_clamp (by omega)) (show _ = 91 from rfl) ?_
    obtain ⟨x1, hx2, ex3⟩ : inR ((ia w 2).getD j 0) 3 := hI.st (Or.inl rfl) (show j < 48 by omega)
    rw [ex3]
    refine sx_RP.step (pc2 := 92) (ls2 := [(0, .ref 1), (1, .long u), (3, .int n), (4, .int (nI j))]) (st2 := [.int 2, .int (nI x1)]) (w3 := w) rfl rfl ?_
    refine sx_RP.br (p1 := 114) (l1 := [(0, .ref 1), (1, .long u), (3, .int n), (4, .int (nI j))]) (s1 := []) (v1 := w) (p2 := 95) (l2 := [(0, .ref 1), (1, .long u), (3, .int n), (4, .int (nI j))]) (s2 := []) (v2 := w) rfl rfl (fun q4 => ?_) (fun q4 => ?_)
    · replace q4 := of_decide_eq_true q4
      replace q4 := mt (nI_eq (a := x1) (b := 2) (by omega) (by omega)).mpr q4
      refine sx_RP.step (pc2 := 117) (ls2 := [(4, .int ((nI j) + 1)), (0, .ref 1), (1, .long u), (3, .int n)]) (st2 := []) (w3 := w) rfl rfl ?_
      rw [nI_1 j]
      refine sx_RP.step (pc2 := 77) (ls2 := [(4, .int (nI (j + 1))), (0, .ref 1), (1, .long u), (3, .int n)]) (st2 := []) (w3 := w) rfl rfl ?_
      -- [('¬ (nI x1) = 2', True, 'q4')] []
      have ej : m.getD (7 + j) 0 = l.getD (7 + j) 0 := by rw [hm.2 _ (by omega), blG_st (by omega), ltB_n (by omega), Bool.false_and, if_neg (fun z => absurd z.1 (by decide))]
      have e7 : l.getD (7 + j) 0 = nI x1 := ej.symm.trans ((hR.gr (by omega)).symm.trans ex3)
      refine sx_RP.ls (sx_lr.cons rfl (sx_lr.cons rfl (sx_lr.cons rfl (sx_lr.cons rfl sx_lr.nil)))) (X80c hu q (j + 1) w m (by omega) hI hR ?_ hO)
      refine ⟨hm.1, fun k hk => ?_⟩
      rw [hm.2 k hk]
      by_cases e : k = 7 + j
      · rw [e, blG_st (by omega), blG_st (by omega), if_neg (fun z => q4 ((nI_eq (a := x1) (b := 2) (by omega) (by decide)).mp (e7.symm.trans z.2))), if_neg (fun z => q4 ((nI_eq (a := x1) (b := 2) (by omega) (by decide)).mp (e7.symm.trans z.2)))]
      · exact blG_ext (fun i hi h => by rw [ltB_ne (by omega)]) (fun i hi h => rfl) (fun i hi h => rfl) e
    · replace q4 := Decidable.not_not.mp (of_decide_eq_false q4)
      replace q4 := (nI_eq (a := x1) (b := 2) (by omega) (by omega)).mp q4
      refine sx_RP.step (pc2 := 96) (ls2 := [(0, .ref 1), (1, .long u), (3, .int n), (4, .int (nI j))]) (st2 := [.long u]) (w3 := w) rfl rfl ?_
      refine sx_RP.step (pc2 := 98) (ls2 := [(0, .ref 1), (1, .long u), (3, .int n), (4, .int (nI j))]) (st2 := [.int (nI j), .long u]) (w3 := w) rfl rfl ?_
      refine sx_RP.step (pc2 := 99) (ls2 := [(0, .ref 1), (1, .long u), (3, .int n), (4, .int (nI j))]) (st2 := [.long ((u.toUInt64 >>> ((nI j).toInt64.toUInt64 &&& Int64.toUInt64 63)).toInt64)]) (w3 := w) rfl rfl ?_
      refine sx_RP.step (pc2 := 100) (ls2 := [(0, .ref 1), (1, .long u), (3, .int n), (4, .int (nI j))]) (st2 := [.long 1, .long ((u.toUInt64 >>> ((nI j).toInt64.toUInt64 &&& Int64.toUInt64 63)).toInt64)]) (w3 := w) rfl rfl ?_
      refine sx_RP.step (pc2 := 101) (ls2 := [(0, .ref 1), (1, .long u), (3, .int n), (4, .int (nI j))]) (st2 := [.long (((u.toUInt64 >>> ((nI j).toInt64.toUInt64 &&& Int64.toUInt64 63)).toInt64) &&& 1)]) (w3 := w) rfl rfl ?_
      refine sx_RP.step (pc2 := 102) (ls2 := [(0, .ref 1), (1, .long u), (3, .int n), (4, .int (nI j))]) (st2 := [.long 1, .long (((u.toUInt64 >>> ((nI j).toInt64.toUInt64 &&& Int64.toUInt64 63)).toInt64) &&& 1)]) (w3 := w) rfl rfl ?_
      refine sx_RP.step (pc2 := 103) (ls2 := [(0, .ref 1), (1, .long u), (3, .int n), (4, .int (nI j))]) (st2 := [.int (lg_cmp (((u.toUInt64 >>> ((nI j).toInt64.toUInt64 &&& Int64.toUInt64 63)).toInt64) &&& 1) 1)]) (w3 := w) rfl rfl ?_
      refine sx_RP.br (p1 := 114) (l1 := [(0, .ref 1), (1, .long u), (3, .int n), (4, .int (nI j))]) (s1 := []) (v1 := w) (p2 := 106) (l2 := [(0, .ref 1), (1, .long u), (3, .int n), (4, .int (nI j))]) (s2 := []) (v2 := w) rfl rfl (fun q5 => ?_) (fun q5 => ?_)
      · replace q5 := of_decide_eq_true q5
        refine sx_RP.step (pc2 := 117) (ls2 := [(4, .int ((nI j) + 1)), (0, .ref 1), (1, .long u), (3, .int n)]) (st2 := []) (w3 := w) rfl rfl ?_
        rw [nI_1 j]
        refine sx_RP.step (pc2 := 77) (ls2 := [(4, .int (nI (j + 1))), (0, .ref 1), (1, .long u), (3, .int n)]) (st2 := []) (w3 := w) rfl rfl ?_
        -- [('¬ (nI x1) = 2', False, 'q4'), ('¬ (lg_cmp (((u.toUInt64 >>> ((nI j).toInt64.toUInt64 &&& Int64.toUInt64 63)).toInt64) &&& 1) 1) = 0', True, 'q5')] []
        have ej : m.getD (7 + j) 0 = l.getD (7 + j) 0 := by rw [hm.2 _ (by omega), blG_st (by omega), ltB_n (by omega), Bool.false_and, if_neg (fun z => absurd z.1 (by decide))]
        have e7 : l.getD (7 + j) 0 = nI x1 := ej.symm.trans ((hR.gr (by omega)).symm.trans ex3)
        refine sx_RP.ls (sx_lr.cons rfl (sx_lr.cons rfl (sx_lr.cons rfl (sx_lr.cons rfl sx_lr.nil)))) (X80c hu q (j + 1) w m (by omega) hI hR ?_ hO)
        have eB : B j = false := by cases hB : B j with | false => rfl | true => exact absurd ((bit_1 (by omega)).mpr (by rw [hu j (by omega), ltB_y (by omega), hB]; rfl)) q5
        exact hm.cg (fun i hi => ltB_B eB) (fun i hi => rfl) (fun i hi => rfl)
      · replace q5 := Decidable.not_not.mp (of_decide_eq_false q5)
        refine sx_RP.step (pc2 := 107) (ls2 := [(0, .ref 1), (1, .long u), (3, .int n), (4, .int (nI j))]) (st2 := [.ref 1]) (w3 := w) rfl rfl ?_
        refine sx_RP.gref (k := 0) (b := 2) hI (Or.inl rfl) rfl rfl (by omega) (show _ = 110 from rfl) ?_
        refine sx_RP.step (pc2 := 112) (ls2 := [(0, .ref 1), (1, .long u), (3, .int n), (4, .int (nI j))]) (st2 := [.int (nI j), .ref 2]) (w3 := w) rfl rfl ?_
        refine sx_RP.step (pc2 := 113) (ls2 := [(0, .ref 1), (1, .long u), (3, .int n), (4, .int (nI j))]) (st2 := [.int 0, .int (nI j), .ref 2]) (w3 := w) rfl rfl ?_
        refine sx_RP.xS (A := 1) (c := j) hI (Or.inl rfl) rfl (show j < 48 by omega) (inR.n (show 0 ≤ 3 by omega)) (show _ = 114 from rfl) (fun w6 hI7 hs8 hv9 => ?_)
        refine sx_RP.step (pc2 := 117) (ls2 := [(4, .int ((nI j) + 1)), (0, .ref 1), (1, .long u), (3, .int n)]) (st2 := []) (w3 := w6) rfl rfl ?_
        rw [nI_1 j]
        refine sx_RP.step (pc2 := 77) (ls2 := [(4, .int (nI (j + 1))), (0, .ref 1), (1, .long u), (3, .int n)]) (st2 := []) (w3 := w6) rfl rfl ?_
        -- [('¬ (nI x1) = 2', False, 'q4'), ('¬ (lg_cmp (((u.toUInt64 >>> ((nI j).toInt64.toUInt64 &&& Int64.toUInt64 63)).toInt64) &&& 1) 1) = 0', False, 'q5')] [('A', '1', 1, 'j', <symgen.V object at 0x7f4b6906bd00>, 'hs8', 'hv9', 'w', 'w6')]
        have ej : m.getD (7 + j) 0 = l.getD (7 + j) 0 := by rw [hm.2 _ (by omega), blG_st (by omega), ltB_n (by omega), Bool.false_and, if_neg (fun z => absurd z.1 (by decide))]
        have e7 : l.getD (7 + j) 0 = nI x1 := ej.symm.trans ((hR.gr (by omega)).symm.trans ex3)
        have eB : B j = true := by have z := (bit_1 (by omega)).mp q5; rw [hu j (by omega), ltB_y (by omega), Bool.true_and] at z; exact z
        refine sx_RP.ls (sx_lr.cons rfl (sx_lr.cons rfl (sx_lr.cons rfl (sx_lr.cons rfl sx_lr.nil)))) (X80c hu q (j + 1) w6 (m.set (7 + j) 0) (by omega) hI7 (hR.sGr hI (Or.inl rfl) (by omega) hs8 hv9) ?_ (hO.tr (hs8.out (by omega))))
        exact hm.set (by omega) (by rw [blG_st (by omega), ltB_y (by omega), eB, if_pos ⟨rfl, by rw [e7, q4]; rfl⟩]) (fun i hi h => by rw [ltB_ne (by omega)]) (fun i hi h => rfl) (fun i hi h => rfl)
set_option maxRecDepth 20000 in
set_option maxHeartbeats 4000000 in
theorem X80g {xs : Option (List Int32)} {d n : Nat} {l : List Int32} {w0 : List sx_C} (hn : n ≤ 10) (en : l.getD 1 0 = nI n) {B : Nat → Bool} {u : Int64} (hu : ∀ i, i < 64 → bitL u i = (ltB 48 i && B i)) : ∀ (q g : Nat) (w : List sx_C) (m : List Int32), g + q = n → WI w → rel w 1 m → BG l B (fun _ => false) allT (ltB g) m → Out 1 w0 w → sx_RP xs (d + 1) 80 19 [(0, .ref 1), (1, .long u), (3, .int (ctP (fun i => B (hdN l i) && (l.getD (103 + 6 * i + 5) 0 == 0)) g)), (4, .int (nI g))] [] w (fun r w2 => (r = some (.int (ctP (fun i => B (hdN l i) && (l.getD (103 + 6 * i + 5) 0 == 0)) n)) ∧ ∃ m2, rel w2 1 m2 ∧ BG l B (ltB 48) allT (ltB n) m2) ∧ WI w2 ∧ Out 1 w0 w2)
  | 0, g, w, m, hg, hI, hR, hm, hO => by
    obtain rfl : g = n := by omega
    have em : m.getD 1 0 = nI g := by rw [hm.2 1 (by omega), blG_o (by omega) (by omega)]; exact en
    refine sx_RP.step (pc2 := 21) (ls2 := [(0, .ref 1), (1, .long u), (3, .int (ctP (fun i => B (hdN l i) && (l.getD (103 + 6 * i + 5) 0 == 0)) g)), (4, .int (nI g))]) (st2 := [.int (nI g)]) (w3 := w) rfl rfl ?_
    refine sx_RP.step (pc2 := 22) (ls2 := [(0, .ref 1), (1, .long u), (3, .int (ctP (fun i => B (hdN l i) && (l.getD (103 + 6 * i + 5) 0 == 0)) g)), (4, .int (nI g))]) (st2 := [.ref 1, .int (nI g)]) (w3 := w) rfl rfl ?_
    refine sx_RP.gc (k := 3) hI (Or.inl rfl) rfl rfl (by omega) (show _ = 25 from rfl) ?_
    rw [(hR.many.trans em)]
    refine sx_RP.br (p1 := 74) (l1 := [(0, .ref 1), (1, .long u), (3, .int (ctP (fun i => B (hdN l i) && (l.getD (103 + 6 * i + 5) 0 == 0)) g)), (4, .int (nI g))]) (s1 := []) (v1 := w) rfl rfl (fun _ => ?_) (fun q => absurd (nI_le (a := g) (b := g) (by omega) (by omega)) (of_decide_eq_false q))
    refine sx_RP.step (pc2 := 75) (ls2 := [(0, .ref 1), (1, .long u), (3, .int (ctP (fun i => B (hdN l i) && (l.getD (103 + 6 * i + 5) 0 == 0)) g)), (4, .int (nI g))]) (st2 := [.int 0]) (w3 := w) rfl rfl ?_
    refine sx_RP.step (pc2 := 77) (ls2 := [(4, .int 0), (0, .ref 1), (1, .long u), (3, .int (ctP (fun i => B (hdN l i) && (l.getD (103 + 6 * i + 5) 0 == 0)) g))]) (st2 := []) (w3 := w) rfl rfl ?_
    exact sx_RP.ls (sx_lr.cons rfl (sx_lr.cons rfl (sx_lr.cons rfl (sx_lr.cons rfl sx_lr.nil)))) (X80c hu 48 0 w m (by omega) hI hR (hm.cg (fun i hi => by rw [ltB_n (by omega)]) (fun i hi => rfl) (fun i hi => rfl)) hO)
  | q + 1, g, w, m, hg, hI, hR, hm, hO => by
    have em : m.getD 1 0 = nI n := by rw [hm.2 1 (by omega), blG_o (by omega) (by omega)]; exact en
    refine sx_RP.step (pc2 := 21) (ls2 := [(0, .ref 1), (1, .long u), (3, .int (ctP (fun i => B (hdN l i) && (l.getD (103 + 6 * i + 5) 0 == 0)) g)), (4, .int (nI g))]) (st2 := [.int (nI g)]) (w3 := w) rfl rfl ?_
    refine sx_RP.step (pc2 := 22) (ls2 := [(0, .ref 1), (1, .long u), (3, .int (ctP (fun i => B (hdN l i) && (l.getD (103 + 6 * i + 5) 0 == 0)) g)), (4, .int (nI g))]) (st2 := [.ref 1, .int (nI g)]) (w3 := w) rfl rfl ?_
    refine sx_RP.gc (k := 3) hI (Or.inl rfl) rfl rfl (by omega) (show _ = 25 from rfl) ?_
    rw [(hR.many.trans em)]
    refine sx_RP.br (p2 := 28) (l2 := [(0, .ref 1), (1, .long u), (3, .int (ctP (fun i => B (hdN l i) && (l.getD (103 + 6 * i + 5) 0 == 0)) g)), (4, .int (nI g))]) (s2 := []) (v2 := w) rfl rfl (fun q => absurd (of_decide_eq_true q) (fun z => absurd ((nI_leI (a := n) (b := g) (by omega) (by omega)).mp z) (by omega))) (fun _ => ?_)
    refine sx_RP.step (pc2 := 29) (ls2 := [(0, .ref 1), (1, .long u), (3, .int (ctP (fun i => B (hdN l i) && (l.getD (103 + 6 * i + 5) 0 == 0)) g)), (4, .int (nI g))]) (st2 := [.ref 1]) (w3 := w) rfl rfl ?_
    refine sx_RP.gref (k := 2) (b := 3) hI (Or.inl rfl) rfl rfl (by omega) (show _ = 32 from rfl) ?_
    refine sx_RP.step (pc2 := 34) (ls2 := [(0, .ref 1), (1, .long u), (3, .int (ctP (fun i => B (hdN l i) && (l.getD (103 + 6 * i + 5) 0 == 0)) g)), (4, .int (nI g))]) (st2 := [.int (nI g), .ref 3]) (w3 := w) rfl rfl ?_
    refine sx_RP.ald (v := .ref (1 + 4 + g)) rfl (hI.1.aG (Or.inl rfl)) rfl (grA_at (show g < 10 by omega)) (show _ = 35 from rfl) ?_
    refine sx_RP.step (pc2 := 37) (ls2 := [(5, .ref (1 + 4 + g)), (0, .ref 1), (1, .long u), (3, .int (ctP (fun i => B (hdN l i) && (l.getD (103 + 6 * i + 5) 0 == 0)) g)), (4, .int (nI g))]) (st2 := []) (w3 := w) rfl rfl ?_
    refine sx_RP.step (pc2 := 39) (ls2 := [(5, .ref (1 + 4 + g)), (0, .ref 1), (1, .long u), (3, .int (ctP (fun i => B (hdN l i) && (l.getD (103 + 6 * i + 5) 0 == 0)) g)), (4, .int (nI g))]) (st2 := [.ref (1 + 4 + g)]) (w3 := w) rfl rfl ?_
    refine sx_RP.gg (k := 5) hI (gAd.of (Or.inl rfl) (show g < 10 by omega)) rfl rfl (by decide) (show _ = 42 from rfl) ?_
    obtain ⟨x1, hx2, ex3⟩ : inR (fi w (1 + 4 + g) 5) 1 := hI.gk (k := 5) (gAd.of (Or.inl rfl) (show g < 10 by omega)) (by decide)
    rw [ex3]
    refine sx_RP.br (p1 := 68) (l1 := [(5, .ref (1 + 4 + g)), (0, .ref 1), (1, .long u), (3, .int (ctP (fun i => B (hdN l i) && (l.getD (103 + 6 * i + 5) 0 == 0)) g)), (4, .int (nI g))]) (s1 := []) (v1 := w) (p2 := 45) (l2 := [(5, .ref (1 + 4 + g)), (0, .ref 1), (1, .long u), (3, .int (ctP (fun i => B (hdN l i) && (l.getD (103 + 6 * i + 5) 0 == 0)) g)), (4, .int (nI g))]) (s2 := []) (v2 := w) rfl rfl (fun q4 => ?_) (fun q4 => ?_)
    · replace q4 := of_decide_eq_true q4
      replace q4 := mt (nI_eq (a := x1) (b := 0) (by omega) (by omega)).mpr q4
      refine sx_RP.step (pc2 := 71) (ls2 := [(4, .int ((nI g) + 1)), (5, .ref (1 + 4 + g)), (0, .ref 1), (1, .long u), (3, .int (ctP (fun i => B (hdN l i) && (l.getD (103 + 6 * i + 5) 0 == 0)) g))]) (st2 := []) (w3 := w) rfl rfl ?_
      rw [nI_1 g]
      refine sx_RP.step (pc2 := 19) (ls2 := [(4, .int (nI (g + 1))), (5, .ref (1 + 4 + g)), (0, .ref 1), (1, .long u), (3, .int (ctP (fun i => B (hdN l i) && (l.getD (103 + 6 * i + 5) 0 == 0)) g))]) (st2 := []) (w3 := w) rfl rfl ?_
      -- [('¬ (nI x1) = 0', True, 'q4')] [] {('w', '1 + 4 + g', 5): 'ex3'}
      have hg6 : g < iN (m.getD 1 0) := by rw [em, iN_n (by omega)]; omega
      have e5 : l.getD (103 + 6 * g + 5) 0 = nI x1 := by rw [← show m.getD (103 + 6 * g + 5) 0 = l.getD (103 + 6 * g + 5) 0 by rw [hm.2 _ (by omega), blG_ls (by omega), ltB_n (by omega), Bool.false_and, if_neg (fun z => absurd z.2 (by decide))]]; exact (hR.ga (i := g) (k := 5) hg6 (by decide)).symm.trans ex3
      have ef : (fun i => B (hdN l i) && (l.getD (103 + 6 * i + 5) 0 == 0)) g = false := by show (B (hdN l g) && (l.getD (103 + 6 * g + 5) 0 == 0)) = false; rw [e5, show (nI x1 == 0) = false from beq_eq_false_iff_ne.mpr (fun z => q4 ((nI_eq (a := x1) (b := 0) (by omega) (by decide)).mp z)), Bool.and_false]
      have ec : ctP (fun i => B (hdN l i) && (l.getD (103 + 6 * i + 5) 0 == 0)) g = ctP (fun i => B (hdN l i) && (l.getD (103 + 6 * i + 5) 0 == 0)) (g + 1) := by show _ = ctP (fun i => B (hdN l i) && (l.getD (103 + 6 * i + 5) 0 == 0)) g + _; rw [ef, if_neg (by decide), Int32.add_zero]
      rw [ec]
      refine sx_RP.ls (sx_lr.cons rfl (sx_lr.cons rfl (sx_lr.cons rfl (sx_lr.cons rfl sx_lr.nil)))) (X80g hn en hu q (g + 1) w m (by omega) hI hR ?_ hO)
      refine ⟨hm.1, fun k hk => ?_⟩
      rw [hm.2 k hk]
      by_cases e : k = 103 + 6 * g + 5
      · have e1 : l.getD (103 + 6 * g + 5) 0 = 1 := by rw [e5, show x1 = 1 by omega]; rfl
        rw [e, blG_ls (by omega), blG_ls (by omega), e1]
        split <;> split <;> rfl
      · exact blG_ext (fun i hi h => rfl) (fun i hi h => rfl) (fun i hi h => by rw [ltB_ne (by omega)]) e
    · replace q4 := Decidable.not_not.mp (of_decide_eq_false q4)
      replace q4 := (nI_eq (a := x1) (b := 0) (by omega) (by omega)).mp q4
      refine sx_RP.step (pc2 := 46) (ls2 := [(5, .ref (1 + 4 + g)), (0, .ref 1), (1, .long u), (3, .int (ctP (fun i => B (hdN l i) && (l.getD (103 + 6 * i + 5) 0 == 0)) g)), (4, .int (nI g))]) (st2 := [.long u]) (w3 := w) rfl rfl ?_
      refine sx_RP.step (pc2 := 48) (ls2 := [(5, .ref (1 + 4 + g)), (0, .ref 1), (1, .long u), (3, .int (ctP (fun i => B (hdN l i) && (l.getD (103 + 6 * i + 5) 0 == 0)) g)), (4, .int (nI g))]) (st2 := [.ref (1 + 4 + g), .long u]) (w3 := w) rfl rfl ?_
      refine sx_RP.gg (k := 2) hI (gAd.of (Or.inl rfl) (show g < 10 by omega)) rfl rfl (by decide) (show _ = 51 from rfl) ?_
      obtain ⟨x5, hx6, ex7⟩ : inR (fi w (1 + 4 + g) 2) 47 := hI.gk (k := 2) (gAd.of (Or.inl rfl) (show g < 10 by omega)) (by decide)
      rw [ex7]
      refine sx_RP.step (pc2 := 52) (ls2 := [(5, .ref (1 + 4 + g)), (0, .ref 1), (1, .long u), (3, .int (ctP (fun i => B (hdN l i) && (l.getD (103 + 6 * i + 5) 0 == 0)) g)), (4, .int (nI g))]) (st2 := [.long ((u.toUInt64 >>> ((nI x5).toInt64.toUInt64 &&& Int64.toUInt64 63)).toInt64)]) (w3 := w) rfl rfl ?_
      refine sx_RP.step (pc2 := 53) (ls2 := [(5, .ref (1 + 4 + g)), (0, .ref 1), (1, .long u), (3, .int (ctP (fun i => B (hdN l i) && (l.getD (103 + 6 * i + 5) 0 == 0)) g)), (4, .int (nI g))]) (st2 := [.long 1, .long ((u.toUInt64 >>> ((nI x5).toInt64.toUInt64 &&& Int64.toUInt64 63)).toInt64)]) (w3 := w) rfl rfl ?_
      refine sx_RP.step (pc2 := 54) (ls2 := [(5, .ref (1 + 4 + g)), (0, .ref 1), (1, .long u), (3, .int (ctP (fun i => B (hdN l i) && (l.getD (103 + 6 * i + 5) 0 == 0)) g)), (4, .int (nI g))]) (st2 := [.long (((u.toUInt64 >>> ((nI x5).toInt64.toUInt64 &&& Int64.toUInt64 63)).toInt64) &&& 1)]) (w3 := w) rfl rfl ?_
      refine sx_RP.step (pc2 := 55) (ls2 := [(5, .ref (1 + 4 + g)), (0, .ref 1), (1, .long u), (3, .int (ctP (fun i => B (hdN l i) && (l.getD (103 + 6 * i + 5) 0 == 0)) g)), (4, .int (nI g))]) (st2 := [.long 1, .long (((u.toUInt64 >>> ((nI x5).toInt64.toUInt64 &&& Int64.toUInt64 63)).toInt64) &&& 1)]) (w3 := w) rfl rfl ?_
      refine sx_RP.step (pc2 := 56) (ls2 := [(5, .ref (1 + 4 + g)), (0, .ref 1), (1, .long u), (3, .int (ctP (fun i => B (hdN l i) && (l.getD (103 + 6 * i + 5) 0 == 0)) g)), (4, .int (nI g))]) (st2 := [.int (lg_cmp (((u.toUInt64 >>> ((nI x5).toInt64.toUInt64 &&& Int64.toUInt64 63)).toInt64) &&& 1) 1)]) (w3 := w) rfl rfl ?_
      refine sx_RP.br (p1 := 68) (l1 := [(5, .ref (1 + 4 + g)), (0, .ref 1), (1, .long u), (3, .int (ctP (fun i => B (hdN l i) && (l.getD (103 + 6 * i + 5) 0 == 0)) g)), (4, .int (nI g))]) (s1 := []) (v1 := w) (p2 := 59) (l2 := [(5, .ref (1 + 4 + g)), (0, .ref 1), (1, .long u), (3, .int (ctP (fun i => B (hdN l i) && (l.getD (103 + 6 * i + 5) 0 == 0)) g)), (4, .int (nI g))]) (s2 := []) (v2 := w) rfl rfl (fun q8 => ?_) (fun q8 => ?_)
      · replace q8 := of_decide_eq_true q8
        refine sx_RP.step (pc2 := 71) (ls2 := [(4, .int ((nI g) + 1)), (5, .ref (1 + 4 + g)), (0, .ref 1), (1, .long u), (3, .int (ctP (fun i => B (hdN l i) && (l.getD (103 + 6 * i + 5) 0 == 0)) g))]) (st2 := []) (w3 := w) rfl rfl ?_
        rw [nI_1 g]
        refine sx_RP.step (pc2 := 19) (ls2 := [(4, .int (nI (g + 1))), (5, .ref (1 + 4 + g)), (0, .ref 1), (1, .long u), (3, .int (ctP (fun i => B (hdN l i) && (l.getD (103 + 6 * i + 5) 0 == 0)) g))]) (st2 := []) (w3 := w) rfl rfl ?_
        -- [('¬ (nI x1) = 0', False, 'q4'), ('¬ (lg_cmp (((u.toUInt64 >>> ((nI x5).toInt64.toUInt64 &&& Int64.toUInt64 63)).toInt64) &&& 1) 1) = 0', True, 'q8')] [] {('w', '1 + 4 + g', 5): 'ex3', ('w', '1 + 4 + g', 2): 'ex7'}
        have hg6 : g < iN (m.getD 1 0) := by rw [em, iN_n (by omega)]; omega
        have e5 : l.getD (103 + 6 * g + 5) 0 = nI x1 := by rw [← show m.getD (103 + 6 * g + 5) 0 = l.getD (103 + 6 * g + 5) 0 by rw [hm.2 _ (by omega), blG_ls (by omega), ltB_n (by omega), Bool.false_and, if_neg (fun z => absurd z.2 (by decide))]]; exact (hR.ga (i := g) (k := 5) hg6 (by decide)).symm.trans ex3
        have e2 : hdN l g = x5 := by unfold hdN; rw [← show m.getD (103 + 6 * g + 2) 0 = l.getD (103 + 6 * g + 2) 0 by rw [hm.2 _ (by omega), blG_o (by omega) (by omega)], show m.getD (103 + 6 * g + 2) 0 = nI x5 from (hR.ga (i := g) (k := 2) hg6 (by decide)).symm.trans ex7, iN_n (by omega)]
        have eB : B x5 = false := by cases hB : B x5 with | false => rfl | true => exact absurd ((bit_1 (by omega)).mpr (by rw [hu x5 (by omega), ltB_y (by omega), hB]; rfl)) q8
        have ef : (fun i => B (hdN l i) && (l.getD (103 + 6 * i + 5) 0 == 0)) g = false := by show (B (hdN l g) && (l.getD (103 + 6 * g + 5) 0 == 0)) = false; rw [e2, eB, Bool.false_and]
        have ec : ctP (fun i => B (hdN l i) && (l.getD (103 + 6 * i + 5) 0 == 0)) g = ctP (fun i => B (hdN l i) && (l.getD (103 + 6 * i + 5) 0 == 0)) (g + 1) := by show _ = ctP (fun i => B (hdN l i) && (l.getD (103 + 6 * i + 5) 0 == 0)) g + _; rw [ef, if_neg (by decide), Int32.add_zero]
        rw [ec]
        refine sx_RP.ls (sx_lr.cons rfl (sx_lr.cons rfl (sx_lr.cons rfl (sx_lr.cons rfl sx_lr.nil)))) (X80g hn en hu q (g + 1) w m (by omega) hI hR ?_ hO)
        exact hm.cg (fun i hi => rfl) (fun i hi => rfl) (fun i hi => by by_cases e : i = g; (rw [e, e2, eB, Bool.and_false, Bool.and_false]); (rw [ltB_ne e]))
      · replace q8 := Decidable.not_not.mp (of_decide_eq_false q8)
        refine sx_RP.step (pc2 := 61) (ls2 := [(5, .ref (1 + 4 + g)), (0, .ref 1), (1, .long u), (3, .int (ctP (fun i => B (hdN l i) && (l.getD (103 + 6 * i + 5) 0 == 0)) g)), (4, .int (nI g))]) (st2 := [.ref (1 + 4 + g)]) (w3 := w) rfl rfl ?_
        refine sx_RP.step (pc2 := 62) (ls2 := [(5, .ref (1 + 4 + g)), (0, .ref 1), (1, .long u), (3, .int (ctP (fun i => B (hdN l i) && (l.getD (103 + 6 * i + 5) 0 == 0)) g)), (4, .int (nI g))]) (st2 := [.int 1, .ref (1 + 4 + g)]) (w3 := w) rfl rfl ?_
        refine sx_RP.xG (k := 5) hI (gAd.of (Or.inl rfl) (show g < 10 by omega)) rfl rfl (by decide) rfl (show inR 1 1 from ⟨1, by decide, rfl⟩) (show _ = 65 from rfl) (fun w9 hI10 hs11 hv12 hr13 => ?_)
        have ex14 := (fi_same 3 (hs11 1 (by omega))).trans (hR.many.trans em)
        have ex15 := (hr13 2 (by decide)).trans ex7
        refine sx_RP.step (pc2 := 68) (ls2 := [(3, .int ((ctP (fun i => B (hdN l i) && (l.getD (103 + 6 * i + 5) 0 == 0)) g) + 1)), (5, .ref (1 + 4 + g)), (0, .ref 1), (1, .long u), (4, .int (nI g))]) (st2 := []) (w3 := w9) rfl rfl ?_
        refine sx_RP.step (pc2 := 71) (ls2 := [(4, .int ((nI g) + 1)), (3, .int ((ctP (fun i => B (hdN l i) && (l.getD (103 + 6 * i + 5) 0 == 0)) g) + 1)), (5, .ref (1 + 4 + g)), (0, .ref 1), (1, .long u)]) (st2 := []) (w3 := w9) rfl rfl ?_
        rw [nI_1 g]
        refine sx_RP.step (pc2 := 19) (ls2 := [(4, .int (nI (g + 1))), (3, .int ((ctP (fun i => B (hdN l i) && (l.getD (103 + 6 * i + 5) 0 == 0)) g) + 1)), (5, .ref (1 + 4 + g)), (0, .ref 1), (1, .long u)]) (st2 := []) (w3 := w9) rfl rfl ?_
        -- [('¬ (nI x1) = 0', False, 'q4'), ('¬ (lg_cmp (((u.toUInt64 >>> ((nI x5).toInt64.toUInt64 &&& Int64.toUInt64 63)).toInt64) &&& 1) 1) = 0', False, 'q8')] [('G', '1 + 4 + g', 5, <symgen.V object at 0x7f4b69068280>, 'hs11', 'hv12', 'hr13', 'w', 'w9')] {('w', '1 + 4 + g', 5): 'ex3', ('w', '1 + 4 + g', 2): 'ex7'}
        have hg6 : g < iN (m.getD 1 0) := by rw [em, iN_n (by omega)]; omega
        have e5 : l.getD (103 + 6 * g + 5) 0 = nI x1 := by rw [← show m.getD (103 + 6 * g + 5) 0 = l.getD (103 + 6 * g + 5) 0 by rw [hm.2 _ (by omega), blG_ls (by omega), ltB_n (by omega), Bool.false_and, if_neg (fun z => absurd z.2 (by decide))]]; exact (hR.ga (i := g) (k := 5) hg6 (by decide)).symm.trans ex3
        have e2 : hdN l g = x5 := by unfold hdN; rw [← show m.getD (103 + 6 * g + 2) 0 = l.getD (103 + 6 * g + 2) 0 by rw [hm.2 _ (by omega), blG_o (by omega) (by omega)], show m.getD (103 + 6 * g + 2) 0 = nI x5 from (hR.ga (i := g) (k := 2) hg6 (by decide)).symm.trans ex7, iN_n (by omega)]
        have eB : B x5 = true := by have z := (bit_1 (by omega)).mp q8; rw [hu x5 (by omega), ltB_y (by omega), Bool.true_and] at z; exact z
        have ef : (fun i => B (hdN l i) && (l.getD (103 + 6 * i + 5) 0 == 0)) g = true := by show (B (hdN l g) && (l.getD (103 + 6 * g + 5) 0 == 0)) = true; rw [e2, eB, e5, q4]; rfl
        have ec : ctP (fun i => B (hdN l i) && (l.getD (103 + 6 * i + 5) 0 == 0)) g + 1 = ctP (fun i => B (hdN l i) && (l.getD (103 + 6 * i + 5) 0 == 0)) (g + 1) := by show _ = ctP (fun i => B (hdN l i) && (l.getD (103 + 6 * i + 5) 0 == 0)) g + _; rw [ef, if_pos rfl]
        rw [ec]
        refine sx_RP.ls (sx_lr.cons rfl (sx_lr.cons rfl (sx_lr.cons rfl (sx_lr.cons rfl sx_lr.nil)))) (X80g hn en hu q (g + 1) w9 (m.set (103 + 6 * g + 5) 1) (by omega) hI10 (hR.sGa (by omega) (by decide) hs11 hv12 hr13) ?_ (hO.tr (hs11.out (by omega))))
        exact hm.set (by omega) (by rw [blG_ls (by omega), ltB_y (by omega), e2, eB, if_pos ⟨by rw [en, iN_n (by omega)]; omega, rfl⟩]) (fun i hi h => rfl) (fun i hi h => rfl) (fun i hi h => by rw [ltB_ne (by omega)])
set_option maxRecDepth 20000 in
set_option maxHeartbeats 4000000 in
theorem X80 {xs : Option (List Int32)} {d : Nat} {w : List sx_C} (hI : WI w) (l : List Int32) (hR : rel w 1 l) {n : Nat} (hn : n ≤ 10) (en : l.getD 1 0 = nI n) {B : Nat → Bool} {u : Int64} (hu : ∀ i, i < 64 → bitL u i = (ltB 48 i && B i)) : sx_RP xs (d + 1) 80 0 (lv_args 0 [.ref 1, .long u]) [] w (fun r w2 => (r = some (.int (ctP (fun i => B (hdN l i) && (l.getD (103 + 6 * i + 5) 0 == 0)) n)) ∧ ∃ m2, rel w2 1 m2 ∧ BG l B (ltB 48) allT (ltB n) m2) ∧ WI w2 ∧ Out 1 w w2) := by
  refine sx_RP.step (pc2 := 1) (ls2 := [(0, .ref 1), (1, .long u)]) (st2 := [.ref 1]) (w3 := w) rfl rfl ?_
  refine sx_RP.step (pc2 := 2) (ls2 := [(0, .ref 1), (1, .long u)]) (st2 := [.ref 1, .ref 1]) (w3 := w) rfl rfl ?_
  refine sx_RP.gw hI (Or.inl rfl) rfl rfl (show _ = 5 from rfl) ?_
  refine sx_RP.step (pc2 := 6) (ls2 := [(0, .ref 1), (1, .long u)]) (st2 := [.long u, .long (fj w 1 1), .ref 1]) (w3 := w) rfl rfl ?_
  refine sx_RP.step (pc2 := 9) (ls2 := [(0, .ref 1), (1, .long u)]) (st2 := [.long (-1), .long u, .long (fj w 1 1), .ref 1]) (w3 := w) rfl rfl ?_
  refine sx_RP.step (pc2 := 10) (ls2 := [(0, .ref 1), (1, .long u)]) (st2 := [.long (u ^^^ (-1)), .long (fj w 1 1), .ref 1]) (w3 := w) rfl rfl ?_
  refine sx_RP.step (pc2 := 11) (ls2 := [(0, .ref 1), (1, .long u)]) (st2 := [.long ((fj w 1 1) &&& (u ^^^ (-1))), .ref 1]) (w3 := w) rfl rfl ?_
  refine sx_RP.xW hI (Or.inl rfl) rfl rfl rfl (show _ = 14 from rfl) (fun w1 hI2 hs3 hv4 hr5 => ?_)
  refine sx_RP.step (pc2 := 15) (ls2 := [(0, .ref 1), (1, .long u)]) (st2 := [.int 0]) (w3 := w1) rfl rfl ?_
  refine sx_RP.step (pc2 := 16) (ls2 := [(3, .int 0), (0, .ref 1), (1, .long u)]) (st2 := []) (w3 := w1) rfl rfl ?_
  refine sx_RP.step (pc2 := 17) (ls2 := [(3, .int 0), (0, .ref 1), (1, .long u)]) (st2 := [.int 0]) (w3 := w1) rfl rfl ?_
  refine sx_RP.step (pc2 := 19) (ls2 := [(4, .int 0), (3, .int 0), (0, .ref 1), (1, .long u)]) (st2 := []) (w3 := w1) rfl rfl ?_
  have hm0 := BG.walls (l := l) (B := B) hR.len
  have hR2 := hR.wAll hm0 hs3 hr5 (fun b hb => by rw [hv4, bit_andn hb, hu b hb]; rfl)
  exact sx_RP.ls (sx_lr.cons rfl (sx_lr.cons rfl (sx_lr.cons rfl (sx_lr.cons rfl sx_lr.nil)))) (X80g (w0 := w) hn en hu n 0 w1 _ (by omega) hI2 hR2 (hm0.cg (fun i hi => rfl) (fun i hi => rfl) (fun i hi => by rw [ltB_n (by omega)])) (hs3.out (by omega)))
def blwA (l : List Int32) (a1 a2 : Int32) : Int32 := if ¬ (0 ≤ a1 ∧ a1 ≤ 47) then -1000000001 else (if ¬ (1 ≤ a2 ∧ a2 ≤ 30) then -1000000001 else (blA l (iN a1) (iN a2)))
def blwR (l : List Int32) (a1 a2 : Int32) : List Int32 := if ¬ (0 ≤ a1 ∧ a1 ≤ 47) then l else (if ¬ (1 ≤ a2 ∧ a2 ≤ 30) then l else (blR l (iN a1) (iN a2)))
theorem blw_1 {l : List Int32} {a1 a2 : Int32} (h0 : ¬ (0 ≤ a1 ∧ a1 ≤ 47)) : blwA l a1 a2 = -1000000001 ∧ blwR l a1 a2 = l := ⟨if_pos h0, if_pos h0⟩
theorem blw_2 {l : List Int32} {a1 a2 : Int32} (h0 : ¬ (¬ (0 ≤ a1 ∧ a1 ≤ 47))) (h1 : ¬ (1 ≤ a2 ∧ a2 ≤ 30)) : blwA l a1 a2 = -1000000001 ∧ blwR l a1 a2 = l := ⟨(if_neg h0).trans (if_pos h1), (if_neg h0).trans (if_pos h1)⟩
theorem blw_z {l : List Int32} {a1 a2 : Int32} (h0 : ¬ (¬ (0 ≤ a1 ∧ a1 ≤ 47))) (h1 : ¬ (¬ (1 ≤ a2 ∧ a2 ≤ 30))) : blwA l a1 a2 = blA l (iN a1) (iN a2) ∧ blwR l a1 a2 = blR l (iN a1) (iN a2) := ⟨(if_neg h0).trans (if_neg h1), (if_neg h0).trans (if_neg h1)⟩
set_option maxRecDepth 20000 in
set_option maxHeartbeats 4000000 in
theorem Z79 {xs : Option (List Int32)} {d : Nat} {w : List sx_C} (hI : WI w) (l : List Int32) (hR : rel w 1 l) (a1 a2 : Int32) : sx_RP xs (d + 7) 79 0 (lv_args 0 [.ref 0, .int a1, .int a2]) [] w (fun r w2 => (r = some (.int (blwA l a1 a2)) ∧ rel w2 1 (blwR l a1 a2)) ∧ WI w2 ∧ EO w w2) := by
  obtain ⟨n, hn, en⟩ := hR.n10 hI (Or.inl rfl)
  refine sx_RP.step (pc2 := 1) (ls2 := [(0, .ref 0), (1, .int a1), (2, .int a2)]) (st2 := [.int a1]) (w3 := w) rfl rfl ?_
  rcases in_cases a1 0 47 (m := 0) (n := 47) rfl rfl (by decide) (by decide) with q1 | ⟨x2, hx3, hx4, rfl⟩
  · refine sx_RP.cu (as := [.int a1]) (rest2 := []) (st3 := [.int 0]) rfl rfl rfl rfl rfl (cx_7n q1) rfl ?_
    refine sx_RP.step (pc2 := 17) (ls2 := [(0, .ref 0), (1, .int a1), (2, .int a2)]) (st2 := []) (w3 := w) rfl rfl ?_
    refine sx_RP.step (pc2 := 18) (ls2 := [(0, .ref 0), (1, .int a1), (2, .int a2)]) (st2 := [.ref 0]) (w3 := w) rfl rfl ?_
    refine sx_RP.step (pc2 := 20) (ls2 := [(0, .ref 0), (1, .int a1), (2, .int a2)]) (st2 := [.int (-1000000001), .ref 0]) (w3 := w) rfl rfl ?_
    refine sx_RP.callp (as2 := [.ref 0, .int (-1000000001)]) (rest2 := []) rfl rfl (sx_inv_v2 (mi := 79) (k := 78) (st := [.int (-1000000001), .ref 0]) (w := w) rfl rfl hI.1.o0 rfl rfl rfl) rfl rfl rfl (S9_0 hI) (show _ = 23 from rfl) ?_
    rintro r4 w7 ⟨rfl, hI8, hs6⟩
    show sx_RP _ _ _ _ _ [.int (-1000000001)] _ _
    refine sx_RP.ret (r := (some (.int (-1000000001)))) rfl rfl ?_
    exact ⟨⟨by rw [(blw_1 (l := l) q1).1], by rw [(blw_1 (l := l) q1).2]; exact hR.same hI (Or.inl rfl) (fun a h1 h2 => hs6 a (by omega))⟩, hI8, fun a ha => hs6 a (by unfold oc at ha; omega)⟩
  · refine sx_RP.cu (as := [.int (nI x2)]) (rest2 := []) (st3 := [.int 1]) rfl rfl rfl rfl rfl (cx_7p ⟨nI_le (a := 0) hx3 (by omega), nI_le (b := 47) hx4 (by decide)⟩) rfl ?_
    refine sx_RP.step (pc2 := 7) (ls2 := [(0, .ref 0), (1, .int (nI x2)), (2, .int a2)]) (st2 := []) (w3 := w) rfl rfl ?_
    refine sx_RP.step (pc2 := 8) (ls2 := [(0, .ref 0), (1, .int (nI x2)), (2, .int a2)]) (st2 := [.int a2]) (w3 := w) rfl rfl ?_
    refine sx_RP.step (pc2 := 9) (ls2 := [(0, .ref 0), (1, .int (nI x2)), (2, .int a2)]) (st2 := [.int 1, .int a2]) (w3 := w) rfl rfl ?_
    refine sx_RP.step (pc2 := 11) (ls2 := [(0, .ref 0), (1, .int (nI x2)), (2, .int a2)]) (st2 := [.int 30, .int 1, .int a2]) (w3 := w) rfl rfl ?_
    rcases in_cases a2 1 30 (m := 1) (n := 30) rfl rfl (by decide) (by decide) with q9 | ⟨x10, hx11, hx12, rfl⟩
    · refine sx_RP.cu (as := [.int a2, .int 1, .int 30]) (rest2 := []) (st3 := [.int 0]) rfl rfl rfl rfl rfl (cx_8n q9) rfl ?_
      refine sx_RP.step (pc2 := 17) (ls2 := [(0, .ref 0), (1, .int (nI x2)), (2, .int a2)]) (st2 := []) (w3 := w) rfl rfl ?_
      refine sx_RP.step (pc2 := 18) (ls2 := [(0, .ref 0), (1, .int (nI x2)), (2, .int a2)]) (st2 := [.ref 0]) (w3 := w) rfl rfl ?_
      refine sx_RP.step (pc2 := 20) (ls2 := [(0, .ref 0), (1, .int (nI x2)), (2, .int a2)]) (st2 := [.int (-1000000001), .ref 0]) (w3 := w) rfl rfl ?_
      refine sx_RP.callp (as2 := [.ref 0, .int (-1000000001)]) (rest2 := []) rfl rfl (sx_inv_v2 (mi := 79) (k := 78) (st := [.int (-1000000001), .ref 0]) (w := w) rfl rfl hI.1.o0 rfl rfl rfl) rfl rfl rfl (S9_0 hI) (show _ = 23 from rfl) ?_
      rintro r4 w15 ⟨rfl, hI16, hs14⟩
      show sx_RP _ _ _ _ _ [.int (-1000000001)] _ _
      refine sx_RP.ret (r := (some (.int (-1000000001)))) rfl rfl ?_
      exact ⟨⟨by rw [(blw_2 (l := l) (fun z => z ⟨nI_le (a := 0) (show 0 ≤ x2 by omega) (by omega), nI_le (b := 47) (show x2 ≤ 47 by omega) (by decide)⟩) q9).1], by rw [(blw_2 (l := l) (fun z => z ⟨nI_le (a := 0) (show 0 ≤ x2 by omega) (by omega), nI_le (b := 47) (show x2 ≤ 47 by omega) (by decide)⟩) q9).2]; exact hR.same hI (Or.inl rfl) (fun a h1 h2 => hs14 a (by omega))⟩, hI16, fun a ha => hs14 a (by unfold oc at ha; omega)⟩
    · refine sx_RP.cu (as := [.int (nI x10), .int 1, .int 30]) (rest2 := []) (st3 := [.int 1]) rfl rfl rfl rfl rfl (cx_8p ⟨nI_le (a := 1) hx11 (by omega), nI_le (b := 30) hx12 (by decide)⟩) rfl ?_
      refine sx_RP.step (pc2 := 24) (ls2 := [(0, .ref 0), (1, .int (nI x2)), (2, .int (nI x10))]) (st2 := []) (w3 := w) rfl rfl ?_
      refine sx_RP.step (pc2 := 25) (ls2 := [(0, .ref 0), (1, .int (nI x2)), (2, .int (nI x10))]) (st2 := [.ref 0]) (w3 := w) rfl rfl ?_
      refine sx_RP.gf (v := .ref 1) rfl rfl hI.1.o0 rfl rfl (show _ = 28 from rfl) ?_
      refine sx_RP.step (pc2 := 29) (ls2 := [(0, .ref 0), (1, .int (nI x2)), (2, .int (nI x10))]) (st2 := [.ref 0, .ref 1]) (w3 := w) rfl rfl ?_
      refine sx_RP.gf (v := .ref 1) rfl rfl hI.1.o0 rfl rfl (show _ = 32 from rfl) ?_
      refine sx_RP.step (pc2 := 33) (ls2 := [(0, .ref 0), (1, .int (nI x2)), (2, .int (nI x10))]) (st2 := [.int (nI x2), .ref 1, .ref 1]) (w3 := w) rfl rfl ?_
      refine sx_RP.step (pc2 := 34) (ls2 := [(0, .ref 0), (1, .int (nI x2)), (2, .int (nI x10))]) (st2 := [.int (nI x10), .int (nI x2), .ref 1, .ref 1]) (w3 := w) rfl rfl ?_
      refine sx_RP.callp (as2 := [.ref 1, .int (nI x2), .int (nI x10)]) (rest2 := [.ref 1]) rfl rfl (sx_inv_v2 (mi := 79) (k := 253) (st := [.int (nI x10), .int (nI x2), .ref 1, .ref 1]) (w := w) rfl rfl (hI.1.oC (Or.inl rfl)) rfl rfl rfl) rfl rfl rfl (X77 hI l hR (show x2 < 48 by omega) (show x10 ≤ 30 by omega)) (show _ = 37 from rfl) ?_
      rintro r4 w19 ⟨⟨u17, rfl, hu18⟩, ew⟩
      show sx_RP _ _ _ _ _ [.long u17, .ref 1] _ _
      rw [ew]
      refine sx_RP.callp (as2 := [.ref 1, .long u17]) (rest2 := []) rfl rfl (sx_inv_v2 (mi := 79) (k := 263) (st := [.long u17, .ref 1]) (w := w) rfl rfl (hI.1.oC (Or.inl rfl)) rfl rfl rfl) rfl rfl rfl (X80 hI l hR hn en (B := rcB l x2 x10) hu18) (show _ = 40 from rfl) ?_
      rintro r4 w25 ⟨⟨rfl, m21, hR22, hm23⟩, hI26, ho24⟩
      show sx_RP _ _ _ _ _ [.int (ctP (fun i => rcB l x2 x10 (hdN l i) && (l.getD (103 + 6 * i + 5) 0 == 0)) n)] _ _
      refine sx_RP.ret (r := (some (.int (ctP (fun i => rcB l x2 x10 (hdN l i) && (l.getD (103 + 6 * i + 5) 0 == 0)) n)))) rfl rfl ?_
      refine ⟨⟨by rw [(blw_z (l := l) (fun z => z ⟨nI_le (a := 0) (show 0 ≤ x2 by omega) (by omega), nI_le (b := 47) (show x2 ≤ 47 by omega) (by decide)⟩) (fun z => z ⟨nI_le (a := 1) (show 1 ≤ x10 by omega) (by omega), nI_le (b := 30) (show x10 ≤ 30 by omega) (by decide)⟩)).1, iN_n (show x2 < 2 ^ 31 by omega), iN_n (show x10 < 2 ^ 31 by omega)]; unfold blA; rw [en, iN_n (by omega)], ?_⟩, hI26, ho24.eo⟩
      rw [(blw_z (l := l) (fun z => z ⟨nI_le (a := 0) (show 0 ≤ x2 by omega) (by omega), nI_le (b := 47) (show x2 ≤ 47 by omega) (by decide)⟩) (fun z => z ⟨nI_le (a := 1) (show 1 ≤ x10 by omega) (by omega), nI_le (b := 30) (show x10 ≤ 30 by omega) (by decide)⟩)).2, iN_n (show x2 < 2 ^ 31 by omega), iN_n (show x10 < 2 ^ 31 by omega), ← hm23.fin (fun i hi => ltB_y hi) (fun i hi => rfl) (fun i hi => ltB_y (by rw [en, iN_n (by omega)] at hi; exact hi))]
      exact hR22
set_option maxRecDepth 20000 in
set_option maxHeartbeats 4000000 in
theorem x199 {xs : Option (List Int32)} {d : Nat} {w : List sx_C} (hI : WI w) {c p i : Nat} (hc : c < 48) (hp : p ≤ 30) (hi : i < 48) : sx_RU xs (d + 1) 199 0 (lv_args 0 [.ref 111, .int (nI c), .int (nI p), .int (nI i)]) [] w (some (.int (b01 (rcB (ia w 112) c p i)))) w := by
  have h : sx_RP xs (d + 1) 199 0 (lv_args 0 [.ref 111, .int (nI c), .int (nI p), .int (nI i)]) [] w (fun r9 w2 => r9 = some (.int (b01 (rcB (ia w 112) c p i))) ∧ w2 = w) := by
    obtain ⟨s, hs, es⟩ : inR ((ia w 112).getD (7 + i) 0) 3 := (hI.s (7 + i) (by omega)).2.2.1 (by omega)
    refine sx_RP.step (pc2 := 1) (ls2 := [(0, .ref 111), (1, .int (nI c)), (2, .int (nI p)), (3, .int (nI i))]) (st2 := [.int (nI p)]) (w3 := w) rfl rfl ?_
    refine sx_RP.step (pc2 := 2) (ls2 := [(0, .ref 111), (1, .int (nI c)), (2, .int (nI p)), (3, .int (nI i))]) (st2 := [.int 3, .int (nI p)]) (w3 := w) rfl rfl ?_
    refine sx_RP.step (pc2 := 3) (ls2 := [(0, .ref 111), (1, .int (nI c)), (2, .int (nI p)), (3, .int (nI i))]) (st2 := [.int (nI c), .int 3, .int (nI p)]) (w3 := w) rfl rfl ?_
    refine sx_RP.step (pc2 := 4) (ls2 := [(0, .ref 111), (1, .int (nI c)), (2, .int (nI p)), (3, .int (nI i))]) (st2 := [.int (nI i), .int (nI c), .int 3, .int (nI p)]) (w3 := w) rfl rfl ?_
    refine sx_RP.cu (as := [.int (nI c), .int (nI i)]) (rest2 := [.int 3, .int (nI p)]) (st3 := [.int (apF c i), .int 3, .int (nI p)]) rfl rfl rfl rfl rfl (x200 hI c i) rfl ?_
    refine sx_RP.step (pc2 := 8) (ls2 := [(0, .ref 111), (1, .int (nI c)), (2, .int (nI p)), (3, .int (nI i))]) (st2 := [.int (3 * (apF c i)), .int (nI p)]) (w3 := w) rfl rfl ?_
    refine sx_RP.step (pc2 := 9) (ls2 := [(0, .ref 111), (1, .int (nI c)), (2, .int (nI p)), (3, .int (nI i))]) (st2 := [.int ((nI p) - (3 * (apF c i)))]) (w3 := w) rfl rfl ?_
    refine sx_RP.step (pc2 := 10) (ls2 := [(0, .ref 111), (1, .int (nI c)), (2, .int (nI p)), (3, .int (nI i))]) (st2 := [.ref 111, .int ((nI p) - (3 * (apF c i)))]) (w3 := w) rfl rfl ?_
    refine sx_RP.gf (v := .ref 112) rfl rfl hI.1.o111 rfl rfl (show _ = 13 from rfl) ?_
    refine sx_RP.step (pc2 := 15) (ls2 := [(0, .ref 111), (1, .int (nI c)), (2, .int (nI p)), (3, .int (nI i))]) (st2 := [.int 7, .ref 112, .int ((nI p) - (3 * (apF c i)))]) (w3 := w) rfl rfl ?_
    refine sx_RP.step (pc2 := 16) (ls2 := [(0, .ref 111), (1, .int (nI c)), (2, .int (nI p)), (3, .int (nI i))]) (st2 := [.int (nI i), .int 7, .ref 112, .int ((nI p) - (3 * (apF c i)))]) (w3 := w) rfl rfl ?_
    refine sx_RP.step (pc2 := 17) (ls2 := [(0, .ref 111), (1, .int (nI c)), (2, .int (nI p)), (3, .int (nI i))]) (st2 := [.int (7 + (nI i)), .ref 112, .int ((nI p) - (3 * (apF c i)))]) (w3 := w) rfl rfl ?_
    rw [show (7 + (nI i) : Int32) = nI (7 + i) from nI_add 7 i]
    refine sx_RP.ild (c := (7 + i)) rfl hI.1.a112.1 hI.1.a112.2 (sx_in_nI (show (7 + i) < 172 by omega) (by decide)) (show (nI (7 + i)).toNatClampNeg = (7 + i) from nI_clamp (by omega)) (show _ = 18 from rfl) ?_
    obtain ⟨x1, hx2, ex3⟩ : inR ((ia w 112).getD (7 + i) 0) 3 := (hI.s ((7 + i)) (by omega)).2.2.1 (by omega)
    rw [ex3]
    refine sx_RP.step (pc2 := 19) (ls2 := [(0, .ref 111), (1, .int (nI c)), (2, .int (nI p)), (3, .int (nI i))]) (st2 := [.int 2, .int (nI x1), .int ((nI p) - (3 * (apF c i)))]) (w3 := w) rfl rfl ?_
    refine sx_RP.br (p1 := 26) (l1 := [(0, .ref 111), (1, .int (nI c)), (2, .int (nI p)), (3, .int (nI i))]) (s1 := [.int ((nI p) - (3 * (apF c i)))]) (v1 := w) (p2 := 22) (l2 := [(0, .ref 111), (1, .int (nI c)), (2, .int (nI p)), (3, .int (nI i))]) (s2 := [.int ((nI p) - (3 * (apF c i)))]) (v2 := w) rfl rfl (fun q4 => ?_) (fun q4 => ?_)
    · replace q4 := of_decide_eq_true q4
      replace q4 := mt (nI_eq (a := x1) (b := 2) (by omega) (by omega)).mpr q4
      refine sx_RP.step (pc2 := 27) (ls2 := [(0, .ref 111), (1, .int (nI c)), (2, .int (nI p)), (3, .int (nI i))]) (st2 := [.int 0, .int ((nI p) - (3 * (apF c i)))]) (w3 := w) rfl rfl ?_
      refine sx_RP.br (p1 := 34) (l1 := [(0, .ref 111), (1, .int (nI c)), (2, .int (nI p)), (3, .int (nI i))]) (s1 := []) (v1 := w) (p2 := 30) (l2 := [(0, .ref 111), (1, .int (nI c)), (2, .int (nI p)), (3, .int (nI i))]) (s2 := []) (v2 := w) rfl rfl (fun q5 => ?_) (fun q5 => ?_)
      · replace q5 := of_decide_eq_true q5
        refine sx_RP.step (pc2 := 35) (ls2 := [(0, .ref 111), (1, .int (nI c)), (2, .int (nI p)), (3, .int (nI i))]) (st2 := [.int 0]) (w3 := w) rfl rfl ?_
        refine sx_RP.ret (r := (some (.int 0))) rfl rfl ?_
        -- [('¬ (nI x1) = 2', True, 'q4'), ('((nI p) - (3 * (apF c i))) ≤ 0', True, 'q5')] {('w', '112', '[(7 + i)]'): 'ex3'}
        have er : rcB (ia w 112) c p i = false := by
          unfold rcB
          rw [ex3, if_neg (show ¬ nI x1 = 2 from fun z => q4 ((nI_eq (a := x1) (b := 2) (by omega) (by decide)).mp z))]
          exact decide_eq_false (by first | exact q5 | exact Int32.not_lt.mpr q5)
        exact ⟨by rw [er]; rfl, rfl⟩
      · replace q5 := of_decide_eq_false q5
        refine sx_RP.step (pc2 := 31) (ls2 := [(0, .ref 111), (1, .int (nI c)), (2, .int (nI p)), (3, .int (nI i))]) (st2 := [.int 1]) (w3 := w) rfl rfl ?_
        refine sx_RP.step (pc2 := 35) (ls2 := [(0, .ref 111), (1, .int (nI c)), (2, .int (nI p)), (3, .int (nI i))]) (st2 := [.int 1]) (w3 := w) rfl rfl ?_
        refine sx_RP.ret (r := (some (.int 1))) rfl rfl ?_
        -- [('¬ (nI x1) = 2', True, 'q4'), ('((nI p) - (3 * (apF c i))) ≤ 0', False, 'q5')] {('w', '112', '[(7 + i)]'): 'ex3'}
        have er : rcB (ia w 112) c p i = true := by
          unfold rcB
          rw [ex3, if_neg (show ¬ nI x1 = 2 from fun z => q4 ((nI_eq (a := x1) (b := 2) (by omega) (by decide)).mp z))]
          exact decide_eq_true (by first | exact q5 | exact Int32.not_le.mp q5)
        exact ⟨by rw [er]; rfl, rfl⟩
    · replace q4 := Decidable.not_not.mp (of_decide_eq_false q4)
      replace q4 := (nI_eq (a := x1) (b := 2) (by omega) (by omega)).mp q4
      refine sx_RP.step (pc2 := 23) (ls2 := [(0, .ref 111), (1, .int (nI c)), (2, .int (nI p)), (3, .int (nI i))]) (st2 := [.int 4, .int ((nI p) - (3 * (apF c i)))]) (w3 := w) rfl rfl ?_
      refine sx_RP.step (pc2 := 27) (ls2 := [(0, .ref 111), (1, .int (nI c)), (2, .int (nI p)), (3, .int (nI i))]) (st2 := [.int 4, .int ((nI p) - (3 * (apF c i)))]) (w3 := w) rfl rfl ?_
      refine sx_RP.br (p1 := 34) (l1 := [(0, .ref 111), (1, .int (nI c)), (2, .int (nI p)), (3, .int (nI i))]) (s1 := []) (v1 := w) (p2 := 30) (l2 := [(0, .ref 111), (1, .int (nI c)), (2, .int (nI p)), (3, .int (nI i))]) (s2 := []) (v2 := w) rfl rfl (fun q6 => ?_) (fun q6 => ?_)
      · replace q6 := of_decide_eq_true q6
        refine sx_RP.step (pc2 := 35) (ls2 := [(0, .ref 111), (1, .int (nI c)), (2, .int (nI p)), (3, .int (nI i))]) (st2 := [.int 0]) (w3 := w) rfl rfl ?_
        refine sx_RP.ret (r := (some (.int 0))) rfl rfl ?_
        -- [('¬ (nI x1) = 2', False, 'q4'), ('((nI p) - (3 * (apF c i))) ≤ 4', True, 'q6')] {('w', '112', '[(7 + i)]'): 'ex3'}
        have er : rcB (ia w 112) c p i = false := by
          unfold rcB
          rw [ex3, if_pos (by rw [q4]; rfl)]
          exact decide_eq_false (by first | exact q6 | exact Int32.not_lt.mpr q6)
        exact ⟨by rw [er]; rfl, rfl⟩
      · replace q6 := of_decide_eq_false q6
        refine sx_RP.step (pc2 := 31) (ls2 := [(0, .ref 111), (1, .int (nI c)), (2, .int (nI p)), (3, .int (nI i))]) (st2 := [.int 1]) (w3 := w) rfl rfl ?_
        refine sx_RP.step (pc2 := 35) (ls2 := [(0, .ref 111), (1, .int (nI c)), (2, .int (nI p)), (3, .int (nI i))]) (st2 := [.int 1]) (w3 := w) rfl rfl ?_
        refine sx_RP.ret (r := (some (.int 1))) rfl rfl ?_
        -- [('¬ (nI x1) = 2', False, 'q4'), ('((nI p) - (3 * (apF c i))) ≤ 4', False, 'q6')] {('w', '112', '[(7 + i)]'): 'ex3'}
        have er : rcB (ia w 112) c p i = true := by
          unfold rcB
          rw [ex3, if_pos (by rw [q4]; rfl)]
          exact decide_eq_true (by first | exact q6 | exact Int32.not_le.mp q6)
        exact ⟨by rw [er]; rfl, rfl⟩
  obtain ⟨r9, w2, h1, rfl, rfl⟩ := h
  exact h1
set_option maxRecDepth 20000 in
set_option maxHeartbeats 4000000 in
theorem X201g {xs : Option (List Int32)} {d : Nat} {n c p j : Nat} {l : List Int32} {B : Nat → Bool} {w0 : List sx_C} {P : Option Value → List sx_C → Prop} (hc : c < 48) (hp : p ≤ 30) (hj : j < 48) (hn : n ≤ 10) (en : l.getD 1 0 = nI n) (eB : B j = true) : ∀ (q g : Nat) (w : List sx_C), g + q = n → WI w → BG l B (ltB (j + 1)) (ltB (j + 1)) (znB l j g) (ia w 112) → Same 112 w0 w → (∀ w2, WI w2 → BG l B (ltB (j + 1)) (ltB (j + 1)) (znB l j n) (ia w2 112) → Same 112 w0 w2 → sx_RP xs (d + 7) 201 143 [(0, .ref 111), (1, .int (nI c)), (2, .int (nI p)), (3, .int (ctP (fun i => znB l j n i && (B (hdN l i) && (l.getD (103 + 6 * i + 5) 0 == 0))) n)), (4, .int (nI j))] [] w2 P) → sx_RP xs (d + 7) 201 95 [(0, .ref 111), (1, .int (nI c)), (2, .int (nI p)), (3, .int (ctP (fun i => znB l j g i && (B (hdN l i) && (l.getD (103 + 6 * i + 5) 0 == 0))) n)), (4, .int (nI j)), (5, .int (nI g))] [] w P
  | 0, g, w, hg, hI, hm, hO, kk => by
    obtain rfl : g = n := by omega
    have em : (ia w 112).getD 1 0 = nI g := by rw [hm.2 1 (by omega), blG_o (by omega) (by omega)]; exact en
    refine sx_RP.step (pc2 := 97) (ls2 := [(0, .ref 111), (1, .int (nI c)), (2, .int (nI p)), (3, .int (ctP (fun i => znB l j g i && (B (hdN l i) && (l.getD (103 + 6 * i + 5) 0 == 0))) g)), (4, .int (nI j)), (5, .int (nI g))]) (st2 := [.int (nI g)]) (w3 := w) rfl rfl ?_
    refine sx_RP.step (pc2 := 98) (ls2 := [(0, .ref 111), (1, .int (nI c)), (2, .int (nI p)), (3, .int (ctP (fun i => znB l j g i && (B (hdN l i) && (l.getD (103 + 6 * i + 5) 0 == 0))) g)), (4, .int (nI j)), (5, .int (nI g))]) (st2 := [.ref 111, .int (nI g)]) (w3 := w) rfl rfl ?_
    refine sx_RP.gf (v := .ref 112) rfl rfl hI.1.o111 rfl rfl (show _ = 101 from rfl) ?_
    refine sx_RP.step (pc2 := 102) (ls2 := [(0, .ref 111), (1, .int (nI c)), (2, .int (nI p)), (3, .int (ctP (fun i => znB l j g i && (B (hdN l i) && (l.getD (103 + 6 * i + 5) 0 == 0))) g)), (4, .int (nI j)), (5, .int (nI g))]) (st2 := [.int 1, .ref 112, .int (nI g)]) (w3 := w) rfl rfl ?_
    refine sx_RP.ild (c := 1) rfl hI.1.a112.1 hI.1.a112.2 (sx_in_nI (show 1 < 172 by omega) (by decide)) (show (nI 1).toNatClampNeg = 1 from nI_clamp (by omega)) (show _ = 103 from rfl) ?_
    rw [em]
    refine sx_RP.br (p1 := 143) (l1 := [(0, .ref 111), (1, .int (nI c)), (2, .int (nI p)), (3, .int (ctP (fun i => znB l j g i && (B (hdN l i) && (l.getD (103 + 6 * i + 5) 0 == 0))) g)), (4, .int (nI j)), (5, .int (nI g))]) (s1 := []) (v1 := w) rfl rfl (fun _ => ?_) (fun q => absurd (nI_le (a := g) (b := g) (by omega) (by omega)) (of_decide_eq_false q))
    exact sx_RP.ls (sx_lr.cons rfl (sx_lr.cons rfl (sx_lr.cons rfl (sx_lr.cons rfl (sx_lr.cons rfl sx_lr.nil))))) (kk w hI hm hO)
  | q + 1, g, w, hg, hI, hm, hO, kk => by
    have em : (ia w 112).getD 1 0 = nI n := by rw [hm.2 1 (by omega), blG_o (by omega) (by omega)]; exact en
    obtain ⟨h, hh, eh⟩ : inR ((ia w 112).getD (103 + 6 * g + 2) 0) 47 := (hI.s (103 + 6 * g + 2) (by omega)).2.2.2.2.2.1 (by omega)
    have e2 : hdN l g = h := by unfold hdN; rw [← show (ia w 112).getD (103 + 6 * g + 2) 0 = l.getD (103 + 6 * g + 2) 0 by rw [hm.2 _ (by omega), blG_o (by omega) (by omega)], eh, iN_n (by omega)]
    refine sx_RP.step (pc2 := 97) (ls2 := [(0, .ref 111), (1, .int (nI c)), (2, .int (nI p)), (3, .int (ctP (fun i => znB l j g i && (B (hdN l i) && (l.getD (103 + 6 * i + 5) 0 == 0))) n)), (4, .int (nI j)), (5, .int (nI g))]) (st2 := [.int (nI g)]) (w3 := w) rfl rfl ?_
    refine sx_RP.step (pc2 := 98) (ls2 := [(0, .ref 111), (1, .int (nI c)), (2, .int (nI p)), (3, .int (ctP (fun i => znB l j g i && (B (hdN l i) && (l.getD (103 + 6 * i + 5) 0 == 0))) n)), (4, .int (nI j)), (5, .int (nI g))]) (st2 := [.ref 111, .int (nI g)]) (w3 := w) rfl rfl ?_
    refine sx_RP.gf (v := .ref 112) rfl rfl hI.1.o111 rfl rfl (show _ = 101 from rfl) ?_
    refine sx_RP.step (pc2 := 102) (ls2 := [(0, .ref 111), (1, .int (nI c)), (2, .int (nI p)), (3, .int (ctP (fun i => znB l j g i && (B (hdN l i) && (l.getD (103 + 6 * i + 5) 0 == 0))) n)), (4, .int (nI j)), (5, .int (nI g))]) (st2 := [.int 1, .ref 112, .int (nI g)]) (w3 := w) rfl rfl ?_
    refine sx_RP.ild (c := 1) rfl hI.1.a112.1 hI.1.a112.2 (sx_in_nI (show 1 < 172 by omega) (by decide)) (show (nI 1).toNatClampNeg = 1 from nI_clamp (by omega)) (show _ = 103 from rfl) ?_
    rw [em]
    refine sx_RP.br (p2 := 106) (l2 := [(0, .ref 111), (1, .int (nI c)), (2, .int (nI p)), (3, .int (ctP (fun i => znB l j g i && (B (hdN l i) && (l.getD (103 + 6 * i + 5) 0 == 0))) n)), (4, .int (nI j)), (5, .int (nI g))]) (s2 := []) (v2 := w) rfl rfl (fun q => absurd (of_decide_eq_true q) (fun z => absurd ((nI_leI (a := n) (b := g) (by omega) (by omega)).mp z) (by omega))) (fun _ => ?_)
    refine sx_RP.step (pc2 := 107) (ls2 := [(0, .ref 111), (1, .int (nI c)), (2, .int (nI p)), (3, .int (ctP (fun i => znB l j g i && (B (hdN l i) && (l.getD (103 + 6 * i + 5) 0 == 0))) n)), (4, .int (nI j)), (5, .int (nI g))]) (st2 := [.int (ctP (fun i => znB l j g i && (B (hdN l i) && (l.getD (103 + 6 * i + 5) 0 == 0))) n)]) (w3 := w) rfl rfl ?_
    refine sx_RP.step (pc2 := 108) (ls2 := [(0, .ref 111), (1, .int (nI c)), (2, .int (nI p)), (3, .int (ctP (fun i => znB l j g i && (B (hdN l i) && (l.getD (103 + 6 * i + 5) 0 == 0))) n)), (4, .int (nI j)), (5, .int (nI g))]) (st2 := [.ref 111, .int (ctP (fun i => znB l j g i && (B (hdN l i) && (l.getD (103 + 6 * i + 5) 0 == 0))) n)]) (w3 := w) rfl rfl ?_
    refine sx_RP.step (pc2 := 110) (ls2 := [(0, .ref 111), (1, .int (nI c)), (2, .int (nI p)), (3, .int (ctP (fun i => znB l j g i && (B (hdN l i) && (l.getD (103 + 6 * i + 5) 0 == 0))) n)), (4, .int (nI j)), (5, .int (nI g))]) (st2 := [.int (nI g), .ref 111, .int (ctP (fun i => znB l j g i && (B (hdN l i) && (l.getD (103 + 6 * i + 5) 0 == 0))) n)]) (w3 := w) rfl rfl ?_
    refine sx_RP.step (pc2 := 111) (ls2 := [(0, .ref 111), (1, .int (nI c)), (2, .int (nI p)), (3, .int (ctP (fun i => znB l j g i && (B (hdN l i) && (l.getD (103 + 6 * i + 5) 0 == 0))) n)), (4, .int (nI j)), (5, .int (nI g))]) (st2 := [.int 2, .int (nI g), .ref 111, .int (ctP (fun i => znB l j g i && (B (hdN l i) && (l.getD (103 + 6 * i + 5) 0 == 0))) n)]) (w3 := w) rfl rfl ?_
    refine sx_RP.cu (as := [.ref 111, .int (nI g), .int 2]) (rest2 := [.int (ctP (fun i => znB l j g i && (B (hdN l i) && (l.getD (103 + 6 * i + 5) 0 == 0))) n)]) (st3 := [.int (nI h), .int (ctP (fun i => znB l j g i && (B (hdN l i) && (l.getD (103 + 6 * i + 5) 0 == 0))) n)]) rfl rfl (sx_inv_v2 (mi := 201) (k := 59) (st := [.int 2, .int (nI g), .ref 111, .int (ctP (fun i => znB l j g i && (B (hdN l i) && (l.getD (103 + 6 * i + 5) 0 == 0))) n)]) (w := w) rfl rfl hI.1.o111 rfl rfl rfl) rfl rfl (x138e hI (show g < 10 by omega) (show 2 < 6 by decide) eh) rfl ?_
    refine sx_RP.step (pc2 := 116) (ls2 := [(0, .ref 111), (1, .int (nI c)), (2, .int (nI p)), (3, .int (ctP (fun i => znB l j g i && (B (hdN l i) && (l.getD (103 + 6 * i + 5) 0 == 0))) n)), (4, .int (nI j)), (5, .int (nI g))]) (st2 := [.int (nI j), .int (nI h), .int (ctP (fun i => znB l j g i && (B (hdN l i) && (l.getD (103 + 6 * i + 5) 0 == 0))) n)]) (w3 := w) rfl rfl ?_
    refine sx_RP.br (p1 := 134) (l1 := [(0, .ref 111), (1, .int (nI c)), (2, .int (nI p)), (3, .int (ctP (fun i => znB l j g i && (B (hdN l i) && (l.getD (103 + 6 * i + 5) 0 == 0))) n)), (4, .int (nI j)), (5, .int (nI g))]) (s1 := [.int (ctP (fun i => znB l j g i && (B (hdN l i) && (l.getD (103 + 6 * i + 5) 0 == 0))) n)]) (v1 := w) (p2 := 119) (l2 := [(0, .ref 111), (1, .int (nI c)), (2, .int (nI p)), (3, .int (ctP (fun i => znB l j g i && (B (hdN l i) && (l.getD (103 + 6 * i + 5) 0 == 0))) n)), (4, .int (nI j)), (5, .int (nI g))]) (s2 := [.int (ctP (fun i => znB l j g i && (B (hdN l i) && (l.getD (103 + 6 * i + 5) 0 == 0))) n)]) (v2 := w) rfl rfl (fun q1 => ?_) (fun q1 => ?_)
    · replace q1 := of_decide_eq_true q1
      replace q1 := mt (nI_eq (a := h) (b := j) (by omega) (by omega)).mpr q1
      refine sx_RP.step (pc2 := 135) (ls2 := [(0, .ref 111), (1, .int (nI c)), (2, .int (nI p)), (3, .int (ctP (fun i => znB l j g i && (B (hdN l i) && (l.getD (103 + 6 * i + 5) 0 == 0))) n)), (4, .int (nI j)), (5, .int (nI g))]) (st2 := [.int 0, .int (ctP (fun i => znB l j g i && (B (hdN l i) && (l.getD (103 + 6 * i + 5) 0 == 0))) n)]) (w3 := w) rfl rfl ?_
      refine sx_RP.step (pc2 := 136) (ls2 := [(0, .ref 111), (1, .int (nI c)), (2, .int (nI p)), (3, .int (ctP (fun i => znB l j g i && (B (hdN l i) && (l.getD (103 + 6 * i + 5) 0 == 0))) n)), (4, .int (nI j)), (5, .int (nI g))]) (st2 := [.int ((ctP (fun i => znB l j g i && (B (hdN l i) && (l.getD (103 + 6 * i + 5) 0 == 0))) n) + 0)]) (w3 := w) rfl rfl ?_
      refine sx_RP.step (pc2 := 137) (ls2 := [(3, .int ((ctP (fun i => znB l j g i && (B (hdN l i) && (l.getD (103 + 6 * i + 5) 0 == 0))) n) + 0)), (0, .ref 111), (1, .int (nI c)), (2, .int (nI p)), (4, .int (nI j)), (5, .int (nI g))]) (st2 := []) (w3 := w) rfl rfl ?_
      refine sx_RP.step (pc2 := 140) (ls2 := [(5, .int ((nI g) + 1)), (3, .int ((ctP (fun i => znB l j g i && (B (hdN l i) && (l.getD (103 + 6 * i + 5) 0 == 0))) n) + 0)), (0, .ref 111), (1, .int (nI c)), (2, .int (nI p)), (4, .int (nI j))]) (st2 := []) (w3 := w) rfl rfl ?_
      rw [nI_1 g]
      refine sx_RP.step (pc2 := 95) (ls2 := [(5, .int (nI (g + 1))), (3, .int ((ctP (fun i => znB l j g i && (B (hdN l i) && (l.getD (103 + 6 * i + 5) 0 == 0))) n) + 0)), (0, .ref 111), (1, .int (nI c)), (2, .int (nI p)), (4, .int (nI j))]) (st2 := []) (w3 := w) rfl rfl ?_
      -- [('¬ (nI h) = (nI j)', True, 'q1')]
      have e3 : hdN l g ≠ j := by rw [e2]; exact q1
      have ec : ctP (fun i => znB l j g i && (B (hdN l i) && (l.getD (103 + 6 * i + 5) 0 == 0))) n + 0 = ctP (fun i => znB l j (g + 1) i && (B (hdN l i) && (l.getD (103 + 6 * i + 5) 0 == 0))) n := by rw [Int32.add_zero]; exact ctP_congr n (fun i hi => by show (znB l j g i && _) = (znB l j (g + 1) i && _); rw [znB_q e3])
      rw [ec]
      exact sx_RP.ls (sx_lr.cons rfl (sx_lr.cons rfl (sx_lr.cons rfl (sx_lr.cons rfl (sx_lr.cons rfl (sx_lr.cons rfl sx_lr.nil)))))) (X201g hc hp hj hn en eB q (g + 1) w (by omega) hI (hm.cg (fun i hi => rfl) (fun i hi => rfl) (fun i hi => by rw [znB_q e3])) hO kk)
    · replace q1 := Decidable.not_not.mp (of_decide_eq_false q1)
      replace q1 := (nI_eq (a := h) (b := j) (by omega) (by omega)).mp q1
      refine sx_RP.step (pc2 := 120) (ls2 := [(0, .ref 111), (1, .int (nI c)), (2, .int (nI p)), (3, .int (ctP (fun i => znB l j g i && (B (hdN l i) && (l.getD (103 + 6 * i + 5) 0 == 0))) n)), (4, .int (nI j)), (5, .int (nI g))]) (st2 := [.ref 111, .int (ctP (fun i => znB l j g i && (B (hdN l i) && (l.getD (103 + 6 * i + 5) 0 == 0))) n)]) (w3 := w) rfl rfl ?_
      refine sx_RP.step (pc2 := 122) (ls2 := [(0, .ref 111), (1, .int (nI c)), (2, .int (nI p)), (3, .int (ctP (fun i => znB l j g i && (B (hdN l i) && (l.getD (103 + 6 * i + 5) 0 == 0))) n)), (4, .int (nI j)), (5, .int (nI g))]) (st2 := [.int (nI g), .ref 111, .int (ctP (fun i => znB l j g i && (B (hdN l i) && (l.getD (103 + 6 * i + 5) 0 == 0))) n)]) (w3 := w) rfl rfl ?_
      refine sx_RP.step (pc2 := 123) (ls2 := [(0, .ref 111), (1, .int (nI c)), (2, .int (nI p)), (3, .int (ctP (fun i => znB l j g i && (B (hdN l i) && (l.getD (103 + 6 * i + 5) 0 == 0))) n)), (4, .int (nI j)), (5, .int (nI g))]) (st2 := [.int 5, .int (nI g), .ref 111, .int (ctP (fun i => znB l j g i && (B (hdN l i) && (l.getD (103 + 6 * i + 5) 0 == 0))) n)]) (w3 := w) rfl rfl ?_
      refine sx_RP.step (pc2 := 124) (ls2 := [(0, .ref 111), (1, .int (nI c)), (2, .int (nI p)), (3, .int (ctP (fun i => znB l j g i && (B (hdN l i) && (l.getD (103 + 6 * i + 5) 0 == 0))) n)), (4, .int (nI j)), (5, .int (nI g))]) (st2 := [.int 1, .int 5, .int (nI g), .ref 111, .int (ctP (fun i => znB l j g i && (B (hdN l i) && (l.getD (103 + 6 * i + 5) 0 == 0))) n)]) (w3 := w) rfl rfl ?_
      refine sx_RP.callp (as2 := [.ref 111, .int (nI g), .int 5, .int 1]) (rest2 := [.int (ctP (fun i => znB l j g i && (B (hdN l i) && (l.getD (103 + 6 * i + 5) 0 == 0))) n)]) rfl rfl (sx_inv_v2 (mi := 201) (k := 110) (st := [.int 1, .int 5, .int (nI g), .ref 111, .int (ctP (fun i => znB l j g i && (B (hdN l i) && (l.getD (103 + 6 * i + 5) 0 == 0))) n)]) (w := w) rfl rfl hI.1.o111 rfl rfl rfl) rfl rfl rfl (X154 (c := 5) hI (show g < 10 by omega) (by decide) (eOK_g (g := g) (c := 5) (by omega) (by decide) (show inR 1 1 from ⟨1, by decide, rfl⟩))) (show _ = 127 from rfl) ?_
      rintro r4 w4 ⟨⟨rfl, hv2⟩, hI5, hs3⟩
      show sx_RP _ _ _ _ _ [.int ((ia w 112).getD (103 + 6 * g + 5) 0), .int (ctP (fun i => znB l j g i && (B (hdN l i) && (l.getD (103 + 6 * i + 5) 0 == 0))) n)] _ _
      refine sx_RP.br (p1 := 134) (l1 := [(0, .ref 111), (1, .int (nI c)), (2, .int (nI p)), (3, .int (ctP (fun i => znB l j g i && (B (hdN l i) && (l.getD (103 + 6 * i + 5) 0 == 0))) n)), (4, .int (nI j)), (5, .int (nI g))]) (s1 := [.int (ctP (fun i => znB l j g i && (B (hdN l i) && (l.getD (103 + 6 * i + 5) 0 == 0))) n)]) (v1 := w4) (p2 := 130) (l2 := [(0, .ref 111), (1, .int (nI c)), (2, .int (nI p)), (3, .int (ctP (fun i => znB l j g i && (B (hdN l i) && (l.getD (103 + 6 * i + 5) 0 == 0))) n)), (4, .int (nI j)), (5, .int (nI g))]) (s2 := [.int (ctP (fun i => znB l j g i && (B (hdN l i) && (l.getD (103 + 6 * i + 5) 0 == 0))) n)]) (v2 := w4) rfl rfl (fun q6 => ?_) (fun q6 => ?_)
      · replace q6 := of_decide_eq_true q6
        refine sx_RP.step (pc2 := 135) (ls2 := [(0, .ref 111), (1, .int (nI c)), (2, .int (nI p)), (3, .int (ctP (fun i => znB l j g i && (B (hdN l i) && (l.getD (103 + 6 * i + 5) 0 == 0))) n)), (4, .int (nI j)), (5, .int (nI g))]) (st2 := [.int 0, .int (ctP (fun i => znB l j g i && (B (hdN l i) && (l.getD (103 + 6 * i + 5) 0 == 0))) n)]) (w3 := w4) rfl rfl ?_
        refine sx_RP.step (pc2 := 136) (ls2 := [(0, .ref 111), (1, .int (nI c)), (2, .int (nI p)), (3, .int (ctP (fun i => znB l j g i && (B (hdN l i) && (l.getD (103 + 6 * i + 5) 0 == 0))) n)), (4, .int (nI j)), (5, .int (nI g))]) (st2 := [.int ((ctP (fun i => znB l j g i && (B (hdN l i) && (l.getD (103 + 6 * i + 5) 0 == 0))) n) + 0)]) (w3 := w4) rfl rfl ?_
        refine sx_RP.step (pc2 := 137) (ls2 := [(3, .int ((ctP (fun i => znB l j g i && (B (hdN l i) && (l.getD (103 + 6 * i + 5) 0 == 0))) n) + 0)), (0, .ref 111), (1, .int (nI c)), (2, .int (nI p)), (4, .int (nI j)), (5, .int (nI g))]) (st2 := []) (w3 := w4) rfl rfl ?_
        refine sx_RP.step (pc2 := 140) (ls2 := [(5, .int ((nI g) + 1)), (3, .int ((ctP (fun i => znB l j g i && (B (hdN l i) && (l.getD (103 + 6 * i + 5) 0 == 0))) n) + 0)), (0, .ref 111), (1, .int (nI c)), (2, .int (nI p)), (4, .int (nI j))]) (st2 := []) (w3 := w4) rfl rfl ?_
        rw [nI_1 g]
        refine sx_RP.step (pc2 := 95) (ls2 := [(5, .int (nI (g + 1))), (3, .int ((ctP (fun i => znB l j g i && (B (hdN l i) && (l.getD (103 + 6 * i + 5) 0 == 0))) n) + 0)), (0, .ref 111), (1, .int (nI c)), (2, .int (nI p)), (4, .int (nI j))]) (st2 := []) (w3 := w4) rfl rfl ?_
        -- [('¬ (nI h) = (nI j)', False, 'q1'), ('¬ ((ia w 112).getD (103 + 6 * g + 5) 0) = 0', True, 'q6')]
        have e3 : hdN l g = j := by rw [e2]; exact q1
        have e5 : (ia w 112).getD (103 + 6 * g + 5) 0 = l.getD (103 + 6 * g + 5) 0 := by rw [hm.2 _ (by omega), blG_ls (by omega), znB_f e3, Bool.false_and, if_neg (fun z => absurd z.2 (by decide))]
        have ef : (znB l j (g + 1) g && (B (hdN l g) && (l.getD (103 + 6 * g + 5) 0 == 0))) = false := by rw [znB_y e3, e3, eB, ← e5, show ((ia w 112).getD (103 + 6 * g + 5) 0 == 0) = false from beq_eq_false_iff_ne.mpr q6]; rfl
        have ec : ctP (fun i => znB l j g i && (B (hdN l i) && (l.getD (103 + 6 * i + 5) 0 == 0))) n + 0 = ctP (fun i => znB l j (g + 1) i && (B (hdN l i) && (l.getD (103 + 6 * i + 5) 0 == 0))) n := by rw [ctP_one (f := (fun i => znB l j g i && (B (hdN l i) && (l.getD (103 + 6 * i + 5) 0 == 0)))) (g := (fun i => znB l j (g + 1) i && (B (hdN l i) && (l.getD (103 + 6 * i + 5) 0 == 0)))) (j := g) (by show (znB l j g g && _) = false; rw [znB_f e3, Bool.false_and]) (fun i hi => by show (znB l j (g + 1) i && _) = (znB l j g i && _); rw [znB_s hi]) n (by omega), ef, if_neg (by decide)]
        rw [ec]
        refine sx_RP.ls (sx_lr.cons rfl (sx_lr.cons rfl (sx_lr.cons rfl (sx_lr.cons rfl (sx_lr.cons rfl (sx_lr.cons rfl sx_lr.nil)))))) (X201g hc hp hj hn en eB q (g + 1) w4 (by omega) hI5 ?_ (hO.tr hs3) kk)
        rw [hv2]
        exact hm.set (by omega) (by rw [blG_ls (by omega), znB_y e3, e3, eB, if_pos ⟨by rw [en, iN_n (by omega)]; omega, rfl⟩]) (fun i hi h => rfl) (fun i hi h => rfl) (fun i hi h => by rw [znB_s (by omega)])
      · replace q6 := Decidable.not_not.mp (of_decide_eq_false q6)
        refine sx_RP.step (pc2 := 131) (ls2 := [(0, .ref 111), (1, .int (nI c)), (2, .int (nI p)), (3, .int (ctP (fun i => znB l j g i && (B (hdN l i) && (l.getD (103 + 6 * i + 5) 0 == 0))) n)), (4, .int (nI j)), (5, .int (nI g))]) (st2 := [.int 1, .int (ctP (fun i => znB l j g i && (B (hdN l i) && (l.getD (103 + 6 * i + 5) 0 == 0))) n)]) (w3 := w4) rfl rfl ?_
        refine sx_RP.step (pc2 := 135) (ls2 := [(0, .ref 111), (1, .int (nI c)), (2, .int (nI p)), (3, .int (ctP (fun i => znB l j g i && (B (hdN l i) && (l.getD (103 + 6 * i + 5) 0 == 0))) n)), (4, .int (nI j)), (5, .int (nI g))]) (st2 := [.int 1, .int (ctP (fun i => znB l j g i && (B (hdN l i) && (l.getD (103 + 6 * i + 5) 0 == 0))) n)]) (w3 := w4) rfl rfl ?_
        refine sx_RP.step (pc2 := 136) (ls2 := [(0, .ref 111), (1, .int (nI c)), (2, .int (nI p)), (3, .int (ctP (fun i => znB l j g i && (B (hdN l i) && (l.getD (103 + 6 * i + 5) 0 == 0))) n)), (4, .int (nI j)), (5, .int (nI g))]) (st2 := [.int ((ctP (fun i => znB l j g i && (B (hdN l i) && (l.getD (103 + 6 * i + 5) 0 == 0))) n) + 1)]) (w3 := w4) rfl rfl ?_
        refine sx_RP.step (pc2 := 137) (ls2 := [(3, .int ((ctP (fun i => znB l j g i && (B (hdN l i) && (l.getD (103 + 6 * i + 5) 0 == 0))) n) + 1)), (0, .ref 111), (1, .int (nI c)), (2, .int (nI p)), (4, .int (nI j)), (5, .int (nI g))]) (st2 := []) (w3 := w4) rfl rfl ?_
        refine sx_RP.step (pc2 := 140) (ls2 := [(5, .int ((nI g) + 1)), (3, .int ((ctP (fun i => znB l j g i && (B (hdN l i) && (l.getD (103 + 6 * i + 5) 0 == 0))) n) + 1)), (0, .ref 111), (1, .int (nI c)), (2, .int (nI p)), (4, .int (nI j))]) (st2 := []) (w3 := w4) rfl rfl ?_
        rw [nI_1 g]
        refine sx_RP.step (pc2 := 95) (ls2 := [(5, .int (nI (g + 1))), (3, .int ((ctP (fun i => znB l j g i && (B (hdN l i) && (l.getD (103 + 6 * i + 5) 0 == 0))) n) + 1)), (0, .ref 111), (1, .int (nI c)), (2, .int (nI p)), (4, .int (nI j))]) (st2 := []) (w3 := w4) rfl rfl ?_
        -- [('¬ (nI h) = (nI j)', False, 'q1'), ('¬ ((ia w 112).getD (103 + 6 * g + 5) 0) = 0', False, 'q6')]
        have e3 : hdN l g = j := by rw [e2]; exact q1
        have e5 : (ia w 112).getD (103 + 6 * g + 5) 0 = l.getD (103 + 6 * g + 5) 0 := by rw [hm.2 _ (by omega), blG_ls (by omega), znB_f e3, Bool.false_and, if_neg (fun z => absurd z.2 (by decide))]
        have ef : (znB l j (g + 1) g && (B (hdN l g) && (l.getD (103 + 6 * g + 5) 0 == 0))) = true := by rw [znB_y e3, e3, eB, ← e5, q6]; rfl
        have ec : ctP (fun i => znB l j g i && (B (hdN l i) && (l.getD (103 + 6 * i + 5) 0 == 0))) n + 1 = ctP (fun i => znB l j (g + 1) i && (B (hdN l i) && (l.getD (103 + 6 * i + 5) 0 == 0))) n := by rw [ctP_one (f := (fun i => znB l j g i && (B (hdN l i) && (l.getD (103 + 6 * i + 5) 0 == 0)))) (g := (fun i => znB l j (g + 1) i && (B (hdN l i) && (l.getD (103 + 6 * i + 5) 0 == 0)))) (j := g) (by show (znB l j g g && _) = false; rw [znB_f e3, Bool.false_and]) (fun i hi => by show (znB l j (g + 1) i && _) = (znB l j g i && _); rw [znB_s hi]) n (by omega), ef, if_pos rfl]
        rw [ec]
        refine sx_RP.ls (sx_lr.cons rfl (sx_lr.cons rfl (sx_lr.cons rfl (sx_lr.cons rfl (sx_lr.cons rfl (sx_lr.cons rfl sx_lr.nil)))))) (X201g hc hp hj hn en eB q (g + 1) w4 (by omega) hI5 ?_ (hO.tr hs3) kk)
        rw [hv2]
        exact hm.set (by omega) (by rw [blG_ls (by omega), znB_y e3, e3, eB, if_pos ⟨by rw [en, iN_n (by omega)]; omega, rfl⟩]) (fun i hi h => rfl) (fun i hi h => rfl) (fun i hi h => by rw [znB_s (by omega)])
set_option maxRecDepth 20000 in
set_option maxHeartbeats 4000000 in
theorem X201L {xs : Option (List Int32)} {d : Nat} {n c p : Nat} {l : List Int32} {w0 : List sx_C} (hc : c < 48) (hp : p ≤ 30) (hn : n ≤ 10) (en : l.getD 1 0 = nI n) : ∀ (q j : Nat) (w : List sx_C), j + q = 48 → WI w → BG l (rcB l c p) (ltB j) (ltB j) (znB l j 0) (ia w 112) → Same 112 w0 w → sx_RP xs (d + 7) 201 25 [(0, .ref 111), (1, .int (nI c)), (2, .int (nI p)), (3, .int (ctP (fun i => znB l j 0 i && (rcB l c p (hdN l i) && (l.getD (103 + 6 * i + 5) 0 == 0))) n)), (4, .int (nI j))] [] w (fun r w2 => (r = some (.int (ctP (fun i => znB l 48 0 i && (rcB l c p (hdN l i) && (l.getD (103 + 6 * i + 5) 0 == 0))) n)) ∧ BG l (rcB l c p) (ltB 48) (ltB 48) (znB l 48 0) (ia w2 112)) ∧ WI w2 ∧ Same 112 w0 w2)
  | 0, j, w, hj, hI, hm, hO => by
    obtain rfl : j = 48 := by omega
    refine sx_RP.step (pc2 := 27) (ls2 := [(0, .ref 111), (1, .int (nI c)), (2, .int (nI p)), (3, .int (ctP (fun i => znB l 48 0 i && (rcB l c p (hdN l i) && (l.getD (103 + 6 * i + 5) 0 == 0))) n)), (4, .int 48)]) (st2 := [.int 48]) (w3 := w) rfl rfl ?_
    refine sx_RP.step (pc2 := 29) (ls2 := [(0, .ref 111), (1, .int (nI c)), (2, .int (nI p)), (3, .int (ctP (fun i => znB l 48 0 i && (rcB l c p (hdN l i) && (l.getD (103 + 6 * i + 5) 0 == 0))) n)), (4, .int 48)]) (st2 := [.int 48, .int 48]) (w3 := w) rfl rfl ?_
    refine sx_RP.step (pc2 := 149) (ls2 := [(0, .ref 111), (1, .int (nI c)), (2, .int (nI p)), (3, .int (ctP (fun i => znB l 48 0 i && (rcB l c p (hdN l i) && (l.getD (103 + 6 * i + 5) 0 == 0))) n)), (4, .int 48)]) (st2 := []) (w3 := w) rfl rfl ?_
    refine sx_RP.step (pc2 := 150) (ls2 := [(0, .ref 111), (1, .int (nI c)), (2, .int (nI p)), (3, .int (ctP (fun i => znB l 48 0 i && (rcB l c p (hdN l i) && (l.getD (103 + 6 * i + 5) 0 == 0))) n)), (4, .int 48)]) (st2 := [.int (ctP (fun i => znB l 48 0 i && (rcB l c p (hdN l i) && (l.getD (103 + 6 * i + 5) 0 == 0))) n)]) (w3 := w) rfl rfl ?_
    refine sx_RP.ret (r := (some (.int (ctP (fun i => znB l 48 0 i && (rcB l c p (hdN l i) && (l.getD (103 + 6 * i + 5) 0 == 0))) n)))) rfl rfl ?_
    exact ⟨⟨rfl, hm⟩, hI, hO⟩
  | q + 1, j, w, hj, hI, hm, hO => by
    have ej : (ia w 112).getD (7 + j) 0 = l.getD (7 + j) 0 := by rw [hm.2 _ (by omega), blG_st (by omega), ltB_n (by omega), Bool.false_and, if_neg (fun z => absurd z.1 (by decide))]
    refine sx_RP.step (pc2 := 27) (ls2 := [(0, .ref 111), (1, .int (nI c)), (2, .int (nI p)), (3, .int (ctP (fun i => znB l j 0 i && (rcB l c p (hdN l i) && (l.getD (103 + 6 * i + 5) 0 == 0))) n)), (4, .int (nI j))]) (st2 := [.int (nI j)]) (w3 := w) rfl rfl ?_
    refine sx_RP.step (pc2 := 29) (ls2 := [(0, .ref 111), (1, .int (nI c)), (2, .int (nI p)), (3, .int (ctP (fun i => znB l j 0 i && (rcB l c p (hdN l i) && (l.getD (103 + 6 * i + 5) 0 == 0))) n)), (4, .int (nI j))]) (st2 := [.int 48, .int (nI j)]) (w3 := w) rfl rfl ?_
    refine sx_RP.br (p2 := 32) (l2 := [(0, .ref 111), (1, .int (nI c)), (2, .int (nI p)), (3, .int (ctP (fun i => znB l j 0 i && (rcB l c p (hdN l i) && (l.getD (103 + 6 * i + 5) 0 == 0))) n)), (4, .int (nI j))]) (s2 := []) (v2 := w) rfl rfl (fun q => absurd (of_decide_eq_true q) (fun z => absurd ((nI_leI (a := 48) (b := j) (by omega) (by omega)).mp z) (by omega))) (fun _ => ?_)
    refine sx_RP.step (pc2 := 33) (ls2 := [(0, .ref 111), (1, .int (nI c)), (2, .int (nI p)), (3, .int (ctP (fun i => znB l j 0 i && (rcB l c p (hdN l i) && (l.getD (103 + 6 * i + 5) 0 == 0))) n)), (4, .int (nI j))]) (st2 := [.ref 111]) (w3 := w) rfl rfl ?_
    refine sx_RP.step (pc2 := 34) (ls2 := [(0, .ref 111), (1, .int (nI c)), (2, .int (nI p)), (3, .int (ctP (fun i => znB l j 0 i && (rcB l c p (hdN l i) && (l.getD (103 + 6 * i + 5) 0 == 0))) n)), (4, .int (nI j))]) (st2 := [.int (nI c), .ref 111]) (w3 := w) rfl rfl ?_
    refine sx_RP.step (pc2 := 35) (ls2 := [(0, .ref 111), (1, .int (nI c)), (2, .int (nI p)), (3, .int (ctP (fun i => znB l j 0 i && (rcB l c p (hdN l i) && (l.getD (103 + 6 * i + 5) 0 == 0))) n)), (4, .int (nI j))]) (st2 := [.int (nI p), .int (nI c), .ref 111]) (w3 := w) rfl rfl ?_
    refine sx_RP.step (pc2 := 37) (ls2 := [(0, .ref 111), (1, .int (nI c)), (2, .int (nI p)), (3, .int (ctP (fun i => znB l j 0 i && (rcB l c p (hdN l i) && (l.getD (103 + 6 * i + 5) 0 == 0))) n)), (4, .int (nI j))]) (st2 := [.int (nI j), .int (nI p), .int (nI c), .ref 111]) (w3 := w) rfl rfl ?_
    rcases Bool.eq_false_or_eq_true (rcB l c p j) with hB | hB
    · refine sx_RP.cu (as := [.ref 111, .int (nI c), .int (nI p), .int (nI j)]) (rest2 := []) (st3 := [.int 1]) rfl rfl (sx_inv_v2 (mi := 201) (k := 192) (st := [.int (nI j), .int (nI p), .int (nI c), .ref 111]) (w := w) rfl rfl hI.1.o111 rfl rfl rfl) rfl rfl ((by have z := x199 (xs := xs) (d := d + 5) hI hc hp (show j < 48 by omega); rw [rcB_congr ej, hB] at z; exact z)) rfl ?_
      refine sx_RP.step (pc2 := 43) (ls2 := [(0, .ref 111), (1, .int (nI c)), (2, .int (nI p)), (3, .int (ctP (fun i => znB l j 0 i && (rcB l c p (hdN l i) && (l.getD (103 + 6 * i + 5) 0 == 0))) n)), (4, .int (nI j))]) (st2 := []) (w3 := w) rfl rfl ?_
      refine sx_RP.step (pc2 := 44) (ls2 := [(0, .ref 111), (1, .int (nI c)), (2, .int (nI p)), (3, .int (ctP (fun i => znB l j 0 i && (rcB l c p (hdN l i) && (l.getD (103 + 6 * i + 5) 0 == 0))) n)), (4, .int (nI j))]) (st2 := [.ref 111]) (w3 := w) rfl rfl ?_
      refine sx_RP.gf (v := .ref 112) rfl rfl hI.1.o111 rfl rfl (show _ = 47 from rfl) ?_
      refine sx_RP.step (pc2 := 49) (ls2 := [(0, .ref 111), (1, .int (nI c)), (2, .int (nI p)), (3, .int (ctP (fun i => znB l j 0 i && (rcB l c p (hdN l i) && (l.getD (103 + 6 * i + 5) 0 == 0))) n)), (4, .int (nI j))]) (st2 := [.int 55, .ref 112]) (w3 := w) rfl rfl ?_
      refine sx_RP.step (pc2 := 51) (ls2 := [(0, .ref 111), (1, .int (nI c)), (2, .int (nI p)), (3, .int (ctP (fun i => znB l j 0 i && (rcB l c p (hdN l i) && (l.getD (103 + 6 * i + 5) 0 == 0))) n)), (4, .int (nI j))]) (st2 := [.int (nI j), .int 55, .ref 112]) (w3 := w) rfl rfl ?_
      refine sx_RP.step (pc2 := 52) (ls2 := [(0, .ref 111), (1, .int (nI c)), (2, .int (nI p)), (3, .int (ctP (fun i => znB l j 0 i && (rcB l c p (hdN l i) && (l.getD (103 + 6 * i + 5) 0 == 0))) n)), (4, .int (nI j))]) (st2 := [.int (55 + (nI j)), .ref 112]) (w3 := w) rfl rfl ?_
      rw [show (55 + (nI j) : Int32) = nI (55 + j) from nI_add 55 j]
      refine sx_RP.step (pc2 := 53) (ls2 := [(0, .ref 111), (1, .int (nI c)), (2, .int (nI p)), (3, .int (ctP (fun i => znB l j 0 i && (rcB l c p (hdN l i) && (l.getD (103 + 6 * i + 5) 0 == 0))) n)), (4, .int (nI j))]) (st2 := [.int 0, .int (nI (55 + j)), .ref 112]) (w3 := w) rfl rfl ?_
      refine sx_RP.xM (k := (55 + j)) hI (by decide) rfl (by omega) (eOK_n (by omega)) (show _ = 54 from rfl) (fun w1 hI2 hs3 hv4 => ?_)
      refine sx_RP.step (pc2 := 55) (ls2 := [(0, .ref 111), (1, .int (nI c)), (2, .int (nI p)), (3, .int (ctP (fun i => znB l j 0 i && (rcB l c p (hdN l i) && (l.getD (103 + 6 * i + 5) 0 == 0))) n)), (4, .int (nI j))]) (st2 := [.ref 111]) (w3 := w1) rfl rfl ?_
      refine sx_RP.gf (v := .ref 112) rfl rfl hI2.1.o111 rfl rfl (show _ = 58 from rfl) ?_
      refine sx_RP.step (pc2 := 60) (ls2 := [(0, .ref 111), (1, .int (nI c)), (2, .int (nI p)), (3, .int (ctP (fun i => znB l j 0 i && (rcB l c p (hdN l i) && (l.getD (103 + 6 * i + 5) 0 == 0))) n)), (4, .int (nI j))]) (st2 := [.int 7, .ref 112]) (w3 := w1) rfl rfl ?_
      refine sx_RP.step (pc2 := 62) (ls2 := [(0, .ref 111), (1, .int (nI c)), (2, .int (nI p)), (3, .int (ctP (fun i => znB l j 0 i && (rcB l c p (hdN l i) && (l.getD (103 + 6 * i + 5) 0 == 0))) n)), (4, .int (nI j))]) (st2 := [.int (nI j), .int 7, .ref 112]) (w3 := w1) rfl rfl ?_
      refine sx_RP.step (pc2 := 63) (ls2 := [(0, .ref 111), (1, .int (nI c)), (2, .int (nI p)), (3, .int (ctP (fun i => znB l j 0 i && (rcB l c p (hdN l i) && (l.getD (103 + 6 * i + 5) 0 == 0))) n)), (4, .int (nI j))]) (st2 := [.int (7 + (nI j)), .ref 112]) (w3 := w1) rfl rfl ?_
      rw [show (7 + (nI j) : Int32) = nI (7 + j) from nI_add 7 j]
      refine sx_RP.step (pc2 := 64) (ls2 := [(0, .ref 111), (1, .int (nI c)), (2, .int (nI p)), (3, .int (ctP (fun i => znB l j 0 i && (rcB l c p (hdN l i) && (l.getD (103 + 6 * i + 5) 0 == 0))) n)), (4, .int (nI j))]) (st2 := [.ref 111, .int (nI (7 + j)), .ref 112]) (w3 := w1) rfl rfl ?_
      refine sx_RP.gf (v := .ref 112) rfl rfl hI2.1.o111 rfl rfl (show _ = 67 from rfl) ?_
      refine sx_RP.step (pc2 := 69) (ls2 := [(0, .ref 111), (1, .int (nI c)), (2, .int (nI p)), (3, .int (ctP (fun i => znB l j 0 i && (rcB l c p (hdN l i) && (l.getD (103 + 6 * i + 5) 0 == 0))) n)), (4, .int (nI j))]) (st2 := [.int 7, .ref 112, .int (nI (7 + j)), .ref 112]) (w3 := w1) rfl rfl ?_
      refine sx_RP.step (pc2 := 71) (ls2 := [(0, .ref 111), (1, .int (nI c)), (2, .int (nI p)), (3, .int (ctP (fun i => znB l j 0 i && (rcB l c p (hdN l i) && (l.getD (103 + 6 * i + 5) 0 == 0))) n)), (4, .int (nI j))]) (st2 := [.int (nI j), .int 7, .ref 112, .int (nI (7 + j)), .ref 112]) (w3 := w1) rfl rfl ?_
      refine sx_RP.step (pc2 := 72) (ls2 := [(0, .ref 111), (1, .int (nI c)), (2, .int (nI p)), (3, .int (ctP (fun i => znB l j 0 i && (rcB l c p (hdN l i) && (l.getD (103 + 6 * i + 5) 0 == 0))) n)), (4, .int (nI j))]) (st2 := [.int (7 + (nI j)), .ref 112, .int (nI (7 + j)), .ref 112]) (w3 := w1) rfl rfl ?_
      rw [show (7 + (nI j) : Int32) = nI (7 + j) from nI_add 7 j]
      refine sx_RP.ild (c := (7 + j)) rfl hI2.1.a112.1 hI2.1.a112.2 (sx_in_nI (show (7 + j) < 172 by omega) (by decide)) (show (nI (7 + j)).toNatClampNeg = (7 + j) from nI_clamp (by omega)) (show _ = 73 from rfl) ?_
      obtain ⟨x5, hx6, ex7⟩ : inR ((ia w1 112).getD (7 + j) 0) 3 := (hI2.s ((7 + j)) (by omega)).2.2.1 (by omega)
      rw [ex7]
      refine sx_RP.step (pc2 := 74) (ls2 := [(0, .ref 111), (1, .int (nI c)), (2, .int (nI p)), (3, .int (ctP (fun i => znB l j 0 i && (rcB l c p (hdN l i) && (l.getD (103 + 6 * i + 5) 0 == 0))) n)), (4, .int (nI j))]) (st2 := [.int 2, .int (nI x5), .int (nI (7 + j)), .ref 112]) (w3 := w1) rfl rfl ?_
      refine sx_RP.br (p1 := 81) (l1 := [(0, .ref 111), (1, .int (nI c)), (2, .int (nI p)), (3, .int (ctP (fun i => znB l j 0 i && (rcB l c p (hdN l i) && (l.getD (103 + 6 * i + 5) 0 == 0))) n)), (4, .int (nI j))]) (s1 := [.int (nI (7 + j)), .ref 112]) (v1 := w1) (p2 := 77) (l2 := [(0, .ref 111), (1, .int (nI c)), (2, .int (nI p)), (3, .int (ctP (fun i => znB l j 0 i && (rcB l c p (hdN l i) && (l.getD (103 + 6 * i + 5) 0 == 0))) n)), (4, .int (nI j))]) (s2 := [.int (nI (7 + j)), .ref 112]) (v2 := w1) rfl rfl (fun q8 => ?_) (fun q8 => ?_)
      · replace q8 := of_decide_eq_true q8
        replace q8 := mt (nI_eq (a := x5) (b := 2) (by omega) (by omega)).mpr q8
        refine sx_RP.step (pc2 := 82) (ls2 := [(0, .ref 111), (1, .int (nI c)), (2, .int (nI p)), (3, .int (ctP (fun i => znB l j 0 i && (rcB l c p (hdN l i) && (l.getD (103 + 6 * i + 5) 0 == 0))) n)), (4, .int (nI j))]) (st2 := [.ref 111, .int (nI (7 + j)), .ref 112]) (w3 := w1) rfl rfl ?_
        refine sx_RP.gf (v := .ref 112) rfl rfl hI2.1.o111 rfl rfl (show _ = 85 from rfl) ?_
        refine sx_RP.step (pc2 := 87) (ls2 := [(0, .ref 111), (1, .int (nI c)), (2, .int (nI p)), (3, .int (ctP (fun i => znB l j 0 i && (rcB l c p (hdN l i) && (l.getD (103 + 6 * i + 5) 0 == 0))) n)), (4, .int (nI j))]) (st2 := [.int 7, .ref 112, .int (nI (7 + j)), .ref 112]) (w3 := w1) rfl rfl ?_
        refine sx_RP.step (pc2 := 89) (ls2 := [(0, .ref 111), (1, .int (nI c)), (2, .int (nI p)), (3, .int (ctP (fun i => znB l j 0 i && (rcB l c p (hdN l i) && (l.getD (103 + 6 * i + 5) 0 == 0))) n)), (4, .int (nI j))]) (st2 := [.int (nI j), .int 7, .ref 112, .int (nI (7 + j)), .ref 112]) (w3 := w1) rfl rfl ?_
        refine sx_RP.step (pc2 := 90) (ls2 := [(0, .ref 111), (1, .int (nI c)), (2, .int (nI p)), (3, .int (ctP (fun i => znB l j 0 i && (rcB l c p (hdN l i) && (l.getD (103 + 6 * i + 5) 0 == 0))) n)), (4, .int (nI j))]) (st2 := [.int (7 + (nI j)), .ref 112, .int (nI (7 + j)), .ref 112]) (w3 := w1) rfl rfl ?_
        rw [show (7 + (nI j) : Int32) = nI (7 + j) from nI_add 7 j]
        refine sx_RP.ild (c := (7 + j)) rfl hI2.1.a112.1 hI2.1.a112.2 (sx_in_nI (show (7 + j) < 172 by omega) (by decide)) (show (nI (7 + j)).toNatClampNeg = (7 + j) from nI_clamp (by omega)) (show _ = 91 from rfl) ?_
        rw [ex7]
        refine sx_RP.xM (k := (7 + j)) hI2 (by decide) rfl (by omega) (eOK_st (by omega) (inR.n (show x5 ≤ 3 by omega))) (show _ = 92 from rfl) (fun w9 hI10 hs11 hv12 => ?_)
        refine sx_RP.step (pc2 := 93) (ls2 := [(0, .ref 111), (1, .int (nI c)), (2, .int (nI p)), (3, .int (ctP (fun i => znB l j 0 i && (rcB l c p (hdN l i) && (l.getD (103 + 6 * i + 5) 0 == 0))) n)), (4, .int (nI j))]) (st2 := [.int 0]) (w3 := w9) rfl rfl ?_
        refine sx_RP.step (pc2 := 95) (ls2 := [(5, .int 0), (0, .ref 111), (1, .int (nI c)), (2, .int (nI p)), (3, .int (ctP (fun i => znB l j 0 i && (rcB l c p (hdN l i) && (l.getD (103 + 6 * i + 5) 0 == 0))) n)), (4, .int (nI j))]) (st2 := []) (w3 := w9) rfl rfl ?_
        -- [('¬ (nI x5) = 2', True, 'q8')] [('M', '(55 + j)', <symgen.V object at 0x7f4b69068a80>, 'hs3', 'hv4', 'w', 'w1'), ('M', '(7 + j)', <symgen.V object at 0x7f4b69089700>, 'hs11', 'hv12', 'w1', 'w9')]
        have hm1 : BG l (rcB l c p) (ltB j) (ltB (j + 1)) (znB l j 0) (ia w1 112) := by rw [hv4]; exact hm.set (by omega) (by rw [blG_wl (by omega), ltB_y (by omega), hB]; rfl) (fun i hi h => rfl) (fun i hi h => by rw [ltB_ne (by omega)]) (fun i hi h => rfl)
        -- value nI x5
        have e7 : (ia w1 112).getD (7 + j) 0 = l.getD (7 + j) 0 := by rw [hm1.2 _ (by omega), blG_st (by omega), ltB_n (by omega), Bool.false_and, if_neg (fun z => absurd z.1 (by decide))]
        have hm2 : BG l (rcB l c p) (ltB (j + 1)) (ltB (j + 1)) (znB l j 0) (ia w9 112) := by
          rw [hv12]
          refine hm1.set (by omega) ?_ (fun i hi h => by rw [ltB_ne (by omega)]) (fun i hi h => rfl) (fun i hi h => rfl)
          rw [blG_st (by omega), ltB_y (by omega), hB]
          have e8 : l.getD (7 + j) 0 = nI x5 := e7.symm.trans ex7
          rw [if_neg (fun z => q8 ((nI_eq (a := x5) (b := 2) (by omega) (by decide)).mp (e8.symm.trans z.2))), e8]
        refine sx_RP.ls (sx_lr.cons rfl (sx_lr.cons rfl (sx_lr.cons rfl (sx_lr.cons rfl (sx_lr.cons rfl (sx_lr.cons rfl sx_lr.nil)))))) (X201g (B := rcB l c p) (w0 := w0) hc hp (show j < 48 by omega) hn en hB n 0 w9 (by omega) hI10 hm2 ((hO.tr hs3).tr hs11) (fun w3 hI3 hm3 hO3 => ?_))
        refine sx_RP.step (pc2 := 146) (ls2 := [(4, .int ((nI j) + 1)), (0, .ref 111), (1, .int (nI c)), (2, .int (nI p)), (3, .int (ctP (fun i => znB l j n i && (rcB l c p (hdN l i) && (l.getD (103 + 6 * i + 5) 0 == 0))) n))]) (st2 := []) (w3 := w3) rfl rfl ?_
        rw [nI_1 j]
        refine sx_RP.step (pc2 := 25) (ls2 := [(4, .int (nI (j + 1))), (0, .ref 111), (1, .int (nI c)), (2, .int (nI p)), (3, .int (ctP (fun i => znB l j n i && (rcB l c p (hdN l i) && (l.getD (103 + 6 * i + 5) 0 == 0))) n))]) (st2 := []) (w3 := w3) rfl rfl ?_
        have ec : ctP (fun i => znB l j n i && (rcB l c p (hdN l i) && (l.getD (103 + 6 * i + 5) 0 == 0))) n = ctP (fun i => znB l (j + 1) 0 i && (rcB l c p (hdN l i) && (l.getD (103 + 6 * i + 5) 0 == 0))) n := ctP_congr n (fun i hi => by show (znB l j n i && _) = (znB l (j + 1) 0 i && _); rw [znB_0, znB_n hi])
        rw [ec]
        exact sx_RP.ls (sx_lr.cons rfl (sx_lr.cons rfl (sx_lr.cons rfl (sx_lr.cons rfl (sx_lr.cons rfl sx_lr.nil))))) (X201L hc hp hn en q (j + 1) w3 (by omega) hI3 (hm3.cg (fun i hi => rfl) (fun i hi => rfl) (fun i hi => by rw [znB_0, znB_n (by rw [en, iN_n (by omega)] at hi; exact hi)])) hO3)
      · replace q8 := Decidable.not_not.mp (of_decide_eq_false q8)
        replace q8 := (nI_eq (a := x5) (b := 2) (by omega) (by omega)).mp q8
        refine sx_RP.step (pc2 := 78) (ls2 := [(0, .ref 111), (1, .int (nI c)), (2, .int (nI p)), (3, .int (ctP (fun i => znB l j 0 i && (rcB l c p (hdN l i) && (l.getD (103 + 6 * i + 5) 0 == 0))) n)), (4, .int (nI j))]) (st2 := [.int 0, .int (nI (7 + j)), .ref 112]) (w3 := w1) rfl rfl ?_
        refine sx_RP.step (pc2 := 91) (ls2 := [(0, .ref 111), (1, .int (nI c)), (2, .int (nI p)), (3, .int (ctP (fun i => znB l j 0 i && (rcB l c p (hdN l i) && (l.getD (103 + 6 * i + 5) 0 == 0))) n)), (4, .int (nI j))]) (st2 := [.int 0, .int (nI (7 + j)), .ref 112]) (w3 := w1) rfl rfl ?_
        refine sx_RP.xM (k := (7 + j)) hI2 (by decide) rfl (by omega) (eOK_st (by omega) (show inR 0 3 from ⟨0, by decide, rfl⟩)) (show _ = 92 from rfl) (fun w13 hI14 hs15 hv16 => ?_)
        refine sx_RP.step (pc2 := 93) (ls2 := [(0, .ref 111), (1, .int (nI c)), (2, .int (nI p)), (3, .int (ctP (fun i => znB l j 0 i && (rcB l c p (hdN l i) && (l.getD (103 + 6 * i + 5) 0 == 0))) n)), (4, .int (nI j))]) (st2 := [.int 0]) (w3 := w13) rfl rfl ?_
        refine sx_RP.step (pc2 := 95) (ls2 := [(5, .int 0), (0, .ref 111), (1, .int (nI c)), (2, .int (nI p)), (3, .int (ctP (fun i => znB l j 0 i && (rcB l c p (hdN l i) && (l.getD (103 + 6 * i + 5) 0 == 0))) n)), (4, .int (nI j))]) (st2 := []) (w3 := w13) rfl rfl ?_
        -- [('¬ (nI x5) = 2', False, 'q8')] [('M', '(55 + j)', <symgen.V object at 0x7f4b69068a80>, 'hs3', 'hv4', 'w', 'w1'), ('M', '(7 + j)', <symgen.V object at 0x7f4b6908a700>, 'hs15', 'hv16', 'w1', 'w13')]
        have hm1 : BG l (rcB l c p) (ltB j) (ltB (j + 1)) (znB l j 0) (ia w1 112) := by rw [hv4]; exact hm.set (by omega) (by rw [blG_wl (by omega), ltB_y (by omega), hB]; rfl) (fun i hi h => rfl) (fun i hi h => by rw [ltB_ne (by omega)]) (fun i hi h => rfl)
        -- value 0
        have e7 : (ia w1 112).getD (7 + j) 0 = l.getD (7 + j) 0 := by rw [hm1.2 _ (by omega), blG_st (by omega), ltB_n (by omega), Bool.false_and, if_neg (fun z => absurd z.1 (by decide))]
        have hm2 : BG l (rcB l c p) (ltB (j + 1)) (ltB (j + 1)) (znB l j 0) (ia w13 112) := by
          rw [hv16]
          refine hm1.set (by omega) ?_ (fun i hi h => by rw [ltB_ne (by omega)]) (fun i hi h => rfl) (fun i hi h => rfl)
          rw [blG_st (by omega), ltB_y (by omega), hB]
          have e8 : l.getD (7 + j) 0 = nI x5 := e7.symm.trans ex7
          rw [if_pos ⟨rfl, by rw [e8, q8]; rfl⟩]
        refine sx_RP.ls (sx_lr.cons rfl (sx_lr.cons rfl (sx_lr.cons rfl (sx_lr.cons rfl (sx_lr.cons rfl (sx_lr.cons rfl sx_lr.nil)))))) (X201g (B := rcB l c p) (w0 := w0) hc hp (show j < 48 by omega) hn en hB n 0 w13 (by omega) hI14 hm2 ((hO.tr hs3).tr hs15) (fun w3 hI3 hm3 hO3 => ?_))
        refine sx_RP.step (pc2 := 146) (ls2 := [(4, .int ((nI j) + 1)), (0, .ref 111), (1, .int (nI c)), (2, .int (nI p)), (3, .int (ctP (fun i => znB l j n i && (rcB l c p (hdN l i) && (l.getD (103 + 6 * i + 5) 0 == 0))) n))]) (st2 := []) (w3 := w3) rfl rfl ?_
        rw [nI_1 j]
        refine sx_RP.step (pc2 := 25) (ls2 := [(4, .int (nI (j + 1))), (0, .ref 111), (1, .int (nI c)), (2, .int (nI p)), (3, .int (ctP (fun i => znB l j n i && (rcB l c p (hdN l i) && (l.getD (103 + 6 * i + 5) 0 == 0))) n))]) (st2 := []) (w3 := w3) rfl rfl ?_
        have ec : ctP (fun i => znB l j n i && (rcB l c p (hdN l i) && (l.getD (103 + 6 * i + 5) 0 == 0))) n = ctP (fun i => znB l (j + 1) 0 i && (rcB l c p (hdN l i) && (l.getD (103 + 6 * i + 5) 0 == 0))) n := ctP_congr n (fun i hi => by show (znB l j n i && _) = (znB l (j + 1) 0 i && _); rw [znB_0, znB_n hi])
        rw [ec]
        exact sx_RP.ls (sx_lr.cons rfl (sx_lr.cons rfl (sx_lr.cons rfl (sx_lr.cons rfl (sx_lr.cons rfl sx_lr.nil))))) (X201L hc hp hn en q (j + 1) w3 (by omega) hI3 (hm3.cg (fun i hi => rfl) (fun i hi => rfl) (fun i hi => by rw [znB_0, znB_n (by rw [en, iN_n (by omega)] at hi; exact hi)])) hO3)
    · refine sx_RP.cu (as := [.ref 111, .int (nI c), .int (nI p), .int (nI j)]) (rest2 := []) (st3 := [.int 0]) rfl rfl (sx_inv_v2 (mi := 201) (k := 192) (st := [.int (nI j), .int (nI p), .int (nI c), .ref 111]) (w := w) rfl rfl hI.1.o111 rfl rfl rfl) rfl rfl ((by have z := x199 (xs := xs) (d := d + 5) hI hc hp (show j < 48 by omega); rw [rcB_congr ej, hB] at z; exact z)) rfl ?_
      refine sx_RP.step (pc2 := 143) (ls2 := [(0, .ref 111), (1, .int (nI c)), (2, .int (nI p)), (3, .int (ctP (fun i => znB l j 0 i && (rcB l c p (hdN l i) && (l.getD (103 + 6 * i + 5) 0 == 0))) n)), (4, .int (nI j))]) (st2 := []) (w3 := w) rfl rfl ?_
      refine sx_RP.step (pc2 := 146) (ls2 := [(4, .int ((nI j) + 1)), (0, .ref 111), (1, .int (nI c)), (2, .int (nI p)), (3, .int (ctP (fun i => znB l j 0 i && (rcB l c p (hdN l i) && (l.getD (103 + 6 * i + 5) 0 == 0))) n))]) (st2 := []) (w3 := w) rfl rfl ?_
      rw [nI_1 j]
      refine sx_RP.step (pc2 := 25) (ls2 := [(4, .int (nI (j + 1))), (0, .ref 111), (1, .int (nI c)), (2, .int (nI p)), (3, .int (ctP (fun i => znB l j 0 i && (rcB l c p (hdN l i) && (l.getD (103 + 6 * i + 5) 0 == 0))) n))]) (st2 := []) (w3 := w) rfl rfl ?_
      -- [] []
      have ec : ctP (fun i => znB l j 0 i && (rcB l c p (hdN l i) && (l.getD (103 + 6 * i + 5) 0 == 0))) n = ctP (fun i => znB l (j + 1) 0 i && (rcB l c p (hdN l i) && (l.getD (103 + 6 * i + 5) 0 == 0))) n := ctP_congr n (fun i hi => by show (znB l j 0 i && (rcB l c p (hdN l i) && _)) = (znB l (j + 1) 0 i && (rcB l c p (hdN l i) && _)); rw [znB_0, znB_0, ← Bool.and_assoc, ← Bool.and_assoc, ltB_B (B := rcB l c p) hB])
      rw [ec]
      exact sx_RP.ls (sx_lr.cons rfl (sx_lr.cons rfl (sx_lr.cons rfl (sx_lr.cons rfl (sx_lr.cons rfl sx_lr.nil))))) (X201L hc hp hn en q (j + 1) w (by omega) hI (hm.cg (fun i hi => ltB_B hB) (fun i hi => ltB_B hB) (fun i hi => by rw [znB_0, znB_0]; exact ltB_B hB)) hO)
theorem ctP_0 : ∀ n : Nat, ctP (fun _ => false) n = 0
  | 0 => rfl
  | n + 1 => by
    show ctP (fun _ => false) n + _ = 0
    rw [ctP_0 n]
    rfl
theorem hd_lt {w : List sx_C} (hI : WI w) {i : Nat} (hi : i < 10) : hdN (ia w 112) i < 48 := by
  obtain ⟨h, hh, eh⟩ : inR ((ia w 112).getD (103 + 6 * i + 2) 0) 47 := (hI.s (103 + 6 * i + 2) (by omega)).2.2.2.2.2.1 (by omega)
  unfold hdN
  rw [eh, iN_n (by omega)]
  omega
set_option maxRecDepth 20000 in
set_option maxHeartbeats 4000000 in
theorem Y201 {xs : Option (List Int32)} {d : Nat} {w : List sx_C} (hI : WI w) (a1 a2 : Int32) : sx_RP xs (d + 7) 201 0 (lv_args 0 [.ref 111, .int a1, .int a2]) [] w (fun r w2 => (r = some (.int (blwA (ia w 112) a1 a2)) ∧ ia w2 112 = blwR (ia w 112) a1 a2) ∧ WI w2 ∧ EOm w w2) := by
  obtain ⟨n, hn, en⟩ := (hI.sA (a := 112) (by decide) 1 (by decide)).1 rfl
  refine sx_RP.step (pc2 := 1) (ls2 := [(0, .ref 111), (1, .int a1), (2, .int a2)]) (st2 := [.int a1]) (w3 := w) rfl rfl ?_
  rcases in_cases a1 0 47 (m := 0) (n := 47) rfl rfl (by decide) (by decide) with q1 | ⟨x2, hx3, hx4, rfl⟩
  · refine sx_RP.cu (as := [.int a1]) (rest2 := []) (st3 := [.int 0]) rfl rfl rfl rfl rfl (cx_131n q1) rfl ?_
    refine sx_RP.step (pc2 := 14) (ls2 := [(0, .ref 111), (1, .int a1), (2, .int a2)]) (st2 := []) (w3 := w) rfl rfl ?_
    refine sx_RP.step (pc2 := 15) (ls2 := [(0, .ref 111), (1, .int a1), (2, .int a2)]) (st2 := [.ref 111]) (w3 := w) rfl rfl ?_
    refine sx_RP.step (pc2 := 16) (ls2 := [(0, .ref 111), (1, .int a1), (2, .int a2)]) (st2 := [.int 0, .ref 111]) (w3 := w) rfl rfl ?_
    refine sx_RP.callp (as2 := [.ref 111, .int 0]) (rest2 := []) rfl rfl (sx_inv_v2 (mi := 201) (k := 70) (st := [.int 0, .ref 111]) (w := w) rfl rfl hI.1.o111 rfl rfl rfl) rfl rfl rfl (S133_0 hI) (show _ = 19 from rfl) ?_
    rintro r4 w7 ⟨rfl, hI8, hs6⟩
    show sx_RP _ _ _ _ _ [.int (-1000000001)] _ _
    refine sx_RP.ret (r := (some (.int (-1000000001)))) rfl rfl ?_
    exact ⟨⟨by rw [(blw_1 (l := ia w 112) q1).1], by rw [(blw_1 (l := ia w 112) q1).2]; exact ia_of (hs6 112 (by decide))⟩, hI8, fun a ha => hs6 a (by unfold ocm at ha; omega)⟩
  · refine sx_RP.cu (as := [.int (nI x2)]) (rest2 := []) (st3 := [.int 1]) rfl rfl rfl rfl rfl (cx_131p ⟨nI_le (a := 0) hx3 (by omega), nI_le (b := 47) hx4 (by decide)⟩) rfl ?_
    refine sx_RP.step (pc2 := 7) (ls2 := [(0, .ref 111), (1, .int (nI x2)), (2, .int a2)]) (st2 := []) (w3 := w) rfl rfl ?_
    refine sx_RP.step (pc2 := 8) (ls2 := [(0, .ref 111), (1, .int (nI x2)), (2, .int a2)]) (st2 := [.int a2]) (w3 := w) rfl rfl ?_
    rcases in_cases a2 1 30 (m := 1) (n := 30) rfl rfl (by decide) (by decide) with q9 | ⟨x10, hx11, hx12, rfl⟩
    · refine sx_RP.cu (as := [.int a2]) (rest2 := []) (st3 := [.int 0]) rfl rfl rfl rfl rfl (cx_197n q9) rfl ?_
      refine sx_RP.step (pc2 := 14) (ls2 := [(0, .ref 111), (1, .int (nI x2)), (2, .int a2)]) (st2 := []) (w3 := w) rfl rfl ?_
      refine sx_RP.step (pc2 := 15) (ls2 := [(0, .ref 111), (1, .int (nI x2)), (2, .int a2)]) (st2 := [.ref 111]) (w3 := w) rfl rfl ?_
      refine sx_RP.step (pc2 := 16) (ls2 := [(0, .ref 111), (1, .int (nI x2)), (2, .int a2)]) (st2 := [.int 0, .ref 111]) (w3 := w) rfl rfl ?_
      refine sx_RP.callp (as2 := [.ref 111, .int 0]) (rest2 := []) rfl rfl (sx_inv_v2 (mi := 201) (k := 70) (st := [.int 0, .ref 111]) (w := w) rfl rfl hI.1.o111 rfl rfl rfl) rfl rfl rfl (S133_0 hI) (show _ = 19 from rfl) ?_
      rintro r4 w15 ⟨rfl, hI16, hs14⟩
      show sx_RP _ _ _ _ _ [.int (-1000000001)] _ _
      refine sx_RP.ret (r := (some (.int (-1000000001)))) rfl rfl ?_
      exact ⟨⟨by rw [(blw_2 (l := ia w 112) (fun z => z ⟨nI_le (a := 0) (show 0 ≤ x2 by omega) (by omega), nI_le (b := 47) (show x2 ≤ 47 by omega) (by decide)⟩) q9).1], by rw [(blw_2 (l := ia w 112) (fun z => z ⟨nI_le (a := 0) (show 0 ≤ x2 by omega) (by omega), nI_le (b := 47) (show x2 ≤ 47 by omega) (by decide)⟩) q9).2]; exact ia_of (hs14 112 (by decide))⟩, hI16, fun a ha => hs14 a (by unfold ocm at ha; omega)⟩
    · refine sx_RP.cu (as := [.int (nI x10)]) (rest2 := []) (st3 := [.int 1]) rfl rfl rfl rfl rfl (cx_197p ⟨nI_le (a := 1) hx11 (by omega), nI_le (b := 30) hx12 (by decide)⟩) rfl ?_
      refine sx_RP.step (pc2 := 20) (ls2 := [(0, .ref 111), (1, .int (nI x2)), (2, .int (nI x10))]) (st2 := []) (w3 := w) rfl rfl ?_
      refine sx_RP.step (pc2 := 21) (ls2 := [(0, .ref 111), (1, .int (nI x2)), (2, .int (nI x10))]) (st2 := [.int 0]) (w3 := w) rfl rfl ?_
      refine sx_RP.step (pc2 := 22) (ls2 := [(3, .int 0), (0, .ref 111), (1, .int (nI x2)), (2, .int (nI x10))]) (st2 := []) (w3 := w) rfl rfl ?_
      refine sx_RP.step (pc2 := 23) (ls2 := [(3, .int 0), (0, .ref 111), (1, .int (nI x2)), (2, .int (nI x10))]) (st2 := [.int 0]) (w3 := w) rfl rfl ?_
      refine sx_RP.step (pc2 := 25) (ls2 := [(4, .int 0), (3, .int 0), (0, .ref 111), (1, .int (nI x2)), (2, .int (nI x10))]) (st2 := []) (w3 := w) rfl rfl ?_
      have e0 : (0 : Int32) = ctP (fun i => znB (ia w 112) 0 0 i && (rcB (ia w 112) x2 x10 (hdN (ia w 112) i) && ((ia w 112).getD (103 + 6 * i + 5) 0 == 0))) n := by rw [ctP_congr (g := fun _ => false) n (fun i hi => by show (znB (ia w 112) 0 0 i && _) = false; rw [znB_0, ltB_n (by omega), Bool.false_and]), ctP_0]
      refine sx_RP.ls (sx_lr.cons rfl (sx_lr.cons rfl (sx_lr.cons rfl (sx_lr.cons (by show some (Value.int 0) = _; exact congrArg (fun q => some (Value.int q)) e0) (sx_lr.cons rfl sx_lr.nil))))) ((X201L (l := ia w 112) (w0 := w) (show x2 < 48 by omega) (show x10 ≤ 30 by omega) hn en 48 0 w (by omega) hI (BG.rf hI.1.a112.2 (fun i => ltB_n (by omega)) (fun i => ltB_n (by omega)) (fun i => by rw [znB_0, ltB_n (by omega)])) (fun _ _ => rfl)).mono9 (fun r w2 z => ⟨⟨?_, ?_⟩, z.2.1, fun a ha => z.2.2 a (by unfold ocm at ha; omega)⟩))
      · rw [z.1.1, (blw_z (l := ia w 112) (fun z => z ⟨nI_le (a := 0) (show 0 ≤ x2 by omega) (by omega), nI_le (b := 47) (show x2 ≤ 47 by omega) (by decide)⟩) (fun z => z ⟨nI_le (a := 1) (show 1 ≤ x10 by omega) (by omega), nI_le (b := 30) (show x10 ≤ 30 by omega) (by decide)⟩)).1, iN_n (show x2 < 2 ^ 31 by omega), iN_n (show x10 < 2 ^ 31 by omega)]
        unfold blA
        rw [en, iN_n (by omega)]
        exact congrArg (fun q => some (Value.int q)) (ctP_congr n (fun i hi => by show (znB (ia w 112) 48 0 i && _) = _; rw [znB_0, ltB_y (hd_lt hI (by omega)), Bool.true_and]))
      · rw [(blw_z (l := ia w 112) (fun z => z ⟨nI_le (a := 0) (show 0 ≤ x2 by omega) (by omega), nI_le (b := 47) (show x2 ≤ 47 by omega) (by decide)⟩) (fun z => z ⟨nI_le (a := 1) (show 1 ≤ x10 by omega) (by omega), nI_le (b := 30) (show x10 ≤ 30 by omega) (by decide)⟩)).2, iN_n (show x2 < 2 ^ 31 by omega), iN_n (show x10 < 2 ^ 31 by omega)]
        exact z.1.2.fin (fun i hi => ltB_y hi) (fun i hi => ltB_y hi) (fun i hi => by rw [znB_0]; exact ltB_y (hd_lt hI (by rw [en, iN_n (by omega)] at hi; omega)))
