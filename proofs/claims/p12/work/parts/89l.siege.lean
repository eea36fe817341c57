-- tellTo, siege
def teL (n : Nat) (X : Nat → Nat) : Nat → Nat → Nat → BB → Int32 × BB
  | 0, _, p, b => (-1 - nI p, b)
  | f + 1, it, p, b => if (itT n X p b).1 = true then (if soT n X (itT n X p b).2.1 = 0 then (nI (it + 1), (itT n X p b).2.2) else (if soT n X (itT n X p b).2.1 = 3 then teL n X f (it + 1) (nP n X (itT n X p b).2.1) (itT n X p b).2.2 else (-1 - nI (itT n X p b).2.1, b))) else (-1 - nI (itT n X p b).2.1, b)
theorem neg_p {p : Nat} (h : p ≤ 120) : ¬ (0 : Int32) ≤ -1 - nI p := by
  intro z
  rw [Int32.le_iff_toInt_le, Int32.toInt_sub, nI_toInt (by omega), show (0 : Int32).toInt = 0 by decide, show (-1 : Int32).toInt = -1 by decide, Int.bmod_def] at z
  split at z <;> omega
set_option maxRecDepth 20000 in
set_option maxHeartbeats 4000000 in
theorem X93L {xs : Option (List Int32)} {d : Nat} {n : Nat} {X : Nat → Nat} {w0 : List sx_C} : ∀ (fz i it p : Nat) (b : BB) (w : List sx_C), i + fz = 121 → WI w → CT n X w → TK' n X p w → p ≤ n → campB w 29 = b → OffT w0 w → sx_RP xs (d + 6) 93 13 [(0, .ref 96), (1, .ref 29), (2, .int (nI it)), (3, .int (nI i))] [] w (fun r2 w2 => (r2 = some (.int (teL n X fz it p b).1) ∧ (0 ≤ (teL n X fz it p b).1 → campB w2 29 = (teL n X fz it p b).2)) ∧ WI w2 ∧ CT n X w2 ∧ OffT w0 w2)
  | 0, i, it, p, b, w, hi, hI, hC, hT, hp, hB, hO => by
    obtain rfl : i = 121 := by omega
    have hn := hC.2.1
    refine sx_RP.step (pc2 := 14) (ls2 := [(0, .ref 96), (1, .ref 29), (2, .int (nI it)), (3, .int 121)]) (st2 := [.int 121]) (w3 := w) rfl rfl ?_
    refine sx_RP.step (pc2 := 16) (ls2 := [(0, .ref 96), (1, .ref 29), (2, .int (nI it)), (3, .int 121)]) (st2 := [.int 120, .int 121]) (w3 := w) rfl rfl ?_
    refine sx_RP.step (pc2 := 63) (ls2 := [(0, .ref 96), (1, .ref 29), (2, .int (nI it)), (3, .int 121)]) (st2 := []) (w3 := w) rfl rfl ?_
    refine sx_RP.step (pc2 := 64) (ls2 := [(0, .ref 96), (1, .ref 29), (2, .int (nI it)), (3, .int 121)]) (st2 := [.int (-1)]) (w3 := w) rfl rfl ?_
    refine sx_RP.step (pc2 := 65) (ls2 := [(0, .ref 96), (1, .ref 29), (2, .int (nI it)), (3, .int 121)]) (st2 := [.ref 96, .int (-1)]) (w3 := w) rfl rfl ?_
    refine sx_RP.gt (k := 3) hI rfl rfl (by decide) (show _ = 68 from rfl) ?_
    rw [hT.1]
    refine sx_RP.step (pc2 := 69) (ls2 := [(0, .ref 96), (1, .ref 29), (2, .int (nI it)), (3, .int 121)]) (st2 := [.int ((-1) - (nI p))]) (w3 := w) rfl rfl ?_
    refine sx_RP.ret (r := (some (.int ((-1) - (nI p))))) rfl rfl ?_
    exact ⟨⟨rfl, fun z => absurd z (neg_p (by omega))⟩, hI, hC, hO⟩
  | fz + 1, i, it, p, b, w, hi, hI, hC, hT, hp, hB, hO => by
    have hn := hC.2.1
    refine sx_RP.step (pc2 := 14) (ls2 := [(0, .ref 96), (1, .ref 29), (2, .int (nI it)), (3, .int (nI i))]) (st2 := [.int (nI i)]) (w3 := w) rfl rfl ?_
    refine sx_RP.step (pc2 := 16) (ls2 := [(0, .ref 96), (1, .ref 29), (2, .int (nI it)), (3, .int (nI i))]) (st2 := [.int 120, .int (nI i)]) (w3 := w) rfl rfl ?_
    refine sx_RP.br (p2 := 19) (l2 := [(0, .ref 96), (1, .ref 29), (2, .int (nI it)), (3, .int (nI i))]) (s2 := []) (v2 := w) rfl rfl (fun q => absurd (of_decide_eq_true q) (fun z => absurd ((nI_ltI (a := 120) (b := i) (by omega) (by omega)).mp z) (by omega))) (fun _ => ?_)
    refine sx_RP.step (pc2 := 20) (ls2 := [(0, .ref 96), (1, .ref 29), (2, .int (nI it)), (3, .int (nI i))]) (st2 := [.ref 96]) (w3 := w) rfl rfl ?_
    refine sx_RP.step (pc2 := 21) (ls2 := [(0, .ref 96), (1, .ref 29), (2, .int (nI it)), (3, .int (nI i))]) (st2 := [.ref 29, .ref 96]) (w3 := w) rfl rfl ?_
    refine sx_RP.callp (as2 := [.ref 96, .ref 29]) (rest2 := []) rfl rfl (sx_inv_v2 (mi := 93) (k := 32) (st := [.ref 29, .ref 96]) (w := w) rfl rfl hI.1.o96 rfl rfl rfl) rfl rfl rfl (X98 hI hC hT hp hB) (show _ = 24 from rfl) ?_
    rintro r4 w5 ⟨⟨rfl, hr1⟩, hI6, hC2, hO3⟩
    show sx_RP _ _ _ _ _ [.int (b01 (itT n X p b).1)] _ _
    have hO4 := hO.tr hO3
    have hp7 : (itT n X p b).2.1 ≤ n := itT_le hp
    have hs48 := soT_le (p := (itT n X p b).2.1) hC2
    refine sx_RP.br (p1 := 30) (l1 := [(0, .ref 96), (1, .ref 29), (2, .int (nI it)), (3, .int (nI i))]) (s1 := []) (v1 := w5) (p2 := 27) (l2 := [(0, .ref 96), (1, .ref 29), (2, .int (nI it)), (3, .int (nI i))]) (s2 := []) (v2 := w5) rfl rfl (fun q9 => ?_) (fun q9 => ?_)
    · replace q9 := of_decide_eq_true q9
      refine sx_RP.step (pc2 := 33) (ls2 := [(2, .int ((nI it) + 1)), (0, .ref 96), (1, .ref 29), (3, .int (nI i))]) (st2 := []) (w3 := w5) rfl rfl ?_
      rw [nI_1 it]
      refine sx_RP.step (pc2 := 34) (ls2 := [(2, .int (nI (it + 1))), (0, .ref 96), (1, .ref 29), (3, .int (nI i))]) (st2 := [.ref 96]) (w3 := w5) rfl rfl ?_
      refine sx_RP.gt (k := 2) hI6 rfl rfl (by decide) (show _ = 37 from rfl) ?_
      rw [hr1.1.2.1]
      refine sx_RP.br (p1 := 42) (l1 := [(2, .int (nI (it + 1))), (0, .ref 96), (1, .ref 29), (3, .int (nI i))]) (s1 := []) (v1 := w5) (p2 := 40) (l2 := [(2, .int (nI (it + 1))), (0, .ref 96), (1, .ref 29), (3, .int (nI i))]) (s2 := []) (v2 := w5) rfl rfl (fun q10 => ?_) (fun q10 => ?_)
      · replace q10 := of_decide_eq_true q10
        replace q10 := mt (nI_eq (a := (soT n X (itT n X p b).2.1)) (b := 0) (by omega) (by omega)).mpr q10
        refine sx_RP.step (pc2 := 43) (ls2 := [(2, .int (nI (it + 1))), (0, .ref 96), (1, .ref 29), (3, .int (nI i))]) (st2 := [.ref 96]) (w3 := w5) rfl rfl ?_
        refine sx_RP.gt (k := 2) hI6 rfl rfl (by decide) (show _ = 46 from rfl) ?_
        rw [hr1.1.2.1]
        refine sx_RP.step (pc2 := 47) (ls2 := [(2, .int (nI (it + 1))), (0, .ref 96), (1, .ref 29), (3, .int (nI i))]) (st2 := [.int 3, .int (nI (soT n X (itT n X p b).2.1))]) (w3 := w5) rfl rfl ?_
        refine sx_RP.br (p1 := 53) (l1 := [(2, .int (nI (it + 1))), (0, .ref 96), (1, .ref 29), (3, .int (nI i))]) (s1 := []) (v1 := w5) (p2 := 50) (l2 := [(2, .int (nI (it + 1))), (0, .ref 96), (1, .ref 29), (3, .int (nI i))]) (s2 := []) (v2 := w5) rfl rfl (fun q11 => ?_) (fun q11 => ?_)
        · replace q11 := of_decide_eq_true q11
          replace q11 := (nI_eq (a := (soT n X (itT n X p b).2.1)) (b := 3) (by omega) (by omega)).mp q11
          refine sx_RP.step (pc2 := 54) (ls2 := [(2, .int (nI (it + 1))), (0, .ref 96), (1, .ref 29), (3, .int (nI i))]) (st2 := [.ref 96]) (w3 := w5) rfl rfl ?_
          have hB12 := hr1.2 (b01_t q9)
          refine sx_RP.callp (as2 := [.ref 96]) (rest2 := []) rfl rfl (sx_inv_v2 (mi := 93) (k := 29) (st := [.ref 96]) (w := w5) rfl rfl hI6.1.o96 rfl rfl rfl) rfl rfl rfl (X94 hI6 hC2 hr1.1.2.2.1 (beT_le hp7)) (show _ = 57 from rfl) ?_
          rintro r4 w16 ⟨⟨rfl, hT13, h114⟩, hI17, hs15⟩
          show sx_RP _ _ _ _ _ [] _ _
          have hT22 : TK' n X (nP n X ((itT n X p b).2.1)) w16 := hT13
          have hC18 := hC2.same h114 (ia_of (hs15 97 (by decide)))
          have hp19 : nP n X ((itT n X p b).2.1) ≤ n := nP_le hp7
          have hB20 := (campB_96 hI6 hs15).trans hB12
          have hO21 := hO4.tr hs15.offT
          refine sx_RP.step (pc2 := 60) (ls2 := [(3, .int ((nI i) + 1)), (2, .int (nI (it + 1))), (0, .ref 96), (1, .ref 29)]) (st2 := []) (w3 := w16) rfl rfl ?_
          rw [nI_1 i]
          refine sx_RP.step (pc2 := 13) (ls2 := [(3, .int (nI (i + 1))), (2, .int (nI (it + 1))), (0, .ref 96), (1, .ref 29)]) (st2 := []) (w3 := w16) rfl rfl ?_
          rw [show teL n X (fz + 1) it p b = teL n X fz (it + 1) (nP n X (itT n X p b).2.1) (itT n X p b).2.2 by conv => lhs; unfold teL; rw [if_pos (b01_t q9), if_neg (by omega), if_pos (by omega)]]
          exact sx_RP.ls (sx_lr.cons rfl (sx_lr.cons rfl (sx_lr.cons rfl (sx_lr.cons rfl sx_lr.nil)))) (X93L fz (i + 1) (it + 1) (nP n X (itT n X p b).2.1) (itT n X p b).2.2 w16 (by omega) hI17 hC18 hT22 hp19 hB20 hO21)
        · replace q11 := of_decide_eq_false q11
          replace q11 := mt (nI_eq (a := (soT n X (itT n X p b).2.1)) (b := 3) (by omega) (by omega)).mpr q11
          refine sx_RP.step (pc2 := 63) (ls2 := [(2, .int (nI (it + 1))), (0, .ref 96), (1, .ref 29), (3, .int (nI i))]) (st2 := []) (w3 := w5) rfl rfl ?_
          refine sx_RP.step (pc2 := 64) (ls2 := [(2, .int (nI (it + 1))), (0, .ref 96), (1, .ref 29), (3, .int (nI i))]) (st2 := [.int (-1)]) (w3 := w5) rfl rfl ?_
          refine sx_RP.step (pc2 := 65) (ls2 := [(2, .int (nI (it + 1))), (0, .ref 96), (1, .ref 29), (3, .int (nI i))]) (st2 := [.ref 96, .int (-1)]) (w3 := w5) rfl rfl ?_
          refine sx_RP.gt (k := 3) hI6 rfl rfl (by decide) (show _ = 68 from rfl) ?_
          rw [hr1.1.1]
          refine sx_RP.step (pc2 := 69) (ls2 := [(2, .int (nI (it + 1))), (0, .ref 96), (1, .ref 29), (3, .int (nI i))]) (st2 := [.int ((-1) - (nI ((itT n X p b).2.1)))]) (w3 := w5) rfl rfl ?_
          refine sx_RP.ret (r := (some (.int ((-1) - (nI ((itT n X p b).2.1)))))) rfl rfl ?_
          rw [show teL n X (fz + 1) it p b = (-1 - nI (itT n X p b).2.1, b) by unfold teL; rw [if_pos (b01_t q9), if_neg (by omega), if_neg (by omega)]]
          exact ⟨⟨rfl, fun z => absurd z (neg_p (by omega))⟩, hI6, hC2, hO4⟩
      · replace q10 := Decidable.not_not.mp (of_decide_eq_false q10)
        replace q10 := (nI_eq (a := (soT n X (itT n X p b).2.1)) (b := 0) (by omega) (by omega)).mp q10
        refine sx_RP.step (pc2 := 41) (ls2 := [(2, .int (nI (it + 1))), (0, .ref 96), (1, .ref 29), (3, .int (nI i))]) (st2 := [.int (nI (it + 1))]) (w3 := w5) rfl rfl ?_
        refine sx_RP.ret (r := (some (.int (nI (it + 1))))) rfl rfl ?_
        rw [show teL n X (fz + 1) it p b = (nI (it + 1), (itT n X p b).2.2) by unfold teL; rw [if_pos (b01_t q9), if_pos (by omega)]]
        exact ⟨⟨rfl, fun _ => hr1.2 (b01_t q9)⟩, hI6, hC2, hO4⟩
    · replace q9 := Decidable.not_not.mp (of_decide_eq_false q9)
      refine sx_RP.step (pc2 := 63) (ls2 := [(0, .ref 96), (1, .ref 29), (2, .int (nI it)), (3, .int (nI i))]) (st2 := []) (w3 := w5) rfl rfl ?_
      refine sx_RP.step (pc2 := 64) (ls2 := [(0, .ref 96), (1, .ref 29), (2, .int (nI it)), (3, .int (nI i))]) (st2 := [.int (-1)]) (w3 := w5) rfl rfl ?_
      refine sx_RP.step (pc2 := 65) (ls2 := [(0, .ref 96), (1, .ref 29), (2, .int (nI it)), (3, .int (nI i))]) (st2 := [.ref 96, .int (-1)]) (w3 := w5) rfl rfl ?_
      refine sx_RP.gt (k := 3) hI6 rfl rfl (by decide) (show _ = 68 from rfl) ?_
      rw [hr1.1.1]
      refine sx_RP.step (pc2 := 69) (ls2 := [(0, .ref 96), (1, .ref 29), (2, .int (nI it)), (3, .int (nI i))]) (st2 := [.int ((-1) - (nI ((itT n X p b).2.1)))]) (w3 := w5) rfl rfl ?_
      refine sx_RP.ret (r := (some (.int ((-1) - (nI ((itT n X p b).2.1)))))) rfl rfl ?_
      rw [show teL n X (fz + 1) it p b = (-1 - nI (itT n X p b).2.1, b) by unfold teL; rw [if_neg (by rw [b01_f q9]; decide)]]
      exact ⟨⟨rfl, fun z => absurd z (neg_p (by omega))⟩, hI6, hC2, hO4⟩
set_option maxRecDepth 20000 in
set_option maxHeartbeats 4000000 in
theorem X93 {xs : Option (List Int32)} {d n : Nat} {X : Nat → Nat} {b : BB} {w : List sx_C} (hI : WI w) (hC : CT n X w) (hB : campB w 29 = b) : sx_RP xs (d + 6) 93 0 (lv_args 0 [.ref 96, .ref 29]) [] w (fun r2 w2 => (r2 = some (.int (teL n X 121 0 (rE blk n X 0) b).1) ∧ (0 ≤ (teL n X 121 0 (rE blk n X 0) b).1 → campB w2 29 = (teL n X 121 0 (rE blk n X 0) b).2)) ∧ WI w2 ∧ CT n X w2 ∧ OffT w w2) := by
  refine sx_RP.step (pc2 := 1) (ls2 := [(0, .ref 96), (1, .ref 29)]) (st2 := [.ref 96]) (w3 := w) rfl rfl ?_
  refine sx_RP.step (pc2 := 2) (ls2 := [(0, .ref 96), (1, .ref 29)]) (st2 := [.int 0, .ref 96]) (w3 := w) rfl rfl ?_
  refine sx_RP.xP (k := 4) hI rfl rfl (by decide) rfl ⟨0, by decide, rfl⟩ (show _ = 5 from rfl) (fun w1 hI2 hs3 hv4 hr5 => ?_)
  have hC6 := hC.same (hr5 1 (by decide)) (ia_of (hs3 97 (by decide)))
  have hB7 := (campB_96 hI hs3).trans hB
  refine sx_RP.step (pc2 := 6) (ls2 := [(0, .ref 96), (1, .ref 29)]) (st2 := [.ref 96]) (w3 := w1) rfl rfl ?_
  refine sx_RP.callp (as2 := [.ref 96]) (rest2 := []) rfl rfl (sx_inv_v2 (mi := 93) (k := 29) (st := [.ref 96]) (w := w1) rfl rfl hI2.1.o96 rfl rfl rfl) rfl rfl rfl (X94 (b := 0) hI2 hC6 hv4 (Nat.zero_le _)) (show _ = 9 from rfl) ?_
  rintro r4 w11 ⟨⟨rfl, hT8, h19⟩, hI12, hs10⟩
  show sx_RP _ _ _ _ _ [] _ _
  have hC13 := hC6.same h19 (ia_of (hs10 97 (by decide)))
  have hB14 := (campB_96 hI2 hs10).trans hB7
  have hO15 := OffT.tr (hs3.offT) hs10.offT
  refine sx_RP.step (pc2 := 10) (ls2 := [(0, .ref 96), (1, .ref 29)]) (st2 := [.int 0]) (w3 := w11) rfl rfl ?_
  refine sx_RP.step (pc2 := 11) (ls2 := [(2, .int 0), (0, .ref 96), (1, .ref 29)]) (st2 := []) (w3 := w11) rfl rfl ?_
  refine sx_RP.step (pc2 := 12) (ls2 := [(2, .int 0), (0, .ref 96), (1, .ref 29)]) (st2 := [.int 0]) (w3 := w11) rfl rfl ?_
  refine sx_RP.step (pc2 := 13) (ls2 := [(3, .int 0), (2, .int 0), (0, .ref 96), (1, .ref 29)]) (st2 := []) (w3 := w11) rfl rfl ?_
  exact sx_RP.ls (sx_lr.cons rfl (sx_lr.cons rfl (sx_lr.cons rfl (sx_lr.cons rfl sx_lr.nil)))) (X93L 121 0 0 (rE blk n X 0) b w11 (by omega) hI12 hC13 hT8 (rE_le (Nat.zero_le _)) hB14 hO15)
