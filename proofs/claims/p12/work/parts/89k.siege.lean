-- item, tellTo, siege
theorem b01_r98 (b : Bool) : sx_ret 98 .ireturn [.int (b01 b)] = some (some (.int (b01 b))) := by cases b <;> rfl
theorem gw_rng (n : Nat) (X : Nat → Nat) (p : Nat) : gwT n X p = -1 ∨ ∃ u, u ≤ 4 ∧ gwT n X p = nI u := by
  unfold gwT
  repeat' split
  all_goals first | exact Or.inl rfl | exact Or.inr ⟨0, by decide, rfl⟩ | exact Or.inr ⟨1, by decide, rfl⟩ | exact Or.inr ⟨2, by decide, rfl⟩ | exact Or.inr ⟨3, by decide, rfl⟩ | exact Or.inr ⟨4, by decide, rfl⟩
theorem kw_rng (n : Nat) (X : Nat → Nat) (p : Nat) : kwT n X p = -1 ∨ ∃ u, u ≤ 5 ∧ kwT n X p = nI u := by
  unfold kwT
  repeat' split
  all_goals first | exact Or.inl rfl | exact Or.inr ⟨0, by decide, rfl⟩ | exact Or.inr ⟨1, by decide, rfl⟩ | exact Or.inr ⟨2, by decide, rfl⟩ | exact Or.inr ⟨3, by decide, rfl⟩ | exact Or.inr ⟨4, by decide, rfl⟩ | exact Or.inr ⟨5, by decide, rfl⟩
def itT (n : Nat) (X : Nat → Nat) (p : Nat) (b : BB) : Bool × Nat × BB := if gwT n X p = -1 then (if kwT n X p = -1 then (if wdT n X p 104 = true then disT n X p b else (if wdT n X p 101 = true then breT n X p b else (false, p, b))) else galT n X (iN (kwT n X p)) p b) else groT n X p b
theorem nI_nm1 {u : Nat} (h : u ≤ 5) : ¬ nI u = -1 := nI_ne1 (by omega)
theorem x99e {xs : Option (List Int32)} {d n p : Nat} {X : Nat → Nat} {w : List sx_C} {v : Int32} (hI : WI w) (hC : CT n X w) (hT : TK' n X p w) (hp : p ≤ n) (h : gwT n X p = v) : sx_RU xs (d + 1) 99 0 (lv_args 0 [.ref 96]) [] w (some (.int v)) w := by
  have c := x99 (xs := xs) (d := d) hI hC hT hp
  rw [h] at c
  exact c
theorem x105e {xs : Option (List Int32)} {d n p : Nat} {X : Nat → Nat} {w : List sx_C} {v : Int32} (hI : WI w) (hC : CT n X w) (hT : TK' n X p w) (hp : p ≤ n) (h : kwT n X p = v) : sx_RU xs (d + 1) 105 0 (lv_args 0 [.ref 96]) [] w (some (.int v)) w := by
  have c := x105 (xs := xs) (d := d) hI hC hT hp
  rw [h] at c
  exact c
set_option maxRecDepth 20000 in
set_option maxHeartbeats 4000000 in
theorem X98 {xs : Option (List Int32)} {d : Nat} {w : List sx_C} (hI : WI w) {n p : Nat} {X : Nat → Nat} {b : BB} (hC : CT n X w) (hT : TK' n X p w) (hp : p ≤ n) (hB : campB w 29 = b) : sx_RP xs (d + 5) 98 0 (lv_args 0 [.ref 96, .ref 29]) [] w (fun r w2 => (r = some (.int (b01 (itT n X p b).1)) ∧ Rd n X (itT n X p b) w2) ∧ WI w2 ∧ CT n X w2 ∧ OffT w w2) := by
  refine sx_RP.step (pc2 := 1) (ls2 := [(0, .ref 96), (1, .ref 29)]) (st2 := [.ref 96]) (w3 := w) rfl rfl ?_
  rcases gw_rng n X p with c1 | ⟨u2, hu3, c1⟩
  · refine sx_RP.cu (as := [.ref 96]) (rest2 := []) (st3 := [.int (-1)]) rfl rfl (sx_inv_v2 (mi := 98) (k := 36) (st := [.ref 96]) (w := w) rfl rfl hI.1.o96 rfl rfl rfl) rfl rfl (x99e hI hC hT hp c1) rfl ?_
    refine sx_RP.step (pc2 := 5) (ls2 := [(2, .int (-1)), (0, .ref 96), (1, .ref 29)]) (st2 := []) (w3 := w) rfl rfl ?_
    refine sx_RP.step (pc2 := 6) (ls2 := [(2, .int (-1)), (0, .ref 96), (1, .ref 29)]) (st2 := [.int (-1)]) (w3 := w) rfl rfl ?_
    refine sx_RP.step (pc2 := 7) (ls2 := [(2, .int (-1)), (0, .ref 96), (1, .ref 29)]) (st2 := [.int (-1), .int (-1)]) (w3 := w) rfl rfl ?_
    refine sx_RP.step (pc2 := 17) (ls2 := [(2, .int (-1)), (0, .ref 96), (1, .ref 29)]) (st2 := []) (w3 := w) rfl rfl ?_
    refine sx_RP.step (pc2 := 18) (ls2 := [(2, .int (-1)), (0, .ref 96), (1, .ref 29)]) (st2 := [.ref 96]) (w3 := w) rfl rfl ?_
    rcases kw_rng n X p with c4 | ⟨u5, hu6, c4⟩
    · refine sx_RP.cu (as := [.ref 96]) (rest2 := []) (st3 := [.int (-1)]) rfl rfl (sx_inv_v2 (mi := 98) (k := 44) (st := [.ref 96]) (w := w) rfl rfl hI.1.o96 rfl rfl rfl) rfl rfl (x105e hI hC hT hp c4) rfl ?_
      refine sx_RP.step (pc2 := 22) (ls2 := [(3, .int (-1)), (2, .int (-1)), (0, .ref 96), (1, .ref 29)]) (st2 := []) (w3 := w) rfl rfl ?_
      refine sx_RP.step (pc2 := 23) (ls2 := [(3, .int (-1)), (2, .int (-1)), (0, .ref 96), (1, .ref 29)]) (st2 := [.int (-1)]) (w3 := w) rfl rfl ?_
      refine sx_RP.step (pc2 := 24) (ls2 := [(3, .int (-1)), (2, .int (-1)), (0, .ref 96), (1, .ref 29)]) (st2 := [.int (-1), .int (-1)]) (w3 := w) rfl rfl ?_
      refine sx_RP.step (pc2 := 34) (ls2 := [(3, .int (-1)), (2, .int (-1)), (0, .ref 96), (1, .ref 29)]) (st2 := []) (w3 := w) rfl rfl ?_
      refine sx_RP.step (pc2 := 35) (ls2 := [(3, .int (-1)), (2, .int (-1)), (0, .ref 96), (1, .ref 29)]) (st2 := [.ref 96]) (w3 := w) rfl rfl ?_
      refine sx_RP.step (pc2 := 37) (ls2 := [(3, .int (-1)), (2, .int (-1)), (0, .ref 96), (1, .ref 29)]) (st2 := [.float 104, .ref 96]) (w3 := w) rfl rfl ?_
      rcases Bool.eq_false_or_eq_true (wdT n X p (104 : UInt32)) with c7 | c7
      · refine sx_RP.cu (as := [.ref 96, .float 104]) (rest2 := []) (st3 := [.int 1]) rfl rfl (sx_inv_v2 (mi := 98) (k := 52) (st := [.float 104, .ref 96]) (w := w) rfl rfl hI.1.o96 rfl rfl rfl) rfl rfl (x101t (k := (104 : UInt32)) (m := 4) hI hC hT hp (by decide) rfl (by decide) c7) rfl ?_
        refine sx_RP.step (pc2 := 43) (ls2 := [(3, .int (-1)), (2, .int (-1)), (0, .ref 96), (1, .ref 29)]) (st2 := []) (w3 := w) rfl rfl ?_
        refine sx_RP.step (pc2 := 44) (ls2 := [(3, .int (-1)), (2, .int (-1)), (0, .ref 96), (1, .ref 29)]) (st2 := [.ref 96]) (w3 := w) rfl rfl ?_
        refine sx_RP.step (pc2 := 45) (ls2 := [(3, .int (-1)), (2, .int (-1)), (0, .ref 96), (1, .ref 29)]) (st2 := [.ref 29, .ref 96]) (w3 := w) rfl rfl ?_
        refine sx_RP.callp (as2 := [.ref 96, .ref 29]) (rest2 := []) rfl rfl (sx_inv_v2 (mi := 98) (k := 56) (st := [.ref 29, .ref 96]) (w := w) rfl rfl hI.1.o96 rfl rfl rfl) rfl rfl rfl (X109 hI hC hT hp hB) (show _ = 48 from rfl) ?_
        rintro r4 w11 ⟨⟨rfl, hr8⟩, hI12, hC9, hO10⟩
        show sx_RP _ _ _ _ _ [.int (b01 (disT n X p b).1)] _ _
        refine sx_RP.ret (r := (some (.int (b01 (disT n X p b).1)))) rfl (b01_r98 _) ?_
        rw [show itT n X p b = disT n X p b by unfold itT; rw [if_pos c1, if_pos c4, if_pos c7]]
        exact ⟨⟨rfl, hr8⟩, hI12, hC9, hO10⟩
      · refine sx_RP.cu (as := [.ref 96, .float 104]) (rest2 := []) (st3 := [.int 0]) rfl rfl (sx_inv_v2 (mi := 98) (k := 52) (st := [.float 104, .ref 96]) (w := w) rfl rfl hI.1.o96 rfl rfl rfl) rfl rfl (x101f (k := (104 : UInt32)) (m := 4) hI hC hT hp (by decide) rfl (by decide) c7) rfl ?_
        refine sx_RP.step (pc2 := 49) (ls2 := [(3, .int (-1)), (2, .int (-1)), (0, .ref 96), (1, .ref 29)]) (st2 := []) (w3 := w) rfl rfl ?_
        refine sx_RP.step (pc2 := 50) (ls2 := [(3, .int (-1)), (2, .int (-1)), (0, .ref 96), (1, .ref 29)]) (st2 := [.ref 96]) (w3 := w) rfl rfl ?_
        refine sx_RP.step (pc2 := 52) (ls2 := [(3, .int (-1)), (2, .int (-1)), (0, .ref 96), (1, .ref 29)]) (st2 := [.float 101, .ref 96]) (w3 := w) rfl rfl ?_
        rcases Bool.eq_false_or_eq_true (wdT n X p (101 : UInt32)) with c13 | c13
        · refine sx_RP.cu (as := [.ref 96, .float 101]) (rest2 := []) (st3 := [.int 1]) rfl rfl (sx_inv_v2 (mi := 98) (k := 52) (st := [.float 101, .ref 96]) (w := w) rfl rfl hI.1.o96 rfl rfl rfl) rfl rfl (x101t (k := (101 : UInt32)) (m := 5) hI hC hT hp (by decide) rfl (by decide) c13) rfl ?_
          refine sx_RP.step (pc2 := 58) (ls2 := [(3, .int (-1)), (2, .int (-1)), (0, .ref 96), (1, .ref 29)]) (st2 := []) (w3 := w) rfl rfl ?_
          refine sx_RP.step (pc2 := 59) (ls2 := [(3, .int (-1)), (2, .int (-1)), (0, .ref 96), (1, .ref 29)]) (st2 := [.ref 96]) (w3 := w) rfl rfl ?_
          refine sx_RP.step (pc2 := 60) (ls2 := [(3, .int (-1)), (2, .int (-1)), (0, .ref 96), (1, .ref 29)]) (st2 := [.ref 29, .ref 96]) (w3 := w) rfl rfl ?_
          refine sx_RP.callp (as2 := [.ref 96, .ref 29]) (rest2 := []) rfl rfl (sx_inv_v2 (mi := 98) (k := 61) (st := [.ref 29, .ref 96]) (w := w) rfl rfl hI.1.o96 rfl rfl rfl) rfl rfl rfl (X110 hI hC hT hp hB) (show _ = 63 from rfl) ?_
          rintro r4 w17 ⟨⟨rfl, hr14⟩, hI18, hC15, hO16⟩
          show sx_RP _ _ _ _ _ [.int (b01 (breT n X p b).1)] _ _
          refine sx_RP.br (p1 := 70) (l1 := [(3, .int (-1)), (2, .int (-1)), (0, .ref 96), (1, .ref 29)]) (s1 := []) (v1 := w17) (p2 := 66) (l2 := [(3, .int (-1)), (2, .int (-1)), (0, .ref 96), (1, .ref 29)]) (s2 := []) (v2 := w17) rfl rfl (fun q19 => ?_) (fun q19 => ?_)
          · replace q19 := of_decide_eq_true q19
            refine sx_RP.step (pc2 := 71) (ls2 := [(3, .int (-1)), (2, .int (-1)), (0, .ref 96), (1, .ref 29)]) (st2 := [.int 0]) (w3 := w17) rfl rfl ?_
            refine sx_RP.ret (r := (some (.int 0))) rfl rfl ?_
            rw [show itT n X p b = breT n X p b by unfold itT; rw [if_pos c1, if_pos c4, if_neg (by rw [c7]; decide), if_pos c13]]
            exact ⟨⟨by rw [b01_f q19]; rfl, hr14⟩, hI18, hC15, hO16⟩
          · replace q19 := of_decide_eq_false q19
            refine sx_RP.step (pc2 := 67) (ls2 := [(3, .int (-1)), (2, .int (-1)), (0, .ref 96), (1, .ref 29)]) (st2 := [.int 1]) (w3 := w17) rfl rfl ?_
            refine sx_RP.step (pc2 := 71) (ls2 := [(3, .int (-1)), (2, .int (-1)), (0, .ref 96), (1, .ref 29)]) (st2 := [.int 1]) (w3 := w17) rfl rfl ?_
            refine sx_RP.ret (r := (some (.int 1))) rfl rfl ?_
            rw [show itT n X p b = breT n X p b by unfold itT; rw [if_pos c1, if_pos c4, if_neg (by rw [c7]; decide), if_pos c13]]
            exact ⟨⟨by rw [b01_t q19]; rfl, hr14⟩, hI18, hC15, hO16⟩
        · refine sx_RP.cu (as := [.ref 96, .float 101]) (rest2 := []) (st3 := [.int 0]) rfl rfl (sx_inv_v2 (mi := 98) (k := 52) (st := [.float 101, .ref 96]) (w := w) rfl rfl hI.1.o96 rfl rfl rfl) rfl rfl (x101f (k := (101 : UInt32)) (m := 5) hI hC hT hp (by decide) rfl (by decide) c13) rfl ?_
          refine sx_RP.step (pc2 := 70) (ls2 := [(3, .int (-1)), (2, .int (-1)), (0, .ref 96), (1, .ref 29)]) (st2 := []) (w3 := w) rfl rfl ?_
          refine sx_RP.step (pc2 := 71) (ls2 := [(3, .int (-1)), (2, .int (-1)), (0, .ref 96), (1, .ref 29)]) (st2 := [.int 0]) (w3 := w) rfl rfl ?_
          refine sx_RP.ret (r := (some (.int 0))) rfl rfl ?_
          rw [show itT n X p b = (false, p, b) by unfold itT; rw [if_pos c1, if_pos c4, if_neg (by rw [c7]; decide), if_neg (by rw [c13]; decide)]]
          exact ⟨⟨rfl, hT, fun z => absurd (show false = true from z) (by decide)⟩, hI, hC, OffT.rf⟩
    · refine sx_RP.cu (as := [.ref 96]) (rest2 := []) (st3 := [.int (nI u5)]) rfl rfl (sx_inv_v2 (mi := 98) (k := 44) (st := [.ref 96]) (w := w) rfl rfl hI.1.o96 rfl rfl rfl) rfl rfl (x105e hI hC hT hp c4) rfl ?_
      refine sx_RP.step (pc2 := 22) (ls2 := [(3, .int (nI u5)), (2, .int (-1)), (0, .ref 96), (1, .ref 29)]) (st2 := []) (w3 := w) rfl rfl ?_
      refine sx_RP.step (pc2 := 23) (ls2 := [(3, .int (nI u5)), (2, .int (-1)), (0, .ref 96), (1, .ref 29)]) (st2 := [.int (nI u5)]) (w3 := w) rfl rfl ?_
      refine sx_RP.step (pc2 := 24) (ls2 := [(3, .int (nI u5)), (2, .int (-1)), (0, .ref 96), (1, .ref 29)]) (st2 := [.int (-1), .int (nI u5)]) (w3 := w) rfl rfl ?_
      refine sx_RP.br (p2 := 27) (l2 := [(3, .int (nI u5)), (2, .int (-1)), (0, .ref 96), (1, .ref 29)]) (s2 := []) (v2 := w) rfl rfl (fun q => absurd (of_decide_eq_true q) (nI_ne1 (by omega))) (fun _ => ?_)
      refine sx_RP.step (pc2 := 28) (ls2 := [(3, .int (nI u5)), (2, .int (-1)), (0, .ref 96), (1, .ref 29)]) (st2 := [.ref 96]) (w3 := w) rfl rfl ?_
      refine sx_RP.step (pc2 := 29) (ls2 := [(3, .int (nI u5)), (2, .int (-1)), (0, .ref 96), (1, .ref 29)]) (st2 := [.int (nI u5), .ref 96]) (w3 := w) rfl rfl ?_
      refine sx_RP.step (pc2 := 30) (ls2 := [(3, .int (nI u5)), (2, .int (-1)), (0, .ref 96), (1, .ref 29)]) (st2 := [.ref 29, .int (nI u5), .ref 96]) (w3 := w) rfl rfl ?_
      refine sx_RP.callp (as2 := [.ref 96, .int (nI u5), .ref 29]) (rest2 := []) rfl rfl (sx_inv_v2 (mi := 98) (k := 47) (st := [.ref 29, .int (nI u5), .ref 96]) (w := w) rfl rfl hI.1.o96 rfl rfl rfl) rfl rfl rfl (X107 (k := u5) hI (by omega) hC hT hp hB) (show _ = 33 from rfl) ?_
      rintro r4 w23 ⟨⟨rfl, hr20⟩, hI24, hC21, hO22⟩
      show sx_RP _ _ _ _ _ [.int (b01 (galT n X u5 p b).1)] _ _
      refine sx_RP.ret (r := (some (.int (b01 (galT n X u5 p b).1)))) rfl (b01_r98 _) ?_
      rw [show itT n X p b = galT n X u5 p b by unfold itT; rw [if_pos c1, if_neg (by rw [c4]; exact nI_nm1 (by omega)), c4, iN_n (by omega)]]
      exact ⟨⟨rfl, hr20⟩, hI24, hC21, hO22⟩
  · refine sx_RP.cu (as := [.ref 96]) (rest2 := []) (st3 := [.int (nI u2)]) rfl rfl (sx_inv_v2 (mi := 98) (k := 36) (st := [.ref 96]) (w := w) rfl rfl hI.1.o96 rfl rfl rfl) rfl rfl (x99e hI hC hT hp c1) rfl ?_
    refine sx_RP.step (pc2 := 5) (ls2 := [(2, .int (nI u2)), (0, .ref 96), (1, .ref 29)]) (st2 := []) (w3 := w) rfl rfl ?_
    refine sx_RP.step (pc2 := 6) (ls2 := [(2, .int (nI u2)), (0, .ref 96), (1, .ref 29)]) (st2 := [.int (nI u2)]) (w3 := w) rfl rfl ?_
    refine sx_RP.step (pc2 := 7) (ls2 := [(2, .int (nI u2)), (0, .ref 96), (1, .ref 29)]) (st2 := [.int (-1), .int (nI u2)]) (w3 := w) rfl rfl ?_
    refine sx_RP.br (p2 := 10) (l2 := [(2, .int (nI u2)), (0, .ref 96), (1, .ref 29)]) (s2 := []) (v2 := w) rfl rfl (fun q => absurd (of_decide_eq_true q) (nI_ne1 (by omega))) (fun _ => ?_)
    refine sx_RP.step (pc2 := 11) (ls2 := [(2, .int (nI u2)), (0, .ref 96), (1, .ref 29)]) (st2 := [.ref 96]) (w3 := w) rfl rfl ?_
    refine sx_RP.step (pc2 := 12) (ls2 := [(2, .int (nI u2)), (0, .ref 96), (1, .ref 29)]) (st2 := [.int (nI u2), .ref 96]) (w3 := w) rfl rfl ?_
    refine sx_RP.step (pc2 := 13) (ls2 := [(2, .int (nI u2)), (0, .ref 96), (1, .ref 29)]) (st2 := [.ref 29, .int (nI u2), .ref 96]) (w3 := w) rfl rfl ?_
    refine sx_RP.callp (as2 := [.ref 96, .int (nI u2), .ref 29]) (rest2 := []) rfl rfl (sx_inv_v2 (mi := 98) (k := 40) (st := [.ref 29, .int (nI u2), .ref 96]) (w := w) rfl rfl hI.1.o96 rfl rfl rfl) rfl rfl rfl (X102 (u := u2) (by omega) hI hC hT hp hB) (show _ = 16 from rfl) ?_
    rintro r4 w28 ⟨⟨rfl, hr25⟩, hI29, hC26, hO27⟩
    show sx_RP _ _ _ _ _ [.int (b01 (groT n X p b).1)] _ _
    refine sx_RP.ret (r := (some (.int (b01 (groT n X p b).1)))) rfl (b01_r98 _) ?_
    rw [show itT n X p b = groT n X p b by unfold itT; rw [if_neg (by rw [c1]; exact nI_nm1 (by omega))]]
    exact ⟨⟨rfl, hr25⟩, hI29, hC26, hO27⟩
theorem disT_le {n p : Nat} {X : Nat → Nat} {b : BB} (h : p ≤ n) : (disT n X p b).2.1 ≤ n := by
  unfold disT
  repeat' split
  all_goals first | exact nP_le (nP_le h) | exact nP_le h | exact h
theorem galT_le {n k p : Nat} {X : Nat → Nat} {b : BB} (h : p ≤ n) : (galT n X k p b).2.1 ≤ n := by
  unfold galT
  repeat' split
  all_goals first | exact h | exact nP_le h | exact wtT_le (nP_le (nP_le h)) | exact wtT_le (nP_le (wtT_le (nP_le (nP_le h)))) | exact nP_le (wtT_le (nP_le (wtT_le (nP_le (nP_le h)))))
theorem br2_le {n p : Nat} {X : Nat → Nat} {b : BB} (h : p ≤ n) : (br2 n X p b).2.1 ≤ n := by
  unfold br2
  repeat' split
  all_goals first | exact h | exact nP_le (wtT_le h) | exact wtT_le h
theorem br1_le {n p : Nat} {X : Nat → Nat} {b : BB} (h : p ≤ n) : (br1 n X p b).2.1 ≤ n := by
  unfold br1
  repeat' split
  all_goals first | exact br2_le h | exact br2_le (nP_le (wtT_le h)) | exact wtT_le h
theorem breT_le {n p : Nat} {X : Nat → Nat} {b : BB} (h : p ≤ n) : (breT n X p b).2.1 ≤ n := by
  unfold breT
  split
  · exact br1_le (nP_le (nP_le h))
  · exact nP_le h
theorem grT_le {n l p : Nat} {X : Nat → Nat} {b : BB} (h : p ≤ n) : (grT n X b l p).2.1 ≤ n := by
  unfold grT
  repeat' split
  all_goals first | exact h | exact nP_le (nP_le h) | exact nP_le h
theorem grL_le {n : Nat} {X : Nat → Nat} {b : BB} : ∀ f l p, p ≤ n → (grL n X b f l p).2.1 ≤ n
  | 0, l, p, h => grT_le h
  | f + 1, l, p, h => by
    unfold grL
    split
    · split
      · exact grL_le f _ _ (nP_le h)
      · exact h
    · exact grT_le h
theorem groT_le {n p : Nat} {X : Nat → Nat} {b : BB} (h : p ≤ n) : (groT n X p b).2.1 ≤ n := by
  unfold groT
  split
  · exact grL_le _ _ _ (nP_le (nP_le h))
  · exact nP_le h
theorem itT_le {n p : Nat} {X : Nat → Nat} {b : BB} (h : p ≤ n) : (itT n X p b).2.1 ≤ n := by
  unfold itT
  repeat' split
  all_goals first | exact disT_le h | exact breT_le h | exact galT_le h | exact groT_le h | exact h
