-- siege of the reference over rows
theorem disW_ge {n p : Nat} {X : Nat → Nat} {b : List Int32} {z : Nat} (h : z ≤ p) : z ≤ (disW n X p b).2.1 := by
  unfold disW
  repeat' split
  all_goals first | exact nP_ge (nP_ge h) | exact nP_ge h | exact h
theorem galX_ge {n k s p : Nat} {X : Nat → Nat} {b : List Int32} {z : Nat} (h : z ≤ p) : z ≤ (galX n X k s p b).2.1 := by
  unfold galX
  repeat' split
  all_goals first | exact wtT_ge (nP_ge (nP_ge h)) | exact wtT_ge (nP_ge (wtT_ge (nP_ge (nP_ge h)))) | exact nP_ge (wtT_ge (nP_ge (wtT_ge (nP_ge (nP_ge h)))))
theorem galW_ge {n k p : Nat} {X : Nat → Nat} {b : List Int32} {z : Nat} (h : z ≤ p) : z ≤ (galW n X k p b).2.1 := by
  unfold galW
  repeat' split
  all_goals first | exact galX_ge h | exact nP_ge h | exact h
theorem bw2_ge {n p : Nat} {X : Nat → Nat} {b : List Int32} {z : Nat} (h : z ≤ p) : z ≤ (bw2 n X p b).2.1 := by
  unfold bw2
  repeat' split
  all_goals first | exact h | exact nP_ge (wtT_ge h) | exact wtT_ge h
theorem bw1_ge {n p : Nat} {X : Nat → Nat} {b : List Int32} {z : Nat} (h : z ≤ p) : z ≤ (bw1 n X p b).2.1 := by
  unfold bw1
  repeat' split
  all_goals first | exact bw2_ge h | exact bw2_ge (nP_ge (wtT_ge h)) | exact wtT_ge h
theorem breW_ge {n p : Nat} {X : Nat → Nat} {b : List Int32} {z : Nat} (h : z ≤ p) : z ≤ (breW n X p b).2.1 := by
  unfold breW
  split
  · exact bw1_ge (nP_ge (nP_ge h))
  · exact nP_ge h
theorem grW_ge {n u l p : Nat} {X : Nat → Nat} {b : List Int32} {z : Nat} (h : z ≤ p) : z ≤ (grW n X u l p b).2.1 := by
  unfold grW
  repeat' split
  all_goals first | exact h | exact nP_ge (nP_ge h) | exact nP_ge h
theorem gwL_ge {n u : Nat} {X : Nat → Nat} {z : Nat} : ∀ f l p b, z ≤ p → z ≤ (gwL n X u f l p b).2.1
  | 0, l, p, b, h => grW_ge h
  | f + 1, l, p, b, h => by
    unfold gwL
    split
    · split
      · exact gwL_ge f _ _ _ (nP_ge h)
      · exact h
    · exact grW_ge h
theorem groW_ge {n u p : Nat} {X : Nat → Nat} {b : List Int32} {z : Nat} (h : z ≤ p) : z ≤ (groW n X u p b).2.1 := by
  unfold groW
  split
  · exact gwL_ge _ _ _ _ (nP_ge (nP_ge h))
  · exact nP_ge h
theorem itW_ge {n p : Nat} {X : Nat → Nat} {b : List Int32} {z : Nat} (h : z ≤ p) : z ≤ (itW n X p b).2.1 := by
  unfold itW
  by_cases c1 : gwT n X p = -1
  · rw [if_pos c1]
    by_cases c2 : kwT n X p = -1
    · rw [if_pos c2]
      by_cases c3 : wdT n X p 104 = true
      · rw [if_pos c3]
        exact disW_ge h
      · rw [if_neg c3]
        by_cases c4 : wdT n X p 101 = true
        · rw [if_pos c4]
          exact breW_ge h
        · rw [if_neg c4]
          exact h
    · rw [if_neg c2]
      exact galW_ge h
  · rw [if_neg c1]
    exact groW_ge h
theorem row_n {w : List sx_C} {b : List Int32} (hI : WI w) (hB : ia w 112 = b) : ∃ u m, u ≤ 10 ∧ m ≤ 9 ∧ b.getD 1 0 = nI u ∧ b.getD 2 0 = nI m := by
  obtain ⟨u, hu, e⟩ := (hI.sA (a := 112) (by decide) 1 (by decide)).1 rfl
  obtain ⟨m, hm, e2⟩ := (hI.sA (a := 112) (by decide) 2 (by decide)).2.1 rfl
  rw [hB] at e e2
  exact ⟨u, m, hu, hm, e, e2⟩
theorem uF {w0 w : List sx_C} {n p : Nat} {b : List Int32} (hO : OM w0 w) (hn : n ≤ 120) (hp : p ≤ n) : ∀ r w2, (r = some (Value.int (-1 - nI p)) ∧ ia w2 112 = ia w 115 ∧ fi w2 111 11 = 0) ∧ WI w2 ∧ OE w w2 → (r = some (.int (((-1 - nI p, b) : Int32 × List Int32)).1) ∧ ia w2 112 = (if 0 ≤ (((-1 - nI p, b) : Int32 × List Int32)).1 then (((-1 - nI p, b) : Int32 × List Int32)).2 else ia w0 115) ∧ fi w2 111 11 = 0) ∧ WI w2 ∧ OE w0 w2 := by
  rintro r w2 ⟨⟨h1, h2, h3⟩, h4, h5⟩
  refine ⟨⟨h1, ?_, h3⟩, h4, hO.oe.tr h5⟩
  rw [if_neg (neg_p (show p ≤ 120 by omega)), h2, ia_of (hO.1 115 (by decide) (by decide))]
theorem uG {w0 w : List sx_C} {it : Nat} {b : List Int32} (hO : OM w0 w) (hB : ia w 112 = b) (hi : it < 2 ^ 31) : ∀ r w2, (r = some (Value.int (nI it)) ∧ ia w2 112 = ia w 112 ∧ fi w2 111 11 = 0) ∧ WI w2 ∧ OE w w2 → (r = some (.int (((nI it, b) : Int32 × List Int32)).1) ∧ ia w2 112 = (if 0 ≤ (((nI it, b) : Int32 × List Int32)).1 then (((nI it, b) : Int32 × List Int32)).2 else ia w0 115) ∧ fi w2 111 11 = 0) ∧ WI w2 ∧ OE w0 w2 := by
  rintro r w2 ⟨⟨h1, h2, h3⟩, h4, h5⟩
  refine ⟨⟨h1, ?_, h3⟩, h4, hO.oe.tr h5⟩
  rw [if_pos (show (0 : Int32) ≤ nI it from nI_le (a := 0) (b := it) (Nat.zero_le _) (by omega)), h2, hB]
set_option maxRecDepth 20000 in
set_option maxHeartbeats 4000000 in
theorem U210L {xs : Option (List Int32)} {d n : Nat} {X : Nat → Nat} {w0 : List sx_C} : ∀ (fz it h q : Nat) (b : List Int32) (w : List sx_C), n + 1 ≤ fz + q → it + fz ≤ 121 → h ≤ n → rE blk n X h = q → WI w → MT n X w → fi w 111 12 = nI h → fi w 111 13 = -1 → ia w 112 = b → OM w0 w → sx_RP xs (d + 8) 210 25 [(0, .ref 111), (1, .int (nI it)), (2, .int 1)] [] w (fun r w2 => (r = some (.int (teW n X fz it q b).1) ∧ ia w2 112 = (if 0 ≤ (teW n X fz it q b).1 then (teW n X fz it q b).2 else ia w0 115) ∧ fi w2 111 11 = 0) ∧ WI w2 ∧ OE w0 w2)
  | 0, it, h, q, b, w, h0, hi, hp, hP, hI, hM, ep, ef, hB, hO => absurd (show q ≤ n by rw [← hP]; exact rE_le hp) (by omega)
  | fz + 1, it, h, q, b, w, h0, hi, hp, hP, hI, hM, ep, ef, hB, hO => by
    have hn := hM.2.1
    have hpl : q ≤ n := by rw [← hP]; exact rE_le hp
    refine sx_RP.step (pc2 := 26) (ls2 := [(0, .ref 111), (1, .int (nI it)), (2, .int 1)]) (st2 := [.int 1]) (w3 := w) rfl rfl ?_
    refine sx_RP.step (pc2 := 29) (ls2 := [(0, .ref 111), (1, .int (nI it)), (2, .int 1)]) (st2 := []) (w3 := w) rfl rfl ?_
    refine sx_RP.step (pc2 := 30) (ls2 := [(0, .ref 111), (1, .int (nI it)), (2, .int 1)]) (st2 := [.ref 111]) (w3 := w) rfl rfl ?_
    obtain ⟨u9, m9, hu9, hm9, eu9, em9⟩ := row_n hI hB
    refine sx_RP.callp (as2 := [.ref 111]) (rest2 := []) rfl rfl (sx_inv_v2 (mi := 210) (k := 333) (st := [.ref 111]) (w := w) rfl rfl hI.1.o111 rfl rfl rfl) rfl rfl rfl (U211 hI hM hp ep ef hP hB eu9 em9 hu9 hm9) (show _ = 33 from rfl) ?_
    rintro r4 w3 ⟨⟨rfl, hr1⟩, hI4, hO2⟩
    show sx_RP _ _ _ _ _ [.int (b01 (itW n X q b).1)] _ _
    have hM5 := hM.om hO2
    have hO6 := hO.tr hO2
    refine sx_RP.br (p1 := 83) (l1 := [(0, .ref 111), (1, .int (nI it)), (2, .int 1)]) (s1 := []) (v1 := w3) (p2 := 36) (l2 := [(0, .ref 111), (1, .int (nI it)), (2, .int 1)]) (s2 := []) (v2 := w3) rfl rfl (fun q7 => ?_) (fun q7 => ?_)
    · replace q7 := of_decide_eq_true q7
      have eR : teW n X (fz + 1) it q b = (-1 - nI (itW n X q b).2.1, b) := by unfold teW; rw [if_neg (by rw [b01_f q7]; decide)]
      rw [eR]
      refine sx_RP.ls (sx_lr.cons rfl (sx_lr.cons rfl (sx_lr.cons rfl sx_lr.nil))) ((y210a (p := (itW n X q b).2.1) hI4 hM5 (itW_le hpl) (hr1.2 (b01_f q7))).mono9 (uF hO6 (by omega) (itW_le hpl)))
    · replace q7 := of_decide_eq_false q7
      refine sx_RP.step (pc2 := 39) (ls2 := [(1, .int ((nI it) + 1)), (0, .ref 111), (2, .int 1)]) (st2 := []) (w3 := w3) rfl rfl ?_
      rw [nI_1 it]
      refine sx_RP.step (pc2 := 40) (ls2 := [(1, .int (nI (it + 1))), (0, .ref 111), (2, .int 1)]) (st2 := [.ref 111]) (w3 := w3) rfl rfl ?_
      obtain ⟨ef2, hB2, h2, hp2, ep2, hP2⟩ := hr1.1 (b01_t q7)
      refine sx_RP.callp (as2 := [.ref 111]) (rest2 := []) rfl rfl (sx_inv_v2 (mi := 210) (k := 224) (st := [.ref 111]) (w := w3) rfl rfl hI4.1.o111 rfl rfl rfl) rfl rfl rfl (y215 hI4 hM5 hp2 ep2) (show _ = 43 from rfl) ?_
      rintro r4 w11 ⟨⟨rfl, ep8⟩, hI12, hO9⟩
      show sx_RP _ _ _ _ _ [] _ _
      rw [hP2] at ep8
      have ef13 := (hO9.2 13 (by decide)).trans ef2
      have hq2 : (itW n X q b).2.1 ≤ n := itW_le hpl
      have hq3 : q ≤ (itW n X q b).2.1 := itW_ge (Nat.le_refl q)
      have hP3 : rE blk n X (itW n X q b).2.1 = (itW n X q b).2.1 := by rw [← hP2]; exact rE_rE
      have hM14 := hM5.hs hO9.hs
      have hO15 := hO6.tr (HS.om hO9.hs)
      have hB16 : ia w11 112 = (itW n X q b).2.2 := by rw [HS.row hO9.hs]; exact hB2
      refine sx_RP.step (pc2 := 44) (ls2 := [(1, .int (nI (it + 1))), (0, .ref 111), (2, .int 1)]) (st2 := [.ref 111]) (w3 := w11) rfl rfl ?_
      refine sx_RP.step (pc2 := 45) (ls2 := [(1, .int (nI (it + 1))), (0, .ref 111), (2, .int 1)]) (st2 := [.ref 111, .ref 111]) (w3 := w11) rfl rfl ?_
      refine sx_RP.gf (v := .int (fi w11 111 12)) rfl rfl hI12.1.o111 rfl rfl (show _ = 48 from rfl) ?_
      rw [ep8]
      refine sx_RP.cu (as := [.ref 111, .int (nI ((itW n X q b).2.1))]) (rest2 := []) (st3 := [.int (bA n X (itW n X q b).2.1)]) rfl rfl (sx_inv_v2 (mi := 210) (k := 215) (st := [.int (nI ((itW n X q b).2.1)), .ref 111]) (w := w11) rfl rfl hI12.1.o111 rfl rfl rfl) rfl rfl (y216 hI12 hM14 (by omega)) rfl ?_
      refine sx_RP.step (pc2 := 53) (ls2 := [(1, .int (nI (it + 1))), (0, .ref 111), (2, .int 1)]) (st2 := [.int 59, .int (bA n X (itW n X q b).2.1)]) (w3 := w11) rfl rfl ?_
      refine sx_RP.br (p1 := 60) (l1 := [(1, .int (nI (it + 1))), (0, .ref 111), (2, .int 1)]) (s1 := []) (v1 := w11) (p2 := 56) (l2 := [(1, .int (nI (it + 1))), (0, .ref 111), (2, .int 1)]) (s2 := []) (v2 := w11) rfl rfl (fun q17 => ?_) (fun q17 => ?_)
      · replace q17 := of_decide_eq_true q17
        refine sx_RP.step (pc2 := 61) (ls2 := [(1, .int (nI (it + 1))), (0, .ref 111), (2, .int 1)]) (st2 := [.int 0]) (w3 := w11) rfl rfl ?_
        refine sx_RP.step (pc2 := 62) (ls2 := [(2, .int 0), (1, .int (nI (it + 1))), (0, .ref 111)]) (st2 := []) (w3 := w11) rfl rfl ?_
        refine sx_RP.step (pc2 := 63) (ls2 := [(2, .int 0), (1, .int (nI (it + 1))), (0, .ref 111)]) (st2 := [.ref 111]) (w3 := w11) rfl rfl ?_
        refine sx_RP.step (pc2 := 64) (ls2 := [(2, .int 0), (1, .int (nI (it + 1))), (0, .ref 111)]) (st2 := [.ref 111, .ref 111]) (w3 := w11) rfl rfl ?_
        refine sx_RP.gf (v := .int (fi w11 111 12)) rfl rfl hI12.1.o111 rfl rfl (show _ = 67 from rfl) ?_
        rw [ep8]
        refine sx_RP.step (pc2 := 68) (ls2 := [(2, .int 0), (1, .int (nI (it + 1))), (0, .ref 111)]) (st2 := [.int 0, .int (nI ((itW n X q b).2.1)), .ref 111]) (w3 := w11) rfl rfl ?_
        refine sx_RP.step (pc2 := 75) (ls2 := [(2, .int 0), (1, .int (nI (it + 1))), (0, .ref 111)]) (st2 := [.int (nI ((itW n X q b).2.1)), .ref 111]) (w3 := w11) rfl rfl ?_
        refine sx_RP.step (pc2 := 76) (ls2 := [(2, .int 0), (1, .int (nI (it + 1))), (0, .ref 111)]) (st2 := [.int 0, .int (nI ((itW n X q b).2.1)), .ref 111]) (w3 := w11) rfl rfl ?_
        refine sx_RP.step (pc2 := 77) (ls2 := [(2, .int 0), (1, .int (nI (it + 1))), (0, .ref 111)]) (st2 := [.int ((nI ((itW n X q b).2.1)) + 0), .ref 111]) (w3 := w11) rfl rfl ?_
        rw [show ((nI ((itW n X q b).2.1)) + 0 : Int32) = nI (((itW n X q b).2.1) + 0) from nI_add ((itW n X q b).2.1) 0]
        have h59 : ¬ ((itW n X q b).2.1 < n ∧ X (itW n X q b).2.1 = 59) := fun z => q17 ((bA_59 (fun z => hM.x z)).mpr z)
        refine sx_RP.pm (k := 12) hI12 EM.rf rfl rfl (by decide) rfl (inR.n (show (((itW n X q b).2.1) + 0) ≤ 120 by omega)) (show _ = 80 from rfl) (fun w18 hI19 hE20 hv21 hr22 hs23 => ?_)
        have hh24 : H12 w11 w18 := ⟨hs23, hr22⟩
        have ef25 := (hr22 13 (by decide)).trans ef13
        have hM26 := hM14.hs hh24.hs
        have hO27 := hO15.tr (HS.om hh24.hs)
        have hB28 : ia w18 112 = (itW n X q b).2.2 := by rw [HS.row hh24.hs]; exact hB16
        refine sx_RP.step (pc2 := 25) (ls2 := [(2, .int 0), (1, .int (nI (it + 1))), (0, .ref 111)]) (st2 := []) (w3 := w18) rfl rfl ?_
        have hs3 := fun z => h59 ((so_3 (fun i hi => hM.x hi)).mp z)
        refine sx_RP.step (pc2 := 26) (ls2 := [(2, .int 0), (1, .int (nI (it + 1))), (0, .ref 111)]) (st2 := [.int 0]) (w3 := w18) rfl rfl ?_
        refine sx_RP.step (pc2 := 83) (ls2 := [(2, .int 0), (1, .int (nI (it + 1))), (0, .ref 111)]) (st2 := []) (w3 := w18) rfl rfl ?_
        by_cases hlt : (itW n X q b).2.1 < n
        · have eR : teW n X (fz + 1) it q b = (-1 - nI (itW n X q b).2.1, b) := by unfold teW; rw [if_pos (b01_t q7), if_neg (fun z => (so_0 (fun i hi => hM.x hi)).mp z hlt), if_neg hs3]
          rw [eR]
          refine sx_RP.ls (sx_lr.cons rfl (sx_lr.cons rfl (sx_lr.cons rfl sx_lr.nil))) ((y210b (p := (itW n X q b).2.1) hI19 hM26 hq2 ef25 hv21 hlt).mono9 (uF hO27 (by omega) hq2))
        · have eR : teW n X (fz + 1) it q b = (nI (it + 1), (itW n X q b).2.2) := by unfold teW; rw [if_pos (b01_t q7), if_pos ((so_0 (fun i hi => hM.x hi)).mpr hlt)]
          rw [eR]
          refine sx_RP.ls (sx_lr.cons rfl (sx_lr.cons rfl (sx_lr.cons rfl sx_lr.nil))) ((y210c (p := (itW n X q b).2.1) hI19 hM26 hq2 ef25 hv21 hlt).mono9 (uG hO27 hB28 (by omega)))
      · replace q17 := Decidable.not_not.mp (of_decide_eq_false q17)
        refine sx_RP.step (pc2 := 57) (ls2 := [(1, .int (nI (it + 1))), (0, .ref 111), (2, .int 1)]) (st2 := [.int 1]) (w3 := w11) rfl rfl ?_
        refine sx_RP.step (pc2 := 61) (ls2 := [(1, .int (nI (it + 1))), (0, .ref 111), (2, .int 1)]) (st2 := [.int 1]) (w3 := w11) rfl rfl ?_
        refine sx_RP.step (pc2 := 62) (ls2 := [(2, .int 1), (1, .int (nI (it + 1))), (0, .ref 111)]) (st2 := []) (w3 := w11) rfl rfl ?_
        refine sx_RP.step (pc2 := 63) (ls2 := [(2, .int 1), (1, .int (nI (it + 1))), (0, .ref 111)]) (st2 := [.ref 111]) (w3 := w11) rfl rfl ?_
        refine sx_RP.step (pc2 := 64) (ls2 := [(2, .int 1), (1, .int (nI (it + 1))), (0, .ref 111)]) (st2 := [.ref 111, .ref 111]) (w3 := w11) rfl rfl ?_
        refine sx_RP.gf (v := .int (fi w11 111 12)) rfl rfl hI12.1.o111 rfl rfl (show _ = 67 from rfl) ?_
        rw [ep8]
        refine sx_RP.step (pc2 := 68) (ls2 := [(2, .int 1), (1, .int (nI (it + 1))), (0, .ref 111)]) (st2 := [.int 1, .int (nI ((itW n X q b).2.1)), .ref 111]) (w3 := w11) rfl rfl ?_
        refine sx_RP.step (pc2 := 71) (ls2 := [(2, .int 1), (1, .int (nI (it + 1))), (0, .ref 111)]) (st2 := [.int (nI ((itW n X q b).2.1)), .ref 111]) (w3 := w11) rfl rfl ?_
        refine sx_RP.step (pc2 := 72) (ls2 := [(2, .int 1), (1, .int (nI (it + 1))), (0, .ref 111)]) (st2 := [.int 1, .int (nI ((itW n X q b).2.1)), .ref 111]) (w3 := w11) rfl rfl ?_
        refine sx_RP.step (pc2 := 76) (ls2 := [(2, .int 1), (1, .int (nI (it + 1))), (0, .ref 111)]) (st2 := [.int 1, .int (nI ((itW n X q b).2.1)), .ref 111]) (w3 := w11) rfl rfl ?_
        refine sx_RP.step (pc2 := 77) (ls2 := [(2, .int 1), (1, .int (nI (it + 1))), (0, .ref 111)]) (st2 := [.int ((nI ((itW n X q b).2.1)) + 1), .ref 111]) (w3 := w11) rfl rfl ?_
        rw [show ((nI ((itW n X q b).2.1)) + 1 : Int32) = nI (((itW n X q b).2.1) + 1) from nI_add ((itW n X q b).2.1) 1]
        have h59 := (bA_59 (fun z => hM.x z)).mp q17
        refine sx_RP.pm (k := 12) hI12 EM.rf rfl rfl (by decide) rfl (inR.n (show (((itW n X q b).2.1) + 1) ≤ 120 by omega)) (show _ = 80 from rfl) (fun w29 hI30 hE31 hv32 hr33 hs34 => ?_)
        have hh35 : H12 w11 w29 := ⟨hs34, hr33⟩
        have ef36 := (hr33 13 (by decide)).trans ef13
        have hM37 := hM14.hs hh35.hs
        have hO38 := hO15.tr (HS.om hh35.hs)
        have hB39 : ia w29 112 = (itW n X q b).2.2 := by rw [HS.row hh35.hs]; exact hB16
        refine sx_RP.step (pc2 := 25) (ls2 := [(2, .int 1), (1, .int (nI (it + 1))), (0, .ref 111)]) (st2 := []) (w3 := w29) rfl rfl ?_
        have hs3 := (so_3 (fun i hi => hM.x hi)).mpr h59
        have hbe : beT n X (itW n X q b).2.1 = (itW n X q b).2.1 + 1 := be_3 h59.1 ((sort_3 ⟨X (itW n X q b).2.1, hM.x h59.1⟩).mpr h59.2)
        have hnp : rE blk n X ((itW n X q b).2.1 + 1) = nP n X (itW n X q b).2.1 := by unfold nP; rw [hbe]
        have hng : (itW n X q b).2.1 + 1 ≤ nP n X (itW n X q b).2.1 := by rw [← hnp]; exact rE_ge
        have eR : teW n X (fz + 1) it q b = teW n X fz (it + 1) (nP n X (itW n X q b).2.1) (itW n X q b).2.2 := by conv => lhs; unfold teW; rw [if_pos (b01_t q7), if_neg (show ¬ soT n X (itW n X q b).2.1 = 0 by rw [hs3]; decide), if_pos hs3]
        rw [eR]
        exact sx_RP.ls (sx_lr.cons rfl (sx_lr.cons rfl (sx_lr.cons rfl sx_lr.nil))) (U210L fz (it + 1) ((itW n X q b).2.1 + 1) (nP n X (itW n X q b).2.1) (itW n X q b).2.2 w29 (by omega) (by omega) (by omega) hnp hI30 hM37 hv32 ef36 hB39 hO38)
set_option maxRecDepth 20000 in
set_option maxHeartbeats 4000000 in
theorem U210 {xs : Option (List Int32)} {d : Nat} {w : List sx_C} (hI : WI w) {n : Nat} {X : Nat → Nat} (hM : MT n X w) : sx_RP xs (d + 8) 210 0 (lv_args 0 [.ref 111]) [] w (fun r w2 => (r = some (.int (teW n X 121 0 (rE blk n X 0) (ia w 112)).1) ∧ ia w2 112 = (if 0 ≤ (teW n X 121 0 (rE blk n X 0) (ia w 112)).1 then (teW n X 121 0 (rE blk n X 0) (ia w 112)).2 else ia w 112) ∧ fi w2 111 11 = 0 ∧ ∀ j, j < 11 → fi w2 111 j = fi w 111 j) ∧ WI w2 ∧ ∀ a, a ≠ 111 → a ≠ 112 → a ≠ 115 → w2[a]? = w[a]?) := by
  have hn := hM.2.1
  refine sx_RP.step (pc2 := 1) (ls2 := [(0, .ref 111)]) (st2 := [.ref 111]) (w3 := w) rfl rfl ?_
  refine sx_RP.step (pc2 := 2) (ls2 := [(0, .ref 111)]) (st2 := [.int 0, .ref 111]) (w3 := w) rfl rfl ?_
  refine sx_RP.pm (k := 12) hI EM.rf rfl rfl (by decide) rfl ⟨0, by decide, rfl⟩ (show _ = 5 from rfl) (fun w1 hI2 hE3 hv4 hr5 hs6 => ?_)
  refine sx_RP.step (pc2 := 6) (ls2 := [(0, .ref 111)]) (st2 := [.ref 111]) (w3 := w1) rfl rfl ?_
  refine sx_RP.step (pc2 := 7) (ls2 := [(0, .ref 111)]) (st2 := [.int (-1), .ref 111]) (w3 := w1) rfl rfl ?_
  refine sx_RP.pm (k := 13) hI2 EM.rf rfl rfl (by decide) rfl trivial (show _ = 10 from rfl) (fun w7 hI8 hE9 hv10 hr11 hs12 => ?_)
  refine sx_RP.step (pc2 := 11) (ls2 := [(0, .ref 111)]) (st2 := [.ref 111]) (w3 := w7) rfl rfl ?_
  refine sx_RP.gf (v := .ref 112) rfl rfl hI8.1.o111 rfl rfl (show _ = 14 from rfl) ?_
  refine sx_RP.step (pc2 := 15) (ls2 := [(0, .ref 111)]) (st2 := [.ref 111, .ref 112]) (w3 := w7) rfl rfl ?_
  refine sx_RP.gf (v := .ref 115) rfl rfl hI8.1.o111 rfl rfl (show _ = 18 from rfl) ?_
  refine sx_RP.callp (as2 := [.ref 112, .ref 115]) (rest2 := []) rfl rfl rfl rfl rfl rfl (K175 hI8 (a := 112) (b := 115) (by decide) (by decide) (by decide)) (show _ = 21 from rfl) ?_
  rintro r4 w14 ⟨rfl, hI15, hl13⟩
  show sx_RP _ _ _ _ _ [] _ _
  have hc : ∀ a, a ≠ 111 → a ≠ 115 → w14[a]? = w[a]? := fun a h1 h2 => (hl13.1 a h2).trans ((hs12 a h1).trans (hs6 a h1))
  have hf : ∀ j, j < 12 → fi w14 111 j = fi w 111 j := fun j hj => (fi_same j (hl13.1 111 (by decide))).trans ((hr11 j (by omega)).trans (hr5 j (by omega)))
  have he : fi w14 111 12 = nI 0 := (fi_same 12 (hl13.1 111 (by decide))).trans ((hr11 12 (by decide)).trans hv4)
  have hg : fi w14 111 13 = -1 := (fi_same 13 (hl13.1 111 (by decide))).trans hv10
  have h5 : ia w14 115 = ia w 112 := by rw [hl13.2, ia_of (hs12 112 (by decide)), ia_of (hs6 112 (by decide))]
  have hM2 : MT n X w14 := ⟨(hf 11 (by decide)).trans hM.1, hM.2.1, fun i hi => by rw [ia_of (hc 121 (by decide) (by decide))]; exact hM.2.2 i hi⟩
  have hB2 : ia w14 112 = ia w 112 := by rw [ia_of (hc 112 (by decide) (by decide))]
  refine sx_RP.step (pc2 := 22) (ls2 := [(0, .ref 111)]) (st2 := [.int 0]) (w3 := w14) rfl rfl ?_
  refine sx_RP.step (pc2 := 23) (ls2 := [(1, .int 0), (0, .ref 111)]) (st2 := []) (w3 := w14) rfl rfl ?_
  refine sx_RP.step (pc2 := 24) (ls2 := [(1, .int 0), (0, .ref 111)]) (st2 := [.int 1]) (w3 := w14) rfl rfl ?_
  refine sx_RP.step (pc2 := 25) (ls2 := [(2, .int 1), (1, .int 0), (0, .ref 111)]) (st2 := []) (w3 := w14) rfl rfl ?_
  refine sx_RP.ls (sx_lr.cons rfl (sx_lr.cons rfl (sx_lr.cons rfl sx_lr.nil))) ((U210L 121 0 0 (rE blk n X 0) (ia w 112) w14 (by omega) (by omega) (Nat.zero_le _) rfl hI15 hM2 he hg hB2 OM.rf).mono9 ?_)
  rintro r w2 ⟨⟨h1, h2, h3⟩, h4, h6⟩
  rw [h5] at h2
  exact ⟨⟨h1, h2, h3, fun j hj => (h6.2 j hj).trans (hf j (by omega))⟩, h4, fun a z1 z2 z3 => (h6.1 a z1 z2).trans (hc a z1 z3)⟩

theorem Y210 {xs : Option (List Int32)} {d : Nat} {w : List sx_C} (hI : WI w) (hY : TBm (FMb w)) : sx_RP xs (d + 8) 210 0 (lv_args 0 [.ref 111]) [] w (fun r w2 => (r = some (.int ((sieV (tapM w) (ia w 112)).1)) ∧ ia w2 112 = sieR (tapM w) (ia w 112) ∧ tapM w2 = [] ∧ ∀ j, j < 11 → fi w2 111 j = fi w 111 j) ∧ WI w2 ∧ ∀ a, a ≠ 111 → a ≠ 112 → a ≠ 115 → w2[a]? = w[a]?) := by
  have hM : MT (tapM w).length (fun i => iN ((tapM w).getD i 0)) w := MT_of hI hY
  refine (U210 hI hM).mono9 ?_
  rintro r w2 ⟨⟨h1, h2, h3, h4⟩, h5, h6⟩
  refine ⟨⟨h1, h2, ?_, h4⟩, h5, h6⟩
  unfold tapM
  rw [h3]
  rfl
