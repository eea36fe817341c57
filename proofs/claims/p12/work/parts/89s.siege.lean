-- breadTold, galleryTold of the reference
def RdM (n : Nat) (X : Nat → Nat) (q : Bool × Nat × BB) (w : List sx_C) : Prop := (q.1 = true → fi w 111 13 = -1 ∧ rowB (ia w 112) = q.2.2 ∧ ∃ h, h ≤ n ∧ fi w 111 12 = nI h ∧ rE blk n X h = q.2.1) ∧ (q.1 = false → fi w 111 13 = nI q.2.1)
theorem RdM.t {n p h : Nat} {X : Nat → Nat} {b : BB} {w : List sx_C} (e1 : fi w 111 13 = -1) (e2 : rowB (ia w 112) = b) (e3 : h ≤ n) (e4 : fi w 111 12 = nI h) (e5 : rE blk n X h = p) : RdM n X (true, p, b) w := ⟨fun _ => ⟨e1, e2, h, e3, e4, e5⟩, fun z => absurd (show true = false from z) (by decide)⟩
theorem RdM.f {n p : Nat} {X : Nat → Nat} {b : BB} {w : List sx_C} (e1 : fi w 111 13 = nI p) : RdM n X (false, p, b) w := ⟨fun z => absurd (show false = true from z) (by decide), fun _ => e1⟩
def breS (n : Nat) (X : Nat → Nat) (p : Nat) (b : BB) : Bool × Nat × BB := if nmT n X p 0 999999 = true then br1 n X (nP n X p) (setO (nI (vaT n X p)) b) else (false, p, b)
theorem breT_S {n p : Nat} {X : Nat → Nat} {b : BB} : breT n X p b = breS n X (nP n X p) b := rfl
def galS (n : Nat) (X : Nat → Nat) (k p : Nat) (b : BB) : Bool × Nat × BB := if wdT n X p 115 = true ∨ wdT n X p 109 = true then (if (wtT n X (nP n X p) 100 0 47).1 = true then (if (wtT n X (nP n X (wtT n X (nP n X p) 100 0 47).2) 119 0 3).1 = true then (true, nP n X (wtT n X (nP n X (wtT n X (nP n X p) 100 0 47).2) 119 0 3).2, addK (nI k) b) else (false, (wtT n X (nP n X (wtT n X (nP n X p) 100 0 47).2) 119 0 3).2, b)) else (false, (wtT n X (nP n X p) 100 0 47).2, b)) else (false, p, b)
theorem galT_S {n k p : Nat} {X : Nat → Nat} {b : BB} (h : b.1.length < 10) : galT n X k p b = galS n X k (nP n X p) b := by
  unfold galT
  rw [if_pos h]
  rfl
set_option maxRecDepth 20000 in
set_option maxHeartbeats 4000000 in
theorem y229 {xs : Option (List Int32)} {d : Nat} {w : List sx_C} (hI : WI w) {n h q : Nat} {X : Nat → Nat} {b : BB} (hM : MT n X w) (hp : h ≤ n) (ep : fi w 111 12 = nI h) (ef : fi w 111 13 = -1) (hP : rE blk n X h = q) (hB : rowB (ia w 112) = b) : sx_RP xs (d + 6) 229 0 (lv_args 0 [.ref 111]) [] w (fun r w2 => (r = some (.int (b01 (breS n X q b).1)) ∧ RdM n X (breS n X q b) w2) ∧ WI w2 ∧ OM w w2) := by
  have hn := hM.2.1
  have hpl : q ≤ n := by rw [← hP]; exact rE_le hp
  refine sx_RP.step (pc2 := 1) (ls2 := [(0, .ref 111)]) (st2 := [.ref 111]) (w3 := w) rfl rfl ?_
  refine sx_RP.step (pc2 := 2) (ls2 := [(0, .ref 111)]) (st2 := [.int 0, .ref 111]) (w3 := w) rfl rfl ?_
  refine sx_RP.step (pc2 := 4) (ls2 := [(0, .ref 111)]) (st2 := [.int 999999, .int 0, .ref 111]) (w3 := w) rfl rfl ?_
  rcases Bool.eq_false_or_eq_true (nmT n X q 0 999999) with c1 | c1
  · refine sx_RP.callp (as2 := [.ref 111, .int 0, .int 999999]) (rest2 := []) rfl rfl (sx_inv_v2 (mi := 229) (k := 267) (st := [.int 999999, .int 0, .ref 111]) (w := w) rfl rfl hI.1.o111 rfl rfl rfl) rfl rfl rfl (y220t (lo := 0) (hi := 999999) hI hM hp ep ef (by omega) (by decide) hP c1) (show _ = 7 from rfl) ?_
    rintro r4 w6 ⟨⟨rfl, ep2, ev5, ef4⟩, hI7, hO3⟩
    show sx_RP _ _ _ _ _ [.int 1] _ _
    have hp8 : beT n X q ≤ n := beT_le hpl
    have hp9 : nP n X q ≤ n := rE_le hp8
    have hr10 := nmT_in c1
    have hP11 : rE blk n X (beT n X q) = nP n X q := rfl
    have hM12 := hM.hs (hO3)
    have hO13 := OM.rf.tr (HS.om (hO3))
    have hB14 : rowB (ia w6 112) = b := by rw [HS.row (hO3)]; exact hB
    refine sx_RP.step (pc2 := 12) (ls2 := [(0, .ref 111)]) (st2 := []) (w3 := w6) rfl rfl ?_
    refine sx_RP.step (pc2 := 13) (ls2 := [(0, .ref 111)]) (st2 := [.ref 111]) (w3 := w6) rfl rfl ?_
    refine sx_RP.gf (v := .ref 112) rfl rfl hI7.1.o111 rfl rfl (show _ = 16 from rfl) ?_
    refine sx_RP.step (pc2 := 17) (ls2 := [(0, .ref 111)]) (st2 := [.int 4, .ref 112]) (w3 := w6) rfl rfl ?_
    refine sx_RP.step (pc2 := 18) (ls2 := [(0, .ref 111)]) (st2 := [.ref 111, .int 4, .ref 112]) (w3 := w6) rfl rfl ?_
    refine sx_RP.gf (v := .int (fi w6 111 14)) rfl rfl hI7.1.o111 rfl rfl (show _ = 21 from rfl) ?_
    rw [ev5]
    refine sx_RP.xM (k := 4) hI7 (by decide) rfl (by omega) (eOK_n (by omega)) (show _ = 22 from rfl) (fun w15 hI16 hs17 hv18 => ?_)
    have hB19 : rowB (ia w15 112) = setO (nI (vaT n X q)) (b) := by rw [hv18, show (4 : Nat) = 4 + 0 from rfl, rowB_setF hI7.1.a112.2 (Or.inl rfl) (hI7.manyM (by decide)), if_pos rfl, hB14]
    have ep20 := (fi_same 12 (hs17 111 (by decide))).trans ep2
    have ef21 := (fi_same 13 (hs17 111 (by decide))).trans ef4
    have hM22 := hM12.om (OM.st hs17)
    have hO23 := hO13.tr (OM.st hs17)
    refine sx_RP.step (pc2 := 23) (ls2 := [(0, .ref 111)]) (st2 := [.ref 111]) (w3 := w15) rfl rfl ?_
    refine sx_RP.step (pc2 := 26) (ls2 := [(0, .ref 111)]) (st2 := [.float 108, .ref 111]) (w3 := w15) rfl rfl ?_
    rcases Bool.eq_false_or_eq_true (wdT n X (nP n X q) (108 : UInt32)) with c24 | c24
    · refine sx_RP.callp (as2 := [.ref 111, .float 108]) (rest2 := []) rfl rfl (sx_inv_v2 (mi := 229) (k := 243) (st := [.float 108, .ref 111]) (w := w15) rfl rfl hI16.1.o111 rfl rfl rfl) rfl rfl rfl (y213t (k := (108 : UInt32)) (m := 6) hI16 hM22 hp8 ep20 ef21 (by decide) rfl (by decide) (by decide) hP11 c24) (show _ = 29 from rfl) ?_
      rintro r4 w28 ⟨⟨rfl, ep25⟩, hI29, hO26⟩
      show sx_RP _ _ _ _ _ [.int 1] _ _
      have ef27 := (hO26.2 13 (by decide)).trans ef21
      have hp30 : beT n X (nP n X q) ≤ n := beT_le hp9
      have hp31 : nP n X (nP n X q) ≤ n := rE_le hp30
      have hP32 : rE blk n X (beT n X (nP n X q)) = nP n X (nP n X q) := rfl
      have hM33 := hM22.hs (hO26.hs)
      have hO34 := hO23.tr (HS.om (hO26.hs))
      have hB35 : rowB (ia w28 112) = setO (nI (vaT n X q)) (b) := by rw [HS.row (hO26.hs)]; exact hB19
      refine sx_RP.step (pc2 := 32) (ls2 := [(0, .ref 111)]) (st2 := []) (w3 := w28) rfl rfl ?_
      refine sx_RP.step (pc2 := 33) (ls2 := [(0, .ref 111)]) (st2 := [.ref 111]) (w3 := w28) rfl rfl ?_
      refine sx_RP.step (pc2 := 34) (ls2 := [(0, .ref 111)]) (st2 := [.int 1, .ref 111]) (w3 := w28) rfl rfl ?_
      refine sx_RP.step (pc2 := 37) (ls2 := [(0, .ref 111)]) (st2 := [.int 999, .int 1, .ref 111]) (w3 := w28) rfl rfl ?_
      rcases Bool.eq_false_or_eq_true (nmT n X (nP n X (nP n X q)) 1 999) with c36 | c36
      · refine sx_RP.callp (as2 := [.ref 111, .int 1, .int 999]) (rest2 := []) rfl rfl (sx_inv_v2 (mi := 229) (k := 267) (st := [.int 999, .int 1, .ref 111]) (w := w28) rfl rfl hI29.1.o111 rfl rfl rfl) rfl rfl rfl (y220t (lo := 1) (hi := 999) hI29 hM33 hp30 ep25 ef27 (by omega) (by decide) hP32 c36) (show _ = 40 from rfl) ?_
        rintro r4 w41 ⟨⟨rfl, ep37, ev40, ef39⟩, hI42, hO38⟩
        show sx_RP _ _ _ _ _ [.int 1] _ _
        have hp43 : beT n X (nP n X (nP n X q)) ≤ n := beT_le hp31
        have hp44 : nP n X (nP n X (nP n X q)) ≤ n := rE_le hp43
        have hr45 := nmT_in c36
        have hP46 : rE blk n X (beT n X (nP n X (nP n X q))) = nP n X (nP n X (nP n X q)) := rfl
        have hM47 := hM33.hs (hO38)
        have hO48 := hO34.tr (HS.om (hO38))
        have hB49 : rowB (ia w41 112) = setO (nI (vaT n X q)) (b) := by rw [HS.row (hO38)]; exact hB35
        refine sx_RP.step (pc2 := 45) (ls2 := [(0, .ref 111)]) (st2 := []) (w3 := w41) rfl rfl ?_
        refine sx_RP.step (pc2 := 46) (ls2 := [(0, .ref 111)]) (st2 := [.ref 111]) (w3 := w41) rfl rfl ?_
        refine sx_RP.gf (v := .ref 112) rfl rfl hI42.1.o111 rfl rfl (show _ = 49 from rfl) ?_
        refine sx_RP.step (pc2 := 50) (ls2 := [(0, .ref 111)]) (st2 := [.int 5, .ref 112]) (w3 := w41) rfl rfl ?_
        refine sx_RP.step (pc2 := 51) (ls2 := [(0, .ref 111)]) (st2 := [.ref 111, .int 5, .ref 112]) (w3 := w41) rfl rfl ?_
        refine sx_RP.gf (v := .int (fi w41 111 14)) rfl rfl hI42.1.o111 rfl rfl (show _ = 54 from rfl) ?_
        rw [ev40]
        refine sx_RP.xM (k := 5) hI42 (by decide) rfl (by omega) (eOK_n (by omega)) (show _ = 55 from rfl) (fun w50 hI51 hs52 hv53 => ?_)
        have hB54 : rowB (ia w50 112) = setM (nI (vaT n X (nP n X (nP n X q)))) (setO (nI (vaT n X q)) (b)) := by rw [hv53, show (5 : Nat) = 4 + 1 from rfl, rowB_setF hI42.1.a112.2 (Or.inr (Or.inl rfl)) (hI42.manyM (by decide)), if_neg (by decide), if_pos rfl, hB49]
        have ep55 := (fi_same 12 (hs52 111 (by decide))).trans ep37
        have ef56 := (fi_same 13 (hs52 111 (by decide))).trans ef39
        have hM57 := hM47.om (OM.st hs52)
        have hO58 := hO48.tr (OM.st hs52)
        refine sx_RP.step (pc2 := 56) (ls2 := [(0, .ref 111)]) (st2 := [.ref 111]) (w3 := w50) rfl rfl ?_
        refine sx_RP.step (pc2 := 59) (ls2 := [(0, .ref 111)]) (st2 := [.float 111, .ref 111]) (w3 := w50) rfl rfl ?_
        rcases Bool.eq_false_or_eq_true (wdT n X (nP n X (nP n X (nP n X q))) (111 : UInt32)) with c59 | c59
        · refine sx_RP.callp (as2 := [.ref 111, .float 111]) (rest2 := []) rfl rfl (sx_inv_v2 (mi := 229) (k := 243) (st := [.float 111, .ref 111]) (w := w50) rfl rfl hI51.1.o111 rfl rfl rfl) rfl rfl rfl (y213t (k := (111 : UInt32)) (m := 6) hI51 hM57 hp43 ep55 ef56 (by decide) rfl (by decide) (by decide) hP46 c59) (show _ = 62 from rfl) ?_
          rintro r4 w63 ⟨⟨rfl, ep60⟩, hI64, hO61⟩
          show sx_RP _ _ _ _ _ [.int 1] _ _
          have ef62 := (hO61.2 13 (by decide)).trans ef56
          have hp65 : beT n X (nP n X (nP n X (nP n X q))) ≤ n := beT_le hp44
          have hp66 : nP n X (nP n X (nP n X (nP n X q))) ≤ n := rE_le hp65
          have hP67 : rE blk n X (beT n X (nP n X (nP n X (nP n X q)))) = nP n X (nP n X (nP n X (nP n X q))) := rfl
          have hM68 := hM57.hs (hO61.hs)
          have hO69 := hO58.tr (HS.om (hO61.hs))
          have hB70 : rowB (ia w63 112) = setM (nI (vaT n X (nP n X (nP n X q)))) (setO (nI (vaT n X q)) (b)) := by rw [HS.row (hO61.hs)]; exact hB54
          refine sx_RP.step (pc2 := 65) (ls2 := [(0, .ref 111)]) (st2 := []) (w3 := w63) rfl rfl ?_
          refine sx_RP.step (pc2 := 66) (ls2 := [(0, .ref 111)]) (st2 := [.ref 111]) (w3 := w63) rfl rfl ?_
          refine sx_RP.step (pc2 := 67) (ls2 := [(0, .ref 111)]) (st2 := [.int 1, .ref 111]) (w3 := w63) rfl rfl ?_
          refine sx_RP.step (pc2 := 69) (ls2 := [(0, .ref 111)]) (st2 := [.int 99, .int 1, .ref 111]) (w3 := w63) rfl rfl ?_
          rcases Bool.eq_false_or_eq_true (nmT n X (nP n X (nP n X (nP n X (nP n X q)))) 1 99) with c71 | c71
          · refine sx_RP.callp (as2 := [.ref 111, .int 1, .int 99]) (rest2 := []) rfl rfl (sx_inv_v2 (mi := 229) (k := 267) (st := [.int 99, .int 1, .ref 111]) (w := w63) rfl rfl hI64.1.o111 rfl rfl rfl) rfl rfl rfl (y220t (lo := 1) (hi := 99) hI64 hM68 hp65 ep60 ef62 (by omega) (by decide) hP67 c71) (show _ = 72 from rfl) ?_
            rintro r4 w76 ⟨⟨rfl, ep72, ev75, ef74⟩, hI77, hO73⟩
            show sx_RP _ _ _ _ _ [.int 1] _ _
            have hp78 : beT n X (nP n X (nP n X (nP n X (nP n X q)))) ≤ n := beT_le hp66
            have hp79 : nP n X (nP n X (nP n X (nP n X (nP n X q)))) ≤ n := rE_le hp78
            have hr80 := nmT_in c71
            have hP81 : rE blk n X (beT n X (nP n X (nP n X (nP n X (nP n X q))))) = nP n X (nP n X (nP n X (nP n X (nP n X q)))) := rfl
            have hM82 := hM68.hs (hO73)
            have hO83 := hO69.tr (HS.om (hO73))
            have hB84 : rowB (ia w76 112) = setM (nI (vaT n X (nP n X (nP n X q)))) (setO (nI (vaT n X q)) (b)) := by rw [HS.row (hO73)]; exact hB70
            refine sx_RP.step (pc2 := 77) (ls2 := [(0, .ref 111)]) (st2 := []) (w3 := w76) rfl rfl ?_
            refine sx_RP.step (pc2 := 78) (ls2 := [(0, .ref 111)]) (st2 := [.ref 111]) (w3 := w76) rfl rfl ?_
            refine sx_RP.gf (v := .ref 112) rfl rfl hI77.1.o111 rfl rfl (show _ = 81 from rfl) ?_
            refine sx_RP.step (pc2 := 83) (ls2 := [(0, .ref 111)]) (st2 := [.int 6, .ref 112]) (w3 := w76) rfl rfl ?_
            refine sx_RP.step (pc2 := 84) (ls2 := [(0, .ref 111)]) (st2 := [.ref 111, .int 6, .ref 112]) (w3 := w76) rfl rfl ?_
            refine sx_RP.gf (v := .int (fi w76 111 14)) rfl rfl hI77.1.o111 rfl rfl (show _ = 87 from rfl) ?_
            rw [ev75]
            refine sx_RP.xM (k := 6) hI77 (by decide) rfl (by omega) (eOK_n (by omega)) (show _ = 88 from rfl) (fun w85 hI86 hs87 hv88 => ?_)
            have hB89 : rowB (ia w85 112) = setR (nI (vaT n X (nP n X (nP n X (nP n X (nP n X q)))))) (setM (nI (vaT n X (nP n X (nP n X q)))) (setO (nI (vaT n X q)) (b))) := by rw [hv88, show (6 : Nat) = 4 + 2 from rfl, rowB_setF hI77.1.a112.2 (Or.inr (Or.inr rfl)) (hI77.manyM (by decide)), if_neg (by decide), if_neg (by decide), hB84]
            have ep90 := (fi_same 12 (hs87 111 (by decide))).trans ep72
            have ef91 := (fi_same 13 (hs87 111 (by decide))).trans ef74
            have hM92 := hM82.om (OM.st hs87)
            have hO93 := hO83.tr (OM.st hs87)
            refine sx_RP.step (pc2 := 89) (ls2 := [(0, .ref 111)]) (st2 := [.int 1]) (w3 := w85) rfl rfl ?_
            refine sx_RP.ret (r := (some (.int 1))) rfl rfl ?_
            have eR : breS n X q b = (true, nP n X (nP n X (nP n X (nP n X (nP n X q)))), setR (nI (vaT n X (nP n X (nP n X (nP n X (nP n X q)))))) (setM (nI (vaT n X (nP n X (nP n X q)))) (setO (nI (vaT n X q)) (b)))) := by simp only [breS, br1, br2, wtT, c1, c24, c36, c59, c71, if_true, if_false, Bool.false_eq_true, ite_true, ite_false, true_or, or_true, or_false, false_or]
            rw [eR]
            exact ⟨⟨rfl, RdM.t ef91 hB89 hp78 ep90 hP81⟩, hI86, hO93⟩
          · refine sx_RP.callp (as2 := [.ref 111, .int 1, .int 99]) (rest2 := []) rfl rfl (sx_inv_v2 (mi := 229) (k := 267) (st := [.int 99, .int 1, .ref 111]) (w := w63) rfl rfl hI64.1.o111 rfl rfl rfl) rfl rfl rfl (y220f (lo := 1) (hi := 99) hI64 hM68 hp65 ep60 ef62 (by omega) (by decide) hP67 c71) (show _ = 72 from rfl) ?_
            rintro r4 w98 ⟨⟨rfl, ep94⟩, hI99, hO95⟩
            show sx_RP _ _ _ _ _ [.int 0] _ _
            have hO100 := hO69.tr (HS.om hO95)
            refine sx_RP.step (pc2 := 75) (ls2 := [(0, .ref 111)]) (st2 := []) (w3 := w98) rfl rfl ?_
            refine sx_RP.step (pc2 := 76) (ls2 := [(0, .ref 111)]) (st2 := [.int 0]) (w3 := w98) rfl rfl ?_
            refine sx_RP.ret (r := (some (.int 0))) rfl rfl ?_
            have eR : breS n X q b = (false, nP n X (nP n X (nP n X (nP n X q))), setM (nI (vaT n X (nP n X (nP n X q)))) (setO (nI (vaT n X q)) (b))) := by simp only [breS, br1, br2, wtT, c1, c24, c36, c59, c71, if_true, if_false, Bool.false_eq_true, ite_true, ite_false, true_or, or_true, or_false, false_or]
            rw [eR]
            exact ⟨⟨rfl, RdM.f ep94⟩, hI99, hO100⟩
        · refine sx_RP.callp (as2 := [.ref 111, .float 111]) (rest2 := []) rfl rfl (sx_inv_v2 (mi := 229) (k := 243) (st := [.float 111, .ref 111]) (w := w50) rfl rfl hI51.1.o111 rfl rfl rfl) rfl rfl rfl (y213f (k := (111 : UInt32)) (m := 6) hI51 hM57 hp43 ep55 ef56 (by decide) rfl (by decide) (by decide) hP46 c59) (show _ = 62 from rfl) ?_
          rintro r4 w104 ⟨⟨rfl, ep101⟩, hI105, hO102⟩
          show sx_RP _ _ _ _ _ [.int 0] _ _
          have ef103 := (hO102.2 13 (by decide)).trans ef56
          have hP106 : rE blk n X (nP n X (nP n X (nP n X q))) = (nP n X (nP n X (nP n X q))) := by rw [← hP46]; exact rE_rE
          have hM107 := hM57.hs (hO102.hs)
          have hO108 := hO58.tr (HS.om (hO102.hs))
          have hB109 : rowB (ia w104 112) = setM (nI (vaT n X (nP n X (nP n X q)))) (setO (nI (vaT n X q)) (b)) := by rw [HS.row (hO102.hs)]; exact hB54
          refine sx_RP.step (pc2 := 88) (ls2 := [(0, .ref 111)]) (st2 := []) (w3 := w104) rfl rfl ?_
          refine sx_RP.step (pc2 := 89) (ls2 := [(0, .ref 111)]) (st2 := [.int 1]) (w3 := w104) rfl rfl ?_
          refine sx_RP.ret (r := (some (.int 1))) rfl rfl ?_
          have eR : breS n X q b = (true, nP n X (nP n X (nP n X q)), setM (nI (vaT n X (nP n X (nP n X q)))) (setO (nI (vaT n X q)) (b))) := by simp only [breS, br1, br2, wtT, c1, c24, c36, c59, if_true, if_false, Bool.false_eq_true, ite_true, ite_false, true_or, or_true, or_false, false_or]
          rw [eR]
          exact ⟨⟨rfl, RdM.t ef103 hB109 hp44 ep101 hP106⟩, hI105, hO108⟩
      · refine sx_RP.callp (as2 := [.ref 111, .int 1, .int 999]) (rest2 := []) rfl rfl (sx_inv_v2 (mi := 229) (k := 267) (st := [.int 999, .int 1, .ref 111]) (w := w28) rfl rfl hI29.1.o111 rfl rfl rfl) rfl rfl rfl (y220f (lo := 1) (hi := 999) hI29 hM33 hp30 ep25 ef27 (by omega) (by decide) hP32 c36) (show _ = 40 from rfl) ?_
        rintro r4 w114 ⟨⟨rfl, ep110⟩, hI115, hO111⟩
        show sx_RP _ _ _ _ _ [.int 0] _ _
        have hO116 := hO34.tr (HS.om hO111)
        refine sx_RP.step (pc2 := 43) (ls2 := [(0, .ref 111)]) (st2 := []) (w3 := w114) rfl rfl ?_
        refine sx_RP.step (pc2 := 44) (ls2 := [(0, .ref 111)]) (st2 := [.int 0]) (w3 := w114) rfl rfl ?_
        refine sx_RP.ret (r := (some (.int 0))) rfl rfl ?_
        have eR : breS n X q b = (false, nP n X (nP n X q), setO (nI (vaT n X q)) (b)) := by simp only [breS, br1, br2, wtT, c1, c24, c36, if_true, if_false, Bool.false_eq_true, ite_true, ite_false, true_or, or_true, or_false, false_or]
        rw [eR]
        exact ⟨⟨rfl, RdM.f ep110⟩, hI115, hO116⟩
    · refine sx_RP.callp (as2 := [.ref 111, .float 108]) (rest2 := []) rfl rfl (sx_inv_v2 (mi := 229) (k := 243) (st := [.float 108, .ref 111]) (w := w15) rfl rfl hI16.1.o111 rfl rfl rfl) rfl rfl rfl (y213f (k := (108 : UInt32)) (m := 6) hI16 hM22 hp8 ep20 ef21 (by decide) rfl (by decide) (by decide) hP11 c24) (show _ = 29 from rfl) ?_
      rintro r4 w120 ⟨⟨rfl, ep117⟩, hI121, hO118⟩
      show sx_RP _ _ _ _ _ [.int 0] _ _
      have ef119 := (hO118.2 13 (by decide)).trans ef21
      have hP122 : rE blk n X (nP n X q) = (nP n X q) := by rw [← hP11]; exact rE_rE
      have hM123 := hM22.hs (hO118.hs)
      have hO124 := hO23.tr (HS.om (hO118.hs))
      have hB125 : rowB (ia w120 112) = setO (nI (vaT n X q)) (b) := by rw [HS.row (hO118.hs)]; exact hB19
      refine sx_RP.step (pc2 := 55) (ls2 := [(0, .ref 111)]) (st2 := []) (w3 := w120) rfl rfl ?_
      refine sx_RP.step (pc2 := 56) (ls2 := [(0, .ref 111)]) (st2 := [.ref 111]) (w3 := w120) rfl rfl ?_
      refine sx_RP.step (pc2 := 59) (ls2 := [(0, .ref 111)]) (st2 := [.float 111, .ref 111]) (w3 := w120) rfl rfl ?_
      rcases Bool.eq_false_or_eq_true (wdT n X (nP n X q) (111 : UInt32)) with c126 | c126
      · refine sx_RP.callp (as2 := [.ref 111, .float 111]) (rest2 := []) rfl rfl (sx_inv_v2 (mi := 229) (k := 243) (st := [.float 111, .ref 111]) (w := w120) rfl rfl hI121.1.o111 rfl rfl rfl) rfl rfl rfl (y213t (k := (111 : UInt32)) (m := 6) hI121 hM123 hp9 ep117 ef119 (by decide) rfl (by decide) (by decide) hP122 c126) (show _ = 62 from rfl) ?_
        rintro r4 w130 ⟨⟨rfl, ep127⟩, hI131, hO128⟩
        show sx_RP _ _ _ _ _ [.int 1] _ _
        have ef129 := (hO128.2 13 (by decide)).trans ef119
        have hp132 : beT n X (nP n X q) ≤ n := beT_le hp9
        have hp133 : nP n X (nP n X q) ≤ n := rE_le hp132
        have hP134 : rE blk n X (beT n X (nP n X q)) = nP n X (nP n X q) := rfl
        have hM135 := hM123.hs (hO128.hs)
        have hO136 := hO124.tr (HS.om (hO128.hs))
        have hB137 : rowB (ia w130 112) = setO (nI (vaT n X q)) (b) := by rw [HS.row (hO128.hs)]; exact hB125
        refine sx_RP.step (pc2 := 65) (ls2 := [(0, .ref 111)]) (st2 := []) (w3 := w130) rfl rfl ?_
        refine sx_RP.step (pc2 := 66) (ls2 := [(0, .ref 111)]) (st2 := [.ref 111]) (w3 := w130) rfl rfl ?_
        refine sx_RP.step (pc2 := 67) (ls2 := [(0, .ref 111)]) (st2 := [.int 1, .ref 111]) (w3 := w130) rfl rfl ?_
        refine sx_RP.step (pc2 := 69) (ls2 := [(0, .ref 111)]) (st2 := [.int 99, .int 1, .ref 111]) (w3 := w130) rfl rfl ?_
        rcases Bool.eq_false_or_eq_true (nmT n X (nP n X (nP n X q)) 1 99) with c138 | c138
        · refine sx_RP.callp (as2 := [.ref 111, .int 1, .int 99]) (rest2 := []) rfl rfl (sx_inv_v2 (mi := 229) (k := 267) (st := [.int 99, .int 1, .ref 111]) (w := w130) rfl rfl hI131.1.o111 rfl rfl rfl) rfl rfl rfl (y220t (lo := 1) (hi := 99) hI131 hM135 hp132 ep127 ef129 (by omega) (by decide) hP134 c138) (show _ = 72 from rfl) ?_
          rintro r4 w143 ⟨⟨rfl, ep139, ev142, ef141⟩, hI144, hO140⟩
          show sx_RP _ _ _ _ _ [.int 1] _ _
          have hp145 : beT n X (nP n X (nP n X q)) ≤ n := beT_le hp133
          have hp146 : nP n X (nP n X (nP n X q)) ≤ n := rE_le hp145
          have hr147 := nmT_in c138
          have hP148 : rE blk n X (beT n X (nP n X (nP n X q))) = nP n X (nP n X (nP n X q)) := rfl
          have hM149 := hM135.hs (hO140)
          have hO150 := hO136.tr (HS.om (hO140))
          have hB151 : rowB (ia w143 112) = setO (nI (vaT n X q)) (b) := by rw [HS.row (hO140)]; exact hB137
          refine sx_RP.step (pc2 := 77) (ls2 := [(0, .ref 111)]) (st2 := []) (w3 := w143) rfl rfl ?_
          refine sx_RP.step (pc2 := 78) (ls2 := [(0, .ref 111)]) (st2 := [.ref 111]) (w3 := w143) rfl rfl ?_
          refine sx_RP.gf (v := .ref 112) rfl rfl hI144.1.o111 rfl rfl (show _ = 81 from rfl) ?_
          refine sx_RP.step (pc2 := 83) (ls2 := [(0, .ref 111)]) (st2 := [.int 6, .ref 112]) (w3 := w143) rfl rfl ?_
          refine sx_RP.step (pc2 := 84) (ls2 := [(0, .ref 111)]) (st2 := [.ref 111, .int 6, .ref 112]) (w3 := w143) rfl rfl ?_
          refine sx_RP.gf (v := .int (fi w143 111 14)) rfl rfl hI144.1.o111 rfl rfl (show _ = 87 from rfl) ?_
          rw [ev142]
          refine sx_RP.xM (k := 6) hI144 (by decide) rfl (by omega) (eOK_n (by omega)) (show _ = 88 from rfl) (fun w152 hI153 hs154 hv155 => ?_)
          have hB156 : rowB (ia w152 112) = setR (nI (vaT n X (nP n X (nP n X q)))) (setO (nI (vaT n X q)) (b)) := by rw [hv155, show (6 : Nat) = 4 + 2 from rfl, rowB_setF hI144.1.a112.2 (Or.inr (Or.inr rfl)) (hI144.manyM (by decide)), if_neg (by decide), if_neg (by decide), hB151]
          have ep157 := (fi_same 12 (hs154 111 (by decide))).trans ep139
          have ef158 := (fi_same 13 (hs154 111 (by decide))).trans ef141
          have hM159 := hM149.om (OM.st hs154)
          have hO160 := hO150.tr (OM.st hs154)
          refine sx_RP.step (pc2 := 89) (ls2 := [(0, .ref 111)]) (st2 := [.int 1]) (w3 := w152) rfl rfl ?_
          refine sx_RP.ret (r := (some (.int 1))) rfl rfl ?_
          have eR : breS n X q b = (true, nP n X (nP n X (nP n X q)), setR (nI (vaT n X (nP n X (nP n X q)))) (setO (nI (vaT n X q)) (b))) := by simp only [breS, br1, br2, wtT, c1, c24, c126, c138, if_true, if_false, Bool.false_eq_true, ite_true, ite_false, true_or, or_true, or_false, false_or]
          rw [eR]
          exact ⟨⟨rfl, RdM.t ef158 hB156 hp145 ep157 hP148⟩, hI153, hO160⟩
        · refine sx_RP.callp (as2 := [.ref 111, .int 1, .int 99]) (rest2 := []) rfl rfl (sx_inv_v2 (mi := 229) (k := 267) (st := [.int 99, .int 1, .ref 111]) (w := w130) rfl rfl hI131.1.o111 rfl rfl rfl) rfl rfl rfl (y220f (lo := 1) (hi := 99) hI131 hM135 hp132 ep127 ef129 (by omega) (by decide) hP134 c138) (show _ = 72 from rfl) ?_
          rintro r4 w165 ⟨⟨rfl, ep161⟩, hI166, hO162⟩
          show sx_RP _ _ _ _ _ [.int 0] _ _
          have hO167 := hO136.tr (HS.om hO162)
          refine sx_RP.step (pc2 := 75) (ls2 := [(0, .ref 111)]) (st2 := []) (w3 := w165) rfl rfl ?_
          refine sx_RP.step (pc2 := 76) (ls2 := [(0, .ref 111)]) (st2 := [.int 0]) (w3 := w165) rfl rfl ?_
          refine sx_RP.ret (r := (some (.int 0))) rfl rfl ?_
          have eR : breS n X q b = (false, nP n X (nP n X q), setO (nI (vaT n X q)) (b)) := by simp only [breS, br1, br2, wtT, c1, c24, c126, c138, if_true, if_false, Bool.false_eq_true, ite_true, ite_false, true_or, or_true, or_false, false_or]
          rw [eR]
          exact ⟨⟨rfl, RdM.f ep161⟩, hI166, hO167⟩
      · refine sx_RP.callp (as2 := [.ref 111, .float 111]) (rest2 := []) rfl rfl (sx_inv_v2 (mi := 229) (k := 243) (st := [.float 111, .ref 111]) (w := w120) rfl rfl hI121.1.o111 rfl rfl rfl) rfl rfl rfl (y213f (k := (111 : UInt32)) (m := 6) hI121 hM123 hp9 ep117 ef119 (by decide) rfl (by decide) (by decide) hP122 c126) (show _ = 62 from rfl) ?_
        rintro r4 w171 ⟨⟨rfl, ep168⟩, hI172, hO169⟩
        show sx_RP _ _ _ _ _ [.int 0] _ _
        have ef170 := (hO169.2 13 (by decide)).trans ef119
        have hP173 : rE blk n X (nP n X q) = (nP n X q) := by rw [← hP122]; exact rE_rE
        have hM174 := hM123.hs (hO169.hs)
        have hO175 := hO124.tr (HS.om (hO169.hs))
        have hB176 : rowB (ia w171 112) = setO (nI (vaT n X q)) (b) := by rw [HS.row (hO169.hs)]; exact hB125
        refine sx_RP.step (pc2 := 88) (ls2 := [(0, .ref 111)]) (st2 := []) (w3 := w171) rfl rfl ?_
        refine sx_RP.step (pc2 := 89) (ls2 := [(0, .ref 111)]) (st2 := [.int 1]) (w3 := w171) rfl rfl ?_
        refine sx_RP.ret (r := (some (.int 1))) rfl rfl ?_
        have eR : breS n X q b = (true, nP n X q, setO (nI (vaT n X q)) (b)) := by simp only [breS, br1, br2, wtT, c1, c24, c126, if_true, if_false, Bool.false_eq_true, ite_true, ite_false, true_or, or_true, or_false, false_or]
        rw [eR]
        exact ⟨⟨rfl, RdM.t ef170 hB176 hp9 ep168 hP173⟩, hI172, hO175⟩
  · refine sx_RP.callp (as2 := [.ref 111, .int 0, .int 999999]) (rest2 := []) rfl rfl (sx_inv_v2 (mi := 229) (k := 267) (st := [.int 999999, .int 0, .ref 111]) (w := w) rfl rfl hI.1.o111 rfl rfl rfl) rfl rfl rfl (y220f (lo := 0) (hi := 999999) hI hM hp ep ef (by omega) (by decide) hP c1) (show _ = 7 from rfl) ?_
    rintro r4 w181 ⟨⟨rfl, ep177⟩, hI182, hO178⟩
    show sx_RP _ _ _ _ _ [.int 0] _ _
    have hO183 := OM.rf.tr (HS.om hO178)
    refine sx_RP.step (pc2 := 10) (ls2 := [(0, .ref 111)]) (st2 := []) (w3 := w181) rfl rfl ?_
    refine sx_RP.step (pc2 := 11) (ls2 := [(0, .ref 111)]) (st2 := [.int 0]) (w3 := w181) rfl rfl ?_
    refine sx_RP.ret (r := (some (.int 0))) rfl rfl ?_
    have eR : breS n X q b = (false, q, b) := by simp only [breS, br1, br2, wtT, c1, if_true, if_false, Bool.false_eq_true, ite_true, ite_false, true_or, or_true, or_false, false_or]
    rw [eR]
    exact ⟨⟨rfl, RdM.f ep177⟩, hI182, hO183⟩
theorem row_len {w : List sx_C} {b : BB} {u : Nat} (hI : WI w) (hB : rowB (ia w 112) = b) (hu : b.1.length = u) (h : u ≤ 10) : (ia w 112).getD 1 0 = nI u := by
  obtain ⟨j, hj, e⟩ := (hI.sA (a := 112) (by decide) 1 (by decide)).1 rfl
  have z : (rowB (ia w 112)).1.length = j := by
    unfold rowB
    rw [mkB_len1, e, iN_n (by omega)]
  rw [e, ← hu, ← hB, z]
set_option maxRecDepth 20000 in
set_option maxHeartbeats 4000000 in
theorem y227 {xs : Option (List Int32)} {d : Nat} {w : List sx_C} (hI : WI w) {n h q : Nat} {X : Nat → Nat} {b : BB} (hM : MT n X w) (hp : h ≤ n) (ep : fi w 111 12 = nI h) (ef : fi w 111 13 = -1) (hP : rE blk n X h = q) (hB : rowB (ia w 112) = b) {k u : Nat} (hk : k ≤ 5) (hu : b.1.length = u) (hu9 : u ≤ 9) : sx_RP xs (d + 6) 227 0 (lv_args 0 [.ref 111, .int (nI k)]) [] w (fun r w2 => (r = some (.int (b01 (galS n X k q b).1)) ∧ RdM n X (galS n X k q b) w2) ∧ WI w2 ∧ OM w w2) := by
  have hn := hM.2.1
  have hpl : q ≤ n := by rw [← hP]; exact rE_le hp
  refine sx_RP.step (pc2 := 1) (ls2 := [(0, .ref 111), (1, .int (nI k))]) (st2 := [.ref 111]) (w3 := w) rfl rfl ?_
  refine sx_RP.step (pc2 := 4) (ls2 := [(0, .ref 111), (1, .int (nI k))]) (st2 := [.float 115, .ref 111]) (w3 := w) rfl rfl ?_
  rcases Bool.eq_false_or_eq_true (wdT n X q (115 : UInt32)) with c1 | c1
  · refine sx_RP.callp (as2 := [.ref 111, .float 115]) (rest2 := []) rfl rfl (sx_inv_v2 (mi := 227) (k := 243) (st := [.float 115, .ref 111]) (w := w) rfl rfl hI.1.o111 rfl rfl rfl) rfl rfl rfl (y213t (k := (115 : UInt32)) (m := 6) hI hM hp ep ef (by decide) rfl (by decide) (by decide) hP c1) (show _ = 7 from rfl) ?_
    rintro r4 w5 ⟨⟨rfl, ep2⟩, hI6, hO3⟩
    show sx_RP _ _ _ _ _ [.int 1] _ _
    have ef4 := (hO3.2 13 (by decide)).trans ef
    have hp7 : beT n X q ≤ n := beT_le hpl
    have hp8 : nP n X q ≤ n := rE_le hp7
    have hP9 : rE blk n X (beT n X q) = nP n X q := rfl
    have hM10 := hM.hs (hO3.hs)
    have hO11 := OM.rf.tr (HS.om (hO3.hs))
    have hB12 : rowB (ia w5 112) = b := by rw [HS.row (hO3.hs)]; exact hB
    refine sx_RP.step (pc2 := 10) (ls2 := [(0, .ref 111), (1, .int (nI k))]) (st2 := []) (w3 := w5) rfl rfl ?_
    refine sx_RP.step (pc2 := 11) (ls2 := [(0, .ref 111), (1, .int (nI k))]) (st2 := [.int 0]) (w3 := w5) rfl rfl ?_
    refine sx_RP.step (pc2 := 15) (ls2 := [(0, .ref 111), (1, .int (nI k))]) (st2 := [.int 0]) (w3 := w5) rfl rfl ?_
    refine sx_RP.step (pc2 := 16) (ls2 := [(2, .int 0), (0, .ref 111), (1, .int (nI k))]) (st2 := []) (w3 := w5) rfl rfl ?_
    refine sx_RP.step (pc2 := 17) (ls2 := [(2, .int 0), (0, .ref 111), (1, .int (nI k))]) (st2 := [.int 0]) (w3 := w5) rfl rfl ?_
    refine sx_RP.step (pc2 := 18) (ls2 := [(2, .int 0), (0, .ref 111), (1, .int (nI k))]) (st2 := [.int 1, .int 0]) (w3 := w5) rfl rfl ?_
    refine sx_RP.step (pc2 := 33) (ls2 := [(2, .int 0), (0, .ref 111), (1, .int (nI k))]) (st2 := []) (w3 := w5) rfl rfl ?_
    refine sx_RP.step (pc2 := 34) (ls2 := [(2, .int 0), (0, .ref 111), (1, .int (nI k))]) (st2 := [.ref 111]) (w3 := w5) rfl rfl ?_
    refine sx_RP.step (pc2 := 37) (ls2 := [(2, .int 0), (0, .ref 111), (1, .int (nI k))]) (st2 := [.float 100, .ref 111]) (w3 := w5) rfl rfl ?_
    rcases Bool.eq_false_or_eq_true (wdT n X (nP n X q) (100 : UInt32)) with c13 | c13
    · refine sx_RP.callp (as2 := [.ref 111, .float 100]) (rest2 := []) rfl rfl (sx_inv_v2 (mi := 227) (k := 282) (st := [.float 100, .ref 111]) (w := w5) rfl rfl hI6.1.o111 rfl rfl rfl) rfl rfl rfl (y228t (k := (100 : UInt32)) (m := 2) hI6 hM10 hp7 ep2 ef4 (by decide) rfl (by decide) (by decide) hP9 c13) (show _ = 40 from rfl) ?_
      rintro r4 w17 ⟨⟨rfl, ep14, ef16⟩, hI18, hO15⟩
      show sx_RP _ _ _ _ _ [.int 1] _ _
      have hp19 : beT n X (nP n X q) ≤ n := beT_le hp8
      have hp20 : nP n X (nP n X q) ≤ n := rE_le hp19
      have hP21 : rE blk n X (beT n X (nP n X q)) = nP n X (nP n X q) := rfl
      have hM22 := hM10.hs (hO15)
      have hO23 := hO11.tr (HS.om (hO15))
      have hB24 : rowB (ia w17 112) = b := by rw [HS.row (hO15)]; exact hB12
      refine sx_RP.step (pc2 := 43) (ls2 := [(2, .int 0), (0, .ref 111), (1, .int (nI k))]) (st2 := []) (w3 := w17) rfl rfl ?_
      refine sx_RP.step (pc2 := 44) (ls2 := [(2, .int 0), (0, .ref 111), (1, .int (nI k))]) (st2 := [.ref 111]) (w3 := w17) rfl rfl ?_
      refine sx_RP.step (pc2 := 45) (ls2 := [(2, .int 0), (0, .ref 111), (1, .int (nI k))]) (st2 := [.int 0, .ref 111]) (w3 := w17) rfl rfl ?_
      refine sx_RP.step (pc2 := 47) (ls2 := [(2, .int 0), (0, .ref 111), (1, .int (nI k))]) (st2 := [.int 47, .int 0, .ref 111]) (w3 := w17) rfl rfl ?_
      rcases Bool.eq_false_or_eq_true (nmT n X (nP n X (nP n X q)) 0 47) with c25 | c25
      · refine sx_RP.callp (as2 := [.ref 111, .int 0, .int 47]) (rest2 := []) rfl rfl (sx_inv_v2 (mi := 227) (k := 267) (st := [.int 47, .int 0, .ref 111]) (w := w17) rfl rfl hI18.1.o111 rfl rfl rfl) rfl rfl rfl (y220t (lo := 0) (hi := 47) hI18 hM22 hp19 ep14 ef16 (by omega) (by decide) hP21 c25) (show _ = 50 from rfl) ?_
        rintro r4 w30 ⟨⟨rfl, ep26, ev29, ef28⟩, hI31, hO27⟩
        show sx_RP _ _ _ _ _ [.int 1] _ _
        have hp32 : beT n X (nP n X (nP n X q)) ≤ n := beT_le hp20
        have hp33 : nP n X (nP n X (nP n X q)) ≤ n := rE_le hp32
        have hr34 := nmT_in c25
        have hP35 : rE blk n X (beT n X (nP n X (nP n X q))) = nP n X (nP n X (nP n X q)) := rfl
        have hM36 := hM22.hs (hO27)
        have hO37 := hO23.tr (HS.om (hO27))
        have hB38 : rowB (ia w30 112) = b := by rw [HS.row (hO27)]; exact hB24
        refine sx_RP.step (pc2 := 55) (ls2 := [(2, .int 0), (0, .ref 111), (1, .int (nI k))]) (st2 := []) (w3 := w30) rfl rfl ?_
        refine sx_RP.step (pc2 := 56) (ls2 := [(2, .int 0), (0, .ref 111), (1, .int (nI k))]) (st2 := [.ref 111]) (w3 := w30) rfl rfl ?_
        refine sx_RP.gf (v := .int (fi w30 111 14)) rfl rfl hI31.1.o111 rfl rfl (show _ = 59 from rfl) ?_
        rw [ev29]
        refine sx_RP.step (pc2 := 60) (ls2 := [(3, .int (nI (vaT n X (nP n X (nP n X q))))), (2, .int 0), (0, .ref 111), (1, .int (nI k))]) (st2 := []) (w3 := w30) rfl rfl ?_
        refine sx_RP.step (pc2 := 61) (ls2 := [(3, .int (nI (vaT n X (nP n X (nP n X q))))), (2, .int 0), (0, .ref 111), (1, .int (nI k))]) (st2 := [.ref 111]) (w3 := w30) rfl rfl ?_
        refine sx_RP.step (pc2 := 64) (ls2 := [(3, .int (nI (vaT n X (nP n X (nP n X q))))), (2, .int 0), (0, .ref 111), (1, .int (nI k))]) (st2 := [.float 119, .ref 111]) (w3 := w30) rfl rfl ?_
        rcases Bool.eq_false_or_eq_true (wdT n X (nP n X (nP n X (nP n X q))) (119 : UInt32)) with c39 | c39
        · refine sx_RP.callp (as2 := [.ref 111, .float 119]) (rest2 := []) rfl rfl (sx_inv_v2 (mi := 227) (k := 282) (st := [.float 119, .ref 111]) (w := w30) rfl rfl hI31.1.o111 rfl rfl rfl) rfl rfl rfl (y228t (k := (119 : UInt32)) (m := 3) hI31 hM36 hp32 ep26 ef28 (by decide) rfl (by decide) (by decide) hP35 c39) (show _ = 67 from rfl) ?_
          rintro r4 w43 ⟨⟨rfl, ep40, ef42⟩, hI44, hO41⟩
          show sx_RP _ _ _ _ _ [.int 1] _ _
          have hp45 : beT n X (nP n X (nP n X (nP n X q))) ≤ n := beT_le hp33
          have hp46 : nP n X (nP n X (nP n X (nP n X q))) ≤ n := rE_le hp45
          have hP47 : rE blk n X (beT n X (nP n X (nP n X (nP n X q)))) = nP n X (nP n X (nP n X (nP n X q))) := rfl
          have hM48 := hM36.hs (hO41)
          have hO49 := hO37.tr (HS.om (hO41))
          have hB50 : rowB (ia w43 112) = b := by rw [HS.row (hO41)]; exact hB38
          refine sx_RP.step (pc2 := 70) (ls2 := [(3, .int (nI (vaT n X (nP n X (nP n X q))))), (2, .int 0), (0, .ref 111), (1, .int (nI k))]) (st2 := []) (w3 := w43) rfl rfl ?_
          refine sx_RP.step (pc2 := 71) (ls2 := [(3, .int (nI (vaT n X (nP n X (nP n X q))))), (2, .int 0), (0, .ref 111), (1, .int (nI k))]) (st2 := [.ref 111]) (w3 := w43) rfl rfl ?_
          refine sx_RP.step (pc2 := 72) (ls2 := [(3, .int (nI (vaT n X (nP n X (nP n X q))))), (2, .int 0), (0, .ref 111), (1, .int (nI k))]) (st2 := [.int 0, .ref 111]) (w3 := w43) rfl rfl ?_
          refine sx_RP.step (pc2 := 73) (ls2 := [(3, .int (nI (vaT n X (nP n X (nP n X q))))), (2, .int 0), (0, .ref 111), (1, .int (nI k))]) (st2 := [.int 3, .int 0, .ref 111]) (w3 := w43) rfl rfl ?_
          rcases Bool.eq_false_or_eq_true (nmT n X (nP n X (nP n X (nP n X (nP n X q)))) 0 3) with c51 | c51
          · refine sx_RP.callp (as2 := [.ref 111, .int 0, .int 3]) (rest2 := []) rfl rfl (sx_inv_v2 (mi := 227) (k := 267) (st := [.int 3, .int 0, .ref 111]) (w := w43) rfl rfl hI44.1.o111 rfl rfl rfl) rfl rfl rfl (y220t (lo := 0) (hi := 3) hI44 hM48 hp45 ep40 ef42 (by omega) (by decide) hP47 c51) (show _ = 76 from rfl) ?_
            rintro r4 w56 ⟨⟨rfl, ep52, ev55, ef54⟩, hI57, hO53⟩
            show sx_RP _ _ _ _ _ [.int 1] _ _
            have hp58 : beT n X (nP n X (nP n X (nP n X (nP n X q)))) ≤ n := beT_le hp46
            have hp59 : nP n X (nP n X (nP n X (nP n X (nP n X q)))) ≤ n := rE_le hp58
            have hr60 := nmT_in c51
            have hP61 : rE blk n X (beT n X (nP n X (nP n X (nP n X (nP n X q))))) = nP n X (nP n X (nP n X (nP n X (nP n X q)))) := rfl
            have hM62 := hM48.hs (hO53)
            have hO63 := hO49.tr (HS.om (hO53))
            have hB64 : rowB (ia w56 112) = b := by rw [HS.row (hO53)]; exact hB50
            refine sx_RP.step (pc2 := 81) (ls2 := [(3, .int (nI (vaT n X (nP n X (nP n X q))))), (2, .int 0), (0, .ref 111), (1, .int (nI k))]) (st2 := []) (w3 := w56) rfl rfl ?_
            refine sx_RP.step (pc2 := 82) (ls2 := [(3, .int (nI (vaT n X (nP n X (nP n X q))))), (2, .int 0), (0, .ref 111), (1, .int (nI k))]) (st2 := [.ref 111]) (w3 := w56) rfl rfl ?_
            refine sx_RP.step (pc2 := 83) (ls2 := [(3, .int (nI (vaT n X (nP n X (nP n X q))))), (2, .int 0), (0, .ref 111), (1, .int (nI k))]) (st2 := [.int (nI k), .ref 111]) (w3 := w56) rfl rfl ?_
            refine sx_RP.step (pc2 := 84) (ls2 := [(3, .int (nI (vaT n X (nP n X (nP n X q))))), (2, .int 0), (0, .ref 111), (1, .int (nI k))]) (st2 := [.int 0, .int (nI k), .ref 111]) (w3 := w56) rfl rfl ?_
            refine sx_RP.step (pc2 := 85) (ls2 := [(3, .int (nI (vaT n X (nP n X (nP n X q))))), (2, .int 0), (0, .ref 111), (1, .int (nI k))]) (st2 := [.int (nI (vaT n X (nP n X (nP n X q)))), .int 0, .int (nI k), .ref 111]) (w3 := w56) rfl rfl ?_
            refine sx_RP.step (pc2 := 86) (ls2 := [(3, .int (nI (vaT n X (nP n X (nP n X q))))), (2, .int 0), (0, .ref 111), (1, .int (nI k))]) (st2 := [.ref 111, .int (nI (vaT n X (nP n X (nP n X q)))), .int 0, .int (nI k), .ref 111]) (w3 := w56) rfl rfl ?_
            refine sx_RP.gf (v := .int (fi w56 111 14)) rfl rfl hI57.1.o111 rfl rfl (show _ = 89 from rfl) ?_
            rw [ev55]
            have hen : (ia w56 112).getD 1 0 = nI u := row_len hI57 hB64 hu (by omega)
            refine sx_RP.callp (as2 := [.ref 111, .int (nI k), .int 0, .int (nI (vaT n X (nP n X (nP n X q)))), .int (nI (vaT n X (nP n X (nP n X (nP n X (nP n X q))))))]) (rest2 := []) rfl rfl (sx_inv_v2 (mi := 227) (k := 120) (st := [.int (nI (vaT n X (nP n X (nP n X (nP n X (nP n X q)))))), .int (nI (vaT n X (nP n X (nP n X q)))), .int 0, .int (nI k), .ref 111]) (w := w56) rfl rfl hI57.1.o111 rfl rfl rfl) rfl rfl rfl (X153 hI57 (by omega) hen (show k ≤ 5 by omega) (show 0 ≤ 1 by omega) (show (vaT n X (nP n X (nP n X q))) < 48 by omega) (show (vaT n X (nP n X (nP n X (nP n X (nP n X q))))) ≤ 3 by omega)) (show _ = 92 from rfl) ?_
            rintro r4 w68 ⟨⟨rfl, hc65⟩, hI69, hs66⟩
            show sx_RP _ _ _ _ _ [] _ _
            have hB67 : rowB (ia w68 112) = addK (nI k) (b) := by rw [hc65, addRow_b hI57.1.a112.2 hen (by omega), hB64]
            have ep70 := (fi_same 12 (hs66 111 (by decide))).trans ep52
            have ef71 := (fi_same 13 (hs66 111 (by decide))).trans ef54
            have hM72 := hM62.om (OM.st hs66)
            have hO73 := hO63.tr (OM.st hs66)
            refine sx_RP.step (pc2 := 93) (ls2 := [(3, .int (nI (vaT n X (nP n X (nP n X q))))), (2, .int 0), (0, .ref 111), (1, .int (nI k))]) (st2 := [.int 1]) (w3 := w68) rfl rfl ?_
            refine sx_RP.ret (r := (some (.int 1))) rfl rfl ?_
            have eR : galS n X k q b = (true, nP n X (nP n X (nP n X (nP n X (nP n X q)))), addK (nI k) (b)) := by simp only [galS, wtT, c1, c13, c25, c39, c51, if_true, if_false, Bool.false_eq_true, ite_true, ite_false, true_or, or_true, or_false, false_or]
            rw [eR]
            exact ⟨⟨rfl, RdM.t ef71 hB67 hp58 ep70 hP61⟩, hI69, hO73⟩
          · refine sx_RP.callp (as2 := [.ref 111, .int 0, .int 3]) (rest2 := []) rfl rfl (sx_inv_v2 (mi := 227) (k := 267) (st := [.int 3, .int 0, .ref 111]) (w := w43) rfl rfl hI44.1.o111 rfl rfl rfl) rfl rfl rfl (y220f (lo := 0) (hi := 3) hI44 hM48 hp45 ep40 ef42 (by omega) (by decide) hP47 c51) (show _ = 76 from rfl) ?_
            rintro r4 w78 ⟨⟨rfl, ep74⟩, hI79, hO75⟩
            show sx_RP _ _ _ _ _ [.int 0] _ _
            have hO80 := hO49.tr (HS.om hO75)
            refine sx_RP.step (pc2 := 79) (ls2 := [(3, .int (nI (vaT n X (nP n X (nP n X q))))), (2, .int 0), (0, .ref 111), (1, .int (nI k))]) (st2 := []) (w3 := w78) rfl rfl ?_
            refine sx_RP.step (pc2 := 80) (ls2 := [(3, .int (nI (vaT n X (nP n X (nP n X q))))), (2, .int 0), (0, .ref 111), (1, .int (nI k))]) (st2 := [.int 0]) (w3 := w78) rfl rfl ?_
            refine sx_RP.ret (r := (some (.int 0))) rfl rfl ?_
            have eR : galS n X k q b = (false, nP n X (nP n X (nP n X (nP n X q))), b) := by simp only [galS, wtT, c1, c13, c25, c39, c51, if_true, if_false, Bool.false_eq_true, ite_true, ite_false, true_or, or_true, or_false, false_or]
            rw [eR]
            exact ⟨⟨rfl, RdM.f ep74⟩, hI79, hO80⟩
        · refine sx_RP.callp (as2 := [.ref 111, .float 119]) (rest2 := []) rfl rfl (sx_inv_v2 (mi := 227) (k := 282) (st := [.float 119, .ref 111]) (w := w30) rfl rfl hI31.1.o111 rfl rfl rfl) rfl rfl rfl (y228f (k := (119 : UInt32)) (m := 3) hI31 hM36 hp32 ep26 ef28 (by decide) rfl (by decide) (by decide) hP35 c39) (show _ = 67 from rfl) ?_
          rintro r4 w84 ⟨⟨rfl, ep81⟩, hI85, hO82⟩
          show sx_RP _ _ _ _ _ [.int 0] _ _
          have hO86 := hO37.tr (HS.om hO82)
          refine sx_RP.step (pc2 := 79) (ls2 := [(3, .int (nI (vaT n X (nP n X (nP n X q))))), (2, .int 0), (0, .ref 111), (1, .int (nI k))]) (st2 := []) (w3 := w84) rfl rfl ?_
          refine sx_RP.step (pc2 := 80) (ls2 := [(3, .int (nI (vaT n X (nP n X (nP n X q))))), (2, .int 0), (0, .ref 111), (1, .int (nI k))]) (st2 := [.int 0]) (w3 := w84) rfl rfl ?_
          refine sx_RP.ret (r := (some (.int 0))) rfl rfl ?_
          have eR : galS n X k q b = (false, nP n X (nP n X (nP n X q)), b) := by simp only [galS, wtT, c1, c13, c25, c39, if_true, if_false, Bool.false_eq_true, ite_true, ite_false, true_or, or_true, or_false, false_or]
          rw [eR]
          exact ⟨⟨rfl, RdM.f ep81⟩, hI85, hO86⟩
      · refine sx_RP.callp (as2 := [.ref 111, .int 0, .int 47]) (rest2 := []) rfl rfl (sx_inv_v2 (mi := 227) (k := 267) (st := [.int 47, .int 0, .ref 111]) (w := w17) rfl rfl hI18.1.o111 rfl rfl rfl) rfl rfl rfl (y220f (lo := 0) (hi := 47) hI18 hM22 hp19 ep14 ef16 (by omega) (by decide) hP21 c25) (show _ = 50 from rfl) ?_
        rintro r4 w91 ⟨⟨rfl, ep87⟩, hI92, hO88⟩
        show sx_RP _ _ _ _ _ [.int 0] _ _
        have hO93 := hO23.tr (HS.om hO88)
        refine sx_RP.step (pc2 := 53) (ls2 := [(2, .int 0), (0, .ref 111), (1, .int (nI k))]) (st2 := []) (w3 := w91) rfl rfl ?_
        refine sx_RP.step (pc2 := 54) (ls2 := [(2, .int 0), (0, .ref 111), (1, .int (nI k))]) (st2 := [.int 0]) (w3 := w91) rfl rfl ?_
        refine sx_RP.ret (r := (some (.int 0))) rfl rfl ?_
        have eR : galS n X k q b = (false, nP n X (nP n X q), b) := by simp only [galS, wtT, c1, c13, c25, if_true, if_false, Bool.false_eq_true, ite_true, ite_false, true_or, or_true, or_false, false_or]
        rw [eR]
        exact ⟨⟨rfl, RdM.f ep87⟩, hI92, hO93⟩
    · refine sx_RP.callp (as2 := [.ref 111, .float 100]) (rest2 := []) rfl rfl (sx_inv_v2 (mi := 227) (k := 282) (st := [.float 100, .ref 111]) (w := w5) rfl rfl hI6.1.o111 rfl rfl rfl) rfl rfl rfl (y228f (k := (100 : UInt32)) (m := 2) hI6 hM10 hp7 ep2 ef4 (by decide) rfl (by decide) (by decide) hP9 c13) (show _ = 40 from rfl) ?_
      rintro r4 w97 ⟨⟨rfl, ep94⟩, hI98, hO95⟩
      show sx_RP _ _ _ _ _ [.int 0] _ _
      have hO99 := hO11.tr (HS.om hO95)
      refine sx_RP.step (pc2 := 53) (ls2 := [(2, .int 0), (0, .ref 111), (1, .int (nI k))]) (st2 := []) (w3 := w97) rfl rfl ?_
      refine sx_RP.step (pc2 := 54) (ls2 := [(2, .int 0), (0, .ref 111), (1, .int (nI k))]) (st2 := [.int 0]) (w3 := w97) rfl rfl ?_
      refine sx_RP.ret (r := (some (.int 0))) rfl rfl ?_
      have eR : galS n X k q b = (false, nP n X q, b) := by simp only [galS, wtT, c1, c13, if_true, if_false, Bool.false_eq_true, ite_true, ite_false, true_or, or_true, or_false, false_or]
      rw [eR]
      exact ⟨⟨rfl, RdM.f ep94⟩, hI98, hO99⟩
  · refine sx_RP.callp (as2 := [.ref 111, .float 115]) (rest2 := []) rfl rfl (sx_inv_v2 (mi := 227) (k := 243) (st := [.float 115, .ref 111]) (w := w) rfl rfl hI.1.o111 rfl rfl rfl) rfl rfl rfl (y213f (k := (115 : UInt32)) (m := 6) hI hM hp ep ef (by decide) rfl (by decide) (by decide) hP c1) (show _ = 7 from rfl) ?_
    rintro r4 w103 ⟨⟨rfl, ep100⟩, hI104, hO101⟩
    show sx_RP _ _ _ _ _ [.int 0] _ _
    have ef102 := (hO101.2 13 (by decide)).trans ef
    have hP105 : rE blk n X q = q := by rw [← hP]; exact rE_rE
    have hM106 := hM.hs (hO101.hs)
    have hO107 := OM.rf.tr (HS.om (hO101.hs))
    have hB108 : rowB (ia w103 112) = b := by rw [HS.row (hO101.hs)]; exact hB
    refine sx_RP.step (pc2 := 14) (ls2 := [(0, .ref 111), (1, .int (nI k))]) (st2 := []) (w3 := w103) rfl rfl ?_
    refine sx_RP.step (pc2 := 15) (ls2 := [(0, .ref 111), (1, .int (nI k))]) (st2 := [.int 1]) (w3 := w103) rfl rfl ?_
    refine sx_RP.step (pc2 := 16) (ls2 := [(2, .int 1), (0, .ref 111), (1, .int (nI k))]) (st2 := []) (w3 := w103) rfl rfl ?_
    refine sx_RP.step (pc2 := 17) (ls2 := [(2, .int 1), (0, .ref 111), (1, .int (nI k))]) (st2 := [.int 1]) (w3 := w103) rfl rfl ?_
    refine sx_RP.step (pc2 := 18) (ls2 := [(2, .int 1), (0, .ref 111), (1, .int (nI k))]) (st2 := [.int 1, .int 1]) (w3 := w103) rfl rfl ?_
    refine sx_RP.step (pc2 := 21) (ls2 := [(2, .int 1), (0, .ref 111), (1, .int (nI k))]) (st2 := []) (w3 := w103) rfl rfl ?_
    refine sx_RP.step (pc2 := 22) (ls2 := [(2, .int 1), (0, .ref 111), (1, .int (nI k))]) (st2 := [.ref 111]) (w3 := w103) rfl rfl ?_
    refine sx_RP.step (pc2 := 25) (ls2 := [(2, .int 1), (0, .ref 111), (1, .int (nI k))]) (st2 := [.float 109, .ref 111]) (w3 := w103) rfl rfl ?_
    rcases Bool.eq_false_or_eq_true (wdT n X q (109 : UInt32)) with c109 | c109
    · refine sx_RP.callp (as2 := [.ref 111, .float 109]) (rest2 := []) rfl rfl (sx_inv_v2 (mi := 227) (k := 282) (st := [.float 109, .ref 111]) (w := w103) rfl rfl hI104.1.o111 rfl rfl rfl) rfl rfl rfl (y228t (k := (109 : UInt32)) (m := 4) hI104 hM106 hpl ep100 ef102 (by decide) rfl (by decide) (by decide) hP105 c109) (show _ = 28 from rfl) ?_
      rintro r4 w113 ⟨⟨rfl, ep110, ef112⟩, hI114, hO111⟩
      show sx_RP _ _ _ _ _ [.int 1] _ _
      have hp115 : beT n X q ≤ n := beT_le hpl
      have hp116 : nP n X q ≤ n := rE_le hp115
      have hP117 : rE blk n X (beT n X q) = nP n X q := rfl
      have hM118 := hM106.hs (hO111)
      have hO119 := hO107.tr (HS.om (hO111))
      have hB120 : rowB (ia w113 112) = b := by rw [HS.row (hO111)]; exact hB108
      refine sx_RP.step (pc2 := 33) (ls2 := [(2, .int 1), (0, .ref 111), (1, .int (nI k))]) (st2 := []) (w3 := w113) rfl rfl ?_
      refine sx_RP.step (pc2 := 34) (ls2 := [(2, .int 1), (0, .ref 111), (1, .int (nI k))]) (st2 := [.ref 111]) (w3 := w113) rfl rfl ?_
      refine sx_RP.step (pc2 := 37) (ls2 := [(2, .int 1), (0, .ref 111), (1, .int (nI k))]) (st2 := [.float 100, .ref 111]) (w3 := w113) rfl rfl ?_
      rcases Bool.eq_false_or_eq_true (wdT n X (nP n X q) (100 : UInt32)) with c121 | c121
      · refine sx_RP.callp (as2 := [.ref 111, .float 100]) (rest2 := []) rfl rfl (sx_inv_v2 (mi := 227) (k := 282) (st := [.float 100, .ref 111]) (w := w113) rfl rfl hI114.1.o111 rfl rfl rfl) rfl rfl rfl (y228t (k := (100 : UInt32)) (m := 2) hI114 hM118 hp115 ep110 ef112 (by decide) rfl (by decide) (by decide) hP117 c121) (show _ = 40 from rfl) ?_
        rintro r4 w125 ⟨⟨rfl, ep122, ef124⟩, hI126, hO123⟩
        show sx_RP _ _ _ _ _ [.int 1] _ _
        have hp127 : beT n X (nP n X q) ≤ n := beT_le hp116
        have hp128 : nP n X (nP n X q) ≤ n := rE_le hp127
        have hP129 : rE blk n X (beT n X (nP n X q)) = nP n X (nP n X q) := rfl
        have hM130 := hM118.hs (hO123)
        have hO131 := hO119.tr (HS.om (hO123))
        have hB132 : rowB (ia w125 112) = b := by rw [HS.row (hO123)]; exact hB120
        refine sx_RP.step (pc2 := 43) (ls2 := [(2, .int 1), (0, .ref 111), (1, .int (nI k))]) (st2 := []) (w3 := w125) rfl rfl ?_
        refine sx_RP.step (pc2 := 44) (ls2 := [(2, .int 1), (0, .ref 111), (1, .int (nI k))]) (st2 := [.ref 111]) (w3 := w125) rfl rfl ?_
        refine sx_RP.step (pc2 := 45) (ls2 := [(2, .int 1), (0, .ref 111), (1, .int (nI k))]) (st2 := [.int 0, .ref 111]) (w3 := w125) rfl rfl ?_
        refine sx_RP.step (pc2 := 47) (ls2 := [(2, .int 1), (0, .ref 111), (1, .int (nI k))]) (st2 := [.int 47, .int 0, .ref 111]) (w3 := w125) rfl rfl ?_
        rcases Bool.eq_false_or_eq_true (nmT n X (nP n X (nP n X q)) 0 47) with c133 | c133
        · refine sx_RP.callp (as2 := [.ref 111, .int 0, .int 47]) (rest2 := []) rfl rfl (sx_inv_v2 (mi := 227) (k := 267) (st := [.int 47, .int 0, .ref 111]) (w := w125) rfl rfl hI126.1.o111 rfl rfl rfl) rfl rfl rfl (y220t (lo := 0) (hi := 47) hI126 hM130 hp127 ep122 ef124 (by omega) (by decide) hP129 c133) (show _ = 50 from rfl) ?_
          rintro r4 w138 ⟨⟨rfl, ep134, ev137, ef136⟩, hI139, hO135⟩
          show sx_RP _ _ _ _ _ [.int 1] _ _
          have hp140 : beT n X (nP n X (nP n X q)) ≤ n := beT_le hp128
          have hp141 : nP n X (nP n X (nP n X q)) ≤ n := rE_le hp140
          have hr142 := nmT_in c133
          have hP143 : rE blk n X (beT n X (nP n X (nP n X q))) = nP n X (nP n X (nP n X q)) := rfl
          have hM144 := hM130.hs (hO135)
          have hO145 := hO131.tr (HS.om (hO135))
          have hB146 : rowB (ia w138 112) = b := by rw [HS.row (hO135)]; exact hB132
          refine sx_RP.step (pc2 := 55) (ls2 := [(2, .int 1), (0, .ref 111), (1, .int (nI k))]) (st2 := []) (w3 := w138) rfl rfl ?_
          refine sx_RP.step (pc2 := 56) (ls2 := [(2, .int 1), (0, .ref 111), (1, .int (nI k))]) (st2 := [.ref 111]) (w3 := w138) rfl rfl ?_
          refine sx_RP.gf (v := .int (fi w138 111 14)) rfl rfl hI139.1.o111 rfl rfl (show _ = 59 from rfl) ?_
          rw [ev137]
          refine sx_RP.step (pc2 := 60) (ls2 := [(3, .int (nI (vaT n X (nP n X (nP n X q))))), (2, .int 1), (0, .ref 111), (1, .int (nI k))]) (st2 := []) (w3 := w138) rfl rfl ?_
          refine sx_RP.step (pc2 := 61) (ls2 := [(3, .int (nI (vaT n X (nP n X (nP n X q))))), (2, .int 1), (0, .ref 111), (1, .int (nI k))]) (st2 := [.ref 111]) (w3 := w138) rfl rfl ?_
          refine sx_RP.step (pc2 := 64) (ls2 := [(3, .int (nI (vaT n X (nP n X (nP n X q))))), (2, .int 1), (0, .ref 111), (1, .int (nI k))]) (st2 := [.float 119, .ref 111]) (w3 := w138) rfl rfl ?_
          rcases Bool.eq_false_or_eq_true (wdT n X (nP n X (nP n X (nP n X q))) (119 : UInt32)) with c147 | c147
          · refine sx_RP.callp (as2 := [.ref 111, .float 119]) (rest2 := []) rfl rfl (sx_inv_v2 (mi := 227) (k := 282) (st := [.float 119, .ref 111]) (w := w138) rfl rfl hI139.1.o111 rfl rfl rfl) rfl rfl rfl (y228t (k := (119 : UInt32)) (m := 3) hI139 hM144 hp140 ep134 ef136 (by decide) rfl (by decide) (by decide) hP143 c147) (show _ = 67 from rfl) ?_
            rintro r4 w151 ⟨⟨rfl, ep148, ef150⟩, hI152, hO149⟩
            show sx_RP _ _ _ _ _ [.int 1] _ _
            have hp153 : beT n X (nP n X (nP n X (nP n X q))) ≤ n := beT_le hp141
            have hp154 : nP n X (nP n X (nP n X (nP n X q))) ≤ n := rE_le hp153
            have hP155 : rE blk n X (beT n X (nP n X (nP n X (nP n X q)))) = nP n X (nP n X (nP n X (nP n X q))) := rfl
            have hM156 := hM144.hs (hO149)
            have hO157 := hO145.tr (HS.om (hO149))
            have hB158 : rowB (ia w151 112) = b := by rw [HS.row (hO149)]; exact hB146
            refine sx_RP.step (pc2 := 70) (ls2 := [(3, .int (nI (vaT n X (nP n X (nP n X q))))), (2, .int 1), (0, .ref 111), (1, .int (nI k))]) (st2 := []) (w3 := w151) rfl rfl ?_
            refine sx_RP.step (pc2 := 71) (ls2 := [(3, .int (nI (vaT n X (nP n X (nP n X q))))), (2, .int 1), (0, .ref 111), (1, .int (nI k))]) (st2 := [.ref 111]) (w3 := w151) rfl rfl ?_
            refine sx_RP.step (pc2 := 72) (ls2 := [(3, .int (nI (vaT n X (nP n X (nP n X q))))), (2, .int 1), (0, .ref 111), (1, .int (nI k))]) (st2 := [.int 0, .ref 111]) (w3 := w151) rfl rfl ?_
            refine sx_RP.step (pc2 := 73) (ls2 := [(3, .int (nI (vaT n X (nP n X (nP n X q))))), (2, .int 1), (0, .ref 111), (1, .int (nI k))]) (st2 := [.int 3, .int 0, .ref 111]) (w3 := w151) rfl rfl ?_
            rcases Bool.eq_false_or_eq_true (nmT n X (nP n X (nP n X (nP n X (nP n X q)))) 0 3) with c159 | c159
            · refine sx_RP.callp (as2 := [.ref 111, .int 0, .int 3]) (rest2 := []) rfl rfl (sx_inv_v2 (mi := 227) (k := 267) (st := [.int 3, .int 0, .ref 111]) (w := w151) rfl rfl hI152.1.o111 rfl rfl rfl) rfl rfl rfl (y220t (lo := 0) (hi := 3) hI152 hM156 hp153 ep148 ef150 (by omega) (by decide) hP155 c159) (show _ = 76 from rfl) ?_
              rintro r4 w164 ⟨⟨rfl, ep160, ev163, ef162⟩, hI165, hO161⟩
              show sx_RP _ _ _ _ _ [.int 1] _ _
              have hp166 : beT n X (nP n X (nP n X (nP n X (nP n X q)))) ≤ n := beT_le hp154
              have hp167 : nP n X (nP n X (nP n X (nP n X (nP n X q)))) ≤ n := rE_le hp166
              have hr168 := nmT_in c159
              have hP169 : rE blk n X (beT n X (nP n X (nP n X (nP n X (nP n X q))))) = nP n X (nP n X (nP n X (nP n X (nP n X q)))) := rfl
              have hM170 := hM156.hs (hO161)
              have hO171 := hO157.tr (HS.om (hO161))
              have hB172 : rowB (ia w164 112) = b := by rw [HS.row (hO161)]; exact hB158
              refine sx_RP.step (pc2 := 81) (ls2 := [(3, .int (nI (vaT n X (nP n X (nP n X q))))), (2, .int 1), (0, .ref 111), (1, .int (nI k))]) (st2 := []) (w3 := w164) rfl rfl ?_
              refine sx_RP.step (pc2 := 82) (ls2 := [(3, .int (nI (vaT n X (nP n X (nP n X q))))), (2, .int 1), (0, .ref 111), (1, .int (nI k))]) (st2 := [.ref 111]) (w3 := w164) rfl rfl ?_
              refine sx_RP.step (pc2 := 83) (ls2 := [(3, .int (nI (vaT n X (nP n X (nP n X q))))), (2, .int 1), (0, .ref 111), (1, .int (nI k))]) (st2 := [.int (nI k), .ref 111]) (w3 := w164) rfl rfl ?_
              refine sx_RP.step (pc2 := 84) (ls2 := [(3, .int (nI (vaT n X (nP n X (nP n X q))))), (2, .int 1), (0, .ref 111), (1, .int (nI k))]) (st2 := [.int 1, .int (nI k), .ref 111]) (w3 := w164) rfl rfl ?_
              refine sx_RP.step (pc2 := 85) (ls2 := [(3, .int (nI (vaT n X (nP n X (nP n X q))))), (2, .int 1), (0, .ref 111), (1, .int (nI k))]) (st2 := [.int (nI (vaT n X (nP n X (nP n X q)))), .int 1, .int (nI k), .ref 111]) (w3 := w164) rfl rfl ?_
              refine sx_RP.step (pc2 := 86) (ls2 := [(3, .int (nI (vaT n X (nP n X (nP n X q))))), (2, .int 1), (0, .ref 111), (1, .int (nI k))]) (st2 := [.ref 111, .int (nI (vaT n X (nP n X (nP n X q)))), .int 1, .int (nI k), .ref 111]) (w3 := w164) rfl rfl ?_
              refine sx_RP.gf (v := .int (fi w164 111 14)) rfl rfl hI165.1.o111 rfl rfl (show _ = 89 from rfl) ?_
              rw [ev163]
              have hen : (ia w164 112).getD 1 0 = nI u := row_len hI165 hB172 hu (by omega)
              refine sx_RP.callp (as2 := [.ref 111, .int (nI k), .int 1, .int (nI (vaT n X (nP n X (nP n X q)))), .int (nI (vaT n X (nP n X (nP n X (nP n X (nP n X q))))))]) (rest2 := []) rfl rfl (sx_inv_v2 (mi := 227) (k := 120) (st := [.int (nI (vaT n X (nP n X (nP n X (nP n X (nP n X q)))))), .int (nI (vaT n X (nP n X (nP n X q)))), .int 1, .int (nI k), .ref 111]) (w := w164) rfl rfl hI165.1.o111 rfl rfl rfl) rfl rfl rfl (X153 hI165 (by omega) hen (show k ≤ 5 by omega) (show 1 ≤ 1 by omega) (show (vaT n X (nP n X (nP n X q))) < 48 by omega) (show (vaT n X (nP n X (nP n X (nP n X (nP n X q))))) ≤ 3 by omega)) (show _ = 92 from rfl) ?_
              rintro r4 w176 ⟨⟨rfl, hc173⟩, hI177, hs174⟩
              show sx_RP _ _ _ _ _ [] _ _
              have hB175 : rowB (ia w176 112) = addK (nI k) (b) := by rw [hc173, addRow_b hI165.1.a112.2 hen (by omega), hB172]
              have ep178 := (fi_same 12 (hs174 111 (by decide))).trans ep160
              have ef179 := (fi_same 13 (hs174 111 (by decide))).trans ef162
              have hM180 := hM170.om (OM.st hs174)
              have hO181 := hO171.tr (OM.st hs174)
              refine sx_RP.step (pc2 := 93) (ls2 := [(3, .int (nI (vaT n X (nP n X (nP n X q))))), (2, .int 1), (0, .ref 111), (1, .int (nI k))]) (st2 := [.int 1]) (w3 := w176) rfl rfl ?_
              refine sx_RP.ret (r := (some (.int 1))) rfl rfl ?_
              have eR : galS n X k q b = (true, nP n X (nP n X (nP n X (nP n X (nP n X q)))), addK (nI k) (b)) := by simp only [galS, wtT, c1, c109, c121, c133, c147, c159, if_true, if_false, Bool.false_eq_true, ite_true, ite_false, true_or, or_true, or_false, false_or]
              rw [eR]
              exact ⟨⟨rfl, RdM.t ef179 hB175 hp166 ep178 hP169⟩, hI177, hO181⟩
            · refine sx_RP.callp (as2 := [.ref 111, .int 0, .int 3]) (rest2 := []) rfl rfl (sx_inv_v2 (mi := 227) (k := 267) (st := [.int 3, .int 0, .ref 111]) (w := w151) rfl rfl hI152.1.o111 rfl rfl rfl) rfl rfl rfl (y220f (lo := 0) (hi := 3) hI152 hM156 hp153 ep148 ef150 (by omega) (by decide) hP155 c159) (show _ = 76 from rfl) ?_
              rintro r4 w186 ⟨⟨rfl, ep182⟩, hI187, hO183⟩
              show sx_RP _ _ _ _ _ [.int 0] _ _
              have hO188 := hO157.tr (HS.om hO183)
              refine sx_RP.step (pc2 := 79) (ls2 := [(3, .int (nI (vaT n X (nP n X (nP n X q))))), (2, .int 1), (0, .ref 111), (1, .int (nI k))]) (st2 := []) (w3 := w186) rfl rfl ?_
              refine sx_RP.step (pc2 := 80) (ls2 := [(3, .int (nI (vaT n X (nP n X (nP n X q))))), (2, .int 1), (0, .ref 111), (1, .int (nI k))]) (st2 := [.int 0]) (w3 := w186) rfl rfl ?_
              refine sx_RP.ret (r := (some (.int 0))) rfl rfl ?_
              have eR : galS n X k q b = (false, nP n X (nP n X (nP n X (nP n X q))), b) := by simp only [galS, wtT, c1, c109, c121, c133, c147, c159, if_true, if_false, Bool.false_eq_true, ite_true, ite_false, true_or, or_true, or_false, false_or]
              rw [eR]
              exact ⟨⟨rfl, RdM.f ep182⟩, hI187, hO188⟩
          · refine sx_RP.callp (as2 := [.ref 111, .float 119]) (rest2 := []) rfl rfl (sx_inv_v2 (mi := 227) (k := 282) (st := [.float 119, .ref 111]) (w := w138) rfl rfl hI139.1.o111 rfl rfl rfl) rfl rfl rfl (y228f (k := (119 : UInt32)) (m := 3) hI139 hM144 hp140 ep134 ef136 (by decide) rfl (by decide) (by decide) hP143 c147) (show _ = 67 from rfl) ?_
            rintro r4 w192 ⟨⟨rfl, ep189⟩, hI193, hO190⟩
            show sx_RP _ _ _ _ _ [.int 0] _ _
            have hO194 := hO145.tr (HS.om hO190)
            refine sx_RP.step (pc2 := 79) (ls2 := [(3, .int (nI (vaT n X (nP n X (nP n X q))))), (2, .int 1), (0, .ref 111), (1, .int (nI k))]) (st2 := []) (w3 := w192) rfl rfl ?_
            refine sx_RP.step (pc2 := 80) (ls2 := [(3, .int (nI (vaT n X (nP n X (nP n X q))))), (2, .int 1), (0, .ref 111), (1, .int (nI k))]) (st2 := [.int 0]) (w3 := w192) rfl rfl ?_
            refine sx_RP.ret (r := (some (.int 0))) rfl rfl ?_
            have eR : galS n X k q b = (false, nP n X (nP n X (nP n X q)), b) := by simp only [galS, wtT, c1, c109, c121, c133, c147, if_true, if_false, Bool.false_eq_true, ite_true, ite_false, true_or, or_true, or_false, false_or]
            rw [eR]
            exact ⟨⟨rfl, RdM.f ep189⟩, hI193, hO194⟩
        · refine sx_RP.callp (as2 := [.ref 111, .int 0, .int 47]) (rest2 := []) rfl rfl (sx_inv_v2 (mi := 227) (k := 267) (st := [.int 47, .int 0, .ref 111]) (w := w125) rfl rfl hI126.1.o111 rfl rfl rfl) rfl rfl rfl (y220f (lo := 0) (hi := 47) hI126 hM130 hp127 ep122 ef124 (by omega) (by decide) hP129 c133) (show _ = 50 from rfl) ?_
          rintro r4 w199 ⟨⟨rfl, ep195⟩, hI200, hO196⟩
          show sx_RP _ _ _ _ _ [.int 0] _ _
          have hO201 := hO131.tr (HS.om hO196)
          refine sx_RP.step (pc2 := 53) (ls2 := [(2, .int 1), (0, .ref 111), (1, .int (nI k))]) (st2 := []) (w3 := w199) rfl rfl ?_
          refine sx_RP.step (pc2 := 54) (ls2 := [(2, .int 1), (0, .ref 111), (1, .int (nI k))]) (st2 := [.int 0]) (w3 := w199) rfl rfl ?_
          refine sx_RP.ret (r := (some (.int 0))) rfl rfl ?_
          have eR : galS n X k q b = (false, nP n X (nP n X q), b) := by simp only [galS, wtT, c1, c109, c121, c133, if_true, if_false, Bool.false_eq_true, ite_true, ite_false, true_or, or_true, or_false, false_or]
          rw [eR]
          exact ⟨⟨rfl, RdM.f ep195⟩, hI200, hO201⟩
      · refine sx_RP.callp (as2 := [.ref 111, .float 100]) (rest2 := []) rfl rfl (sx_inv_v2 (mi := 227) (k := 282) (st := [.float 100, .ref 111]) (w := w113) rfl rfl hI114.1.o111 rfl rfl rfl) rfl rfl rfl (y228f (k := (100 : UInt32)) (m := 2) hI114 hM118 hp115 ep110 ef112 (by decide) rfl (by decide) (by decide) hP117 c121) (show _ = 40 from rfl) ?_
        rintro r4 w205 ⟨⟨rfl, ep202⟩, hI206, hO203⟩
        show sx_RP _ _ _ _ _ [.int 0] _ _
        have hO207 := hO119.tr (HS.om hO203)
        refine sx_RP.step (pc2 := 53) (ls2 := [(2, .int 1), (0, .ref 111), (1, .int (nI k))]) (st2 := []) (w3 := w205) rfl rfl ?_
        refine sx_RP.step (pc2 := 54) (ls2 := [(2, .int 1), (0, .ref 111), (1, .int (nI k))]) (st2 := [.int 0]) (w3 := w205) rfl rfl ?_
        refine sx_RP.ret (r := (some (.int 0))) rfl rfl ?_
        have eR : galS n X k q b = (false, nP n X q, b) := by simp only [galS, wtT, c1, c109, c121, if_true, if_false, Bool.false_eq_true, ite_true, ite_false, true_or, or_true, or_false, false_or]
        rw [eR]
        exact ⟨⟨rfl, RdM.f ep202⟩, hI206, hO207⟩
    · refine sx_RP.callp (as2 := [.ref 111, .float 109]) (rest2 := []) rfl rfl (sx_inv_v2 (mi := 227) (k := 282) (st := [.float 109, .ref 111]) (w := w103) rfl rfl hI104.1.o111 rfl rfl rfl) rfl rfl rfl (y228f (k := (109 : UInt32)) (m := 4) hI104 hM106 hpl ep100 ef102 (by decide) rfl (by decide) (by decide) hP105 c109) (show _ = 28 from rfl) ?_
      rintro r4 w211 ⟨⟨rfl, ep208⟩, hI212, hO209⟩
      show sx_RP _ _ _ _ _ [.int 0] _ _
      have hO213 := hO107.tr (HS.om hO209)
      refine sx_RP.step (pc2 := 31) (ls2 := [(2, .int 1), (0, .ref 111), (1, .int (nI k))]) (st2 := []) (w3 := w211) rfl rfl ?_
      refine sx_RP.step (pc2 := 32) (ls2 := [(2, .int 1), (0, .ref 111), (1, .int (nI k))]) (st2 := [.int 0]) (w3 := w211) rfl rfl ?_
      refine sx_RP.ret (r := (some (.int 0))) rfl rfl ?_
      have eR : galS n X k q b = (false, q, b) := by simp only [galS, wtT, c1, c109, if_true, if_false, Bool.false_eq_true, ite_true, ite_false, true_or, or_true, or_false, false_or]
      rw [eR]
      exact ⟨⟨rfl, RdM.f ep208⟩, hI212, hO213⟩
