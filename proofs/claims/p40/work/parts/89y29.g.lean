-- 89y29.siege4.lean.txt
section
def RdN (n : Nat) (X : Nat → Nat) (q : Bool × Nat × List Int32) (w : List sx_C) : Prop := (q.1 = true → fi w 111 13 = -1 ∧ ia w 112 = q.2.2 ∧ ∃ h, h ≤ n ∧ fi w 111 12 = nI h ∧ rE blk n X h = q.2.1) ∧ (q.1 = false → fi w 111 13 = nI q.2.1)
theorem RdN.t {n p h : Nat} {X : Nat → Nat} {b : List Int32} {w : List sx_C} (e1 : fi w 111 13 = -1) (e2 : ia w 112 = b) (e3 : h ≤ n) (e4 : fi w 111 12 = nI h) (e5 : rE blk n X h = p) : RdN n X (true, p, b) w := ⟨fun _ => ⟨e1, e2, h, e3, e4, e5⟩, fun z => absurd (show true = false from z) (by decide)⟩
theorem RdN.f {n p : Nat} {X : Nat → Nat} {b : List Int32} {w : List sx_C} (e1 : fi w 111 13 = nI p) : RdN n X (false, p, b) w := ⟨fun z => absurd (show false = true from z) (by decide), fun _ => e1⟩
def breZ (n : Nat) (X : Nat → Nat) (p : Nat) (b : List Int32) : Bool × Nat × List Int32 := if nmT n X p 0 999999 = true then bw1 n X (nP n X p) (b.set 4 (nI (vaT n X p))) else (false, p, b)
def galY (n : Nat) (X : Nat → Nat) (k s q : Nat) (b : List Int32) : Bool × Nat × List Int32 := if (wtT n X (nP n X q) 100 0 47).1 = true then (if (wtT n X (nP n X (wtT n X (nP n X q) 100 0 47).2) 119 0 3).1 = true then (true, nP n X (wtT n X (nP n X (wtT n X (nP n X q) 100 0 47).2) 119 0 3).2, addRow b (iN (b.getD 1 0)) (nI k) (nI s) (nI (vaT n X (wtT n X (nP n X q) 100 0 47).2)) (nI (vaT n X (wtT n X (nP n X (wtT n X (nP n X q) 100 0 47).2) 119 0 3).2))) else (false, (wtT n X (nP n X (wtT n X (nP n X q) 100 0 47).2) 119 0 3).2, b)) else (false, (wtT n X (nP n X q) 100 0 47).2, b)
def galZ (n : Nat) (X : Nat → Nat) (k q : Nat) (b : List Int32) : Bool × Nat × List Int32 := if wdT n X q 115 = true then galY n X k 0 q b else (if wdT n X q 109 = true then galY n X k 1 q b else (false, q, b))
theorem galW_Z {n k p : Nat} {X : Nat → Nat} {b : List Int32} (h : iN (b.getD 1 0) < 10) : galW n X k p b = galZ n X k (nP n X p) b := by
  unfold galW
  rw [if_pos h]
  rfl
def groZ (n : Nat) (X : Nat → Nat) (u p : Nat) (b : List Int32) : Bool × Nat × List Int32 := if nmT n X p 0 47 = true then gwL n X u 48 (vaT n X p) (nP n X p) (lay1 u (vaT n X p) b) else (false, p, b)
theorem groW_Z {n u p : Nat} {X : Nat → Nat} {b : List Int32} : groW n X u p b = groZ n X u (nP n X p) b := rfl
set_option maxRecDepth 20000 in
set_option maxHeartbeats 4000000 in
theorem U229 {xs : Option (List Int32)} {d : Nat} {w : List sx_C} (hI : WI w) {n h q : Nat} {X : Nat → Nat} {b : List Int32} (hM : MT n X w) (hp : h ≤ n) (ep : fi w 111 12 = nI h) (ef : fi w 111 13 = -1) (hP : rE blk n X h = q) (hB : ia w 112 = b) : sx_RP xs (d + 6) 229 0 (lv_args 0 [.ref 111]) [] w (fun r w2 => (r = some (.int (b01 (breZ n X q b).1)) ∧ RdN n X (breZ n X q b) w2) ∧ WI w2 ∧ OM w w2) := by
  have hn := hM.2.1
  have hpl : q ≤ n := by rw [← hP]; exact rE_le hp
  refine sx_RP.step (pc2 := 1) (ls2 := [(0, .ref 111)]) (st2 := [.ref 111]) (w3 := w) rfl rfl ?_
  refine sx_RP.step (pc2 := 2) (ls2 := [(0, .ref 111)]) (st2 := [.int 0, .ref 111]) (w3 := w) rfl rfl ?_
  refine sx_RP.step (pc2 := 4) (ls2 := [(0, .ref 111)]) (st2 := [.int 999999, .int 0, .ref 111]) (w3 := w) rfl rfl ?_
  rcases Bool.eq_false_or_eq_true (nmT n X q 0 999999) with c1 | c1
  · refine sx_RP.callp (as2 := [.ref 111, .int 0, .int 999999]) (rest2 := []) rfl rfl (sx_inv_v2 (mi := 229) (k := 267) (st := [.int 999999, .int 0, .ref 111]) (w := w) rfl rfl hI.1.o111 rfl rfl rfl) rfl rfl rfl (y220t (lo := 0) (hi := 999999) hI hM hp ep ef (by omega) (by decide) hP c1) (show _ = 7 from rfl) ?_
    rintro r4 w6 ⟨⟨rfl, ep2, ev5, ef4⟩, hI7, hO3⟩
    show sx_RP _ _ _ _ _ [.int 1] _ _
    have hp8 : beT n X q ≤ n := beT_le hpl
    have hp9 : nP n X q ≤ n := rE_le hp8
    have hr10 := nmT_in c1
    have hP11 : rE blk n X (beT n X q) = nP n X q := rfl
    have hM12 := hM.hs (hO3)
    have hO13 := OM.rf.tr (HS.om (hO3))
    have hB14 : ia w6 112 = b := by rw [HS.row (hO3)]; exact hB
    refine sx_RP.step (pc2 := 12) (ls2 := [(0, .ref 111)]) (st2 := []) (w3 := w6) rfl rfl ?_
    refine sx_RP.step (pc2 := 13) (ls2 := [(0, .ref 111)]) (st2 := [.ref 111]) (w3 := w6) rfl rfl ?_
    refine sx_RP.gf (v := .ref 112) rfl rfl hI7.1.o111 rfl rfl (show _ = 16 from rfl) ?_
    refine sx_RP.step (pc2 := 17) (ls2 := [(0, .ref 111)]) (st2 := [.int 4, .ref 112]) (w3 := w6) rfl rfl ?_
    refine sx_RP.step (pc2 := 18) (ls2 := [(0, .ref 111)]) (st2 := [.ref 111, .int 4, .ref 112]) (w3 := w6) rfl rfl ?_
    refine sx_RP.gf (v := .int (fi w6 111 14)) rfl rfl hI7.1.o111 rfl rfl (show _ = 21 from rfl) ?_
    rw [ev5]
    refine sx_RP.xM (k := 4) hI7 (by decide) rfl (by omega) (eOK_n (by omega)) (show _ = 22 from rfl) (fun w15 hI16 hs17 hv18 => ?_)
    have hB19 : ia w15 112 = (b).set 4 (nI (vaT n X q)) := by rw [hv18, hB14]
    have ep20 := (fi_same 12 (hs17 111 (by decide))).trans ep2
    have ef21 := (fi_same 13 (hs17 111 (by decide))).trans ef4
    have hM22 := hM12.om (OM.st hs17)
    have hO23 := hO13.tr (OM.st hs17)
    refine sx_RP.step (pc2 := 23) (ls2 := [(0, .ref 111)]) (st2 := [.ref 111]) (w3 := w15) rfl rfl ?_
    refine sx_RP.step (pc2 := 26) (ls2 := [(0, .ref 111)]) (st2 := [.float 108, .ref 111]) (w3 := w15) rfl rfl ?_
    rcases Bool.eq_false_or_eq_true (wdT n X (nP n X q) (108 : UInt32)) with c24 | c24
    · refine sx_RP.callp (as2 := [.ref 111, .float 108]) (rest2 := []) rfl rfl (sx_inv_v2 (mi := 229) (k := 243) (st := [.float 108, .ref 111]) (w := w15) rfl rfl hI16.1.o111 rfl rfl rfl) rfl rfl rfl (y213t (k := (108 : UInt32)) (m := 6) hI16 hM22 hp8 ep20 ef21 (by decide) rfl (by decide) (by decide) hP11 c24) (show _ = 29 from rfl) ?_
      rintro r4 w28 ⟨⟨rfl, ep25⟩, hI29, hO26⟩
      show sx_RP _ _ _ _ _ [.int 1] _ _
      have ef27 := (hO26.2 13 (by decide)).trans ef21
      have hp30 : beT n X (nP n X q) ≤ n := beT_le hp9
      have hp31 : nP n X (nP n X q) ≤ n := rE_le hp30
      have hP32 : rE blk n X (beT n X (nP n X q)) = nP n X (nP n X q) := rfl
      have hM33 := hM22.hs (hO26.hs)
      have hO34 := hO23.tr (HS.om (hO26.hs))
      have hB35 : ia w28 112 = (b).set 4 (nI (vaT n X q)) := by rw [HS.row (hO26.hs)]; exact hB19
      refine sx_RP.step (pc2 := 32) (ls2 := [(0, .ref 111)]) (st2 := []) (w3 := w28) rfl rfl ?_
      refine sx_RP.step (pc2 := 33) (ls2 := [(0, .ref 111)]) (st2 := [.ref 111]) (w3 := w28) rfl rfl ?_
      refine sx_RP.step (pc2 := 34) (ls2 := [(0, .ref 111)]) (st2 := [.int 1, .ref 111]) (w3 := w28) rfl rfl ?_
      refine sx_RP.step (pc2 := 37) (ls2 := [(0, .ref 111)]) (st2 := [.int 999, .int 1, .ref 111]) (w3 := w28) rfl rfl ?_
      rcases Bool.eq_false_or_eq_true (nmT n X (nP n X (nP n X q)) 1 999) with c36 | c36
      · refine sx_RP.callp (as2 := [.ref 111, .int 1, .int 999]) (rest2 := []) rfl rfl (sx_inv_v2 (mi := 229) (k := 267) (st := [.int 999, .int 1, .ref 111]) (w := w28) rfl rfl hI29.1.o111 rfl rfl rfl) rfl rfl rfl (y220t (lo := 1) (hi := 999) hI29 hM33 hp30 ep25 ef27 (by omega) (by decide) hP32 c36) (show _ = 40 from rfl) ?_
        rintro r4 w41 ⟨⟨rfl, ep37, ev40, ef39⟩, hI42, hO38⟩
        show sx_RP _ _ _ _ _ [.int 1] _ _
        have hp43 : beT n X (nP n X (nP n X q)) ≤ n := beT_le hp31
        have hp44 : nP n X (nP n X (nP n X q)) ≤ n := rE_le hp43
        have hr45 := nmT_in c36
        have hP46 : rE blk n X (beT n X (nP n X (nP n X q))) = nP n X (nP n X (nP n X q)) := rfl
        have hM47 := hM33.hs (hO38)
        have hO48 := hO34.tr (HS.om (hO38))
        have hB49 : ia w41 112 = (b).set 4 (nI (vaT n X q)) := by rw [HS.row (hO38)]; exact hB35
        refine sx_RP.step (pc2 := 45) (ls2 := [(0, .ref 111)]) (st2 := []) (w3 := w41) rfl rfl ?_
        refine sx_RP.step (pc2 := 46) (ls2 := [(0, .ref 111)]) (st2 := [.ref 111]) (w3 := w41) rfl rfl ?_
        refine sx_RP.gf (v := .ref 112) rfl rfl hI42.1.o111 rfl rfl (show _ = 49 from rfl) ?_
        refine sx_RP.step (pc2 := 50) (ls2 := [(0, .ref 111)]) (st2 := [.int 5, .ref 112]) (w3 := w41) rfl rfl ?_
        refine sx_RP.step (pc2 := 51) (ls2 := [(0, .ref 111)]) (st2 := [.ref 111, .int 5, .ref 112]) (w3 := w41) rfl rfl ?_
        refine sx_RP.gf (v := .int (fi w41 111 14)) rfl rfl hI42.1.o111 rfl rfl (show _ = 54 from rfl) ?_
        rw [ev40]
        refine sx_RP.xM (k := 5) hI42 (by decide) rfl (by omega) (eOK_n (by omega)) (show _ = 55 from rfl) (fun w50 hI51 hs52 hv53 => ?_)
        have hB54 : ia w50 112 = ((b).set 4 (nI (vaT n X q))).set 5 (nI (vaT n X (nP n X (nP n X q)))) := by rw [hv53, hB49]
        have ep55 := (fi_same 12 (hs52 111 (by decide))).trans ep37
        have ef56 := (fi_same 13 (hs52 111 (by decide))).trans ef39
        have hM57 := hM47.om (OM.st hs52)
        have hO58 := hO48.tr (OM.st hs52)
        refine sx_RP.step (pc2 := 56) (ls2 := [(0, .ref 111)]) (st2 := [.ref 111]) (w3 := w50) rfl rfl ?_
        refine sx_RP.step (pc2 := 59) (ls2 := [(0, .ref 111)]) (st2 := [.float 111, .ref 111]) (w3 := w50) rfl rfl ?_
        rcases Bool.eq_false_or_eq_true (wdT n X (nP n X (nP n X (nP n X q))) (111 : UInt32)) with c59 | c59
        · refine sx_RP.callp (as2 := [.ref 111, .float 111]) (rest2 := []) rfl rfl (sx_inv_v2 (mi := 229) (k := 243) (st := [.float 111, .ref 111]) (w := w50) rfl rfl hI51.1.o111 rfl rfl rfl) rfl rfl rfl (y213t (k := (111 : UInt32)) (m := 6) hI51 hM57 hp43 ep55 ef56 (by decide) rfl (by decide) (by decide) hP46 c59) (show _ = 62 from rfl) ?_
          rintro r4 w63 ⟨⟨rfl, ep60⟩, hI64, hO61⟩
          show sx_RP _ _ _ _ _ [.int 1] _ _
          have ef62 := (hO61.2 13 (by decide)).trans ef56
          have hp65 : beT n X (nP n X (nP n X (nP n X q))) ≤ n := beT_le hp44
          have hp66 : nP n X (nP n X (nP n X (nP n X q))) ≤ n := rE_le hp65
          have hP67 : rE blk n X (beT n X (nP n X (nP n X (nP n X q)))) = nP n X (nP n X (nP n X (nP n X q))) := rfl
          have hM68 := hM57.hs (hO61.hs)
          have hO69 := hO58.tr (HS.om (hO61.hs))
          have hB70 : ia w63 112 = ((b).set 4 (nI (vaT n X q))).set 5 (nI (vaT n X (nP n X (nP n X q)))) := by rw [HS.row (hO61.hs)]; exact hB54
          refine sx_RP.step (pc2 := 65) (ls2 := [(0, .ref 111)]) (st2 := []) (w3 := w63) rfl rfl ?_
          refine sx_RP.step (pc2 := 66) (ls2 := [(0, .ref 111)]) (st2 := [.ref 111]) (w3 := w63) rfl rfl ?_
          refine sx_RP.step (pc2 := 67) (ls2 := [(0, .ref 111)]) (st2 := [.int 1, .ref 111]) (w3 := w63) rfl rfl ?_
          refine sx_RP.step (pc2 := 69) (ls2 := [(0, .ref 111)]) (st2 := [.int 99, .int 1, .ref 111]) (w3 := w63) rfl rfl ?_
          rcases Bool.eq_false_or_eq_true (nmT n X (nP n X (nP n X (nP n X (nP n X q)))) 1 99) with c71 | c71
          · refine sx_RP.callp (as2 := [.ref 111, .int 1, .int 99]) (rest2 := []) rfl rfl (sx_inv_v2 (mi := 229) (k := 267) (st := [.int 99, .int 1, .ref 111]) (w := w63) rfl rfl hI64.1.o111 rfl rfl rfl) rfl rfl rfl (y220t (lo := 1) (hi := 99) hI64 hM68 hp65 ep60 ef62 (by omega) (by decide) hP67 c71) (show _ = 72 from rfl) ?_
            rintro r4 w76 ⟨⟨rfl, ep72, ev75, ef74⟩, hI77, hO73⟩
            show sx_RP _ _ _ _ _ [.int 1] _ _
            have hp78 : beT n X (nP n X (nP n X (nP n X (nP n X q)))) ≤ n := beT_le hp66
            have hp79 : nP n X (nP n X (nP n X (nP n X (nP n X q)))) ≤ n := rE_le hp78
            have hr80 := nmT_in c71
            have hP81 : rE blk n X (beT n X (nP n X (nP n X (nP n X (nP n X q))))) = nP n X (nP n X (nP n X (nP n X (nP n X q)))) := rfl
            have hM82 := hM68.hs (hO73)
            have hO83 := hO69.tr (HS.om (hO73))
            have hB84 : ia w76 112 = ((b).set 4 (nI (vaT n X q))).set 5 (nI (vaT n X (nP n X (nP n X q)))) := by rw [HS.row (hO73)]; exact hB70
            refine sx_RP.step (pc2 := 77) (ls2 := [(0, .ref 111)]) (st2 := []) (w3 := w76) rfl rfl ?_
            refine sx_RP.step (pc2 := 78) (ls2 := [(0, .ref 111)]) (st2 := [.ref 111]) (w3 := w76) rfl rfl ?_
            refine sx_RP.gf (v := .ref 112) rfl rfl hI77.1.o111 rfl rfl (show _ = 81 from rfl) ?_
            refine sx_RP.step (pc2 := 83) (ls2 := [(0, .ref 111)]) (st2 := [.int 6, .ref 112]) (w3 := w76) rfl rfl ?_
            refine sx_RP.step (pc2 := 84) (ls2 := [(0, .ref 111)]) (st2 := [.ref 111, .int 6, .ref 112]) (w3 := w76) rfl rfl ?_
            refine sx_RP.gf (v := .int (fi w76 111 14)) rfl rfl hI77.1.o111 rfl rfl (show _ = 87 from rfl) ?_
            rw [ev75]
            refine sx_RP.xM (k := 6) hI77 (by decide) rfl (by omega) (eOK_n (by omega)) (show _ = 88 from rfl) (fun w85 hI86 hs87 hv88 => ?_)
            have hB89 : ia w85 112 = (((b).set 4 (nI (vaT n X q))).set 5 (nI (vaT n X (nP n X (nP n X q))))).set 6 (nI (vaT n X (nP n X (nP n X (nP n X (nP n X q)))))) := by rw [hv88, hB84]
            have ep90 := (fi_same 12 (hs87 111 (by decide))).trans ep72
            have ef91 := (fi_same 13 (hs87 111 (by decide))).trans ef74
            have hM92 := hM82.om (OM.st hs87)
            have hO93 := hO83.tr (OM.st hs87)
            refine sx_RP.step (pc2 := 89) (ls2 := [(0, .ref 111)]) (st2 := [.int 1]) (w3 := w85) rfl rfl ?_
            refine sx_RP.ret (r := (some (.int 1))) rfl rfl ?_
            have eR : breZ n X q b = (true, nP n X (nP n X (nP n X (nP n X (nP n X q)))), (((b).set 4 (nI (vaT n X q))).set 5 (nI (vaT n X (nP n X (nP n X q))))).set 6 (nI (vaT n X (nP n X (nP n X (nP n X (nP n X q))))))) := by simp only [breZ, bw1, bw2, wtT, c1, c24, c36, c59, c71, if_true, if_false, Bool.false_eq_true, ite_true, ite_false, true_or, or_true, or_false, false_or]
            rw [eR]
            exact ⟨⟨rfl, RdN.t ef91 hB89 hp78 ep90 hP81⟩, hI86, hO93⟩
          · refine sx_RP.callp (as2 := [.ref 111, .int 1, .int 99]) (rest2 := []) rfl rfl (sx_inv_v2 (mi := 229) (k := 267) (st := [.int 99, .int 1, .ref 111]) (w := w63) rfl rfl hI64.1.o111 rfl rfl rfl) rfl rfl rfl (y220f (lo := 1) (hi := 99) hI64 hM68 hp65 ep60 ef62 (by omega) (by decide) hP67 c71) (show _ = 72 from rfl) ?_
            rintro r4 w98 ⟨⟨rfl, ep94⟩, hI99, hO95⟩
            show sx_RP _ _ _ _ _ [.int 0] _ _
            have hO100 := hO69.tr (HS.om hO95)
            refine sx_RP.step (pc2 := 75) (ls2 := [(0, .ref 111)]) (st2 := []) (w3 := w98) rfl rfl ?_
            refine sx_RP.step (pc2 := 76) (ls2 := [(0, .ref 111)]) (st2 := [.int 0]) (w3 := w98) rfl rfl ?_
            refine sx_RP.ret (r := (some (.int 0))) rfl rfl ?_
            have eR : breZ n X q b = (false, nP n X (nP n X (nP n X (nP n X q))), ((b).set 4 (nI (vaT n X q))).set 5 (nI (vaT n X (nP n X (nP n X q))))) := by simp only [breZ, bw1, bw2, wtT, c1, c24, c36, c59, c71, if_true, if_false, Bool.false_eq_true, ite_true, ite_false, true_or, or_true, or_false, false_or]
            rw [eR]
            exact ⟨⟨rfl, RdN.f ep94⟩, hI99, hO100⟩
        · refine sx_RP.callp (as2 := [.ref 111, .float 111]) (rest2 := []) rfl rfl (sx_inv_v2 (mi := 229) (k := 243) (st := [.float 111, .ref 111]) (w := w50) rfl rfl hI51.1.o111 rfl rfl rfl) rfl rfl rfl (y213f (k := (111 : UInt32)) (m := 6) hI51 hM57 hp43 ep55 ef56 (by decide) rfl (by decide) (by decide) hP46 c59) (show _ = 62 from rfl) ?_
          rintro r4 w104 ⟨⟨rfl, ep101⟩, hI105, hO102⟩
          show sx_RP _ _ _ _ _ [.int 0] _ _
          have ef103 := (hO102.2 13 (by decide)).trans ef56
          have hP106 : rE blk n X (nP n X (nP n X (nP n X q))) = (nP n X (nP n X (nP n X q))) := by rw [← hP46]; exact rE_rE
          have hM107 := hM57.hs (hO102.hs)
          have hO108 := hO58.tr (HS.om (hO102.hs))
          have hB109 : ia w104 112 = ((b).set 4 (nI (vaT n X q))).set 5 (nI (vaT n X (nP n X (nP n X q)))) := by rw [HS.row (hO102.hs)]; exact hB54
          refine sx_RP.step (pc2 := 88) (ls2 := [(0, .ref 111)]) (st2 := []) (w3 := w104) rfl rfl ?_
          refine sx_RP.step (pc2 := 89) (ls2 := [(0, .ref 111)]) (st2 := [.int 1]) (w3 := w104) rfl rfl ?_
          refine sx_RP.ret (r := (some (.int 1))) rfl rfl ?_
          have eR : breZ n X q b = (true, nP n X (nP n X (nP n X q)), ((b).set 4 (nI (vaT n X q))).set 5 (nI (vaT n X (nP n X (nP n X q))))) := by simp only [breZ, bw1, bw2, wtT, c1, c24, c36, c59, if_true, if_false, Bool.false_eq_true, ite_true, ite_false, true_or, or_true, or_false, false_or]
          rw [eR]
          exact ⟨⟨rfl, RdN.t ef103 hB109 hp44 ep101 hP106⟩, hI105, hO108⟩
      · refine sx_RP.callp (as2 := [.ref 111, .int 1, .int 999]) (rest2 := []) rfl rfl (sx_inv_v2 (mi := 229) (k := 267) (st := [.int 999, .int 1, .ref 111]) (w := w28) rfl rfl hI29.1.o111 rfl rfl rfl) rfl rfl rfl (y220f (lo := 1) (hi := 999) hI29 hM33 hp30 ep25 ef27 (by omega) (by decide) hP32 c36) (show _ = 40 from rfl) ?_
        rintro r4 w114 ⟨⟨rfl, ep110⟩, hI115, hO111⟩
        show sx_RP _ _ _ _ _ [.int 0] _ _
        have hO116 := hO34.tr (HS.om hO111)
        refine sx_RP.step (pc2 := 43) (ls2 := [(0, .ref 111)]) (st2 := []) (w3 := w114) rfl rfl ?_
        refine sx_RP.step (pc2 := 44) (ls2 := [(0, .ref 111)]) (st2 := [.int 0]) (w3 := w114) rfl rfl ?_
        refine sx_RP.ret (r := (some (.int 0))) rfl rfl ?_
        have eR : breZ n X q b = (false, nP n X (nP n X q), (b).set 4 (nI (vaT n X q))) := by simp only [breZ, bw1, bw2, wtT, c1, c24, c36, if_true, if_false, Bool.false_eq_true, ite_true, ite_false, true_or, or_true, or_false, false_or]
        rw [eR]
        exact ⟨⟨rfl, RdN.f ep110⟩, hI115, hO116⟩
    · refine sx_RP.callp (as2 := [.ref 111, .float 108]) (rest2 := []) rfl rfl (sx_inv_v2 (mi := 229) (k := 243) (st := [.float 108, .ref 111]) (w := w15) rfl rfl hI16.1.o111 rfl rfl rfl) rfl rfl rfl (y213f (k := (108 : UInt32)) (m := 6) hI16 hM22 hp8 ep20 ef21 (by decide) rfl (by decide) (by decide) hP11 c24) (show _ = 29 from rfl) ?_
      rintro r4 w120 ⟨⟨rfl, ep117⟩, hI121, hO118⟩
      show sx_RP _ _ _ _ _ [.int 0] _ _
      have ef119 := (hO118.2 13 (by decide)).trans ef21
      have hP122 : rE blk n X (nP n X q) = (nP n X q) := by rw [← hP11]; exact rE_rE
      have hM123 := hM22.hs (hO118.hs)
      have hO124 := hO23.tr (HS.om (hO118.hs))
      have hB125 : ia w120 112 = (b).set 4 (nI (vaT n X q)) := by rw [HS.row (hO118.hs)]; exact hB19
      refine sx_RP.step (pc2 := 55) (ls2 := [(0, .ref 111)]) (st2 := []) (w3 := w120) rfl rfl ?_
      refine sx_RP.step (pc2 := 56) (ls2 := [(0, .ref 111)]) (st2 := [.ref 111]) (w3 := w120) rfl rfl ?_
      refine sx_RP.step (pc2 := 59) (ls2 := [(0, .ref 111)]) (st2 := [.float 111, .ref 111]) (w3 := w120) rfl rfl ?_
      rcases Bool.eq_false_or_eq_true (wdT n X (nP n X q) (111 : UInt32)) with c126 | c126
      · refine sx_RP.callp (as2 := [.ref 111, .float 111]) (rest2 := []) rfl rfl (sx_inv_v2 (mi := 229) (k := 243) (st := [.float 111, .ref 111]) (w := w120) rfl rfl hI121.1.o111 rfl rfl rfl) rfl rfl rfl (y213t (k := (111 : UInt32)) (m := 6) hI121 hM123 hp9 ep117 ef119 (by decide) rfl (by decide) (by decide) hP122 c126) (show _ = 62 from rfl) ?_
        rintro r4 w130 ⟨⟨rfl, ep127⟩, hI131, hO128⟩
        show sx_RP _ _ _ _ _ [.int 1] _ _
        have ef129 := (hO128.2 13 (by decide)).trans ef119
        have hp132 : beT n X (nP n X q) ≤ n := beT_le hp9
        have hp133 : nP n X (nP n X q) ≤ n := rE_le hp132
        have hP134 : rE blk n X (beT n X (nP n X q)) = nP n X (nP n X q) := rfl
        have hM135 := hM123.hs (hO128.hs)
        have hO136 := hO124.tr (HS.om (hO128.hs))
        have hB137 : ia w130 112 = (b).set 4 (nI (vaT n X q)) := by rw [HS.row (hO128.hs)]; exact hB125
        refine sx_RP.step (pc2 := 65) (ls2 := [(0, .ref 111)]) (st2 := []) (w3 := w130) rfl rfl ?_
        refine sx_RP.step (pc2 := 66) (ls2 := [(0, .ref 111)]) (st2 := [.ref 111]) (w3 := w130) rfl rfl ?_
        refine sx_RP.step (pc2 := 67) (ls2 := [(0, .ref 111)]) (st2 := [.int 1, .ref 111]) (w3 := w130) rfl rfl ?_
        refine sx_RP.step (pc2 := 69) (ls2 := [(0, .ref 111)]) (st2 := [.int 99, .int 1, .ref 111]) (w3 := w130) rfl rfl ?_
        rcases Bool.eq_false_or_eq_true (nmT n X (nP n X (nP n X q)) 1 99) with c138 | c138
        · refine sx_RP.callp (as2 := [.ref 111, .int 1, .int 99]) (rest2 := []) rfl rfl (sx_inv_v2 (mi := 229) (k := 267) (st := [.int 99, .int 1, .ref 111]) (w := w130) rfl rfl hI131.1.o111 rfl rfl rfl) rfl rfl rfl (y220t (lo := 1) (hi := 99) hI131 hM135 hp132 ep127 ef129 (by omega) (by decide) hP134 c138) (show _ = 72 from rfl) ?_
          rintro r4 w143 ⟨⟨rfl, ep139, ev142, ef141⟩, hI144, hO140⟩
          show sx_RP _ _ _ _ _ [.int 1] _ _
          have hp145 : beT n X (nP n X (nP n X q)) ≤ n := beT_le hp133
          have hp146 : nP n X (nP n X (nP n X q)) ≤ n := rE_le hp145
          have hr147 := nmT_in c138
          have hP148 : rE blk n X (beT n X (nP n X (nP n X q))) = nP n X (nP n X (nP n X q)) := rfl
          have hM149 := hM135.hs (hO140)
          have hO150 := hO136.tr (HS.om (hO140))
          have hB151 : ia w143 112 = (b).set 4 (nI (vaT n X q)) := by rw [HS.row (hO140)]; exact hB137
          refine sx_RP.step (pc2 := 77) (ls2 := [(0, .ref 111)]) (st2 := []) (w3 := w143) rfl rfl ?_
          refine sx_RP.step (pc2 := 78) (ls2 := [(0, .ref 111)]) (st2 := [.ref 111]) (w3 := w143) rfl rfl ?_
          refine sx_RP.gf (v := .ref 112) rfl rfl hI144.1.o111 rfl rfl (show _ = 81 from rfl) ?_
          refine sx_RP.step (pc2 := 83) (ls2 := [(0, .ref 111)]) (st2 := [.int 6, .ref 112]) (w3 := w143) rfl rfl ?_
          refine sx_RP.step (pc2 := 84) (ls2 := [(0, .ref 111)]) (st2 := [.ref 111, .int 6, .ref 112]) (w3 := w143) rfl rfl ?_
          refine sx_RP.gf (v := .int (fi w143 111 14)) rfl rfl hI144.1.o111 rfl rfl (show _ = 87 from rfl) ?_
          rw [ev142]
          refine sx_RP.xM (k := 6) hI144 (by decide) rfl (by omega) (eOK_n (by omega)) (show _ = 88 from rfl) (fun w152 hI153 hs154 hv155 => ?_)
          have hB156 : ia w152 112 = ((b).set 4 (nI (vaT n X q))).set 6 (nI (vaT n X (nP n X (nP n X q)))) := by rw [hv155, hB151]
          have ep157 := (fi_same 12 (hs154 111 (by decide))).trans ep139
          have ef158 := (fi_same 13 (hs154 111 (by decide))).trans ef141
          have hM159 := hM149.om (OM.st hs154)
          have hO160 := hO150.tr (OM.st hs154)
          refine sx_RP.step (pc2 := 89) (ls2 := [(0, .ref 111)]) (st2 := [.int 1]) (w3 := w152) rfl rfl ?_
          refine sx_RP.ret (r := (some (.int 1))) rfl rfl ?_
          have eR : breZ n X q b = (true, nP n X (nP n X (nP n X q)), ((b).set 4 (nI (vaT n X q))).set 6 (nI (vaT n X (nP n X (nP n X q))))) := by simp only [breZ, bw1, bw2, wtT, c1, c24, c126, c138, if_true, if_false, Bool.false_eq_true, ite_true, ite_false, true_or, or_true, or_false, false_or]
          rw [eR]
          exact ⟨⟨rfl, RdN.t ef158 hB156 hp145 ep157 hP148⟩, hI153, hO160⟩
        · refine sx_RP.callp (as2 := [.ref 111, .int 1, .int 99]) (rest2 := []) rfl rfl (sx_inv_v2 (mi := 229) (k := 267) (st := [.int 99, .int 1, .ref 111]) (w := w130) rfl rfl hI131.1.o111 rfl rfl rfl) rfl rfl rfl (y220f (lo := 1) (hi := 99) hI131 hM135 hp132 ep127 ef129 (by omega) (by decide) hP134 c138) (show _ = 72 from rfl) ?_
          rintro r4 w165 ⟨⟨rfl, ep161⟩, hI166, hO162⟩
          show sx_RP _ _ _ _ _ [.int 0] _ _
          have hO167 := hO136.tr (HS.om hO162)
          refine sx_RP.step (pc2 := 75) (ls2 := [(0, .ref 111)]) (st2 := []) (w3 := w165) rfl rfl ?_
          refine sx_RP.step (pc2 := 76) (ls2 := [(0, .ref 111)]) (st2 := [.int 0]) (w3 := w165) rfl rfl ?_
          refine sx_RP.ret (r := (some (.int 0))) rfl rfl ?_
          have eR : breZ n X q b = (false, nP n X (nP n X q), (b).set 4 (nI (vaT n X q))) := by simp only [breZ, bw1, bw2, wtT, c1, c24, c126, c138, if_true, if_false, Bool.false_eq_true, ite_true, ite_false, true_or, or_true, or_false, false_or]
          rw [eR]
          exact ⟨⟨rfl, RdN.f ep161⟩, hI166, hO167⟩
      · refine sx_RP.callp (as2 := [.ref 111, .float 111]) (rest2 := []) rfl rfl (sx_inv_v2 (mi := 229) (k := 243) (st := [.float 111, .ref 111]) (w := w120) rfl rfl hI121.1.o111 rfl rfl rfl) rfl rfl rfl (y213f (k := (111 : UInt32)) (m := 6) hI121 hM123 hp9 ep117 ef119 (by decide) rfl (by decide) (by decide) hP122 c126) (show _ = 62 from rfl) ?_
        rintro r4 w171 ⟨⟨rfl, ep168⟩, hI172, hO169⟩
        show sx_RP _ _ _ _ _ [.int 0] _ _
        have ef170 := (hO169.2 13 (by decide)).trans ef119
        have hP173 : rE blk n X (nP n X q) = (nP n X q) := by rw [← hP122]; exact rE_rE
        have hM174 := hM123.hs (hO169.hs)
        have hO175 := hO124.tr (HS.om (hO169.hs))
        have hB176 : ia w171 112 = (b).set 4 (nI (vaT n X q)) := by rw [HS.row (hO169.hs)]; exact hB125
        refine sx_RP.step (pc2 := 88) (ls2 := [(0, .ref 111)]) (st2 := []) (w3 := w171) rfl rfl ?_
        refine sx_RP.step (pc2 := 89) (ls2 := [(0, .ref 111)]) (st2 := [.int 1]) (w3 := w171) rfl rfl ?_
        refine sx_RP.ret (r := (some (.int 1))) rfl rfl ?_
        have eR : breZ n X q b = (true, nP n X q, (b).set 4 (nI (vaT n X q))) := by simp only [breZ, bw1, bw2, wtT, c1, c24, c126, if_true, if_false, Bool.false_eq_true, ite_true, ite_false, true_or, or_true, or_false, false_or]
        rw [eR]
        exact ⟨⟨rfl, RdN.t ef170 hB176 hp9 ep168 hP173⟩, hI172, hO175⟩
  · refine sx_RP.callp (as2 := [.ref 111, .int 0, .int 999999]) (rest2 := []) rfl rfl (sx_inv_v2 (mi := 229) (k := 267) (st := [.int 999999, .int 0, .ref 111]) (w := w) rfl rfl hI.1.o111 rfl rfl rfl) rfl rfl rfl (y220f (lo := 0) (hi := 999999) hI hM hp ep ef (by omega) (by decide) hP c1) (show _ = 7 from rfl) ?_
    rintro r4 w181 ⟨⟨rfl, ep177⟩, hI182, hO178⟩
    show sx_RP _ _ _ _ _ [.int 0] _ _
    have hO183 := OM.rf.tr (HS.om hO178)
    refine sx_RP.step (pc2 := 10) (ls2 := [(0, .ref 111)]) (st2 := []) (w3 := w181) rfl rfl ?_
    refine sx_RP.step (pc2 := 11) (ls2 := [(0, .ref 111)]) (st2 := [.int 0]) (w3 := w181) rfl rfl ?_
    refine sx_RP.ret (r := (some (.int 0))) rfl rfl ?_
    have eR : breZ n X q b = (false, q, b) := by simp only [breZ, bw1, bw2, wtT, c1, if_true, if_false, Bool.false_eq_true, ite_true, ite_false, true_or, or_true, or_false, false_or]
    rw [eR]
    exact ⟨⟨rfl, RdN.f ep177⟩, hI182, hO183⟩
set_option maxRecDepth 20000 in
set_option maxHeartbeats 4000000 in
theorem U227 {xs : Option (List Int32)} {d : Nat} {w : List sx_C} (hI : WI w) {n h q : Nat} {X : Nat → Nat} {b : List Int32} (hM : MT n X w) (hp : h ≤ n) (ep : fi w 111 12 = nI h) (ef : fi w 111 13 = -1) (hP : rE blk n X h = q) (hB : ia w 112 = b) {k u : Nat} (hk : k ≤ 5) (hu : b.getD 1 0 = nI u) (hu9 : u ≤ 9) : sx_RP xs (d + 6) 227 0 (lv_args 0 [.ref 111, .int (nI k)]) [] w (fun r w2 => (r = some (.int (b01 (galZ n X k q b).1)) ∧ RdN n X (galZ n X k q b) w2) ∧ WI w2 ∧ OM w w2) := by
  have hun : iN (b.getD 1 0) = u := by rw [hu, iN_n (by omega)]
  have hn := hM.2.1
  have hpl : q ≤ n := by rw [← hP]; exact rE_le hp
  refine sx_RP.step (pc2 := 1) (ls2 := [(0, .ref 111), (1, .int (nI k))]) (st2 := [.ref 111]) (w3 := w) rfl rfl ?_
  refine sx_RP.step (pc2 := 4) (ls2 := [(0, .ref 111), (1, .int (nI k))]) (st2 := [.float 115, .ref 111]) (w3 := w) rfl rfl ?_
  rcases Bool.eq_false_or_eq_true (wdT n X q (115 : UInt32)) with c1 | c1
  · refine sx_RP.callp (as2 := [.ref 111, .float 115]) (rest2 := []) rfl rfl (sx_inv_v2 (mi := 227) (k := 243) (st := [.float 115, .ref 111]) (w := w) rfl rfl hI.1.o111 rfl rfl rfl) rfl rfl rfl (y213t (k := (115 : UInt32)) (m := 6) hI hM hp ep ef (by decide) rfl (by decide) (by decide) hP c1) (show _ = 7 from rfl) ?_
    rintro r4 w5 ⟨⟨rfl, ep2⟩, hI6, hO3⟩
    show sx_RP _ _ _ _ _ [.int 1] _ _
    have ef4 := (hO3.2 13 (by decide)).trans ef
    have hp7 : beT n X q ≤ n := beT_le hpl
    have hp8 : nP n X q ≤ n := rE_le hp7
    have hP9 : rE blk n X (beT n X q) = nP n X q := rfl
    have hM10 := hM.hs (hO3.hs)
    have hO11 := OM.rf.tr (HS.om (hO3.hs))
    have hB12 : ia w5 112 = b := by rw [HS.row (hO3.hs)]; exact hB
    refine sx_RP.step (pc2 := 10) (ls2 := [(0, .ref 111), (1, .int (nI k))]) (st2 := []) (w3 := w5) rfl rfl ?_
    refine sx_RP.step (pc2 := 11) (ls2 := [(0, .ref 111), (1, .int (nI k))]) (st2 := [.int 0]) (w3 := w5) rfl rfl ?_
    refine sx_RP.step (pc2 := 15) (ls2 := [(0, .ref 111), (1, .int (nI k))]) (st2 := [.int 0]) (w3 := w5) rfl rfl ?_
    refine sx_RP.step (pc2 := 16) (ls2 := [(2, .int 0), (0, .ref 111), (1, .int (nI k))]) (st2 := []) (w3 := w5) rfl rfl ?_
    refine sx_RP.step (pc2 := 17) (ls2 := [(2, .int 0), (0, .ref 111), (1, .int (nI k))]) (st2 := [.int 0]) (w3 := w5) rfl rfl ?_
    refine sx_RP.step (pc2 := 18) (ls2 := [(2, .int 0), (0, .ref 111), (1, .int (nI k))]) (st2 := [.int 1, .int 0]) (w3 := w5) rfl rfl ?_
    refine sx_RP.step (pc2 := 33) (ls2 := [(2, .int 0), (0, .ref 111), (1, .int (nI k))]) (st2 := []) (w3 := w5) rfl rfl ?_
    refine sx_RP.step (pc2 := 34) (ls2 := [(2, .int 0), (0, .ref 111), (1, .int (nI k))]) (st2 := [.ref 111]) (w3 := w5) rfl rfl ?_
    refine sx_RP.step (pc2 := 37) (ls2 := [(2, .int 0), (0, .ref 111), (1, .int (nI k))]) (st2 := [.float 100, .ref 111]) (w3 := w5) rfl rfl ?_
    rcases Bool.eq_false_or_eq_true (wdT n X (nP n X q) (100 : UInt32)) with c13 | c13
    · refine sx_RP.callp (as2 := [.ref 111, .float 100]) (rest2 := []) rfl rfl (sx_inv_v2 (mi := 227) (k := 282) (st := [.float 100, .ref 111]) (w := w5) rfl rfl hI6.1.o111 rfl rfl rfl) rfl rfl rfl (y228t (k := (100 : UInt32)) (m := 2) hI6 hM10 hp7 ep2 ef4 (by decide) rfl (by decide) (by decide) hP9 c13) (show _ = 40 from rfl) ?_
      rintro r4 w17 ⟨⟨rfl, ep14, ef16⟩, hI18, hO15⟩
      show sx_RP _ _ _ _ _ [.int 1] _ _
      have hp19 : beT n X (nP n X q) ≤ n := beT_le hp8
      have hp20 : nP n X (nP n X q) ≤ n := rE_le hp19
      have hP21 : rE blk n X (beT n X (nP n X q)) = nP n X (nP n X q) := rfl
      have hM22 := hM10.hs (hO15)
      have hO23 := hO11.tr (HS.om (hO15))
      have hB24 : ia w17 112 = b := by rw [HS.row (hO15)]; exact hB12
      refine sx_RP.step (pc2 := 43) (ls2 := [(2, .int 0), (0, .ref 111), (1, .int (nI k))]) (st2 := []) (w3 := w17) rfl rfl ?_
      refine sx_RP.step (pc2 := 44) (ls2 := [(2, .int 0), (0, .ref 111), (1, .int (nI k))]) (st2 := [.ref 111]) (w3 := w17) rfl rfl ?_
      refine sx_RP.step (pc2 := 45) (ls2 := [(2, .int 0), (0, .ref 111), (1, .int (nI k))]) (st2 := [.int 0, .ref 111]) (w3 := w17) rfl rfl ?_
      refine sx_RP.step (pc2 := 47) (ls2 := [(2, .int 0), (0, .ref 111), (1, .int (nI k))]) (st2 := [.int 47, .int 0, .ref 111]) (w3 := w17) rfl rfl ?_
      rcases Bool.eq_false_or_eq_true (nmT n X (nP n X (nP n X q)) 0 47) with c25 | c25
      · refine sx_RP.callp (as2 := [.ref 111, .int 0, .int 47]) (rest2 := []) rfl rfl (sx_inv_v2 (mi := 227) (k := 267) (st := [.int 47, .int 0, .ref 111]) (w := w17) rfl rfl hI18.1.o111 rfl rfl rfl) rfl rfl rfl (y220t (lo := 0) (hi := 47) hI18 hM22 hp19 ep14 ef16 (by omega) (by decide) hP21 c25) (show _ = 50 from rfl) ?_
        rintro r4 w30 ⟨⟨rfl, ep26, ev29, ef28⟩, hI31, hO27⟩
        show sx_RP _ _ _ _ _ [.int 1] _ _
        have hp32 : beT n X (nP n X (nP n X q)) ≤ n := beT_le hp20
        have hp33 : nP n X (nP n X (nP n X q)) ≤ n := rE_le hp32
        have hr34 := nmT_in c25
        have hP35 : rE blk n X (beT n X (nP n X (nP n X q))) = nP n X (nP n X (nP n X q)) := rfl
        have hM36 := hM22.hs (hO27)
        have hO37 := hO23.tr (HS.om (hO27))
        have hB38 : ia w30 112 = b := by rw [HS.row (hO27)]; exact hB24
        refine sx_RP.step (pc2 := 55) (ls2 := [(2, .int 0), (0, .ref 111), (1, .int (nI k))]) (st2 := []) (w3 := w30) rfl rfl ?_
        refine sx_RP.step (pc2 := 56) (ls2 := [(2, .int 0), (0, .ref 111), (1, .int (nI k))]) (st2 := [.ref 111]) (w3 := w30) rfl rfl ?_
        refine sx_RP.gf (v := .int (fi w30 111 14)) rfl rfl hI31.1.o111 rfl rfl (show _ = 59 from rfl) ?_
        rw [ev29]
        refine sx_RP.step (pc2 := 60) (ls2 := [(3, .int (nI (vaT n X (nP n X (nP n X q))))), (2, .int 0), (0, .ref 111), (1, .int (nI k))]) (st2 := []) (w3 := w30) rfl rfl ?_
        refine sx_RP.step (pc2 := 61) (ls2 := [(3, .int (nI (vaT n X (nP n X (nP n X q))))), (2, .int 0), (0, .ref 111), (1, .int (nI k))]) (st2 := [.ref 111]) (w3 := w30) rfl rfl ?_
        refine sx_RP.step (pc2 := 64) (ls2 := [(3, .int (nI (vaT n X (nP n X (nP n X q))))), (2, .int 0), (0, .ref 111), (1, .int (nI k))]) (st2 := [.float 119, .ref 111]) (w3 := w30) rfl rfl ?_
        rcases Bool.eq_false_or_eq_true (wdT n X (nP n X (nP n X (nP n X q))) (119 : UInt32)) with c39 | c39
        · refine sx_RP.callp (as2 := [.ref 111, .float 119]) (rest2 := []) rfl rfl (sx_inv_v2 (mi := 227) (k := 282) (st := [.float 119, .ref 111]) (w := w30) rfl rfl hI31.1.o111 rfl rfl rfl) rfl rfl rfl (y228t (k := (119 : UInt32)) (m := 3) hI31 hM36 hp32 ep26 ef28 (by decide) rfl (by decide) (by decide) hP35 c39) (show _ = 67 from rfl) ?_
          rintro r4 w43 ⟨⟨rfl, ep40, ef42⟩, hI44, hO41⟩
          show sx_RP _ _ _ _ _ [.int 1] _ _
          have hp45 : beT n X (nP n X (nP n X (nP n X q))) ≤ n := beT_le hp33
          have hp46 : nP n X (nP n X (nP n X (nP n X q))) ≤ n := rE_le hp45
          have hP47 : rE blk n X (beT n X (nP n X (nP n X (nP n X q)))) = nP n X (nP n X (nP n X (nP n X q))) := rfl
          have hM48 := hM36.hs (hO41)
          have hO49 := hO37.tr (HS.om (hO41))
          have hB50 : ia w43 112 = b := by rw [HS.row (hO41)]; exact hB38
          refine sx_RP.step (pc2 := 70) (ls2 := [(3, .int (nI (vaT n X (nP n X (nP n X q))))), (2, .int 0), (0, .ref 111), (1, .int (nI k))]) (st2 := []) (w3 := w43) rfl rfl ?_
          refine sx_RP.step (pc2 := 71) (ls2 := [(3, .int (nI (vaT n X (nP n X (nP n X q))))), (2, .int 0), (0, .ref 111), (1, .int (nI k))]) (st2 := [.ref 111]) (w3 := w43) rfl rfl ?_
          refine sx_RP.step (pc2 := 72) (ls2 := [(3, .int (nI (vaT n X (nP n X (nP n X q))))), (2, .int 0), (0, .ref 111), (1, .int (nI k))]) (st2 := [.int 0, .ref 111]) (w3 := w43) rfl rfl ?_
          refine sx_RP.step (pc2 := 73) (ls2 := [(3, .int (nI (vaT n X (nP n X (nP n X q))))), (2, .int 0), (0, .ref 111), (1, .int (nI k))]) (st2 := [.int 3, .int 0, .ref 111]) (w3 := w43) rfl rfl ?_
          rcases Bool.eq_false_or_eq_true (nmT n X (nP n X (nP n X (nP n X (nP n X q)))) 0 3) with c51 | c51
          · refine sx_RP.callp (as2 := [.ref 111, .int 0, .int 3]) (rest2 := []) rfl rfl (sx_inv_v2 (mi := 227) (k := 267) (st := [.int 3, .int 0, .ref 111]) (w := w43) rfl rfl hI44.1.o111 rfl rfl rfl) rfl rfl rfl (y220t (lo := 0) (hi := 3) hI44 hM48 hp45 ep40 ef42 (by omega) (by decide) hP47 c51) (show _ = 76 from rfl) ?_
            rintro r4 w56 ⟨⟨rfl, ep52, ev55, ef54⟩, hI57, hO53⟩
            show sx_RP _ _ _ _ _ [.int 1] _ _
            have hp58 : beT n X (nP n X (nP n X (nP n X (nP n X q)))) ≤ n := beT_le hp46
            have hp59 : nP n X (nP n X (nP n X (nP n X (nP n X q)))) ≤ n := rE_le hp58
            have hr60 := nmT_in c51
            have hP61 : rE blk n X (beT n X (nP n X (nP n X (nP n X (nP n X q))))) = nP n X (nP n X (nP n X (nP n X (nP n X q)))) := rfl
            have hM62 := hM48.hs (hO53)
            have hO63 := hO49.tr (HS.om (hO53))
            have hB64 : ia w56 112 = b := by rw [HS.row (hO53)]; exact hB50
            refine sx_RP.step (pc2 := 81) (ls2 := [(3, .int (nI (vaT n X (nP n X (nP n X q))))), (2, .int 0), (0, .ref 111), (1, .int (nI k))]) (st2 := []) (w3 := w56) rfl rfl ?_
            refine sx_RP.step (pc2 := 82) (ls2 := [(3, .int (nI (vaT n X (nP n X (nP n X q))))), (2, .int 0), (0, .ref 111), (1, .int (nI k))]) (st2 := [.ref 111]) (w3 := w56) rfl rfl ?_
            refine sx_RP.step (pc2 := 83) (ls2 := [(3, .int (nI (vaT n X (nP n X (nP n X q))))), (2, .int 0), (0, .ref 111), (1, .int (nI k))]) (st2 := [.int (nI k), .ref 111]) (w3 := w56) rfl rfl ?_
            refine sx_RP.step (pc2 := 84) (ls2 := [(3, .int (nI (vaT n X (nP n X (nP n X q))))), (2, .int 0), (0, .ref 111), (1, .int (nI k))]) (st2 := [.int 0, .int (nI k), .ref 111]) (w3 := w56) rfl rfl ?_
            refine sx_RP.step (pc2 := 85) (ls2 := [(3, .int (nI (vaT n X (nP n X (nP n X q))))), (2, .int 0), (0, .ref 111), (1, .int (nI k))]) (st2 := [.int (nI (vaT n X (nP n X (nP n X q)))), .int 0, .int (nI k), .ref 111]) (w3 := w56) rfl rfl ?_
            refine sx_RP.step (pc2 := 86) (ls2 := [(3, .int (nI (vaT n X (nP n X (nP n X q))))), (2, .int 0), (0, .ref 111), (1, .int (nI k))]) (st2 := [.ref 111, .int (nI (vaT n X (nP n X (nP n X q)))), .int 0, .int (nI k), .ref 111]) (w3 := w56) rfl rfl ?_
            refine sx_RP.gf (v := .int (fi w56 111 14)) rfl rfl hI57.1.o111 rfl rfl (show _ = 89 from rfl) ?_
            rw [ev55]
            have hen : (ia w56 112).getD 1 0 = nI u := by rw [hB64]; exact hu
            refine sx_RP.callp (as2 := [.ref 111, .int (nI k), .int 0, .int (nI (vaT n X (nP n X (nP n X q)))), .int (nI (vaT n X (nP n X (nP n X (nP n X (nP n X q))))))]) (rest2 := []) rfl rfl (sx_inv_v2 (mi := 227) (k := 120) (st := [.int (nI (vaT n X (nP n X (nP n X (nP n X (nP n X q)))))), .int (nI (vaT n X (nP n X (nP n X q)))), .int 0, .int (nI k), .ref 111]) (w := w56) rfl rfl hI57.1.o111 rfl rfl rfl) rfl rfl rfl (X153 hI57 (by omega) hen (show k ≤ 5 by omega) (show 0 ≤ 1 by omega) (show (vaT n X (nP n X (nP n X q))) < 48 by omega) (show (vaT n X (nP n X (nP n X (nP n X (nP n X q))))) ≤ 3 by omega)) (show _ = 92 from rfl) ?_
            rintro r4 w68 ⟨⟨rfl, hc65⟩, hI69, hs66⟩
            show sx_RP _ _ _ _ _ [] _ _
            have hB67 : ia w68 112 = addRow (b) (iN ((b).getD 1 0)) (nI (k)) (nI 0) (nI ((vaT n X (nP n X (nP n X q))))) (nI ((vaT n X (nP n X (nP n X (nP n X (nP n X q))))))) := by rw [hc65, hB64, hun]
            have ep70 := (fi_same 12 (hs66 111 (by decide))).trans ep52
            have ef71 := (fi_same 13 (hs66 111 (by decide))).trans ef54
            have hM72 := hM62.om (OM.st hs66)
            have hO73 := hO63.tr (OM.st hs66)
            refine sx_RP.step (pc2 := 93) (ls2 := [(3, .int (nI (vaT n X (nP n X (nP n X q))))), (2, .int 0), (0, .ref 111), (1, .int (nI k))]) (st2 := [.int 1]) (w3 := w68) rfl rfl ?_
            refine sx_RP.ret (r := (some (.int 1))) rfl rfl ?_
            have eR : galZ n X k q b = (true, nP n X (nP n X (nP n X (nP n X (nP n X q)))), addRow (b) (iN ((b).getD 1 0)) (nI (k)) (nI 0) (nI ((vaT n X (nP n X (nP n X q))))) (nI ((vaT n X (nP n X (nP n X (nP n X (nP n X q)))))))) := by simp only [galZ, galY, wtT, c1, c13, c25, c39, c51, if_true, if_false, Bool.false_eq_true, ite_true, ite_false, true_or, or_true, or_false, false_or]
            rw [eR]
            exact ⟨⟨rfl, RdN.t ef71 hB67 hp58 ep70 hP61⟩, hI69, hO73⟩
          · refine sx_RP.callp (as2 := [.ref 111, .int 0, .int 3]) (rest2 := []) rfl rfl (sx_inv_v2 (mi := 227) (k := 267) (st := [.int 3, .int 0, .ref 111]) (w := w43) rfl rfl hI44.1.o111 rfl rfl rfl) rfl rfl rfl (y220f (lo := 0) (hi := 3) hI44 hM48 hp45 ep40 ef42 (by omega) (by decide) hP47 c51) (show _ = 76 from rfl) ?_
            rintro r4 w78 ⟨⟨rfl, ep74⟩, hI79, hO75⟩
            show sx_RP _ _ _ _ _ [.int 0] _ _
            have hO80 := hO49.tr (HS.om hO75)
            refine sx_RP.step (pc2 := 79) (ls2 := [(3, .int (nI (vaT n X (nP n X (nP n X q))))), (2, .int 0), (0, .ref 111), (1, .int (nI k))]) (st2 := []) (w3 := w78) rfl rfl ?_
            refine sx_RP.step (pc2 := 80) (ls2 := [(3, .int (nI (vaT n X (nP n X (nP n X q))))), (2, .int 0), (0, .ref 111), (1, .int (nI k))]) (st2 := [.int 0]) (w3 := w78) rfl rfl ?_
            refine sx_RP.ret (r := (some (.int 0))) rfl rfl ?_
            have eR : galZ n X k q b = (false, nP n X (nP n X (nP n X (nP n X q))), b) := by simp only [galZ, galY, wtT, c1, c13, c25, c39, c51, if_true, if_false, Bool.false_eq_true, ite_true, ite_false, true_or, or_true, or_false, false_or]
            rw [eR]
            exact ⟨⟨rfl, RdN.f ep74⟩, hI79, hO80⟩
        · refine sx_RP.callp (as2 := [.ref 111, .float 119]) (rest2 := []) rfl rfl (sx_inv_v2 (mi := 227) (k := 282) (st := [.float 119, .ref 111]) (w := w30) rfl rfl hI31.1.o111 rfl rfl rfl) rfl rfl rfl (y228f (k := (119 : UInt32)) (m := 3) hI31 hM36 hp32 ep26 ef28 (by decide) rfl (by decide) (by decide) hP35 c39) (show _ = 67 from rfl) ?_
          rintro r4 w84 ⟨⟨rfl, ep81⟩, hI85, hO82⟩
          show sx_RP _ _ _ _ _ [.int 0] _ _
          have hO86 := hO37.tr (HS.om hO82)
          refine sx_RP.step (pc2 := 79) (ls2 := [(3, .int (nI (vaT n X (nP n X (nP n X q))))), (2, .int 0), (0, .ref 111), (1, .int (nI k))]) (st2 := []) (w3 := w84) rfl rfl ?_
          refine sx_RP.step (pc2 := 80) (ls2 := [(3, .int (nI (vaT n X (nP n X (nP n X q))))), (2, .int 0), (0, .ref 111), (1, .int (nI k))]) (st2 := [.int 0]) (w3 := w84) rfl rfl ?_
          refine sx_RP.ret (r := (some (.int 0))) rfl rfl ?_
          have eR : galZ n X k q b = (false, nP n X (nP n X (nP n X q)), b) := by simp only [galZ, galY, wtT, c1, c13, c25, c39, if_true, if_false, Bool.false_eq_true, ite_true, ite_false, true_or, or_true, or_false, false_or]
          rw [eR]
          exact ⟨⟨rfl, RdN.f ep81⟩, hI85, hO86⟩
      · refine sx_RP.callp (as2 := [.ref 111, .int 0, .int 47]) (rest2 := []) rfl rfl (sx_inv_v2 (mi := 227) (k := 267) (st := [.int 47, .int 0, .ref 111]) (w := w17) rfl rfl hI18.1.o111 rfl rfl rfl) rfl rfl rfl (y220f (lo := 0) (hi := 47) hI18 hM22 hp19 ep14 ef16 (by omega) (by decide) hP21 c25) (show _ = 50 from rfl) ?_
        rintro r4 w91 ⟨⟨rfl, ep87⟩, hI92, hO88⟩
        show sx_RP _ _ _ _ _ [.int 0] _ _
        have hO93 := hO23.tr (HS.om hO88)
        refine sx_RP.step (pc2 := 53) (ls2 := [(2, .int 0), (0, .ref 111), (1, .int (nI k))]) (st2 := []) (w3 := w91) rfl rfl ?_
        refine sx_RP.step (pc2 := 54) (ls2 := [(2, .int 0), (0, .ref 111), (1, .int (nI k))]) (st2 := [.int 0]) (w3 := w91) rfl rfl ?_
        refine sx_RP.ret (r := (some (.int 0))) rfl rfl ?_
        have eR : galZ n X k q b = (false, nP n X (nP n X q), b) := by simp only [galZ, galY, wtT, c1, c13, c25, if_true, if_false, Bool.false_eq_true, ite_true, ite_false, true_or, or_true, or_false, false_or]
        rw [eR]
        exact ⟨⟨rfl, RdN.f ep87⟩, hI92, hO93⟩
    · refine sx_RP.callp (as2 := [.ref 111, .float 100]) (rest2 := []) rfl rfl (sx_inv_v2 (mi := 227) (k := 282) (st := [.float 100, .ref 111]) (w := w5) rfl rfl hI6.1.o111 rfl rfl rfl) rfl rfl rfl (y228f (k := (100 : UInt32)) (m := 2) hI6 hM10 hp7 ep2 ef4 (by decide) rfl (by decide) (by decide) hP9 c13) (show _ = 40 from rfl) ?_
      rintro r4 w97 ⟨⟨rfl, ep94⟩, hI98, hO95⟩
      show sx_RP _ _ _ _ _ [.int 0] _ _
      have hO99 := hO11.tr (HS.om hO95)
      refine sx_RP.step (pc2 := 53) (ls2 := [(2, .int 0), (0, .ref 111), (1, .int (nI k))]) (st2 := []) (w3 := w97) rfl rfl ?_
      refine sx_RP.step (pc2 := 54) (ls2 := [(2, .int 0), (0, .ref 111), (1, .int (nI k))]) (st2 := [.int 0]) (w3 := w97) rfl rfl ?_
      refine sx_RP.ret (r := (some (.int 0))) rfl rfl ?_
      have eR : galZ n X k q b = (false, nP n X q, b) := by simp only [galZ, galY, wtT, c1, c13, if_true, if_false, Bool.false_eq_true, ite_true, ite_false, true_or, or_true, or_false, false_or]
      rw [eR]
      exact ⟨⟨rfl, RdN.f ep94⟩, hI98, hO99⟩
  · refine sx_RP.callp (as2 := [.ref 111, .float 115]) (rest2 := []) rfl rfl (sx_inv_v2 (mi := 227) (k := 243) (st := [.float 115, .ref 111]) (w := w) rfl rfl hI.1.o111 rfl rfl rfl) rfl rfl rfl (y213f (k := (115 : UInt32)) (m := 6) hI hM hp ep ef (by decide) rfl (by decide) (by decide) hP c1) (show _ = 7 from rfl) ?_
    rintro r4 w103 ⟨⟨rfl, ep100⟩, hI104, hO101⟩
    show sx_RP _ _ _ _ _ [.int 0] _ _
    have ef102 := (hO101.2 13 (by decide)).trans ef
    have hP105 : rE blk n X q = q := by rw [← hP]; exact rE_rE
    have hM106 := hM.hs (hO101.hs)
    have hO107 := OM.rf.tr (HS.om (hO101.hs))
    have hB108 : ia w103 112 = b := by rw [HS.row (hO101.hs)]; exact hB
    refine sx_RP.step (pc2 := 14) (ls2 := [(0, .ref 111), (1, .int (nI k))]) (st2 := []) (w3 := w103) rfl rfl ?_
    refine sx_RP.step (pc2 := 15) (ls2 := [(0, .ref 111), (1, .int (nI k))]) (st2 := [.int 1]) (w3 := w103) rfl rfl ?_
    refine sx_RP.step (pc2 := 16) (ls2 := [(2, .int 1), (0, .ref 111), (1, .int (nI k))]) (st2 := []) (w3 := w103) rfl rfl ?_
    refine sx_RP.step (pc2 := 17) (ls2 := [(2, .int 1), (0, .ref 111), (1, .int (nI k))]) (st2 := [.int 1]) (w3 := w103) rfl rfl ?_
    refine sx_RP.step (pc2 := 18) (ls2 := [(2, .int 1), (0, .ref 111), (1, .int (nI k))]) (st2 := [.int 1, .int 1]) (w3 := w103) rfl rfl ?_
    refine sx_RP.step (pc2 := 21) (ls2 := [(2, .int 1), (0, .ref 111), (1, .int (nI k))]) (st2 := []) (w3 := w103) rfl rfl ?_
    refine sx_RP.step (pc2 := 22) (ls2 := [(2, .int 1), (0, .ref 111), (1, .int (nI k))]) (st2 := [.ref 111]) (w3 := w103) rfl rfl ?_
    refine sx_RP.step (pc2 := 25) (ls2 := [(2, .int 1), (0, .ref 111), (1, .int (nI k))]) (st2 := [.float 109, .ref 111]) (w3 := w103) rfl rfl ?_
    rcases Bool.eq_false_or_eq_true (wdT n X q (109 : UInt32)) with c109 | c109
    · refine sx_RP.callp (as2 := [.ref 111, .float 109]) (rest2 := []) rfl rfl (sx_inv_v2 (mi := 227) (k := 282) (st := [.float 109, .ref 111]) (w := w103) rfl rfl hI104.1.o111 rfl rfl rfl) rfl rfl rfl (y228t (k := (109 : UInt32)) (m := 4) hI104 hM106 hpl ep100 ef102 (by decide) rfl (by decide) (by decide) hP105 c109) (show _ = 28 from rfl) ?_
      rintro r4 w113 ⟨⟨rfl, ep110, ef112⟩, hI114, hO111⟩
      show sx_RP _ _ _ _ _ [.int 1] _ _
      have hp115 : beT n X q ≤ n := beT_le hpl
      have hp116 : nP n X q ≤ n := rE_le hp115
      have hP117 : rE blk n X (beT n X q) = nP n X q := rfl
      have hM118 := hM106.hs (hO111)
      have hO119 := hO107.tr (HS.om (hO111))
      have hB120 : ia w113 112 = b := by rw [HS.row (hO111)]; exact hB108
      refine sx_RP.step (pc2 := 33) (ls2 := [(2, .int 1), (0, .ref 111), (1, .int (nI k))]) (st2 := []) (w3 := w113) rfl rfl ?_
      refine sx_RP.step (pc2 := 34) (ls2 := [(2, .int 1), (0, .ref 111), (1, .int (nI k))]) (st2 := [.ref 111]) (w3 := w113) rfl rfl ?_
      refine sx_RP.step (pc2 := 37) (ls2 := [(2, .int 1), (0, .ref 111), (1, .int (nI k))]) (st2 := [.float 100, .ref 111]) (w3 := w113) rfl rfl ?_
      rcases Bool.eq_false_or_eq_true (wdT n X (nP n X q) (100 : UInt32)) with c121 | c121
      · refine sx_RP.callp (as2 := [.ref 111, .float 100]) (rest2 := []) rfl rfl (sx_inv_v2 (mi := 227) (k := 282) (st := [.float 100, .ref 111]) (w := w113) rfl rfl hI114.1.o111 rfl rfl rfl) rfl rfl rfl (y228t (k := (100 : UInt32)) (m := 2) hI114 hM118 hp115 ep110 ef112 (by decide) rfl (by decide) (by decide) hP117 c121) (show _ = 40 from rfl) ?_
        rintro r4 w125 ⟨⟨rfl, ep122, ef124⟩, hI126, hO123⟩
        show sx_RP _ _ _ _ _ [.int 1] _ _
        have hp127 : beT n X (nP n X q) ≤ n := beT_le hp116
        have hp128 : nP n X (nP n X q) ≤ n := rE_le hp127
        have hP129 : rE blk n X (beT n X (nP n X q)) = nP n X (nP n X q) := rfl
        have hM130 := hM118.hs (hO123)
        have hO131 := hO119.tr (HS.om (hO123))
        have hB132 : ia w125 112 = b := by rw [HS.row (hO123)]; exact hB120
        refine sx_RP.step (pc2 := 43) (ls2 := [(2, .int 1), (0, .ref 111), (1, .int (nI k))]) (st2 := []) (w3 := w125) rfl rfl ?_
        refine sx_RP.step (pc2 := 44) (ls2 := [(2, .int 1), (0, .ref 111), (1, .int (nI k))]) (st2 := [.ref 111]) (w3 := w125) rfl rfl ?_
        refine sx_RP.step (pc2 := 45) (ls2 := [(2, .int 1), (0, .ref 111), (1, .int (nI k))]) (st2 := [.int 0, .ref 111]) (w3 := w125) rfl rfl ?_
        refine sx_RP.step (pc2 := 47) (ls2 := [(2, .int 1), (0, .ref 111), (1, .int (nI k))]) (st2 := [.int 47, .int 0, .ref 111]) (w3 := w125) rfl rfl ?_
        rcases Bool.eq_false_or_eq_true (nmT n X (nP n X (nP n X q)) 0 47) with c133 | c133
        · refine sx_RP.callp (as2 := [.ref 111, .int 0, .int 47]) (rest2 := []) rfl rfl (sx_inv_v2 (mi := 227) (k := 267) (st := [.int 47, .int 0, .ref 111]) (w := w125) rfl rfl hI126.1.o111 rfl rfl rfl) rfl rfl rfl (y220t (lo := 0) (hi := 47) hI126 hM130 hp127 ep122 ef124 (by omega) (by decide) hP129 c133) (show _ = 50 from rfl) ?_
          rintro r4 w138 ⟨⟨rfl, ep134, ev137, ef136⟩, hI139, hO135⟩
          show sx_RP _ _ _ _ _ [.int 1] _ _
          have hp140 : beT n X (nP n X (nP n X q)) ≤ n := beT_le hp128
          have hp141 : nP n X (nP n X (nP n X q)) ≤ n := rE_le hp140
          have hr142 := nmT_in c133
          have hP143 : rE blk n X (beT n X (nP n X (nP n X q))) = nP n X (nP n X (nP n X q)) := rfl
          have hM144 := hM130.hs (hO135)
          have hO145 := hO131.tr (HS.om (hO135))
          have hB146 : ia w138 112 = b := by rw [HS.row (hO135)]; exact hB132
          refine sx_RP.step (pc2 := 55) (ls2 := [(2, .int 1), (0, .ref 111), (1, .int (nI k))]) (st2 := []) (w3 := w138) rfl rfl ?_
          refine sx_RP.step (pc2 := 56) (ls2 := [(2, .int 1), (0, .ref 111), (1, .int (nI k))]) (st2 := [.ref 111]) (w3 := w138) rfl rfl ?_
          refine sx_RP.gf (v := .int (fi w138 111 14)) rfl rfl hI139.1.o111 rfl rfl (show _ = 59 from rfl) ?_
          rw [ev137]
          refine sx_RP.step (pc2 := 60) (ls2 := [(3, .int (nI (vaT n X (nP n X (nP n X q))))), (2, .int 1), (0, .ref 111), (1, .int (nI k))]) (st2 := []) (w3 := w138) rfl rfl ?_
          refine sx_RP.step (pc2 := 61) (ls2 := [(3, .int (nI (vaT n X (nP n X (nP n X q))))), (2, .int 1), (0, .ref 111), (1, .int (nI k))]) (st2 := [.ref 111]) (w3 := w138) rfl rfl ?_
          refine sx_RP.step (pc2 := 64) (ls2 := [(3, .int (nI (vaT n X (nP n X (nP n X q))))), (2, .int 1), (0, .ref 111), (1, .int (nI k))]) (st2 := [.float 119, .ref 111]) (w3 := w138) rfl rfl ?_
          rcases Bool.eq_false_or_eq_true (wdT n X (nP n X (nP n X (nP n X q))) (119 : UInt32)) with c147 | c147
          · refine sx_RP.callp (as2 := [.ref 111, .float 119]) (rest2 := []) rfl rfl (sx_inv_v2 (mi := 227) (k := 282) (st := [.float 119, .ref 111]) (w := w138) rfl rfl hI139.1.o111 rfl rfl rfl) rfl rfl rfl (y228t (k := (119 : UInt32)) (m := 3) hI139 hM144 hp140 ep134 ef136 (by decide) rfl (by decide) (by decide) hP143 c147) (show _ = 67 from rfl) ?_
            rintro r4 w151 ⟨⟨rfl, ep148, ef150⟩, hI152, hO149⟩
            show sx_RP _ _ _ _ _ [.int 1] _ _
            have hp153 : beT n X (nP n X (nP n X (nP n X q))) ≤ n := beT_le hp141
            have hp154 : nP n X (nP n X (nP n X (nP n X q))) ≤ n := rE_le hp153
            have hP155 : rE blk n X (beT n X (nP n X (nP n X (nP n X q)))) = nP n X (nP n X (nP n X (nP n X q))) := rfl
            have hM156 := hM144.hs (hO149)
            have hO157 := hO145.tr (HS.om (hO149))
            have hB158 : ia w151 112 = b := by rw [HS.row (hO149)]; exact hB146
            refine sx_RP.step (pc2 := 70) (ls2 := [(3, .int (nI (vaT n X (nP n X (nP n X q))))), (2, .int 1), (0, .ref 111), (1, .int (nI k))]) (st2 := []) (w3 := w151) rfl rfl ?_
            refine sx_RP.step (pc2 := 71) (ls2 := [(3, .int (nI (vaT n X (nP n X (nP n X q))))), (2, .int 1), (0, .ref 111), (1, .int (nI k))]) (st2 := [.ref 111]) (w3 := w151) rfl rfl ?_
            refine sx_RP.step (pc2 := 72) (ls2 := [(3, .int (nI (vaT n X (nP n X (nP n X q))))), (2, .int 1), (0, .ref 111), (1, .int (nI k))]) (st2 := [.int 0, .ref 111]) (w3 := w151) rfl rfl ?_
            refine sx_RP.step (pc2 := 73) (ls2 := [(3, .int (nI (vaT n X (nP n X (nP n X q))))), (2, .int 1), (0, .ref 111), (1, .int (nI k))]) (st2 := [.int 3, .int 0, .ref 111]) (w3 := w151) rfl rfl ?_
            rcases Bool.eq_false_or_eq_true (nmT n X (nP n X (nP n X (nP n X (nP n X q)))) 0 3) with c159 | c159
            · refine sx_RP.callp (as2 := [.ref 111, .int 0, .int 3]) (rest2 := []) rfl rfl (sx_inv_v2 (mi := 227) (k := 267) (st := [.int 3, .int 0, .ref 111]) (w := w151) rfl rfl hI152.1.o111 rfl rfl rfl) rfl rfl rfl (y220t (lo := 0) (hi := 3) hI152 hM156 hp153 ep148 ef150 (by omega) (by decide) hP155 c159) (show _ = 76 from rfl) ?_
              rintro r4 w164 ⟨⟨rfl, ep160, ev163, ef162⟩, hI165, hO161⟩
              show sx_RP _ _ _ _ _ [.int 1] _ _
              have hp166 : beT n X (nP n X (nP n X (nP n X (nP n X q)))) ≤ n := beT_le hp154
              have hp167 : nP n X (nP n X (nP n X (nP n X (nP n X q)))) ≤ n := rE_le hp166
              have hr168 := nmT_in c159
              have hP169 : rE blk n X (beT n X (nP n X (nP n X (nP n X (nP n X q))))) = nP n X (nP n X (nP n X (nP n X (nP n X q)))) := rfl
              have hM170 := hM156.hs (hO161)
              have hO171 := hO157.tr (HS.om (hO161))
              have hB172 : ia w164 112 = b := by rw [HS.row (hO161)]; exact hB158
              refine sx_RP.step (pc2 := 81) (ls2 := [(3, .int (nI (vaT n X (nP n X (nP n X q))))), (2, .int 1), (0, .ref 111), (1, .int (nI k))]) (st2 := []) (w3 := w164) rfl rfl ?_
              refine sx_RP.step (pc2 := 82) (ls2 := [(3, .int (nI (vaT n X (nP n X (nP n X q))))), (2, .int 1), (0, .ref 111), (1, .int (nI k))]) (st2 := [.ref 111]) (w3 := w164) rfl rfl ?_
              refine sx_RP.step (pc2 := 83) (ls2 := [(3, .int (nI (vaT n X (nP n X (nP n X q))))), (2, .int 1), (0, .ref 111), (1, .int (nI k))]) (st2 := [.int (nI k), .ref 111]) (w3 := w164) rfl rfl ?_
              refine sx_RP.step (pc2 := 84) (ls2 := [(3, .int (nI (vaT n X (nP n X (nP n X q))))), (2, .int 1), (0, .ref 111), (1, .int (nI k))]) (st2 := [.int 1, .int (nI k), .ref 111]) (w3 := w164) rfl rfl ?_
              refine sx_RP.step (pc2 := 85) (ls2 := [(3, .int (nI (vaT n X (nP n X (nP n X q))))), (2, .int 1), (0, .ref 111), (1, .int (nI k))]) (st2 := [.int (nI (vaT n X (nP n X (nP n X q)))), .int 1, .int (nI k), .ref 111]) (w3 := w164) rfl rfl ?_
              refine sx_RP.step (pc2 := 86) (ls2 := [(3, .int (nI (vaT n X (nP n X (nP n X q))))), (2, .int 1), (0, .ref 111), (1, .int (nI k))]) (st2 := [.ref 111, .int (nI (vaT n X (nP n X (nP n X q)))), .int 1, .int (nI k), .ref 111]) (w3 := w164) rfl rfl ?_
              refine sx_RP.gf (v := .int (fi w164 111 14)) rfl rfl hI165.1.o111 rfl rfl (show _ = 89 from rfl) ?_
              rw [ev163]
              have hen : (ia w164 112).getD 1 0 = nI u := by rw [hB172]; exact hu
              refine sx_RP.callp (as2 := [.ref 111, .int (nI k), .int 1, .int (nI (vaT n X (nP n X (nP n X q)))), .int (nI (vaT n X (nP n X (nP n X (nP n X (nP n X q))))))]) (rest2 := []) rfl rfl (sx_inv_v2 (mi := 227) (k := 120) (st := [.int (nI (vaT n X (nP n X (nP n X (nP n X (nP n X q)))))), .int (nI (vaT n X (nP n X (nP n X q)))), .int 1, .int (nI k), .ref 111]) (w := w164) rfl rfl hI165.1.o111 rfl rfl rfl) rfl rfl rfl (X153 hI165 (by omega) hen (show k ≤ 5 by omega) (show 1 ≤ 1 by omega) (show (vaT n X (nP n X (nP n X q))) < 48 by omega) (show (vaT n X (nP n X (nP n X (nP n X (nP n X q))))) ≤ 3 by omega)) (show _ = 92 from rfl) ?_
              rintro r4 w176 ⟨⟨rfl, hc173⟩, hI177, hs174⟩
              show sx_RP _ _ _ _ _ [] _ _
              have hB175 : ia w176 112 = addRow (b) (iN ((b).getD 1 0)) (nI (k)) (nI 1) (nI ((vaT n X (nP n X (nP n X q))))) (nI ((vaT n X (nP n X (nP n X (nP n X (nP n X q))))))) := by rw [hc173, hB172, hun]
              have ep178 := (fi_same 12 (hs174 111 (by decide))).trans ep160
              have ef179 := (fi_same 13 (hs174 111 (by decide))).trans ef162
              have hM180 := hM170.om (OM.st hs174)
              have hO181 := hO171.tr (OM.st hs174)
              refine sx_RP.step (pc2 := 93) (ls2 := [(3, .int (nI (vaT n X (nP n X (nP n X q))))), (2, .int 1), (0, .ref 111), (1, .int (nI k))]) (st2 := [.int 1]) (w3 := w176) rfl rfl ?_
              refine sx_RP.ret (r := (some (.int 1))) rfl rfl ?_
              have eR : galZ n X k q b = (true, nP n X (nP n X (nP n X (nP n X (nP n X q)))), addRow (b) (iN ((b).getD 1 0)) (nI (k)) (nI 1) (nI ((vaT n X (nP n X (nP n X q))))) (nI ((vaT n X (nP n X (nP n X (nP n X (nP n X q)))))))) := by simp only [galZ, galY, wtT, c1, c109, c121, c133, c147, c159, if_true, if_false, Bool.false_eq_true, ite_true, ite_false, true_or, or_true, or_false, false_or]
              rw [eR]
              exact ⟨⟨rfl, RdN.t ef179 hB175 hp166 ep178 hP169⟩, hI177, hO181⟩
            · refine sx_RP.callp (as2 := [.ref 111, .int 0, .int 3]) (rest2 := []) rfl rfl (sx_inv_v2 (mi := 227) (k := 267) (st := [.int 3, .int 0, .ref 111]) (w := w151) rfl rfl hI152.1.o111 rfl rfl rfl) rfl rfl rfl (y220f (lo := 0) (hi := 3) hI152 hM156 hp153 ep148 ef150 (by omega) (by decide) hP155 c159) (show _ = 76 from rfl) ?_
              rintro r4 w186 ⟨⟨rfl, ep182⟩, hI187, hO183⟩
              show sx_RP _ _ _ _ _ [.int 0] _ _
              have hO188 := hO157.tr (HS.om hO183)
              refine sx_RP.step (pc2 := 79) (ls2 := [(3, .int (nI (vaT n X (nP n X (nP n X q))))), (2, .int 1), (0, .ref 111), (1, .int (nI k))]) (st2 := []) (w3 := w186) rfl rfl ?_
              refine sx_RP.step (pc2 := 80) (ls2 := [(3, .int (nI (vaT n X (nP n X (nP n X q))))), (2, .int 1), (0, .ref 111), (1, .int (nI k))]) (st2 := [.int 0]) (w3 := w186) rfl rfl ?_
              refine sx_RP.ret (r := (some (.int 0))) rfl rfl ?_
              have eR : galZ n X k q b = (false, nP n X (nP n X (nP n X (nP n X q))), b) := by simp only [galZ, galY, wtT, c1, c109, c121, c133, c147, c159, if_true, if_false, Bool.false_eq_true, ite_true, ite_false, true_or, or_true, or_false, false_or]
              rw [eR]
              exact ⟨⟨rfl, RdN.f ep182⟩, hI187, hO188⟩
          · refine sx_RP.callp (as2 := [.ref 111, .float 119]) (rest2 := []) rfl rfl (sx_inv_v2 (mi := 227) (k := 282) (st := [.float 119, .ref 111]) (w := w138) rfl rfl hI139.1.o111 rfl rfl rfl) rfl rfl rfl (y228f (k := (119 : UInt32)) (m := 3) hI139 hM144 hp140 ep134 ef136 (by decide) rfl (by decide) (by decide) hP143 c147) (show _ = 67 from rfl) ?_
            rintro r4 w192 ⟨⟨rfl, ep189⟩, hI193, hO190⟩
            show sx_RP _ _ _ _ _ [.int 0] _ _
            have hO194 := hO145.tr (HS.om hO190)
            refine sx_RP.step (pc2 := 79) (ls2 := [(3, .int (nI (vaT n X (nP n X (nP n X q))))), (2, .int 1), (0, .ref 111), (1, .int (nI k))]) (st2 := []) (w3 := w192) rfl rfl ?_
            refine sx_RP.step (pc2 := 80) (ls2 := [(3, .int (nI (vaT n X (nP n X (nP n X q))))), (2, .int 1), (0, .ref 111), (1, .int (nI k))]) (st2 := [.int 0]) (w3 := w192) rfl rfl ?_
            refine sx_RP.ret (r := (some (.int 0))) rfl rfl ?_
            have eR : galZ n X k q b = (false, nP n X (nP n X (nP n X q)), b) := by simp only [galZ, galY, wtT, c1, c109, c121, c133, c147, if_true, if_false, Bool.false_eq_true, ite_true, ite_false, true_or, or_true, or_false, false_or]
            rw [eR]
            exact ⟨⟨rfl, RdN.f ep189⟩, hI193, hO194⟩
        · refine sx_RP.callp (as2 := [.ref 111, .int 0, .int 47]) (rest2 := []) rfl rfl (sx_inv_v2 (mi := 227) (k := 267) (st := [.int 47, .int 0, .ref 111]) (w := w125) rfl rfl hI126.1.o111 rfl rfl rfl) rfl rfl rfl (y220f (lo := 0) (hi := 47) hI126 hM130 hp127 ep122 ef124 (by omega) (by decide) hP129 c133) (show _ = 50 from rfl) ?_
          rintro r4 w199 ⟨⟨rfl, ep195⟩, hI200, hO196⟩
          show sx_RP _ _ _ _ _ [.int 0] _ _
          have hO201 := hO131.tr (HS.om hO196)
          refine sx_RP.step (pc2 := 53) (ls2 := [(2, .int 1), (0, .ref 111), (1, .int (nI k))]) (st2 := []) (w3 := w199) rfl rfl ?_
          refine sx_RP.step (pc2 := 54) (ls2 := [(2, .int 1), (0, .ref 111), (1, .int (nI k))]) (st2 := [.int 0]) (w3 := w199) rfl rfl ?_
          refine sx_RP.ret (r := (some (.int 0))) rfl rfl ?_
          have eR : galZ n X k q b = (false, nP n X (nP n X q), b) := by simp only [galZ, galY, wtT, c1, c109, c121, c133, if_true, if_false, Bool.false_eq_true, ite_true, ite_false, true_or, or_true, or_false, false_or]
          rw [eR]
          exact ⟨⟨rfl, RdN.f ep195⟩, hI200, hO201⟩
      · refine sx_RP.callp (as2 := [.ref 111, .float 100]) (rest2 := []) rfl rfl (sx_inv_v2 (mi := 227) (k := 282) (st := [.float 100, .ref 111]) (w := w113) rfl rfl hI114.1.o111 rfl rfl rfl) rfl rfl rfl (y228f (k := (100 : UInt32)) (m := 2) hI114 hM118 hp115 ep110 ef112 (by decide) rfl (by decide) (by decide) hP117 c121) (show _ = 40 from rfl) ?_
        rintro r4 w205 ⟨⟨rfl, ep202⟩, hI206, hO203⟩
        show sx_RP _ _ _ _ _ [.int 0] _ _
        have hO207 := hO119.tr (HS.om hO203)
        refine sx_RP.step (pc2 := 53) (ls2 := [(2, .int 1), (0, .ref 111), (1, .int (nI k))]) (st2 := []) (w3 := w205) rfl rfl ?_
        refine sx_RP.step (pc2 := 54) (ls2 := [(2, .int 1), (0, .ref 111), (1, .int (nI k))]) (st2 := [.int 0]) (w3 := w205) rfl rfl ?_
        refine sx_RP.ret (r := (some (.int 0))) rfl rfl ?_
        have eR : galZ n X k q b = (false, nP n X q, b) := by simp only [galZ, galY, wtT, c1, c109, c121, if_true, if_false, Bool.false_eq_true, ite_true, ite_false, true_or, or_true, or_false, false_or]
        rw [eR]
        exact ⟨⟨rfl, RdN.f ep202⟩, hI206, hO207⟩
    · refine sx_RP.callp (as2 := [.ref 111, .float 109]) (rest2 := []) rfl rfl (sx_inv_v2 (mi := 227) (k := 282) (st := [.float 109, .ref 111]) (w := w103) rfl rfl hI104.1.o111 rfl rfl rfl) rfl rfl rfl (y228f (k := (109 : UInt32)) (m := 4) hI104 hM106 hpl ep100 ef102 (by decide) rfl (by decide) (by decide) hP105 c109) (show _ = 28 from rfl) ?_
      rintro r4 w211 ⟨⟨rfl, ep208⟩, hI212, hO209⟩
      show sx_RP _ _ _ _ _ [.int 0] _ _
      have hO213 := hO107.tr (HS.om hO209)
      refine sx_RP.step (pc2 := 31) (ls2 := [(2, .int 1), (0, .ref 111), (1, .int (nI k))]) (st2 := []) (w3 := w211) rfl rfl ?_
      refine sx_RP.step (pc2 := 32) (ls2 := [(2, .int 1), (0, .ref 111), (1, .int (nI k))]) (st2 := [.int 0]) (w3 := w211) rfl rfl ?_
      refine sx_RP.ret (r := (some (.int 0))) rfl rfl ?_
      have eR : galZ n X k q b = (false, q, b) := by simp only [galZ, galY, wtT, c1, c109, if_true, if_false, Bool.false_eq_true, ite_true, ite_false, true_or, or_true, or_false, false_or]
      rw [eR]
      exact ⟨⟨rfl, RdN.f ep208⟩, hI212, hO213⟩
set_option maxRecDepth 20000 in
set_option maxHeartbeats 4000000 in
theorem U224 {xs : Option (List Int32)} {d : Nat} {w : List sx_C} (hI : WI w) {c u : Nat} (hc : c < 48) (hu : u ≤ 4) : sx_RP xs d 224 0 (lv_args 0 [.ref 111, .int (nI c), .int (nI u)]) [] w (fun r w2 => (r = none ∧ ia w2 112 = lay1 u c (ia w 112)) ∧ WI w2 ∧ Same 112 w w2) := by
  refine sx_RP.step (pc2 := 1) (ls2 := [(0, .ref 111), (1, .int (nI c)), (2, .int (nI u))]) (st2 := [.int (nI u)]) (w3 := w) rfl rfl ?_
  refine sx_RP.step (pc2 := 2) (ls2 := [(0, .ref 111), (1, .int (nI c)), (2, .int (nI u))]) (st2 := [.int 4, .int (nI u)]) (w3 := w) rfl rfl ?_
  refine sx_RP.br (p1 := 18) (l1 := [(0, .ref 111), (1, .int (nI c)), (2, .int (nI u))]) (s1 := []) (v1 := w) (p2 := 5) (l2 := [(0, .ref 111), (1, .int (nI c)), (2, .int (nI u))]) (s2 := []) (v2 := w) rfl rfl (fun q1 => ?_) (fun q1 => ?_)
  · replace q1 := of_decide_eq_true q1
    replace q1 := mt (nI_eq (a := u) (b := 4) (by omega) (by omega)).mpr q1
    refine sx_RP.step (pc2 := 19) (ls2 := [(0, .ref 111), (1, .int (nI c)), (2, .int (nI u))]) (st2 := [.ref 111]) (w3 := w) rfl rfl ?_
    refine sx_RP.gf (v := .ref 112) rfl rfl hI.1.o111 rfl rfl (show _ = 22 from rfl) ?_
    refine sx_RP.step (pc2 := 24) (ls2 := [(0, .ref 111), (1, .int (nI c)), (2, .int (nI u))]) (st2 := [.int 7, .ref 112]) (w3 := w) rfl rfl ?_
    refine sx_RP.step (pc2 := 25) (ls2 := [(0, .ref 111), (1, .int (nI c)), (2, .int (nI u))]) (st2 := [.int (nI c), .int 7, .ref 112]) (w3 := w) rfl rfl ?_
    refine sx_RP.step (pc2 := 26) (ls2 := [(0, .ref 111), (1, .int (nI c)), (2, .int (nI u))]) (st2 := [.int (7 + (nI c)), .ref 112]) (w3 := w) rfl rfl ?_
    rw [show (7 + (nI c) : Int32) = nI (7 + c) from nI_add 7 c]
    refine sx_RP.step (pc2 := 27) (ls2 := [(0, .ref 111), (1, .int (nI c)), (2, .int (nI u))]) (st2 := [.int (nI u), .int (nI (7 + c)), .ref 112]) (w3 := w) rfl rfl ?_
    refine sx_RP.xM (k := (7 + c)) hI (by decide) rfl (by omega) (eOK_st (by omega) ⟨u, by omega, rfl⟩) (show _ = 28 from rfl) (fun w2 hI3 hs4 hv5 => ?_)
    refine sx_RP.ret (r := none) rfl rfl ?_
    exact ⟨⟨rfl, by rw [hv5]; unfold lay1; rw [if_neg q1]⟩, hI3, hs4⟩
  · replace q1 := Decidable.not_not.mp (of_decide_eq_false q1)
    replace q1 := (nI_eq (a := u) (b := 4) (by omega) (by omega)).mp q1
    refine sx_RP.step (pc2 := 6) (ls2 := [(0, .ref 111), (1, .int (nI c)), (2, .int (nI u))]) (st2 := [.ref 111]) (w3 := w) rfl rfl ?_
    refine sx_RP.gf (v := .ref 112) rfl rfl hI.1.o111 rfl rfl (show _ = 9 from rfl) ?_
    refine sx_RP.step (pc2 := 11) (ls2 := [(0, .ref 111), (1, .int (nI c)), (2, .int (nI u))]) (st2 := [.int 55, .ref 112]) (w3 := w) rfl rfl ?_
    refine sx_RP.step (pc2 := 12) (ls2 := [(0, .ref 111), (1, .int (nI c)), (2, .int (nI u))]) (st2 := [.int (nI c), .int 55, .ref 112]) (w3 := w) rfl rfl ?_
    refine sx_RP.step (pc2 := 13) (ls2 := [(0, .ref 111), (1, .int (nI c)), (2, .int (nI u))]) (st2 := [.int (55 + (nI c)), .ref 112]) (w3 := w) rfl rfl ?_
    rw [show (55 + (nI c) : Int32) = nI (55 + c) from nI_add 55 c]
    refine sx_RP.step (pc2 := 14) (ls2 := [(0, .ref 111), (1, .int (nI c)), (2, .int (nI u))]) (st2 := [.int 1, .int (nI (55 + c)), .ref 112]) (w3 := w) rfl rfl ?_
    refine sx_RP.xM (k := (55 + c)) hI (by decide) rfl (by omega) (eOK_n (by omega)) (show _ = 15 from rfl) (fun w6 hI7 hs8 hv9 => ?_)
    refine sx_RP.step (pc2 := 28) (ls2 := [(0, .ref 111), (1, .int (nI c)), (2, .int (nI u))]) (st2 := []) (w3 := w6) rfl rfl ?_
    refine sx_RP.ret (r := none) rfl rfl ?_
    exact ⟨⟨rfl, by rw [hv9]; unfold lay1; rw [if_pos q1]⟩, hI7, hs8⟩
set_option maxRecDepth 20000 in
set_option maxHeartbeats 4000000 in
theorem U219I {xs : Option (List Int32)} {d : Nat} {n h q v u : Nat} {X : Nat → Nat} {l : Int32} {w0 : List sx_C} (hu : u ≤ 4) (hv : v ≤ 47) (hp : h ≤ n) (hP : rE blk n X h = q) : ∀ (fz i : Nat) (w : List sx_C) (b : List Int32), i + fz = v + 1 → WI w → MT n X w → fi w 111 12 = nI h → fi w 111 13 = -1 → fi w 111 14 = nI v → ia w 112 = b → OM w0 w → sx_RP xs (d + 6) 219 62 [(0, .ref 111), (1, .int (nI u)), (2, .int l), (3, .int (nI i))] [] w (fun r w2 => (r = some (.int 1) ∧ RdN n X (true, q, layN u fz i b) w2) ∧ WI w2 ∧ OM w0 w2)
  | 0, i, w, b, hi, hI, hM, ep, ef, ev, hB, hO => by
    have hn := hM.2.1
    refine sx_RP.step (pc2 := 63) (ls2 := [(0, .ref 111), (1, .int (nI u)), (2, .int l), (3, .int (nI i))]) (st2 := [.int (nI i)]) (w3 := w) rfl rfl ?_
    refine sx_RP.step (pc2 := 64) (ls2 := [(0, .ref 111), (1, .int (nI u)), (2, .int l), (3, .int (nI i))]) (st2 := [.ref 111, .int (nI i)]) (w3 := w) rfl rfl ?_
    refine sx_RP.gf (v := .int (fi w 111 14)) rfl rfl hI.1.o111 rfl rfl (show _ = 67 from rfl) ?_
    rw [ev]
    refine sx_RP.br (p1 := 82) (l1 := [(0, .ref 111), (1, .int (nI u)), (2, .int l), (3, .int (nI i))]) (s1 := []) (v1 := w) rfl rfl (fun _ => ?_) (fun q => absurd ((nI_ltI (a := v) (b := i) (by omega) (by omega)).mpr (by omega)) (of_decide_eq_false q))
    refine sx_RP.step (pc2 := 83) (ls2 := [(0, .ref 111), (1, .int (nI u)), (2, .int l), (3, .int (nI i))]) (st2 := [.int 1]) (w3 := w) rfl rfl ?_
    refine sx_RP.ret (r := (some (.int 1))) rfl rfl ?_
    exact ⟨⟨rfl, RdN.t ef hB hp ep hP⟩, hI, hO⟩
  | fz + 1, i, w, b, hi, hI, hM, ep, ef, ev, hB, hO => by
    have hn := hM.2.1
    refine sx_RP.step (pc2 := 63) (ls2 := [(0, .ref 111), (1, .int (nI u)), (2, .int l), (3, .int (nI i))]) (st2 := [.int (nI i)]) (w3 := w) rfl rfl ?_
    refine sx_RP.step (pc2 := 64) (ls2 := [(0, .ref 111), (1, .int (nI u)), (2, .int l), (3, .int (nI i))]) (st2 := [.ref 111, .int (nI i)]) (w3 := w) rfl rfl ?_
    refine sx_RP.gf (v := .int (fi w 111 14)) rfl rfl hI.1.o111 rfl rfl (show _ = 67 from rfl) ?_
    rw [ev]
    refine sx_RP.br (p2 := 70) (l2 := [(0, .ref 111), (1, .int (nI u)), (2, .int l), (3, .int (nI i))]) (s2 := []) (v2 := w) rfl rfl (fun q => absurd (of_decide_eq_true q) (fun z => absurd ((nI_ltI (a := v) (b := i) (by omega) (by omega)).mp z) (by omega))) (fun _ => ?_)
    refine sx_RP.step (pc2 := 71) (ls2 := [(0, .ref 111), (1, .int (nI u)), (2, .int l), (3, .int (nI i))]) (st2 := [.ref 111]) (w3 := w) rfl rfl ?_
    refine sx_RP.step (pc2 := 72) (ls2 := [(0, .ref 111), (1, .int (nI u)), (2, .int l), (3, .int (nI i))]) (st2 := [.int (nI i), .ref 111]) (w3 := w) rfl rfl ?_
    refine sx_RP.step (pc2 := 73) (ls2 := [(0, .ref 111), (1, .int (nI u)), (2, .int l), (3, .int (nI i))]) (st2 := [.int (nI u), .int (nI i), .ref 111]) (w3 := w) rfl rfl ?_
    refine sx_RP.callp (as2 := [.ref 111, .int (nI i), .int (nI u)]) (rest2 := []) rfl rfl (sx_inv_v2 (mi := 219) (k := 270) (st := [.int (nI u), .int (nI i), .ref 111]) (w := w) rfl rfl hI.1.o111 rfl rfl rfl) rfl rfl rfl (U224 (c := i) (u := u) hI (by omega) (by omega)) (show _ = 76 from rfl) ?_
    rintro r4 w4 ⟨⟨rfl, hb1⟩, hI5, hs2⟩
    show sx_RP _ _ _ _ _ [] _ _
    have hB3 : ia w4 112 = lay1 u (i) (b) := by rw [hb1, hB]
    have ep6 := (fi_same 12 (hs2 111 (by decide))).trans ep
    have ef7 := (fi_same 13 (hs2 111 (by decide))).trans ef
    have hM8 := hM.om (OM.st hs2)
    have hO9 := hO.tr (OM.st hs2)
    have ev10 := (fi_same 14 (hs2 111 (by decide))).trans ev
    refine sx_RP.step (pc2 := 79) (ls2 := [(3, .int ((nI i) + 1)), (0, .ref 111), (1, .int (nI u)), (2, .int l)]) (st2 := []) (w3 := w4) rfl rfl ?_
    rw [nI_1 i]
    refine sx_RP.step (pc2 := 62) (ls2 := [(3, .int (nI (i + 1))), (0, .ref 111), (1, .int (nI u)), (2, .int l)]) (st2 := []) (w3 := w4) rfl rfl ?_
    exact sx_RP.ls (sx_lr.cons rfl (sx_lr.cons rfl (sx_lr.cons rfl (sx_lr.cons rfl sx_lr.nil)))) (U219I hu hv hp hP fz (i + 1) w4 (lay1 u i b) (by omega) hI5 hM8 ep6 ef7 ev10 hB3 hO9)
set_option maxRecDepth 20000 in
set_option maxHeartbeats 4000000 in
theorem U219L {xs : Option (List Int32)} {d n u : Nat} {X : Nat → Nat} {w0 : List sx_C} (hu : u ≤ 4) : ∀ (fz last h q : Nat) (w : List sx_C) (b : List Int32), 48 ≤ last + fz → last ≤ 47 → h ≤ n → rE blk n X h = q → WI w → MT n X w → fi w 111 12 = nI h → fi w 111 13 = -1 → ia w 112 = b → OM w0 w → sx_RP xs (d + 6) 219 27 [(0, .ref 111), (1, .int (nI u)), (2, .int (nI last))] [] w (fun r w2 => (r = some (.int (b01 (gwL n X u fz last q b).1)) ∧ RdN n X (gwL n X u fz last q b) w2) ∧ WI w2 ∧ OM w0 w2)
  | 0, last, h, q, w, b, h0, hl, hp, hP, hI, hM, ep, ef, hB, hO => absurd h0 (by omega)
  | fz + 1, last, h, q, w, b, h0, hl, hp, hP, hI, hM, ep, ef, hB, hO => by
    have hn := hM.2.1
    have hpl : q ≤ n := by rw [← hP]; exact rE_le hp
    refine sx_RP.step (pc2 := 28) (ls2 := [(0, .ref 111), (1, .int (nI u)), (2, .int (nI last))]) (st2 := [.ref 111]) (w3 := w) rfl rfl ?_
    rcases Decidable.em (soT n X q = 2) with c1 | c1
    · refine sx_RP.callp (as2 := [.ref 111]) (rest2 := []) rfl rfl (sx_inv_v2 (mi := 219) (k := 273) (st := [.ref 111]) (w := w) rfl rfl hI.1.o111 rfl rfl rfl) rfl rfl rfl (y225t hI hM hp ep ef hP c1) (show _ = 31 from rfl) ?_
      rintro r4 w5 ⟨⟨rfl, ep2⟩, hI6, hO3⟩
      show sx_RP _ _ _ _ _ [.int 1] _ _
      have ef4 := (hO3.2 13 (by decide)).trans ef
      have hP7 : rE blk n X q = q := by rw [← hP]; exact rE_rE
      have hM8 := hM.hs (hO3.hs)
      have hO9 := hO.tr (HS.om (hO3.hs))
      have hB10 : ia w5 112 = b := by rw [HS.row (hO3.hs)]; exact hB
      refine sx_RP.step (pc2 := 2) (ls2 := [(0, .ref 111), (1, .int (nI u)), (2, .int (nI last))]) (st2 := []) (w3 := w5) rfl rfl ?_
      refine sx_RP.step (pc2 := 3) (ls2 := [(0, .ref 111), (1, .int (nI u)), (2, .int (nI last))]) (st2 := [.ref 111]) (w3 := w5) rfl rfl ?_
      refine sx_RP.step (pc2 := 4) (ls2 := [(0, .ref 111), (1, .int (nI u)), (2, .int (nI last))]) (st2 := [.int (nI last), .ref 111]) (w3 := w5) rfl rfl ?_
      refine sx_RP.step (pc2 := 5) (ls2 := [(0, .ref 111), (1, .int (nI u)), (2, .int (nI last))]) (st2 := [.int 1, .int (nI last), .ref 111]) (w3 := w5) rfl rfl ?_
      refine sx_RP.step (pc2 := 6) (ls2 := [(0, .ref 111), (1, .int (nI u)), (2, .int (nI last))]) (st2 := [.int ((nI last) + 1), .ref 111]) (w3 := w5) rfl rfl ?_
      rw [show ((nI last) + 1 : Int32) = nI (last + 1) from nI_add last 1]
      refine sx_RP.step (pc2 := 8) (ls2 := [(0, .ref 111), (1, .int (nI u)), (2, .int (nI last))]) (st2 := [.int 47, .int (nI (last + 1)), .ref 111]) (w3 := w5) rfl rfl ?_
      rcases Bool.eq_false_or_eq_true (nmT n X q (last + 1) 47) with c11 | c11
      · refine sx_RP.callp (as2 := [.ref 111, .int (nI (last + 1)), .int 47]) (rest2 := []) rfl rfl (sx_inv_v2 (mi := 219) (k := 267) (st := [.int 47, .int (nI (last + 1)), .ref 111]) (w := w5) rfl rfl hI6.1.o111 rfl rfl rfl) rfl rfl rfl (y220t (lo := (last + 1)) (hi := 47) hI6 hM8 hpl ep2 ef4 (by omega) (by decide) hP7 c11) (show _ = 11 from rfl) ?_
        rintro r4 w16 ⟨⟨rfl, ep12, ev15, ef14⟩, hI17, hO13⟩
        show sx_RP _ _ _ _ _ [.int 1] _ _
        have hp18 : beT n X q ≤ n := beT_le hpl
        have hp19 : nP n X q ≤ n := rE_le hp18
        have hr20 := nmT_in c11
        have hP21 : rE blk n X (beT n X q) = nP n X q := rfl
        have hM22 := hM8.hs (hO13)
        have hO23 := hO9.tr (HS.om (hO13))
        have hB24 : ia w16 112 = b := by rw [HS.row (hO13)]; exact hB10
        refine sx_RP.step (pc2 := 16) (ls2 := [(0, .ref 111), (1, .int (nI u)), (2, .int (nI last))]) (st2 := []) (w3 := w16) rfl rfl ?_
        refine sx_RP.step (pc2 := 17) (ls2 := [(0, .ref 111), (1, .int (nI u)), (2, .int (nI last))]) (st2 := [.ref 111]) (w3 := w16) rfl rfl ?_
        refine sx_RP.gf (v := .int (fi w16 111 14)) rfl rfl hI17.1.o111 rfl rfl (show _ = 20 from rfl) ?_
        rw [ev15]
        refine sx_RP.step (pc2 := 21) (ls2 := [(2, .int (nI (vaT n X q))), (0, .ref 111), (1, .int (nI u))]) (st2 := []) (w3 := w16) rfl rfl ?_
        refine sx_RP.step (pc2 := 22) (ls2 := [(2, .int (nI (vaT n X q))), (0, .ref 111), (1, .int (nI u))]) (st2 := [.ref 111]) (w3 := w16) rfl rfl ?_
        refine sx_RP.step (pc2 := 23) (ls2 := [(2, .int (nI (vaT n X q))), (0, .ref 111), (1, .int (nI u))]) (st2 := [.int (nI (vaT n X q)), .ref 111]) (w3 := w16) rfl rfl ?_
        refine sx_RP.step (pc2 := 24) (ls2 := [(2, .int (nI (vaT n X q))), (0, .ref 111), (1, .int (nI u))]) (st2 := [.int (nI u), .int (nI (vaT n X q)), .ref 111]) (w3 := w16) rfl rfl ?_
        refine sx_RP.callp (as2 := [.ref 111, .int (nI (vaT n X q)), .int (nI u)]) (rest2 := []) rfl rfl (sx_inv_v2 (mi := 219) (k := 270) (st := [.int (nI u), .int (nI (vaT n X q)), .ref 111]) (w := w16) rfl rfl hI17.1.o111 rfl rfl rfl) rfl rfl rfl (U224 (c := (vaT n X q)) (u := u) hI17 (by omega) (by omega)) (show _ = 27 from rfl) ?_
        rintro r4 w28 ⟨⟨rfl, hb25⟩, hI29, hs26⟩
        show sx_RP _ _ _ _ _ [] _ _
        have hB27 : ia w28 112 = lay1 u ((vaT n X q)) (b) := by rw [hb25, hB24]
        have ep30 := (fi_same 12 (hs26 111 (by decide))).trans ep12
        have ef31 := (fi_same 13 (hs26 111 (by decide))).trans ef14
        have hM32 := hM22.om (OM.st hs26)
        have hO33 := hO23.tr (OM.st hs26)
        have eR : gwL n X u (fz + 1) last q b = gwL n X u fz ((vaT n X q)) (nP n X q) (lay1 u ((vaT n X q)) (b)) := by
          conv => lhs; unfold gwL
          simp only [grW, c1, c11, if_true, if_false, Bool.false_eq_true, ite_true, ite_false, true_or, or_true, or_false, false_or]
        rw [eR]
        exact sx_RP.ls (sx_lr.cons rfl (sx_lr.cons rfl (sx_lr.cons rfl sx_lr.nil))) (U219L hu fz ((vaT n X q)) (beT n X q) (nP n X q) w28 (lay1 u ((vaT n X q)) (b)) (by omega) (by omega) hp18 hP21 hI29 hM32 ep30 ef31 hB27 hO33)
      · refine sx_RP.callp (as2 := [.ref 111, .int (nI (last + 1)), .int 47]) (rest2 := []) rfl rfl (sx_inv_v2 (mi := 219) (k := 267) (st := [.int 47, .int (nI (last + 1)), .ref 111]) (w := w5) rfl rfl hI6.1.o111 rfl rfl rfl) rfl rfl rfl (y220f (lo := (last + 1)) (hi := 47) hI6 hM8 hpl ep2 ef4 (by omega) (by decide) hP7 c11) (show _ = 11 from rfl) ?_
        rintro r4 w38 ⟨⟨rfl, ep34⟩, hI39, hO35⟩
        show sx_RP _ _ _ _ _ [.int 0] _ _
        have hO40 := hO9.tr (HS.om hO35)
        refine sx_RP.step (pc2 := 14) (ls2 := [(0, .ref 111), (1, .int (nI u)), (2, .int (nI last))]) (st2 := []) (w3 := w38) rfl rfl ?_
        refine sx_RP.step (pc2 := 15) (ls2 := [(0, .ref 111), (1, .int (nI u)), (2, .int (nI last))]) (st2 := [.int 0]) (w3 := w38) rfl rfl ?_
        refine sx_RP.ret (r := (some (.int 0))) rfl rfl ?_
        have eR : gwL n X u (fz + 1) last q b = (false, q, b) := by
          conv => lhs; unfold gwL
          simp only [grW, c1, c11, if_true, if_false, Bool.false_eq_true, ite_true, ite_false, true_or, or_true, or_false, false_or]
        rw [eR]
        exact ⟨⟨rfl, RdN.f ep34⟩, hI39, hO40⟩
    · refine sx_RP.callp (as2 := [.ref 111]) (rest2 := []) rfl rfl (sx_inv_v2 (mi := 219) (k := 273) (st := [.ref 111]) (w := w) rfl rfl hI.1.o111 rfl rfl rfl) rfl rfl rfl (y225f hI hM hp ep ef hP c1) (show _ = 31 from rfl) ?_
      rintro r4 w44 ⟨⟨rfl, ep41⟩, hI45, hO42⟩
      show sx_RP _ _ _ _ _ [.int 0] _ _
      have ef43 := (hO42.2 13 (by decide)).trans ef
      have hP46 : rE blk n X q = q := by rw [← hP]; exact rE_rE
      have hM47 := hM.hs (hO42.hs)
      have hO48 := hO.tr (HS.om (hO42.hs))
      have hB49 : ia w44 112 = b := by rw [HS.row (hO42.hs)]; exact hB
      refine sx_RP.step (pc2 := 34) (ls2 := [(0, .ref 111), (1, .int (nI u)), (2, .int (nI last))]) (st2 := []) (w3 := w44) rfl rfl ?_
      refine sx_RP.step (pc2 := 35) (ls2 := [(0, .ref 111), (1, .int (nI u)), (2, .int (nI last))]) (st2 := [.ref 111]) (w3 := w44) rfl rfl ?_
      refine sx_RP.step (pc2 := 38) (ls2 := [(0, .ref 111), (1, .int (nI u)), (2, .int (nI last))]) (st2 := [.float 116, .ref 111]) (w3 := w44) rfl rfl ?_
      rcases Bool.eq_false_or_eq_true (wdT n X q (116 : UInt32)) with c50 | c50
      · refine sx_RP.callp (as2 := [.ref 111, .float 116]) (rest2 := []) rfl rfl (sx_inv_v2 (mi := 219) (k := 243) (st := [.float 116, .ref 111]) (w := w44) rfl rfl hI45.1.o111 rfl rfl rfl) rfl rfl rfl (y213t (k := (116 : UInt32)) (m := 2) hI45 hM47 hpl ep41 ef43 (by decide) rfl (by decide) (by decide) hP46 c50) (show _ = 41 from rfl) ?_
        rintro r4 w54 ⟨⟨rfl, ep51⟩, hI55, hO52⟩
        show sx_RP _ _ _ _ _ [.int 1] _ _
        have ef53 := (hO52.2 13 (by decide)).trans ef43
        have hp56 : beT n X q ≤ n := beT_le hpl
        have hp57 : nP n X q ≤ n := rE_le hp56
        have hP58 : rE blk n X (beT n X q) = nP n X q := rfl
        have hM59 := hM47.hs (hO52.hs)
        have hO60 := hO48.tr (HS.om (hO52.hs))
        have hB61 : ia w54 112 = b := by rw [HS.row (hO52.hs)]; exact hB49
        refine sx_RP.step (pc2 := 46) (ls2 := [(0, .ref 111), (1, .int (nI u)), (2, .int (nI last))]) (st2 := []) (w3 := w54) rfl rfl ?_
        refine sx_RP.step (pc2 := 47) (ls2 := [(0, .ref 111), (1, .int (nI u)), (2, .int (nI last))]) (st2 := [.ref 111]) (w3 := w54) rfl rfl ?_
        refine sx_RP.step (pc2 := 48) (ls2 := [(0, .ref 111), (1, .int (nI u)), (2, .int (nI last))]) (st2 := [.int (nI last), .ref 111]) (w3 := w54) rfl rfl ?_
        refine sx_RP.step (pc2 := 49) (ls2 := [(0, .ref 111), (1, .int (nI u)), (2, .int (nI last))]) (st2 := [.int 1, .int (nI last), .ref 111]) (w3 := w54) rfl rfl ?_
        refine sx_RP.step (pc2 := 50) (ls2 := [(0, .ref 111), (1, .int (nI u)), (2, .int (nI last))]) (st2 := [.int ((nI last) + 1), .ref 111]) (w3 := w54) rfl rfl ?_
        rw [show ((nI last) + 1 : Int32) = nI (last + 1) from nI_add last 1]
        refine sx_RP.step (pc2 := 52) (ls2 := [(0, .ref 111), (1, .int (nI u)), (2, .int (nI last))]) (st2 := [.int 47, .int (nI (last + 1)), .ref 111]) (w3 := w54) rfl rfl ?_
        rcases Bool.eq_false_or_eq_true (nmT n X (nP n X q) (last + 1) 47) with c62 | c62
        · refine sx_RP.callp (as2 := [.ref 111, .int (nI (last + 1)), .int 47]) (rest2 := []) rfl rfl (sx_inv_v2 (mi := 219) (k := 267) (st := [.int 47, .int (nI (last + 1)), .ref 111]) (w := w54) rfl rfl hI55.1.o111 rfl rfl rfl) rfl rfl rfl (y220t (lo := (last + 1)) (hi := 47) hI55 hM59 hp56 ep51 ef53 (by omega) (by decide) hP58 c62) (show _ = 55 from rfl) ?_
          rintro r4 w67 ⟨⟨rfl, ep63, ev66, ef65⟩, hI68, hO64⟩
          show sx_RP _ _ _ _ _ [.int 1] _ _
          have hp69 : beT n X (nP n X q) ≤ n := beT_le hp57
          have hp70 : nP n X (nP n X q) ≤ n := rE_le hp69
          have hr71 := nmT_in c62
          have hP72 : rE blk n X (beT n X (nP n X q)) = nP n X (nP n X q) := rfl
          have hM73 := hM59.hs (hO64)
          have hO74 := hO60.tr (HS.om (hO64))
          have hB75 : ia w67 112 = b := by rw [HS.row (hO64)]; exact hB61
          refine sx_RP.step (pc2 := 60) (ls2 := [(0, .ref 111), (1, .int (nI u)), (2, .int (nI last))]) (st2 := []) (w3 := w67) rfl rfl ?_
          refine sx_RP.step (pc2 := 61) (ls2 := [(0, .ref 111), (1, .int (nI u)), (2, .int (nI last))]) (st2 := [.int (nI last)]) (w3 := w67) rfl rfl ?_
          refine sx_RP.step (pc2 := 62) (ls2 := [(3, .int (nI last)), (0, .ref 111), (1, .int (nI u)), (2, .int (nI last))]) (st2 := []) (w3 := w67) rfl rfl ?_
          have eR : gwL n X u (fz + 1) last q b = (true, nP n X (nP n X q), layN u ((vaT n X (nP n X q)) + 1 - last) last b) := by
            conv => lhs; unfold gwL
            simp only [grW, c1, c50, c62, if_true, if_false, Bool.false_eq_true, ite_true, ite_false, true_or, or_true, or_false, false_or]
          rw [eR]
          exact sx_RP.ls (sx_lr.cons rfl (sx_lr.cons rfl (sx_lr.cons rfl (sx_lr.cons rfl sx_lr.nil)))) (U219I (v := (vaT n X (nP n X q))) hu (by omega) hp69 hP72 ((vaT n X (nP n X q)) + 1 - last) last w67 b (by omega) hI68 hM73 ep63 ef65 ev66 hB75 hO74)
        · refine sx_RP.callp (as2 := [.ref 111, .int (nI (last + 1)), .int 47]) (rest2 := []) rfl rfl (sx_inv_v2 (mi := 219) (k := 267) (st := [.int 47, .int (nI (last + 1)), .ref 111]) (w := w54) rfl rfl hI55.1.o111 rfl rfl rfl) rfl rfl rfl (y220f (lo := (last + 1)) (hi := 47) hI55 hM59 hp56 ep51 ef53 (by omega) (by decide) hP58 c62) (show _ = 55 from rfl) ?_
          rintro r4 w80 ⟨⟨rfl, ep76⟩, hI81, hO77⟩
          show sx_RP _ _ _ _ _ [.int 0] _ _
          have hO82 := hO60.tr (HS.om hO77)
          refine sx_RP.step (pc2 := 58) (ls2 := [(0, .ref 111), (1, .int (nI u)), (2, .int (nI last))]) (st2 := []) (w3 := w80) rfl rfl ?_
          refine sx_RP.step (pc2 := 59) (ls2 := [(0, .ref 111), (1, .int (nI u)), (2, .int (nI last))]) (st2 := [.int 0]) (w3 := w80) rfl rfl ?_
          refine sx_RP.ret (r := (some (.int 0))) rfl rfl ?_
          have eR : gwL n X u (fz + 1) last q b = (false, nP n X q, b) := by
            conv => lhs; unfold gwL
            simp only [grW, c1, c50, c62, if_true, if_false, Bool.false_eq_true, ite_true, ite_false, true_or, or_true, or_false, false_or]
          rw [eR]
          exact ⟨⟨rfl, RdN.f ep76⟩, hI81, hO82⟩
      · refine sx_RP.callp (as2 := [.ref 111, .float 116]) (rest2 := []) rfl rfl (sx_inv_v2 (mi := 219) (k := 243) (st := [.float 116, .ref 111]) (w := w44) rfl rfl hI45.1.o111 rfl rfl rfl) rfl rfl rfl (y213f (k := (116 : UInt32)) (m := 2) hI45 hM47 hpl ep41 ef43 (by decide) rfl (by decide) (by decide) hP46 c50) (show _ = 41 from rfl) ?_
        rintro r4 w86 ⟨⟨rfl, ep83⟩, hI87, hO84⟩
        show sx_RP _ _ _ _ _ [.int 0] _ _
        have ef85 := (hO84.2 13 (by decide)).trans ef43
        have hP88 : rE blk n X q = q := by rw [← hP46]; exact rE_rE
        have hM89 := hM47.hs (hO84.hs)
        have hO90 := hO48.tr (HS.om (hO84.hs))
        have hB91 : ia w86 112 = b := by rw [HS.row (hO84.hs)]; exact hB49
        refine sx_RP.step (pc2 := 44) (ls2 := [(0, .ref 111), (1, .int (nI u)), (2, .int (nI last))]) (st2 := []) (w3 := w86) rfl rfl ?_
        refine sx_RP.step (pc2 := 45) (ls2 := [(0, .ref 111), (1, .int (nI u)), (2, .int (nI last))]) (st2 := [.int 1]) (w3 := w86) rfl rfl ?_
        refine sx_RP.ret (r := (some (.int 1))) rfl rfl ?_
        have eR : gwL n X u (fz + 1) last q b = (true, q, b) := by
          conv => lhs; unfold gwL
          simp only [grW, c1, c50, if_true, if_false, Bool.false_eq_true, ite_true, ite_false, true_or, or_true, or_false, false_or]
        rw [eR]
        exact ⟨⟨rfl, RdN.t ef85 hB91 hpl ep83 hP88⟩, hI87, hO90⟩
set_option maxRecDepth 20000 in
set_option maxHeartbeats 4000000 in
theorem U219 {xs : Option (List Int32)} {d : Nat} {w : List sx_C} (hI : WI w) {n h q : Nat} {X : Nat → Nat} {b : List Int32} (hM : MT n X w) (hp : h ≤ n) (ep : fi w 111 12 = nI h) (ef : fi w 111 13 = -1) (hP : rE blk n X h = q) (hB : ia w 112 = b) {u : Nat} (hu : u ≤ 4) : sx_RP xs (d + 6) 219 0 (lv_args 0 [.ref 111, .int (nI u)]) [] w (fun r w2 => (r = some (.int (b01 (groZ n X u q b).1)) ∧ RdN n X (groZ n X u q b) w2) ∧ WI w2 ∧ OM w w2) := by
  have hn := hM.2.1
  have hpl : q ≤ n := by rw [← hP]; exact rE_le hp
  refine sx_RP.step (pc2 := 1) (ls2 := [(0, .ref 111), (1, .int (nI u))]) (st2 := [.int (-1)]) (w3 := w) rfl rfl ?_
  refine sx_RP.step (pc2 := 2) (ls2 := [(2, .int (-1)), (0, .ref 111), (1, .int (nI u))]) (st2 := []) (w3 := w) rfl rfl ?_
  refine sx_RP.step (pc2 := 3) (ls2 := [(2, .int (-1)), (0, .ref 111), (1, .int (nI u))]) (st2 := [.ref 111]) (w3 := w) rfl rfl ?_
  refine sx_RP.step (pc2 := 4) (ls2 := [(2, .int (-1)), (0, .ref 111), (1, .int (nI u))]) (st2 := [.int (-1), .ref 111]) (w3 := w) rfl rfl ?_
  refine sx_RP.step (pc2 := 5) (ls2 := [(2, .int (-1)), (0, .ref 111), (1, .int (nI u))]) (st2 := [.int 1, .int (-1), .ref 111]) (w3 := w) rfl rfl ?_
  refine sx_RP.step (pc2 := 6) (ls2 := [(2, .int (-1)), (0, .ref 111), (1, .int (nI u))]) (st2 := [.int 0, .ref 111]) (w3 := w) rfl rfl ?_
  refine sx_RP.step (pc2 := 8) (ls2 := [(2, .int (-1)), (0, .ref 111), (1, .int (nI u))]) (st2 := [.int 47, .int 0, .ref 111]) (w3 := w) rfl rfl ?_
  rcases Bool.eq_false_or_eq_true (nmT n X q 0 47) with c1 | c1
  · refine sx_RP.callp (as2 := [.ref 111, .int 0, .int 47]) (rest2 := []) rfl rfl (sx_inv_v2 (mi := 219) (k := 267) (st := [.int 47, .int 0, .ref 111]) (w := w) rfl rfl hI.1.o111 rfl rfl rfl) rfl rfl rfl (y220t (lo := 0) (hi := 47) hI hM hp ep ef (by omega) (by decide) hP c1) (show _ = 11 from rfl) ?_
    rintro r4 w6 ⟨⟨rfl, ep2, ev5, ef4⟩, hI7, hO3⟩
    show sx_RP _ _ _ _ _ [.int 1] _ _
    have hp8 : beT n X q ≤ n := beT_le hpl
    have hp9 : nP n X q ≤ n := rE_le hp8
    have hr10 := nmT_in c1
    have hP11 : rE blk n X (beT n X q) = nP n X q := rfl
    have hM12 := hM.hs (hO3)
    have hO13 := OM.rf.tr (HS.om (hO3))
    have hB14 : ia w6 112 = b := by rw [HS.row (hO3)]; exact hB
    refine sx_RP.step (pc2 := 16) (ls2 := [(2, .int (-1)), (0, .ref 111), (1, .int (nI u))]) (st2 := []) (w3 := w6) rfl rfl ?_
    refine sx_RP.step (pc2 := 17) (ls2 := [(2, .int (-1)), (0, .ref 111), (1, .int (nI u))]) (st2 := [.ref 111]) (w3 := w6) rfl rfl ?_
    refine sx_RP.gf (v := .int (fi w6 111 14)) rfl rfl hI7.1.o111 rfl rfl (show _ = 20 from rfl) ?_
    rw [ev5]
    refine sx_RP.step (pc2 := 21) (ls2 := [(2, .int (nI (vaT n X q))), (0, .ref 111), (1, .int (nI u))]) (st2 := []) (w3 := w6) rfl rfl ?_
    refine sx_RP.step (pc2 := 22) (ls2 := [(2, .int (nI (vaT n X q))), (0, .ref 111), (1, .int (nI u))]) (st2 := [.ref 111]) (w3 := w6) rfl rfl ?_
    refine sx_RP.step (pc2 := 23) (ls2 := [(2, .int (nI (vaT n X q))), (0, .ref 111), (1, .int (nI u))]) (st2 := [.int (nI (vaT n X q)), .ref 111]) (w3 := w6) rfl rfl ?_
    refine sx_RP.step (pc2 := 24) (ls2 := [(2, .int (nI (vaT n X q))), (0, .ref 111), (1, .int (nI u))]) (st2 := [.int (nI u), .int (nI (vaT n X q)), .ref 111]) (w3 := w6) rfl rfl ?_
    refine sx_RP.callp (as2 := [.ref 111, .int (nI (vaT n X q)), .int (nI u)]) (rest2 := []) rfl rfl (sx_inv_v2 (mi := 219) (k := 270) (st := [.int (nI u), .int (nI (vaT n X q)), .ref 111]) (w := w6) rfl rfl hI7.1.o111 rfl rfl rfl) rfl rfl rfl (U224 (c := (vaT n X q)) (u := u) hI7 (by omega) (by omega)) (show _ = 27 from rfl) ?_
    rintro r4 w18 ⟨⟨rfl, hb15⟩, hI19, hs16⟩
    show sx_RP _ _ _ _ _ [] _ _
    have hB17 : ia w18 112 = lay1 u ((vaT n X q)) (b) := by rw [hb15, hB14]
    have ep20 := (fi_same 12 (hs16 111 (by decide))).trans ep2
    have ef21 := (fi_same 13 (hs16 111 (by decide))).trans ef4
    have hM22 := hM12.om (OM.st hs16)
    have hO23 := hO13.tr (OM.st hs16)
    have eR : groZ n X u q b = gwL n X u 48 ((vaT n X q)) (nP n X q) (lay1 u ((vaT n X q)) (b)) := by simp only [groZ, c1, if_true, if_false, Bool.false_eq_true, ite_true, ite_false, true_or, or_true, or_false, false_or]
    rw [eR]
    exact sx_RP.ls (sx_lr.cons rfl (sx_lr.cons rfl (sx_lr.cons rfl sx_lr.nil))) (U219L hu 48 ((vaT n X q)) (beT n X q) (nP n X q) w18 (lay1 u ((vaT n X q)) (b)) (by omega) (by omega) hp8 hP11 hI19 hM22 ep20 ef21 hB17 hO23)
  · refine sx_RP.callp (as2 := [.ref 111, .int 0, .int 47]) (rest2 := []) rfl rfl (sx_inv_v2 (mi := 219) (k := 267) (st := [.int 47, .int 0, .ref 111]) (w := w) rfl rfl hI.1.o111 rfl rfl rfl) rfl rfl rfl (y220f (lo := 0) (hi := 47) hI hM hp ep ef (by omega) (by decide) hP c1) (show _ = 11 from rfl) ?_
    rintro r4 w28 ⟨⟨rfl, ep24⟩, hI29, hO25⟩
    show sx_RP _ _ _ _ _ [.int 0] _ _
    have hO30 := OM.rf.tr (HS.om hO25)
    refine sx_RP.step (pc2 := 14) (ls2 := [(2, .int (-1)), (0, .ref 111), (1, .int (nI u))]) (st2 := []) (w3 := w28) rfl rfl ?_
    refine sx_RP.step (pc2 := 15) (ls2 := [(2, .int (-1)), (0, .ref 111), (1, .int (nI u))]) (st2 := [.int 0]) (w3 := w28) rfl rfl ?_
    refine sx_RP.ret (r := (some (.int 0))) rfl rfl ?_
    have eR : groZ n X u q b = (false, q, b) := by simp only [groZ, c1, if_true, if_false, Bool.false_eq_true, ite_true, ite_false, true_or, or_true, or_false, false_or]
    rw [eR]
    exact ⟨⟨rfl, RdN.f ep24⟩, hI29, hO30⟩
set_option maxRecDepth 20000 in
set_option maxHeartbeats 4000000 in
theorem U211 {xs : Option (List Int32)} {d : Nat} {w : List sx_C} (hI : WI w) {n h q : Nat} {X : Nat → Nat} {b : List Int32} (hM : MT n X w) (hp : h ≤ n) (ep : fi w 111 12 = nI h) (ef : fi w 111 13 = -1) (hP : rE blk n X h = q) (hB : ia w 112 = b) {u m : Nat} (hu : b.getD 1 0 = nI u) (hm : b.getD 2 0 = nI m) (hu10 : u ≤ 10) (hm9 : m ≤ 9) : sx_RP xs (d + 7) 211 0 (lv_args 0 [.ref 111]) [] w (fun r w2 => (r = some (.int (b01 (itW n X q b).1)) ∧ RdN n X (itW n X q b) w2) ∧ WI w2 ∧ OM w w2) := by
  have hun : iN (b.getD 1 0) = u := by rw [hu, iN_n (by omega)]
  have hmn : iN (b.getD 2 0) = m := by rw [hm, iN_n (by omega)]
  have hn := hM.2.1
  have hpl : q ≤ n := by rw [← hP]; exact rE_le hp
  refine sx_RP.step (pc2 := 1) (ls2 := [(0, .ref 111)]) (st2 := [.int 0]) (w3 := w) rfl rfl ?_
  refine sx_RP.step (pc2 := 2) (ls2 := [(1, .int 0), (0, .ref 111)]) (st2 := []) (w3 := w) rfl rfl ?_
  refine sx_RP.step (pc2 := 3) (ls2 := [(1, .int 0), (0, .ref 111)]) (st2 := [.int 0]) (w3 := w) rfl rfl ?_
  refine sx_RP.step (pc2 := 4) (ls2 := [(1, .int 0), (0, .ref 111)]) (st2 := [.int 5, .int 0]) (w3 := w) rfl rfl ?_
  refine sx_RP.step (pc2 := 7) (ls2 := [(1, .int 0), (0, .ref 111)]) (st2 := []) (w3 := w) rfl rfl ?_
  refine sx_RP.step (pc2 := 8) (ls2 := [(1, .int 0), (0, .ref 111)]) (st2 := [.ref 111]) (w3 := w) rfl rfl ?_
  refine sx_RP.step (pc2 := 9) (ls2 := [(1, .int 0), (0, .ref 111)]) (st2 := [.int 0, .ref 111]) (w3 := w) rfl rfl ?_
  refine sx_RP.cu (as := [.int 0]) (rest2 := [.ref 111]) (st3 := [.float 102, .ref 111]) rfl rfl rfl rfl rfl (p212_0) rfl ?_
  rcases Bool.eq_false_or_eq_true (wdT n X q (102 : UInt32)) with c1 | c1
  · refine sx_RP.callp (as2 := [.ref 111, .float 102]) (rest2 := []) rfl rfl (sx_inv_v2 (mi := 211) (k := 243) (st := [.float 102, .ref 111]) (w := w) rfl rfl hI.1.o111 rfl rfl rfl) rfl rfl rfl (y213t (k := (102 : UInt32)) (m := 4) hI hM hp ep ef (by decide) rfl (by decide) (by decide) hP c1) (show _ = 15 from rfl) ?_
    rintro r4 w5 ⟨⟨rfl, ep2⟩, hI6, hO3⟩
    show sx_RP _ _ _ _ _ [.int 1] _ _
    have ef4 := (hO3.2 13 (by decide)).trans ef
    have hp7 : beT n X q ≤ n := beT_le hpl
    have hp8 : nP n X q ≤ n := rE_le hp7
    have hP9 : rE blk n X (beT n X q) = nP n X q := rfl
    have hM10 := hM.hs (hO3.hs)
    have hO11 := OM.rf.tr (HS.om (hO3.hs))
    have hB12 : ia w5 112 = b := by rw [HS.row (hO3.hs)]; exact hB
    refine sx_RP.step (pc2 := 18) (ls2 := [(1, .int 0), (0, .ref 111)]) (st2 := []) (w3 := w5) rfl rfl ?_
    refine sx_RP.step (pc2 := 19) (ls2 := [(1, .int 0), (0, .ref 111)]) (st2 := [.ref 111]) (w3 := w5) rfl rfl ?_
    refine sx_RP.step (pc2 := 20) (ls2 := [(1, .int 0), (0, .ref 111)]) (st2 := [.int 0, .ref 111]) (w3 := w5) rfl rfl ?_
    refine sx_RP.callp (as2 := [.ref 111, .int 0]) (rest2 := []) rfl rfl (sx_inv_v2 (mi := 211) (k := 318) (st := [.int 0, .ref 111]) (w := w5) rfl rfl hI6.1.o111 rfl rfl rfl) rfl rfl rfl (U219 (u := 0) hI6 hM10 hp7 ep2 ef4 hP9 hB12 (by decide)) (show _ = 23 from rfl) ?_
    rintro r4 w15 ⟨⟨rfl, hr13⟩, hI16, hO14⟩
    show sx_RP _ _ _ _ _ [.int (b01 (groZ n X 0 (nP n X q) b).1)] _ _
    have hO17 := hO11.tr hO14
    refine sx_RP.ret (r := (some (.int (b01 (groZ n X 0 (nP n X q) b).1)))) rfl (bo_ret rfl (b01_in _)) ?_
    have eg : gwT n X q = 0 := by simp only [gwT, c1, if_true, if_false, Bool.false_eq_true, ite_true, ite_false, true_or, or_true, or_false, false_or]
    have eR : itW n X q b = groZ n X 0 (nP n X q) b := by unfold itW; rw [eg, if_neg (by decide)]; exact groW_Z
    rw [eR]
    exact ⟨⟨rfl, hr13⟩, hI16, hO17⟩
  · refine sx_RP.callp (as2 := [.ref 111, .float 102]) (rest2 := []) rfl rfl (sx_inv_v2 (mi := 211) (k := 243) (st := [.float 102, .ref 111]) (w := w) rfl rfl hI.1.o111 rfl rfl rfl) rfl rfl rfl (y213f (k := (102 : UInt32)) (m := 4) hI hM hp ep ef (by decide) rfl (by decide) (by decide) hP c1) (show _ = 15 from rfl) ?_
    rintro r4 w21 ⟨⟨rfl, ep18⟩, hI22, hO19⟩
    show sx_RP _ _ _ _ _ [.int 0] _ _
    have ef20 := (hO19.2 13 (by decide)).trans ef
    have hP23 : rE blk n X q = q := by rw [← hP]; exact rE_rE
    have hM24 := hM.hs (hO19.hs)
    have hO25 := OM.rf.tr (HS.om (hO19.hs))
    have hB26 : ia w21 112 = b := by rw [HS.row (hO19.hs)]; exact hB
    refine sx_RP.step (pc2 := 24) (ls2 := [(1, .int 0), (0, .ref 111)]) (st2 := []) (w3 := w21) rfl rfl ?_
    refine sx_RP.step (pc2 := 27) (ls2 := [(1, .int 1), (0, .ref 111)]) (st2 := []) (w3 := w21) rfl rfl ?_
    refine sx_RP.step (pc2 := 2) (ls2 := [(1, .int 1), (0, .ref 111)]) (st2 := []) (w3 := w21) rfl rfl ?_
    refine sx_RP.step (pc2 := 3) (ls2 := [(1, .int 1), (0, .ref 111)]) (st2 := [.int 1]) (w3 := w21) rfl rfl ?_
    refine sx_RP.step (pc2 := 4) (ls2 := [(1, .int 1), (0, .ref 111)]) (st2 := [.int 5, .int 1]) (w3 := w21) rfl rfl ?_
    refine sx_RP.step (pc2 := 7) (ls2 := [(1, .int 1), (0, .ref 111)]) (st2 := []) (w3 := w21) rfl rfl ?_
    refine sx_RP.step (pc2 := 8) (ls2 := [(1, .int 1), (0, .ref 111)]) (st2 := [.ref 111]) (w3 := w21) rfl rfl ?_
    refine sx_RP.step (pc2 := 9) (ls2 := [(1, .int 1), (0, .ref 111)]) (st2 := [.int 1, .ref 111]) (w3 := w21) rfl rfl ?_
    refine sx_RP.cu (as := [.int 1]) (rest2 := [.ref 111]) (st3 := [.float 113, .ref 111]) rfl rfl rfl rfl rfl (p212_1) rfl ?_
    rcases Bool.eq_false_or_eq_true (wdT n X q (113 : UInt32)) with c27 | c27
    · refine sx_RP.callp (as2 := [.ref 111, .float 113]) (rest2 := []) rfl rfl (sx_inv_v2 (mi := 211) (k := 243) (st := [.float 113, .ref 111]) (w := w21) rfl rfl hI22.1.o111 rfl rfl rfl) rfl rfl rfl (y213t (k := (113 : UInt32)) (m := 4) hI22 hM24 hpl ep18 ef20 (by decide) rfl (by decide) (by decide) hP23 c27) (show _ = 15 from rfl) ?_
      rintro r4 w31 ⟨⟨rfl, ep28⟩, hI32, hO29⟩
      show sx_RP _ _ _ _ _ [.int 1] _ _
      have ef30 := (hO29.2 13 (by decide)).trans ef20
      have hp33 : beT n X q ≤ n := beT_le hpl
      have hp34 : nP n X q ≤ n := rE_le hp33
      have hP35 : rE blk n X (beT n X q) = nP n X q := rfl
      have hM36 := hM24.hs (hO29.hs)
      have hO37 := hO25.tr (HS.om (hO29.hs))
      have hB38 : ia w31 112 = b := by rw [HS.row (hO29.hs)]; exact hB26
      refine sx_RP.step (pc2 := 18) (ls2 := [(1, .int 1), (0, .ref 111)]) (st2 := []) (w3 := w31) rfl rfl ?_
      refine sx_RP.step (pc2 := 19) (ls2 := [(1, .int 1), (0, .ref 111)]) (st2 := [.ref 111]) (w3 := w31) rfl rfl ?_
      refine sx_RP.step (pc2 := 20) (ls2 := [(1, .int 1), (0, .ref 111)]) (st2 := [.int 1, .ref 111]) (w3 := w31) rfl rfl ?_
      refine sx_RP.callp (as2 := [.ref 111, .int 1]) (rest2 := []) rfl rfl (sx_inv_v2 (mi := 211) (k := 318) (st := [.int 1, .ref 111]) (w := w31) rfl rfl hI32.1.o111 rfl rfl rfl) rfl rfl rfl (U219 (u := 1) hI32 hM36 hp33 ep28 ef30 hP35 hB38 (by decide)) (show _ = 23 from rfl) ?_
      rintro r4 w41 ⟨⟨rfl, hr39⟩, hI42, hO40⟩
      show sx_RP _ _ _ _ _ [.int (b01 (groZ n X 1 (nP n X q) b).1)] _ _
      have hO43 := hO37.tr hO40
      refine sx_RP.ret (r := (some (.int (b01 (groZ n X 1 (nP n X q) b).1)))) rfl (bo_ret rfl (b01_in _)) ?_
      have eg : gwT n X q = 1 := by simp only [gwT, c1, c27, if_true, if_false, Bool.false_eq_true, ite_true, ite_false, true_or, or_true, or_false, false_or]
      have eR : itW n X q b = groZ n X 1 (nP n X q) b := by unfold itW; rw [eg, if_neg (by decide)]; exact groW_Z
      rw [eR]
      exact ⟨⟨rfl, hr39⟩, hI42, hO43⟩
    · refine sx_RP.callp (as2 := [.ref 111, .float 113]) (rest2 := []) rfl rfl (sx_inv_v2 (mi := 211) (k := 243) (st := [.float 113, .ref 111]) (w := w21) rfl rfl hI22.1.o111 rfl rfl rfl) rfl rfl rfl (y213f (k := (113 : UInt32)) (m := 4) hI22 hM24 hpl ep18 ef20 (by decide) rfl (by decide) (by decide) hP23 c27) (show _ = 15 from rfl) ?_
      rintro r4 w47 ⟨⟨rfl, ep44⟩, hI48, hO45⟩
      show sx_RP _ _ _ _ _ [.int 0] _ _
      have ef46 := (hO45.2 13 (by decide)).trans ef20
      have hP49 : rE blk n X q = q := by rw [← hP23]; exact rE_rE
      have hM50 := hM24.hs (hO45.hs)
      have hO51 := hO25.tr (HS.om (hO45.hs))
      have hB52 : ia w47 112 = b := by rw [HS.row (hO45.hs)]; exact hB26
      refine sx_RP.step (pc2 := 24) (ls2 := [(1, .int 1), (0, .ref 111)]) (st2 := []) (w3 := w47) rfl rfl ?_
      refine sx_RP.step (pc2 := 27) (ls2 := [(1, .int 2), (0, .ref 111)]) (st2 := []) (w3 := w47) rfl rfl ?_
      refine sx_RP.step (pc2 := 2) (ls2 := [(1, .int 2), (0, .ref 111)]) (st2 := []) (w3 := w47) rfl rfl ?_
      refine sx_RP.step (pc2 := 3) (ls2 := [(1, .int 2), (0, .ref 111)]) (st2 := [.int 2]) (w3 := w47) rfl rfl ?_
      refine sx_RP.step (pc2 := 4) (ls2 := [(1, .int 2), (0, .ref 111)]) (st2 := [.int 5, .int 2]) (w3 := w47) rfl rfl ?_
      refine sx_RP.step (pc2 := 7) (ls2 := [(1, .int 2), (0, .ref 111)]) (st2 := []) (w3 := w47) rfl rfl ?_
      refine sx_RP.step (pc2 := 8) (ls2 := [(1, .int 2), (0, .ref 111)]) (st2 := [.ref 111]) (w3 := w47) rfl rfl ?_
      refine sx_RP.step (pc2 := 9) (ls2 := [(1, .int 2), (0, .ref 111)]) (st2 := [.int 2, .ref 111]) (w3 := w47) rfl rfl ?_
      refine sx_RP.cu (as := [.int 2]) (rest2 := [.ref 111]) (st3 := [.float 112, .ref 111]) rfl rfl rfl rfl rfl (p212_2) rfl ?_
      rcases Bool.eq_false_or_eq_true (wdT n X q (112 : UInt32)) with c53 | c53
      · refine sx_RP.callp (as2 := [.ref 111, .float 112]) (rest2 := []) rfl rfl (sx_inv_v2 (mi := 211) (k := 243) (st := [.float 112, .ref 111]) (w := w47) rfl rfl hI48.1.o111 rfl rfl rfl) rfl rfl rfl (y213t (k := (112 : UInt32)) (m := 4) hI48 hM50 hpl ep44 ef46 (by decide) rfl (by decide) (by decide) hP49 c53) (show _ = 15 from rfl) ?_
        rintro r4 w57 ⟨⟨rfl, ep54⟩, hI58, hO55⟩
        show sx_RP _ _ _ _ _ [.int 1] _ _
        have ef56 := (hO55.2 13 (by decide)).trans ef46
        have hp59 : beT n X q ≤ n := beT_le hpl
        have hp60 : nP n X q ≤ n := rE_le hp59
        have hP61 : rE blk n X (beT n X q) = nP n X q := rfl
        have hM62 := hM50.hs (hO55.hs)
        have hO63 := hO51.tr (HS.om (hO55.hs))
        have hB64 : ia w57 112 = b := by rw [HS.row (hO55.hs)]; exact hB52
        refine sx_RP.step (pc2 := 18) (ls2 := [(1, .int 2), (0, .ref 111)]) (st2 := []) (w3 := w57) rfl rfl ?_
        refine sx_RP.step (pc2 := 19) (ls2 := [(1, .int 2), (0, .ref 111)]) (st2 := [.ref 111]) (w3 := w57) rfl rfl ?_
        refine sx_RP.step (pc2 := 20) (ls2 := [(1, .int 2), (0, .ref 111)]) (st2 := [.int 2, .ref 111]) (w3 := w57) rfl rfl ?_
        refine sx_RP.callp (as2 := [.ref 111, .int 2]) (rest2 := []) rfl rfl (sx_inv_v2 (mi := 211) (k := 318) (st := [.int 2, .ref 111]) (w := w57) rfl rfl hI58.1.o111 rfl rfl rfl) rfl rfl rfl (U219 (u := 2) hI58 hM62 hp59 ep54 ef56 hP61 hB64 (by decide)) (show _ = 23 from rfl) ?_
        rintro r4 w67 ⟨⟨rfl, hr65⟩, hI68, hO66⟩
        show sx_RP _ _ _ _ _ [.int (b01 (groZ n X 2 (nP n X q) b).1)] _ _
        have hO69 := hO63.tr hO66
        refine sx_RP.ret (r := (some (.int (b01 (groZ n X 2 (nP n X q) b).1)))) rfl (bo_ret rfl (b01_in _)) ?_
        have eg : gwT n X q = 2 := by simp only [gwT, c1, c27, c53, if_true, if_false, Bool.false_eq_true, ite_true, ite_false, true_or, or_true, or_false, false_or]
        have eR : itW n X q b = groZ n X 2 (nP n X q) b := by unfold itW; rw [eg, if_neg (by decide)]; exact groW_Z
        rw [eR]
        exact ⟨⟨rfl, hr65⟩, hI68, hO69⟩
      · refine sx_RP.callp (as2 := [.ref 111, .float 112]) (rest2 := []) rfl rfl (sx_inv_v2 (mi := 211) (k := 243) (st := [.float 112, .ref 111]) (w := w47) rfl rfl hI48.1.o111 rfl rfl rfl) rfl rfl rfl (y213f (k := (112 : UInt32)) (m := 4) hI48 hM50 hpl ep44 ef46 (by decide) rfl (by decide) (by decide) hP49 c53) (show _ = 15 from rfl) ?_
        rintro r4 w73 ⟨⟨rfl, ep70⟩, hI74, hO71⟩
        show sx_RP _ _ _ _ _ [.int 0] _ _
        have ef72 := (hO71.2 13 (by decide)).trans ef46
        have hP75 : rE blk n X q = q := by rw [← hP49]; exact rE_rE
        have hM76 := hM50.hs (hO71.hs)
        have hO77 := hO51.tr (HS.om (hO71.hs))
        have hB78 : ia w73 112 = b := by rw [HS.row (hO71.hs)]; exact hB52
        refine sx_RP.step (pc2 := 24) (ls2 := [(1, .int 2), (0, .ref 111)]) (st2 := []) (w3 := w73) rfl rfl ?_
        refine sx_RP.step (pc2 := 27) (ls2 := [(1, .int 3), (0, .ref 111)]) (st2 := []) (w3 := w73) rfl rfl ?_
        refine sx_RP.step (pc2 := 2) (ls2 := [(1, .int 3), (0, .ref 111)]) (st2 := []) (w3 := w73) rfl rfl ?_
        refine sx_RP.step (pc2 := 3) (ls2 := [(1, .int 3), (0, .ref 111)]) (st2 := [.int 3]) (w3 := w73) rfl rfl ?_
        refine sx_RP.step (pc2 := 4) (ls2 := [(1, .int 3), (0, .ref 111)]) (st2 := [.int 5, .int 3]) (w3 := w73) rfl rfl ?_
        refine sx_RP.step (pc2 := 7) (ls2 := [(1, .int 3), (0, .ref 111)]) (st2 := []) (w3 := w73) rfl rfl ?_
        refine sx_RP.step (pc2 := 8) (ls2 := [(1, .int 3), (0, .ref 111)]) (st2 := [.ref 111]) (w3 := w73) rfl rfl ?_
        refine sx_RP.step (pc2 := 9) (ls2 := [(1, .int 3), (0, .ref 111)]) (st2 := [.int 3, .ref 111]) (w3 := w73) rfl rfl ?_
        refine sx_RP.cu (as := [.int 3]) (rest2 := [.ref 111]) (st3 := [.float 118, .ref 111]) rfl rfl rfl rfl rfl (p212_3) rfl ?_
        rcases Bool.eq_false_or_eq_true (wdT n X q (118 : UInt32)) with c79 | c79
        · refine sx_RP.callp (as2 := [.ref 111, .float 118]) (rest2 := []) rfl rfl (sx_inv_v2 (mi := 211) (k := 243) (st := [.float 118, .ref 111]) (w := w73) rfl rfl hI74.1.o111 rfl rfl rfl) rfl rfl rfl (y213t (k := (118 : UInt32)) (m := 5) hI74 hM76 hpl ep70 ef72 (by decide) rfl (by decide) (by decide) hP75 c79) (show _ = 15 from rfl) ?_
          rintro r4 w83 ⟨⟨rfl, ep80⟩, hI84, hO81⟩
          show sx_RP _ _ _ _ _ [.int 1] _ _
          have ef82 := (hO81.2 13 (by decide)).trans ef72
          have hp85 : beT n X q ≤ n := beT_le hpl
          have hp86 : nP n X q ≤ n := rE_le hp85
          have hP87 : rE blk n X (beT n X q) = nP n X q := rfl
          have hM88 := hM76.hs (hO81.hs)
          have hO89 := hO77.tr (HS.om (hO81.hs))
          have hB90 : ia w83 112 = b := by rw [HS.row (hO81.hs)]; exact hB78
          refine sx_RP.step (pc2 := 18) (ls2 := [(1, .int 3), (0, .ref 111)]) (st2 := []) (w3 := w83) rfl rfl ?_
          refine sx_RP.step (pc2 := 19) (ls2 := [(1, .int 3), (0, .ref 111)]) (st2 := [.ref 111]) (w3 := w83) rfl rfl ?_
          refine sx_RP.step (pc2 := 20) (ls2 := [(1, .int 3), (0, .ref 111)]) (st2 := [.int 3, .ref 111]) (w3 := w83) rfl rfl ?_
          refine sx_RP.callp (as2 := [.ref 111, .int 3]) (rest2 := []) rfl rfl (sx_inv_v2 (mi := 211) (k := 318) (st := [.int 3, .ref 111]) (w := w83) rfl rfl hI84.1.o111 rfl rfl rfl) rfl rfl rfl (U219 (u := 3) hI84 hM88 hp85 ep80 ef82 hP87 hB90 (by decide)) (show _ = 23 from rfl) ?_
          rintro r4 w93 ⟨⟨rfl, hr91⟩, hI94, hO92⟩
          show sx_RP _ _ _ _ _ [.int (b01 (groZ n X 3 (nP n X q) b).1)] _ _
          have hO95 := hO89.tr hO92
          refine sx_RP.ret (r := (some (.int (b01 (groZ n X 3 (nP n X q) b).1)))) rfl (bo_ret rfl (b01_in _)) ?_
          have eg : gwT n X q = 3 := by simp only [gwT, c1, c27, c53, c79, if_true, if_false, Bool.false_eq_true, ite_true, ite_false, true_or, or_true, or_false, false_or]
          have eR : itW n X q b = groZ n X 3 (nP n X q) b := by unfold itW; rw [eg, if_neg (by decide)]; exact groW_Z
          rw [eR]
          exact ⟨⟨rfl, hr91⟩, hI94, hO95⟩
        · refine sx_RP.callp (as2 := [.ref 111, .float 118]) (rest2 := []) rfl rfl (sx_inv_v2 (mi := 211) (k := 243) (st := [.float 118, .ref 111]) (w := w73) rfl rfl hI74.1.o111 rfl rfl rfl) rfl rfl rfl (y213f (k := (118 : UInt32)) (m := 5) hI74 hM76 hpl ep70 ef72 (by decide) rfl (by decide) (by decide) hP75 c79) (show _ = 15 from rfl) ?_
          rintro r4 w99 ⟨⟨rfl, ep96⟩, hI100, hO97⟩
          show sx_RP _ _ _ _ _ [.int 0] _ _
          have ef98 := (hO97.2 13 (by decide)).trans ef72
          have hP101 : rE blk n X q = q := by rw [← hP75]; exact rE_rE
          have hM102 := hM76.hs (hO97.hs)
          have hO103 := hO77.tr (HS.om (hO97.hs))
          have hB104 : ia w99 112 = b := by rw [HS.row (hO97.hs)]; exact hB78
          refine sx_RP.step (pc2 := 24) (ls2 := [(1, .int 3), (0, .ref 111)]) (st2 := []) (w3 := w99) rfl rfl ?_
          refine sx_RP.step (pc2 := 27) (ls2 := [(1, .int 4), (0, .ref 111)]) (st2 := []) (w3 := w99) rfl rfl ?_
          refine sx_RP.step (pc2 := 2) (ls2 := [(1, .int 4), (0, .ref 111)]) (st2 := []) (w3 := w99) rfl rfl ?_
          refine sx_RP.step (pc2 := 3) (ls2 := [(1, .int 4), (0, .ref 111)]) (st2 := [.int 4]) (w3 := w99) rfl rfl ?_
          refine sx_RP.step (pc2 := 4) (ls2 := [(1, .int 4), (0, .ref 111)]) (st2 := [.int 5, .int 4]) (w3 := w99) rfl rfl ?_
          refine sx_RP.step (pc2 := 7) (ls2 := [(1, .int 4), (0, .ref 111)]) (st2 := []) (w3 := w99) rfl rfl ?_
          refine sx_RP.step (pc2 := 8) (ls2 := [(1, .int 4), (0, .ref 111)]) (st2 := [.ref 111]) (w3 := w99) rfl rfl ?_
          refine sx_RP.step (pc2 := 9) (ls2 := [(1, .int 4), (0, .ref 111)]) (st2 := [.int 4, .ref 111]) (w3 := w99) rfl rfl ?_
          refine sx_RP.cu (as := [.int 4]) (rest2 := [.ref 111]) (st3 := [.float 117, .ref 111]) rfl rfl rfl rfl rfl (p212_4) rfl ?_
          rcases Bool.eq_false_or_eq_true (wdT n X q (117 : UInt32)) with c105 | c105
          · refine sx_RP.callp (as2 := [.ref 111, .float 117]) (rest2 := []) rfl rfl (sx_inv_v2 (mi := 211) (k := 243) (st := [.float 117, .ref 111]) (w := w99) rfl rfl hI100.1.o111 rfl rfl rfl) rfl rfl rfl (y213t (k := (117 : UInt32)) (m := 4) hI100 hM102 hpl ep96 ef98 (by decide) rfl (by decide) (by decide) hP101 c105) (show _ = 15 from rfl) ?_
            rintro r4 w109 ⟨⟨rfl, ep106⟩, hI110, hO107⟩
            show sx_RP _ _ _ _ _ [.int 1] _ _
            have ef108 := (hO107.2 13 (by decide)).trans ef98
            have hp111 : beT n X q ≤ n := beT_le hpl
            have hp112 : nP n X q ≤ n := rE_le hp111
            have hP113 : rE blk n X (beT n X q) = nP n X q := rfl
            have hM114 := hM102.hs (hO107.hs)
            have hO115 := hO103.tr (HS.om (hO107.hs))
            have hB116 : ia w109 112 = b := by rw [HS.row (hO107.hs)]; exact hB104
            refine sx_RP.step (pc2 := 18) (ls2 := [(1, .int 4), (0, .ref 111)]) (st2 := []) (w3 := w109) rfl rfl ?_
            refine sx_RP.step (pc2 := 19) (ls2 := [(1, .int 4), (0, .ref 111)]) (st2 := [.ref 111]) (w3 := w109) rfl rfl ?_
            refine sx_RP.step (pc2 := 20) (ls2 := [(1, .int 4), (0, .ref 111)]) (st2 := [.int 4, .ref 111]) (w3 := w109) rfl rfl ?_
            refine sx_RP.callp (as2 := [.ref 111, .int 4]) (rest2 := []) rfl rfl (sx_inv_v2 (mi := 211) (k := 318) (st := [.int 4, .ref 111]) (w := w109) rfl rfl hI110.1.o111 rfl rfl rfl) rfl rfl rfl (U219 (u := 4) hI110 hM114 hp111 ep106 ef108 hP113 hB116 (by decide)) (show _ = 23 from rfl) ?_
            rintro r4 w119 ⟨⟨rfl, hr117⟩, hI120, hO118⟩
            show sx_RP _ _ _ _ _ [.int (b01 (groZ n X 4 (nP n X q) b).1)] _ _
            have hO121 := hO115.tr hO118
            refine sx_RP.ret (r := (some (.int (b01 (groZ n X 4 (nP n X q) b).1)))) rfl (bo_ret rfl (b01_in _)) ?_
            have eg : gwT n X q = 4 := by simp only [gwT, c1, c27, c53, c79, c105, if_true, if_false, Bool.false_eq_true, ite_true, ite_false, true_or, or_true, or_false, false_or]
            have eR : itW n X q b = groZ n X 4 (nP n X q) b := by unfold itW; rw [eg, if_neg (by decide)]; exact groW_Z
            rw [eR]
            exact ⟨⟨rfl, hr117⟩, hI120, hO121⟩
          · refine sx_RP.callp (as2 := [.ref 111, .float 117]) (rest2 := []) rfl rfl (sx_inv_v2 (mi := 211) (k := 243) (st := [.float 117, .ref 111]) (w := w99) rfl rfl hI100.1.o111 rfl rfl rfl) rfl rfl rfl (y213f (k := (117 : UInt32)) (m := 4) hI100 hM102 hpl ep96 ef98 (by decide) rfl (by decide) (by decide) hP101 c105) (show _ = 15 from rfl) ?_
            rintro r4 w125 ⟨⟨rfl, ep122⟩, hI126, hO123⟩
            show sx_RP _ _ _ _ _ [.int 0] _ _
            have ef124 := (hO123.2 13 (by decide)).trans ef98
            have hP127 : rE blk n X q = q := by rw [← hP101]; exact rE_rE
            have hM128 := hM102.hs (hO123.hs)
            have hO129 := hO103.tr (HS.om (hO123.hs))
            have hB130 : ia w125 112 = b := by rw [HS.row (hO123.hs)]; exact hB104
            refine sx_RP.step (pc2 := 24) (ls2 := [(1, .int 4), (0, .ref 111)]) (st2 := []) (w3 := w125) rfl rfl ?_
            refine sx_RP.step (pc2 := 27) (ls2 := [(1, .int 5), (0, .ref 111)]) (st2 := []) (w3 := w125) rfl rfl ?_
            refine sx_RP.step (pc2 := 2) (ls2 := [(1, .int 5), (0, .ref 111)]) (st2 := []) (w3 := w125) rfl rfl ?_
            refine sx_RP.step (pc2 := 3) (ls2 := [(1, .int 5), (0, .ref 111)]) (st2 := [.int 5]) (w3 := w125) rfl rfl ?_
            refine sx_RP.step (pc2 := 4) (ls2 := [(1, .int 5), (0, .ref 111)]) (st2 := [.int 5, .int 5]) (w3 := w125) rfl rfl ?_
            refine sx_RP.step (pc2 := 30) (ls2 := [(1, .int 5), (0, .ref 111)]) (st2 := []) (w3 := w125) rfl rfl ?_
            refine sx_RP.step (pc2 := 31) (ls2 := [(1, .int 5), (0, .ref 111)]) (st2 := [.int 0]) (w3 := w125) rfl rfl ?_
            refine sx_RP.step (pc2 := 32) (ls2 := [(1, .int 0), (0, .ref 111)]) (st2 := []) (w3 := w125) rfl rfl ?_
            refine sx_RP.step (pc2 := 33) (ls2 := [(1, .int 0), (0, .ref 111)]) (st2 := [.int 0]) (w3 := w125) rfl rfl ?_
            refine sx_RP.step (pc2 := 35) (ls2 := [(1, .int 0), (0, .ref 111)]) (st2 := [.int 6, .int 0]) (w3 := w125) rfl rfl ?_
            refine sx_RP.step (pc2 := 38) (ls2 := [(1, .int 0), (0, .ref 111)]) (st2 := []) (w3 := w125) rfl rfl ?_
            refine sx_RP.step (pc2 := 39) (ls2 := [(1, .int 0), (0, .ref 111)]) (st2 := [.ref 111]) (w3 := w125) rfl rfl ?_
            refine sx_RP.step (pc2 := 40) (ls2 := [(1, .int 0), (0, .ref 111)]) (st2 := [.int 0, .ref 111]) (w3 := w125) rfl rfl ?_
            refine sx_RP.cu (as := [.int 0]) (rest2 := [.ref 111]) (st3 := [.float 106, .ref 111]) rfl rfl rfl rfl rfl (p226_0) rfl ?_
            rcases Bool.eq_false_or_eq_true (wdT n X q (106 : UInt32)) with c131 | c131
            · refine sx_RP.callp (as2 := [.ref 111, .float 106]) (rest2 := []) rfl rfl (sx_inv_v2 (mi := 211) (k := 239) (st := [.float 106, .ref 111]) (w := w125) rfl rfl hI126.1.o111 rfl rfl rfl) rfl rfl rfl (y214t (k := (106 : UInt32)) (m := 7) hI126 hM128 hpl ep122 (by decide) rfl (by decide) (by decide) hP127 c131) (show _ = 46 from rfl) ?_
              rintro r4 w135 ⟨⟨rfl, ep132⟩, hI136, hO133⟩
              show sx_RP _ _ _ _ _ [.int 1] _ _
              have ef134 := (hO133.2 13 (by decide)).trans ef124
              have hP137 : rE blk n X q = q := by rw [← hP127]; exact rE_rE
              have hM138 := hM128.hs (hO133.hs)
              have hO139 := hO129.tr (HS.om (hO133.hs))
              have hB140 : ia w135 112 = b := by rw [HS.row (hO133.hs)]; exact hB130
              refine sx_RP.step (pc2 := 49) (ls2 := [(1, .int 0), (0, .ref 111)]) (st2 := []) (w3 := w135) rfl rfl ?_
              refine sx_RP.step (pc2 := 50) (ls2 := [(1, .int 0), (0, .ref 111)]) (st2 := [.ref 111]) (w3 := w135) rfl rfl ?_
              refine sx_RP.gf (v := .ref 112) rfl rfl hI136.1.o111 rfl rfl (show _ = 53 from rfl) ?_
              refine sx_RP.step (pc2 := 54) (ls2 := [(1, .int 0), (0, .ref 111)]) (st2 := [.int 1, .ref 112]) (w3 := w135) rfl rfl ?_
              have ex141 : (ia w135 112).getD 1 0 = nI u := by rw [hB140]; exact hu
              refine sx_RP.ild (c := 1) rfl hI136.1.a112.1 hI136.1.a112.2 (sx_in_nI (show 1 < 172 by omega) (by decide)) (nI_clamp (by decide)) (show _ = 55 from rfl) ?_
              rw [ex141]
              refine sx_RP.step (pc2 := 57) (ls2 := [(1, .int 0), (0, .ref 111)]) (st2 := [.int 10, .int (nI u)]) (w3 := w135) rfl rfl ?_
              refine sx_RP.br (p1 := 65) (l1 := [(1, .int 0), (0, .ref 111)]) (s1 := []) (v1 := w135) (p2 := 60) (l2 := [(1, .int 0), (0, .ref 111)]) (s2 := []) (v2 := w135) rfl rfl (fun q142 => ?_) (fun q142 => ?_)
              · replace q142 := of_decide_eq_true q142
                replace q142 := mt (nI_eq (a := u) (b := 10) (by omega) (by omega)).mpr q142
                refine sx_RP.step (pc2 := 66) (ls2 := [(1, .int 0), (0, .ref 111)]) (st2 := [.ref 111]) (w3 := w135) rfl rfl ?_
                refine sx_RP.step (pc2 := 67) (ls2 := [(1, .int 0), (0, .ref 111)]) (st2 := [.int 0, .ref 111]) (w3 := w135) rfl rfl ?_
                refine sx_RP.cu (as := [.int 0]) (rest2 := [.ref 111]) (st3 := [.float 106, .ref 111]) rfl rfl rfl rfl rfl (p226_0) rfl ?_
                refine sx_RP.callp (as2 := [.ref 111, .float 106]) (rest2 := []) rfl rfl (sx_inv_v2 (mi := 211) (k := 243) (st := [.float 106, .ref 111]) (w := w135) rfl rfl hI136.1.o111 rfl rfl rfl) rfl rfl rfl (y213t (k := (106 : UInt32)) (m := 7) hI136 hM138 hpl ep132 ef134 (by decide) rfl (by decide) (by decide) hP137 c131) (show _ = 73 from rfl) ?_
                rintro r4 w147 ⟨⟨rfl, ep144⟩, hI148, hO145⟩
                show sx_RP _ _ _ _ _ [.int 1] _ _
                have ef146 := (hO145.2 13 (by decide)).trans ef134
                have hp149 : beT n X q ≤ n := beT_le hpl
                have hp150 : nP n X q ≤ n := rE_le hp149
                have hP151 : rE blk n X (beT n X q) = nP n X q := rfl
                have hM152 := hM138.hs (hO145.hs)
                have hO153 := hO139.tr (HS.om (hO145.hs))
                have hB154 : ia w147 112 = b := by rw [HS.row (hO145.hs)]; exact hB140
                refine sx_RP.step (pc2 := 76) (ls2 := [(1, .int 0), (0, .ref 111)]) (st2 := []) (w3 := w147) rfl rfl ?_
                refine sx_RP.step (pc2 := 77) (ls2 := [(1, .int 0), (0, .ref 111)]) (st2 := [.ref 111]) (w3 := w147) rfl rfl ?_
                refine sx_RP.step (pc2 := 78) (ls2 := [(1, .int 0), (0, .ref 111)]) (st2 := [.int 0, .ref 111]) (w3 := w147) rfl rfl ?_
                refine sx_RP.callp (as2 := [.ref 111, .int 0]) (rest2 := []) rfl rfl (sx_inv_v2 (mi := 211) (k := 323) (st := [.int 0, .ref 111]) (w := w147) rfl rfl hI148.1.o111 rfl rfl rfl) rfl rfl rfl (U227 (k := 0) hI148 hM152 hp149 ep144 ef146 hP151 hB154 (by decide) hu (by omega)) (show _ = 81 from rfl) ?_
                rintro r4 w157 ⟨⟨rfl, hr155⟩, hI158, hO156⟩
                show sx_RP _ _ _ _ _ [.int (b01 (galZ n X 0 (nP n X q) b).1)] _ _
                have hO159 := hO153.tr hO156
                refine sx_RP.ret (r := (some (.int (b01 (galZ n X 0 (nP n X q) b).1)))) rfl (bo_ret rfl (b01_in _)) ?_
                have eg : gwT n X q = -1 := by simp only [gwT, c1, c27, c53, c79, c105, c131, if_true, if_false, Bool.false_eq_true, ite_true, ite_false, true_or, or_true, or_false, false_or]
                have ek : kwT n X q = 0 := by simp only [kwT, c1, c27, c53, c79, c105, c131, if_true, if_false, Bool.false_eq_true, ite_true, ite_false, true_or, or_true, or_false, false_or]
                have eR : itW n X q b = galZ n X 0 (nP n X q) b := by unfold itW; rw [eg, if_pos rfl, ek, if_neg (by decide)]; exact galW_Z (by omega)
                rw [eR]
                exact ⟨⟨rfl, hr155⟩, hI158, hO159⟩
              · replace q142 := Decidable.not_not.mp (of_decide_eq_false q142)
                replace q142 := (nI_eq (a := u) (b := 10) (by omega) (by omega)).mp q142
                refine sx_RP.step (pc2 := 61) (ls2 := [(1, .int 0), (0, .ref 111)]) (st2 := [.ref 111]) (w3 := w135) rfl rfl ?_
                refine sx_RP.callp (as2 := [.ref 111]) (rest2 := []) rfl rfl (sx_inv_v2 (mi := 211) (k := 245) (st := [.ref 111]) (w := w135) rfl rfl hI136.1.o111 rfl rfl rfl) rfl rfl rfl (y222 (p := q) hI136 ef134 ep132) (show _ = 64 from rfl) ?_
                rintro r4 w162 ⟨⟨rfl, hv160⟩, hI163, hO161⟩
                show sx_RP _ _ _ _ _ [.int 0] _ _
                have hO164 := hO139.tr (HS.om hO161.hs)
                refine sx_RP.ret (r := (some (.int 0))) rfl rfl ?_
                have eg : gwT n X q = -1 := by simp only [gwT, c1, c27, c53, c79, c105, c131, if_true, if_false, Bool.false_eq_true, ite_true, ite_false, true_or, or_true, or_false, false_or]
                have ek : kwT n X q = 0 := by simp only [kwT, c1, c27, c53, c79, c105, c131, if_true, if_false, Bool.false_eq_true, ite_true, ite_false, true_or, or_true, or_false, false_or]
                have eR : itW n X q b = (false, q, b) := by unfold itW; rw [eg, if_pos rfl, ek, if_neg (by decide)]; unfold galW; rw [if_neg (by omega)]
                rw [eR]
                exact ⟨⟨rfl, RdN.f hv160⟩, hI163, hO164⟩
            · refine sx_RP.callp (as2 := [.ref 111, .float 106]) (rest2 := []) rfl rfl (sx_inv_v2 (mi := 211) (k := 239) (st := [.float 106, .ref 111]) (w := w125) rfl rfl hI126.1.o111 rfl rfl rfl) rfl rfl rfl (y214f (k := (106 : UInt32)) (m := 7) hI126 hM128 hpl ep122 (by decide) rfl (by decide) (by decide) hP127 c131) (show _ = 46 from rfl) ?_
              rintro r4 w168 ⟨⟨rfl, ep165⟩, hI169, hO166⟩
              show sx_RP _ _ _ _ _ [.int 0] _ _
              have ef167 := (hO166.2 13 (by decide)).trans ef124
              have hP170 : rE blk n X q = q := by rw [← hP127]; exact rE_rE
              have hM171 := hM128.hs (hO166.hs)
              have hO172 := hO129.tr (HS.om (hO166.hs))
              have hB173 : ia w168 112 = b := by rw [HS.row (hO166.hs)]; exact hB130
              refine sx_RP.step (pc2 := 65) (ls2 := [(1, .int 0), (0, .ref 111)]) (st2 := []) (w3 := w168) rfl rfl ?_
              refine sx_RP.step (pc2 := 66) (ls2 := [(1, .int 0), (0, .ref 111)]) (st2 := [.ref 111]) (w3 := w168) rfl rfl ?_
              refine sx_RP.step (pc2 := 67) (ls2 := [(1, .int 0), (0, .ref 111)]) (st2 := [.int 0, .ref 111]) (w3 := w168) rfl rfl ?_
              refine sx_RP.cu (as := [.int 0]) (rest2 := [.ref 111]) (st3 := [.float 106, .ref 111]) rfl rfl rfl rfl rfl (p226_0) rfl ?_
              refine sx_RP.callp (as2 := [.ref 111, .float 106]) (rest2 := []) rfl rfl (sx_inv_v2 (mi := 211) (k := 243) (st := [.float 106, .ref 111]) (w := w168) rfl rfl hI169.1.o111 rfl rfl rfl) rfl rfl rfl (y213f (k := (106 : UInt32)) (m := 7) hI169 hM171 hpl ep165 ef167 (by decide) rfl (by decide) (by decide) hP170 c131) (show _ = 73 from rfl) ?_
              rintro r4 w178 ⟨⟨rfl, ep175⟩, hI179, hO176⟩
              show sx_RP _ _ _ _ _ [.int 0] _ _
              have ef177 := (hO176.2 13 (by decide)).trans ef167
              have hP180 : rE blk n X q = q := by rw [← hP170]; exact rE_rE
              have hM181 := hM171.hs (hO176.hs)
              have hO182 := hO172.tr (HS.om (hO176.hs))
              have hB183 : ia w178 112 = b := by rw [HS.row (hO176.hs)]; exact hB173
              refine sx_RP.step (pc2 := 82) (ls2 := [(1, .int 0), (0, .ref 111)]) (st2 := []) (w3 := w178) rfl rfl ?_
              refine sx_RP.step (pc2 := 85) (ls2 := [(1, .int 1), (0, .ref 111)]) (st2 := []) (w3 := w178) rfl rfl ?_
              refine sx_RP.step (pc2 := 32) (ls2 := [(1, .int 1), (0, .ref 111)]) (st2 := []) (w3 := w178) rfl rfl ?_
              refine sx_RP.step (pc2 := 33) (ls2 := [(1, .int 1), (0, .ref 111)]) (st2 := [.int 1]) (w3 := w178) rfl rfl ?_
              refine sx_RP.step (pc2 := 35) (ls2 := [(1, .int 1), (0, .ref 111)]) (st2 := [.int 6, .int 1]) (w3 := w178) rfl rfl ?_
              refine sx_RP.step (pc2 := 38) (ls2 := [(1, .int 1), (0, .ref 111)]) (st2 := []) (w3 := w178) rfl rfl ?_
              refine sx_RP.step (pc2 := 39) (ls2 := [(1, .int 1), (0, .ref 111)]) (st2 := [.ref 111]) (w3 := w178) rfl rfl ?_
              refine sx_RP.step (pc2 := 40) (ls2 := [(1, .int 1), (0, .ref 111)]) (st2 := [.int 1, .ref 111]) (w3 := w178) rfl rfl ?_
              refine sx_RP.cu (as := [.int 1]) (rest2 := [.ref 111]) (st3 := [.float 110, .ref 111]) rfl rfl rfl rfl rfl (p226_1) rfl ?_
              rcases Bool.eq_false_or_eq_true (wdT n X q (110 : UInt32)) with c184 | c184
              · refine sx_RP.callp (as2 := [.ref 111, .float 110]) (rest2 := []) rfl rfl (sx_inv_v2 (mi := 211) (k := 239) (st := [.float 110, .ref 111]) (w := w178) rfl rfl hI179.1.o111 rfl rfl rfl) rfl rfl rfl (y214t (k := (110 : UInt32)) (m := 7) hI179 hM181 hpl ep175 (by decide) rfl (by decide) (by decide) hP180 c184) (show _ = 46 from rfl) ?_
                rintro r4 w188 ⟨⟨rfl, ep185⟩, hI189, hO186⟩
                show sx_RP _ _ _ _ _ [.int 1] _ _
                have ef187 := (hO186.2 13 (by decide)).trans ef177
                have hP190 : rE blk n X q = q := by rw [← hP180]; exact rE_rE
                have hM191 := hM181.hs (hO186.hs)
                have hO192 := hO182.tr (HS.om (hO186.hs))
                have hB193 : ia w188 112 = b := by rw [HS.row (hO186.hs)]; exact hB183
                refine sx_RP.step (pc2 := 49) (ls2 := [(1, .int 1), (0, .ref 111)]) (st2 := []) (w3 := w188) rfl rfl ?_
                refine sx_RP.step (pc2 := 50) (ls2 := [(1, .int 1), (0, .ref 111)]) (st2 := [.ref 111]) (w3 := w188) rfl rfl ?_
                refine sx_RP.gf (v := .ref 112) rfl rfl hI189.1.o111 rfl rfl (show _ = 53 from rfl) ?_
                refine sx_RP.step (pc2 := 54) (ls2 := [(1, .int 1), (0, .ref 111)]) (st2 := [.int 1, .ref 112]) (w3 := w188) rfl rfl ?_
                have ex194 : (ia w188 112).getD 1 0 = nI u := by rw [hB193]; exact hu
                refine sx_RP.ild (c := 1) rfl hI189.1.a112.1 hI189.1.a112.2 (sx_in_nI (show 1 < 172 by omega) (by decide)) (nI_clamp (by decide)) (show _ = 55 from rfl) ?_
                rw [ex194]
                refine sx_RP.step (pc2 := 57) (ls2 := [(1, .int 1), (0, .ref 111)]) (st2 := [.int 10, .int (nI u)]) (w3 := w188) rfl rfl ?_
                refine sx_RP.br (p1 := 65) (l1 := [(1, .int 1), (0, .ref 111)]) (s1 := []) (v1 := w188) (p2 := 60) (l2 := [(1, .int 1), (0, .ref 111)]) (s2 := []) (v2 := w188) rfl rfl (fun q195 => ?_) (fun q195 => ?_)
                · replace q195 := of_decide_eq_true q195
                  replace q195 := mt (nI_eq (a := u) (b := 10) (by omega) (by omega)).mpr q195
                  refine sx_RP.step (pc2 := 66) (ls2 := [(1, .int 1), (0, .ref 111)]) (st2 := [.ref 111]) (w3 := w188) rfl rfl ?_
                  refine sx_RP.step (pc2 := 67) (ls2 := [(1, .int 1), (0, .ref 111)]) (st2 := [.int 1, .ref 111]) (w3 := w188) rfl rfl ?_
                  refine sx_RP.cu (as := [.int 1]) (rest2 := [.ref 111]) (st3 := [.float 110, .ref 111]) rfl rfl rfl rfl rfl (p226_1) rfl ?_
                  refine sx_RP.callp (as2 := [.ref 111, .float 110]) (rest2 := []) rfl rfl (sx_inv_v2 (mi := 211) (k := 243) (st := [.float 110, .ref 111]) (w := w188) rfl rfl hI189.1.o111 rfl rfl rfl) rfl rfl rfl (y213t (k := (110 : UInt32)) (m := 7) hI189 hM191 hpl ep185 ef187 (by decide) rfl (by decide) (by decide) hP190 c184) (show _ = 73 from rfl) ?_
                  rintro r4 w200 ⟨⟨rfl, ep197⟩, hI201, hO198⟩
                  show sx_RP _ _ _ _ _ [.int 1] _ _
                  have ef199 := (hO198.2 13 (by decide)).trans ef187
                  have hp202 : beT n X q ≤ n := beT_le hpl
                  have hp203 : nP n X q ≤ n := rE_le hp202
                  have hP204 : rE blk n X (beT n X q) = nP n X q := rfl
                  have hM205 := hM191.hs (hO198.hs)
                  have hO206 := hO192.tr (HS.om (hO198.hs))
                  have hB207 : ia w200 112 = b := by rw [HS.row (hO198.hs)]; exact hB193
                  refine sx_RP.step (pc2 := 76) (ls2 := [(1, .int 1), (0, .ref 111)]) (st2 := []) (w3 := w200) rfl rfl ?_
                  refine sx_RP.step (pc2 := 77) (ls2 := [(1, .int 1), (0, .ref 111)]) (st2 := [.ref 111]) (w3 := w200) rfl rfl ?_
                  refine sx_RP.step (pc2 := 78) (ls2 := [(1, .int 1), (0, .ref 111)]) (st2 := [.int 1, .ref 111]) (w3 := w200) rfl rfl ?_
                  refine sx_RP.callp (as2 := [.ref 111, .int 1]) (rest2 := []) rfl rfl (sx_inv_v2 (mi := 211) (k := 323) (st := [.int 1, .ref 111]) (w := w200) rfl rfl hI201.1.o111 rfl rfl rfl) rfl rfl rfl (U227 (k := 1) hI201 hM205 hp202 ep197 ef199 hP204 hB207 (by decide) hu (by omega)) (show _ = 81 from rfl) ?_
                  rintro r4 w210 ⟨⟨rfl, hr208⟩, hI211, hO209⟩
                  show sx_RP _ _ _ _ _ [.int (b01 (galZ n X 1 (nP n X q) b).1)] _ _
                  have hO212 := hO206.tr hO209
                  refine sx_RP.ret (r := (some (.int (b01 (galZ n X 1 (nP n X q) b).1)))) rfl (bo_ret rfl (b01_in _)) ?_
                  have eg : gwT n X q = -1 := by simp only [gwT, c1, c27, c53, c79, c105, c131, c184, if_true, if_false, Bool.false_eq_true, ite_true, ite_false, true_or, or_true, or_false, false_or]
                  have ek : kwT n X q = 1 := by simp only [kwT, c1, c27, c53, c79, c105, c131, c184, if_true, if_false, Bool.false_eq_true, ite_true, ite_false, true_or, or_true, or_false, false_or]
                  have eR : itW n X q b = galZ n X 1 (nP n X q) b := by unfold itW; rw [eg, if_pos rfl, ek, if_neg (by decide)]; exact galW_Z (by omega)
                  rw [eR]
                  exact ⟨⟨rfl, hr208⟩, hI211, hO212⟩
                · replace q195 := Decidable.not_not.mp (of_decide_eq_false q195)
                  replace q195 := (nI_eq (a := u) (b := 10) (by omega) (by omega)).mp q195
                  refine sx_RP.step (pc2 := 61) (ls2 := [(1, .int 1), (0, .ref 111)]) (st2 := [.ref 111]) (w3 := w188) rfl rfl ?_
                  refine sx_RP.callp (as2 := [.ref 111]) (rest2 := []) rfl rfl (sx_inv_v2 (mi := 211) (k := 245) (st := [.ref 111]) (w := w188) rfl rfl hI189.1.o111 rfl rfl rfl) rfl rfl rfl (y222 (p := q) hI189 ef187 ep185) (show _ = 64 from rfl) ?_
                  rintro r4 w215 ⟨⟨rfl, hv213⟩, hI216, hO214⟩
                  show sx_RP _ _ _ _ _ [.int 0] _ _
                  have hO217 := hO192.tr (HS.om hO214.hs)
                  refine sx_RP.ret (r := (some (.int 0))) rfl rfl ?_
                  have eg : gwT n X q = -1 := by simp only [gwT, c1, c27, c53, c79, c105, c131, c184, if_true, if_false, Bool.false_eq_true, ite_true, ite_false, true_or, or_true, or_false, false_or]
                  have ek : kwT n X q = 1 := by simp only [kwT, c1, c27, c53, c79, c105, c131, c184, if_true, if_false, Bool.false_eq_true, ite_true, ite_false, true_or, or_true, or_false, false_or]
                  have eR : itW n X q b = (false, q, b) := by unfold itW; rw [eg, if_pos rfl, ek, if_neg (by decide)]; unfold galW; rw [if_neg (by omega)]
                  rw [eR]
                  exact ⟨⟨rfl, RdN.f hv213⟩, hI216, hO217⟩
              · refine sx_RP.callp (as2 := [.ref 111, .float 110]) (rest2 := []) rfl rfl (sx_inv_v2 (mi := 211) (k := 239) (st := [.float 110, .ref 111]) (w := w178) rfl rfl hI179.1.o111 rfl rfl rfl) rfl rfl rfl (y214f (k := (110 : UInt32)) (m := 7) hI179 hM181 hpl ep175 (by decide) rfl (by decide) (by decide) hP180 c184) (show _ = 46 from rfl) ?_
                rintro r4 w221 ⟨⟨rfl, ep218⟩, hI222, hO219⟩
                show sx_RP _ _ _ _ _ [.int 0] _ _
                have ef220 := (hO219.2 13 (by decide)).trans ef177
                have hP223 : rE blk n X q = q := by rw [← hP180]; exact rE_rE
                have hM224 := hM181.hs (hO219.hs)
                have hO225 := hO182.tr (HS.om (hO219.hs))
                have hB226 : ia w221 112 = b := by rw [HS.row (hO219.hs)]; exact hB183
                refine sx_RP.step (pc2 := 65) (ls2 := [(1, .int 1), (0, .ref 111)]) (st2 := []) (w3 := w221) rfl rfl ?_
                refine sx_RP.step (pc2 := 66) (ls2 := [(1, .int 1), (0, .ref 111)]) (st2 := [.ref 111]) (w3 := w221) rfl rfl ?_
                refine sx_RP.step (pc2 := 67) (ls2 := [(1, .int 1), (0, .ref 111)]) (st2 := [.int 1, .ref 111]) (w3 := w221) rfl rfl ?_
                refine sx_RP.cu (as := [.int 1]) (rest2 := [.ref 111]) (st3 := [.float 110, .ref 111]) rfl rfl rfl rfl rfl (p226_1) rfl ?_
                refine sx_RP.callp (as2 := [.ref 111, .float 110]) (rest2 := []) rfl rfl (sx_inv_v2 (mi := 211) (k := 243) (st := [.float 110, .ref 111]) (w := w221) rfl rfl hI222.1.o111 rfl rfl rfl) rfl rfl rfl (y213f (k := (110 : UInt32)) (m := 7) hI222 hM224 hpl ep218 ef220 (by decide) rfl (by decide) (by decide) hP223 c184) (show _ = 73 from rfl) ?_
                rintro r4 w231 ⟨⟨rfl, ep228⟩, hI232, hO229⟩
                show sx_RP _ _ _ _ _ [.int 0] _ _
                have ef230 := (hO229.2 13 (by decide)).trans ef220
                have hP233 : rE blk n X q = q := by rw [← hP223]; exact rE_rE
                have hM234 := hM224.hs (hO229.hs)
                have hO235 := hO225.tr (HS.om (hO229.hs))
                have hB236 : ia w231 112 = b := by rw [HS.row (hO229.hs)]; exact hB226
                refine sx_RP.step (pc2 := 82) (ls2 := [(1, .int 1), (0, .ref 111)]) (st2 := []) (w3 := w231) rfl rfl ?_
                refine sx_RP.step (pc2 := 85) (ls2 := [(1, .int 2), (0, .ref 111)]) (st2 := []) (w3 := w231) rfl rfl ?_
                refine sx_RP.step (pc2 := 32) (ls2 := [(1, .int 2), (0, .ref 111)]) (st2 := []) (w3 := w231) rfl rfl ?_
                refine sx_RP.step (pc2 := 33) (ls2 := [(1, .int 2), (0, .ref 111)]) (st2 := [.int 2]) (w3 := w231) rfl rfl ?_
                refine sx_RP.step (pc2 := 35) (ls2 := [(1, .int 2), (0, .ref 111)]) (st2 := [.int 6, .int 2]) (w3 := w231) rfl rfl ?_
                refine sx_RP.step (pc2 := 38) (ls2 := [(1, .int 2), (0, .ref 111)]) (st2 := []) (w3 := w231) rfl rfl ?_
                refine sx_RP.step (pc2 := 39) (ls2 := [(1, .int 2), (0, .ref 111)]) (st2 := [.ref 111]) (w3 := w231) rfl rfl ?_
                refine sx_RP.step (pc2 := 40) (ls2 := [(1, .int 2), (0, .ref 111)]) (st2 := [.int 2, .ref 111]) (w3 := w231) rfl rfl ?_
                refine sx_RP.cu (as := [.int 2]) (rest2 := [.ref 111]) (st3 := [.float 114, .ref 111]) rfl rfl rfl rfl rfl (p226_2) rfl ?_
                rcases Bool.eq_false_or_eq_true (wdT n X q (114 : UInt32)) with c237 | c237
                · refine sx_RP.callp (as2 := [.ref 111, .float 114]) (rest2 := []) rfl rfl (sx_inv_v2 (mi := 211) (k := 239) (st := [.float 114, .ref 111]) (w := w231) rfl rfl hI232.1.o111 rfl rfl rfl) rfl rfl rfl (y214t (k := (114 : UInt32)) (m := 3) hI232 hM234 hpl ep228 (by decide) rfl (by decide) (by decide) hP233 c237) (show _ = 46 from rfl) ?_
                  rintro r4 w241 ⟨⟨rfl, ep238⟩, hI242, hO239⟩
                  show sx_RP _ _ _ _ _ [.int 1] _ _
                  have ef240 := (hO239.2 13 (by decide)).trans ef230
                  have hP243 : rE blk n X q = q := by rw [← hP233]; exact rE_rE
                  have hM244 := hM234.hs (hO239.hs)
                  have hO245 := hO235.tr (HS.om (hO239.hs))
                  have hB246 : ia w241 112 = b := by rw [HS.row (hO239.hs)]; exact hB236
                  refine sx_RP.step (pc2 := 49) (ls2 := [(1, .int 2), (0, .ref 111)]) (st2 := []) (w3 := w241) rfl rfl ?_
                  refine sx_RP.step (pc2 := 50) (ls2 := [(1, .int 2), (0, .ref 111)]) (st2 := [.ref 111]) (w3 := w241) rfl rfl ?_
                  refine sx_RP.gf (v := .ref 112) rfl rfl hI242.1.o111 rfl rfl (show _ = 53 from rfl) ?_
                  refine sx_RP.step (pc2 := 54) (ls2 := [(1, .int 2), (0, .ref 111)]) (st2 := [.int 1, .ref 112]) (w3 := w241) rfl rfl ?_
                  have ex247 : (ia w241 112).getD 1 0 = nI u := by rw [hB246]; exact hu
                  refine sx_RP.ild (c := 1) rfl hI242.1.a112.1 hI242.1.a112.2 (sx_in_nI (show 1 < 172 by omega) (by decide)) (nI_clamp (by decide)) (show _ = 55 from rfl) ?_
                  rw [ex247]
                  refine sx_RP.step (pc2 := 57) (ls2 := [(1, .int 2), (0, .ref 111)]) (st2 := [.int 10, .int (nI u)]) (w3 := w241) rfl rfl ?_
                  refine sx_RP.br (p1 := 65) (l1 := [(1, .int 2), (0, .ref 111)]) (s1 := []) (v1 := w241) (p2 := 60) (l2 := [(1, .int 2), (0, .ref 111)]) (s2 := []) (v2 := w241) rfl rfl (fun q248 => ?_) (fun q248 => ?_)
                  · replace q248 := of_decide_eq_true q248
                    replace q248 := mt (nI_eq (a := u) (b := 10) (by omega) (by omega)).mpr q248
                    refine sx_RP.step (pc2 := 66) (ls2 := [(1, .int 2), (0, .ref 111)]) (st2 := [.ref 111]) (w3 := w241) rfl rfl ?_
                    refine sx_RP.step (pc2 := 67) (ls2 := [(1, .int 2), (0, .ref 111)]) (st2 := [.int 2, .ref 111]) (w3 := w241) rfl rfl ?_
                    refine sx_RP.cu (as := [.int 2]) (rest2 := [.ref 111]) (st3 := [.float 114, .ref 111]) rfl rfl rfl rfl rfl (p226_2) rfl ?_
                    refine sx_RP.callp (as2 := [.ref 111, .float 114]) (rest2 := []) rfl rfl (sx_inv_v2 (mi := 211) (k := 243) (st := [.float 114, .ref 111]) (w := w241) rfl rfl hI242.1.o111 rfl rfl rfl) rfl rfl rfl (y213t (k := (114 : UInt32)) (m := 3) hI242 hM244 hpl ep238 ef240 (by decide) rfl (by decide) (by decide) hP243 c237) (show _ = 73 from rfl) ?_
                    rintro r4 w253 ⟨⟨rfl, ep250⟩, hI254, hO251⟩
                    show sx_RP _ _ _ _ _ [.int 1] _ _
                    have ef252 := (hO251.2 13 (by decide)).trans ef240
                    have hp255 : beT n X q ≤ n := beT_le hpl
                    have hp256 : nP n X q ≤ n := rE_le hp255
                    have hP257 : rE blk n X (beT n X q) = nP n X q := rfl
                    have hM258 := hM244.hs (hO251.hs)
                    have hO259 := hO245.tr (HS.om (hO251.hs))
                    have hB260 : ia w253 112 = b := by rw [HS.row (hO251.hs)]; exact hB246
                    refine sx_RP.step (pc2 := 76) (ls2 := [(1, .int 2), (0, .ref 111)]) (st2 := []) (w3 := w253) rfl rfl ?_
                    refine sx_RP.step (pc2 := 77) (ls2 := [(1, .int 2), (0, .ref 111)]) (st2 := [.ref 111]) (w3 := w253) rfl rfl ?_
                    refine sx_RP.step (pc2 := 78) (ls2 := [(1, .int 2), (0, .ref 111)]) (st2 := [.int 2, .ref 111]) (w3 := w253) rfl rfl ?_
                    refine sx_RP.callp (as2 := [.ref 111, .int 2]) (rest2 := []) rfl rfl (sx_inv_v2 (mi := 211) (k := 323) (st := [.int 2, .ref 111]) (w := w253) rfl rfl hI254.1.o111 rfl rfl rfl) rfl rfl rfl (U227 (k := 2) hI254 hM258 hp255 ep250 ef252 hP257 hB260 (by decide) hu (by omega)) (show _ = 81 from rfl) ?_
                    rintro r4 w263 ⟨⟨rfl, hr261⟩, hI264, hO262⟩
                    show sx_RP _ _ _ _ _ [.int (b01 (galZ n X 2 (nP n X q) b).1)] _ _
                    have hO265 := hO259.tr hO262
                    refine sx_RP.ret (r := (some (.int (b01 (galZ n X 2 (nP n X q) b).1)))) rfl (bo_ret rfl (b01_in _)) ?_
                    have eg : gwT n X q = -1 := by simp only [gwT, c1, c27, c53, c79, c105, c131, c184, c237, if_true, if_false, Bool.false_eq_true, ite_true, ite_false, true_or, or_true, or_false, false_or]
                    have ek : kwT n X q = 2 := by simp only [kwT, c1, c27, c53, c79, c105, c131, c184, c237, if_true, if_false, Bool.false_eq_true, ite_true, ite_false, true_or, or_true, or_false, false_or]
                    have eR : itW n X q b = galZ n X 2 (nP n X q) b := by unfold itW; rw [eg, if_pos rfl, ek, if_neg (by decide)]; exact galW_Z (by omega)
                    rw [eR]
                    exact ⟨⟨rfl, hr261⟩, hI264, hO265⟩
                  · replace q248 := Decidable.not_not.mp (of_decide_eq_false q248)
                    replace q248 := (nI_eq (a := u) (b := 10) (by omega) (by omega)).mp q248
                    refine sx_RP.step (pc2 := 61) (ls2 := [(1, .int 2), (0, .ref 111)]) (st2 := [.ref 111]) (w3 := w241) rfl rfl ?_
                    refine sx_RP.callp (as2 := [.ref 111]) (rest2 := []) rfl rfl (sx_inv_v2 (mi := 211) (k := 245) (st := [.ref 111]) (w := w241) rfl rfl hI242.1.o111 rfl rfl rfl) rfl rfl rfl (y222 (p := q) hI242 ef240 ep238) (show _ = 64 from rfl) ?_
                    rintro r4 w268 ⟨⟨rfl, hv266⟩, hI269, hO267⟩
                    show sx_RP _ _ _ _ _ [.int 0] _ _
                    have hO270 := hO245.tr (HS.om hO267.hs)
                    refine sx_RP.ret (r := (some (.int 0))) rfl rfl ?_
                    have eg : gwT n X q = -1 := by simp only [gwT, c1, c27, c53, c79, c105, c131, c184, c237, if_true, if_false, Bool.false_eq_true, ite_true, ite_false, true_or, or_true, or_false, false_or]
                    have ek : kwT n X q = 2 := by simp only [kwT, c1, c27, c53, c79, c105, c131, c184, c237, if_true, if_false, Bool.false_eq_true, ite_true, ite_false, true_or, or_true, or_false, false_or]
                    have eR : itW n X q b = (false, q, b) := by unfold itW; rw [eg, if_pos rfl, ek, if_neg (by decide)]; unfold galW; rw [if_neg (by omega)]
                    rw [eR]
                    exact ⟨⟨rfl, RdN.f hv266⟩, hI269, hO270⟩
                · refine sx_RP.callp (as2 := [.ref 111, .float 114]) (rest2 := []) rfl rfl (sx_inv_v2 (mi := 211) (k := 239) (st := [.float 114, .ref 111]) (w := w231) rfl rfl hI232.1.o111 rfl rfl rfl) rfl rfl rfl (y214f (k := (114 : UInt32)) (m := 3) hI232 hM234 hpl ep228 (by decide) rfl (by decide) (by decide) hP233 c237) (show _ = 46 from rfl) ?_
                  rintro r4 w274 ⟨⟨rfl, ep271⟩, hI275, hO272⟩
                  show sx_RP _ _ _ _ _ [.int 0] _ _
                  have ef273 := (hO272.2 13 (by decide)).trans ef230
                  have hP276 : rE blk n X q = q := by rw [← hP233]; exact rE_rE
                  have hM277 := hM234.hs (hO272.hs)
                  have hO278 := hO235.tr (HS.om (hO272.hs))
                  have hB279 : ia w274 112 = b := by rw [HS.row (hO272.hs)]; exact hB236
                  refine sx_RP.step (pc2 := 65) (ls2 := [(1, .int 2), (0, .ref 111)]) (st2 := []) (w3 := w274) rfl rfl ?_
                  refine sx_RP.step (pc2 := 66) (ls2 := [(1, .int 2), (0, .ref 111)]) (st2 := [.ref 111]) (w3 := w274) rfl rfl ?_
                  refine sx_RP.step (pc2 := 67) (ls2 := [(1, .int 2), (0, .ref 111)]) (st2 := [.int 2, .ref 111]) (w3 := w274) rfl rfl ?_
                  refine sx_RP.cu (as := [.int 2]) (rest2 := [.ref 111]) (st3 := [.float 114, .ref 111]) rfl rfl rfl rfl rfl (p226_2) rfl ?_
                  refine sx_RP.callp (as2 := [.ref 111, .float 114]) (rest2 := []) rfl rfl (sx_inv_v2 (mi := 211) (k := 243) (st := [.float 114, .ref 111]) (w := w274) rfl rfl hI275.1.o111 rfl rfl rfl) rfl rfl rfl (y213f (k := (114 : UInt32)) (m := 3) hI275 hM277 hpl ep271 ef273 (by decide) rfl (by decide) (by decide) hP276 c237) (show _ = 73 from rfl) ?_
                  rintro r4 w284 ⟨⟨rfl, ep281⟩, hI285, hO282⟩
                  show sx_RP _ _ _ _ _ [.int 0] _ _
                  have ef283 := (hO282.2 13 (by decide)).trans ef273
                  have hP286 : rE blk n X q = q := by rw [← hP276]; exact rE_rE
                  have hM287 := hM277.hs (hO282.hs)
                  have hO288 := hO278.tr (HS.om (hO282.hs))
                  have hB289 : ia w284 112 = b := by rw [HS.row (hO282.hs)]; exact hB279
                  refine sx_RP.step (pc2 := 82) (ls2 := [(1, .int 2), (0, .ref 111)]) (st2 := []) (w3 := w284) rfl rfl ?_
                  refine sx_RP.step (pc2 := 85) (ls2 := [(1, .int 3), (0, .ref 111)]) (st2 := []) (w3 := w284) rfl rfl ?_
                  refine sx_RP.step (pc2 := 32) (ls2 := [(1, .int 3), (0, .ref 111)]) (st2 := []) (w3 := w284) rfl rfl ?_
                  refine sx_RP.step (pc2 := 33) (ls2 := [(1, .int 3), (0, .ref 111)]) (st2 := [.int 3]) (w3 := w284) rfl rfl ?_
                  refine sx_RP.step (pc2 := 35) (ls2 := [(1, .int 3), (0, .ref 111)]) (st2 := [.int 6, .int 3]) (w3 := w284) rfl rfl ?_
                  refine sx_RP.step (pc2 := 38) (ls2 := [(1, .int 3), (0, .ref 111)]) (st2 := []) (w3 := w284) rfl rfl ?_
                  refine sx_RP.step (pc2 := 39) (ls2 := [(1, .int 3), (0, .ref 111)]) (st2 := [.ref 111]) (w3 := w284) rfl rfl ?_
                  refine sx_RP.step (pc2 := 40) (ls2 := [(1, .int 3), (0, .ref 111)]) (st2 := [.int 3, .ref 111]) (w3 := w284) rfl rfl ?_
                  refine sx_RP.cu (as := [.int 3]) (rest2 := [.ref 111]) (st3 := [.float 107, .ref 111]) rfl rfl rfl rfl rfl (p226_3) rfl ?_
                  rcases Bool.eq_false_or_eq_true (wdT n X q (107 : UInt32)) with c290 | c290
                  · refine sx_RP.callp (as2 := [.ref 111, .float 107]) (rest2 := []) rfl rfl (sx_inv_v2 (mi := 211) (k := 239) (st := [.float 107, .ref 111]) (w := w284) rfl rfl hI285.1.o111 rfl rfl rfl) rfl rfl rfl (y214t (k := (107 : UInt32)) (m := 4) hI285 hM287 hpl ep281 (by decide) rfl (by decide) (by decide) hP286 c290) (show _ = 46 from rfl) ?_
                    rintro r4 w294 ⟨⟨rfl, ep291⟩, hI295, hO292⟩
                    show sx_RP _ _ _ _ _ [.int 1] _ _
                    have ef293 := (hO292.2 13 (by decide)).trans ef283
                    have hP296 : rE blk n X q = q := by rw [← hP286]; exact rE_rE
                    have hM297 := hM287.hs (hO292.hs)
                    have hO298 := hO288.tr (HS.om (hO292.hs))
                    have hB299 : ia w294 112 = b := by rw [HS.row (hO292.hs)]; exact hB289
                    refine sx_RP.step (pc2 := 49) (ls2 := [(1, .int 3), (0, .ref 111)]) (st2 := []) (w3 := w294) rfl rfl ?_
                    refine sx_RP.step (pc2 := 50) (ls2 := [(1, .int 3), (0, .ref 111)]) (st2 := [.ref 111]) (w3 := w294) rfl rfl ?_
                    refine sx_RP.gf (v := .ref 112) rfl rfl hI295.1.o111 rfl rfl (show _ = 53 from rfl) ?_
                    refine sx_RP.step (pc2 := 54) (ls2 := [(1, .int 3), (0, .ref 111)]) (st2 := [.int 1, .ref 112]) (w3 := w294) rfl rfl ?_
                    have ex300 : (ia w294 112).getD 1 0 = nI u := by rw [hB299]; exact hu
                    refine sx_RP.ild (c := 1) rfl hI295.1.a112.1 hI295.1.a112.2 (sx_in_nI (show 1 < 172 by omega) (by decide)) (nI_clamp (by decide)) (show _ = 55 from rfl) ?_
                    rw [ex300]
                    refine sx_RP.step (pc2 := 57) (ls2 := [(1, .int 3), (0, .ref 111)]) (st2 := [.int 10, .int (nI u)]) (w3 := w294) rfl rfl ?_
                    refine sx_RP.br (p1 := 65) (l1 := [(1, .int 3), (0, .ref 111)]) (s1 := []) (v1 := w294) (p2 := 60) (l2 := [(1, .int 3), (0, .ref 111)]) (s2 := []) (v2 := w294) rfl rfl (fun q301 => ?_) (fun q301 => ?_)
                    · replace q301 := of_decide_eq_true q301
                      replace q301 := mt (nI_eq (a := u) (b := 10) (by omega) (by omega)).mpr q301
                      refine sx_RP.step (pc2 := 66) (ls2 := [(1, .int 3), (0, .ref 111)]) (st2 := [.ref 111]) (w3 := w294) rfl rfl ?_
                      refine sx_RP.step (pc2 := 67) (ls2 := [(1, .int 3), (0, .ref 111)]) (st2 := [.int 3, .ref 111]) (w3 := w294) rfl rfl ?_
                      refine sx_RP.cu (as := [.int 3]) (rest2 := [.ref 111]) (st3 := [.float 107, .ref 111]) rfl rfl rfl rfl rfl (p226_3) rfl ?_
                      refine sx_RP.callp (as2 := [.ref 111, .float 107]) (rest2 := []) rfl rfl (sx_inv_v2 (mi := 211) (k := 243) (st := [.float 107, .ref 111]) (w := w294) rfl rfl hI295.1.o111 rfl rfl rfl) rfl rfl rfl (y213t (k := (107 : UInt32)) (m := 4) hI295 hM297 hpl ep291 ef293 (by decide) rfl (by decide) (by decide) hP296 c290) (show _ = 73 from rfl) ?_
                      rintro r4 w306 ⟨⟨rfl, ep303⟩, hI307, hO304⟩
                      show sx_RP _ _ _ _ _ [.int 1] _ _
                      have ef305 := (hO304.2 13 (by decide)).trans ef293
                      have hp308 : beT n X q ≤ n := beT_le hpl
                      have hp309 : nP n X q ≤ n := rE_le hp308
                      have hP310 : rE blk n X (beT n X q) = nP n X q := rfl
                      have hM311 := hM297.hs (hO304.hs)
                      have hO312 := hO298.tr (HS.om (hO304.hs))
                      have hB313 : ia w306 112 = b := by rw [HS.row (hO304.hs)]; exact hB299
                      refine sx_RP.step (pc2 := 76) (ls2 := [(1, .int 3), (0, .ref 111)]) (st2 := []) (w3 := w306) rfl rfl ?_
                      refine sx_RP.step (pc2 := 77) (ls2 := [(1, .int 3), (0, .ref 111)]) (st2 := [.ref 111]) (w3 := w306) rfl rfl ?_
                      refine sx_RP.step (pc2 := 78) (ls2 := [(1, .int 3), (0, .ref 111)]) (st2 := [.int 3, .ref 111]) (w3 := w306) rfl rfl ?_
                      refine sx_RP.callp (as2 := [.ref 111, .int 3]) (rest2 := []) rfl rfl (sx_inv_v2 (mi := 211) (k := 323) (st := [.int 3, .ref 111]) (w := w306) rfl rfl hI307.1.o111 rfl rfl rfl) rfl rfl rfl (U227 (k := 3) hI307 hM311 hp308 ep303 ef305 hP310 hB313 (by decide) hu (by omega)) (show _ = 81 from rfl) ?_
                      rintro r4 w316 ⟨⟨rfl, hr314⟩, hI317, hO315⟩
                      show sx_RP _ _ _ _ _ [.int (b01 (galZ n X 3 (nP n X q) b).1)] _ _
                      have hO318 := hO312.tr hO315
                      refine sx_RP.ret (r := (some (.int (b01 (galZ n X 3 (nP n X q) b).1)))) rfl (bo_ret rfl (b01_in _)) ?_
                      have eg : gwT n X q = -1 := by simp only [gwT, c1, c27, c53, c79, c105, c131, c184, c237, c290, if_true, if_false, Bool.false_eq_true, ite_true, ite_false, true_or, or_true, or_false, false_or]
                      have ek : kwT n X q = 3 := by simp only [kwT, c1, c27, c53, c79, c105, c131, c184, c237, c290, if_true, if_false, Bool.false_eq_true, ite_true, ite_false, true_or, or_true, or_false, false_or]
                      have eR : itW n X q b = galZ n X 3 (nP n X q) b := by unfold itW; rw [eg, if_pos rfl, ek, if_neg (by decide)]; exact galW_Z (by omega)
                      rw [eR]
                      exact ⟨⟨rfl, hr314⟩, hI317, hO318⟩
                    · replace q301 := Decidable.not_not.mp (of_decide_eq_false q301)
                      replace q301 := (nI_eq (a := u) (b := 10) (by omega) (by omega)).mp q301
                      refine sx_RP.step (pc2 := 61) (ls2 := [(1, .int 3), (0, .ref 111)]) (st2 := [.ref 111]) (w3 := w294) rfl rfl ?_
                      refine sx_RP.callp (as2 := [.ref 111]) (rest2 := []) rfl rfl (sx_inv_v2 (mi := 211) (k := 245) (st := [.ref 111]) (w := w294) rfl rfl hI295.1.o111 rfl rfl rfl) rfl rfl rfl (y222 (p := q) hI295 ef293 ep291) (show _ = 64 from rfl) ?_
                      rintro r4 w321 ⟨⟨rfl, hv319⟩, hI322, hO320⟩
                      show sx_RP _ _ _ _ _ [.int 0] _ _
                      have hO323 := hO298.tr (HS.om hO320.hs)
                      refine sx_RP.ret (r := (some (.int 0))) rfl rfl ?_
                      have eg : gwT n X q = -1 := by simp only [gwT, c1, c27, c53, c79, c105, c131, c184, c237, c290, if_true, if_false, Bool.false_eq_true, ite_true, ite_false, true_or, or_true, or_false, false_or]
                      have ek : kwT n X q = 3 := by simp only [kwT, c1, c27, c53, c79, c105, c131, c184, c237, c290, if_true, if_false, Bool.false_eq_true, ite_true, ite_false, true_or, or_true, or_false, false_or]
                      have eR : itW n X q b = (false, q, b) := by unfold itW; rw [eg, if_pos rfl, ek, if_neg (by decide)]; unfold galW; rw [if_neg (by omega)]
                      rw [eR]
                      exact ⟨⟨rfl, RdN.f hv319⟩, hI322, hO323⟩
                  · refine sx_RP.callp (as2 := [.ref 111, .float 107]) (rest2 := []) rfl rfl (sx_inv_v2 (mi := 211) (k := 239) (st := [.float 107, .ref 111]) (w := w284) rfl rfl hI285.1.o111 rfl rfl rfl) rfl rfl rfl (y214f (k := (107 : UInt32)) (m := 4) hI285 hM287 hpl ep281 (by decide) rfl (by decide) (by decide) hP286 c290) (show _ = 46 from rfl) ?_
                    rintro r4 w327 ⟨⟨rfl, ep324⟩, hI328, hO325⟩
                    show sx_RP _ _ _ _ _ [.int 0] _ _
                    have ef326 := (hO325.2 13 (by decide)).trans ef283
                    have hP329 : rE blk n X q = q := by rw [← hP286]; exact rE_rE
                    have hM330 := hM287.hs (hO325.hs)
                    have hO331 := hO288.tr (HS.om (hO325.hs))
                    have hB332 : ia w327 112 = b := by rw [HS.row (hO325.hs)]; exact hB289
                    refine sx_RP.step (pc2 := 65) (ls2 := [(1, .int 3), (0, .ref 111)]) (st2 := []) (w3 := w327) rfl rfl ?_
                    refine sx_RP.step (pc2 := 66) (ls2 := [(1, .int 3), (0, .ref 111)]) (st2 := [.ref 111]) (w3 := w327) rfl rfl ?_
                    refine sx_RP.step (pc2 := 67) (ls2 := [(1, .int 3), (0, .ref 111)]) (st2 := [.int 3, .ref 111]) (w3 := w327) rfl rfl ?_
                    refine sx_RP.cu (as := [.int 3]) (rest2 := [.ref 111]) (st3 := [.float 107, .ref 111]) rfl rfl rfl rfl rfl (p226_3) rfl ?_
                    refine sx_RP.callp (as2 := [.ref 111, .float 107]) (rest2 := []) rfl rfl (sx_inv_v2 (mi := 211) (k := 243) (st := [.float 107, .ref 111]) (w := w327) rfl rfl hI328.1.o111 rfl rfl rfl) rfl rfl rfl (y213f (k := (107 : UInt32)) (m := 4) hI328 hM330 hpl ep324 ef326 (by decide) rfl (by decide) (by decide) hP329 c290) (show _ = 73 from rfl) ?_
                    rintro r4 w337 ⟨⟨rfl, ep334⟩, hI338, hO335⟩
                    show sx_RP _ _ _ _ _ [.int 0] _ _
                    have ef336 := (hO335.2 13 (by decide)).trans ef326
                    have hP339 : rE blk n X q = q := by rw [← hP329]; exact rE_rE
                    have hM340 := hM330.hs (hO335.hs)
                    have hO341 := hO331.tr (HS.om (hO335.hs))
                    have hB342 : ia w337 112 = b := by rw [HS.row (hO335.hs)]; exact hB332
                    refine sx_RP.step (pc2 := 82) (ls2 := [(1, .int 3), (0, .ref 111)]) (st2 := []) (w3 := w337) rfl rfl ?_
                    refine sx_RP.step (pc2 := 85) (ls2 := [(1, .int 4), (0, .ref 111)]) (st2 := []) (w3 := w337) rfl rfl ?_
                    refine sx_RP.step (pc2 := 32) (ls2 := [(1, .int 4), (0, .ref 111)]) (st2 := []) (w3 := w337) rfl rfl ?_
                    refine sx_RP.step (pc2 := 33) (ls2 := [(1, .int 4), (0, .ref 111)]) (st2 := [.int 4]) (w3 := w337) rfl rfl ?_
                    refine sx_RP.step (pc2 := 35) (ls2 := [(1, .int 4), (0, .ref 111)]) (st2 := [.int 6, .int 4]) (w3 := w337) rfl rfl ?_
                    refine sx_RP.step (pc2 := 38) (ls2 := [(1, .int 4), (0, .ref 111)]) (st2 := []) (w3 := w337) rfl rfl ?_
                    refine sx_RP.step (pc2 := 39) (ls2 := [(1, .int 4), (0, .ref 111)]) (st2 := [.ref 111]) (w3 := w337) rfl rfl ?_
                    refine sx_RP.step (pc2 := 40) (ls2 := [(1, .int 4), (0, .ref 111)]) (st2 := [.int 4, .ref 111]) (w3 := w337) rfl rfl ?_
                    refine sx_RP.cu (as := [.int 4]) (rest2 := [.ref 111]) (st3 := [.float 105, .ref 111]) rfl rfl rfl rfl rfl (p226_4) rfl ?_
                    rcases Bool.eq_false_or_eq_true (wdT n X q (105 : UInt32)) with c343 | c343
                    · refine sx_RP.callp (as2 := [.ref 111, .float 105]) (rest2 := []) rfl rfl (sx_inv_v2 (mi := 211) (k := 239) (st := [.float 105, .ref 111]) (w := w337) rfl rfl hI338.1.o111 rfl rfl rfl) rfl rfl rfl (y214t (k := (105 : UInt32)) (m := 5) hI338 hM340 hpl ep334 (by decide) rfl (by decide) (by decide) hP339 c343) (show _ = 46 from rfl) ?_
                      rintro r4 w347 ⟨⟨rfl, ep344⟩, hI348, hO345⟩
                      show sx_RP _ _ _ _ _ [.int 1] _ _
                      have ef346 := (hO345.2 13 (by decide)).trans ef336
                      have hP349 : rE blk n X q = q := by rw [← hP339]; exact rE_rE
                      have hM350 := hM340.hs (hO345.hs)
                      have hO351 := hO341.tr (HS.om (hO345.hs))
                      have hB352 : ia w347 112 = b := by rw [HS.row (hO345.hs)]; exact hB342
                      refine sx_RP.step (pc2 := 49) (ls2 := [(1, .int 4), (0, .ref 111)]) (st2 := []) (w3 := w347) rfl rfl ?_
                      refine sx_RP.step (pc2 := 50) (ls2 := [(1, .int 4), (0, .ref 111)]) (st2 := [.ref 111]) (w3 := w347) rfl rfl ?_
                      refine sx_RP.gf (v := .ref 112) rfl rfl hI348.1.o111 rfl rfl (show _ = 53 from rfl) ?_
                      refine sx_RP.step (pc2 := 54) (ls2 := [(1, .int 4), (0, .ref 111)]) (st2 := [.int 1, .ref 112]) (w3 := w347) rfl rfl ?_
                      have ex353 : (ia w347 112).getD 1 0 = nI u := by rw [hB352]; exact hu
                      refine sx_RP.ild (c := 1) rfl hI348.1.a112.1 hI348.1.a112.2 (sx_in_nI (show 1 < 172 by omega) (by decide)) (nI_clamp (by decide)) (show _ = 55 from rfl) ?_
                      rw [ex353]
                      refine sx_RP.step (pc2 := 57) (ls2 := [(1, .int 4), (0, .ref 111)]) (st2 := [.int 10, .int (nI u)]) (w3 := w347) rfl rfl ?_
                      refine sx_RP.br (p1 := 65) (l1 := [(1, .int 4), (0, .ref 111)]) (s1 := []) (v1 := w347) (p2 := 60) (l2 := [(1, .int 4), (0, .ref 111)]) (s2 := []) (v2 := w347) rfl rfl (fun q354 => ?_) (fun q354 => ?_)
                      · replace q354 := of_decide_eq_true q354
                        replace q354 := mt (nI_eq (a := u) (b := 10) (by omega) (by omega)).mpr q354
                        refine sx_RP.step (pc2 := 66) (ls2 := [(1, .int 4), (0, .ref 111)]) (st2 := [.ref 111]) (w3 := w347) rfl rfl ?_
                        refine sx_RP.step (pc2 := 67) (ls2 := [(1, .int 4), (0, .ref 111)]) (st2 := [.int 4, .ref 111]) (w3 := w347) rfl rfl ?_
                        refine sx_RP.cu (as := [.int 4]) (rest2 := [.ref 111]) (st3 := [.float 105, .ref 111]) rfl rfl rfl rfl rfl (p226_4) rfl ?_
                        refine sx_RP.callp (as2 := [.ref 111, .float 105]) (rest2 := []) rfl rfl (sx_inv_v2 (mi := 211) (k := 243) (st := [.float 105, .ref 111]) (w := w347) rfl rfl hI348.1.o111 rfl rfl rfl) rfl rfl rfl (y213t (k := (105 : UInt32)) (m := 5) hI348 hM350 hpl ep344 ef346 (by decide) rfl (by decide) (by decide) hP349 c343) (show _ = 73 from rfl) ?_
                        rintro r4 w359 ⟨⟨rfl, ep356⟩, hI360, hO357⟩
                        show sx_RP _ _ _ _ _ [.int 1] _ _
                        have ef358 := (hO357.2 13 (by decide)).trans ef346
                        have hp361 : beT n X q ≤ n := beT_le hpl
                        have hp362 : nP n X q ≤ n := rE_le hp361
                        have hP363 : rE blk n X (beT n X q) = nP n X q := rfl
                        have hM364 := hM350.hs (hO357.hs)
                        have hO365 := hO351.tr (HS.om (hO357.hs))
                        have hB366 : ia w359 112 = b := by rw [HS.row (hO357.hs)]; exact hB352
                        refine sx_RP.step (pc2 := 76) (ls2 := [(1, .int 4), (0, .ref 111)]) (st2 := []) (w3 := w359) rfl rfl ?_
                        refine sx_RP.step (pc2 := 77) (ls2 := [(1, .int 4), (0, .ref 111)]) (st2 := [.ref 111]) (w3 := w359) rfl rfl ?_
                        refine sx_RP.step (pc2 := 78) (ls2 := [(1, .int 4), (0, .ref 111)]) (st2 := [.int 4, .ref 111]) (w3 := w359) rfl rfl ?_
                        refine sx_RP.callp (as2 := [.ref 111, .int 4]) (rest2 := []) rfl rfl (sx_inv_v2 (mi := 211) (k := 323) (st := [.int 4, .ref 111]) (w := w359) rfl rfl hI360.1.o111 rfl rfl rfl) rfl rfl rfl (U227 (k := 4) hI360 hM364 hp361 ep356 ef358 hP363 hB366 (by decide) hu (by omega)) (show _ = 81 from rfl) ?_
                        rintro r4 w369 ⟨⟨rfl, hr367⟩, hI370, hO368⟩
                        show sx_RP _ _ _ _ _ [.int (b01 (galZ n X 4 (nP n X q) b).1)] _ _
                        have hO371 := hO365.tr hO368
                        refine sx_RP.ret (r := (some (.int (b01 (galZ n X 4 (nP n X q) b).1)))) rfl (bo_ret rfl (b01_in _)) ?_
                        have eg : gwT n X q = -1 := by simp only [gwT, c1, c27, c53, c79, c105, c131, c184, c237, c290, c343, if_true, if_false, Bool.false_eq_true, ite_true, ite_false, true_or, or_true, or_false, false_or]
                        have ek : kwT n X q = 4 := by simp only [kwT, c1, c27, c53, c79, c105, c131, c184, c237, c290, c343, if_true, if_false, Bool.false_eq_true, ite_true, ite_false, true_or, or_true, or_false, false_or]
                        have eR : itW n X q b = galZ n X 4 (nP n X q) b := by unfold itW; rw [eg, if_pos rfl, ek, if_neg (by decide)]; exact galW_Z (by omega)
                        rw [eR]
                        exact ⟨⟨rfl, hr367⟩, hI370, hO371⟩
                      · replace q354 := Decidable.not_not.mp (of_decide_eq_false q354)
                        replace q354 := (nI_eq (a := u) (b := 10) (by omega) (by omega)).mp q354
                        refine sx_RP.step (pc2 := 61) (ls2 := [(1, .int 4), (0, .ref 111)]) (st2 := [.ref 111]) (w3 := w347) rfl rfl ?_
                        refine sx_RP.callp (as2 := [.ref 111]) (rest2 := []) rfl rfl (sx_inv_v2 (mi := 211) (k := 245) (st := [.ref 111]) (w := w347) rfl rfl hI348.1.o111 rfl rfl rfl) rfl rfl rfl (y222 (p := q) hI348 ef346 ep344) (show _ = 64 from rfl) ?_
                        rintro r4 w374 ⟨⟨rfl, hv372⟩, hI375, hO373⟩
                        show sx_RP _ _ _ _ _ [.int 0] _ _
                        have hO376 := hO351.tr (HS.om hO373.hs)
                        refine sx_RP.ret (r := (some (.int 0))) rfl rfl ?_
                        have eg : gwT n X q = -1 := by simp only [gwT, c1, c27, c53, c79, c105, c131, c184, c237, c290, c343, if_true, if_false, Bool.false_eq_true, ite_true, ite_false, true_or, or_true, or_false, false_or]
                        have ek : kwT n X q = 4 := by simp only [kwT, c1, c27, c53, c79, c105, c131, c184, c237, c290, c343, if_true, if_false, Bool.false_eq_true, ite_true, ite_false, true_or, or_true, or_false, false_or]
                        have eR : itW n X q b = (false, q, b) := by unfold itW; rw [eg, if_pos rfl, ek, if_neg (by decide)]; unfold galW; rw [if_neg (by omega)]
                        rw [eR]
                        exact ⟨⟨rfl, RdN.f hv372⟩, hI375, hO376⟩
                    · refine sx_RP.callp (as2 := [.ref 111, .float 105]) (rest2 := []) rfl rfl (sx_inv_v2 (mi := 211) (k := 239) (st := [.float 105, .ref 111]) (w := w337) rfl rfl hI338.1.o111 rfl rfl rfl) rfl rfl rfl (y214f (k := (105 : UInt32)) (m := 5) hI338 hM340 hpl ep334 (by decide) rfl (by decide) (by decide) hP339 c343) (show _ = 46 from rfl) ?_
                      rintro r4 w380 ⟨⟨rfl, ep377⟩, hI381, hO378⟩
                      show sx_RP _ _ _ _ _ [.int 0] _ _
                      have ef379 := (hO378.2 13 (by decide)).trans ef336
                      have hP382 : rE blk n X q = q := by rw [← hP339]; exact rE_rE
                      have hM383 := hM340.hs (hO378.hs)
                      have hO384 := hO341.tr (HS.om (hO378.hs))
                      have hB385 : ia w380 112 = b := by rw [HS.row (hO378.hs)]; exact hB342
                      refine sx_RP.step (pc2 := 65) (ls2 := [(1, .int 4), (0, .ref 111)]) (st2 := []) (w3 := w380) rfl rfl ?_
                      refine sx_RP.step (pc2 := 66) (ls2 := [(1, .int 4), (0, .ref 111)]) (st2 := [.ref 111]) (w3 := w380) rfl rfl ?_
                      refine sx_RP.step (pc2 := 67) (ls2 := [(1, .int 4), (0, .ref 111)]) (st2 := [.int 4, .ref 111]) (w3 := w380) rfl rfl ?_
                      refine sx_RP.cu (as := [.int 4]) (rest2 := [.ref 111]) (st3 := [.float 105, .ref 111]) rfl rfl rfl rfl rfl (p226_4) rfl ?_
                      refine sx_RP.callp (as2 := [.ref 111, .float 105]) (rest2 := []) rfl rfl (sx_inv_v2 (mi := 211) (k := 243) (st := [.float 105, .ref 111]) (w := w380) rfl rfl hI381.1.o111 rfl rfl rfl) rfl rfl rfl (y213f (k := (105 : UInt32)) (m := 5) hI381 hM383 hpl ep377 ef379 (by decide) rfl (by decide) (by decide) hP382 c343) (show _ = 73 from rfl) ?_
                      rintro r4 w390 ⟨⟨rfl, ep387⟩, hI391, hO388⟩
                      show sx_RP _ _ _ _ _ [.int 0] _ _
                      have ef389 := (hO388.2 13 (by decide)).trans ef379
                      have hP392 : rE blk n X q = q := by rw [← hP382]; exact rE_rE
                      have hM393 := hM383.hs (hO388.hs)
                      have hO394 := hO384.tr (HS.om (hO388.hs))
                      have hB395 : ia w390 112 = b := by rw [HS.row (hO388.hs)]; exact hB385
                      refine sx_RP.step (pc2 := 82) (ls2 := [(1, .int 4), (0, .ref 111)]) (st2 := []) (w3 := w390) rfl rfl ?_
                      refine sx_RP.step (pc2 := 85) (ls2 := [(1, .int 5), (0, .ref 111)]) (st2 := []) (w3 := w390) rfl rfl ?_
                      refine sx_RP.step (pc2 := 32) (ls2 := [(1, .int 5), (0, .ref 111)]) (st2 := []) (w3 := w390) rfl rfl ?_
                      refine sx_RP.step (pc2 := 33) (ls2 := [(1, .int 5), (0, .ref 111)]) (st2 := [.int 5]) (w3 := w390) rfl rfl ?_
                      refine sx_RP.step (pc2 := 35) (ls2 := [(1, .int 5), (0, .ref 111)]) (st2 := [.int 6, .int 5]) (w3 := w390) rfl rfl ?_
                      refine sx_RP.step (pc2 := 38) (ls2 := [(1, .int 5), (0, .ref 111)]) (st2 := []) (w3 := w390) rfl rfl ?_
                      refine sx_RP.step (pc2 := 39) (ls2 := [(1, .int 5), (0, .ref 111)]) (st2 := [.ref 111]) (w3 := w390) rfl rfl ?_
                      refine sx_RP.step (pc2 := 40) (ls2 := [(1, .int 5), (0, .ref 111)]) (st2 := [.int 5, .ref 111]) (w3 := w390) rfl rfl ?_
                      refine sx_RP.cu (as := [.int 5]) (rest2 := [.ref 111]) (st3 := [.float 103, .ref 111]) rfl rfl rfl rfl rfl (p226_5) rfl ?_
                      rcases Bool.eq_false_or_eq_true (wdT n X q (103 : UInt32)) with c396 | c396
                      · refine sx_RP.callp (as2 := [.ref 111, .float 103]) (rest2 := []) rfl rfl (sx_inv_v2 (mi := 211) (k := 239) (st := [.float 103, .ref 111]) (w := w390) rfl rfl hI391.1.o111 rfl rfl rfl) rfl rfl rfl (y214t (k := (103 : UInt32)) (m := 4) hI391 hM393 hpl ep387 (by decide) rfl (by decide) (by decide) hP392 c396) (show _ = 46 from rfl) ?_
                        rintro r4 w400 ⟨⟨rfl, ep397⟩, hI401, hO398⟩
                        show sx_RP _ _ _ _ _ [.int 1] _ _
                        have ef399 := (hO398.2 13 (by decide)).trans ef389
                        have hP402 : rE blk n X q = q := by rw [← hP392]; exact rE_rE
                        have hM403 := hM393.hs (hO398.hs)
                        have hO404 := hO394.tr (HS.om (hO398.hs))
                        have hB405 : ia w400 112 = b := by rw [HS.row (hO398.hs)]; exact hB395
                        refine sx_RP.step (pc2 := 49) (ls2 := [(1, .int 5), (0, .ref 111)]) (st2 := []) (w3 := w400) rfl rfl ?_
                        refine sx_RP.step (pc2 := 50) (ls2 := [(1, .int 5), (0, .ref 111)]) (st2 := [.ref 111]) (w3 := w400) rfl rfl ?_
                        refine sx_RP.gf (v := .ref 112) rfl rfl hI401.1.o111 rfl rfl (show _ = 53 from rfl) ?_
                        refine sx_RP.step (pc2 := 54) (ls2 := [(1, .int 5), (0, .ref 111)]) (st2 := [.int 1, .ref 112]) (w3 := w400) rfl rfl ?_
                        have ex406 : (ia w400 112).getD 1 0 = nI u := by rw [hB405]; exact hu
                        refine sx_RP.ild (c := 1) rfl hI401.1.a112.1 hI401.1.a112.2 (sx_in_nI (show 1 < 172 by omega) (by decide)) (nI_clamp (by decide)) (show _ = 55 from rfl) ?_
                        rw [ex406]
                        refine sx_RP.step (pc2 := 57) (ls2 := [(1, .int 5), (0, .ref 111)]) (st2 := [.int 10, .int (nI u)]) (w3 := w400) rfl rfl ?_
                        refine sx_RP.br (p1 := 65) (l1 := [(1, .int 5), (0, .ref 111)]) (s1 := []) (v1 := w400) (p2 := 60) (l2 := [(1, .int 5), (0, .ref 111)]) (s2 := []) (v2 := w400) rfl rfl (fun q407 => ?_) (fun q407 => ?_)
                        · replace q407 := of_decide_eq_true q407
                          replace q407 := mt (nI_eq (a := u) (b := 10) (by omega) (by omega)).mpr q407
                          refine sx_RP.step (pc2 := 66) (ls2 := [(1, .int 5), (0, .ref 111)]) (st2 := [.ref 111]) (w3 := w400) rfl rfl ?_
                          refine sx_RP.step (pc2 := 67) (ls2 := [(1, .int 5), (0, .ref 111)]) (st2 := [.int 5, .ref 111]) (w3 := w400) rfl rfl ?_
                          refine sx_RP.cu (as := [.int 5]) (rest2 := [.ref 111]) (st3 := [.float 103, .ref 111]) rfl rfl rfl rfl rfl (p226_5) rfl ?_
                          refine sx_RP.callp (as2 := [.ref 111, .float 103]) (rest2 := []) rfl rfl (sx_inv_v2 (mi := 211) (k := 243) (st := [.float 103, .ref 111]) (w := w400) rfl rfl hI401.1.o111 rfl rfl rfl) rfl rfl rfl (y213t (k := (103 : UInt32)) (m := 4) hI401 hM403 hpl ep397 ef399 (by decide) rfl (by decide) (by decide) hP402 c396) (show _ = 73 from rfl) ?_
                          rintro r4 w412 ⟨⟨rfl, ep409⟩, hI413, hO410⟩
                          show sx_RP _ _ _ _ _ [.int 1] _ _
                          have ef411 := (hO410.2 13 (by decide)).trans ef399
                          have hp414 : beT n X q ≤ n := beT_le hpl
                          have hp415 : nP n X q ≤ n := rE_le hp414
                          have hP416 : rE blk n X (beT n X q) = nP n X q := rfl
                          have hM417 := hM403.hs (hO410.hs)
                          have hO418 := hO404.tr (HS.om (hO410.hs))
                          have hB419 : ia w412 112 = b := by rw [HS.row (hO410.hs)]; exact hB405
                          refine sx_RP.step (pc2 := 76) (ls2 := [(1, .int 5), (0, .ref 111)]) (st2 := []) (w3 := w412) rfl rfl ?_
                          refine sx_RP.step (pc2 := 77) (ls2 := [(1, .int 5), (0, .ref 111)]) (st2 := [.ref 111]) (w3 := w412) rfl rfl ?_
                          refine sx_RP.step (pc2 := 78) (ls2 := [(1, .int 5), (0, .ref 111)]) (st2 := [.int 5, .ref 111]) (w3 := w412) rfl rfl ?_
                          refine sx_RP.callp (as2 := [.ref 111, .int 5]) (rest2 := []) rfl rfl (sx_inv_v2 (mi := 211) (k := 323) (st := [.int 5, .ref 111]) (w := w412) rfl rfl hI413.1.o111 rfl rfl rfl) rfl rfl rfl (U227 (k := 5) hI413 hM417 hp414 ep409 ef411 hP416 hB419 (by decide) hu (by omega)) (show _ = 81 from rfl) ?_
                          rintro r4 w422 ⟨⟨rfl, hr420⟩, hI423, hO421⟩
                          show sx_RP _ _ _ _ _ [.int (b01 (galZ n X 5 (nP n X q) b).1)] _ _
                          have hO424 := hO418.tr hO421
                          refine sx_RP.ret (r := (some (.int (b01 (galZ n X 5 (nP n X q) b).1)))) rfl (bo_ret rfl (b01_in _)) ?_
                          have eg : gwT n X q = -1 := by simp only [gwT, c1, c27, c53, c79, c105, c131, c184, c237, c290, c343, c396, if_true, if_false, Bool.false_eq_true, ite_true, ite_false, true_or, or_true, or_false, false_or]
                          have ek : kwT n X q = 5 := by simp only [kwT, c1, c27, c53, c79, c105, c131, c184, c237, c290, c343, c396, if_true, if_false, Bool.false_eq_true, ite_true, ite_false, true_or, or_true, or_false, false_or]
                          have eR : itW n X q b = galZ n X 5 (nP n X q) b := by unfold itW; rw [eg, if_pos rfl, ek, if_neg (by decide)]; exact galW_Z (by omega)
                          rw [eR]
                          exact ⟨⟨rfl, hr420⟩, hI423, hO424⟩
                        · replace q407 := Decidable.not_not.mp (of_decide_eq_false q407)
                          replace q407 := (nI_eq (a := u) (b := 10) (by omega) (by omega)).mp q407
                          refine sx_RP.step (pc2 := 61) (ls2 := [(1, .int 5), (0, .ref 111)]) (st2 := [.ref 111]) (w3 := w400) rfl rfl ?_
                          refine sx_RP.callp (as2 := [.ref 111]) (rest2 := []) rfl rfl (sx_inv_v2 (mi := 211) (k := 245) (st := [.ref 111]) (w := w400) rfl rfl hI401.1.o111 rfl rfl rfl) rfl rfl rfl (y222 (p := q) hI401 ef399 ep397) (show _ = 64 from rfl) ?_
                          rintro r4 w427 ⟨⟨rfl, hv425⟩, hI428, hO426⟩
                          show sx_RP _ _ _ _ _ [.int 0] _ _
                          have hO429 := hO404.tr (HS.om hO426.hs)
                          refine sx_RP.ret (r := (some (.int 0))) rfl rfl ?_
                          have eg : gwT n X q = -1 := by simp only [gwT, c1, c27, c53, c79, c105, c131, c184, c237, c290, c343, c396, if_true, if_false, Bool.false_eq_true, ite_true, ite_false, true_or, or_true, or_false, false_or]
                          have ek : kwT n X q = 5 := by simp only [kwT, c1, c27, c53, c79, c105, c131, c184, c237, c290, c343, c396, if_true, if_false, Bool.false_eq_true, ite_true, ite_false, true_or, or_true, or_false, false_or]
                          have eR : itW n X q b = (false, q, b) := by unfold itW; rw [eg, if_pos rfl, ek, if_neg (by decide)]; unfold galW; rw [if_neg (by omega)]
                          rw [eR]
                          exact ⟨⟨rfl, RdN.f hv425⟩, hI428, hO429⟩
                      · refine sx_RP.callp (as2 := [.ref 111, .float 103]) (rest2 := []) rfl rfl (sx_inv_v2 (mi := 211) (k := 239) (st := [.float 103, .ref 111]) (w := w390) rfl rfl hI391.1.o111 rfl rfl rfl) rfl rfl rfl (y214f (k := (103 : UInt32)) (m := 4) hI391 hM393 hpl ep387 (by decide) rfl (by decide) (by decide) hP392 c396) (show _ = 46 from rfl) ?_
                        rintro r4 w433 ⟨⟨rfl, ep430⟩, hI434, hO431⟩
                        show sx_RP _ _ _ _ _ [.int 0] _ _
                        have ef432 := (hO431.2 13 (by decide)).trans ef389
                        have hP435 : rE blk n X q = q := by rw [← hP392]; exact rE_rE
                        have hM436 := hM393.hs (hO431.hs)
                        have hO437 := hO394.tr (HS.om (hO431.hs))
                        have hB438 : ia w433 112 = b := by rw [HS.row (hO431.hs)]; exact hB395
                        refine sx_RP.step (pc2 := 65) (ls2 := [(1, .int 5), (0, .ref 111)]) (st2 := []) (w3 := w433) rfl rfl ?_
                        refine sx_RP.step (pc2 := 66) (ls2 := [(1, .int 5), (0, .ref 111)]) (st2 := [.ref 111]) (w3 := w433) rfl rfl ?_
                        refine sx_RP.step (pc2 := 67) (ls2 := [(1, .int 5), (0, .ref 111)]) (st2 := [.int 5, .ref 111]) (w3 := w433) rfl rfl ?_
                        refine sx_RP.cu (as := [.int 5]) (rest2 := [.ref 111]) (st3 := [.float 103, .ref 111]) rfl rfl rfl rfl rfl (p226_5) rfl ?_
                        refine sx_RP.callp (as2 := [.ref 111, .float 103]) (rest2 := []) rfl rfl (sx_inv_v2 (mi := 211) (k := 243) (st := [.float 103, .ref 111]) (w := w433) rfl rfl hI434.1.o111 rfl rfl rfl) rfl rfl rfl (y213f (k := (103 : UInt32)) (m := 4) hI434 hM436 hpl ep430 ef432 (by decide) rfl (by decide) (by decide) hP435 c396) (show _ = 73 from rfl) ?_
                        rintro r4 w443 ⟨⟨rfl, ep440⟩, hI444, hO441⟩
                        show sx_RP _ _ _ _ _ [.int 0] _ _
                        have ef442 := (hO441.2 13 (by decide)).trans ef432
                        have hP445 : rE blk n X q = q := by rw [← hP435]; exact rE_rE
                        have hM446 := hM436.hs (hO441.hs)
                        have hO447 := hO437.tr (HS.om (hO441.hs))
                        have hB448 : ia w443 112 = b := by rw [HS.row (hO441.hs)]; exact hB438
                        refine sx_RP.step (pc2 := 82) (ls2 := [(1, .int 5), (0, .ref 111)]) (st2 := []) (w3 := w443) rfl rfl ?_
                        refine sx_RP.step (pc2 := 85) (ls2 := [(1, .int 6), (0, .ref 111)]) (st2 := []) (w3 := w443) rfl rfl ?_
                        refine sx_RP.step (pc2 := 32) (ls2 := [(1, .int 6), (0, .ref 111)]) (st2 := []) (w3 := w443) rfl rfl ?_
                        refine sx_RP.step (pc2 := 33) (ls2 := [(1, .int 6), (0, .ref 111)]) (st2 := [.int 6]) (w3 := w443) rfl rfl ?_
                        refine sx_RP.step (pc2 := 35) (ls2 := [(1, .int 6), (0, .ref 111)]) (st2 := [.int 6, .int 6]) (w3 := w443) rfl rfl ?_
                        refine sx_RP.step (pc2 := 88) (ls2 := [(1, .int 6), (0, .ref 111)]) (st2 := []) (w3 := w443) rfl rfl ?_
                        refine sx_RP.step (pc2 := 89) (ls2 := [(1, .int 6), (0, .ref 111)]) (st2 := [.ref 111]) (w3 := w443) rfl rfl ?_
                        refine sx_RP.step (pc2 := 92) (ls2 := [(1, .int 6), (0, .ref 111)]) (st2 := [.float 104, .ref 111]) (w3 := w443) rfl rfl ?_
                        rcases Bool.eq_false_or_eq_true (wdT n X q (104 : UInt32)) with c449 | c449
                        · refine sx_RP.callp (as2 := [.ref 111, .float 104]) (rest2 := []) rfl rfl (sx_inv_v2 (mi := 211) (k := 239) (st := [.float 104, .ref 111]) (w := w443) rfl rfl hI444.1.o111 rfl rfl rfl) rfl rfl rfl (y214t (k := (104 : UInt32)) (m := 4) hI444 hM446 hpl ep440 (by decide) rfl (by decide) (by decide) hP445 c449) (show _ = 95 from rfl) ?_
                          rintro r4 w453 ⟨⟨rfl, ep450⟩, hI454, hO451⟩
                          show sx_RP _ _ _ _ _ [.int 1] _ _
                          have ef452 := (hO451.2 13 (by decide)).trans ef442
                          have hP455 : rE blk n X q = q := by rw [← hP445]; exact rE_rE
                          have hM456 := hM446.hs (hO451.hs)
                          have hO457 := hO447.tr (HS.om (hO451.hs))
                          have hB458 : ia w453 112 = b := by rw [HS.row (hO451.hs)]; exact hB448
                          refine sx_RP.step (pc2 := 98) (ls2 := [(1, .int 6), (0, .ref 111)]) (st2 := []) (w3 := w453) rfl rfl ?_
                          refine sx_RP.step (pc2 := 99) (ls2 := [(1, .int 6), (0, .ref 111)]) (st2 := [.ref 111]) (w3 := w453) rfl rfl ?_
                          refine sx_RP.gf (v := .ref 112) rfl rfl hI454.1.o111 rfl rfl (show _ = 102 from rfl) ?_
                          refine sx_RP.step (pc2 := 103) (ls2 := [(1, .int 6), (0, .ref 111)]) (st2 := [.int 2, .ref 112]) (w3 := w453) rfl rfl ?_
                          have ex459 : (ia w453 112).getD 2 0 = nI m := by rw [hB458]; exact hm
                          refine sx_RP.ild (c := 2) rfl hI454.1.a112.1 hI454.1.a112.2 (sx_in_nI (show 2 < 172 by omega) (by decide)) (nI_clamp (by decide)) (show _ = 104 from rfl) ?_
                          rw [ex459]
                          refine sx_RP.step (pc2 := 106) (ls2 := [(1, .int 6), (0, .ref 111)]) (st2 := [.int 9, .int (nI m)]) (w3 := w453) rfl rfl ?_
                          refine sx_RP.br (p1 := 114) (l1 := [(1, .int 6), (0, .ref 111)]) (s1 := []) (v1 := w453) (p2 := 109) (l2 := [(1, .int 6), (0, .ref 111)]) (s2 := []) (v2 := w453) rfl rfl (fun q460 => ?_) (fun q460 => ?_)
                          · replace q460 := of_decide_eq_true q460
                            replace q460 := mt (nI_eq (a := m) (b := 9) (by omega) (by omega)).mpr q460
                            refine sx_RP.step (pc2 := 115) (ls2 := [(1, .int 6), (0, .ref 111)]) (st2 := [.ref 111]) (w3 := w453) rfl rfl ?_
                            refine sx_RP.step (pc2 := 118) (ls2 := [(1, .int 6), (0, .ref 111)]) (st2 := [.float 104, .ref 111]) (w3 := w453) rfl rfl ?_
                            refine sx_RP.callp (as2 := [.ref 111, .float 104]) (rest2 := []) rfl rfl (sx_inv_v2 (mi := 211) (k := 243) (st := [.float 104, .ref 111]) (w := w453) rfl rfl hI454.1.o111 rfl rfl rfl) rfl rfl rfl (y213t (k := (104 : UInt32)) (m := 4) hI454 hM456 hpl ep450 ef452 (by decide) rfl (by decide) (by decide) hP455 c449) (show _ = 121 from rfl) ?_
                            rintro r4 w465 ⟨⟨rfl, ep462⟩, hI466, hO463⟩
                            show sx_RP _ _ _ _ _ [.int 1] _ _
                            have ef464 := (hO463.2 13 (by decide)).trans ef452
                            have hp467 : beT n X q ≤ n := beT_le hpl
                            have hp468 : nP n X q ≤ n := rE_le hp467
                            have hP469 : rE blk n X (beT n X q) = nP n X q := rfl
                            have hM470 := hM456.hs (hO463.hs)
                            have hO471 := hO457.tr (HS.om (hO463.hs))
                            have hB472 : ia w465 112 = b := by rw [HS.row (hO463.hs)]; exact hB458
                            refine sx_RP.step (pc2 := 124) (ls2 := [(1, .int 6), (0, .ref 111)]) (st2 := []) (w3 := w465) rfl rfl ?_
                            refine sx_RP.step (pc2 := 125) (ls2 := [(1, .int 6), (0, .ref 111)]) (st2 := [.ref 111]) (w3 := w465) rfl rfl ?_
                            refine sx_RP.step (pc2 := 126) (ls2 := [(1, .int 6), (0, .ref 111)]) (st2 := [.int 0, .ref 111]) (w3 := w465) rfl rfl ?_
                            refine sx_RP.step (pc2 := 128) (ls2 := [(1, .int 6), (0, .ref 111)]) (st2 := [.int 47, .int 0, .ref 111]) (w3 := w465) rfl rfl ?_
                            rcases Bool.eq_false_or_eq_true (nmT n X (nP n X q) 0 47) with c473 | c473
                            · refine sx_RP.callp (as2 := [.ref 111, .int 0, .int 47]) (rest2 := []) rfl rfl (sx_inv_v2 (mi := 211) (k := 267) (st := [.int 47, .int 0, .ref 111]) (w := w465) rfl rfl hI466.1.o111 rfl rfl rfl) rfl rfl rfl (y220t (lo := 0) (hi := 47) hI466 hM470 hp467 ep462 ef464 (by omega) (by decide) hP469 c473) (show _ = 131 from rfl) ?_
                              rintro r4 w478 ⟨⟨rfl, ep474, ev477, ef476⟩, hI479, hO475⟩
                              show sx_RP _ _ _ _ _ [.int 1] _ _
                              have hp480 : beT n X (nP n X q) ≤ n := beT_le hp468
                              have hp481 : nP n X (nP n X q) ≤ n := rE_le hp480
                              have hr482 := nmT_in c473
                              have hP483 : rE blk n X (beT n X (nP n X q)) = nP n X (nP n X q) := rfl
                              have hM484 := hM470.hs (hO475)
                              have hO485 := hO471.tr (HS.om (hO475))
                              have hB486 : ia w478 112 = b := by rw [HS.row (hO475)]; exact hB472
                              refine sx_RP.step (pc2 := 136) (ls2 := [(1, .int 6), (0, .ref 111)]) (st2 := []) (w3 := w478) rfl rfl ?_
                              refine sx_RP.step (pc2 := 137) (ls2 := [(1, .int 6), (0, .ref 111)]) (st2 := [.ref 111]) (w3 := w478) rfl rfl ?_
                              refine sx_RP.gf (v := .ref 112) rfl rfl hI479.1.o111 rfl rfl (show _ = 140 from rfl) ?_
                              refine sx_RP.step (pc2 := 143) (ls2 := [(1, .int 6), (0, .ref 111)]) (st2 := [.int 163, .ref 112]) (w3 := w478) rfl rfl ?_
                              refine sx_RP.step (pc2 := 144) (ls2 := [(1, .int 6), (0, .ref 111)]) (st2 := [.ref 111, .int 163, .ref 112]) (w3 := w478) rfl rfl ?_
                              refine sx_RP.gf (v := .ref 112) rfl rfl hI479.1.o111 rfl rfl (show _ = 147 from rfl) ?_
                              refine sx_RP.step (pc2 := 148) (ls2 := [(1, .int 6), (0, .ref 111)]) (st2 := [.int 2, .ref 112, .int 163, .ref 112]) (w3 := w478) rfl rfl ?_
                              have ex487 : (ia w478 112).getD 2 0 = nI m := by rw [hB486]; exact hm
                              refine sx_RP.ild (c := 2) rfl hI479.1.a112.1 hI479.1.a112.2 (sx_in_nI (show 2 < 172 by omega) (by decide)) (nI_clamp (by decide)) (show _ = 149 from rfl) ?_
                              rw [ex487]
                              refine sx_RP.step (pc2 := 150) (ls2 := [(1, .int 6), (0, .ref 111)]) (st2 := [.int (163 + (nI m)), .ref 112]) (w3 := w478) rfl rfl ?_
                              rw [show (163 + (nI m) : Int32) = nI (163 + m) from nI_add 163 m]
                              refine sx_RP.step (pc2 := 151) (ls2 := [(1, .int 6), (0, .ref 111)]) (st2 := [.ref 111, .int (nI (163 + m)), .ref 112]) (w3 := w478) rfl rfl ?_
                              refine sx_RP.gf (v := .int (fi w478 111 14)) rfl rfl hI479.1.o111 rfl rfl (show _ = 154 from rfl) ?_
                              rw [ev477]
                              refine sx_RP.xM (k := 163 + m) hI479 (by decide) rfl (by omega) (eOK_d (by omega) (inR.n (show (vaT n X (nP n X q)) ≤ 47 by omega))) (show _ = 155 from rfl) (fun w488 hI489 hs490 hv491 => ?_)
                              have ep493 := (fi_same 12 (hs490 111 (by decide))).trans ep474
                              have ef494 := (fi_same 13 (hs490 111 (by decide))).trans ef476
                              have hM495 := hM484.om (OM.st hs490)
                              have hO496 := hO485.tr (OM.st hs490)
                              refine sx_RP.step (pc2 := 156) (ls2 := [(1, .int 6), (0, .ref 111)]) (st2 := [.ref 111]) (w3 := w488) rfl rfl ?_
                              refine sx_RP.gf (v := .ref 112) rfl rfl hI489.1.o111 rfl rfl (show _ = 159 from rfl) ?_
                              refine sx_RP.step (pc2 := 160) (ls2 := [(1, .int 6), (0, .ref 111)]) (st2 := [.int 2, .ref 112]) (w3 := w488) rfl rfl ?_
                              refine sx_RP.step (pc2 := 161) (ls2 := [(1, .int 6), (0, .ref 111)]) (st2 := [.int 2, .ref 112, .int 2, .ref 112]) (w3 := w488) rfl rfl ?_
                              have ex497 : (ia w488 112).getD 2 0 = nI m := by rw [hv491, gd_ne (by omega), hB486]; exact hm
                              refine sx_RP.ild (c := 2) rfl hI489.1.a112.1 hI489.1.a112.2 (sx_in_nI (show 2 < 172 by omega) (by decide)) (nI_clamp (by decide)) (show _ = 162 from rfl) ?_
                              rw [ex497]
                              refine sx_RP.step (pc2 := 163) (ls2 := [(1, .int 6), (0, .ref 111)]) (st2 := [.int 1, .int (nI m), .int 2, .ref 112]) (w3 := w488) rfl rfl ?_
                              refine sx_RP.step (pc2 := 164) (ls2 := [(1, .int 6), (0, .ref 111)]) (st2 := [.int ((nI m) + 1), .int 2, .ref 112]) (w3 := w488) rfl rfl ?_
                              rw [show ((nI m) + 1 : Int32) = nI (m + 1) from nI_add m 1]
                              refine sx_RP.xM (k := 2) hI489 (by decide) rfl (by omega) (eOK_2 (inR.n (show m + 1 ≤ 9 by omega))) (show _ = 165 from rfl) (fun w498 hI499 hs500 hv501 => ?_)
                              have hB502 : ia w498 112 = dsW (nI (vaT n X (nP n X q))) (b) := by rw [hv501, hv491, hB486]; unfold dsW; rw [hmn]
                              have ep503 := (fi_same 12 (hs500 111 (by decide))).trans ep493
                              have ef504 := (fi_same 13 (hs500 111 (by decide))).trans ef494
                              have hM505 := hM495.om (OM.st hs500)
                              have hO506 := hO496.tr (OM.st hs500)
                              refine sx_RP.step (pc2 := 166) (ls2 := [(1, .int 6), (0, .ref 111)]) (st2 := [.int 1]) (w3 := w498) rfl rfl ?_
                              refine sx_RP.ret (r := (some (.int 1))) rfl rfl ?_
                              have eg : gwT n X q = -1 := by simp only [gwT, c1, c27, c53, c79, c105, c131, c184, c237, c290, c343, c396, c449, c473, if_true, if_false, Bool.false_eq_true, ite_true, ite_false, true_or, or_true, or_false, false_or]
                              have ek : kwT n X q = -1 := by simp only [kwT, c1, c27, c53, c79, c105, c131, c184, c237, c290, c343, c396, c449, c473, if_true, if_false, Bool.false_eq_true, ite_true, ite_false, true_or, or_true, or_false, false_or]
                              have eR : itW n X q b = (true, nP n X (nP n X q), dsW (nI (vaT n X (nP n X q))) (b)) := by unfold itW; rw [eg, if_pos rfl, ek, if_pos rfl, if_pos c449]; unfold disW; rw [if_pos (by omega), if_pos c473]
                              rw [eR]
                              exact ⟨⟨rfl, RdN.t ef504 hB502 hp480 ep503 hP483⟩, hI499, hO506⟩
                            · refine sx_RP.callp (as2 := [.ref 111, .int 0, .int 47]) (rest2 := []) rfl rfl (sx_inv_v2 (mi := 211) (k := 267) (st := [.int 47, .int 0, .ref 111]) (w := w465) rfl rfl hI466.1.o111 rfl rfl rfl) rfl rfl rfl (y220f (lo := 0) (hi := 47) hI466 hM470 hp467 ep462 ef464 (by omega) (by decide) hP469 c473) (show _ = 131 from rfl) ?_
                              rintro r4 w511 ⟨⟨rfl, ep507⟩, hI512, hO508⟩
                              show sx_RP _ _ _ _ _ [.int 0] _ _
                              have hO513 := hO471.tr (HS.om hO508)
                              refine sx_RP.step (pc2 := 134) (ls2 := [(1, .int 6), (0, .ref 111)]) (st2 := []) (w3 := w511) rfl rfl ?_
                              refine sx_RP.step (pc2 := 135) (ls2 := [(1, .int 6), (0, .ref 111)]) (st2 := [.int 0]) (w3 := w511) rfl rfl ?_
                              refine sx_RP.ret (r := (some (.int 0))) rfl rfl ?_
                              have eg : gwT n X q = -1 := by simp only [gwT, c1, c27, c53, c79, c105, c131, c184, c237, c290, c343, c396, c449, c473, if_true, if_false, Bool.false_eq_true, ite_true, ite_false, true_or, or_true, or_false, false_or]
                              have ek : kwT n X q = -1 := by simp only [kwT, c1, c27, c53, c79, c105, c131, c184, c237, c290, c343, c396, c449, c473, if_true, if_false, Bool.false_eq_true, ite_true, ite_false, true_or, or_true, or_false, false_or]
                              have eR : itW n X q b = (false, nP n X q, b) := by unfold itW; rw [eg, if_pos rfl, ek, if_pos rfl, if_pos c449]; unfold disW; rw [if_pos (by omega), if_neg (by rw [c473]; decide)]
                              rw [eR]
                              exact ⟨⟨rfl, RdN.f ep507⟩, hI512, hO513⟩
                          · replace q460 := Decidable.not_not.mp (of_decide_eq_false q460)
                            replace q460 := (nI_eq (a := m) (b := 9) (by omega) (by omega)).mp q460
                            refine sx_RP.step (pc2 := 110) (ls2 := [(1, .int 6), (0, .ref 111)]) (st2 := [.ref 111]) (w3 := w453) rfl rfl ?_
                            refine sx_RP.callp (as2 := [.ref 111]) (rest2 := []) rfl rfl (sx_inv_v2 (mi := 211) (k := 245) (st := [.ref 111]) (w := w453) rfl rfl hI454.1.o111 rfl rfl rfl) rfl rfl rfl (y222 (p := q) hI454 ef452 ep450) (show _ = 113 from rfl) ?_
                            rintro r4 w516 ⟨⟨rfl, hv514⟩, hI517, hO515⟩
                            show sx_RP _ _ _ _ _ [.int 0] _ _
                            have hO518 := hO457.tr (HS.om hO515.hs)
                            refine sx_RP.ret (r := (some (.int 0))) rfl rfl ?_
                            have eg : gwT n X q = -1 := by simp only [gwT, c1, c27, c53, c79, c105, c131, c184, c237, c290, c343, c396, c449, if_true, if_false, Bool.false_eq_true, ite_true, ite_false, true_or, or_true, or_false, false_or]
                            have ek : kwT n X q = -1 := by simp only [kwT, c1, c27, c53, c79, c105, c131, c184, c237, c290, c343, c396, c449, if_true, if_false, Bool.false_eq_true, ite_true, ite_false, true_or, or_true, or_false, false_or]
                            have eR : itW n X q b = (false, q, b) := by unfold itW; rw [eg, if_pos rfl, ek, if_pos rfl, if_pos c449]; unfold disW; rw [if_neg (by omega)]
                            rw [eR]
                            exact ⟨⟨rfl, RdN.f hv514⟩, hI517, hO518⟩
                        · refine sx_RP.callp (as2 := [.ref 111, .float 104]) (rest2 := []) rfl rfl (sx_inv_v2 (mi := 211) (k := 239) (st := [.float 104, .ref 111]) (w := w443) rfl rfl hI444.1.o111 rfl rfl rfl) rfl rfl rfl (y214f (k := (104 : UInt32)) (m := 4) hI444 hM446 hpl ep440 (by decide) rfl (by decide) (by decide) hP445 c449) (show _ = 95 from rfl) ?_
                          rintro r4 w522 ⟨⟨rfl, ep519⟩, hI523, hO520⟩
                          show sx_RP _ _ _ _ _ [.int 0] _ _
                          have ef521 := (hO520.2 13 (by decide)).trans ef442
                          have hP524 : rE blk n X q = q := by rw [← hP445]; exact rE_rE
                          have hM525 := hM446.hs (hO520.hs)
                          have hO526 := hO447.tr (HS.om (hO520.hs))
                          have hB527 : ia w522 112 = b := by rw [HS.row (hO520.hs)]; exact hB448
                          refine sx_RP.step (pc2 := 114) (ls2 := [(1, .int 6), (0, .ref 111)]) (st2 := []) (w3 := w522) rfl rfl ?_
                          refine sx_RP.step (pc2 := 115) (ls2 := [(1, .int 6), (0, .ref 111)]) (st2 := [.ref 111]) (w3 := w522) rfl rfl ?_
                          refine sx_RP.step (pc2 := 118) (ls2 := [(1, .int 6), (0, .ref 111)]) (st2 := [.float 104, .ref 111]) (w3 := w522) rfl rfl ?_
                          refine sx_RP.callp (as2 := [.ref 111, .float 104]) (rest2 := []) rfl rfl (sx_inv_v2 (mi := 211) (k := 243) (st := [.float 104, .ref 111]) (w := w522) rfl rfl hI523.1.o111 rfl rfl rfl) rfl rfl rfl (y213f (k := (104 : UInt32)) (m := 4) hI523 hM525 hpl ep519 ef521 (by decide) rfl (by decide) (by decide) hP524 c449) (show _ = 121 from rfl) ?_
                          rintro r4 w532 ⟨⟨rfl, ep529⟩, hI533, hO530⟩
                          show sx_RP _ _ _ _ _ [.int 0] _ _
                          have ef531 := (hO530.2 13 (by decide)).trans ef521
                          have hP534 : rE blk n X q = q := by rw [← hP524]; exact rE_rE
                          have hM535 := hM525.hs (hO530.hs)
                          have hO536 := hO526.tr (HS.om (hO530.hs))
                          have hB537 : ia w532 112 = b := by rw [HS.row (hO530.hs)]; exact hB527
                          refine sx_RP.step (pc2 := 167) (ls2 := [(1, .int 6), (0, .ref 111)]) (st2 := []) (w3 := w532) rfl rfl ?_
                          refine sx_RP.step (pc2 := 168) (ls2 := [(1, .int 6), (0, .ref 111)]) (st2 := [.ref 111]) (w3 := w532) rfl rfl ?_
                          refine sx_RP.step (pc2 := 171) (ls2 := [(1, .int 6), (0, .ref 111)]) (st2 := [.float 101, .ref 111]) (w3 := w532) rfl rfl ?_
                          rcases Bool.eq_false_or_eq_true (wdT n X q (101 : UInt32)) with c538 | c538
                          · refine sx_RP.callp (as2 := [.ref 111, .float 101]) (rest2 := []) rfl rfl (sx_inv_v2 (mi := 211) (k := 282) (st := [.float 101, .ref 111]) (w := w532) rfl rfl hI533.1.o111 rfl rfl rfl) rfl rfl rfl (y228t (k := (101 : UInt32)) (m := 5) hI533 hM535 hpl ep529 ef531 (by decide) rfl (by decide) (by decide) hP534 c538) (show _ = 174 from rfl) ?_
                            rintro r4 w542 ⟨⟨rfl, ep539, ef541⟩, hI543, hO540⟩
                            show sx_RP _ _ _ _ _ [.int 1] _ _
                            have hp544 : beT n X q ≤ n := beT_le hpl
                            have hp545 : nP n X q ≤ n := rE_le hp544
                            have hP546 : rE blk n X (beT n X q) = nP n X q := rfl
                            have hM547 := hM535.hs (hO540)
                            have hO548 := hO536.tr (HS.om (hO540))
                            have hB549 : ia w542 112 = b := by rw [HS.row (hO540)]; exact hB537
                            refine sx_RP.step (pc2 := 177) (ls2 := [(1, .int 6), (0, .ref 111)]) (st2 := []) (w3 := w542) rfl rfl ?_
                            refine sx_RP.step (pc2 := 178) (ls2 := [(1, .int 6), (0, .ref 111)]) (st2 := [.ref 111]) (w3 := w542) rfl rfl ?_
                            refine sx_RP.callp (as2 := [.ref 111]) (rest2 := []) rfl rfl (sx_inv_v2 (mi := 211) (k := 330) (st := [.ref 111]) (w := w542) rfl rfl hI543.1.o111 rfl rfl rfl) rfl rfl rfl (U229 hI543 hM547 hp544 ep539 ef541 hP546 hB549) (show _ = 181 from rfl) ?_
                            rintro r4 w552 ⟨⟨rfl, hr550⟩, hI553, hO551⟩
                            show sx_RP _ _ _ _ _ [.int (b01 (breZ n X (nP n X q) b).1)] _ _
                            have hO554 := hO548.tr hO551
                            refine sx_RP.br (p1 := 188) (l1 := [(1, .int 6), (0, .ref 111)]) (s1 := []) (v1 := w552) (p2 := 184) (l2 := [(1, .int 6), (0, .ref 111)]) (s2 := []) (v2 := w552) rfl rfl (fun q555 => ?_) (fun q555 => ?_)
                            · replace q555 := of_decide_eq_true q555
                              refine sx_RP.step (pc2 := 189) (ls2 := [(1, .int 6), (0, .ref 111)]) (st2 := [.int 0]) (w3 := w552) rfl rfl ?_
                              refine sx_RP.ret (r := (some (.int 0))) rfl rfl ?_
                              have eg : gwT n X q = -1 := by simp only [gwT, c1, c27, c53, c79, c105, c131, c184, c237, c290, c343, c396, c449, c538, if_true, if_false, Bool.false_eq_true, ite_true, ite_false, true_or, or_true, or_false, false_or]
                              have ek : kwT n X q = -1 := by simp only [kwT, c1, c27, c53, c79, c105, c131, c184, c237, c290, c343, c396, c449, c538, if_true, if_false, Bool.false_eq_true, ite_true, ite_false, true_or, or_true, or_false, false_or]
                              have eR : itW n X q b = breZ n X (nP n X q) b := by unfold itW; rw [eg, if_pos rfl, ek, if_pos rfl, if_neg (by rw [c449]; decide), if_pos c538]; rfl
                              rw [eR]
                              exact ⟨⟨by rw [b01_f q555]; rfl, hr550⟩, hI553, hO554⟩
                            · replace q555 := of_decide_eq_false q555
                              refine sx_RP.step (pc2 := 185) (ls2 := [(1, .int 6), (0, .ref 111)]) (st2 := [.int 1]) (w3 := w552) rfl rfl ?_
                              refine sx_RP.step (pc2 := 189) (ls2 := [(1, .int 6), (0, .ref 111)]) (st2 := [.int 1]) (w3 := w552) rfl rfl ?_
                              refine sx_RP.ret (r := (some (.int 1))) rfl rfl ?_
                              have eg : gwT n X q = -1 := by simp only [gwT, c1, c27, c53, c79, c105, c131, c184, c237, c290, c343, c396, c449, c538, if_true, if_false, Bool.false_eq_true, ite_true, ite_false, true_or, or_true, or_false, false_or]
                              have ek : kwT n X q = -1 := by simp only [kwT, c1, c27, c53, c79, c105, c131, c184, c237, c290, c343, c396, c449, c538, if_true, if_false, Bool.false_eq_true, ite_true, ite_false, true_or, or_true, or_false, false_or]
                              have eR : itW n X q b = breZ n X (nP n X q) b := by unfold itW; rw [eg, if_pos rfl, ek, if_pos rfl, if_neg (by rw [c449]; decide), if_pos c538]; rfl
                              rw [eR]
                              exact ⟨⟨by rw [b01_t q555]; rfl, hr550⟩, hI553, hO554⟩
                          · refine sx_RP.callp (as2 := [.ref 111, .float 101]) (rest2 := []) rfl rfl (sx_inv_v2 (mi := 211) (k := 282) (st := [.float 101, .ref 111]) (w := w532) rfl rfl hI533.1.o111 rfl rfl rfl) rfl rfl rfl (y228f (k := (101 : UInt32)) (m := 5) hI533 hM535 hpl ep529 ef531 (by decide) rfl (by decide) (by decide) hP534 c538) (show _ = 174 from rfl) ?_
                            rintro r4 w559 ⟨⟨rfl, ep556⟩, hI560, hO557⟩
                            show sx_RP _ _ _ _ _ [.int 0] _ _
                            have hO561 := hO536.tr (HS.om hO557)
                            refine sx_RP.step (pc2 := 188) (ls2 := [(1, .int 6), (0, .ref 111)]) (st2 := []) (w3 := w559) rfl rfl ?_
                            refine sx_RP.step (pc2 := 189) (ls2 := [(1, .int 6), (0, .ref 111)]) (st2 := [.int 0]) (w3 := w559) rfl rfl ?_
                            refine sx_RP.ret (r := (some (.int 0))) rfl rfl ?_
                            have eg : gwT n X q = -1 := by simp only [gwT, c1, c27, c53, c79, c105, c131, c184, c237, c290, c343, c396, c449, c538, if_true, if_false, Bool.false_eq_true, ite_true, ite_false, true_or, or_true, or_false, false_or]
                            have ek : kwT n X q = -1 := by simp only [kwT, c1, c27, c53, c79, c105, c131, c184, c237, c290, c343, c396, c449, c538, if_true, if_false, Bool.false_eq_true, ite_true, ite_false, true_or, or_true, or_false, false_or]
                            have eR : itW n X q b = (false, q, b) := by unfold itW; rw [eg, if_pos rfl, ek, if_pos rfl, if_neg (by rw [c449]; decide), if_neg (by rw [c538]; decide)]
                            rw [eR]
                            exact ⟨⟨rfl, RdN.f ep556⟩, hI560, hO561⟩
end
-- 89y30.siege5.lean.txt
section
theorem disW_ge {n p : Nat} {X : Nat → Nat} {b : List Int32} {z : Nat} (h : z ≤ p) : z ≤ (disW n X p b).2.1 := by
  unfold disW
  repeat' split
  all_goals first | exact nP_ge (nP_ge h) | exact nP_ge h | exact h
theorem galX_ge {n k s p : Nat} {X : Nat → Nat} {b : List Int32} {z : Nat} (h : z ≤ p) : z ≤ (galX n X k s p b).2.1 := by
  unfold galX
  repeat' split
  all_goals first | exact wtT_ge (nP_ge (nP_ge h)) | exact wtT_ge (nP_ge (wtT_ge (nP_ge (nP_ge h)))) | exact nP_ge (wtT_ge (nP_ge (wtT_ge (nP_ge (nP_ge h)))))
theorem galW_ge {n k p : Nat} {X : Nat → Nat} {b : List Int32} {z : Nat} (h : z ≤ p) : z ≤ (galW n X k p b).2.1 := by
  unfold galW
  repeat' split
  all_goals first | exact galX_ge h | exact nP_ge h | exact h
theorem bw2_ge {n p : Nat} {X : Nat → Nat} {b : List Int32} {z : Nat} (h : z ≤ p) : z ≤ (bw2 n X p b).2.1 := by
  unfold bw2
  repeat' split
  all_goals first | exact h | exact nP_ge (wtT_ge h) | exact wtT_ge h
theorem bw1_ge {n p : Nat} {X : Nat → Nat} {b : List Int32} {z : Nat} (h : z ≤ p) : z ≤ (bw1 n X p b).2.1 := by
  unfold bw1
  repeat' split
  all_goals first | exact bw2_ge h | exact bw2_ge (nP_ge (wtT_ge h)) | exact wtT_ge h
theorem breW_ge {n p : Nat} {X : Nat → Nat} {b : List Int32} {z : Nat} (h : z ≤ p) : z ≤ (breW n X p b).2.1 := by
  unfold breW
  split
  · exact bw1_ge (nP_ge (nP_ge h))
  · exact nP_ge h
theorem grW_ge {n u l p : Nat} {X : Nat → Nat} {b : List Int32} {z : Nat} (h : z ≤ p) : z ≤ (grW n X u l p b).2.1 := by
  unfold grW
  repeat' split
  all_goals first | exact h | exact nP_ge (nP_ge h) | exact nP_ge h
theorem gwL_ge {n u : Nat} {X : Nat → Nat} {z : Nat} : ∀ f l p b, z ≤ p → z ≤ (gwL n X u f l p b).2.1
  | 0, l, p, b, h => grW_ge h
  | f + 1, l, p, b, h => by
    unfold gwL
    split
    · split
      · exact gwL_ge f _ _ _ (nP_ge h)
      · exact h
    · exact grW_ge h
theorem groW_ge {n u p : Nat} {X : Nat → Nat} {b : List Int32} {z : Nat} (h : z ≤ p) : z ≤ (groW n X u p b).2.1 := by
  unfold groW
  split
  · exact gwL_ge _ _ _ _ (nP_ge (nP_ge h))
  · exact nP_ge h
theorem itW_ge {n p : Nat} {X : Nat → Nat} {b : List Int32} {z : Nat} (h : z ≤ p) : z ≤ (itW n X p b).2.1 := by
  unfold itW
  by_cases c1 : gwT n X p = -1
  · rw [if_pos c1]
    by_cases c2 : kwT n X p = -1
    · rw [if_pos c2]
      by_cases c3 : wdT n X p 104 = true
      · rw [if_pos c3]
        exact disW_ge h
      · rw [if_neg c3]
        by_cases c4 : wdT n X p 101 = true
        · rw [if_pos c4]
          exact breW_ge h
        · rw [if_neg c4]
          exact h
    · rw [if_neg c2]
      exact galW_ge h
  · rw [if_neg c1]
    exact groW_ge h
theorem row_n {w : List sx_C} {b : List Int32} (hI : WI w) (hB : ia w 112 = b) : ∃ u m, u ≤ 10 ∧ m ≤ 9 ∧ b.getD 1 0 = nI u ∧ b.getD 2 0 = nI m := by
  obtain ⟨u, hu, e⟩ := (hI.sA (a := 112) (by decide) 1 (by decide)).1 rfl
  obtain ⟨m, hm, e2⟩ := (hI.sA (a := 112) (by decide) 2 (by decide)).2.1 rfl
  rw [hB] at e e2
  exact ⟨u, m, hu, hm, e, e2⟩
theorem uF {w0 w : List sx_C} {n p : Nat} {b : List Int32} (hO : OM w0 w) (hn : n ≤ 120) (hp : p ≤ n) : ∀ r w2, (r = some (Value.int (-1 - nI p)) ∧ ia w2 112 = ia w 115 ∧ fi w2 111 11 = 0) ∧ WI w2 ∧ OE w w2 → (r = some (.int (((-1 - nI p, b) : Int32 × List Int32)).1) ∧ ia w2 112 = (if 0 ≤ (((-1 - nI p, b) : Int32 × List Int32)).1 then (((-1 - nI p, b) : Int32 × List Int32)).2 else ia w0 115) ∧ fi w2 111 11 = 0) ∧ WI w2 ∧ OE w0 w2 := by
  rintro r w2 ⟨⟨h1, h2, h3⟩, h4, h5⟩
  refine ⟨⟨h1, ?_, h3⟩, h4, hO.oe.tr h5⟩
  rw [if_neg (neg_p (show p ≤ 120 by omega)), h2, ia_of (hO.1 115 (by decide) (by decide))]
theorem uG {w0 w : List sx_C} {it : Nat} {b : List Int32} (hO : OM w0 w) (hB : ia w 112 = b) (hi : it < 2 ^ 31) : ∀ r w2, (r = some (Value.int (nI it)) ∧ ia w2 112 = ia w 112 ∧ fi w2 111 11 = 0) ∧ WI w2 ∧ OE w w2 → (r = some (.int (((nI it, b) : Int32 × List Int32)).1) ∧ ia w2 112 = (if 0 ≤ (((nI it, b) : Int32 × List Int32)).1 then (((nI it, b) : Int32 × List Int32)).2 else ia w0 115) ∧ fi w2 111 11 = 0) ∧ WI w2 ∧ OE w0 w2 := by
  rintro r w2 ⟨⟨h1, h2, h3⟩, h4, h5⟩
  refine ⟨⟨h1, ?_, h3⟩, h4, hO.oe.tr h5⟩
  rw [if_pos (show (0 : Int32) ≤ nI it from nI_le (a := 0) (b := it) (Nat.zero_le _) (by omega)), h2, hB]
set_option maxRecDepth 20000 in
set_option maxHeartbeats 4000000 in
theorem U210L {xs : Option (List Int32)} {d n : Nat} {X : Nat → Nat} {w0 : List sx_C} : ∀ (fz it h q : Nat) (b : List Int32) (w : List sx_C), n + 1 ≤ fz + q → it + fz ≤ 121 → h ≤ n → rE blk n X h = q → WI w → MT n X w → fi w 111 12 = nI h → fi w 111 13 = -1 → ia w 112 = b → OM w0 w → sx_RP xs (d + 8) 210 25 [(0, .ref 111), (1, .int (nI it)), (2, .int 1)] [] w (fun r w2 => (r = some (.int (teW n X fz it q b).1) ∧ ia w2 112 = (if 0 ≤ (teW n X fz it q b).1 then (teW n X fz it q b).2 else ia w0 115) ∧ fi w2 111 11 = 0) ∧ WI w2 ∧ OE w0 w2)
  | 0, it, h, q, b, w, h0, hi, hp, hP, hI, hM, ep, ef, hB, hO => absurd (show q ≤ n by rw [← hP]; exact rE_le hp) (by omega)
  | fz + 1, it, h, q, b, w, h0, hi, hp, hP, hI, hM, ep, ef, hB, hO => by
    have hn := hM.2.1
    have hpl : q ≤ n := by rw [← hP]; exact rE_le hp
    refine sx_RP.step (pc2 := 26) (ls2 := [(0, .ref 111), (1, .int (nI it)), (2, .int 1)]) (st2 := [.int 1]) (w3 := w) rfl rfl ?_
    refine sx_RP.step (pc2 := 29) (ls2 := [(0, .ref 111), (1, .int (nI it)), (2, .int 1)]) (st2 := []) (w3 := w) rfl rfl ?_
    refine sx_RP.step (pc2 := 30) (ls2 := [(0, .ref 111), (1, .int (nI it)), (2, .int 1)]) (st2 := [.ref 111]) (w3 := w) rfl rfl ?_
    obtain ⟨u9, m9, hu9, hm9, eu9, em9⟩ := row_n hI hB
    refine sx_RP.callp (as2 := [.ref 111]) (rest2 := []) rfl rfl (sx_inv_v2 (mi := 210) (k := 333) (st := [.ref 111]) (w := w) rfl rfl hI.1.o111 rfl rfl rfl) rfl rfl rfl (U211 hI hM hp ep ef hP hB eu9 em9 hu9 hm9) (show _ = 33 from rfl) ?_
    rintro r4 w3 ⟨⟨rfl, hr1⟩, hI4, hO2⟩
    show sx_RP _ _ _ _ _ [.int (b01 (itW n X q b).1)] _ _
    have hM5 := hM.om hO2
    have hO6 := hO.tr hO2
    refine sx_RP.br (p1 := 83) (l1 := [(0, .ref 111), (1, .int (nI it)), (2, .int 1)]) (s1 := []) (v1 := w3) (p2 := 36) (l2 := [(0, .ref 111), (1, .int (nI it)), (2, .int 1)]) (s2 := []) (v2 := w3) rfl rfl (fun q7 => ?_) (fun q7 => ?_)
    · replace q7 := of_decide_eq_true q7
      have eR : teW n X (fz + 1) it q b = (-1 - nI (itW n X q b).2.1, b) := by unfold teW; rw [if_neg (by rw [b01_f q7]; decide)]
      rw [eR]
      refine sx_RP.ls (sx_lr.cons rfl (sx_lr.cons rfl (sx_lr.cons rfl sx_lr.nil))) ((y210a (p := (itW n X q b).2.1) hI4 hM5 (itW_le hpl) (hr1.2 (b01_f q7))).mono9 (uF hO6 (by omega) (itW_le hpl)))
    · replace q7 := of_decide_eq_false q7
      refine sx_RP.step (pc2 := 39) (ls2 := [(1, .int ((nI it) + 1)), (0, .ref 111), (2, .int 1)]) (st2 := []) (w3 := w3) rfl rfl ?_
      rw [nI_1 it]
      refine sx_RP.step (pc2 := 40) (ls2 := [(1, .int (nI (it + 1))), (0, .ref 111), (2, .int 1)]) (st2 := [.ref 111]) (w3 := w3) rfl rfl ?_
      obtain ⟨ef2, hB2, h2, hp2, ep2, hP2⟩ := hr1.1 (b01_t q7)
      refine sx_RP.callp (as2 := [.ref 111]) (rest2 := []) rfl rfl (sx_inv_v2 (mi := 210) (k := 224) (st := [.ref 111]) (w := w3) rfl rfl hI4.1.o111 rfl rfl rfl) rfl rfl rfl (y215 hI4 hM5 hp2 ep2) (show _ = 43 from rfl) ?_
      rintro r4 w11 ⟨⟨rfl, ep8⟩, hI12, hO9⟩
      show sx_RP _ _ _ _ _ [] _ _
      rw [hP2] at ep8
      have ef13 := (hO9.2 13 (by decide)).trans ef2
      have hq2 : (itW n X q b).2.1 ≤ n := itW_le hpl
      have hq3 : q ≤ (itW n X q b).2.1 := itW_ge (Nat.le_refl q)
      have hP3 : rE blk n X (itW n X q b).2.1 = (itW n X q b).2.1 := by rw [← hP2]; exact rE_rE
      have hM14 := hM5.hs hO9.hs
      have hO15 := hO6.tr (HS.om hO9.hs)
      have hB16 : ia w11 112 = (itW n X q b).2.2 := by rw [HS.row hO9.hs]; exact hB2
      refine sx_RP.step (pc2 := 44) (ls2 := [(1, .int (nI (it + 1))), (0, .ref 111), (2, .int 1)]) (st2 := [.ref 111]) (w3 := w11) rfl rfl ?_
      refine sx_RP.step (pc2 := 45) (ls2 := [(1, .int (nI (it + 1))), (0, .ref 111), (2, .int 1)]) (st2 := [.ref 111, .ref 111]) (w3 := w11) rfl rfl ?_
      refine sx_RP.gf (v := .int (fi w11 111 12)) rfl rfl hI12.1.o111 rfl rfl (show _ = 48 from rfl) ?_
      rw [ep8]
      refine sx_RP.cu (as := [.ref 111, .int (nI ((itW n X q b).2.1))]) (rest2 := []) (st3 := [.int (bA n X (itW n X q b).2.1)]) rfl rfl (sx_inv_v2 (mi := 210) (k := 215) (st := [.int (nI ((itW n X q b).2.1)), .ref 111]) (w := w11) rfl rfl hI12.1.o111 rfl rfl rfl) rfl rfl (y216 hI12 hM14 (by omega)) rfl ?_
      refine sx_RP.step (pc2 := 53) (ls2 := [(1, .int (nI (it + 1))), (0, .ref 111), (2, .int 1)]) (st2 := [.int 59, .int (bA n X (itW n X q b).2.1)]) (w3 := w11) rfl rfl ?_
      refine sx_RP.br (p1 := 60) (l1 := [(1, .int (nI (it + 1))), (0, .ref 111), (2, .int 1)]) (s1 := []) (v1 := w11) (p2 := 56) (l2 := [(1, .int (nI (it + 1))), (0, .ref 111), (2, .int 1)]) (s2 := []) (v2 := w11) rfl rfl (fun q17 => ?_) (fun q17 => ?_)
      · replace q17 := of_decide_eq_true q17
        refine sx_RP.step (pc2 := 61) (ls2 := [(1, .int (nI (it + 1))), (0, .ref 111), (2, .int 1)]) (st2 := [.int 0]) (w3 := w11) rfl rfl ?_
        refine sx_RP.step (pc2 := 62) (ls2 := [(2, .int 0), (1, .int (nI (it + 1))), (0, .ref 111)]) (st2 := []) (w3 := w11) rfl rfl ?_
        refine sx_RP.step (pc2 := 63) (ls2 := [(2, .int 0), (1, .int (nI (it + 1))), (0, .ref 111)]) (st2 := [.ref 111]) (w3 := w11) rfl rfl ?_
        refine sx_RP.step (pc2 := 64) (ls2 := [(2, .int 0), (1, .int (nI (it + 1))), (0, .ref 111)]) (st2 := [.ref 111, .ref 111]) (w3 := w11) rfl rfl ?_
        refine sx_RP.gf (v := .int (fi w11 111 12)) rfl rfl hI12.1.o111 rfl rfl (show _ = 67 from rfl) ?_
        rw [ep8]
        refine sx_RP.step (pc2 := 68) (ls2 := [(2, .int 0), (1, .int (nI (it + 1))), (0, .ref 111)]) (st2 := [.int 0, .int (nI ((itW n X q b).2.1)), .ref 111]) (w3 := w11) rfl rfl ?_
        refine sx_RP.step (pc2 := 75) (ls2 := [(2, .int 0), (1, .int (nI (it + 1))), (0, .ref 111)]) (st2 := [.int (nI ((itW n X q b).2.1)), .ref 111]) (w3 := w11) rfl rfl ?_
        refine sx_RP.step (pc2 := 76) (ls2 := [(2, .int 0), (1, .int (nI (it + 1))), (0, .ref 111)]) (st2 := [.int 0, .int (nI ((itW n X q b).2.1)), .ref 111]) (w3 := w11) rfl rfl ?_
        refine sx_RP.step (pc2 := 77) (ls2 := [(2, .int 0), (1, .int (nI (it + 1))), (0, .ref 111)]) (st2 := [.int ((nI ((itW n X q b).2.1)) + 0), .ref 111]) (w3 := w11) rfl rfl ?_
        rw [show ((nI ((itW n X q b).2.1)) + 0 : Int32) = nI (((itW n X q b).2.1) + 0) from nI_add ((itW n X q b).2.1) 0]
        have h59 : ¬ ((itW n X q b).2.1 < n ∧ X (itW n X q b).2.1 = 59) := fun z => q17 ((bA_59 (fun z => hM.x z)).mpr z)
        refine sx_RP.pm (k := 12) hI12 EM.rf rfl rfl (by decide) rfl (inR.n (show (((itW n X q b).2.1) + 0) ≤ 120 by omega)) (show _ = 80 from rfl) (fun w18 hI19 hE20 hv21 hr22 hs23 => ?_)
        have hh24 : H12 w11 w18 := ⟨hs23, hr22⟩
        have ef25 := (hr22 13 (by decide)).trans ef13
        have hM26 := hM14.hs hh24.hs
        have hO27 := hO15.tr (HS.om hh24.hs)
        have hB28 : ia w18 112 = (itW n X q b).2.2 := by rw [HS.row hh24.hs]; exact hB16
        refine sx_RP.step (pc2 := 25) (ls2 := [(2, .int 0), (1, .int (nI (it + 1))), (0, .ref 111)]) (st2 := []) (w3 := w18) rfl rfl ?_
        have hs3 := fun z => h59 ((so_3 (fun i hi => hM.x hi)).mp z)
        refine sx_RP.step (pc2 := 26) (ls2 := [(2, .int 0), (1, .int (nI (it + 1))), (0, .ref 111)]) (st2 := [.int 0]) (w3 := w18) rfl rfl ?_
        refine sx_RP.step (pc2 := 83) (ls2 := [(2, .int 0), (1, .int (nI (it + 1))), (0, .ref 111)]) (st2 := []) (w3 := w18) rfl rfl ?_
        by_cases hlt : (itW n X q b).2.1 < n
        · have eR : teW n X (fz + 1) it q b = (-1 - nI (itW n X q b).2.1, b) := by unfold teW; rw [if_pos (b01_t q7), if_neg (fun z => (so_0 (fun i hi => hM.x hi)).mp z hlt), if_neg hs3]
          rw [eR]
          refine sx_RP.ls (sx_lr.cons rfl (sx_lr.cons rfl (sx_lr.cons rfl sx_lr.nil))) ((y210b (p := (itW n X q b).2.1) hI19 hM26 hq2 ef25 hv21 hlt).mono9 (uF hO27 (by omega) hq2))
        · have eR : teW n X (fz + 1) it q b = (nI (it + 1), (itW n X q b).2.2) := by unfold teW; rw [if_pos (b01_t q7), if_pos ((so_0 (fun i hi => hM.x hi)).mpr hlt)]
          rw [eR]
          refine sx_RP.ls (sx_lr.cons rfl (sx_lr.cons rfl (sx_lr.cons rfl sx_lr.nil))) ((y210c (p := (itW n X q b).2.1) hI19 hM26 hq2 ef25 hv21 hlt).mono9 (uG hO27 hB28 (by omega)))
      · replace q17 := Decidable.not_not.mp (of_decide_eq_false q17)
        refine sx_RP.step (pc2 := 57) (ls2 := [(1, .int (nI (it + 1))), (0, .ref 111), (2, .int 1)]) (st2 := [.int 1]) (w3 := w11) rfl rfl ?_
        refine sx_RP.step (pc2 := 61) (ls2 := [(1, .int (nI (it + 1))), (0, .ref 111), (2, .int 1)]) (st2 := [.int 1]) (w3 := w11) rfl rfl ?_
        refine sx_RP.step (pc2 := 62) (ls2 := [(2, .int 1), (1, .int (nI (it + 1))), (0, .ref 111)]) (st2 := []) (w3 := w11) rfl rfl ?_
        refine sx_RP.step (pc2 := 63) (ls2 := [(2, .int 1), (1, .int (nI (it + 1))), (0, .ref 111)]) (st2 := [.ref 111]) (w3 := w11) rfl rfl ?_
        refine sx_RP.step (pc2 := 64) (ls2 := [(2, .int 1), (1, .int (nI (it + 1))), (0, .ref 111)]) (st2 := [.ref 111, .ref 111]) (w3 := w11) rfl rfl ?_
        refine sx_RP.gf (v := .int (fi w11 111 12)) rfl rfl hI12.1.o111 rfl rfl (show _ = 67 from rfl) ?_
        rw [ep8]
        refine sx_RP.step (pc2 := 68) (ls2 := [(2, .int 1), (1, .int (nI (it + 1))), (0, .ref 111)]) (st2 := [.int 1, .int (nI ((itW n X q b).2.1)), .ref 111]) (w3 := w11) rfl rfl ?_
        refine sx_RP.step (pc2 := 71) (ls2 := [(2, .int 1), (1, .int (nI (it + 1))), (0, .ref 111)]) (st2 := [.int (nI ((itW n X q b).2.1)), .ref 111]) (w3 := w11) rfl rfl ?_
        refine sx_RP.step (pc2 := 72) (ls2 := [(2, .int 1), (1, .int (nI (it + 1))), (0, .ref 111)]) (st2 := [.int 1, .int (nI ((itW n X q b).2.1)), .ref 111]) (w3 := w11) rfl rfl ?_
        refine sx_RP.step (pc2 := 76) (ls2 := [(2, .int 1), (1, .int (nI (it + 1))), (0, .ref 111)]) (st2 := [.int 1, .int (nI ((itW n X q b).2.1)), .ref 111]) (w3 := w11) rfl rfl ?_
        refine sx_RP.step (pc2 := 77) (ls2 := [(2, .int 1), (1, .int (nI (it + 1))), (0, .ref 111)]) (st2 := [.int ((nI ((itW n X q b).2.1)) + 1), .ref 111]) (w3 := w11) rfl rfl ?_
        rw [show ((nI ((itW n X q b).2.1)) + 1 : Int32) = nI (((itW n X q b).2.1) + 1) from nI_add ((itW n X q b).2.1) 1]
        have h59 := (bA_59 (fun z => hM.x z)).mp q17
        refine sx_RP.pm (k := 12) hI12 EM.rf rfl rfl (by decide) rfl (inR.n (show (((itW n X q b).2.1) + 1) ≤ 120 by omega)) (show _ = 80 from rfl) (fun w29 hI30 hE31 hv32 hr33 hs34 => ?_)
        have hh35 : H12 w11 w29 := ⟨hs34, hr33⟩
        have ef36 := (hr33 13 (by decide)).trans ef13
        have hM37 := hM14.hs hh35.hs
        have hO38 := hO15.tr (HS.om hh35.hs)
        have hB39 : ia w29 112 = (itW n X q b).2.2 := by rw [HS.row hh35.hs]; exact hB16
        refine sx_RP.step (pc2 := 25) (ls2 := [(2, .int 1), (1, .int (nI (it + 1))), (0, .ref 111)]) (st2 := []) (w3 := w29) rfl rfl ?_
        have hs3 := (so_3 (fun i hi => hM.x hi)).mpr h59
        have hbe : beT n X (itW n X q b).2.1 = (itW n X q b).2.1 + 1 := be_3 h59.1 ((sort_3 ⟨X (itW n X q b).2.1, hM.x h59.1⟩).mpr h59.2)
        have hnp : rE blk n X ((itW n X q b).2.1 + 1) = nP n X (itW n X q b).2.1 := by unfold nP; rw [hbe]
        have hng : (itW n X q b).2.1 + 1 ≤ nP n X (itW n X q b).2.1 := by rw [← hnp]; exact rE_ge
        have eR : teW n X (fz + 1) it q b = teW n X fz (it + 1) (nP n X (itW n X q b).2.1) (itW n X q b).2.2 := by conv => lhs; unfold teW; rw [if_pos (b01_t q7), if_neg (show ¬ soT n X (itW n X q b).2.1 = 0 by rw [hs3]; decide), if_pos hs3]
        rw [eR]
        exact sx_RP.ls (sx_lr.cons rfl (sx_lr.cons rfl (sx_lr.cons rfl sx_lr.nil))) (U210L fz (it + 1) ((itW n X q b).2.1 + 1) (nP n X (itW n X q b).2.1) (itW n X q b).2.2 w29 (by omega) (by omega) (by omega) hnp hI30 hM37 hv32 ef36 hB39 hO38)
set_option maxRecDepth 20000 in
set_option maxHeartbeats 4000000 in
theorem U210 {xs : Option (List Int32)} {d : Nat} {w : List sx_C} (hI : WI w) {n : Nat} {X : Nat → Nat} (hM : MT n X w) : sx_RP xs (d + 8) 210 0 (lv_args 0 [.ref 111]) [] w (fun r w2 => (r = some (.int (teW n X 121 0 (rE blk n X 0) (ia w 112)).1) ∧ ia w2 112 = (if 0 ≤ (teW n X 121 0 (rE blk n X 0) (ia w 112)).1 then (teW n X 121 0 (rE blk n X 0) (ia w 112)).2 else ia w 112) ∧ fi w2 111 11 = 0 ∧ ∀ j, j < 11 → fi w2 111 j = fi w 111 j) ∧ WI w2 ∧ ∀ a, a ≠ 111 → a ≠ 112 → a ≠ 115 → w2[a]? = w[a]?) := by
  have hn := hM.2.1
  refine sx_RP.step (pc2 := 1) (ls2 := [(0, .ref 111)]) (st2 := [.ref 111]) (w3 := w) rfl rfl ?_
  refine sx_RP.step (pc2 := 2) (ls2 := [(0, .ref 111)]) (st2 := [.int 0, .ref 111]) (w3 := w) rfl rfl ?_
  refine sx_RP.pm (k := 12) hI EM.rf rfl rfl (by decide) rfl ⟨0, by decide, rfl⟩ (show _ = 5 from rfl) (fun w1 hI2 hE3 hv4 hr5 hs6 => ?_)
  refine sx_RP.step (pc2 := 6) (ls2 := [(0, .ref 111)]) (st2 := [.ref 111]) (w3 := w1) rfl rfl ?_
  refine sx_RP.step (pc2 := 7) (ls2 := [(0, .ref 111)]) (st2 := [.int (-1), .ref 111]) (w3 := w1) rfl rfl ?_
  refine sx_RP.pm (k := 13) hI2 EM.rf rfl rfl (by decide) rfl trivial (show _ = 10 from rfl) (fun w7 hI8 hE9 hv10 hr11 hs12 => ?_)
  refine sx_RP.step (pc2 := 11) (ls2 := [(0, .ref 111)]) (st2 := [.ref 111]) (w3 := w7) rfl rfl ?_
  refine sx_RP.gf (v := .ref 112) rfl rfl hI8.1.o111 rfl rfl (show _ = 14 from rfl) ?_
  refine sx_RP.step (pc2 := 15) (ls2 := [(0, .ref 111)]) (st2 := [.ref 111, .ref 112]) (w3 := w7) rfl rfl ?_
  refine sx_RP.gf (v := .ref 115) rfl rfl hI8.1.o111 rfl rfl (show _ = 18 from rfl) ?_
  refine sx_RP.callp (as2 := [.ref 112, .ref 115]) (rest2 := []) rfl rfl rfl rfl rfl rfl (K175 hI8 (a := 112) (b := 115) (by decide) (by decide) (by decide)) (show _ = 21 from rfl) ?_
  rintro r4 w14 ⟨rfl, hI15, hl13⟩
  show sx_RP _ _ _ _ _ [] _ _
  have hc : ∀ a, a ≠ 111 → a ≠ 115 → w14[a]? = w[a]? := fun a h1 h2 => (hl13.1 a h2).trans ((hs12 a h1).trans (hs6 a h1))
  have hf : ∀ j, j < 12 → fi w14 111 j = fi w 111 j := fun j hj => (fi_same j (hl13.1 111 (by decide))).trans ((hr11 j (by omega)).trans (hr5 j (by omega)))
  have he : fi w14 111 12 = nI 0 := (fi_same 12 (hl13.1 111 (by decide))).trans ((hr11 12 (by decide)).trans hv4)
  have hg : fi w14 111 13 = -1 := (fi_same 13 (hl13.1 111 (by decide))).trans hv10
  have h5 : ia w14 115 = ia w 112 := by rw [hl13.2, ia_of (hs12 112 (by decide)), ia_of (hs6 112 (by decide))]
  have hM2 : MT n X w14 := ⟨(hf 11 (by decide)).trans hM.1, hM.2.1, fun i hi => by rw [ia_of (hc 121 (by decide) (by decide))]; exact hM.2.2 i hi⟩
  have hB2 : ia w14 112 = ia w 112 := by rw [ia_of (hc 112 (by decide) (by decide))]
  refine sx_RP.step (pc2 := 22) (ls2 := [(0, .ref 111)]) (st2 := [.int 0]) (w3 := w14) rfl rfl ?_
  refine sx_RP.step (pc2 := 23) (ls2 := [(1, .int 0), (0, .ref 111)]) (st2 := []) (w3 := w14) rfl rfl ?_
  refine sx_RP.step (pc2 := 24) (ls2 := [(1, .int 0), (0, .ref 111)]) (st2 := [.int 1]) (w3 := w14) rfl rfl ?_
  refine sx_RP.step (pc2 := 25) (ls2 := [(2, .int 1), (1, .int 0), (0, .ref 111)]) (st2 := []) (w3 := w14) rfl rfl ?_
  refine sx_RP.ls (sx_lr.cons rfl (sx_lr.cons rfl (sx_lr.cons rfl sx_lr.nil))) ((U210L 121 0 0 (rE blk n X 0) (ia w 112) w14 (by omega) (by omega) (Nat.zero_le _) rfl hI15 hM2 he hg hB2 OM.rf).mono9 ?_)
  rintro r w2 ⟨⟨h1, h2, h3⟩, h4, h6⟩
  rw [h5] at h2
  exact ⟨⟨h1, h2, h3, fun j hj => (h6.2 j hj).trans (hf j (by omega))⟩, h4, fun a z1 z2 z3 => (h6.1 a z1 z2).trans (hc a z1 z3)⟩
theorem Y210 {xs : Option (List Int32)} {d : Nat} {w : List sx_C} (hI : WI w) (hY : TBm (FMb w)) : sx_RP xs (d + 8) 210 0 (lv_args 0 [.ref 111]) [] w (fun r w2 => (r = some (.int ((sieV (tapM w) (ia w 112)).1)) ∧ ia w2 112 = sieR (tapM w) (ia w 112) ∧ tapM w2 = [] ∧ ∀ j, j < 11 → fi w2 111 j = fi w 111 j) ∧ WI w2 ∧ ∀ a, a ≠ 111 → a ≠ 112 → a ≠ 115 → w2[a]? = w[a]?) := by
  have hM : MT (tapM w).length (fun i => iN ((tapM w).getD i 0)) w := MT_of hI hY
  refine (U210 hI hM).mono9 ?_
  rintro r w2 ⟨⟨h1, h2, h3, h4⟩, h5, h6⟩
  refine ⟨⟨h1, h2, ?_, h4⟩, h5, h6⟩
  unfold tapM
  rw [h3]
  rfl
end
