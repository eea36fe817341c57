-- item of the reference
theorem row_dlen {w : List sx_C} {b : BB} {u : Nat} (hI : WI w) (hB : rowB (ia w 112) = b) (hu : b.2.1.length = u) (h : u ≤ 10) : (ia w 112).getD 2 0 = nI u := by
  obtain ⟨j, hj, e⟩ := (hI.sA (a := 112) (by decide) 2 (by decide)).2.1 rfl
  have z : (rowB (ia w 112)).2.1.length = j := by
    unfold rowB
    rw [mkB_len2, e, iN_n (by omega)]
  rw [e, ← hu, ← hB, z]
theorem b01_in (b : Bool) : inR (b01 b) 1 := by
  cases b
  · exact ⟨0, by decide, rfl⟩
  · exact ⟨1, by decide, rfl⟩
set_option maxRecDepth 20000 in
set_option maxHeartbeats 4000000 in
theorem y211 {xs : Option (List Int32)} {d : Nat} {w : List sx_C} (hI : WI w) {n h q : Nat} {X : Nat → Nat} {b : BB} (hM : MT n X w) (hp : h ≤ n) (ep : fi w 111 12 = nI h) (ef : fi w 111 13 = -1) (hP : rE blk n X h = q) (hB : rowB (ia w 112) = b) {u m : Nat} (hu : b.1.length = u) (hm : b.2.1.length = m) (hu10 : u ≤ 10) (hm9 : m ≤ 9) : sx_RP xs (d + 7) 211 0 (lv_args 0 [.ref 111]) [] w (fun r w2 => (r = some (.int (b01 (itT n X q b).1)) ∧ RdM n X (itT n X q b) w2) ∧ WI w2 ∧ OM w w2) := by
  have hn := hM.2.1
  have hpl : q ≤ n := by rw [← hP]; exact rE_le hp
  refine sx_RP.step (pc2 := 1) (ls2 := [(0, .ref 111)]) (st2 := [.int 0]) (w3 := w) rfl rfl ?_
  refine sx_RP.step (pc2 := 2) (ls2 := [(1, .int 0), (0, .ref 111)]) (st2 := []) (w3 := w) rfl rfl ?_
  refine sx_RP.step (pc2 := 3) (ls2 := [(1, .int 0), (0, .ref 111)]) (st2 := [.int 0]) (w3 := w) rfl rfl ?_
  refine sx_RP.step (pc2 := 4) (ls2 := [(1, .int 0), (0, .ref 111)]) (st2 := [.int 5, .int 0]) (w3 := w) rfl rfl ?_
  refine sx_RP.step (pc2 := 7) (ls2 := [(1, .int 0), (0, .ref 111)]) (st2 := []) (w3 := w) rfl rfl ?_
  refine sx_RP.step (pc2 := 8) (ls2 := [(1, .int 0), (0, .ref 111)]) (st2 := [.ref 111]) (w3 := w) rfl rfl ?_
  refine sx_RP.step (pc2 := 9) (ls2 := [(1, .int 0), (0, .ref 111)]) (st2 := [.int 0, .ref 111]) (w3 := w) rfl rfl ?_
  refine sx_RP.cu (as := [.int 0]) (rest2 := [.ref 111]) (st3 := [.float 102, .ref 111]) rfl rfl rfl rfl rfl (p212_0) rfl ?_
  rcases Bool.eq_false_or_eq_true (wdT n X q (102 : UInt32)) with c1 | c1
  · refine sx_RP.callp (as2 := [.ref 111, .float 102]) (rest2 := []) rfl rfl (sx_inv_v2 (mi := 211) (k := 243) (st := [.float 102, .ref 111]) (w := w) rfl rfl hI.1.o111 rfl rfl rfl) rfl rfl rfl (y213t (k := (102 : UInt32)) (m := 4) hI hM hp ep ef (by decide) rfl (by decide) (by decide) hP c1) (show _ = 15 from rfl) ?_
    rintro r4 w5 ⟨⟨rfl, ep2⟩, hI6, hO3⟩
    show sx_RP _ _ _ _ _ [.int 1] _ _
    have ef4 := (hO3.2 13 (by decide)).trans ef
    have hp7 : beT n X q ≤ n := beT_le hpl
    have hp8 : nP n X q ≤ n := rE_le hp7
    have hP9 : rE blk n X (beT n X q) = nP n X q := rfl
    have hM10 := hM.hs (hO3.hs)
    have hO11 := OM.rf.tr (HS.om (hO3.hs))
    have hB12 : rowB (ia w5 112) = b := by rw [HS.row (hO3.hs)]; exact hB
    refine sx_RP.step (pc2 := 18) (ls2 := [(1, .int 0), (0, .ref 111)]) (st2 := []) (w3 := w5) rfl rfl ?_
    refine sx_RP.step (pc2 := 19) (ls2 := [(1, .int 0), (0, .ref 111)]) (st2 := [.ref 111]) (w3 := w5) rfl rfl ?_
    refine sx_RP.step (pc2 := 20) (ls2 := [(1, .int 0), (0, .ref 111)]) (st2 := [.int 0, .ref 111]) (w3 := w5) rfl rfl ?_
    refine sx_RP.callp (as2 := [.ref 111, .int 0]) (rest2 := []) rfl rfl (sx_inv_v2 (mi := 211) (k := 318) (st := [.int 0, .ref 111]) (w := w5) rfl rfl hI6.1.o111 rfl rfl rfl) rfl rfl rfl (y219 (u := 0) hI6 hM10 hp7 ep2 ef4 hP9 hB12 (by decide)) (show _ = 23 from rfl) ?_
    rintro r4 w15 ⟨⟨rfl, hr13⟩, hI16, hO14⟩
    show sx_RP _ _ _ _ _ [.int (b01 (groS n X (nP n X q) b).1)] _ _
    have hO17 := hO11.tr hO14
    refine sx_RP.ret (r := (some (.int (b01 (groS n X (nP n X q) b).1)))) rfl (bo_ret rfl (b01_in _)) ?_
    have eg : gwT n X q = 0 := by simp only [gwT, c1, if_true, if_false, Bool.false_eq_true, ite_true, ite_false, true_or, or_true, or_false, false_or]
    have eR : itT n X q b = groS n X (nP n X q) b := by unfold itT; rw [eg, if_neg (by decide)]; rfl
    rw [eR]
    exact ⟨⟨rfl, hr13⟩, hI16, hO17⟩
  · refine sx_RP.callp (as2 := [.ref 111, .float 102]) (rest2 := []) rfl rfl (sx_inv_v2 (mi := 211) (k := 243) (st := [.float 102, .ref 111]) (w := w) rfl rfl hI.1.o111 rfl rfl rfl) rfl rfl rfl (y213f (k := (102 : UInt32)) (m := 4) hI hM hp ep ef (by decide) rfl (by decide) (by decide) hP c1) (show _ = 15 from rfl) ?_
    rintro r4 w21 ⟨⟨rfl, ep18⟩, hI22, hO19⟩
    show sx_RP _ _ _ _ _ [.int 0] _ _
    have ef20 := (hO19.2 13 (by decide)).trans ef
    have hP23 : rE blk n X q = q := by rw [← hP]; exact rE_rE
    have hM24 := hM.hs (hO19.hs)
    have hO25 := OM.rf.tr (HS.om (hO19.hs))
    have hB26 : rowB (ia w21 112) = b := by rw [HS.row (hO19.hs)]; exact hB
    refine sx_RP.step (pc2 := 24) (ls2 := [(1, .int 0), (0, .ref 111)]) (st2 := []) (w3 := w21) rfl rfl ?_
    refine sx_RP.step (pc2 := 27) (ls2 := [(1, .int 1), (0, .ref 111)]) (st2 := []) (w3 := w21) rfl rfl ?_
    refine sx_RP.step (pc2 := 2) (ls2 := [(1, .int 1), (0, .ref 111)]) (st2 := []) (w3 := w21) rfl rfl ?_
    refine sx_RP.step (pc2 := 3) (ls2 := [(1, .int 1), (0, .ref 111)]) (st2 := [.int 1]) (w3 := w21) rfl rfl ?_
    refine sx_RP.step (pc2 := 4) (ls2 := [(1, .int 1), (0, .ref 111)]) (st2 := [.int 5, .int 1]) (w3 := w21) rfl rfl ?_
    refine sx_RP.step (pc2 := 7) (ls2 := [(1, .int 1), (0, .ref 111)]) (st2 := []) (w3 := w21) rfl rfl ?_
    refine sx_RP.step (pc2 := 8) (ls2 := [(1, .int 1), (0, .ref 111)]) (st2 := [.ref 111]) (w3 := w21) rfl rfl ?_
    refine sx_RP.step (pc2 := 9) (ls2 := [(1, .int 1), (0, .ref 111)]) (st2 := [.int 1, .ref 111]) (w3 := w21) rfl rfl ?_
    refine sx_RP.cu (as := [.int 1]) (rest2 := [.ref 111]) (st3 := [.float 113, .ref 111]) rfl rfl rfl rfl rfl (p212_1) rfl ?_
    rcases Bool.eq_false_or_eq_true (wdT n X q (113 : UInt32)) with c27 | c27
    · refine sx_RP.callp (as2 := [.ref 111, .float 113]) (rest2 := []) rfl rfl (sx_inv_v2 (mi := 211) (k := 243) (st := [.float 113, .ref 111]) (w := w21) rfl rfl hI22.1.o111 rfl rfl rfl) rfl rfl rfl (y213t (k := (113 : UInt32)) (m := 4) hI22 hM24 hpl ep18 ef20 (by decide) rfl (by decide) (by decide) hP23 c27) (show _ = 15 from rfl) ?_
      rintro r4 w31 ⟨⟨rfl, ep28⟩, hI32, hO29⟩
      show sx_RP _ _ _ _ _ [.int 1] _ _
      have ef30 := (hO29.2 13 (by decide)).trans ef20
      have hp33 : beT n X q ≤ n := beT_le hpl
      have hp34 : nP n X q ≤ n := rE_le hp33
      have hP35 : rE blk n X (beT n X q) = nP n X q := rfl
      have hM36 := hM24.hs (hO29.hs)
      have hO37 := hO25.tr (HS.om (hO29.hs))
      have hB38 : rowB (ia w31 112) = b := by rw [HS.row (hO29.hs)]; exact hB26
      refine sx_RP.step (pc2 := 18) (ls2 := [(1, .int 1), (0, .ref 111)]) (st2 := []) (w3 := w31) rfl rfl ?_
      refine sx_RP.step (pc2 := 19) (ls2 := [(1, .int 1), (0, .ref 111)]) (st2 := [.ref 111]) (w3 := w31) rfl rfl ?_
      refine sx_RP.step (pc2 := 20) (ls2 := [(1, .int 1), (0, .ref 111)]) (st2 := [.int 1, .ref 111]) (w3 := w31) rfl rfl ?_
      refine sx_RP.callp (as2 := [.ref 111, .int 1]) (rest2 := []) rfl rfl (sx_inv_v2 (mi := 211) (k := 318) (st := [.int 1, .ref 111]) (w := w31) rfl rfl hI32.1.o111 rfl rfl rfl) rfl rfl rfl (y219 (u := 1) hI32 hM36 hp33 ep28 ef30 hP35 hB38 (by decide)) (show _ = 23 from rfl) ?_
      rintro r4 w41 ⟨⟨rfl, hr39⟩, hI42, hO40⟩
      show sx_RP _ _ _ _ _ [.int (b01 (groS n X (nP n X q) b).1)] _ _
      have hO43 := hO37.tr hO40
      refine sx_RP.ret (r := (some (.int (b01 (groS n X (nP n X q) b).1)))) rfl (bo_ret rfl (b01_in _)) ?_
      have eg : gwT n X q = 1 := by simp only [gwT, c1, c27, if_true, if_false, Bool.false_eq_true, ite_true, ite_false, true_or, or_true, or_false, false_or]
      have eR : itT n X q b = groS n X (nP n X q) b := by unfold itT; rw [eg, if_neg (by decide)]; rfl
      rw [eR]
      exact ⟨⟨rfl, hr39⟩, hI42, hO43⟩
    · refine sx_RP.callp (as2 := [.ref 111, .float 113]) (rest2 := []) rfl rfl (sx_inv_v2 (mi := 211) (k := 243) (st := [.float 113, .ref 111]) (w := w21) rfl rfl hI22.1.o111 rfl rfl rfl) rfl rfl rfl (y213f (k := (113 : UInt32)) (m := 4) hI22 hM24 hpl ep18 ef20 (by decide) rfl (by decide) (by decide) hP23 c27) (show _ = 15 from rfl) ?_
      rintro r4 w47 ⟨⟨rfl, ep44⟩, hI48, hO45⟩
      show sx_RP _ _ _ _ _ [.int 0] _ _
      have ef46 := (hO45.2 13 (by decide)).trans ef20
      have hP49 : rE blk n X q = q := by rw [← hP23]; exact rE_rE
      have hM50 := hM24.hs (hO45.hs)
      have hO51 := hO25.tr (HS.om (hO45.hs))
      have hB52 : rowB (ia w47 112) = b := by rw [HS.row (hO45.hs)]; exact hB26
      refine sx_RP.step (pc2 := 24) (ls2 := [(1, .int 1), (0, .ref 111)]) (st2 := []) (w3 := w47) rfl rfl ?_
      refine sx_RP.step (pc2 := 27) (ls2 := [(1, .int 2), (0, .ref 111)]) (st2 := []) (w3 := w47) rfl rfl ?_
      refine sx_RP.step (pc2 := 2) (ls2 := [(1, .int 2), (0, .ref 111)]) (st2 := []) (w3 := w47) rfl rfl ?_
      refine sx_RP.step (pc2 := 3) (ls2 := [(1, .int 2), (0, .ref 111)]) (st2 := [.int 2]) (w3 := w47) rfl rfl ?_
      refine sx_RP.step (pc2 := 4) (ls2 := [(1, .int 2), (0, .ref 111)]) (st2 := [.int 5, .int 2]) (w3 := w47) rfl rfl ?_
      refine sx_RP.step (pc2 := 7) (ls2 := [(1, .int 2), (0, .ref 111)]) (st2 := []) (w3 := w47) rfl rfl ?_
      refine sx_RP.step (pc2 := 8) (ls2 := [(1, .int 2), (0, .ref 111)]) (st2 := [.ref 111]) (w3 := w47) rfl rfl ?_
      refine sx_RP.step (pc2 := 9) (ls2 := [(1, .int 2), (0, .ref 111)]) (st2 := [.int 2, .ref 111]) (w3 := w47) rfl rfl ?_
      refine sx_RP.cu (as := [.int 2]) (rest2 := [.ref 111]) (st3 := [.float 112, .ref 111]) rfl rfl rfl rfl rfl (p212_2) rfl ?_
      rcases Bool.eq_false_or_eq_true (wdT n X q (112 : UInt32)) with c53 | c53
      · refine sx_RP.callp (as2 := [.ref 111, .float 112]) (rest2 := []) rfl rfl (sx_inv_v2 (mi := 211) (k := 243) (st := [.float 112, .ref 111]) (w := w47) rfl rfl hI48.1.o111 rfl rfl rfl) rfl rfl rfl (y213t (k := (112 : UInt32)) (m := 4) hI48 hM50 hpl ep44 ef46 (by decide) rfl (by decide) (by decide) hP49 c53) (show _ = 15 from rfl) ?_
        rintro r4 w57 ⟨⟨rfl, ep54⟩, hI58, hO55⟩
        show sx_RP _ _ _ _ _ [.int 1] _ _
        have ef56 := (hO55.2 13 (by decide)).trans ef46
        have hp59 : beT n X q ≤ n := beT_le hpl
        have hp60 : nP n X q ≤ n := rE_le hp59
        have hP61 : rE blk n X (beT n X q) = nP n X q := rfl
        have hM62 := hM50.hs (hO55.hs)
        have hO63 := hO51.tr (HS.om (hO55.hs))
        have hB64 : rowB (ia w57 112) = b := by rw [HS.row (hO55.hs)]; exact hB52
        refine sx_RP.step (pc2 := 18) (ls2 := [(1, .int 2), (0, .ref 111)]) (st2 := []) (w3 := w57) rfl rfl ?_
        refine sx_RP.step (pc2 := 19) (ls2 := [(1, .int 2), (0, .ref 111)]) (st2 := [.ref 111]) (w3 := w57) rfl rfl ?_
        refine sx_RP.step (pc2 := 20) (ls2 := [(1, .int 2), (0, .ref 111)]) (st2 := [.int 2, .ref 111]) (w3 := w57) rfl rfl ?_
        refine sx_RP.callp (as2 := [.ref 111, .int 2]) (rest2 := []) rfl rfl (sx_inv_v2 (mi := 211) (k := 318) (st := [.int 2, .ref 111]) (w := w57) rfl rfl hI58.1.o111 rfl rfl rfl) rfl rfl rfl (y219 (u := 2) hI58 hM62 hp59 ep54 ef56 hP61 hB64 (by decide)) (show _ = 23 from rfl) ?_
        rintro r4 w67 ⟨⟨rfl, hr65⟩, hI68, hO66⟩
        show sx_RP _ _ _ _ _ [.int (b01 (groS n X (nP n X q) b).1)] _ _
        have hO69 := hO63.tr hO66
        refine sx_RP.ret (r := (some (.int (b01 (groS n X (nP n X q) b).1)))) rfl (bo_ret rfl (b01_in _)) ?_
        have eg : gwT n X q = 2 := by simp only [gwT, c1, c27, c53, if_true, if_false, Bool.false_eq_true, ite_true, ite_false, true_or, or_true, or_false, false_or]
        have eR : itT n X q b = groS n X (nP n X q) b := by unfold itT; rw [eg, if_neg (by decide)]; rfl
        rw [eR]
        exact ⟨⟨rfl, hr65⟩, hI68, hO69⟩
      · refine sx_RP.callp (as2 := [.ref 111, .float 112]) (rest2 := []) rfl rfl (sx_inv_v2 (mi := 211) (k := 243) (st := [.float 112, .ref 111]) (w := w47) rfl rfl hI48.1.o111 rfl rfl rfl) rfl rfl rfl (y213f (k := (112 : UInt32)) (m := 4) hI48 hM50 hpl ep44 ef46 (by decide) rfl (by decide) (by decide) hP49 c53) (show _ = 15 from rfl) ?_
        rintro r4 w73 ⟨⟨rfl, ep70⟩, hI74, hO71⟩
        show sx_RP _ _ _ _ _ [.int 0] _ _
        have ef72 := (hO71.2 13 (by decide)).trans ef46
        have hP75 : rE blk n X q = q := by rw [← hP49]; exact rE_rE
        have hM76 := hM50.hs (hO71.hs)
        have hO77 := hO51.tr (HS.om (hO71.hs))
        have hB78 : rowB (ia w73 112) = b := by rw [HS.row (hO71.hs)]; exact hB52
        refine sx_RP.step (pc2 := 24) (ls2 := [(1, .int 2), (0, .ref 111)]) (st2 := []) (w3 := w73) rfl rfl ?_
        refine sx_RP.step (pc2 := 27) (ls2 := [(1, .int 3), (0, .ref 111)]) (st2 := []) (w3 := w73) rfl rfl ?_
        refine sx_RP.step (pc2 := 2) (ls2 := [(1, .int 3), (0, .ref 111)]) (st2 := []) (w3 := w73) rfl rfl ?_
        refine sx_RP.step (pc2 := 3) (ls2 := [(1, .int 3), (0, .ref 111)]) (st2 := [.int 3]) (w3 := w73) rfl rfl ?_
        refine sx_RP.step (pc2 := 4) (ls2 := [(1, .int 3), (0, .ref 111)]) (st2 := [.int 5, .int 3]) (w3 := w73) rfl rfl ?_
        refine sx_RP.step (pc2 := 7) (ls2 := [(1, .int 3), (0, .ref 111)]) (st2 := []) (w3 := w73) rfl rfl ?_
        refine sx_RP.step (pc2 := 8) (ls2 := [(1, .int 3), (0, .ref 111)]) (st2 := [.ref 111]) (w3 := w73) rfl rfl ?_
        refine sx_RP.step (pc2 := 9) (ls2 := [(1, .int 3), (0, .ref 111)]) (st2 := [.int 3, .ref 111]) (w3 := w73) rfl rfl ?_
        refine sx_RP.cu (as := [.int 3]) (rest2 := [.ref 111]) (st3 := [.float 118, .ref 111]) rfl rfl rfl rfl rfl (p212_3) rfl ?_
        rcases Bool.eq_false_or_eq_true (wdT n X q (118 : UInt32)) with c79 | c79
        · refine sx_RP.callp (as2 := [.ref 111, .float 118]) (rest2 := []) rfl rfl (sx_inv_v2 (mi := 211) (k := 243) (st := [.float 118, .ref 111]) (w := w73) rfl rfl hI74.1.o111 rfl rfl rfl) rfl rfl rfl (y213t (k := (118 : UInt32)) (m := 5) hI74 hM76 hpl ep70 ef72 (by decide) rfl (by decide) (by decide) hP75 c79) (show _ = 15 from rfl) ?_
          rintro r4 w83 ⟨⟨rfl, ep80⟩, hI84, hO81⟩
          show sx_RP _ _ _ _ _ [.int 1] _ _
          have ef82 := (hO81.2 13 (by decide)).trans ef72
          have hp85 : beT n X q ≤ n := beT_le hpl
          have hp86 : nP n X q ≤ n := rE_le hp85
          have hP87 : rE blk n X (beT n X q) = nP n X q := rfl
          have hM88 := hM76.hs (hO81.hs)
          have hO89 := hO77.tr (HS.om (hO81.hs))
          have hB90 : rowB (ia w83 112) = b := by rw [HS.row (hO81.hs)]; exact hB78
          refine sx_RP.step (pc2 := 18) (ls2 := [(1, .int 3), (0, .ref 111)]) (st2 := []) (w3 := w83) rfl rfl ?_
          refine sx_RP.step (pc2 := 19) (ls2 := [(1, .int 3), (0, .ref 111)]) (st2 := [.ref 111]) (w3 := w83) rfl rfl ?_
          refine sx_RP.step (pc2 := 20) (ls2 := [(1, .int 3), (0, .ref 111)]) (st2 := [.int 3, .ref 111]) (w3 := w83) rfl rfl ?_
          refine sx_RP.callp (as2 := [.ref 111, .int 3]) (rest2 := []) rfl rfl (sx_inv_v2 (mi := 211) (k := 318) (st := [.int 3, .ref 111]) (w := w83) rfl rfl hI84.1.o111 rfl rfl rfl) rfl rfl rfl (y219 (u := 3) hI84 hM88 hp85 ep80 ef82 hP87 hB90 (by decide)) (show _ = 23 from rfl) ?_
          rintro r4 w93 ⟨⟨rfl, hr91⟩, hI94, hO92⟩
          show sx_RP _ _ _ _ _ [.int (b01 (groS n X (nP n X q) b).1)] _ _
          have hO95 := hO89.tr hO92
          refine sx_RP.ret (r := (some (.int (b01 (groS n X (nP n X q) b).1)))) rfl (bo_ret rfl (b01_in _)) ?_
          have eg : gwT n X q = 3 := by simp only [gwT, c1, c27, c53, c79, if_true, if_false, Bool.false_eq_true, ite_true, ite_false, true_or, or_true, or_false, false_or]
          have eR : itT n X q b = groS n X (nP n X q) b := by unfold itT; rw [eg, if_neg (by decide)]; rfl
          rw [eR]
          exact ⟨⟨rfl, hr91⟩, hI94, hO95⟩
        · refine sx_RP.callp (as2 := [.ref 111, .float 118]) (rest2 := []) rfl rfl (sx_inv_v2 (mi := 211) (k := 243) (st := [.float 118, .ref 111]) (w := w73) rfl rfl hI74.1.o111 rfl rfl rfl) rfl rfl rfl (y213f (k := (118 : UInt32)) (m := 5) hI74 hM76 hpl ep70 ef72 (by decide) rfl (by decide) (by decide) hP75 c79) (show _ = 15 from rfl) ?_
          rintro r4 w99 ⟨⟨rfl, ep96⟩, hI100, hO97⟩
          show sx_RP _ _ _ _ _ [.int 0] _ _
          have ef98 := (hO97.2 13 (by decide)).trans ef72
          have hP101 : rE blk n X q = q := by rw [← hP75]; exact rE_rE
          have hM102 := hM76.hs (hO97.hs)
          have hO103 := hO77.tr (HS.om (hO97.hs))
          have hB104 : rowB (ia w99 112) = b := by rw [HS.row (hO97.hs)]; exact hB78
          refine sx_RP.step (pc2 := 24) (ls2 := [(1, .int 3), (0, .ref 111)]) (st2 := []) (w3 := w99) rfl rfl ?_
          refine sx_RP.step (pc2 := 27) (ls2 := [(1, .int 4), (0, .ref 111)]) (st2 := []) (w3 := w99) rfl rfl ?_
          refine sx_RP.step (pc2 := 2) (ls2 := [(1, .int 4), (0, .ref 111)]) (st2 := []) (w3 := w99) rfl rfl ?_
          refine sx_RP.step (pc2 := 3) (ls2 := [(1, .int 4), (0, .ref 111)]) (st2 := [.int 4]) (w3 := w99) rfl rfl ?_
          refine sx_RP.step (pc2 := 4) (ls2 := [(1, .int 4), (0, .ref 111)]) (st2 := [.int 5, .int 4]) (w3 := w99) rfl rfl ?_
          refine sx_RP.step (pc2 := 7) (ls2 := [(1, .int 4), (0, .ref 111)]) (st2 := []) (w3 := w99) rfl rfl ?_
          refine sx_RP.step (pc2 := 8) (ls2 := [(1, .int 4), (0, .ref 111)]) (st2 := [.ref 111]) (w3 := w99) rfl rfl ?_
          refine sx_RP.step (pc2 := 9) (ls2 := [(1, .int 4), (0, .ref 111)]) (st2 := [.int 4, .ref 111]) (w3 := w99) rfl rfl ?_
          refine sx_RP.cu (as := [.int 4]) (rest2 := [.ref 111]) (st3 := [.float 117, .ref 111]) rfl rfl rfl rfl rfl (p212_4) rfl ?_
          rcases Bool.eq_false_or_eq_true (wdT n X q (117 : UInt32)) with c105 | c105
          · refine sx_RP.callp (as2 := [.ref 111, .float 117]) (rest2 := []) rfl rfl (sx_inv_v2 (mi := 211) (k := 243) (st := [.float 117, .ref 111]) (w := w99) rfl rfl hI100.1.o111 rfl rfl rfl) rfl rfl rfl (y213t (k := (117 : UInt32)) (m := 4) hI100 hM102 hpl ep96 ef98 (by decide) rfl (by decide) (by decide) hP101 c105) (show _ = 15 from rfl) ?_
            rintro r4 w109 ⟨⟨rfl, ep106⟩, hI110, hO107⟩
            show sx_RP _ _ _ _ _ [.int 1] _ _
            have ef108 := (hO107.2 13 (by decide)).trans ef98
            have hp111 : beT n X q ≤ n := beT_le hpl
            have hp112 : nP n X q ≤ n := rE_le hp111
            have hP113 : rE blk n X (beT n X q) = nP n X q := rfl
            have hM114 := hM102.hs (hO107.hs)
            have hO115 := hO103.tr (HS.om (hO107.hs))
            have hB116 : rowB (ia w109 112) = b := by rw [HS.row (hO107.hs)]; exact hB104
            refine sx_RP.step (pc2 := 18) (ls2 := [(1, .int 4), (0, .ref 111)]) (st2 := []) (w3 := w109) rfl rfl ?_
            refine sx_RP.step (pc2 := 19) (ls2 := [(1, .int 4), (0, .ref 111)]) (st2 := [.ref 111]) (w3 := w109) rfl rfl ?_
            refine sx_RP.step (pc2 := 20) (ls2 := [(1, .int 4), (0, .ref 111)]) (st2 := [.int 4, .ref 111]) (w3 := w109) rfl rfl ?_
            refine sx_RP.callp (as2 := [.ref 111, .int 4]) (rest2 := []) rfl rfl (sx_inv_v2 (mi := 211) (k := 318) (st := [.int 4, .ref 111]) (w := w109) rfl rfl hI110.1.o111 rfl rfl rfl) rfl rfl rfl (y219 (u := 4) hI110 hM114 hp111 ep106 ef108 hP113 hB116 (by decide)) (show _ = 23 from rfl) ?_
            rintro r4 w119 ⟨⟨rfl, hr117⟩, hI120, hO118⟩
            show sx_RP _ _ _ _ _ [.int (b01 (groS n X (nP n X q) b).1)] _ _
            have hO121 := hO115.tr hO118
            refine sx_RP.ret (r := (some (.int (b01 (groS n X (nP n X q) b).1)))) rfl (bo_ret rfl (b01_in _)) ?_
            have eg : gwT n X q = 4 := by simp only [gwT, c1, c27, c53, c79, c105, if_true, if_false, Bool.false_eq_true, ite_true, ite_false, true_or, or_true, or_false, false_or]
            have eR : itT n X q b = groS n X (nP n X q) b := by unfold itT; rw [eg, if_neg (by decide)]; rfl
            rw [eR]
            exact ⟨⟨rfl, hr117⟩, hI120, hO121⟩
          · refine sx_RP.callp (as2 := [.ref 111, .float 117]) (rest2 := []) rfl rfl (sx_inv_v2 (mi := 211) (k := 243) (st := [.float 117, .ref 111]) (w := w99) rfl rfl hI100.1.o111 rfl rfl rfl) rfl rfl rfl (y213f (k := (117 : UInt32)) (m := 4) hI100 hM102 hpl ep96 ef98 (by decide) rfl (by decide) (by decide) hP101 c105) (show _ = 15 from rfl) ?_
            rintro r4 w125 ⟨⟨rfl, ep122⟩, hI126, hO123⟩
            show sx_RP _ _ _ _ _ [.int 0] _ _
            have ef124 := (hO123.2 13 (by decide)).trans ef98
            have hP127 : rE blk n X q = q := by rw [← hP101]; exact rE_rE
            have hM128 := hM102.hs (hO123.hs)
            have hO129 := hO103.tr (HS.om (hO123.hs))
            have hB130 : rowB (ia w125 112) = b := by rw [HS.row (hO123.hs)]; exact hB104
            refine sx_RP.step (pc2 := 24) (ls2 := [(1, .int 4), (0, .ref 111)]) (st2 := []) (w3 := w125) rfl rfl ?_
            refine sx_RP.step (pc2 := 27) (ls2 := [(1, .int 5), (0, .ref 111)]) (st2 := []) (w3 := w125) rfl rfl ?_
            refine sx_RP.step (pc2 := 2) (ls2 := [(1, .int 5), (0, .ref 111)]) (st2 := []) (w3 := w125) rfl rfl ?_
            refine sx_RP.step (pc2 := 3) (ls2 := [(1, .int 5), (0, .ref 111)]) (st2 := [.int 5]) (w3 := w125) rfl rfl ?_
            refine sx_RP.step (pc2 := 4) (ls2 := [(1, .int 5), (0, .ref 111)]) (st2 := [.int 5, .int 5]) (w3 := w125) rfl rfl ?_
            refine sx_RP.step (pc2 := 30) (ls2 := [(1, .int 5), (0, .ref 111)]) (st2 := []) (w3 := w125) rfl rfl ?_
            refine sx_RP.step (pc2 := 31) (ls2 := [(1, .int 5), (0, .ref 111)]) (st2 := [.int 0]) (w3 := w125) rfl rfl ?_
            refine sx_RP.step (pc2 := 32) (ls2 := [(1, .int 0), (0, .ref 111)]) (st2 := []) (w3 := w125) rfl rfl ?_
            refine sx_RP.step (pc2 := 33) (ls2 := [(1, .int 0), (0, .ref 111)]) (st2 := [.int 0]) (w3 := w125) rfl rfl ?_
            refine sx_RP.step (pc2 := 35) (ls2 := [(1, .int 0), (0, .ref 111)]) (st2 := [.int 6, .int 0]) (w3 := w125) rfl rfl ?_
            refine sx_RP.step (pc2 := 38) (ls2 := [(1, .int 0), (0, .ref 111)]) (st2 := []) (w3 := w125) rfl rfl ?_
            refine sx_RP.step (pc2 := 39) (ls2 := [(1, .int 0), (0, .ref 111)]) (st2 := [.ref 111]) (w3 := w125) rfl rfl ?_
            refine sx_RP.step (pc2 := 40) (ls2 := [(1, .int 0), (0, .ref 111)]) (st2 := [.int 0, .ref 111]) (w3 := w125) rfl rfl ?_
            refine sx_RP.cu (as := [.int 0]) (rest2 := [.ref 111]) (st3 := [.float 106, .ref 111]) rfl rfl rfl rfl rfl (p226_0) rfl ?_
            rcases Bool.eq_false_or_eq_true (wdT n X q (106 : UInt32)) with c131 | c131
            · refine sx_RP.callp (as2 := [.ref 111, .float 106]) (rest2 := []) rfl rfl (sx_inv_v2 (mi := 211) (k := 239) (st := [.float 106, .ref 111]) (w := w125) rfl rfl hI126.1.o111 rfl rfl rfl) rfl rfl rfl (y214t (k := (106 : UInt32)) (m := 7) hI126 hM128 hpl ep122 (by decide) rfl (by decide) (by decide) hP127 c131) (show _ = 46 from rfl) ?_
              rintro r4 w135 ⟨⟨rfl, ep132⟩, hI136, hO133⟩
              show sx_RP _ _ _ _ _ [.int 1] _ _
              have ef134 := (hO133.2 13 (by decide)).trans ef124
              have hP137 : rE blk n X q = q := by rw [← hP127]; exact rE_rE
              have hM138 := hM128.hs (hO133.hs)
              have hO139 := hO129.tr (HS.om (hO133.hs))
              have hB140 : rowB (ia w135 112) = b := by rw [HS.row (hO133.hs)]; exact hB130
              refine sx_RP.step (pc2 := 49) (ls2 := [(1, .int 0), (0, .ref 111)]) (st2 := []) (w3 := w135) rfl rfl ?_
              refine sx_RP.step (pc2 := 50) (ls2 := [(1, .int 0), (0, .ref 111)]) (st2 := [.ref 111]) (w3 := w135) rfl rfl ?_
              refine sx_RP.gf (v := .ref 112) rfl rfl hI136.1.o111 rfl rfl (show _ = 53 from rfl) ?_
              refine sx_RP.step (pc2 := 54) (ls2 := [(1, .int 0), (0, .ref 111)]) (st2 := [.int 1, .ref 112]) (w3 := w135) rfl rfl ?_
              have ex141 : (ia w135 112).getD 1 0 = nI u := row_len hI136 hB140 hu (by omega)
              refine sx_RP.ild (c := 1) rfl hI136.1.a112.1 hI136.1.a112.2 (sx_in_nI (show 1 < 172 by omega) (by decide)) (nI_clamp (by decide)) (show _ = 55 from rfl) ?_
              rw [ex141]
              refine sx_RP.step (pc2 := 57) (ls2 := [(1, .int 0), (0, .ref 111)]) (st2 := [.int 10, .int (nI u)]) (w3 := w135) rfl rfl ?_
              refine sx_RP.br (p1 := 65) (l1 := [(1, .int 0), (0, .ref 111)]) (s1 := []) (v1 := w135) (p2 := 60) (l2 := [(1, .int 0), (0, .ref 111)]) (s2 := []) (v2 := w135) rfl rfl (fun q142 => ?_) (fun q142 => ?_)
              · replace q142 := of_decide_eq_true q142
                replace q142 := mt (nI_eq (a := u) (b := 10) (by omega) (by omega)).mpr q142
                refine sx_RP.step (pc2 := 66) (ls2 := [(1, .int 0), (0, .ref 111)]) (st2 := [.ref 111]) (w3 := w135) rfl rfl ?_
                refine sx_RP.step (pc2 := 67) (ls2 := [(1, .int 0), (0, .ref 111)]) (st2 := [.int 0, .ref 111]) (w3 := w135) rfl rfl ?_
                refine sx_RP.cu (as := [.int 0]) (rest2 := [.ref 111]) (st3 := [.float 106, .ref 111]) rfl rfl rfl rfl rfl (p226_0) rfl ?_
                refine sx_RP.callp (as2 := [.ref 111, .float 106]) (rest2 := []) rfl rfl (sx_inv_v2 (mi := 211) (k := 243) (st := [.float 106, .ref 111]) (w := w135) rfl rfl hI136.1.o111 rfl rfl rfl) rfl rfl rfl (y213t (k := (106 : UInt32)) (m := 7) hI136 hM138 hpl ep132 ef134 (by decide) rfl (by decide) (by decide) hP137 c131) (show _ = 73 from rfl) ?_
                rintro r4 w147 ⟨⟨rfl, ep144⟩, hI148, hO145⟩
                show sx_RP _ _ _ _ _ [.int 1] _ _
                have ef146 := (hO145.2 13 (by decide)).trans ef134
                have hp149 : beT n X q ≤ n := beT_le hpl
                have hp150 : nP n X q ≤ n := rE_le hp149
                have hP151 : rE blk n X (beT n X q) = nP n X q := rfl
                have hM152 := hM138.hs (hO145.hs)
                have hO153 := hO139.tr (HS.om (hO145.hs))
                have hB154 : rowB (ia w147 112) = b := by rw [HS.row (hO145.hs)]; exact hB140
                refine sx_RP.step (pc2 := 76) (ls2 := [(1, .int 0), (0, .ref 111)]) (st2 := []) (w3 := w147) rfl rfl ?_
                refine sx_RP.step (pc2 := 77) (ls2 := [(1, .int 0), (0, .ref 111)]) (st2 := [.ref 111]) (w3 := w147) rfl rfl ?_
                refine sx_RP.step (pc2 := 78) (ls2 := [(1, .int 0), (0, .ref 111)]) (st2 := [.int 0, .ref 111]) (w3 := w147) rfl rfl ?_
                refine sx_RP.callp (as2 := [.ref 111, .int 0]) (rest2 := []) rfl rfl (sx_inv_v2 (mi := 211) (k := 323) (st := [.int 0, .ref 111]) (w := w147) rfl rfl hI148.1.o111 rfl rfl rfl) rfl rfl rfl (y227 (k := 0) hI148 hM152 hp149 ep144 ef146 hP151 hB154 (by decide) hu (by omega)) (show _ = 81 from rfl) ?_
                rintro r4 w157 ⟨⟨rfl, hr155⟩, hI158, hO156⟩
                show sx_RP _ _ _ _ _ [.int (b01 (galS n X 0 (nP n X q) b).1)] _ _
                have hO159 := hO153.tr hO156
                refine sx_RP.ret (r := (some (.int (b01 (galS n X 0 (nP n X q) b).1)))) rfl (bo_ret rfl (b01_in _)) ?_
                have eg : gwT n X q = -1 := by simp only [gwT, c1, c27, c53, c79, c105, c131, if_true, if_false, Bool.false_eq_true, ite_true, ite_false, true_or, or_true, or_false, false_or]
                have ek : kwT n X q = 0 := by simp only [kwT, c1, c27, c53, c79, c105, c131, if_true, if_false, Bool.false_eq_true, ite_true, ite_false, true_or, or_true, or_false, false_or]
                have eR : itT n X q b = galS n X 0 (nP n X q) b := by unfold itT; rw [eg, if_pos rfl, ek, if_neg (by decide)]; exact galT_S (by omega)
                rw [eR]
                exact ⟨⟨rfl, hr155⟩, hI158, hO159⟩
              · replace q142 := Decidable.not_not.mp (of_decide_eq_false q142)
                replace q142 := (nI_eq (a := u) (b := 10) (by omega) (by omega)).mp q142
                refine sx_RP.step (pc2 := 61) (ls2 := [(1, .int 0), (0, .ref 111)]) (st2 := [.ref 111]) (w3 := w135) rfl rfl ?_
                refine sx_RP.callp (as2 := [.ref 111]) (rest2 := []) rfl rfl (sx_inv_v2 (mi := 211) (k := 245) (st := [.ref 111]) (w := w135) rfl rfl hI136.1.o111 rfl rfl rfl) rfl rfl rfl (y222 (p := q) hI136 ef134 ep132) (show _ = 64 from rfl) ?_
                rintro r4 w162 ⟨⟨rfl, hv160⟩, hI163, hO161⟩
                show sx_RP _ _ _ _ _ [.int 0] _ _
                have hO164 := hO139.tr (HS.om hO161.hs)
                refine sx_RP.ret (r := (some (.int 0))) rfl rfl ?_
                have eg : gwT n X q = -1 := by simp only [gwT, c1, c27, c53, c79, c105, c131, if_true, if_false, Bool.false_eq_true, ite_true, ite_false, true_or, or_true, or_false, false_or]
                have ek : kwT n X q = 0 := by simp only [kwT, c1, c27, c53, c79, c105, c131, if_true, if_false, Bool.false_eq_true, ite_true, ite_false, true_or, or_true, or_false, false_or]
                have eR : itT n X q b = (false, q, b) := by unfold itT; rw [eg, if_pos rfl, ek, if_neg (by decide)]; unfold galT; rw [if_neg (by omega)]
                rw [eR]
                exact ⟨⟨rfl, RdM.f hv160⟩, hI163, hO164⟩
            · refine sx_RP.callp (as2 := [.ref 111, .float 106]) (rest2 := []) rfl rfl (sx_inv_v2 (mi := 211) (k := 239) (st := [.float 106, .ref 111]) (w := w125) rfl rfl hI126.1.o111 rfl rfl rfl) rfl rfl rfl (y214f (k := (106 : UInt32)) (m := 7) hI126 hM128 hpl ep122 (by decide) rfl (by decide) (by decide) hP127 c131) (show _ = 46 from rfl) ?_
              rintro r4 w168 ⟨⟨rfl, ep165⟩, hI169, hO166⟩
              show sx_RP _ _ _ _ _ [.int 0] _ _
              have ef167 := (hO166.2 13 (by decide)).trans ef124
              have hP170 : rE blk n X q = q := by rw [← hP127]; exact rE_rE
              have hM171 := hM128.hs (hO166.hs)
              have hO172 := hO129.tr (HS.om (hO166.hs))
              have hB173 : rowB (ia w168 112) = b := by rw [HS.row (hO166.hs)]; exact hB130
              refine sx_RP.step (pc2 := 65) (ls2 := [(1, .int 0), (0, .ref 111)]) (st2 := []) (w3 := w168) rfl rfl ?_
              refine sx_RP.step (pc2 := 66) (ls2 := [(1, .int 0), (0, .ref 111)]) (st2 := [.ref 111]) (w3 := w168) rfl rfl ?_
              refine sx_RP.step (pc2 := 67) (ls2 := [(1, .int 0), (0, .ref 111)]) (st2 := [.int 0, .ref 111]) (w3 := w168) rfl rfl ?_
              refine sx_RP.cu (as := [.int 0]) (rest2 := [.ref 111]) (st3 := [.float 106, .ref 111]) rfl rfl rfl rfl rfl (p226_0) rfl ?_
              refine sx_RP.callp (as2 := [.ref 111, .float 106]) (rest2 := []) rfl rfl (sx_inv_v2 (mi := 211) (k := 243) (st := [.float 106, .ref 111]) (w := w168) rfl rfl hI169.1.o111 rfl rfl rfl) rfl rfl rfl (y213f (k := (106 : UInt32)) (m := 7) hI169 hM171 hpl ep165 ef167 (by decide) rfl (by decide) (by decide) hP170 c131) (show _ = 73 from rfl) ?_
              rintro r4 w178 ⟨⟨rfl, ep175⟩, hI179, hO176⟩
              show sx_RP _ _ _ _ _ [.int 0] _ _
              have ef177 := (hO176.2 13 (by decide)).trans ef167
              have hP180 : rE blk n X q = q := by rw [← hP170]; exact rE_rE
              have hM181 := hM171.hs (hO176.hs)
              have hO182 := hO172.tr (HS.om (hO176.hs))
              have hB183 : rowB (ia w178 112) = b := by rw [HS.row (hO176.hs)]; exact hB173
              refine sx_RP.step (pc2 := 82) (ls2 := [(1, .int 0), (0, .ref 111)]) (st2 := []) (w3 := w178) rfl rfl ?_
              refine sx_RP.step (pc2 := 85) (ls2 := [(1, .int 1), (0, .ref 111)]) (st2 := []) (w3 := w178) rfl rfl ?_
              refine sx_RP.step (pc2 := 32) (ls2 := [(1, .int 1), (0, .ref 111)]) (st2 := []) (w3 := w178) rfl rfl ?_
              refine sx_RP.step (pc2 := 33) (ls2 := [(1, .int 1), (0, .ref 111)]) (st2 := [.int 1]) (w3 := w178) rfl rfl ?_
              refine sx_RP.step (pc2 := 35) (ls2 := [(1, .int 1), (0, .ref 111)]) (st2 := [.int 6, .int 1]) (w3 := w178) rfl rfl ?_
              refine sx_RP.step (pc2 := 38) (ls2 := [(1, .int 1), (0, .ref 111)]) (st2 := []) (w3 := w178) rfl rfl ?_
              refine sx_RP.step (pc2 := 39) (ls2 := [(1, .int 1), (0, .ref 111)]) (st2 := [.ref 111]) (w3 := w178) rfl rfl ?_
              refine sx_RP.step (pc2 := 40) (ls2 := [(1, .int 1), (0, .ref 111)]) (st2 := [.int 1, .ref 111]) (w3 := w178) rfl rfl ?_
              refine sx_RP.cu (as := [.int 1]) (rest2 := [.ref 111]) (st3 := [.float 110, .ref 111]) rfl rfl rfl rfl rfl (p226_1) rfl ?_
              rcases Bool.eq_false_or_eq_true (wdT n X q (110 : UInt32)) with c184 | c184
              · refine sx_RP.callp (as2 := [.ref 111, .float 110]) (rest2 := []) rfl rfl (sx_inv_v2 (mi := 211) (k := 239) (st := [.float 110, .ref 111]) (w := w178) rfl rfl hI179.1.o111 rfl rfl rfl) rfl rfl rfl (y214t (k := (110 : UInt32)) (m := 7) hI179 hM181 hpl ep175 (by decide) rfl (by decide) (by decide) hP180 c184) (show _ = 46 from rfl) ?_
                rintro r4 w188 ⟨⟨rfl, ep185⟩, hI189, hO186⟩
                show sx_RP _ _ _ _ _ [.int 1] _ _
                have ef187 := (hO186.2 13 (by decide)).trans ef177
                have hP190 : rE blk n X q = q := by rw [← hP180]; exact rE_rE
                have hM191 := hM181.hs (hO186.hs)
                have hO192 := hO182.tr (HS.om (hO186.hs))
                have hB193 : rowB (ia w188 112) = b := by rw [HS.row (hO186.hs)]; exact hB183
                refine sx_RP.step (pc2 := 49) (ls2 := [(1, .int 1), (0, .ref 111)]) (st2 := []) (w3 := w188) rfl rfl ?_
                refine sx_RP.step (pc2 := 50) (ls2 := [(1, .int 1), (0, .ref 111)]) (st2 := [.ref 111]) (w3 := w188) rfl rfl ?_
                refine sx_RP.gf (v := .ref 112) rfl rfl hI189.1.o111 rfl rfl (show _ = 53 from rfl) ?_
                refine sx_RP.step (pc2 := 54) (ls2 := [(1, .int 1), (0, .ref 111)]) (st2 := [.int 1, .ref 112]) (w3 := w188) rfl rfl ?_
                have ex194 : (ia w188 112).getD 1 0 = nI u := row_len hI189 hB193 hu (by omega)
                refine sx_RP.ild (c := 1) rfl hI189.1.a112.1 hI189.1.a112.2 (sx_in_nI (show 1 < 172 by omega) (by decide)) (nI_clamp (by decide)) (show _ = 55 from rfl) ?_
                rw [ex194]
                refine sx_RP.step (pc2 := 57) (ls2 := [(1, .int 1), (0, .ref 111)]) (st2 := [.int 10, .int (nI u)]) (w3 := w188) rfl rfl ?_
                refine sx_RP.br (p1 := 65) (l1 := [(1, .int 1), (0, .ref 111)]) (s1 := []) (v1 := w188) (p2 := 60) (l2 := [(1, .int 1), (0, .ref 111)]) (s2 := []) (v2 := w188) rfl rfl (fun q195 => ?_) (fun q195 => ?_)
                · replace q195 := of_decide_eq_true q195
                  replace q195 := mt (nI_eq (a := u) (b := 10) (by omega) (by omega)).mpr q195
                  refine sx_RP.step (pc2 := 66) (ls2 := [(1, .int 1), (0, .ref 111)]) (st2 := [.ref 111]) (w3 := w188) rfl rfl ?_
                  refine sx_RP.step (pc2 := 67) (ls2 := [(1, .int 1), (0, .ref 111)]) (st2 := [.int 1, .ref 111]) (w3 := w188) rfl rfl ?_
                  refine sx_RP.cu (as := [.int 1]) (rest2 := [.ref 111]) (st3 := [.float 110, .ref 111]) rfl rfl rfl rfl rfl (p226_1) rfl ?_
                  refine sx_RP.callp (as2 := [.ref 111, .float 110]) (rest2 := []) rfl rfl (sx_inv_v2 (mi := 211) (k := 243) (st := [.float 110, .ref 111]) (w := w188) rfl rfl hI189.1.o111 rfl rfl rfl) rfl rfl rfl (y213t (k := (110 : UInt32)) (m := 7) hI189 hM191 hpl ep185 ef187 (by decide) rfl (by decide) (by decide) hP190 c184) (show _ = 73 from rfl) ?_
                  rintro r4 w200 ⟨⟨rfl, ep197⟩, hI201, hO198⟩
                  show sx_RP _ _ _ _ _ [.int 1] _ _
                  have ef199 := (hO198.2 13 (by decide)).trans ef187
                  have hp202 : beT n X q ≤ n := beT_le hpl
                  have hp203 : nP n X q ≤ n := rE_le hp202
                  have hP204 : rE blk n X (beT n X q) = nP n X q := rfl
                  have hM205 := hM191.hs (hO198.hs)
                  have hO206 := hO192.tr (HS.om (hO198.hs))
                  have hB207 : rowB (ia w200 112) = b := by rw [HS.row (hO198.hs)]; exact hB193
                  refine sx_RP.step (pc2 := 76) (ls2 := [(1, .int 1), (0, .ref 111)]) (st2 := []) (w3 := w200) rfl rfl ?_
                  refine sx_RP.step (pc2 := 77) (ls2 := [(1, .int 1), (0, .ref 111)]) (st2 := [.ref 111]) (w3 := w200) rfl rfl ?_
                  refine sx_RP.step (pc2 := 78) (ls2 := [(1, .int 1), (0, .ref 111)]) (st2 := [.int 1, .ref 111]) (w3 := w200) rfl rfl ?_
                  refine sx_RP.callp (as2 := [.ref 111, .int 1]) (rest2 := []) rfl rfl (sx_inv_v2 (mi := 211) (k := 323) (st := [.int 1, .ref 111]) (w := w200) rfl rfl hI201.1.o111 rfl rfl rfl) rfl rfl rfl (y227 (k := 1) hI201 hM205 hp202 ep197 ef199 hP204 hB207 (by decide) hu (by omega)) (show _ = 81 from rfl) ?_
                  rintro r4 w210 ⟨⟨rfl, hr208⟩, hI211, hO209⟩
                  show sx_RP _ _ _ _ _ [.int (b01 (galS n X 1 (nP n X q) b).1)] _ _
                  have hO212 := hO206.tr hO209
                  refine sx_RP.ret (r := (some (.int (b01 (galS n X 1 (nP n X q) b).1)))) rfl (bo_ret rfl (b01_in _)) ?_
                  have eg : gwT n X q = -1 := by simp only [gwT, c1, c27, c53, c79, c105, c131, c184, if_true, if_false, Bool.false_eq_true, ite_true, ite_false, true_or, or_true, or_false, false_or]
                  have ek : kwT n X q = 1 := by simp only [kwT, c1, c27, c53, c79, c105, c131, c184, if_true, if_false, Bool.false_eq_true, ite_true, ite_false, true_or, or_true, or_false, false_or]
                  have eR : itT n X q b = galS n X 1 (nP n X q) b := by unfold itT; rw [eg, if_pos rfl, ek, if_neg (by decide)]; exact galT_S (by omega)
                  rw [eR]
                  exact ⟨⟨rfl, hr208⟩, hI211, hO212⟩
                · replace q195 := Decidable.not_not.mp (of_decide_eq_false q195)
                  replace q195 := (nI_eq (a := u) (b := 10) (by omega) (by omega)).mp q195
                  refine sx_RP.step (pc2 := 61) (ls2 := [(1, .int 1), (0, .ref 111)]) (st2 := [.ref 111]) (w3 := w188) rfl rfl ?_
                  refine sx_RP.callp (as2 := [.ref 111]) (rest2 := []) rfl rfl (sx_inv_v2 (mi := 211) (k := 245) (st := [.ref 111]) (w := w188) rfl rfl hI189.1.o111 rfl rfl rfl) rfl rfl rfl (y222 (p := q) hI189 ef187 ep185) (show _ = 64 from rfl) ?_
                  rintro r4 w215 ⟨⟨rfl, hv213⟩, hI216, hO214⟩
                  show sx_RP _ _ _ _ _ [.int 0] _ _
                  have hO217 := hO192.tr (HS.om hO214.hs)
                  refine sx_RP.ret (r := (some (.int 0))) rfl rfl ?_
                  have eg : gwT n X q = -1 := by simp only [gwT, c1, c27, c53, c79, c105, c131, c184, if_true, if_false, Bool.false_eq_true, ite_true, ite_false, true_or, or_true, or_false, false_or]
                  have ek : kwT n X q = 1 := by simp only [kwT, c1, c27, c53, c79, c105, c131, c184, if_true, if_false, Bool.false_eq_true, ite_true, ite_false, true_or, or_true, or_false, false_or]
                  have eR : itT n X q b = (false, q, b) := by unfold itT; rw [eg, if_pos rfl, ek, if_neg (by decide)]; unfold galT; rw [if_neg (by omega)]
                  rw [eR]
                  exact ⟨⟨rfl, RdM.f hv213⟩, hI216, hO217⟩
              · refine sx_RP.callp (as2 := [.ref 111, .float 110]) (rest2 := []) rfl rfl (sx_inv_v2 (mi := 211) (k := 239) (st := [.float 110, .ref 111]) (w := w178) rfl rfl hI179.1.o111 rfl rfl rfl) rfl rfl rfl (y214f (k := (110 : UInt32)) (m := 7) hI179 hM181 hpl ep175 (by decide) rfl (by decide) (by decide) hP180 c184) (show _ = 46 from rfl) ?_
                rintro r4 w221 ⟨⟨rfl, ep218⟩, hI222, hO219⟩
                show sx_RP _ _ _ _ _ [.int 0] _ _
                have ef220 := (hO219.2 13 (by decide)).trans ef177
                have hP223 : rE blk n X q = q := by rw [← hP180]; exact rE_rE
                have hM224 := hM181.hs (hO219.hs)
                have hO225 := hO182.tr (HS.om (hO219.hs))
                have hB226 : rowB (ia w221 112) = b := by rw [HS.row (hO219.hs)]; exact hB183
                refine sx_RP.step (pc2 := 65) (ls2 := [(1, .int 1), (0, .ref 111)]) (st2 := []) (w3 := w221) rfl rfl ?_
                refine sx_RP.step (pc2 := 66) (ls2 := [(1, .int 1), (0, .ref 111)]) (st2 := [.ref 111]) (w3 := w221) rfl rfl ?_
                refine sx_RP.step (pc2 := 67) (ls2 := [(1, .int 1), (0, .ref 111)]) (st2 := [.int 1, .ref 111]) (w3 := w221) rfl rfl ?_
                refine sx_RP.cu (as := [.int 1]) (rest2 := [.ref 111]) (st3 := [.float 110, .ref 111]) rfl rfl rfl rfl rfl (p226_1) rfl ?_
                refine sx_RP.callp (as2 := [.ref 111, .float 110]) (rest2 := []) rfl rfl (sx_inv_v2 (mi := 211) (k := 243) (st := [.float 110, .ref 111]) (w := w221) rfl rfl hI222.1.o111 rfl rfl rfl) rfl rfl rfl (y213f (k := (110 : UInt32)) (m := 7) hI222 hM224 hpl ep218 ef220 (by decide) rfl (by decide) (by decide) hP223 c184) (show _ = 73 from rfl) ?_
                rintro r4 w231 ⟨⟨rfl, ep228⟩, hI232, hO229⟩
                show sx_RP _ _ _ _ _ [.int 0] _ _
                have ef230 := (hO229.2 13 (by decide)).trans ef220
                have hP233 : rE blk n X q = q := by rw [← hP223]; exact rE_rE
                have hM234 := hM224.hs (hO229.hs)
                have hO235 := hO225.tr (HS.om (hO229.hs))
                have hB236 : rowB (ia w231 112) = b := by rw [HS.row (hO229.hs)]; exact hB226
                refine sx_RP.step (pc2 := 82) (ls2 := [(1, .int 1), (0, .ref 111)]) (st2 := []) (w3 := w231) rfl rfl ?_
                refine sx_RP.step (pc2 := 85) (ls2 := [(1, .int 2), (0, .ref 111)]) (st2 := []) (w3 := w231) rfl rfl ?_
                refine sx_RP.step (pc2 := 32) (ls2 := [(1, .int 2), (0, .ref 111)]) (st2 := []) (w3 := w231) rfl rfl ?_
                refine sx_RP.step (pc2 := 33) (ls2 := [(1, .int 2), (0, .ref 111)]) (st2 := [.int 2]) (w3 := w231) rfl rfl ?_
                refine sx_RP.step (pc2 := 35) (ls2 := [(1, .int 2), (0, .ref 111)]) (st2 := [.int 6, .int 2]) (w3 := w231) rfl rfl ?_
                refine sx_RP.step (pc2 := 38) (ls2 := [(1, .int 2), (0, .ref 111)]) (st2 := []) (w3 := w231) rfl rfl ?_
                refine sx_RP.step (pc2 := 39) (ls2 := [(1, .int 2), (0, .ref 111)]) (st2 := [.ref 111]) (w3 := w231) rfl rfl ?_
                refine sx_RP.step (pc2 := 40) (ls2 := [(1, .int 2), (0, .ref 111)]) (st2 := [.int 2, .ref 111]) (w3 := w231) rfl rfl ?_
                refine sx_RP.cu (as := [.int 2]) (rest2 := [.ref 111]) (st3 := [.float 114, .ref 111]) rfl rfl rfl rfl rfl (p226_2) rfl ?_
                rcases Bool.eq_false_or_eq_true (wdT n X q (114 : UInt32)) with c237 | c237
                · refine sx_RP.callp (as2 := [.ref 111, .float 114]) (rest2 := []) rfl rfl (sx_inv_v2 (mi := 211) (k := 239) (st := [.float 114, .ref 111]) (w := w231) rfl rfl hI232.1.o111 rfl rfl rfl) rfl rfl rfl (y214t (k := (114 : UInt32)) (m := 3) hI232 hM234 hpl ep228 (by decide) rfl (by decide) (by decide) hP233 c237) (show _ = 46 from rfl) ?_
                  rintro r4 w241 ⟨⟨rfl, ep238⟩, hI242, hO239⟩
                  show sx_RP _ _ _ _ _ [.int 1] _ _
                  have ef240 := (hO239.2 13 (by decide)).trans ef230
                  have hP243 : rE blk n X q = q := by rw [← hP233]; exact rE_rE
                  have hM244 := hM234.hs (hO239.hs)
                  have hO245 := hO235.tr (HS.om (hO239.hs))
                  have hB246 : rowB (ia w241 112) = b := by rw [HS.row (hO239.hs)]; exact hB236
                  refine sx_RP.step (pc2 := 49) (ls2 := [(1, .int 2), (0, .ref 111)]) (st2 := []) (w3 := w241) rfl rfl ?_
                  refine sx_RP.step (pc2 := 50) (ls2 := [(1, .int 2), (0, .ref 111)]) (st2 := [.ref 111]) (w3 := w241) rfl rfl ?_
                  refine sx_RP.gf (v := .ref 112) rfl rfl hI242.1.o111 rfl rfl (show _ = 53 from rfl) ?_
                  refine sx_RP.step (pc2 := 54) (ls2 := [(1, .int 2), (0, .ref 111)]) (st2 := [.int 1, .ref 112]) (w3 := w241) rfl rfl ?_
                  have ex247 : (ia w241 112).getD 1 0 = nI u := row_len hI242 hB246 hu (by omega)
                  refine sx_RP.ild (c := 1) rfl hI242.1.a112.1 hI242.1.a112.2 (sx_in_nI (show 1 < 172 by omega) (by decide)) (nI_clamp (by decide)) (show _ = 55 from rfl) ?_
                  rw [ex247]
                  refine sx_RP.step (pc2 := 57) (ls2 := [(1, .int 2), (0, .ref 111)]) (st2 := [.int 10, .int (nI u)]) (w3 := w241) rfl rfl ?_
                  refine sx_RP.br (p1 := 65) (l1 := [(1, .int 2), (0, .ref 111)]) (s1 := []) (v1 := w241) (p2 := 60) (l2 := [(1, .int 2), (0, .ref 111)]) (s2 := []) (v2 := w241) rfl rfl (fun q248 => ?_) (fun q248 => ?_)
                  · replace q248 := of_decide_eq_true q248
                    replace q248 := mt (nI_eq (a := u) (b := 10) (by omega) (by omega)).mpr q248
                    refine sx_RP.step (pc2 := 66) (ls2 := [(1, .int 2), (0, .ref 111)]) (st2 := [.ref 111]) (w3 := w241) rfl rfl ?_
                    refine sx_RP.step (pc2 := 67) (ls2 := [(1, .int 2), (0, .ref 111)]) (st2 := [.int 2, .ref 111]) (w3 := w241) rfl rfl ?_
                    refine sx_RP.cu (as := [.int 2]) (rest2 := [.ref 111]) (st3 := [.float 114, .ref 111]) rfl rfl rfl rfl rfl (p226_2) rfl ?_
                    refine sx_RP.callp (as2 := [.ref 111, .float 114]) (rest2 := []) rfl rfl (sx_inv_v2 (mi := 211) (k := 243) (st := [.float 114, .ref 111]) (w := w241) rfl rfl hI242.1.o111 rfl rfl rfl) rfl rfl rfl (y213t (k := (114 : UInt32)) (m := 3) hI242 hM244 hpl ep238 ef240 (by decide) rfl (by decide) (by decide) hP243 c237) (show _ = 73 from rfl) ?_
                    rintro r4 w253 ⟨⟨rfl, ep250⟩, hI254, hO251⟩
                    show sx_RP _ _ _ _ _ [.int 1] _ _
                    have ef252 := (hO251.2 13 (by decide)).trans ef240
                    have hp255 : beT n X q ≤ n := beT_le hpl
                    have hp256 : nP n X q ≤ n := rE_le hp255
                    have hP257 : rE blk n X (beT n X q) = nP n X q := rfl
                    have hM258 := hM244.hs (hO251.hs)
                    have hO259 := hO245.tr (HS.om (hO251.hs))
                    have hB260 : rowB (ia w253 112) = b := by rw [HS.row (hO251.hs)]; exact hB246
                    refine sx_RP.step (pc2 := 76) (ls2 := [(1, .int 2), (0, .ref 111)]) (st2 := []) (w3 := w253) rfl rfl ?_
                    refine sx_RP.step (pc2 := 77) (ls2 := [(1, .int 2), (0, .ref 111)]) (st2 := [.ref 111]) (w3 := w253) rfl rfl ?_
                    refine sx_RP.step (pc2 := 78) (ls2 := [(1, .int 2), (0, .ref 111)]) (st2 := [.int 2, .ref 111]) (w3 := w253) rfl rfl ?_
                    refine sx_RP.callp (as2 := [.ref 111, .int 2]) (rest2 := []) rfl rfl (sx_inv_v2 (mi := 211) (k := 323) (st := [.int 2, .ref 111]) (w := w253) rfl rfl hI254.1.o111 rfl rfl rfl) rfl rfl rfl (y227 (k := 2) hI254 hM258 hp255 ep250 ef252 hP257 hB260 (by decide) hu (by omega)) (show _ = 81 from rfl) ?_
                    rintro r4 w263 ⟨⟨rfl, hr261⟩, hI264, hO262⟩
                    show sx_RP _ _ _ _ _ [.int (b01 (galS n X 2 (nP n X q) b).1)] _ _
                    have hO265 := hO259.tr hO262
                    refine sx_RP.ret (r := (some (.int (b01 (galS n X 2 (nP n X q) b).1)))) rfl (bo_ret rfl (b01_in _)) ?_
                    have eg : gwT n X q = -1 := by simp only [gwT, c1, c27, c53, c79, c105, c131, c184, c237, if_true, if_false, Bool.false_eq_true, ite_true, ite_false, true_or, or_true, or_false, false_or]
                    have ek : kwT n X q = 2 := by simp only [kwT, c1, c27, c53, c79, c105, c131, c184, c237, if_true, if_false, Bool.false_eq_true, ite_true, ite_false, true_or, or_true, or_false, false_or]
                    have eR : itT n X q b = galS n X 2 (nP n X q) b := by unfold itT; rw [eg, if_pos rfl, ek, if_neg (by decide)]; exact galT_S (by omega)
                    rw [eR]
                    exact ⟨⟨rfl, hr261⟩, hI264, hO265⟩
                  · replace q248 := Decidable.not_not.mp (of_decide_eq_false q248)
                    replace q248 := (nI_eq (a := u) (b := 10) (by omega) (by omega)).mp q248
                    refine sx_RP.step (pc2 := 61) (ls2 := [(1, .int 2), (0, .ref 111)]) (st2 := [.ref 111]) (w3 := w241) rfl rfl ?_
                    refine sx_RP.callp (as2 := [.ref 111]) (rest2 := []) rfl rfl (sx_inv_v2 (mi := 211) (k := 245) (st := [.ref 111]) (w := w241) rfl rfl hI242.1.o111 rfl rfl rfl) rfl rfl rfl (y222 (p := q) hI242 ef240 ep238) (show _ = 64 from rfl) ?_
                    rintro r4 w268 ⟨⟨rfl, hv266⟩, hI269, hO267⟩
                    show sx_RP _ _ _ _ _ [.int 0] _ _
                    have hO270 := hO245.tr (HS.om hO267.hs)
                    refine sx_RP.ret (r := (some (.int 0))) rfl rfl ?_
                    have eg : gwT n X q = -1 := by simp only [gwT, c1, c27, c53, c79, c105, c131, c184, c237, if_true, if_false, Bool.false_eq_true, ite_true, ite_false, true_or, or_true, or_false, false_or]
                    have ek : kwT n X q = 2 := by simp only [kwT, c1, c27, c53, c79, c105, c131, c184, c237, if_true, if_false, Bool.false_eq_true, ite_true, ite_false, true_or, or_true, or_false, false_or]
                    have eR : itT n X q b = (false, q, b) := by unfold itT; rw [eg, if_pos rfl, ek, if_neg (by decide)]; unfold galT; rw [if_neg (by omega)]
                    rw [eR]
                    exact ⟨⟨rfl, RdM.f hv266⟩, hI269, hO270⟩
                · refine sx_RP.callp (as2 := [.ref 111, .float 114]) (rest2 := []) rfl rfl (sx_inv_v2 (mi := 211) (k := 239) (st := [.float 114, .ref 111]) (w := w231) rfl rfl hI232.1.o111 rfl rfl rfl) rfl rfl rfl (y214f (k := (114 : UInt32)) (m := 3) hI232 hM234 hpl ep228 (by decide) rfl (by decide) (by decide) hP233 c237) (show _ = 46 from rfl) ?_
                  rintro r4 w274 ⟨⟨rfl, ep271⟩, hI275, hO272⟩
                  show sx_RP _ _ _ _ _ [.int 0] _ _
                  have ef273 := (hO272.2 13 (by decide)).trans ef230
                  have hP276 : rE blk n X q = q := by rw [← hP233]; exact rE_rE
                  have hM277 := hM234.hs (hO272.hs)
                  have hO278 := hO235.tr (HS.om (hO272.hs))
                  have hB279 : rowB (ia w274 112) = b := by rw [HS.row (hO272.hs)]; exact hB236
                  refine sx_RP.step (pc2 := 65) (ls2 := [(1, .int 2), (0, .ref 111)]) (st2 := []) (w3 := w274) rfl rfl ?_
                  refine sx_RP.step (pc2 := 66) (ls2 := [(1, .int 2), (0, .ref 111)]) (st2 := [.ref 111]) (w3 := w274) rfl rfl ?_
                  refine sx_RP.step (pc2 := 67) (ls2 := [(1, .int 2), (0, .ref 111)]) (st2 := [.int 2, .ref 111]) (w3 := w274) rfl rfl ?_
                  refine sx_RP.cu (as := [.int 2]) (rest2 := [.ref 111]) (st3 := [.float 114, .ref 111]) rfl rfl rfl rfl rfl (p226_2) rfl ?_
                  refine sx_RP.callp (as2 := [.ref 111, .float 114]) (rest2 := []) rfl rfl (sx_inv_v2 (mi := 211) (k := 243) (st := [.float 114, .ref 111]) (w := w274) rfl rfl hI275.1.o111 rfl rfl rfl) rfl rfl rfl (y213f (k := (114 : UInt32)) (m := 3) hI275 hM277 hpl ep271 ef273 (by decide) rfl (by decide) (by decide) hP276 c237) (show _ = 73 from rfl) ?_
                  rintro r4 w284 ⟨⟨rfl, ep281⟩, hI285, hO282⟩
                  show sx_RP _ _ _ _ _ [.int 0] _ _
                  have ef283 := (hO282.2 13 (by decide)).trans ef273
                  have hP286 : rE blk n X q = q := by rw [← hP276]; exact rE_rE
                  have hM287 := hM277.hs (hO282.hs)
                  have hO288 := hO278.tr (HS.om (hO282.hs))
                  have hB289 : rowB (ia w284 112) = b := by rw [HS.row (hO282.hs)]; exact hB279
                  refine sx_RP.step (pc2 := 82) (ls2 := [(1, .int 2), (0, .ref 111)]) (st2 := []) (w3 := w284) rfl rfl ?_
                  refine sx_RP.step (pc2 := 85) (ls2 := [(1, .int 3), (0, .ref 111)]) (st2 := []) (w3 := w284) rfl rfl ?_
                  refine sx_RP.step (pc2 := 32) (ls2 := [(1, .int 3), (0, .ref 111)]) (st2 := []) (w3 := w284) rfl rfl ?_
                  refine sx_RP.step (pc2 := 33) (ls2 := [(1, .int 3), (0, .ref 111)]) (st2 := [.int 3]) (w3 := w284) rfl rfl ?_
                  refine sx_RP.step (pc2 := 35) (ls2 := [(1, .int 3), (0, .ref 111)]) (st2 := [.int 6, .int 3]) (w3 := w284) rfl rfl ?_
                  refine sx_RP.step (pc2 := 38) (ls2 := [(1, .int 3), (0, .ref 111)]) (st2 := []) (w3 := w284) rfl rfl ?_
                  refine sx_RP.step (pc2 := 39) (ls2 := [(1, .int 3), (0, .ref 111)]) (st2 := [.ref 111]) (w3 := w284) rfl rfl ?_
                  refine sx_RP.step (pc2 := 40) (ls2 := [(1, .int 3), (0, .ref 111)]) (st2 := [.int 3, .ref 111]) (w3 := w284) rfl rfl ?_
                  refine sx_RP.cu (as := [.int 3]) (rest2 := [.ref 111]) (st3 := [.float 107, .ref 111]) rfl rfl rfl rfl rfl (p226_3) rfl ?_
                  rcases Bool.eq_false_or_eq_true (wdT n X q (107 : UInt32)) with c290 | c290
                  · refine sx_RP.callp (as2 := [.ref 111, .float 107]) (rest2 := []) rfl rfl (sx_inv_v2 (mi := 211) (k := 239) (st := [.float 107, .ref 111]) (w := w284) rfl rfl hI285.1.o111 rfl rfl rfl) rfl rfl rfl (y214t (k := (107 : UInt32)) (m := 4) hI285 hM287 hpl ep281 (by decide) rfl (by decide) (by decide) hP286 c290) (show _ = 46 from rfl) ?_
                    rintro r4 w294 ⟨⟨rfl, ep291⟩, hI295, hO292⟩
                    show sx_RP _ _ _ _ _ [.int 1] _ _
                    have ef293 := (hO292.2 13 (by decide)).trans ef283
                    have hP296 : rE blk n X q = q := by rw [← hP286]; exact rE_rE
                    have hM297 := hM287.hs (hO292.hs)
                    have hO298 := hO288.tr (HS.om (hO292.hs))
                    have hB299 : rowB (ia w294 112) = b := by rw [HS.row (hO292.hs)]; exact hB289
                    refine sx_RP.step (pc2 := 49) (ls2 := [(1, .int 3), (0, .ref 111)]) (st2 := []) (w3 := w294) rfl rfl ?_
                    refine sx_RP.step (pc2 := 50) (ls2 := [(1, .int 3), (0, .ref 111)]) (st2 := [.ref 111]) (w3 := w294) rfl rfl ?_
                    refine sx_RP.gf (v := .ref 112) rfl rfl hI295.1.o111 rfl rfl (show _ = 53 from rfl) ?_
                    refine sx_RP.step (pc2 := 54) (ls2 := [(1, .int 3), (0, .ref 111)]) (st2 := [.int 1, .ref 112]) (w3 := w294) rfl rfl ?_
                    have ex300 : (ia w294 112).getD 1 0 = nI u := row_len hI295 hB299 hu (by omega)
                    refine sx_RP.ild (c := 1) rfl hI295.1.a112.1 hI295.1.a112.2 (sx_in_nI (show 1 < 172 by omega) (by decide)) (nI_clamp (by decide)) (show _ = 55 from rfl) ?_
                    rw [ex300]
                    refine sx_RP.step (pc2 := 57) (ls2 := [(1, .int 3), (0, .ref 111)]) (st2 := [.int 10, .int (nI u)]) (w3 := w294) rfl rfl ?_
                    refine sx_RP.br (p1 := 65) (l1 := [(1, .int 3), (0, .ref 111)]) (s1 := []) (v1 := w294) (p2 := 60) (l2 := [(1, .int 3), (0, .ref 111)]) (s2 := []) (v2 := w294) rfl rfl (fun q301 => ?_) (fun q301 => ?_)
                    · replace q301 := of_decide_eq_true q301
                      replace q301 := mt (nI_eq (a := u) (b := 10) (by omega) (by omega)).mpr q301
                      refine sx_RP.step (pc2 := 66) (ls2 := [(1, .int 3), (0, .ref 111)]) (st2 := [.ref 111]) (w3 := w294) rfl rfl ?_
                      refine sx_RP.step (pc2 := 67) (ls2 := [(1, .int 3), (0, .ref 111)]) (st2 := [.int 3, .ref 111]) (w3 := w294) rfl rfl ?_
                      refine sx_RP.cu (as := [.int 3]) (rest2 := [.ref 111]) (st3 := [.float 107, .ref 111]) rfl rfl rfl rfl rfl (p226_3) rfl ?_
                      refine sx_RP.callp (as2 := [.ref 111, .float 107]) (rest2 := []) rfl rfl (sx_inv_v2 (mi := 211) (k := 243) (st := [.float 107, .ref 111]) (w := w294) rfl rfl hI295.1.o111 rfl rfl rfl) rfl rfl rfl (y213t (k := (107 : UInt32)) (m := 4) hI295 hM297 hpl ep291 ef293 (by decide) rfl (by decide) (by decide) hP296 c290) (show _ = 73 from rfl) ?_
                      rintro r4 w306 ⟨⟨rfl, ep303⟩, hI307, hO304⟩
                      show sx_RP _ _ _ _ _ [.int 1] _ _
                      have ef305 := (hO304.2 13 (by decide)).trans ef293
                      have hp308 : beT n X q ≤ n := beT_le hpl
                      have hp309 : nP n X q ≤ n := rE_le hp308
                      have hP310 : rE blk n X (beT n X q) = nP n X q := rfl
                      have hM311 := hM297.hs (hO304.hs)
                      have hO312 := hO298.tr (HS.om (hO304.hs))
                      have hB313 : rowB (ia w306 112) = b := by rw [HS.row (hO304.hs)]; exact hB299
                      refine sx_RP.step (pc2 := 76) (ls2 := [(1, .int 3), (0, .ref 111)]) (st2 := []) (w3 := w306) rfl rfl ?_
                      refine sx_RP.step (pc2 := 77) (ls2 := [(1, .int 3), (0, .ref 111)]) (st2 := [.ref 111]) (w3 := w306) rfl rfl ?_
                      refine sx_RP.step (pc2 := 78) (ls2 := [(1, .int 3), (0, .ref 111)]) (st2 := [.int 3, .ref 111]) (w3 := w306) rfl rfl ?_
                      refine sx_RP.callp (as2 := [.ref 111, .int 3]) (rest2 := []) rfl rfl (sx_inv_v2 (mi := 211) (k := 323) (st := [.int 3, .ref 111]) (w := w306) rfl rfl hI307.1.o111 rfl rfl rfl) rfl rfl rfl (y227 (k := 3) hI307 hM311 hp308 ep303 ef305 hP310 hB313 (by decide) hu (by omega)) (show _ = 81 from rfl) ?_
                      rintro r4 w316 ⟨⟨rfl, hr314⟩, hI317, hO315⟩
                      show sx_RP _ _ _ _ _ [.int (b01 (galS n X 3 (nP n X q) b).1)] _ _
                      have hO318 := hO312.tr hO315
                      refine sx_RP.ret (r := (some (.int (b01 (galS n X 3 (nP n X q) b).1)))) rfl (bo_ret rfl (b01_in _)) ?_
                      have eg : gwT n X q = -1 := by simp only [gwT, c1, c27, c53, c79, c105, c131, c184, c237, c290, if_true, if_false, Bool.false_eq_true, ite_true, ite_false, true_or, or_true, or_false, false_or]
                      have ek : kwT n X q = 3 := by simp only [kwT, c1, c27, c53, c79, c105, c131, c184, c237, c290, if_true, if_false, Bool.false_eq_true, ite_true, ite_false, true_or, or_true, or_false, false_or]
                      have eR : itT n X q b = galS n X 3 (nP n X q) b := by unfold itT; rw [eg, if_pos rfl, ek, if_neg (by decide)]; exact galT_S (by omega)
                      rw [eR]
                      exact ⟨⟨rfl, hr314⟩, hI317, hO318⟩
                    · replace q301 := Decidable.not_not.mp (of_decide_eq_false q301)
                      replace q301 := (nI_eq (a := u) (b := 10) (by omega) (by omega)).mp q301
                      refine sx_RP.step (pc2 := 61) (ls2 := [(1, .int 3), (0, .ref 111)]) (st2 := [.ref 111]) (w3 := w294) rfl rfl ?_
                      refine sx_RP.callp (as2 := [.ref 111]) (rest2 := []) rfl rfl (sx_inv_v2 (mi := 211) (k := 245) (st := [.ref 111]) (w := w294) rfl rfl hI295.1.o111 rfl rfl rfl) rfl rfl rfl (y222 (p := q) hI295 ef293 ep291) (show _ = 64 from rfl) ?_
                      rintro r4 w321 ⟨⟨rfl, hv319⟩, hI322, hO320⟩
                      show sx_RP _ _ _ _ _ [.int 0] _ _
                      have hO323 := hO298.tr (HS.om hO320.hs)
                      refine sx_RP.ret (r := (some (.int 0))) rfl rfl ?_
                      have eg : gwT n X q = -1 := by simp only [gwT, c1, c27, c53, c79, c105, c131, c184, c237, c290, if_true, if_false, Bool.false_eq_true, ite_true, ite_false, true_or, or_true, or_false, false_or]
                      have ek : kwT n X q = 3 := by simp only [kwT, c1, c27, c53, c79, c105, c131, c184, c237, c290, if_true, if_false, Bool.false_eq_true, ite_true, ite_false, true_or, or_true, or_false, false_or]
                      have eR : itT n X q b = (false, q, b) := by unfold itT; rw [eg, if_pos rfl, ek, if_neg (by decide)]; unfold galT; rw [if_neg (by omega)]
                      rw [eR]
                      exact ⟨⟨rfl, RdM.f hv319⟩, hI322, hO323⟩
                  · refine sx_RP.callp (as2 := [.ref 111, .float 107]) (rest2 := []) rfl rfl (sx_inv_v2 (mi := 211) (k := 239) (st := [.float 107, .ref 111]) (w := w284) rfl rfl hI285.1.o111 rfl rfl rfl) rfl rfl rfl (y214f (k := (107 : UInt32)) (m := 4) hI285 hM287 hpl ep281 (by decide) rfl (by decide) (by decide) hP286 c290) (show _ = 46 from rfl) ?_
                    rintro r4 w327 ⟨⟨rfl, ep324⟩, hI328, hO325⟩
                    show sx_RP _ _ _ _ _ [.int 0] _ _
                    have ef326 := (hO325.2 13 (by decide)).trans ef283
                    have hP329 : rE blk n X q = q := by rw [← hP286]; exact rE_rE
                    have hM330 := hM287.hs (hO325.hs)
                    have hO331 := hO288.tr (HS.om (hO325.hs))
                    have hB332 : rowB (ia w327 112) = b := by rw [HS.row (hO325.hs)]; exact hB289
                    refine sx_RP.step (pc2 := 65) (ls2 := [(1, .int 3), (0, .ref 111)]) (st2 := []) (w3 := w327) rfl rfl ?_
                    refine sx_RP.step (pc2 := 66) (ls2 := [(1, .int 3), (0, .ref 111)]) (st2 := [.ref 111]) (w3 := w327) rfl rfl ?_
                    refine sx_RP.step (pc2 := 67) (ls2 := [(1, .int 3), (0, .ref 111)]) (st2 := [.int 3, .ref 111]) (w3 := w327) rfl rfl ?_
                    refine sx_RP.cu (as := [.int 3]) (rest2 := [.ref 111]) (st3 := [.float 107, .ref 111]) rfl rfl rfl rfl rfl (p226_3) rfl ?_
                    refine sx_RP.callp (as2 := [.ref 111, .float 107]) (rest2 := []) rfl rfl (sx_inv_v2 (mi := 211) (k := 243) (st := [.float 107, .ref 111]) (w := w327) rfl rfl hI328.1.o111 rfl rfl rfl) rfl rfl rfl (y213f (k := (107 : UInt32)) (m := 4) hI328 hM330 hpl ep324 ef326 (by decide) rfl (by decide) (by decide) hP329 c290) (show _ = 73 from rfl) ?_
                    rintro r4 w337 ⟨⟨rfl, ep334⟩, hI338, hO335⟩
                    show sx_RP _ _ _ _ _ [.int 0] _ _
                    have ef336 := (hO335.2 13 (by decide)).trans ef326
                    have hP339 : rE blk n X q = q := by rw [← hP329]; exact rE_rE
                    have hM340 := hM330.hs (hO335.hs)
                    have hO341 := hO331.tr (HS.om (hO335.hs))
                    have hB342 : rowB (ia w337 112) = b := by rw [HS.row (hO335.hs)]; exact hB332
                    refine sx_RP.step (pc2 := 82) (ls2 := [(1, .int 3), (0, .ref 111)]) (st2 := []) (w3 := w337) rfl rfl ?_
                    refine sx_RP.step (pc2 := 85) (ls2 := [(1, .int 4), (0, .ref 111)]) (st2 := []) (w3 := w337) rfl rfl ?_
                    refine sx_RP.step (pc2 := 32) (ls2 := [(1, .int 4), (0, .ref 111)]) (st2 := []) (w3 := w337) rfl rfl ?_
                    refine sx_RP.step (pc2 := 33) (ls2 := [(1, .int 4), (0, .ref 111)]) (st2 := [.int 4]) (w3 := w337) rfl rfl ?_
                    refine sx_RP.step (pc2 := 35) (ls2 := [(1, .int 4), (0, .ref 111)]) (st2 := [.int 6, .int 4]) (w3 := w337) rfl rfl ?_
                    refine sx_RP.step (pc2 := 38) (ls2 := [(1, .int 4), (0, .ref 111)]) (st2 := []) (w3 := w337) rfl rfl ?_
                    refine sx_RP.step (pc2 := 39) (ls2 := [(1, .int 4), (0, .ref 111)]) (st2 := [.ref 111]) (w3 := w337) rfl rfl ?_
                    refine sx_RP.step (pc2 := 40) (ls2 := [(1, .int 4), (0, .ref 111)]) (st2 := [.int 4, .ref 111]) (w3 := w337) rfl rfl ?_
                    refine sx_RP.cu (as := [.int 4]) (rest2 := [.ref 111]) (st3 := [.float 105, .ref 111]) rfl rfl rfl rfl rfl (p226_4) rfl ?_
                    rcases Bool.eq_false_or_eq_true (wdT n X q (105 : UInt32)) with c343 | c343
                    · refine sx_RP.callp (as2 := [.ref 111, .float 105]) (rest2 := []) rfl rfl (sx_inv_v2 (mi := 211) (k := 239) (st := [.float 105, .ref 111]) (w := w337) rfl rfl hI338.1.o111 rfl rfl rfl) rfl rfl rfl (y214t (k := (105 : UInt32)) (m := 5) hI338 hM340 hpl ep334 (by decide) rfl (by decide) (by decide) hP339 c343) (show _ = 46 from rfl) ?_
                      rintro r4 w347 ⟨⟨rfl, ep344⟩, hI348, hO345⟩
                      show sx_RP _ _ _ _ _ [.int 1] _ _
                      have ef346 := (hO345.2 13 (by decide)).trans ef336
                      have hP349 : rE blk n X q = q := by rw [← hP339]; exact rE_rE
                      have hM350 := hM340.hs (hO345.hs)
                      have hO351 := hO341.tr (HS.om (hO345.hs))
                      have hB352 : rowB (ia w347 112) = b := by rw [HS.row (hO345.hs)]; exact hB342
                      refine sx_RP.step (pc2 := 49) (ls2 := [(1, .int 4), (0, .ref 111)]) (st2 := []) (w3 := w347) rfl rfl ?_
                      refine sx_RP.step (pc2 := 50) (ls2 := [(1, .int 4), (0, .ref 111)]) (st2 := [.ref 111]) (w3 := w347) rfl rfl ?_
                      refine sx_RP.gf (v := .ref 112) rfl rfl hI348.1.o111 rfl rfl (show _ = 53 from rfl) ?_
                      refine sx_RP.step (pc2 := 54) (ls2 := [(1, .int 4), (0, .ref 111)]) (st2 := [.int 1, .ref 112]) (w3 := w347) rfl rfl ?_
                      have ex353 : (ia w347 112).getD 1 0 = nI u := row_len hI348 hB352 hu (by omega)
                      refine sx_RP.ild (c := 1) rfl hI348.1.a112.1 hI348.1.a112.2 (sx_in_nI (show 1 < 172 by omega) (by decide)) (nI_clamp (by decide)) (show _ = 55 from rfl) ?_
                      rw [ex353]
                      refine sx_RP.step (pc2 := 57) (ls2 := [(1, .int 4), (0, .ref 111)]) (st2 := [.int 10, .int (nI u)]) (w3 := w347) rfl rfl ?_
                      refine sx_RP.br (p1 := 65) (l1 := [(1, .int 4), (0, .ref 111)]) (s1 := []) (v1 := w347) (p2 := 60) (l2 := [(1, .int 4), (0, .ref 111)]) (s2 := []) (v2 := w347) rfl rfl (fun q354 => ?_) (fun q354 => ?_)
                      · replace q354 := of_decide_eq_true q354
                        replace q354 := mt (nI_eq (a := u) (b := 10) (by omega) (by omega)).mpr q354
                        refine sx_RP.step (pc2 := 66) (ls2 := [(1, .int 4), (0, .ref 111)]) (st2 := [.ref 111]) (w3 := w347) rfl rfl ?_
                        refine sx_RP.step (pc2 := 67) (ls2 := [(1, .int 4), (0, .ref 111)]) (st2 := [.int 4, .ref 111]) (w3 := w347) rfl rfl ?_
                        refine sx_RP.cu (as := [.int 4]) (rest2 := [.ref 111]) (st3 := [.float 105, .ref 111]) rfl rfl rfl rfl rfl (p226_4) rfl ?_
                        refine sx_RP.callp (as2 := [.ref 111, .float 105]) (rest2 := []) rfl rfl (sx_inv_v2 (mi := 211) (k := 243) (st := [.float 105, .ref 111]) (w := w347) rfl rfl hI348.1.o111 rfl rfl rfl) rfl rfl rfl (y213t (k := (105 : UInt32)) (m := 5) hI348 hM350 hpl ep344 ef346 (by decide) rfl (by decide) (by decide) hP349 c343) (show _ = 73 from rfl) ?_
                        rintro r4 w359 ⟨⟨rfl, ep356⟩, hI360, hO357⟩
                        show sx_RP _ _ _ _ _ [.int 1] _ _
                        have ef358 := (hO357.2 13 (by decide)).trans ef346
                        have hp361 : beT n X q ≤ n := beT_le hpl
                        have hp362 : nP n X q ≤ n := rE_le hp361
                        have hP363 : rE blk n X (beT n X q) = nP n X q := rfl
                        have hM364 := hM350.hs (hO357.hs)
                        have hO365 := hO351.tr (HS.om (hO357.hs))
                        have hB366 : rowB (ia w359 112) = b := by rw [HS.row (hO357.hs)]; exact hB352
                        refine sx_RP.step (pc2 := 76) (ls2 := [(1, .int 4), (0, .ref 111)]) (st2 := []) (w3 := w359) rfl rfl ?_
                        refine sx_RP.step (pc2 := 77) (ls2 := [(1, .int 4), (0, .ref 111)]) (st2 := [.ref 111]) (w3 := w359) rfl rfl ?_
                        refine sx_RP.step (pc2 := 78) (ls2 := [(1, .int 4), (0, .ref 111)]) (st2 := [.int 4, .ref 111]) (w3 := w359) rfl rfl ?_
                        refine sx_RP.callp (as2 := [.ref 111, .int 4]) (rest2 := []) rfl rfl (sx_inv_v2 (mi := 211) (k := 323) (st := [.int 4, .ref 111]) (w := w359) rfl rfl hI360.1.o111 rfl rfl rfl) rfl rfl rfl (y227 (k := 4) hI360 hM364 hp361 ep356 ef358 hP363 hB366 (by decide) hu (by omega)) (show _ = 81 from rfl) ?_
                        rintro r4 w369 ⟨⟨rfl, hr367⟩, hI370, hO368⟩
                        show sx_RP _ _ _ _ _ [.int (b01 (galS n X 4 (nP n X q) b).1)] _ _
                        have hO371 := hO365.tr hO368
                        refine sx_RP.ret (r := (some (.int (b01 (galS n X 4 (nP n X q) b).1)))) rfl (bo_ret rfl (b01_in _)) ?_
                        have eg : gwT n X q = -1 := by simp only [gwT, c1, c27, c53, c79, c105, c131, c184, c237, c290, c343, if_true, if_false, Bool.false_eq_true, ite_true, ite_false, true_or, or_true, or_false, false_or]
                        have ek : kwT n X q = 4 := by simp only [kwT, c1, c27, c53, c79, c105, c131, c184, c237, c290, c343, if_true, if_false, Bool.false_eq_true, ite_true, ite_false, true_or, or_true, or_false, false_or]
                        have eR : itT n X q b = galS n X 4 (nP n X q) b := by unfold itT; rw [eg, if_pos rfl, ek, if_neg (by decide)]; exact galT_S (by omega)
                        rw [eR]
                        exact ⟨⟨rfl, hr367⟩, hI370, hO371⟩
                      · replace q354 := Decidable.not_not.mp (of_decide_eq_false q354)
                        replace q354 := (nI_eq (a := u) (b := 10) (by omega) (by omega)).mp q354
                        refine sx_RP.step (pc2 := 61) (ls2 := [(1, .int 4), (0, .ref 111)]) (st2 := [.ref 111]) (w3 := w347) rfl rfl ?_
                        refine sx_RP.callp (as2 := [.ref 111]) (rest2 := []) rfl rfl (sx_inv_v2 (mi := 211) (k := 245) (st := [.ref 111]) (w := w347) rfl rfl hI348.1.o111 rfl rfl rfl) rfl rfl rfl (y222 (p := q) hI348 ef346 ep344) (show _ = 64 from rfl) ?_
                        rintro r4 w374 ⟨⟨rfl, hv372⟩, hI375, hO373⟩
                        show sx_RP _ _ _ _ _ [.int 0] _ _
                        have hO376 := hO351.tr (HS.om hO373.hs)
                        refine sx_RP.ret (r := (some (.int 0))) rfl rfl ?_
                        have eg : gwT n X q = -1 := by simp only [gwT, c1, c27, c53, c79, c105, c131, c184, c237, c290, c343, if_true, if_false, Bool.false_eq_true, ite_true, ite_false, true_or, or_true, or_false, false_or]
                        have ek : kwT n X q = 4 := by simp only [kwT, c1, c27, c53, c79, c105, c131, c184, c237, c290, c343, if_true, if_false, Bool.false_eq_true, ite_true, ite_false, true_or, or_true, or_false, false_or]
                        have eR : itT n X q b = (false, q, b) := by unfold itT; rw [eg, if_pos rfl, ek, if_neg (by decide)]; unfold galT; rw [if_neg (by omega)]
                        rw [eR]
                        exact ⟨⟨rfl, RdM.f hv372⟩, hI375, hO376⟩
                    · refine sx_RP.callp (as2 := [.ref 111, .float 105]) (rest2 := []) rfl rfl (sx_inv_v2 (mi := 211) (k := 239) (st := [.float 105, .ref 111]) (w := w337) rfl rfl hI338.1.o111 rfl rfl rfl) rfl rfl rfl (y214f (k := (105 : UInt32)) (m := 5) hI338 hM340 hpl ep334 (by decide) rfl (by decide) (by decide) hP339 c343) (show _ = 46 from rfl) ?_
                      rintro r4 w380 ⟨⟨rfl, ep377⟩, hI381, hO378⟩
                      show sx_RP _ _ _ _ _ [.int 0] _ _
                      have ef379 := (hO378.2 13 (by decide)).trans ef336
                      have hP382 : rE blk n X q = q := by rw [← hP339]; exact rE_rE
                      have hM383 := hM340.hs (hO378.hs)
                      have hO384 := hO341.tr (HS.om (hO378.hs))
                      have hB385 : rowB (ia w380 112) = b := by rw [HS.row (hO378.hs)]; exact hB342
                      refine sx_RP.step (pc2 := 65) (ls2 := [(1, .int 4), (0, .ref 111)]) (st2 := []) (w3 := w380) rfl rfl ?_
                      refine sx_RP.step (pc2 := 66) (ls2 := [(1, .int 4), (0, .ref 111)]) (st2 := [.ref 111]) (w3 := w380) rfl rfl ?_
                      refine sx_RP.step (pc2 := 67) (ls2 := [(1, .int 4), (0, .ref 111)]) (st2 := [.int 4, .ref 111]) (w3 := w380) rfl rfl ?_
                      refine sx_RP.cu (as := [.int 4]) (rest2 := [.ref 111]) (st3 := [.float 105, .ref 111]) rfl rfl rfl rfl rfl (p226_4) rfl ?_
                      refine sx_RP.callp (as2 := [.ref 111, .float 105]) (rest2 := []) rfl rfl (sx_inv_v2 (mi := 211) (k := 243) (st := [.float 105, .ref 111]) (w := w380) rfl rfl hI381.1.o111 rfl rfl rfl) rfl rfl rfl (y213f (k := (105 : UInt32)) (m := 5) hI381 hM383 hpl ep377 ef379 (by decide) rfl (by decide) (by decide) hP382 c343) (show _ = 73 from rfl) ?_
                      rintro r4 w390 ⟨⟨rfl, ep387⟩, hI391, hO388⟩
                      show sx_RP _ _ _ _ _ [.int 0] _ _
                      have ef389 := (hO388.2 13 (by decide)).trans ef379
                      have hP392 : rE blk n X q = q := by rw [← hP382]; exact rE_rE
                      have hM393 := hM383.hs (hO388.hs)
                      have hO394 := hO384.tr (HS.om (hO388.hs))
                      have hB395 : rowB (ia w390 112) = b := by rw [HS.row (hO388.hs)]; exact hB385
                      refine sx_RP.step (pc2 := 82) (ls2 := [(1, .int 4), (0, .ref 111)]) (st2 := []) (w3 := w390) rfl rfl ?_
                      refine sx_RP.step (pc2 := 85) (ls2 := [(1, .int 5), (0, .ref 111)]) (st2 := []) (w3 := w390) rfl rfl ?_
                      refine sx_RP.step (pc2 := 32) (ls2 := [(1, .int 5), (0, .ref 111)]) (st2 := []) (w3 := w390) rfl rfl ?_
                      refine sx_RP.step (pc2 := 33) (ls2 := [(1, .int 5), (0, .ref 111)]) (st2 := [.int 5]) (w3 := w390) rfl rfl ?_
                      refine sx_RP.step (pc2 := 35) (ls2 := [(1, .int 5), (0, .ref 111)]) (st2 := [.int 6, .int 5]) (w3 := w390) rfl rfl ?_
                      refine sx_RP.step (pc2 := 38) (ls2 := [(1, .int 5), (0, .ref 111)]) (st2 := []) (w3 := w390) rfl rfl ?_
                      refine sx_RP.step (pc2 := 39) (ls2 := [(1, .int 5), (0, .ref 111)]) (st2 := [.ref 111]) (w3 := w390) rfl rfl ?_
                      refine sx_RP.step (pc2 := 40) (ls2 := [(1, .int 5), (0, .ref 111)]) (st2 := [.int 5, .ref 111]) (w3 := w390) rfl rfl ?_
                      refine sx_RP.cu (as := [.int 5]) (rest2 := [.ref 111]) (st3 := [.float 103, .ref 111]) rfl rfl rfl rfl rfl (p226_5) rfl ?_
                      rcases Bool.eq_false_or_eq_true (wdT n X q (103 : UInt32)) with c396 | c396
                      · refine sx_RP.callp (as2 := [.ref 111, .float 103]) (rest2 := []) rfl rfl (sx_inv_v2 (mi := 211) (k := 239) (st := [.float 103, .ref 111]) (w := w390) rfl rfl hI391.1.o111 rfl rfl rfl) rfl rfl rfl (y214t (k := (103 : UInt32)) (m := 4) hI391 hM393 hpl ep387 (by decide) rfl (by decide) (by decide) hP392 c396) (show _ = 46 from rfl) ?_
                        rintro r4 w400 ⟨⟨rfl, ep397⟩, hI401, hO398⟩
                        show sx_RP _ _ _ _ _ [.int 1] _ _
                        have ef399 := (hO398.2 13 (by decide)).trans ef389
                        have hP402 : rE blk n X q = q := by rw [← hP392]; exact rE_rE
                        have hM403 := hM393.hs (hO398.hs)
                        have hO404 := hO394.tr (HS.om (hO398.hs))
                        have hB405 : rowB (ia w400 112) = b := by rw [HS.row (hO398.hs)]; exact hB395
                        refine sx_RP.step (pc2 := 49) (ls2 := [(1, .int 5), (0, .ref 111)]) (st2 := []) (w3 := w400) rfl rfl ?_
                        refine sx_RP.step (pc2 := 50) (ls2 := [(1, .int 5), (0, .ref 111)]) (st2 := [.ref 111]) (w3 := w400) rfl rfl ?_
                        refine sx_RP.gf (v := .ref 112) rfl rfl hI401.1.o111 rfl rfl (show _ = 53 from rfl) ?_
                        refine sx_RP.step (pc2 := 54) (ls2 := [(1, .int 5), (0, .ref 111)]) (st2 := [.int 1, .ref 112]) (w3 := w400) rfl rfl ?_
                        have ex406 : (ia w400 112).getD 1 0 = nI u := row_len hI401 hB405 hu (by omega)
                        refine sx_RP.ild (c := 1) rfl hI401.1.a112.1 hI401.1.a112.2 (sx_in_nI (show 1 < 172 by omega) (by decide)) (nI_clamp (by decide)) (show _ = 55 from rfl) ?_
                        rw [ex406]
                        refine sx_RP.step (pc2 := 57) (ls2 := [(1, .int 5), (0, .ref 111)]) (st2 := [.int 10, .int (nI u)]) (w3 := w400) rfl rfl ?_
                        refine sx_RP.br (p1 := 65) (l1 := [(1, .int 5), (0, .ref 111)]) (s1 := []) (v1 := w400) (p2 := 60) (l2 := [(1, .int 5), (0, .ref 111)]) (s2 := []) (v2 := w400) rfl rfl (fun q407 => ?_) (fun q407 => ?_)
                        · replace q407 := of_decide_eq_true q407
                          replace q407 := mt (nI_eq (a := u) (b := 10) (by omega) (by omega)).mpr q407
                          refine sx_RP.step (pc2 := 66) (ls2 := [(1, .int 5), (0, .ref 111)]) (st2 := [.ref 111]) (w3 := w400) rfl rfl ?_
                          refine sx_RP.step (pc2 := 67) (ls2 := [(1, .int 5), (0, .ref 111)]) (st2 := [.int 5, .ref 111]) (w3 := w400) rfl rfl ?_
                          refine sx_RP.cu (as := [.int 5]) (rest2 := [.ref 111]) (st3 := [.float 103, .ref 111]) rfl rfl rfl rfl rfl (p226_5) rfl ?_
                          refine sx_RP.callp (as2 := [.ref 111, .float 103]) (rest2 := []) rfl rfl (sx_inv_v2 (mi := 211) (k := 243) (st := [.float 103, .ref 111]) (w := w400) rfl rfl hI401.1.o111 rfl rfl rfl) rfl rfl rfl (y213t (k := (103 : UInt32)) (m := 4) hI401 hM403 hpl ep397 ef399 (by decide) rfl (by decide) (by decide) hP402 c396) (show _ = 73 from rfl) ?_
                          rintro r4 w412 ⟨⟨rfl, ep409⟩, hI413, hO410⟩
                          show sx_RP _ _ _ _ _ [.int 1] _ _
                          have ef411 := (hO410.2 13 (by decide)).trans ef399
                          have hp414 : beT n X q ≤ n := beT_le hpl
                          have hp415 : nP n X q ≤ n := rE_le hp414
                          have hP416 : rE blk n X (beT n X q) = nP n X q := rfl
                          have hM417 := hM403.hs (hO410.hs)
                          have hO418 := hO404.tr (HS.om (hO410.hs))
                          have hB419 : rowB (ia w412 112) = b := by rw [HS.row (hO410.hs)]; exact hB405
                          refine sx_RP.step (pc2 := 76) (ls2 := [(1, .int 5), (0, .ref 111)]) (st2 := []) (w3 := w412) rfl rfl ?_
                          refine sx_RP.step (pc2 := 77) (ls2 := [(1, .int 5), (0, .ref 111)]) (st2 := [.ref 111]) (w3 := w412) rfl rfl ?_
                          refine sx_RP.step (pc2 := 78) (ls2 := [(1, .int 5), (0, .ref 111)]) (st2 := [.int 5, .ref 111]) (w3 := w412) rfl rfl ?_
                          refine sx_RP.callp (as2 := [.ref 111, .int 5]) (rest2 := []) rfl rfl (sx_inv_v2 (mi := 211) (k := 323) (st := [.int 5, .ref 111]) (w := w412) rfl rfl hI413.1.o111 rfl rfl rfl) rfl rfl rfl (y227 (k := 5) hI413 hM417 hp414 ep409 ef411 hP416 hB419 (by decide) hu (by omega)) (show _ = 81 from rfl) ?_
                          rintro r4 w422 ⟨⟨rfl, hr420⟩, hI423, hO421⟩
                          show sx_RP _ _ _ _ _ [.int (b01 (galS n X 5 (nP n X q) b).1)] _ _
                          have hO424 := hO418.tr hO421
                          refine sx_RP.ret (r := (some (.int (b01 (galS n X 5 (nP n X q) b).1)))) rfl (bo_ret rfl (b01_in _)) ?_
                          have eg : gwT n X q = -1 := by simp only [gwT, c1, c27, c53, c79, c105, c131, c184, c237, c290, c343, c396, if_true, if_false, Bool.false_eq_true, ite_true, ite_false, true_or, or_true, or_false, false_or]
                          have ek : kwT n X q = 5 := by simp only [kwT, c1, c27, c53, c79, c105, c131, c184, c237, c290, c343, c396, if_true, if_false, Bool.false_eq_true, ite_true, ite_false, true_or, or_true, or_false, false_or]
                          have eR : itT n X q b = galS n X 5 (nP n X q) b := by unfold itT; rw [eg, if_pos rfl, ek, if_neg (by decide)]; exact galT_S (by omega)
                          rw [eR]
                          exact ⟨⟨rfl, hr420⟩, hI423, hO424⟩
                        · replace q407 := Decidable.not_not.mp (of_decide_eq_false q407)
                          replace q407 := (nI_eq (a := u) (b := 10) (by omega) (by omega)).mp q407
                          refine sx_RP.step (pc2 := 61) (ls2 := [(1, .int 5), (0, .ref 111)]) (st2 := [.ref 111]) (w3 := w400) rfl rfl ?_
                          refine sx_RP.callp (as2 := [.ref 111]) (rest2 := []) rfl rfl (sx_inv_v2 (mi := 211) (k := 245) (st := [.ref 111]) (w := w400) rfl rfl hI401.1.o111 rfl rfl rfl) rfl rfl rfl (y222 (p := q) hI401 ef399 ep397) (show _ = 64 from rfl) ?_
                          rintro r4 w427 ⟨⟨rfl, hv425⟩, hI428, hO426⟩
                          show sx_RP _ _ _ _ _ [.int 0] _ _
                          have hO429 := hO404.tr (HS.om hO426.hs)
                          refine sx_RP.ret (r := (some (.int 0))) rfl rfl ?_
                          have eg : gwT n X q = -1 := by simp only [gwT, c1, c27, c53, c79, c105, c131, c184, c237, c290, c343, c396, if_true, if_false, Bool.false_eq_true, ite_true, ite_false, true_or, or_true, or_false, false_or]
                          have ek : kwT n X q = 5 := by simp only [kwT, c1, c27, c53, c79, c105, c131, c184, c237, c290, c343, c396, if_true, if_false, Bool.false_eq_true, ite_true, ite_false, true_or, or_true, or_false, false_or]
                          have eR : itT n X q b = (false, q, b) := by unfold itT; rw [eg, if_pos rfl, ek, if_neg (by decide)]; unfold galT; rw [if_neg (by omega)]
                          rw [eR]
                          exact ⟨⟨rfl, RdM.f hv425⟩, hI428, hO429⟩
                      · refine sx_RP.callp (as2 := [.ref 111, .float 103]) (rest2 := []) rfl rfl (sx_inv_v2 (mi := 211) (k := 239) (st := [.float 103, .ref 111]) (w := w390) rfl rfl hI391.1.o111 rfl rfl rfl) rfl rfl rfl (y214f (k := (103 : UInt32)) (m := 4) hI391 hM393 hpl ep387 (by decide) rfl (by decide) (by decide) hP392 c396) (show _ = 46 from rfl) ?_
                        rintro r4 w433 ⟨⟨rfl, ep430⟩, hI434, hO431⟩
                        show sx_RP _ _ _ _ _ [.int 0] _ _
                        have ef432 := (hO431.2 13 (by decide)).trans ef389
                        have hP435 : rE blk n X q = q := by rw [← hP392]; exact rE_rE
                        have hM436 := hM393.hs (hO431.hs)
                        have hO437 := hO394.tr (HS.om (hO431.hs))
                        have hB438 : rowB (ia w433 112) = b := by rw [HS.row (hO431.hs)]; exact hB395
                        refine sx_RP.step (pc2 := 65) (ls2 := [(1, .int 5), (0, .ref 111)]) (st2 := []) (w3 := w433) rfl rfl ?_
                        refine sx_RP.step (pc2 := 66) (ls2 := [(1, .int 5), (0, .ref 111)]) (st2 := [.ref 111]) (w3 := w433) rfl rfl ?_
                        refine sx_RP.step (pc2 := 67) (ls2 := [(1, .int 5), (0, .ref 111)]) (st2 := [.int 5, .ref 111]) (w3 := w433) rfl rfl ?_
                        refine sx_RP.cu (as := [.int 5]) (rest2 := [.ref 111]) (st3 := [.float 103, .ref 111]) rfl rfl rfl rfl rfl (p226_5) rfl ?_
                        refine sx_RP.callp (as2 := [.ref 111, .float 103]) (rest2 := []) rfl rfl (sx_inv_v2 (mi := 211) (k := 243) (st := [.float 103, .ref 111]) (w := w433) rfl rfl hI434.1.o111 rfl rfl rfl) rfl rfl rfl (y213f (k := (103 : UInt32)) (m := 4) hI434 hM436 hpl ep430 ef432 (by decide) rfl (by decide) (by decide) hP435 c396) (show _ = 73 from rfl) ?_
                        rintro r4 w443 ⟨⟨rfl, ep440⟩, hI444, hO441⟩
                        show sx_RP _ _ _ _ _ [.int 0] _ _
                        have ef442 := (hO441.2 13 (by decide)).trans ef432
                        have hP445 : rE blk n X q = q := by rw [← hP435]; exact rE_rE
                        have hM446 := hM436.hs (hO441.hs)
                        have hO447 := hO437.tr (HS.om (hO441.hs))
                        have hB448 : rowB (ia w443 112) = b := by rw [HS.row (hO441.hs)]; exact hB438
                        refine sx_RP.step (pc2 := 82) (ls2 := [(1, .int 5), (0, .ref 111)]) (st2 := []) (w3 := w443) rfl rfl ?_
                        refine sx_RP.step (pc2 := 85) (ls2 := [(1, .int 6), (0, .ref 111)]) (st2 := []) (w3 := w443) rfl rfl ?_
                        refine sx_RP.step (pc2 := 32) (ls2 := [(1, .int 6), (0, .ref 111)]) (st2 := []) (w3 := w443) rfl rfl ?_
                        refine sx_RP.step (pc2 := 33) (ls2 := [(1, .int 6), (0, .ref 111)]) (st2 := [.int 6]) (w3 := w443) rfl rfl ?_
                        refine sx_RP.step (pc2 := 35) (ls2 := [(1, .int 6), (0, .ref 111)]) (st2 := [.int 6, .int 6]) (w3 := w443) rfl rfl ?_
                        refine sx_RP.step (pc2 := 88) (ls2 := [(1, .int 6), (0, .ref 111)]) (st2 := []) (w3 := w443) rfl rfl ?_
                        refine sx_RP.step (pc2 := 89) (ls2 := [(1, .int 6), (0, .ref 111)]) (st2 := [.ref 111]) (w3 := w443) rfl rfl ?_
                        refine sx_RP.step (pc2 := 92) (ls2 := [(1, .int 6), (0, .ref 111)]) (st2 := [.float 104, .ref 111]) (w3 := w443) rfl rfl ?_
                        rcases Bool.eq_false_or_eq_true (wdT n X q (104 : UInt32)) with c449 | c449
                        · refine sx_RP.callp (as2 := [.ref 111, .float 104]) (rest2 := []) rfl rfl (sx_inv_v2 (mi := 211) (k := 239) (st := [.float 104, .ref 111]) (w := w443) rfl rfl hI444.1.o111 rfl rfl rfl) rfl rfl rfl (y214t (k := (104 : UInt32)) (m := 4) hI444 hM446 hpl ep440 (by decide) rfl (by decide) (by decide) hP445 c449) (show _ = 95 from rfl) ?_
                          rintro r4 w453 ⟨⟨rfl, ep450⟩, hI454, hO451⟩
                          show sx_RP _ _ _ _ _ [.int 1] _ _
                          have ef452 := (hO451.2 13 (by decide)).trans ef442
                          have hP455 : rE blk n X q = q := by rw [← hP445]; exact rE_rE
                          have hM456 := hM446.hs (hO451.hs)
                          have hO457 := hO447.tr (HS.om (hO451.hs))
                          have hB458 : rowB (ia w453 112) = b := by rw [HS.row (hO451.hs)]; exact hB448
                          refine sx_RP.step (pc2 := 98) (ls2 := [(1, .int 6), (0, .ref 111)]) (st2 := []) (w3 := w453) rfl rfl ?_
                          refine sx_RP.step (pc2 := 99) (ls2 := [(1, .int 6), (0, .ref 111)]) (st2 := [.ref 111]) (w3 := w453) rfl rfl ?_
                          refine sx_RP.gf (v := .ref 112) rfl rfl hI454.1.o111 rfl rfl (show _ = 102 from rfl) ?_
                          refine sx_RP.step (pc2 := 103) (ls2 := [(1, .int 6), (0, .ref 111)]) (st2 := [.int 2, .ref 112]) (w3 := w453) rfl rfl ?_
                          have ex459 : (ia w453 112).getD 2 0 = nI m := row_dlen hI454 hB458 hm (by omega)
                          refine sx_RP.ild (c := 2) rfl hI454.1.a112.1 hI454.1.a112.2 (sx_in_nI (show 2 < 172 by omega) (by decide)) (nI_clamp (by decide)) (show _ = 104 from rfl) ?_
                          rw [ex459]
                          refine sx_RP.step (pc2 := 106) (ls2 := [(1, .int 6), (0, .ref 111)]) (st2 := [.int 9, .int (nI m)]) (w3 := w453) rfl rfl ?_
                          refine sx_RP.br (p1 := 114) (l1 := [(1, .int 6), (0, .ref 111)]) (s1 := []) (v1 := w453) (p2 := 109) (l2 := [(1, .int 6), (0, .ref 111)]) (s2 := []) (v2 := w453) rfl rfl (fun q460 => ?_) (fun q460 => ?_)
                          · replace q460 := of_decide_eq_true q460
                            replace q460 := mt (nI_eq (a := m) (b := 9) (by omega) (by omega)).mpr q460
                            refine sx_RP.step (pc2 := 115) (ls2 := [(1, .int 6), (0, .ref 111)]) (st2 := [.ref 111]) (w3 := w453) rfl rfl ?_
                            refine sx_RP.step (pc2 := 118) (ls2 := [(1, .int 6), (0, .ref 111)]) (st2 := [.float 104, .ref 111]) (w3 := w453) rfl rfl ?_
                            refine sx_RP.callp (as2 := [.ref 111, .float 104]) (rest2 := []) rfl rfl (sx_inv_v2 (mi := 211) (k := 243) (st := [.float 104, .ref 111]) (w := w453) rfl rfl hI454.1.o111 rfl rfl rfl) rfl rfl rfl (y213t (k := (104 : UInt32)) (m := 4) hI454 hM456 hpl ep450 ef452 (by decide) rfl (by decide) (by decide) hP455 c449) (show _ = 121 from rfl) ?_
                            rintro r4 w465 ⟨⟨rfl, ep462⟩, hI466, hO463⟩
                            show sx_RP _ _ _ _ _ [.int 1] _ _
                            have ef464 := (hO463.2 13 (by decide)).trans ef452
                            have hp467 : beT n X q ≤ n := beT_le hpl
                            have hp468 : nP n X q ≤ n := rE_le hp467
                            have hP469 : rE blk n X (beT n X q) = nP n X q := rfl
                            have hM470 := hM456.hs (hO463.hs)
                            have hO471 := hO457.tr (HS.om (hO463.hs))
                            have hB472 : rowB (ia w465 112) = b := by rw [HS.row (hO463.hs)]; exact hB458
                            refine sx_RP.step (pc2 := 124) (ls2 := [(1, .int 6), (0, .ref 111)]) (st2 := []) (w3 := w465) rfl rfl ?_
                            refine sx_RP.step (pc2 := 125) (ls2 := [(1, .int 6), (0, .ref 111)]) (st2 := [.ref 111]) (w3 := w465) rfl rfl ?_
                            refine sx_RP.step (pc2 := 126) (ls2 := [(1, .int 6), (0, .ref 111)]) (st2 := [.int 0, .ref 111]) (w3 := w465) rfl rfl ?_
                            refine sx_RP.step (pc2 := 128) (ls2 := [(1, .int 6), (0, .ref 111)]) (st2 := [.int 47, .int 0, .ref 111]) (w3 := w465) rfl rfl ?_
                            rcases Bool.eq_false_or_eq_true (nmT n X (nP n X q) 0 47) with c473 | c473
                            · refine sx_RP.callp (as2 := [.ref 111, .int 0, .int 47]) (rest2 := []) rfl rfl (sx_inv_v2 (mi := 211) (k := 267) (st := [.int 47, .int 0, .ref 111]) (w := w465) rfl rfl hI466.1.o111 rfl rfl rfl) rfl rfl rfl (y220t (lo := 0) (hi := 47) hI466 hM470 hp467 ep462 ef464 (by omega) (by decide) hP469 c473) (show _ = 131 from rfl) ?_
                              rintro r4 w478 ⟨⟨rfl, ep474, ev477, ef476⟩, hI479, hO475⟩
                              show sx_RP _ _ _ _ _ [.int 1] _ _
                              have hp480 : beT n X (nP n X q) ≤ n := beT_le hp468
                              have hp481 : nP n X (nP n X q) ≤ n := rE_le hp480
                              have hr482 := nmT_in c473
                              have hP483 : rE blk n X (beT n X (nP n X q)) = nP n X (nP n X q) := rfl
                              have hM484 := hM470.hs (hO475)
                              have hO485 := hO471.tr (HS.om (hO475))
                              have hB486 : rowB (ia w478 112) = b := by rw [HS.row (hO475)]; exact hB472
                              refine sx_RP.step (pc2 := 136) (ls2 := [(1, .int 6), (0, .ref 111)]) (st2 := []) (w3 := w478) rfl rfl ?_
                              refine sx_RP.step (pc2 := 137) (ls2 := [(1, .int 6), (0, .ref 111)]) (st2 := [.ref 111]) (w3 := w478) rfl rfl ?_
                              refine sx_RP.gf (v := .ref 112) rfl rfl hI479.1.o111 rfl rfl (show _ = 140 from rfl) ?_
                              refine sx_RP.step (pc2 := 143) (ls2 := [(1, .int 6), (0, .ref 111)]) (st2 := [.int 163, .ref 112]) (w3 := w478) rfl rfl ?_
                              refine sx_RP.step (pc2 := 144) (ls2 := [(1, .int 6), (0, .ref 111)]) (st2 := [.ref 111, .int 163, .ref 112]) (w3 := w478) rfl rfl ?_
                              refine sx_RP.gf (v := .ref 112) rfl rfl hI479.1.o111 rfl rfl (show _ = 147 from rfl) ?_
                              refine sx_RP.step (pc2 := 148) (ls2 := [(1, .int 6), (0, .ref 111)]) (st2 := [.int 2, .ref 112, .int 163, .ref 112]) (w3 := w478) rfl rfl ?_
                              have ex487 : (ia w478 112).getD 2 0 = nI m := row_dlen hI479 hB486 hm (by omega)
                              refine sx_RP.ild (c := 2) rfl hI479.1.a112.1 hI479.1.a112.2 (sx_in_nI (show 2 < 172 by omega) (by decide)) (nI_clamp (by decide)) (show _ = 149 from rfl) ?_
                              rw [ex487]
                              refine sx_RP.step (pc2 := 150) (ls2 := [(1, .int 6), (0, .ref 111)]) (st2 := [.int (163 + (nI m)), .ref 112]) (w3 := w478) rfl rfl ?_
                              rw [show (163 + (nI m) : Int32) = nI (163 + m) from nI_add 163 m]
                              refine sx_RP.step (pc2 := 151) (ls2 := [(1, .int 6), (0, .ref 111)]) (st2 := [.ref 111, .int (nI (163 + m)), .ref 112]) (w3 := w478) rfl rfl ?_
                              refine sx_RP.gf (v := .int (fi w478 111 14)) rfl rfl hI479.1.o111 rfl rfl (show _ = 154 from rfl) ?_
                              rw [ev477]
                              refine sx_RP.xM (k := 163 + m) hI479 (by decide) rfl (by omega) (eOK_d (by omega) (inR.n (show (vaT n X (nP n X q)) ≤ 47 by omega))) (show _ = 155 from rfl) (fun w488 hI489 hs490 hv491 => ?_)
                              have ep493 := (fi_same 12 (hs490 111 (by decide))).trans ep474
                              have ef494 := (fi_same 13 (hs490 111 (by decide))).trans ef476
                              have hM495 := hM484.om (OM.st hs490)
                              have hO496 := hO485.tr (OM.st hs490)
                              refine sx_RP.step (pc2 := 156) (ls2 := [(1, .int 6), (0, .ref 111)]) (st2 := [.ref 111]) (w3 := w488) rfl rfl ?_
                              refine sx_RP.gf (v := .ref 112) rfl rfl hI489.1.o111 rfl rfl (show _ = 159 from rfl) ?_
                              refine sx_RP.step (pc2 := 160) (ls2 := [(1, .int 6), (0, .ref 111)]) (st2 := [.int 2, .ref 112]) (w3 := w488) rfl rfl ?_
                              refine sx_RP.step (pc2 := 161) (ls2 := [(1, .int 6), (0, .ref 111)]) (st2 := [.int 2, .ref 112, .int 2, .ref 112]) (w3 := w488) rfl rfl ?_
                              have ex497 : (ia w488 112).getD 2 0 = nI m := by rw [hv491, gd_ne (by omega)]; exact row_dlen hI479 hB486 hm (by omega)
                              refine sx_RP.ild (c := 2) rfl hI489.1.a112.1 hI489.1.a112.2 (sx_in_nI (show 2 < 172 by omega) (by decide)) (nI_clamp (by decide)) (show _ = 162 from rfl) ?_
                              rw [ex497]
                              refine sx_RP.step (pc2 := 163) (ls2 := [(1, .int 6), (0, .ref 111)]) (st2 := [.int 1, .int (nI m), .int 2, .ref 112]) (w3 := w488) rfl rfl ?_
                              refine sx_RP.step (pc2 := 164) (ls2 := [(1, .int 6), (0, .ref 111)]) (st2 := [.int ((nI m) + 1), .int 2, .ref 112]) (w3 := w488) rfl rfl ?_
                              rw [show ((nI m) + 1 : Int32) = nI (m + 1) from nI_add m 1]
                              refine sx_RP.xM (k := 2) hI489 (by decide) rfl (by omega) (eOK_2 (inR.n (show m + 1 ≤ 9 by omega))) (show _ = 165 from rfl) (fun w498 hI499 hs500 hv501 => ?_)
                              have hB502 : rowB (ia w498 112) = addD (nI (vaT n X (nP n X q))) (b) := by rw [hv501, hv491, rowB_addD hI479.1.a112.2 (row_dlen hI479 hB486 hm (by omega)) (by omega) (hI479.manyM (by decide)), hB486]
                              have ep503 := (fi_same 12 (hs500 111 (by decide))).trans ep493
                              have ef504 := (fi_same 13 (hs500 111 (by decide))).trans ef494
                              have hM505 := hM495.om (OM.st hs500)
                              have hO506 := hO496.tr (OM.st hs500)
                              refine sx_RP.step (pc2 := 166) (ls2 := [(1, .int 6), (0, .ref 111)]) (st2 := [.int 1]) (w3 := w498) rfl rfl ?_
                              refine sx_RP.ret (r := (some (.int 1))) rfl rfl ?_
                              have eg : gwT n X q = -1 := by simp only [gwT, c1, c27, c53, c79, c105, c131, c184, c237, c290, c343, c396, c449, c473, if_true, if_false, Bool.false_eq_true, ite_true, ite_false, true_or, or_true, or_false, false_or]
                              have ek : kwT n X q = -1 := by simp only [kwT, c1, c27, c53, c79, c105, c131, c184, c237, c290, c343, c396, c449, c473, if_true, if_false, Bool.false_eq_true, ite_true, ite_false, true_or, or_true, or_false, false_or]
                              have eR : itT n X q b = (true, nP n X (nP n X q), addD (nI (vaT n X (nP n X q))) (b)) := by unfold itT; rw [eg, if_pos rfl, ek, if_pos rfl, if_pos c449]; unfold disT; rw [if_pos (by omega), if_pos c473]
                              rw [eR]
                              exact ⟨⟨rfl, RdM.t ef504 hB502 hp480 ep503 hP483⟩, hI499, hO506⟩
                            · refine sx_RP.callp (as2 := [.ref 111, .int 0, .int 47]) (rest2 := []) rfl rfl (sx_inv_v2 (mi := 211) (k := 267) (st := [.int 47, .int 0, .ref 111]) (w := w465) rfl rfl hI466.1.o111 rfl rfl rfl) rfl rfl rfl (y220f (lo := 0) (hi := 47) hI466 hM470 hp467 ep462 ef464 (by omega) (by decide) hP469 c473) (show _ = 131 from rfl) ?_
                              rintro r4 w511 ⟨⟨rfl, ep507⟩, hI512, hO508⟩
                              show sx_RP _ _ _ _ _ [.int 0] _ _
                              have hO513 := hO471.tr (HS.om hO508)
                              refine sx_RP.step (pc2 := 134) (ls2 := [(1, .int 6), (0, .ref 111)]) (st2 := []) (w3 := w511) rfl rfl ?_
                              refine sx_RP.step (pc2 := 135) (ls2 := [(1, .int 6), (0, .ref 111)]) (st2 := [.int 0]) (w3 := w511) rfl rfl ?_
                              refine sx_RP.ret (r := (some (.int 0))) rfl rfl ?_
                              have eg : gwT n X q = -1 := by simp only [gwT, c1, c27, c53, c79, c105, c131, c184, c237, c290, c343, c396, c449, c473, if_true, if_false, Bool.false_eq_true, ite_true, ite_false, true_or, or_true, or_false, false_or]
                              have ek : kwT n X q = -1 := by simp only [kwT, c1, c27, c53, c79, c105, c131, c184, c237, c290, c343, c396, c449, c473, if_true, if_false, Bool.false_eq_true, ite_true, ite_false, true_or, or_true, or_false, false_or]
                              have eR : itT n X q b = (false, nP n X q, b) := by unfold itT; rw [eg, if_pos rfl, ek, if_pos rfl, if_pos c449]; unfold disT; rw [if_pos (by omega), if_neg (by rw [c473]; decide)]
                              rw [eR]
                              exact ⟨⟨rfl, RdM.f ep507⟩, hI512, hO513⟩
                          · replace q460 := Decidable.not_not.mp (of_decide_eq_false q460)
                            replace q460 := (nI_eq (a := m) (b := 9) (by omega) (by omega)).mp q460
                            refine sx_RP.step (pc2 := 110) (ls2 := [(1, .int 6), (0, .ref 111)]) (st2 := [.ref 111]) (w3 := w453) rfl rfl ?_
                            refine sx_RP.callp (as2 := [.ref 111]) (rest2 := []) rfl rfl (sx_inv_v2 (mi := 211) (k := 245) (st := [.ref 111]) (w := w453) rfl rfl hI454.1.o111 rfl rfl rfl) rfl rfl rfl (y222 (p := q) hI454 ef452 ep450) (show _ = 113 from rfl) ?_
                            rintro r4 w516 ⟨⟨rfl, hv514⟩, hI517, hO515⟩
                            show sx_RP _ _ _ _ _ [.int 0] _ _
                            have hO518 := hO457.tr (HS.om hO515.hs)
                            refine sx_RP.ret (r := (some (.int 0))) rfl rfl ?_
                            have eg : gwT n X q = -1 := by simp only [gwT, c1, c27, c53, c79, c105, c131, c184, c237, c290, c343, c396, c449, if_true, if_false, Bool.false_eq_true, ite_true, ite_false, true_or, or_true, or_false, false_or]
                            have ek : kwT n X q = -1 := by simp only [kwT, c1, c27, c53, c79, c105, c131, c184, c237, c290, c343, c396, c449, if_true, if_false, Bool.false_eq_true, ite_true, ite_false, true_or, or_true, or_false, false_or]
                            have eR : itT n X q b = (false, q, b) := by unfold itT; rw [eg, if_pos rfl, ek, if_pos rfl, if_pos c449]; unfold disT; rw [if_neg (by omega)]
                            rw [eR]
                            exact ⟨⟨rfl, RdM.f hv514⟩, hI517, hO518⟩
                        · refine sx_RP.callp (as2 := [.ref 111, .float 104]) (rest2 := []) rfl rfl (sx_inv_v2 (mi := 211) (k := 239) (st := [.float 104, .ref 111]) (w := w443) rfl rfl hI444.1.o111 rfl rfl rfl) rfl rfl rfl (y214f (k := (104 : UInt32)) (m := 4) hI444 hM446 hpl ep440 (by decide) rfl (by decide) (by decide) hP445 c449) (show _ = 95 from rfl) ?_
                          rintro r4 w522 ⟨⟨rfl, ep519⟩, hI523, hO520⟩
                          show sx_RP _ _ _ _ _ [.int 0] _ _
                          have ef521 := (hO520.2 13 (by decide)).trans ef442
                          have hP524 : rE blk n X q = q := by rw [← hP445]; exact rE_rE
                          have hM525 := hM446.hs (hO520.hs)
                          have hO526 := hO447.tr (HS.om (hO520.hs))
                          have hB527 : rowB (ia w522 112) = b := by rw [HS.row (hO520.hs)]; exact hB448
                          refine sx_RP.step (pc2 := 114) (ls2 := [(1, .int 6), (0, .ref 111)]) (st2 := []) (w3 := w522) rfl rfl ?_
                          refine sx_RP.step (pc2 := 115) (ls2 := [(1, .int 6), (0, .ref 111)]) (st2 := [.ref 111]) (w3 := w522) rfl rfl ?_
                          refine sx_RP.step (pc2 := 118) (ls2 := [(1, .int 6), (0, .ref 111)]) (st2 := [.float 104, .ref 111]) (w3 := w522) rfl rfl ?_
                          refine sx_RP.callp (as2 := [.ref 111, .float 104]) (rest2 := []) rfl rfl (sx_inv_v2 (mi := 211) (k := 243) (st := [.float 104, .ref 111]) (w := w522) rfl rfl hI523.1.o111 rfl rfl rfl) rfl rfl rfl (y213f (k := (104 : UInt32)) (m := 4) hI523 hM525 hpl ep519 ef521 (by decide) rfl (by decide) (by decide) hP524 c449) (show _ = 121 from rfl) ?_
                          rintro r4 w532 ⟨⟨rfl, ep529⟩, hI533, hO530⟩
                          show sx_RP _ _ _ _ _ [.int 0] _ _
                          have ef531 := (hO530.2 13 (by decide)).trans ef521
                          have hP534 : rE blk n X q = q := by rw [← hP524]; exact rE_rE
                          have hM535 := hM525.hs (hO530.hs)
                          have hO536 := hO526.tr (HS.om (hO530.hs))
                          have hB537 : rowB (ia w532 112) = b := by rw [HS.row (hO530.hs)]; exact hB527
                          refine sx_RP.step (pc2 := 167) (ls2 := [(1, .int 6), (0, .ref 111)]) (st2 := []) (w3 := w532) rfl rfl ?_
                          refine sx_RP.step (pc2 := 168) (ls2 := [(1, .int 6), (0, .ref 111)]) (st2 := [.ref 111]) (w3 := w532) rfl rfl ?_
                          refine sx_RP.step (pc2 := 171) (ls2 := [(1, .int 6), (0, .ref 111)]) (st2 := [.float 101, .ref 111]) (w3 := w532) rfl rfl ?_
                          rcases Bool.eq_false_or_eq_true (wdT n X q (101 : UInt32)) with c538 | c538
                          · refine sx_RP.callp (as2 := [.ref 111, .float 101]) (rest2 := []) rfl rfl (sx_inv_v2 (mi := 211) (k := 282) (st := [.float 101, .ref 111]) (w := w532) rfl rfl hI533.1.o111 rfl rfl rfl) rfl rfl rfl (y228t (k := (101 : UInt32)) (m := 5) hI533 hM535 hpl ep529 ef531 (by decide) rfl (by decide) (by decide) hP534 c538) (show _ = 174 from rfl) ?_
                            rintro r4 w542 ⟨⟨rfl, ep539, ef541⟩, hI543, hO540⟩
                            show sx_RP _ _ _ _ _ [.int 1] _ _
                            have hp544 : beT n X q ≤ n := beT_le hpl
                            have hp545 : nP n X q ≤ n := rE_le hp544
                            have hP546 : rE blk n X (beT n X q) = nP n X q := rfl
                            have hM547 := hM535.hs (hO540)
                            have hO548 := hO536.tr (HS.om (hO540))
                            have hB549 : rowB (ia w542 112) = b := by rw [HS.row (hO540)]; exact hB537
                            refine sx_RP.step (pc2 := 177) (ls2 := [(1, .int 6), (0, .ref 111)]) (st2 := []) (w3 := w542) rfl rfl ?_
                            refine sx_RP.step (pc2 := 178) (ls2 := [(1, .int 6), (0, .ref 111)]) (st2 := [.ref 111]) (w3 := w542) rfl rfl ?_
                            refine sx_RP.callp (as2 := [.ref 111]) (rest2 := []) rfl rfl (sx_inv_v2 (mi := 211) (k := 330) (st := [.ref 111]) (w := w542) rfl rfl hI543.1.o111 rfl rfl rfl) rfl rfl rfl (y229 hI543 hM547 hp544 ep539 ef541 hP546 hB549) (show _ = 181 from rfl) ?_
                            rintro r4 w552 ⟨⟨rfl, hr550⟩, hI553, hO551⟩
                            show sx_RP _ _ _ _ _ [.int (b01 (breS n X (nP n X q) b).1)] _ _
                            have hO554 := hO548.tr hO551
                            refine sx_RP.br (p1 := 188) (l1 := [(1, .int 6), (0, .ref 111)]) (s1 := []) (v1 := w552) (p2 := 184) (l2 := [(1, .int 6), (0, .ref 111)]) (s2 := []) (v2 := w552) rfl rfl (fun q555 => ?_) (fun q555 => ?_)
                            · replace q555 := of_decide_eq_true q555
                              refine sx_RP.step (pc2 := 189) (ls2 := [(1, .int 6), (0, .ref 111)]) (st2 := [.int 0]) (w3 := w552) rfl rfl ?_
                              refine sx_RP.ret (r := (some (.int 0))) rfl rfl ?_
                              have eg : gwT n X q = -1 := by simp only [gwT, c1, c27, c53, c79, c105, c131, c184, c237, c290, c343, c396, c449, c538, if_true, if_false, Bool.false_eq_true, ite_true, ite_false, true_or, or_true, or_false, false_or]
                              have ek : kwT n X q = -1 := by simp only [kwT, c1, c27, c53, c79, c105, c131, c184, c237, c290, c343, c396, c449, c538, if_true, if_false, Bool.false_eq_true, ite_true, ite_false, true_or, or_true, or_false, false_or]
                              have eR : itT n X q b = breS n X (nP n X q) b := by unfold itT; rw [eg, if_pos rfl, ek, if_pos rfl, if_neg (by rw [c449]; decide), if_pos c538]; rfl
                              rw [eR]
                              exact ⟨⟨by rw [b01_f q555]; rfl, hr550⟩, hI553, hO554⟩
                            · replace q555 := of_decide_eq_false q555
                              refine sx_RP.step (pc2 := 185) (ls2 := [(1, .int 6), (0, .ref 111)]) (st2 := [.int 1]) (w3 := w552) rfl rfl ?_
                              refine sx_RP.step (pc2 := 189) (ls2 := [(1, .int 6), (0, .ref 111)]) (st2 := [.int 1]) (w3 := w552) rfl rfl ?_
                              refine sx_RP.ret (r := (some (.int 1))) rfl rfl ?_
                              have eg : gwT n X q = -1 := by simp only [gwT, c1, c27, c53, c79, c105, c131, c184, c237, c290, c343, c396, c449, c538, if_true, if_false, Bool.false_eq_true, ite_true, ite_false, true_or, or_true, or_false, false_or]
                              have ek : kwT n X q = -1 := by simp only [kwT, c1, c27, c53, c79, c105, c131, c184, c237, c290, c343, c396, c449, c538, if_true, if_false, Bool.false_eq_true, ite_true, ite_false, true_or, or_true, or_false, false_or]
                              have eR : itT n X q b = breS n X (nP n X q) b := by unfold itT; rw [eg, if_pos rfl, ek, if_pos rfl, if_neg (by rw [c449]; decide), if_pos c538]; rfl
                              rw [eR]
                              exact ⟨⟨by rw [b01_t q555]; rfl, hr550⟩, hI553, hO554⟩
                          · refine sx_RP.callp (as2 := [.ref 111, .float 101]) (rest2 := []) rfl rfl (sx_inv_v2 (mi := 211) (k := 282) (st := [.float 101, .ref 111]) (w := w532) rfl rfl hI533.1.o111 rfl rfl rfl) rfl rfl rfl (y228f (k := (101 : UInt32)) (m := 5) hI533 hM535 hpl ep529 ef531 (by decide) rfl (by decide) (by decide) hP534 c538) (show _ = 174 from rfl) ?_
                            rintro r4 w559 ⟨⟨rfl, ep556⟩, hI560, hO557⟩
                            show sx_RP _ _ _ _ _ [.int 0] _ _
                            have hO561 := hO536.tr (HS.om hO557)
                            refine sx_RP.step (pc2 := 188) (ls2 := [(1, .int 6), (0, .ref 111)]) (st2 := []) (w3 := w559) rfl rfl ?_
                            refine sx_RP.step (pc2 := 189) (ls2 := [(1, .int 6), (0, .ref 111)]) (st2 := [.int 0]) (w3 := w559) rfl rfl ?_
                            refine sx_RP.ret (r := (some (.int 0))) rfl rfl ?_
                            have eg : gwT n X q = -1 := by simp only [gwT, c1, c27, c53, c79, c105, c131, c184, c237, c290, c343, c396, c449, c538, if_true, if_false, Bool.false_eq_true, ite_true, ite_false, true_or, or_true, or_false, false_or]
                            have ek : kwT n X q = -1 := by simp only [kwT, c1, c27, c53, c79, c105, c131, c184, c237, c290, c343, c396, c449, c538, if_true, if_false, Bool.false_eq_true, ite_true, ite_false, true_or, or_true, or_false, false_or]
                            have eR : itT n X q b = (false, q, b) := by unfold itT; rw [eg, if_pos rfl, ek, if_pos rfl, if_neg (by rw [c449]; decide), if_neg (by rw [c538]; decide)]
                            rw [eR]
                            exact ⟨⟨rfl, RdM.f ep556⟩, hI560, hO561⟩
