-- 89u.siege.lean.txt
section
theorem row_dlen {w : List sx_C} {b : BB} {u : Nat} (hI : WI w) (hB : rowB (ia w 112) = b) (hu : b.2.1.length = u) (h : u ≤ 10) : (ia w 112).getD 2 0 = nI u := by
  obtain ⟨j, hj, e⟩ := (hI.sA (a := 112) (by decide) 2 (by decide)).2.1 rfl
  have z : (rowB (ia w 112)).2.1.length = j := by
    unfold rowB
    rw [mkB_len2, e, iN_n (by omega)]
  rw [e, ← hu, ← hB, z]
theorem b01_in (b : Bool) : inR (b01 b) 1 := by
  cases b
  · exact ⟨0, by decide, rfl⟩
  · exact ⟨1, by decide, rfl⟩
set_option maxRecDepth 20000 in
set_option maxHeartbeats 4000000 in
theorem y211 {xs : Option (List Int32)} {d : Nat} {w : List sx_C} (hI : WI w) {n h q : Nat} {X : Nat → Nat} {b : BB} (hM : MT n X w) (hp : h ≤ n) (ep : fi w 111 12 = nI h) (ef : fi w 111 13 = -1) (hP : rE blk n X h = q) (hB : rowB (ia w 112) = b) {u m : Nat} (hu : b.1.length = u) (hm : b.2.1.length = m) (hu10 : u ≤ 10) (hm9 : m ≤ 9) : sx_RP xs (d + 7) 211 0 (lv_args 0 [.ref 111]) [] w (fun r w2 => (r = some (.int (b01 (itT n X q b).1)) ∧ RdM n X (itT n X q b) w2) ∧ WI w2 ∧ OM w w2) := by
  have hn := hM.2.1
  have hpl : q ≤ n := by rw [← hP]; exact rE_le hp
  refine sx_RP.step (pc2 := 1) (ls2 := [(0, .ref 111)]) (st2 := [.int 0]) (w3 := w) rfl rfl ?_
  refine sx_RP.step (pc2 := 2) (ls2 := [(1, .int 0), (0, .ref 111)]) (st2 := []) (w3 := w) rfl rfl ?_
  refine sx_RP.step (pc2 := 3) (ls2 := [(1, .int 0), (0, .ref 111)]) (st2 := [.int 0]) (w3 := w) rfl rfl ?_
  refine sx_RP.step (pc2 := 4) (ls2 := [(1, .int 0), (0, .ref 111)]) (st2 := [.int 5, .int 0]) (w3 := w) rfl rfl ?_
  refine sx_RP.step (pc2 := 7) (ls2 := [(1, .int 0), (0, .ref 111)]) (st2 := []) (w3 := w) rfl rfl ?_
  refine sx_RP.step (pc2 := 8) (ls2 := [(1, .int 0), (0, .ref 111)]) (st2 := [.ref 111]) (w3 := w) rfl rfl ?_
  refine sx_RP.step (pc2 := 9) (ls2 := [(1, .int 0), (0, .ref 111)]) (st2 := [.int 0, .ref 111]) (w3 := w) rfl rfl ?_
  refine sx_RP.cu (as := [.int 0]) (rest2 := [.ref 111]) (st3 := [.float 102, .ref 111]) rfl rfl rfl rfl rfl (p212_0) rfl ?_
  rcases Bool.eq_false_or_eq_true (wdT n X q (102 : UInt32)) with c1 | c1
  · refine sx_RP.callp (as2 := [.ref 111, .float 102]) (rest2 := []) rfl rfl (sx_inv_v2 (mi := 211) (k := 243) (st := [.float 102, .ref 111]) (w := w) rfl rfl hI.1.o111 rfl rfl rfl) rfl rfl rfl (y213t (k := (102 : UInt32)) (m := 4) hI hM hp ep ef (by decide) rfl (by decide) (by decide) hP c1) (show _ = 15 from rfl) ?_
    rintro r4 w5 ⟨⟨rfl, ep2⟩, hI6, hO3⟩
    show sx_RP _ _ _ _ _ [.int 1] _ _
    have ef4 := (hO3.2 13 (by decide)).trans ef
    have hp7 : beT n X q ≤ n := beT_le hpl
    have hp8 : nP n X q ≤ n := rE_le hp7
    have hP9 : rE blk n X (beT n X q) = nP n X q := rfl
    have hM10 := hM.hs (hO3.hs)
    have hO11 := OM.rf.tr (HS.om (hO3.hs))
    have hB12 : rowB (ia w5 112) = b := by rw [HS.row (hO3.hs)]; exact hB
    refine sx_RP.step (pc2 := 18) (ls2 := [(1, .int 0), (0, .ref 111)]) (st2 := []) (w3 := w5) rfl rfl ?_
    refine sx_RP.step (pc2 := 19) (ls2 := [(1, .int 0), (0, .ref 111)]) (st2 := [.ref 111]) (w3 := w5) rfl rfl ?_
    refine sx_RP.step (pc2 := 20) (ls2 := [(1, .int 0), (0, .ref 111)]) (st2 := [.int 0, .ref 111]) (w3 := w5) rfl rfl ?_
    refine sx_RP.callp (as2 := [.ref 111, .int 0]) (rest2 := []) rfl rfl (sx_inv_v2 (mi := 211) (k := 318) (st := [.int 0, .ref 111]) (w := w5) rfl rfl hI6.1.o111 rfl rfl rfl) rfl rfl rfl (y219 (u := 0) hI6 hM10 hp7 ep2 ef4 hP9 hB12 (by decide)) (show _ = 23 from rfl) ?_
    rintro r4 w15 ⟨⟨rfl, hr13⟩, hI16, hO14⟩
    show sx_RP _ _ _ _ _ [.int (b01 (groS n X (nP n X q) b).1)] _ _
    have hO17 := hO11.tr hO14
    refine sx_RP.ret (r := (some (.int (b01 (groS n X (nP n X q) b).1)))) rfl (bo_ret rfl (b01_in _)) ?_
    have eg : gwT n X q = 0 := by simp only [gwT, c1, if_true, if_false, Bool.false_eq_true, ite_true, ite_false, true_or, or_true, or_false, false_or]
    have eR : itT n X q b = groS n X (nP n X q) b := by unfold itT; rw [eg, if_neg (by decide)]; rfl
    rw [eR]
    exact ⟨⟨rfl, hr13⟩, hI16, hO17⟩
  · refine sx_RP.callp (as2 := [.ref 111, .float 102]) (rest2 := []) rfl rfl (sx_inv_v2 (mi := 211) (k := 243) (st := [.float 102, .ref 111]) (w := w) rfl rfl hI.1.o111 rfl rfl rfl) rfl rfl rfl (y213f (k := (102 : UInt32)) (m := 4) hI hM hp ep ef (by decide) rfl (by decide) (by decide) hP c1) (show _ = 15 from rfl) ?_
    rintro r4 w21 ⟨⟨rfl, ep18⟩, hI22, hO19⟩
    show sx_RP _ _ _ _ _ [.int 0] _ _
    have ef20 := (hO19.2 13 (by decide)).trans ef
    have hP23 : rE blk n X q = q := by rw [← hP]; exact rE_rE
    have hM24 := hM.hs (hO19.hs)
    have hO25 := OM.rf.tr (HS.om (hO19.hs))
    have hB26 : rowB (ia w21 112) = b := by rw [HS.row (hO19.hs)]; exact hB
    refine sx_RP.step (pc2 := 24) (ls2 := [(1, .int 0), (0, .ref 111)]) (st2 := []) (w3 := w21) rfl rfl ?_
    refine sx_RP.step (pc2 := 27) (ls2 := [(1, .int 1), (0, .ref 111)]) (st2 := []) (w3 := w21) rfl rfl ?_
    refine sx_RP.step (pc2 := 2) (ls2 := [(1, .int 1), (0, .ref 111)]) (st2 := []) (w3 := w21) rfl rfl ?_
    refine sx_RP.step (pc2 := 3) (ls2 := [(1, .int 1), (0, .ref 111)]) (st2 := [.int 1]) (w3 := w21) rfl rfl ?_
    refine sx_RP.step (pc2 := 4) (ls2 := [(1, .int 1), (0, .ref 111)]) (st2 := [.int 5, .int 1]) (w3 := w21) rfl rfl ?_
    refine sx_RP.step (pc2 := 7) (ls2 := [(1, .int 1), (0, .ref 111)]) (st2 := []) (w3 := w21) rfl rfl ?_
    refine sx_RP.step (pc2 := 8) (ls2 := [(1, .int 1), (0, .ref 111)]) (st2 := [.ref 111]) (w3 := w21) rfl rfl ?_
    refine sx_RP.step (pc2 := 9) (ls2 := [(1, .int 1), (0, .ref 111)]) (st2 := [.int 1, .ref 111]) (w3 := w21) rfl rfl ?_
    refine sx_RP.cu (as := [.int 1]) (rest2 := [.ref 111]) (st3 := [.float 113, .ref 111]) rfl rfl rfl rfl rfl (p212_1) rfl ?_
    rcases Bool.eq_false_or_eq_true (wdT n X q (113 : UInt32)) with c27 | c27
    · refine sx_RP.callp (as2 := [.ref 111, .float 113]) (rest2 := []) rfl rfl (sx_inv_v2 (mi := 211) (k := 243) (st := [.float 113, .ref 111]) (w := w21) rfl rfl hI22.1.o111 rfl rfl rfl) rfl rfl rfl (y213t (k := (113 : UInt32)) (m := 4) hI22 hM24 hpl ep18 ef20 (by decide) rfl (by decide) (by decide) hP23 c27) (show _ = 15 from rfl) ?_
      rintro r4 w31 ⟨⟨rfl, ep28⟩, hI32, hO29⟩
      show sx_RP _ _ _ _ _ [.int 1] _ _
      have ef30 := (hO29.2 13 (by decide)).trans ef20
      have hp33 : beT n X q ≤ n := beT_le hpl
      have hp34 : nP n X q ≤ n := rE_le hp33
      have hP35 : rE blk n X (beT n X q) = nP n X q := rfl
      have hM36 := hM24.hs (hO29.hs)
      have hO37 := hO25.tr (HS.om (hO29.hs))
      have hB38 : rowB (ia w31 112) = b := by rw [HS.row (hO29.hs)]; exact hB26
      refine sx_RP.step (pc2 := 18) (ls2 := [(1, .int 1), (0, .ref 111)]) (st2 := []) (w3 := w31) rfl rfl ?_
      refine sx_RP.step (pc2 := 19) (ls2 := [(1, .int 1), (0, .ref 111)]) (st2 := [.ref 111]) (w3 := w31) rfl rfl ?_
      refine sx_RP.step (pc2 := 20) (ls2 := [(1, .int 1), (0, .ref 111)]) (st2 := [.int 1, .ref 111]) (w3 := w31) rfl rfl ?_
      refine sx_RP.callp (as2 := [.ref 111, .int 1]) (rest2 := []) rfl rfl (sx_inv_v2 (mi := 211) (k := 318) (st := [.int 1, .ref 111]) (w := w31) rfl rfl hI32.1.o111 rfl rfl rfl) rfl rfl rfl (y219 (u := 1) hI32 hM36 hp33 ep28 ef30 hP35 hB38 (by decide)) (show _ = 23 from rfl) ?_
      rintro r4 w41 ⟨⟨rfl, hr39⟩, hI42, hO40⟩
      show sx_RP _ _ _ _ _ [.int (b01 (groS n X (nP n X q) b).1)] _ _
      have hO43 := hO37.tr hO40
      refine sx_RP.ret (r := (some (.int (b01 (groS n X (nP n X q) b).1)))) rfl (bo_ret rfl (b01_in _)) ?_
      have eg : gwT n X q = 1 := by simp only [gwT, c1, c27, if_true, if_false, Bool.false_eq_true, ite_true, ite_false, true_or, or_true, or_false, false_or]
      have eR : itT n X q b = groS n X (nP n X q) b := by unfold itT; rw [eg, if_neg (by decide)]; rfl
      rw [eR]
      exact ⟨⟨rfl, hr39⟩, hI42, hO43⟩
    · refine sx_RP.callp (as2 := [.ref 111, .float 113]) (rest2 := []) rfl rfl (sx_inv_v2 (mi := 211) (k := 243) (st := [.float 113, .ref 111]) (w := w21) rfl rfl hI22.1.o111 rfl rfl rfl) rfl rfl rfl (y213f (k := (113 : UInt32)) (m := 4) hI22 hM24 hpl ep18 ef20 (by decide) rfl (by decide) (by decide) hP23 c27) (show _ = 15 from rfl) ?_
      rintro r4 w47 ⟨⟨rfl, ep44⟩, hI48, hO45⟩
      show sx_RP _ _ _ _ _ [.int 0] _ _
      have ef46 := (hO45.2 13 (by decide)).trans ef20
      have hP49 : rE blk n X q = q := by rw [← hP23]; exact rE_rE
      have hM50 := hM24.hs (hO45.hs)
      have hO51 := hO25.tr (HS.om (hO45.hs))
      have hB52 : rowB (ia w47 112) = b := by rw [HS.row (hO45.hs)]; exact hB26
      refine sx_RP.step (pc2 := 24) (ls2 := [(1, .int 1), (0, .ref 111)]) (st2 := []) (w3 := w47) rfl rfl ?_
      refine sx_RP.step (pc2 := 27) (ls2 := [(1, .int 2), (0, .ref 111)]) (st2 := []) (w3 := w47) rfl rfl ?_
      refine sx_RP.step (pc2 := 2) (ls2 := [(1, .int 2), (0, .ref 111)]) (st2 := []) (w3 := w47) rfl rfl ?_
      refine sx_RP.step (pc2 := 3) (ls2 := [(1, .int 2), (0, .ref 111)]) (st2 := [.int 2]) (w3 := w47) rfl rfl ?_
      refine sx_RP.step (pc2 := 4) (ls2 := [(1, .int 2), (0, .ref 111)]) (st2 := [.int 5, .int 2]) (w3 := w47) rfl rfl ?_
      refine sx_RP.step (pc2 := 7) (ls2 := [(1, .int 2), (0, .ref 111)]) (st2 := []) (w3 := w47) rfl rfl ?_
      refine sx_RP.step (pc2 := 8) (ls2 := [(1, .int 2), (0, .ref 111)]) (st2 := [.ref 111]) (w3 := w47) rfl rfl ?_
      refine sx_RP.step (pc2 := 9) (ls2 := [(1, .int 2), (0, .ref 111)]) (st2 := [.int 2, .ref 111]) (w3 := w47) rfl rfl ?_
      refine sx_RP.cu (as := [.int 2]) (rest2 := [.ref 111]) (st3 := [.float 112, .ref 111]) rfl rfl rfl rfl rfl (p212_2) rfl ?_
      rcases Bool.eq_false_or_eq_true (wdT n X q (112 : UInt32)) with c53 | c53
      · refine sx_RP.callp (as2 := [.ref 111, .float 112]) (rest2 := []) rfl rfl (sx_inv_v2 (mi := 211) (k := 243) (st := [.float 112, .ref 111]) (w := w47) rfl rfl hI48.1.o111 rfl rfl rfl) rfl rfl rfl (y213t (k := (112 : UInt32)) (m := 4) hI48 hM50 hpl ep44 ef46 (by decide) rfl (by decide) (by decide) hP49 c53) (show _ = 15 from rfl) ?_
        rintro r4 w57 ⟨⟨rfl, ep54⟩, hI58, hO55⟩
        show sx_RP _ _ _ _ _ [.int 1] _ _
        have ef56 := (hO55.2 13 (by decide)).trans ef46
        have hp59 : beT n X q ≤ n := beT_le hpl
        have hp60 : nP n X q ≤ n := rE_le hp59
        have hP61 : rE blk n X (beT n X q) = nP n X q := rfl
        have hM62 := hM50.hs (hO55.hs)
        have hO63 := hO51.tr (HS.om (hO55.hs))
        have hB64 : rowB (ia w57 112) = b := by rw [HS.row (hO55.hs)]; exact hB52
        refine sx_RP.step (pc2 := 18) (ls2 := [(1, .int 2), (0, .ref 111)]) (st2 := []) (w3 := w57) rfl rfl ?_
        refine sx_RP.step (pc2 := 19) (ls2 := [(1, .int 2), (0, .ref 111)]) (st2 := [.ref 111]) (w3 := w57) rfl rfl ?_
        refine sx_RP.step (pc2 := 20) (ls2 := [(1, .int 2), (0, .ref 111)]) (st2 := [.int 2, .ref 111]) (w3 := w57) rfl rfl ?_
        refine sx_RP.callp (as2 := [.ref 111, .int 2]) (rest2 := []) rfl rfl (sx_inv_v2 (mi := 211) (k := 318) (st := [.int 2, .ref 111]) (w := w57) rfl rfl hI58.1.o111 rfl rfl rfl) rfl rfl rfl (y219 (u := 2) hI58 hM62 hp59 ep54 ef56 hP61 hB64 (by decide)) (show _ = 23 from rfl) ?_
        rintro r4 w67 ⟨⟨rfl, hr65⟩, hI68, hO66⟩
        show sx_RP _ _ _ _ _ [.int (b01 (groS n X (nP n X q) b).1)] _ _
        have hO69 := hO63.tr hO66
        refine sx_RP.ret (r := (some (.int (b01 (groS n X (nP n X q) b).1)))) rfl (bo_ret rfl (b01_in _)) ?_
        have eg : gwT n X q = 2 := by simp only [gwT, c1, c27, c53, if_true, if_false, Bool.false_eq_true, ite_true, ite_false, true_or, or_true, or_false, false_or]
        have eR : itT n X q b = groS n X (nP n X q) b := by unfold itT; rw [eg, if_neg (by decide)]; rfl
        rw [eR]
        exact ⟨⟨rfl, hr65⟩, hI68, hO69⟩
      · refine sx_RP.callp (as2 := [.ref 111, .float 112]) (rest2 := []) rfl rfl (sx_inv_v2 (mi := 211) (k := 243) (st := [.float 112, .ref 111]) (w := w47) rfl rfl hI48.1.o111 rfl rfl rfl) rfl rfl rfl (y213f (k := (112 : UInt32)) (m := 4) hI48 hM50 hpl ep44 ef46 (by decide) rfl (by decide) (by decide) hP49 c53) (show _ = 15 from rfl) ?_
        rintro r4 w73 ⟨⟨rfl, ep70⟩, hI74, hO71⟩
        show sx_RP _ _ _ _ _ [.int 0] _ _
        have ef72 := (hO71.2 13 (by decide)).trans ef46
        have hP75 : rE blk n X q = q := by rw [← hP49]; exact rE_rE
        have hM76 := hM50.hs (hO71.hs)
        have hO77 := hO51.tr (HS.om (hO71.hs))
        have hB78 : rowB (ia w73 112) = b := by rw [HS.row (hO71.hs)]; exact hB52
        refine sx_RP.step (pc2 := 24) (ls2 := [(1, .int 2), (0, .ref 111)]) (st2 := []) (w3 := w73) rfl rfl ?_
        refine sx_RP.step (pc2 := 27) (ls2 := [(1, .int 3), (0, .ref 111)]) (st2 := []) (w3 := w73) rfl rfl ?_
        refine sx_RP.step (pc2 := 2) (ls2 := [(1, .int 3), (0, .ref 111)]) (st2 := []) (w3 := w73) rfl rfl ?_
        refine sx_RP.step (pc2 := 3) (ls2 := [(1, .int 3), (0, .ref 111)]) (st2 := [.int 3]) (w3 := w73) rfl rfl ?_
        refine sx_RP.step (pc2 := 4) (ls2 := [(1, .int 3), (0, .ref 111)]) (st2 := [.int 5, .int 3]) (w3 := w73) rfl rfl ?_
        refine sx_RP.step (pc2 := 7) (ls2 := [(1, .int 3), (0, .ref 111)]) (st2 := []) (w3 := w73) rfl rfl ?_
        refine sx_RP.step (pc2 := 8) (ls2 := [(1, .int 3), (0, .ref 111)]) (st2 := [.ref 111]) (w3 := w73) rfl rfl ?_
        refine sx_RP.step (pc2 := 9) (ls2 := [(1, .int 3), (0, .ref 111)]) (st2 := [.int 3, .ref 111]) (w3 := w73) rfl rfl ?_
        refine sx_RP.cu (as := [.int 3]) (rest2 := [.ref 111]) (st3 := [.float 118, .ref 111]) rfl rfl rfl rfl rfl (p212_3) rfl ?_
        rcases Bool.eq_false_or_eq_true (wdT n X q (118 : UInt32)) with c79 | c79
        · refine sx_RP.callp (as2 := [.ref 111, .float 118]) (rest2 := []) rfl rfl (sx_inv_v2 (mi := 211) (k := 243) (st := [.float 118, .ref 111]) (w := w73) rfl rfl hI74.1.o111 rfl rfl rfl) rfl rfl rfl (y213t (k := (118 : UInt32)) (m := 5) hI74 hM76 hpl ep70 ef72 (by decide) rfl (by decide) (by decide) hP75 c79) (show _ = 15 from rfl) ?_
          rintro r4 w83 ⟨⟨rfl, ep80⟩, hI84, hO81⟩
          show sx_RP _ _ _ _ _ [.int 1] _ _
          have ef82 := (hO81.2 13 (by decide)).trans ef72
          have hp85 : beT n X q ≤ n := beT_le hpl
          have hp86 : nP n X q ≤ n := rE_le hp85
          have hP87 : rE blk n X (beT n X q) = nP n X q := rfl
          have hM88 := hM76.hs (hO81.hs)
          have hO89 := hO77.tr (HS.om (hO81.hs))
          have hB90 : rowB (ia w83 112) = b := by rw [HS.row (hO81.hs)]; exact hB78
          refine sx_RP.step (pc2 := 18) (ls2 := [(1, .int 3), (0, .ref 111)]) (st2 := []) (w3 := w83) rfl rfl ?_
          refine sx_RP.step (pc2 := 19) (ls2 := [(1, .int 3), (0, .ref 111)]) (st2 := [.ref 111]) (w3 := w83) rfl rfl ?_
          refine sx_RP.step (pc2 := 20) (ls2 := [(1, .int 3), (0, .ref 111)]) (st2 := [.int 3, .ref 111]) (w3 := w83) rfl rfl ?_
          refine sx_RP.callp (as2 := [.ref 111, .int 3]) (rest2 := []) rfl rfl (sx_inv_v2 (mi := 211) (k := 318) (st := [.int 3, .ref 111]) (w := w83) rfl rfl hI84.1.o111 rfl rfl rfl) rfl rfl rfl (y219 (u := 3) hI84 hM88 hp85 ep80 ef82 hP87 hB90 (by decide)) (show _ = 23 from rfl) ?_
          rintro r4 w93 ⟨⟨rfl, hr91⟩, hI94, hO92⟩
          show sx_RP _ _ _ _ _ [.int (b01 (groS n X (nP n X q) b).1)] _ _
          have hO95 := hO89.tr hO92
          refine sx_RP.ret (r := (some (.int (b01 (groS n X (nP n X q) b).1)))) rfl (bo_ret rfl (b01_in _)) ?_
          have eg : gwT n X q = 3 := by simp only [gwT, c1, c27, c53, c79, if_true, if_false, Bool.false_eq_true, ite_true, ite_false, true_or, or_true, or_false, false_or]
          have eR : itT n X q b = groS n X (nP n X q) b := by unfold itT; rw [eg, if_neg (by decide)]; rfl
          rw [eR]
          exact ⟨⟨rfl, hr91⟩, hI94, hO95⟩
        · refine sx_RP.callp (as2 := [.ref 111, .float 118]) (rest2 := []) rfl rfl (sx_inv_v2 (mi := 211) (k := 243) (st := [.float 118, .ref 111]) (w := w73) rfl rfl hI74.1.o111 rfl rfl rfl) rfl rfl rfl (y213f (k := (118 : UInt32)) (m := 5) hI74 hM76 hpl ep70 ef72 (by decide) rfl (by decide) (by decide) hP75 c79) (show _ = 15 from rfl) ?_
          rintro r4 w99 ⟨⟨rfl, ep96⟩, hI100, hO97⟩
          show sx_RP _ _ _ _ _ [.int 0] _ _
          have ef98 := (hO97.2 13 (by decide)).trans ef72
          have hP101 : rE blk n X q = q := by rw [← hP75]; exact rE_rE
          have hM102 := hM76.hs (hO97.hs)
          have hO103 := hO77.tr (HS.om (hO97.hs))
          have hB104 : rowB (ia w99 112) = b := by rw [HS.row (hO97.hs)]; exact hB78
          refine sx_RP.step (pc2 := 24) (ls2 := [(1, .int 3), (0, .ref 111)]) (st2 := []) (w3 := w99) rfl rfl ?_
          refine sx_RP.step (pc2 := 27) (ls2 := [(1, .int 4), (0, .ref 111)]) (st2 := []) (w3 := w99) rfl rfl ?_
          refine sx_RP.step (pc2 := 2) (ls2 := [(1, .int 4), (0, .ref 111)]) (st2 := []) (w3 := w99) rfl rfl ?_
          refine sx_RP.step (pc2 := 3) (ls2 := [(1, .int 4), (0, .ref 111)]) (st2 := [.int 4]) (w3 := w99) rfl rfl ?_
          refine sx_RP.step (pc2 := 4) (ls2 := [(1, .int 4), (0, .ref 111)]) (st2 := [.int 5, .int 4]) (w3 := w99) rfl rfl ?_
          refine sx_RP.step (pc2 := 7) (ls2 := [(1, .int 4), (0, .ref 111)]) (st2 := []) (w3 := w99) rfl rfl ?_
          refine sx_RP.step (pc2 := 8) (ls2 := [(1, .int 4), (0, .ref 111)]) (st2 := [.ref 111]) (w3 := w99) rfl rfl ?_
          refine sx_RP.step (pc2 := 9) (ls2 := [(1, .int 4), (0, .ref 111)]) (st2 := [.int 4, .ref 111]) (w3 := w99) rfl rfl ?_
          refine sx_RP.cu (as := [.int 4]) (rest2 := [.ref 111]) (st3 := [.float 117, .ref 111]) rfl rfl rfl rfl rfl (p212_4) rfl ?_
          rcases Bool.eq_false_or_eq_true (wdT n X q (117 : UInt32)) with c105 | c105
          · refine sx_RP.callp (as2 := [.ref 111, .float 117]) (rest2 := []) rfl rfl (sx_inv_v2 (mi := 211) (k := 243) (st := [.float 117, .ref 111]) (w := w99) rfl rfl hI100.1.o111 rfl rfl rfl) rfl rfl rfl (y213t (k := (117 : UInt32)) (m := 4) hI100 hM102 hpl ep96 ef98 (by decide) rfl (by decide) (by decide) hP101 c105) (show _ = 15 from rfl) ?_
            rintro r4 w109 ⟨⟨rfl, ep106⟩, hI110, hO107⟩
            show sx_RP _ _ _ _ _ [.int 1] _ _
            have ef108 := (hO107.2 13 (by decide)).trans ef98
            have hp111 : beT n X q ≤ n := beT_le hpl
            have hp112 : nP n X q ≤ n := rE_le hp111
            have hP113 : rE blk n X (beT n X q) = nP n X q := rfl
            have hM114 := hM102.hs (hO107.hs)
            have hO115 := hO103.tr (HS.om (hO107.hs))
            have hB116 : rowB (ia w109 112) = b := by rw [HS.row (hO107.hs)]; exact hB104
            refine sx_RP.step (pc2 := 18) (ls2 := [(1, .int 4), (0, .ref 111)]) (st2 := []) (w3 := w109) rfl rfl ?_
            refine sx_RP.step (pc2 := 19) (ls2 := [(1, .int 4), (0, .ref 111)]) (st2 := [.ref 111]) (w3 := w109) rfl rfl ?_
            refine sx_RP.step (pc2 := 20) (ls2 := [(1, .int 4), (0, .ref 111)]) (st2 := [.int 4, .ref 111]) (w3 := w109) rfl rfl ?_
            refine sx_RP.callp (as2 := [.ref 111, .int 4]) (rest2 := []) rfl rfl (sx_inv_v2 (mi := 211) (k := 318) (st := [.int 4, .ref 111]) (w := w109) rfl rfl hI110.1.o111 rfl rfl rfl) rfl rfl rfl (y219 (u := 4) hI110 hM114 hp111 ep106 ef108 hP113 hB116 (by decide)) (show _ = 23 from rfl) ?_
            rintro r4 w119 ⟨⟨rfl, hr117⟩, hI120, hO118⟩
            show sx_RP _ _ _ _ _ [.int (b01 (groS n X (nP n X q) b).1)] _ _
            have hO121 := hO115.tr hO118
            refine sx_RP.ret (r := (some (.int (b01 (groS n X (nP n X q) b).1)))) rfl (bo_ret rfl (b01_in _)) ?_
            have eg : gwT n X q = 4 := by simp only [gwT, c1, c27, c53, c79, c105, if_true, if_false, Bool.false_eq_true, ite_true, ite_false, true_or, or_true, or_false, false_or]
            have eR : itT n X q b = groS n X (nP n X q) b := by unfold itT; rw [eg, if_neg (by decide)]; rfl
            rw [eR]
            exact ⟨⟨rfl, hr117⟩, hI120, hO121⟩
          · refine sx_RP.callp (as2 := [.ref 111, .float 117]) (rest2 := []) rfl rfl (sx_inv_v2 (mi := 211) (k := 243) (st := [.float 117, .ref 111]) (w := w99) rfl rfl hI100.1.o111 rfl rfl rfl) rfl rfl rfl (y213f (k := (117 : UInt32)) (m := 4) hI100 hM102 hpl ep96 ef98 (by decide) rfl (by decide) (by decide) hP101 c105) (show _ = 15 from rfl) ?_
            rintro r4 w125 ⟨⟨rfl, ep122⟩, hI126, hO123⟩
            show sx_RP _ _ _ _ _ [.int 0] _ _
            have ef124 := (hO123.2 13 (by decide)).trans ef98
            have hP127 : rE blk n X q = q := by rw [← hP101]; exact rE_rE
            have hM128 := hM102.hs (hO123.hs)
            have hO129 := hO103.tr (HS.om (hO123.hs))
            have hB130 : rowB (ia w125 112) = b := by rw [HS.row (hO123.hs)]; exact hB104
            refine sx_RP.step (pc2 := 24) (ls2 := [(1, .int 4), (0, .ref 111)]) (st2 := []) (w3 := w125) rfl rfl ?_
            refine sx_RP.step (pc2 := 27) (ls2 := [(1, .int 5), (0, .ref 111)]) (st2 := []) (w3 := w125) rfl rfl ?_
            refine sx_RP.step (pc2 := 2) (ls2 := [(1, .int 5), (0, .ref 111)]) (st2 := []) (w3 := w125) rfl rfl ?_
            refine sx_RP.step (pc2 := 3) (ls2 := [(1, .int 5), (0, .ref 111)]) (st2 := [.int 5]) (w3 := w125) rfl rfl ?_
            refine sx_RP.step (pc2 := 4) (ls2 := [(1, .int 5), (0, .ref 111)]) (st2 := [.int 5, .int 5]) (w3 := w125) rfl rfl ?_
            refine sx_RP.step (pc2 := 30) (ls2 := [(1, .int 5), (0, .ref 111)]) (st2 := []) (w3 := w125) rfl rfl ?_
            refine sx_RP.step (pc2 := 31) (ls2 := [(1, .int 5), (0, .ref 111)]) (st2 := [.int 0]) (w3 := w125) rfl rfl ?_
            refine sx_RP.step (pc2 := 32) (ls2 := [(1, .int 0), (0, .ref 111)]) (st2 := []) (w3 := w125) rfl rfl ?_
            refine sx_RP.step (pc2 := 33) (ls2 := [(1, .int 0), (0, .ref 111)]) (st2 := [.int 0]) (w3 := w125) rfl rfl ?_
            refine sx_RP.step (pc2 := 35) (ls2 := [(1, .int 0), (0, .ref 111)]) (st2 := [.int 6, .int 0]) (w3 := w125) rfl rfl ?_
            refine sx_RP.step (pc2 := 38) (ls2 := [(1, .int 0), (0, .ref 111)]) (st2 := []) (w3 := w125) rfl rfl ?_
            refine sx_RP.step (pc2 := 39) (ls2 := [(1, .int 0), (0, .ref 111)]) (st2 := [.ref 111]) (w3 := w125) rfl rfl ?_
            refine sx_RP.step (pc2 := 40) (ls2 := [(1, .int 0), (0, .ref 111)]) (st2 := [.int 0, .ref 111]) (w3 := w125) rfl rfl ?_
            refine sx_RP.cu (as := [.int 0]) (rest2 := [.ref 111]) (st3 := [.float 106, .ref 111]) rfl rfl rfl rfl rfl (p226_0) rfl ?_
            rcases Bool.eq_false_or_eq_true (wdT n X q (106 : UInt32)) with c131 | c131
            · refine sx_RP.callp (as2 := [.ref 111, .float 106]) (rest2 := []) rfl rfl (sx_inv_v2 (mi := 211) (k := 239) (st := [.float 106, .ref 111]) (w := w125) rfl rfl hI126.1.o111 rfl rfl rfl) rfl rfl rfl (y214t (k := (106 : UInt32)) (m := 7) hI126 hM128 hpl ep122 (by decide) rfl (by decide) (by decide) hP127 c131) (show _ = 46 from rfl) ?_
              rintro r4 w135 ⟨⟨rfl, ep132⟩, hI136, hO133⟩
              show sx_RP _ _ _ _ _ [.int 1] _ _
              have ef134 := (hO133.2 13 (by decide)).trans ef124
              have hP137 : rE blk n X q = q := by rw [← hP127]; exact rE_rE
              have hM138 := hM128.hs (hO133.hs)
              have hO139 := hO129.tr (HS.om (hO133.hs))
              have hB140 : rowB (ia w135 112) = b := by rw [HS.row (hO133.hs)]; exact hB130
              refine sx_RP.step (pc2 := 49) (ls2 := [(1, .int 0), (0, .ref 111)]) (st2 := []) (w3 := w135) rfl rfl ?_
              refine sx_RP.step (pc2 := 50) (ls2 := [(1, .int 0), (0, .ref 111)]) (st2 := [.ref 111]) (w3 := w135) rfl rfl ?_
              refine sx_RP.gf (v := .ref 112) rfl rfl hI136.1.o111 rfl rfl (show _ = 53 from rfl) ?_
              refine sx_RP.step (pc2 := 54) (ls2 := [(1, .int 0), (0, .ref 111)]) (st2 := [.int 1, .ref 112]) (w3 := w135) rfl rfl ?_
              have ex141 : (ia w135 112).getD 1 0 = nI u := row_len hI136 hB140 hu (by omega)
              refine sx_RP.ild (c := 1) rfl hI136.1.a112.1 hI136.1.a112.2 (sx_in_nI (show 1 < 172 by omega) (by decide)) (nI_clamp (by decide)) (show _ = 55 from rfl) ?_
              rw [ex141]
              refine sx_RP.step (pc2 := 57) (ls2 := [(1, .int 0), (0, .ref 111)]) (st2 := [.int 10, .int (nI u)]) (w3 := w135) rfl rfl ?_
              refine sx_RP.br (p1 := 65) (l1 := [(1, .int 0), (0, .ref 111)]) (s1 := []) (v1 := w135) (p2 := 60) (l2 := [(1, .int 0), (0, .ref 111)]) (s2 := []) (v2 := w135) rfl rfl (fun q142 => ?_) (fun q142 => ?_)
              · replace q142 := of_decide_eq_true q142
                replace q142 := mt (nI_eq (a := u) (b := 10) (by omega) (by omega)).mpr q142
                refine sx_RP.step (pc2 := 66) (ls2 := [(1, .int 0), (0, .ref 111)]) (st2 := [.ref 111]) (w3 := w135) rfl rfl ?_
                refine sx_RP.step (pc2 := 67) (ls2 := [(1, .int 0), (0, .ref 111)]) (st2 := [.int 0, .ref 111]) (w3 := w135) rfl rfl ?_
                refine sx_RP.cu (as := [.int 0]) (rest2 := [.ref 111]) (st3 := [.float 106, .ref 111]) rfl rfl rfl rfl rfl (p226_0) rfl ?_
                refine sx_RP.callp (as2 := [.ref 111, .float 106]) (rest2 := []) rfl rfl (sx_inv_v2 (mi := 211) (k := 243) (st := [.float 106, .ref 111]) (w := w135) rfl rfl hI136.1.o111 rfl rfl rfl) rfl rfl rfl (y213t (k := (106 : UInt32)) (m := 7) hI136 hM138 hpl ep132 ef134 (by decide) rfl (by decide) (by decide) hP137 c131) (show _ = 73 from rfl) ?_
                rintro r4 w147 ⟨⟨rfl, ep144⟩, hI148, hO145⟩
                show sx_RP _ _ _ _ _ [.int 1] _ _
                have ef146 := (hO145.2 13 (by decide)).trans ef134
                have hp149 : beT n X q ≤ n := beT_le hpl
                have hp150 : nP n X q ≤ n := rE_le hp149
                have hP151 : rE blk n X (beT n X q) = nP n X q := rfl
                have hM152 := hM138.hs (hO145.hs)
                have hO153 := hO139.tr (HS.om (hO145.hs))
                have hB154 : rowB (ia w147 112) = b := by rw [HS.row (hO145.hs)]; exact hB140
                refine sx_RP.step (pc2 := 76) (ls2 := [(1, .int 0), (0, .ref 111)]) (st2 := []) (w3 := w147) rfl rfl ?_
                refine sx_RP.step (pc2 := 77) (ls2 := [(1, .int 0), (0, .ref 111)]) (st2 := [.ref 111]) (w3 := w147) rfl rfl ?_
                refine sx_RP.step (pc2 := 78) (ls2 := [(1, .int 0), (0, .ref 111)]) (st2 := [.int 0, .ref 111]) (w3 := w147) rfl rfl ?_
                refine sx_RP.callp (as2 := [.ref 111, .int 0]) (rest2 := []) rfl rfl (sx_inv_v2 (mi := 211) (k := 323) (st := [.int 0, .ref 111]) (w := w147) rfl rfl hI148.1.o111 rfl rfl rfl) rfl rfl rfl (y227 (k := 0) hI148 hM152 hp149 ep144 ef146 hP151 hB154 (by decide) hu (by omega)) (show _ = 81 from rfl) ?_
                rintro r4 w157 ⟨⟨rfl, hr155⟩, hI158, hO156⟩
                show sx_RP _ _ _ _ _ [.int (b01 (galS n X 0 (nP n X q) b).1)] _ _
                have hO159 := hO153.tr hO156
                refine sx_RP.ret (r := (some (.int (b01 (galS n X 0 (nP n X q) b).1)))) rfl (bo_ret rfl (b01_in _)) ?_
                have eg : gwT n X q = -1 := by simp only [gwT, c1, c27, c53, c79, c105, c131, if_true, if_false, Bool.false_eq_true, ite_true, ite_false, true_or, or_true, or_false, false_or]
                have ek : kwT n X q = 0 := by simp only [kwT, c1, c27, c53, c79, c105, c131, if_true, if_false, Bool.false_eq_true, ite_true, ite_false, true_or, or_true, or_false, false_or]
                have eR : itT n X q b = galS n X 0 (nP n X q) b := by unfold itT; rw [eg, if_pos rfl, ek, if_neg (by decide)]; exact galT_S (by omega)
                rw [eR]
                exact ⟨⟨rfl, hr155⟩, hI158, hO159⟩
              · replace q142 := Decidable.not_not.mp (of_decide_eq_false q142)
                replace q142 := (nI_eq (a := u) (b := 10) (by omega) (by omega)).mp q142
                refine sx_RP.step (pc2 := 61) (ls2 := [(1, .int 0), (0, .ref 111)]) (st2 := [.ref 111]) (w3 := w135) rfl rfl ?_
                refine sx_RP.callp (as2 := [.ref 111]) (rest2 := []) rfl rfl (sx_inv_v2 (mi := 211) (k := 245) (st := [.ref 111]) (w := w135) rfl rfl hI136.1.o111 rfl rfl rfl) rfl rfl rfl (y222 (p := q) hI136 ef134 ep132) (show _ = 64 from rfl) ?_
                rintro r4 w162 ⟨⟨rfl, hv160⟩, hI163, hO161⟩
                show sx_RP _ _ _ _ _ [.int 0] _ _
                have hO164 := hO139.tr (HS.om hO161.hs)
                refine sx_RP.ret (r := (some (.int 0))) rfl rfl ?_
                have eg : gwT n X q = -1 := by simp only [gwT, c1, c27, c53, c79, c105, c131, if_true, if_false, Bool.false_eq_true, ite_true, ite_false, true_or, or_true, or_false, false_or]
                have ek : kwT n X q = 0 := by simp only [kwT, c1, c27, c53, c79, c105, c131, if_true, if_false, Bool.false_eq_true, ite_true, ite_false, true_or, or_true, or_false, false_or]
                have eR : itT n X q b = (false, q, b) := by unfold itT; rw [eg, if_pos rfl, ek, if_neg (by decide)]; unfold galT; rw [if_neg (by omega)]
                rw [eR]
                exact ⟨⟨rfl, RdM.f hv160⟩, hI163, hO164⟩
            · refine sx_RP.callp (as2 := [.ref 111, .float 106]) (rest2 := []) rfl rfl (sx_inv_v2 (mi := 211) (k := 239) (st := [.float 106, .ref 111]) (w := w125) rfl rfl hI126.1.o111 rfl rfl rfl) rfl rfl rfl (y214f (k := (106 : UInt32)) (m := 7) hI126 hM128 hpl ep122 (by decide) rfl (by decide) (by decide) hP127 c131) (show _ = 46 from rfl) ?_
              rintro r4 w168 ⟨⟨rfl, ep165⟩, hI169, hO166⟩
              show sx_RP _ _ _ _ _ [.int 0] _ _
              have ef167 := (hO166.2 13 (by decide)).trans ef124
              have hP170 : rE blk n X q = q := by rw [← hP127]; exact rE_rE
              have hM171 := hM128.hs (hO166.hs)
              have hO172 := hO129.tr (HS.om (hO166.hs))
              have hB173 : rowB (ia w168 112) = b := by rw [HS.row (hO166.hs)]; exact hB130
              refine sx_RP.step (pc2 := 65) (ls2 := [(1, .int 0), (0, .ref 111)]) (st2 := []) (w3 := w168) rfl rfl ?_
              refine sx_RP.step (pc2 := 66) (ls2 := [(1, .int 0), (0, .ref 111)]) (st2 := [.ref 111]) (w3 := w168) rfl rfl ?_
              refine sx_RP.step (pc2 := 67) (ls2 := [(1, .int 0), (0, .ref 111)]) (st2 := [.int 0, .ref 111]) (w3 := w168) rfl rfl ?_
              refine sx_RP.cu (as := [.int 0]) (rest2 := [.ref 111]) (st3 := [.float 106, .ref 111]) rfl rfl rfl rfl rfl (p226_0) rfl ?_
              refine sx_RP.callp (as2 := [.ref 111, .float 106]) (rest2 := []) rfl rfl (sx_inv_v2 (mi := 211) (k := 243) (st := [.float 106, .ref 111]) (w := w168) rfl rfl hI169.1.o111 rfl rfl rfl) rfl rfl rfl (y213f (k := (106 : UInt32)) (m := 7) hI169 hM171 hpl ep165 ef167 (by decide) rfl (by decide) (by decide) hP170 c131) (show _ = 73 from rfl) ?_
              rintro r4 w178 ⟨⟨rfl, ep175⟩, hI179, hO176⟩
              show sx_RP _ _ _ _ _ [.int 0] _ _
              have ef177 := (hO176.2 13 (by decide)).trans ef167
              have hP180 : rE blk n X q = q := by rw [← hP170]; exact rE_rE
              have hM181 := hM171.hs (hO176.hs)
              have hO182 := hO172.tr (HS.om (hO176.hs))
              have hB183 : rowB (ia w178 112) = b := by rw [HS.row (hO176.hs)]; exact hB173
              refine sx_RP.step (pc2 := 82) (ls2 := [(1, .int 0), (0, .ref 111)]) (st2 := []) (w3 := w178) rfl rfl ?_
              refine sx_RP.step (pc2 := 85) (ls2 := [(1, .int 1), (0, .ref 111)]) (st2 := []) (w3 := w178) rfl rfl ?_
              refine sx_RP.step (pc2 := 32) (ls2 := [(1, .int 1), (0, .ref 111)]) (st2 := []) (w3 := w178) rfl rfl ?_
              refine sx_RP.step (pc2 := 33) (ls2 := [(1, .int 1), (0, .ref 111)]) (st2 := [.int 1]) (w3 := w178) rfl rfl ?_
              refine sx_RP.step (pc2 := 35) (ls2 := [(1, .int 1), (0, .ref 111)]) (st2 := [.int 6, .int 1]) (w3 := w178) rfl rfl ?_
              refine sx_RP.step (pc2 := 38) (ls2 := [(1, .int 1), (0, .ref 111)]) (st2 := []) (w3 := w178) rfl rfl ?_
              refine sx_RP.step (pc2 := 39) (ls2 := [(1, .int 1), (0, .ref 111)]) (st2 := [.ref 111]) (w3 := w178) rfl rfl ?_
              refine sx_RP.step (pc2 := 40) (ls2 := [(1, .int 1), (0, .ref 111)]) (st2 := [.int 1, .ref 111]) (w3 := w178) rfl rfl ?_
              refine sx_RP.cu (as := [.int 1]) (rest2 := [.ref 111]) (st3 := [.float 110, .ref 111]) rfl rfl rfl rfl rfl (p226_1) rfl ?_
              rcases Bool.eq_false_or_eq_true (wdT n X q (110 : UInt32)) with c184 | c184
              · refine sx_RP.callp (as2 := [.ref 111, .float 110]) (rest2 := []) rfl rfl (sx_inv_v2 (mi := 211) (k := 239) (st := [.float 110, .ref 111]) (w := w178) rfl rfl hI179.1.o111 rfl rfl rfl) rfl rfl rfl (y214t (k := (110 : UInt32)) (m := 7) hI179 hM181 hpl ep175 (by decide) rfl (by decide) (by decide) hP180 c184) (show _ = 46 from rfl) ?_
                rintro r4 w188 ⟨⟨rfl, ep185⟩, hI189, hO186⟩
                show sx_RP _ _ _ _ _ [.int 1] _ _
                have ef187 := (hO186.2 13 (by decide)).trans ef177
                have hP190 : rE blk n X q = q := by rw [← hP180]; exact rE_rE
                have hM191 := hM181.hs (hO186.hs)
                have hO192 := hO182.tr (HS.om (hO186.hs))
                have hB193 : rowB (ia w188 112) = b := by rw [HS.row (hO186.hs)]; exact hB183
                refine sx_RP.step (pc2 := 49) (ls2 := [(1, .int 1), (0, .ref 111)]) (st2 := []) (w3 := w188) rfl rfl ?_
                refine sx_RP.step (pc2 := 50) (ls2 := [(1, .int 1), (0, .ref 111)]) (st2 := [.ref 111]) (w3 := w188) rfl rfl ?_
                refine sx_RP.gf (v := .ref 112) rfl rfl hI189.1.o111 rfl rfl (show _ = 53 from rfl) ?_
                refine sx_RP.step (pc2 := 54) (ls2 := [(1, .int 1), (0, .ref 111)]) (st2 := [.int 1, .ref 112]) (w3 := w188) rfl rfl ?_
                have ex194 : (ia w188 112).getD 1 0 = nI u := row_len hI189 hB193 hu (by omega)
                refine sx_RP.ild (c := 1) rfl hI189.1.a112.1 hI189.1.a112.2 (sx_in_nI (show 1 < 172 by omega) (by decide)) (nI_clamp (by decide)) (show _ = 55 from rfl) ?_
                rw [ex194]
                refine sx_RP.step (pc2 := 57) (ls2 := [(1, .int 1), (0, .ref 111)]) (st2 := [.int 10, .int (nI u)]) (w3 := w188) rfl rfl ?_
                refine sx_RP.br (p1 := 65) (l1 := [(1, .int 1), (0, .ref 111)]) (s1 := []) (v1 := w188) (p2 := 60) (l2 := [(1, .int 1), (0, .ref 111)]) (s2 := []) (v2 := w188) rfl rfl (fun q195 => ?_) (fun q195 => ?_)
                · replace q195 := of_decide_eq_true q195
                  replace q195 := mt (nI_eq (a := u) (b := 10) (by omega) (by omega)).mpr q195
                  refine sx_RP.step (pc2 := 66) (ls2 := [(1, .int 1), (0, .ref 111)]) (st2 := [.ref 111]) (w3 := w188) rfl rfl ?_
                  refine sx_RP.step (pc2 := 67) (ls2 := [(1, .int 1), (0, .ref 111)]) (st2 := [.int 1, .ref 111]) (w3 := w188) rfl rfl ?_
                  refine sx_RP.cu (as := [.int 1]) (rest2 := [.ref 111]) (st3 := [.float 110, .ref 111]) rfl rfl rfl rfl rfl (p226_1) rfl ?_
                  refine sx_RP.callp (as2 := [.ref 111, .float 110]) (rest2 := []) rfl rfl (sx_inv_v2 (mi := 211) (k := 243) (st := [.float 110, .ref 111]) (w := w188) rfl rfl hI189.1.o111 rfl rfl rfl) rfl rfl rfl (y213t (k := (110 : UInt32)) (m := 7) hI189 hM191 hpl ep185 ef187 (by decide) rfl (by decide) (by decide) hP190 c184) (show _ = 73 from rfl) ?_
                  rintro r4 w200 ⟨⟨rfl, ep197⟩, hI201, hO198⟩
                  show sx_RP _ _ _ _ _ [.int 1] _ _
                  have ef199 := (hO198.2 13 (by decide)).trans ef187
                  have hp202 : beT n X q ≤ n := beT_le hpl
                  have hp203 : nP n X q ≤ n := rE_le hp202
                  have hP204 : rE blk n X (beT n X q) = nP n X q := rfl
                  have hM205 := hM191.hs (hO198.hs)
                  have hO206 := hO192.tr (HS.om (hO198.hs))
                  have hB207 : rowB (ia w200 112) = b := by rw [HS.row (hO198.hs)]; exact hB193
                  refine sx_RP.step (pc2 := 76) (ls2 := [(1, .int 1), (0, .ref 111)]) (st2 := []) (w3 := w200) rfl rfl ?_
                  refine sx_RP.step (pc2 := 77) (ls2 := [(1, .int 1), (0, .ref 111)]) (st2 := [.ref 111]) (w3 := w200) rfl rfl ?_
                  refine sx_RP.step (pc2 := 78) (ls2 := [(1, .int 1), (0, .ref 111)]) (st2 := [.int 1, .ref 111]) (w3 := w200) rfl rfl ?_
                  refine sx_RP.callp (as2 := [.ref 111, .int 1]) (rest2 := []) rfl rfl (sx_inv_v2 (mi := 211) (k := 323) (st := [.int 1, .ref 111]) (w := w200) rfl rfl hI201.1.o111 rfl rfl rfl) rfl rfl rfl (y227 (k := 1) hI201 hM205 hp202 ep197 ef199 hP204 hB207 (by decide) hu (by omega)) (show _ = 81 from rfl) ?_
                  rintro r4 w210 ⟨⟨rfl, hr208⟩, hI211, hO209⟩
                  show sx_RP _ _ _ _ _ [.int (b01 (galS n X 1 (nP n X q) b).1)] _ _
                  have hO212 := hO206.tr hO209
                  refine sx_RP.ret (r := (some (.int (b01 (galS n X 1 (nP n X q) b).1)))) rfl (bo_ret rfl (b01_in _)) ?_
                  have eg : gwT n X q = -1 := by simp only [gwT, c1, c27, c53, c79, c105, c131, c184, if_true, if_false, Bool.false_eq_true, ite_true, ite_false, true_or, or_true, or_false, false_or]
                  have ek : kwT n X q = 1 := by simp only [kwT, c1, c27, c53, c79, c105, c131, c184, if_true, if_false, Bool.false_eq_true, ite_true, ite_false, true_or, or_true, or_false, false_or]
                  have eR : itT n X q b = galS n X 1 (nP n X q) b := by unfold itT; rw [eg, if_pos rfl, ek, if_neg (by decide)]; exact galT_S (by omega)
                  rw [eR]
                  exact ⟨⟨rfl, hr208⟩, hI211, hO212⟩
                · replace q195 := Decidable.not_not.mp (of_decide_eq_false q195)
                  replace q195 := (nI_eq (a := u) (b := 10) (by omega) (by omega)).mp q195
                  refine sx_RP.step (pc2 := 61) (ls2 := [(1, .int 1), (0, .ref 111)]) (st2 := [.ref 111]) (w3 := w188) rfl rfl ?_
                  refine sx_RP.callp (as2 := [.ref 111]) (rest2 := []) rfl rfl (sx_inv_v2 (mi := 211) (k := 245) (st := [.ref 111]) (w := w188) rfl rfl hI189.1.o111 rfl rfl rfl) rfl rfl rfl (y222 (p := q) hI189 ef187 ep185) (show _ = 64 from rfl) ?_
                  rintro r4 w215 ⟨⟨rfl, hv213⟩, hI216, hO214⟩
                  show sx_RP _ _ _ _ _ [.int 0] _ _
                  have hO217 := hO192.tr (HS.om hO214.hs)
                  refine sx_RP.ret (r := (some (.int 0))) rfl rfl ?_
                  have eg : gwT n X q = -1 := by simp only [gwT, c1, c27, c53, c79, c105, c131, c184, if_true, if_false, Bool.false_eq_true, ite_true, ite_false, true_or, or_true, or_false, false_or]
                  have ek : kwT n X q = 1 := by simp only [kwT, c1, c27, c53, c79, c105, c131, c184, if_true, if_false, Bool.false_eq_true, ite_true, ite_false, true_or, or_true, or_false, false_or]
                  have eR : itT n X q b = (false, q, b) := by unfold itT; rw [eg, if_pos rfl, ek, if_neg (by decide)]; unfold galT; rw [if_neg (by omega)]
                  rw [eR]
                  exact ⟨⟨rfl, RdM.f hv213⟩, hI216, hO217⟩
              · refine sx_RP.callp (as2 := [.ref 111, .float 110]) (rest2 := []) rfl rfl (sx_inv_v2 (mi := 211) (k := 239) (st := [.float 110, .ref 111]) (w := w178) rfl rfl hI179.1.o111 rfl rfl rfl) rfl rfl rfl (y214f (k := (110 : UInt32)) (m := 7) hI179 hM181 hpl ep175 (by decide) rfl (by decide) (by decide) hP180 c184) (show _ = 46 from rfl) ?_
                rintro r4 w221 ⟨⟨rfl, ep218⟩, hI222, hO219⟩
                show sx_RP _ _ _ _ _ [.int 0] _ _
                have ef220 := (hO219.2 13 (by decide)).trans ef177
                have hP223 : rE blk n X q = q := by rw [← hP180]; exact rE_rE
                have hM224 := hM181.hs (hO219.hs)
                have hO225 := hO182.tr (HS.om (hO219.hs))
                have hB226 : rowB (ia w221 112) = b := by rw [HS.row (hO219.hs)]; exact hB183
                refine sx_RP.step (pc2 := 65) (ls2 := [(1, .int 1), (0, .ref 111)]) (st2 := []) (w3 := w221) rfl rfl ?_
                refine sx_RP.step (pc2 := 66) (ls2 := [(1, .int 1), (0, .ref 111)]) (st2 := [.ref 111]) (w3 := w221) rfl rfl ?_
                refine sx_RP.step (pc2 := 67) (ls2 := [(1, .int 1), (0, .ref 111)]) (st2 := [.int 1, .ref 111]) (w3 := w221) rfl rfl ?_
                refine sx_RP.cu (as := [.int 1]) (rest2 := [.ref 111]) (st3 := [.float 110, .ref 111]) rfl rfl rfl rfl rfl (p226_1) rfl ?_
                refine sx_RP.callp (as2 := [.ref 111, .float 110]) (rest2 := []) rfl rfl (sx_inv_v2 (mi := 211) (k := 243) (st := [.float 110, .ref 111]) (w := w221) rfl rfl hI222.1.o111 rfl rfl rfl) rfl rfl rfl (y213f (k := (110 : UInt32)) (m := 7) hI222 hM224 hpl ep218 ef220 (by decide) rfl (by decide) (by decide) hP223 c184) (show _ = 73 from rfl) ?_
                rintro r4 w231 ⟨⟨rfl, ep228⟩, hI232, hO229⟩
                show sx_RP _ _ _ _ _ [.int 0] _ _
                have ef230 := (hO229.2 13 (by decide)).trans ef220
                have hP233 : rE blk n X q = q := by rw [← hP223]; exact rE_rE
                have hM234 := hM224.hs (hO229.hs)
                have hO235 := hO225.tr (HS.om (hO229.hs))
                have hB236 : rowB (ia w231 112) = b := by rw [HS.row (hO229.hs)]; exact hB226
                refine sx_RP.step (pc2 := 82) (ls2 := [(1, .int 1), (0, .ref 111)]) (st2 := []) (w3 := w231) rfl rfl ?_
                refine sx_RP.step (pc2 := 85) (ls2 := [(1, .int 2), (0, .ref 111)]) (st2 := []) (w3 := w231) rfl rfl ?_
                refine sx_RP.step (pc2 := 32) (ls2 := [(1, .int 2), (0, .ref 111)]) (st2 := []) (w3 := w231) rfl rfl ?_
                refine sx_RP.step (pc2 := 33) (ls2 := [(1, .int 2), (0, .ref 111)]) (st2 := [.int 2]) (w3 := w231) rfl rfl ?_
                refine sx_RP.step (pc2 := 35) (ls2 := [(1, .int 2), (0, .ref 111)]) (st2 := [.int 6, .int 2]) (w3 := w231) rfl rfl ?_
                refine sx_RP.step (pc2 := 38) (ls2 := [(1, .int 2), (0, .ref 111)]) (st2 := []) (w3 := w231) rfl rfl ?_
                refine sx_RP.step (pc2 := 39) (ls2 := [(1, .int 2), (0, .ref 111)]) (st2 := [.ref 111]) (w3 := w231) rfl rfl ?_
                refine sx_RP.step (pc2 := 40) (ls2 := [(1, .int 2), (0, .ref 111)]) (st2 := [.int 2, .ref 111]) (w3 := w231) rfl rfl ?_
                refine sx_RP.cu (as := [.int 2]) (rest2 := [.ref 111]) (st3 := [.float 114, .ref 111]) rfl rfl rfl rfl rfl (p226_2) rfl ?_
                rcases Bool.eq_false_or_eq_true (wdT n X q (114 : UInt32)) with c237 | c237
                · refine sx_RP.callp (as2 := [.ref 111, .float 114]) (rest2 := []) rfl rfl (sx_inv_v2 (mi := 211) (k := 239) (st := [.float 114, .ref 111]) (w := w231) rfl rfl hI232.1.o111 rfl rfl rfl) rfl rfl rfl (y214t (k := (114 : UInt32)) (m := 3) hI232 hM234 hpl ep228 (by decide) rfl (by decide) (by decide) hP233 c237) (show _ = 46 from rfl) ?_
                  rintro r4 w241 ⟨⟨rfl, ep238⟩, hI242, hO239⟩
                  show sx_RP _ _ _ _ _ [.int 1] _ _
                  have ef240 := (hO239.2 13 (by decide)).trans ef230
                  have hP243 : rE blk n X q = q := by rw [← hP233]; exact rE_rE
                  have hM244 := hM234.hs (hO239.hs)
                  have hO245 := hO235.tr (HS.om (hO239.hs))
                  have hB246 : rowB (ia w241 112) = b := by rw [HS.row (hO239.hs)]; exact hB236
                  refine sx_RP.step (pc2 := 49) (ls2 := [(1, .int 2), (0, .ref 111)]) (st2 := []) (w3 := w241) rfl rfl ?_
                  refine sx_RP.step (pc2 := 50) (ls2 := [(1, .int 2), (0, .ref 111)]) (st2 := [.ref 111]) (w3 := w241) rfl rfl ?_
                  refine sx_RP.gf (v := .ref 112) rfl rfl hI242.1.o111 rfl rfl (show _ = 53 from rfl) ?_
                  refine sx_RP.step (pc2 := 54) (ls2 := [(1, .int 2), (0, .ref 111)]) (st2 := [.int 1, .ref 112]) (w3 := w241) rfl rfl ?_
                  have ex247 : (ia w241 112).getD 1 0 = nI u := row_len hI242 hB246 hu (by omega)
                  refine sx_RP.ild (c := 1) rfl hI242.1.a112.1 hI242.1.a112.2 (sx_in_nI (show 1 < 172 by omega) (by decide)) (nI_clamp (by decide)) (show _ = 55 from rfl) ?_
                  rw [ex247]
                  refine sx_RP.step (pc2 := 57) (ls2 := [(1, .int 2), (0, .ref 111)]) (st2 := [.int 10, .int (nI u)]) (w3 := w241) rfl rfl ?_
                  refine sx_RP.br (p1 := 65) (l1 := [(1, .int 2), (0, .ref 111)]) (s1 := []) (v1 := w241) (p2 := 60) (l2 := [(1, .int 2), (0, .ref 111)]) (s2 := []) (v2 := w241) rfl rfl (fun q248 => ?_) (fun q248 => ?_)
                  · replace q248 := of_decide_eq_true q248
                    replace q248 := mt (nI_eq (a := u) (b := 10) (by omega) (by omega)).mpr q248
                    refine sx_RP.step (pc2 := 66) (ls2 := [(1, .int 2), (0, .ref 111)]) (st2 := [.ref 111]) (w3 := w241) rfl rfl ?_
                    refine sx_RP.step (pc2 := 67) (ls2 := [(1, .int 2), (0, .ref 111)]) (st2 := [.int 2, .ref 111]) (w3 := w241) rfl rfl ?_
                    refine sx_RP.cu (as := [.int 2]) (rest2 := [.ref 111]) (st3 := [.float 114, .ref 111]) rfl rfl rfl rfl rfl (p226_2) rfl ?_
                    refine sx_RP.callp (as2 := [.ref 111, .float 114]) (rest2 := []) rfl rfl (sx_inv_v2 (mi := 211) (k := 243) (st := [.float 114, .ref 111]) (w := w241) rfl rfl hI242.1.o111 rfl rfl rfl) rfl rfl rfl (y213t (k := (114 : UInt32)) (m := 3) hI242 hM244 hpl ep238 ef240 (by decide) rfl (by decide) (by decide) hP243 c237) (show _ = 73 from rfl) ?_
                    rintro r4 w253 ⟨⟨rfl, ep250⟩, hI254, hO251⟩
                    show sx_RP _ _ _ _ _ [.int 1] _ _
                    have ef252 := (hO251.2 13 (by decide)).trans ef240
                    have hp255 : beT n X q ≤ n := beT_le hpl
                    have hp256 : nP n X q ≤ n := rE_le hp255
                    have hP257 : rE blk n X (beT n X q) = nP n X q := rfl
                    have hM258 := hM244.hs (hO251.hs)
                    have hO259 := hO245.tr (HS.om (hO251.hs))
                    have hB260 : rowB (ia w253 112) = b := by rw [HS.row (hO251.hs)]; exact hB246
                    refine sx_RP.step (pc2 := 76) (ls2 := [(1, .int 2), (0, .ref 111)]) (st2 := []) (w3 := w253) rfl rfl ?_
                    refine sx_RP.step (pc2 := 77) (ls2 := [(1, .int 2), (0, .ref 111)]) (st2 := [.ref 111]) (w3 := w253) rfl rfl ?_
                    refine sx_RP.step (pc2 := 78) (ls2 := [(1, .int 2), (0, .ref 111)]) (st2 := [.int 2, .ref 111]) (w3 := w253) rfl rfl ?_
                    refine sx_RP.callp (as2 := [.ref 111, .int 2]) (rest2 := []) rfl rfl (sx_inv_v2 (mi := 211) (k := 323) (st := [.int 2, .ref 111]) (w := w253) rfl rfl hI254.1.o111 rfl rfl rfl) rfl rfl rfl (y227 (k := 2) hI254 hM258 hp255 ep250 ef252 hP257 hB260 (by decide) hu (by omega)) (show _ = 81 from rfl) ?_
                    rintro r4 w263 ⟨⟨rfl, hr261⟩, hI264, hO262⟩
                    show sx_RP _ _ _ _ _ [.int (b01 (galS n X 2 (nP n X q) b).1)] _ _
                    have hO265 := hO259.tr hO262
                    refine sx_RP.ret (r := (some (.int (b01 (galS n X 2 (nP n X q) b).1)))) rfl (bo_ret rfl (b01_in _)) ?_
                    have eg : gwT n X q = -1 := by simp only [gwT, c1, c27, c53, c79, c105, c131, c184, c237, if_true, if_false, Bool.false_eq_true, ite_true, ite_false, true_or, or_true, or_false, false_or]
                    have ek : kwT n X q = 2 := by simp only [kwT, c1, c27, c53, c79, c105, c131, c184, c237, if_true, if_false, Bool.false_eq_true, ite_true, ite_false, true_or, or_true, or_false, false_or]
                    have eR : itT n X q b = galS n X 2 (nP n X q) b := by unfold itT; rw [eg, if_pos rfl, ek, if_neg (by decide)]; exact galT_S (by omega)
                    rw [eR]
                    exact ⟨⟨rfl, hr261⟩, hI264, hO265⟩
                  · replace q248 := Decidable.not_not.mp (of_decide_eq_false q248)
                    replace q248 := (nI_eq (a := u) (b := 10) (by omega) (by omega)).mp q248
                    refine sx_RP.step (pc2 := 61) (ls2 := [(1, .int 2), (0, .ref 111)]) (st2 := [.ref 111]) (w3 := w241) rfl rfl ?_
                    refine sx_RP.callp (as2 := [.ref 111]) (rest2 := []) rfl rfl (sx_inv_v2 (mi := 211) (k := 245) (st := [.ref 111]) (w := w241) rfl rfl hI242.1.o111 rfl rfl rfl) rfl rfl rfl (y222 (p := q) hI242 ef240 ep238) (show _ = 64 from rfl) ?_
                    rintro r4 w268 ⟨⟨rfl, hv266⟩, hI269, hO267⟩
                    show sx_RP _ _ _ _ _ [.int 0] _ _
                    have hO270 := hO245.tr (HS.om hO267.hs)
                    refine sx_RP.ret (r := (some (.int 0))) rfl rfl ?_
                    have eg : gwT n X q = -1 := by simp only [gwT, c1, c27, c53, c79, c105, c131, c184, c237, if_true, if_false, Bool.false_eq_true, ite_true, ite_false, true_or, or_true, or_false, false_or]
                    have ek : kwT n X q = 2 := by simp only [kwT, c1, c27, c53, c79, c105, c131, c184, c237, if_true, if_false, Bool.false_eq_true, ite_true, ite_false, true_or, or_true, or_false, false_or]
                    have eR : itT n X q b = (false, q, b) := by unfold itT; rw [eg, if_pos rfl, ek, if_neg (by decide)]; unfold galT; rw [if_neg (by omega)]
                    rw [eR]
                    exact ⟨⟨rfl, RdM.f hv266⟩, hI269, hO270⟩
                · refine sx_RP.callp (as2 := [.ref 111, .float 114]) (rest2 := []) rfl rfl (sx_inv_v2 (mi := 211) (k := 239) (st := [.float 114, .ref 111]) (w := w231) rfl rfl hI232.1.o111 rfl rfl rfl) rfl rfl rfl (y214f (k := (114 : UInt32)) (m := 3) hI232 hM234 hpl ep228 (by decide) rfl (by decide) (by decide) hP233 c237) (show _ = 46 from rfl) ?_
                  rintro r4 w274 ⟨⟨rfl, ep271⟩, hI275, hO272⟩
                  show sx_RP _ _ _ _ _ [.int 0] _ _
                  have ef273 := (hO272.2 13 (by decide)).trans ef230
                  have hP276 : rE blk n X q = q := by rw [← hP233]; exact rE_rE
                  have hM277 := hM234.hs (hO272.hs)
                  have hO278 := hO235.tr (HS.om (hO272.hs))
                  have hB279 : rowB (ia w274 112) = b := by rw [HS.row (hO272.hs)]; exact hB236
                  refine sx_RP.step (pc2 := 65) (ls2 := [(1, .int 2), (0, .ref 111)]) (st2 := []) (w3 := w274) rfl rfl ?_
                  refine sx_RP.step (pc2 := 66) (ls2 := [(1, .int 2), (0, .ref 111)]) (st2 := [.ref 111]) (w3 := w274) rfl rfl ?_
                  refine sx_RP.step (pc2 := 67) (ls2 := [(1, .int 2), (0, .ref 111)]) (st2 := [.int 2, .ref 111]) (w3 := w274) rfl rfl ?_
                  refine sx_RP.cu (as := [.int 2]) (rest2 := [.ref 111]) (st3 := [.float 114, .ref 111]) rfl rfl rfl rfl rfl (p226_2) rfl ?_
                  refine sx_RP.callp (as2 := [.ref 111, .float 114]) (rest2 := []) rfl rfl (sx_inv_v2 (mi := 211) (k := 243) (st := [.float 114, .ref 111]) (w := w274) rfl rfl hI275.1.o111 rfl rfl rfl) rfl rfl rfl (y213f (k := (114 : UInt32)) (m := 3) hI275 hM277 hpl ep271 ef273 (by decide) rfl (by decide) (by decide) hP276 c237) (show _ = 73 from rfl) ?_
                  rintro r4 w284 ⟨⟨rfl, ep281⟩, hI285, hO282⟩
                  show sx_RP _ _ _ _ _ [.int 0] _ _
                  have ef283 := (hO282.2 13 (by decide)).trans ef273
                  have hP286 : rE blk n X q = q := by rw [← hP276]; exact rE_rE
                  have hM287 := hM277.hs (hO282.hs)
                  have hO288 := hO278.tr (HS.om (hO282.hs))
                  have hB289 : rowB (ia w284 112) = b := by rw [HS.row (hO282.hs)]; exact hB279
                  refine sx_RP.step (pc2 := 82) (ls2 := [(1, .int 2), (0, .ref 111)]) (st2 := []) (w3 := w284) rfl rfl ?_
                  refine sx_RP.step (pc2 := 85) (ls2 := [(1, .int 3), (0, .ref 111)]) (st2 := []) (w3 := w284) rfl rfl ?_
                  refine sx_RP.step (pc2 := 32) (ls2 := [(1, .int 3), (0, .ref 111)]) (st2 := []) (w3 := w284) rfl rfl ?_
                  refine sx_RP.step (pc2 := 33) (ls2 := [(1, .int 3), (0, .ref 111)]) (st2 := [.int 3]) (w3 := w284) rfl rfl ?_
                  refine sx_RP.step (pc2 := 35) (ls2 := [(1, .int 3), (0, .ref 111)]) (st2 := [.int 6, .int 3]) (w3 := w284) rfl rfl ?_
                  refine sx_RP.step (pc2 := 38) (ls2 := [(1, .int 3), (0, .ref 111)]) (st2 := []) (w3 := w284) rfl rfl ?_
                  refine sx_RP.step (pc2 := 39) (ls2 := [(1, .int 3), (0, .ref 111)]) (st2 := [.ref 111]) (w3 := w284) rfl rfl ?_
                  refine sx_RP.step (pc2 := 40) (ls2 := [(1, .int 3), (0, .ref 111)]) (st2 := [.int 3, .ref 111]) (w3 := w284) rfl rfl ?_
                  refine sx_RP.cu (as := [.int 3]) (rest2 := [.ref 111]) (st3 := [.float 107, .ref 111]) rfl rfl rfl rfl rfl (p226_3) rfl ?_
                  rcases Bool.eq_false_or_eq_true (wdT n X q (107 : UInt32)) with c290 | c290
                  · refine sx_RP.callp (as2 := [.ref 111, .float 107]) (rest2 := []) rfl rfl (sx_inv_v2 (mi := 211) (k := 239) (st := [.float 107, .ref 111]) (w := w284) rfl rfl hI285.1.o111 rfl rfl rfl) rfl rfl rfl (y214t (k := (107 : UInt32)) (m := 4) hI285 hM287 hpl ep281 (by decide) rfl (by decide) (by decide) hP286 c290) (show _ = 46 from rfl) ?_
                    rintro r4 w294 ⟨⟨rfl, ep291⟩, hI295, hO292⟩
                    show sx_RP _ _ _ _ _ [.int 1] _ _
                    have ef293 := (hO292.2 13 (by decide)).trans ef283
                    have hP296 : rE blk n X q = q := by rw [← hP286]; exact rE_rE
                    have hM297 := hM287.hs (hO292.hs)
                    have hO298 := hO288.tr (HS.om (hO292.hs))
                    have hB299 : rowB (ia w294 112) = b := by rw [HS.row (hO292.hs)]; exact hB289
                    refine sx_RP.step (pc2 := 49) (ls2 := [(1, .int 3), (0, .ref 111)]) (st2 := []) (w3 := w294) rfl rfl ?_
                    refine sx_RP.step (pc2 := 50) (ls2 := [(1, .int 3), (0, .ref 111)]) (st2 := [.ref 111]) (w3 := w294) rfl rfl ?_
                    refine sx_RP.gf (v := .ref 112) rfl rfl hI295.1.o111 rfl rfl (show _ = 53 from rfl) ?_
                    refine sx_RP.step (pc2 := 54) (ls2 := [(1, .int 3), (0, .ref 111)]) (st2 := [.int 1, .ref 112]) (w3 := w294) rfl rfl ?_
                    have ex300 : (ia w294 112).getD 1 0 = nI u := row_len hI295 hB299 hu (by omega)
                    refine sx_RP.ild (c := 1) rfl hI295.1.a112.1 hI295.1.a112.2 (sx_in_nI (show 1 < 172 by omega) (by decide)) (nI_clamp (by decide)) (show _ = 55 from rfl) ?_
                    rw [ex300]
                    refine sx_RP.step (pc2 := 57) (ls2 := [(1, .int 3), (0, .ref 111)]) (st2 := [.int 10, .int (nI u)]) (w3 := w294) rfl rfl ?_
                    refine sx_RP.br (p1 := 65) (l1 := [(1, .int 3), (0, .ref 111)]) (s1 := []) (v1 := w294) (p2 := 60) (l2 := [(1, .int 3), (0, .ref 111)]) (s2 := []) (v2 := w294) rfl rfl (fun q301 => ?_) (fun q301 => ?_)
                    · replace q301 := of_decide_eq_true q301
                      replace q301 := mt (nI_eq (a := u) (b := 10) (by omega) (by omega)).mpr q301
                      refine sx_RP.step (pc2 := 66) (ls2 := [(1, .int 3), (0, .ref 111)]) (st2 := [.ref 111]) (w3 := w294) rfl rfl ?_
                      refine sx_RP.step (pc2 := 67) (ls2 := [(1, .int 3), (0, .ref 111)]) (st2 := [.int 3, .ref 111]) (w3 := w294) rfl rfl ?_
                      refine sx_RP.cu (as := [.int 3]) (rest2 := [.ref 111]) (st3 := [.float 107, .ref 111]) rfl rfl rfl rfl rfl (p226_3) rfl ?_
                      refine sx_RP.callp (as2 := [.ref 111, .float 107]) (rest2 := []) rfl rfl (sx_inv_v2 (mi := 211) (k := 243) (st := [.float 107, .ref 111]) (w := w294) rfl rfl hI295.1.o111 rfl rfl rfl) rfl rfl rfl (y213t (k := (107 : UInt32)) (m := 4) hI295 hM297 hpl ep291 ef293 (by decide) rfl (by decide) (by decide) hP296 c290) (show _ = 73 from rfl) ?_
                      rintro r4 w306 ⟨⟨rfl, ep303⟩, hI307, hO304⟩
                      show sx_RP _ _ _ _ _ [.int 1] _ _
                      have ef305 := (hO304.2 13 (by decide)).trans ef293
                      have hp308 : beT n X q ≤ n := beT_le hpl
                      have hp309 : nP n X q ≤ n := rE_le hp308
                      have hP310 : rE blk n X (beT n X q) = nP n X q := rfl
                      have hM311 := hM297.hs (hO304.hs)
                      have hO312 := hO298.tr (HS.om (hO304.hs))
                      have hB313 : rowB (ia w306 112) = b := by rw [HS.row (hO304.hs)]; exact hB299
                      refine sx_RP.step (pc2 := 76) (ls2 := [(1, .int 3), (0, .ref 111)]) (st2 := []) (w3 := w306) rfl rfl ?_
                      refine sx_RP.step (pc2 := 77) (ls2 := [(1, .int 3), (0, .ref 111)]) (st2 := [.ref 111]) (w3 := w306) rfl rfl ?_
                      refine sx_RP.step (pc2 := 78) (ls2 := [(1, .int 3), (0, .ref 111)]) (st2 := [.int 3, .ref 111]) (w3 := w306) rfl rfl ?_
                      refine sx_RP.callp (as2 := [.ref 111, .int 3]) (rest2 := []) rfl rfl (sx_inv_v2 (mi := 211) (k := 323) (st := [.int 3, .ref 111]) (w := w306) rfl rfl hI307.1.o111 rfl rfl rfl) rfl rfl rfl (y227 (k := 3) hI307 hM311 hp308 ep303 ef305 hP310 hB313 (by decide) hu (by omega)) (show _ = 81 from rfl) ?_
                      rintro r4 w316 ⟨⟨rfl, hr314⟩, hI317, hO315⟩
                      show sx_RP _ _ _ _ _ [.int (b01 (galS n X 3 (nP n X q) b).1)] _ _
                      have hO318 := hO312.tr hO315
                      refine sx_RP.ret (r := (some (.int (b01 (galS n X 3 (nP n X q) b).1)))) rfl (bo_ret rfl (b01_in _)) ?_
                      have eg : gwT n X q = -1 := by simp only [gwT, c1, c27, c53, c79, c105, c131, c184, c237, c290, if_true, if_false, Bool.false_eq_true, ite_true, ite_false, true_or, or_true, or_false, false_or]
                      have ek : kwT n X q = 3 := by simp only [kwT, c1, c27, c53, c79, c105, c131, c184, c237, c290, if_true, if_false, Bool.false_eq_true, ite_true, ite_false, true_or, or_true, or_false, false_or]
                      have eR : itT n X q b = galS n X 3 (nP n X q) b := by unfold itT; rw [eg, if_pos rfl, ek, if_neg (by decide)]; exact galT_S (by omega)
                      rw [eR]
                      exact ⟨⟨rfl, hr314⟩, hI317, hO318⟩
                    · replace q301 := Decidable.not_not.mp (of_decide_eq_false q301)
                      replace q301 := (nI_eq (a := u) (b := 10) (by omega) (by omega)).mp q301
                      refine sx_RP.step (pc2 := 61) (ls2 := [(1, .int 3), (0, .ref 111)]) (st2 := [.ref 111]) (w3 := w294) rfl rfl ?_
                      refine sx_RP.callp (as2 := [.ref 111]) (rest2 := []) rfl rfl (sx_inv_v2 (mi := 211) (k := 245) (st := [.ref 111]) (w := w294) rfl rfl hI295.1.o111 rfl rfl rfl) rfl rfl rfl (y222 (p := q) hI295 ef293 ep291) (show _ = 64 from rfl) ?_
                      rintro r4 w321 ⟨⟨rfl, hv319⟩, hI322, hO320⟩
                      show sx_RP _ _ _ _ _ [.int 0] _ _
                      have hO323 := hO298.tr (HS.om hO320.hs)
                      refine sx_RP.ret (r := (some (.int 0))) rfl rfl ?_
                      have eg : gwT n X q = -1 := by simp only [gwT, c1, c27, c53, c79, c105, c131, c184, c237, c290, if_true, if_false, Bool.false_eq_true, ite_true, ite_false, true_or, or_true, or_false, false_or]
                      have ek : kwT n X q = 3 := by simp only [kwT, c1, c27, c53, c79, c105, c131, c184, c237, c290, if_true, if_false, Bool.false_eq_true, ite_true, ite_false, true_or, or_true, or_false, false_or]
                      have eR : itT n X q b = (false, q, b) := by unfold itT; rw [eg, if_pos rfl, ek, if_neg (by decide)]; unfold galT; rw [if_neg (by omega)]
                      rw [eR]
                      exact ⟨⟨rfl, RdM.f hv319⟩, hI322, hO323⟩
                  · refine sx_RP.callp (as2 := [.ref 111, .float 107]) (rest2 := []) rfl rfl (sx_inv_v2 (mi := 211) (k := 239) (st := [.float 107, .ref 111]) (w := w284) rfl rfl hI285.1.o111 rfl rfl rfl) rfl rfl rfl (y214f (k := (107 : UInt32)) (m := 4) hI285 hM287 hpl ep281 (by decide) rfl (by decide) (by decide) hP286 c290) (show _ = 46 from rfl) ?_
                    rintro r4 w327 ⟨⟨rfl, ep324⟩, hI328, hO325⟩
                    show sx_RP _ _ _ _ _ [.int 0] _ _
                    have ef326 := (hO325.2 13 (by decide)).trans ef283
                    have hP329 : rE blk n X q = q := by rw [← hP286]; exact rE_rE
                    have hM330 := hM287.hs (hO325.hs)
                    have hO331 := hO288.tr (HS.om (hO325.hs))
                    have hB332 : rowB (ia w327 112) = b := by rw [HS.row (hO325.hs)]; exact hB289
                    refine sx_RP.step (pc2 := 65) (ls2 := [(1, .int 3), (0, .ref 111)]) (st2 := []) (w3 := w327) rfl rfl ?_
                    refine sx_RP.step (pc2 := 66) (ls2 := [(1, .int 3), (0, .ref 111)]) (st2 := [.ref 111]) (w3 := w327) rfl rfl ?_
                    refine sx_RP.step (pc2 := 67) (ls2 := [(1, .int 3), (0, .ref 111)]) (st2 := [.int 3, .ref 111]) (w3 := w327) rfl rfl ?_
                    refine sx_RP.cu (as := [.int 3]) (rest2 := [.ref 111]) (st3 := [.float 107, .ref 111]) rfl rfl rfl rfl rfl (p226_3) rfl ?_
                    refine sx_RP.callp (as2 := [.ref 111, .float 107]) (rest2 := []) rfl rfl (sx_inv_v2 (mi := 211) (k := 243) (st := [.float 107, .ref 111]) (w := w327) rfl rfl hI328.1.o111 rfl rfl rfl) rfl rfl rfl (y213f (k := (107 : UInt32)) (m := 4) hI328 hM330 hpl ep324 ef326 (by decide) rfl (by decide) (by decide) hP329 c290) (show _ = 73 from rfl) ?_
                    rintro r4 w337 ⟨⟨rfl, ep334⟩, hI338, hO335⟩
                    show sx_RP _ _ _ _ _ [.int 0] _ _
                    have ef336 := (hO335.2 13 (by decide)).trans ef326
                    have hP339 : rE blk n X q = q := by rw [← hP329]; exact rE_rE
                    have hM340 := hM330.hs (hO335.hs)
                    have hO341 := hO331.tr (HS.om (hO335.hs))
                    have hB342 : rowB (ia w337 112) = b := by rw [HS.row (hO335.hs)]; exact hB332
                    refine sx_RP.step (pc2 := 82) (ls2 := [(1, .int 3), (0, .ref 111)]) (st2 := []) (w3 := w337) rfl rfl ?_
                    refine sx_RP.step (pc2 := 85) (ls2 := [(1, .int 4), (0, .ref 111)]) (st2 := []) (w3 := w337) rfl rfl ?_
                    refine sx_RP.step (pc2 := 32) (ls2 := [(1, .int 4), (0, .ref 111)]) (st2 := []) (w3 := w337) rfl rfl ?_
                    refine sx_RP.step (pc2 := 33) (ls2 := [(1, .int 4), (0, .ref 111)]) (st2 := [.int 4]) (w3 := w337) rfl rfl ?_
                    refine sx_RP.step (pc2 := 35) (ls2 := [(1, .int 4), (0, .ref 111)]) (st2 := [.int 6, .int 4]) (w3 := w337) rfl rfl ?_
                    refine sx_RP.step (pc2 := 38) (ls2 := [(1, .int 4), (0, .ref 111)]) (st2 := []) (w3 := w337) rfl rfl ?_
                    refine sx_RP.step (pc2 := 39) (ls2 := [(1, .int 4), (0, .ref 111)]) (st2 := [.ref 111]) (w3 := w337) rfl rfl ?_
                    refine sx_RP.step (pc2 := 40) (ls2 := [(1, .int 4), (0, .ref 111)]) (st2 := [.int 4, .ref 111]) (w3 := w337) rfl rfl ?_
                    refine sx_RP.cu (as := [.int 4]) (rest2 := [.ref 111]) (st3 := [.float 105, .ref 111]) rfl rfl rfl rfl rfl (p226_4) rfl ?_
                    rcases Bool.eq_false_or_eq_true (wdT n X q (105 : UInt32)) with c343 | c343
                    · refine sx_RP.callp (as2 := [.ref 111, .float 105]) (rest2 := []) rfl rfl (sx_inv_v2 (mi := 211) (k := 239) (st := [.float 105, .ref 111]) (w := w337) rfl rfl hI338.1.o111 rfl rfl rfl) rfl rfl rfl (y214t (k := (105 : UInt32)) (m := 5) hI338 hM340 hpl ep334 (by decide) rfl (by decide) (by decide) hP339 c343) (show _ = 46 from rfl) ?_
                      rintro r4 w347 ⟨⟨rfl, ep344⟩, hI348, hO345⟩
                      show sx_RP _ _ _ _ _ [.int 1] _ _
                      have ef346 := (hO345.2 13 (by decide)).trans ef336
                      have hP349 : rE blk n X q = q := by rw [← hP339]; exact rE_rE
                      have hM350 := hM340.hs (hO345.hs)
                      have hO351 := hO341.tr (HS.om (hO345.hs))
                      have hB352 : rowB (ia w347 112) = b := by rw [HS.row (hO345.hs)]; exact hB342
                      refine sx_RP.step (pc2 := 49) (ls2 := [(1, .int 4), (0, .ref 111)]) (st2 := []) (w3 := w347) rfl rfl ?_
                      refine sx_RP.step (pc2 := 50) (ls2 := [(1, .int 4), (0, .ref 111)]) (st2 := [.ref 111]) (w3 := w347) rfl rfl ?_
                      refine sx_RP.gf (v := .ref 112) rfl rfl hI348.1.o111 rfl rfl (show _ = 53 from rfl) ?_
                      refine sx_RP.step (pc2 := 54) (ls2 := [(1, .int 4), (0, .ref 111)]) (st2 := [.int 1, .ref 112]) (w3 := w347) rfl rfl ?_
                      have ex353 : (ia w347 112).getD 1 0 = nI u := row_len hI348 hB352 hu (by omega)
                      refine sx_RP.ild (c := 1) rfl hI348.1.a112.1 hI348.1.a112.2 (sx_in_nI (show 1 < 172 by omega) (by decide)) (nI_clamp (by decide)) (show _ = 55 from rfl) ?_
                      rw [ex353]
                      refine sx_RP.step (pc2 := 57) (ls2 := [(1, .int 4), (0, .ref 111)]) (st2 := [.int 10, .int (nI u)]) (w3 := w347) rfl rfl ?_
                      refine sx_RP.br (p1 := 65) (l1 := [(1, .int 4), (0, .ref 111)]) (s1 := []) (v1 := w347) (p2 := 60) (l2 := [(1, .int 4), (0, .ref 111)]) (s2 := []) (v2 := w347) rfl rfl (fun q354 => ?_) (fun q354 => ?_)
                      · replace q354 := of_decide_eq_true q354
                        replace q354 := mt (nI_eq (a := u) (b := 10) (by omega) (by omega)).mpr q354
                        refine sx_RP.step (pc2 := 66) (ls2 := [(1, .int 4), (0, .ref 111)]) (st2 := [.ref 111]) (w3 := w347) rfl rfl ?_
                        refine sx_RP.step (pc2 := 67) (ls2 := [(1, .int 4), (0, .ref 111)]) (st2 := [.int 4, .ref 111]) (w3 := w347) rfl rfl ?_
                        refine sx_RP.cu (as := [.int 4]) (rest2 := [.ref 111]) (st3 := [.float 105, .ref 111]) rfl rfl rfl rfl rfl (p226_4) rfl ?_
                        refine sx_RP.callp (as2 := [.ref 111, .float 105]) (rest2 := []) rfl rfl (sx_inv_v2 (mi := 211) (k := 243) (st := [.float 105, .ref 111]) (w := w347) rfl rfl hI348.1.o111 rfl rfl rfl) rfl rfl rfl (y213t (k := (105 : UInt32)) (m := 5) hI348 hM350 hpl ep344 ef346 (by decide) rfl (by decide) (by decide) hP349 c343) (show _ = 73 from rfl) ?_
                        rintro r4 w359 ⟨⟨rfl, ep356⟩, hI360, hO357⟩
                        show sx_RP _ _ _ _ _ [.int 1] _ _
                        have ef358 := (hO357.2 13 (by decide)).trans ef346
                        have hp361 : beT n X q ≤ n := beT_le hpl
                        have hp362 : nP n X q ≤ n := rE_le hp361
                        have hP363 : rE blk n X (beT n X q) = nP n X q := rfl
                        have hM364 := hM350.hs (hO357.hs)
                        have hO365 := hO351.tr (HS.om (hO357.hs))
                        have hB366 : rowB (ia w359 112) = b := by rw [HS.row (hO357.hs)]; exact hB352
                        refine sx_RP.step (pc2 := 76) (ls2 := [(1, .int 4), (0, .ref 111)]) (st2 := []) (w3 := w359) rfl rfl ?_
                        refine sx_RP.step (pc2 := 77) (ls2 := [(1, .int 4), (0, .ref 111)]) (st2 := [.ref 111]) (w3 := w359) rfl rfl ?_
                        refine sx_RP.step (pc2 := 78) (ls2 := [(1, .int 4), (0, .ref 111)]) (st2 := [.int 4, .ref 111]) (w3 := w359) rfl rfl ?_
                        refine sx_RP.callp (as2 := [.ref 111, .int 4]) (rest2 := []) rfl rfl (sx_inv_v2 (mi := 211) (k := 323) (st := [.int 4, .ref 111]) (w := w359) rfl rfl hI360.1.o111 rfl rfl rfl) rfl rfl rfl (y227 (k := 4) hI360 hM364 hp361 ep356 ef358 hP363 hB366 (by decide) hu (by omega)) (show _ = 81 from rfl) ?_
                        rintro r4 w369 ⟨⟨rfl, hr367⟩, hI370, hO368⟩
                        show sx_RP _ _ _ _ _ [.int (b01 (galS n X 4 (nP n X q) b).1)] _ _
                        have hO371 := hO365.tr hO368
                        refine sx_RP.ret (r := (some (.int (b01 (galS n X 4 (nP n X q) b).1)))) rfl (bo_ret rfl (b01_in _)) ?_
                        have eg : gwT n X q = -1 := by simp only [gwT, c1, c27, c53, c79, c105, c131, c184, c237, c290, c343, if_true, if_false, Bool.false_eq_true, ite_true, ite_false, true_or, or_true, or_false, false_or]
                        have ek : kwT n X q = 4 := by simp only [kwT, c1, c27, c53, c79, c105, c131, c184, c237, c290, c343, if_true, if_false, Bool.false_eq_true, ite_true, ite_false, true_or, or_true, or_false, false_or]
                        have eR : itT n X q b = galS n X 4 (nP n X q) b := by unfold itT; rw [eg, if_pos rfl, ek, if_neg (by decide)]; exact galT_S (by omega)
                        rw [eR]
                        exact ⟨⟨rfl, hr367⟩, hI370, hO371⟩
                      · replace q354 := Decidable.not_not.mp (of_decide_eq_false q354)
                        replace q354 := (nI_eq (a := u) (b := 10) (by omega) (by omega)).mp q354
                        refine sx_RP.step (pc2 := 61) (ls2 := [(1, .int 4), (0, .ref 111)]) (st2 := [.ref 111]) (w3 := w347) rfl rfl ?_
                        refine sx_RP.callp (as2 := [.ref 111]) (rest2 := []) rfl rfl (sx_inv_v2 (mi := 211) (k := 245) (st := [.ref 111]) (w := w347) rfl rfl hI348.1.o111 rfl rfl rfl) rfl rfl rfl (y222 (p := q) hI348 ef346 ep344) (show _ = 64 from rfl) ?_
                        rintro r4 w374 ⟨⟨rfl, hv372⟩, hI375, hO373⟩
                        show sx_RP _ _ _ _ _ [.int 0] _ _
                        have hO376 := hO351.tr (HS.om hO373.hs)
                        refine sx_RP.ret (r := (some (.int 0))) rfl rfl ?_
                        have eg : gwT n X q = -1 := by simp only [gwT, c1, c27, c53, c79, c105, c131, c184, c237, c290, c343, if_true, if_false, Bool.false_eq_true, ite_true, ite_false, true_or, or_true, or_false, false_or]
                        have ek : kwT n X q = 4 := by simp only [kwT, c1, c27, c53, c79, c105, c131, c184, c237, c290, c343, if_true, if_false, Bool.false_eq_true, ite_true, ite_false, true_or, or_true, or_false, false_or]
                        have eR : itT n X q b = (false, q, b) := by unfold itT; rw [eg, if_pos rfl, ek, if_neg (by decide)]; unfold galT; rw [if_neg (by omega)]
                        rw [eR]
                        exact ⟨⟨rfl, RdM.f hv372⟩, hI375, hO376⟩
                    · refine sx_RP.callp (as2 := [.ref 111, .float 105]) (rest2 := []) rfl rfl (sx_inv_v2 (mi := 211) (k := 239) (st := [.float 105, .ref 111]) (w := w337) rfl rfl hI338.1.o111 rfl rfl rfl) rfl rfl rfl (y214f (k := (105 : UInt32)) (m := 5) hI338 hM340 hpl ep334 (by decide) rfl (by decide) (by decide) hP339 c343) (show _ = 46 from rfl) ?_
                      rintro r4 w380 ⟨⟨rfl, ep377⟩, hI381, hO378⟩
                      show sx_RP _ _ _ _ _ [.int 0] _ _
                      have ef379 := (hO378.2 13 (by decide)).trans ef336
                      have hP382 : rE blk n X q = q := by rw [← hP339]; exact rE_rE
                      have hM383 := hM340.hs (hO378.hs)
                      have hO384 := hO341.tr (HS.om (hO378.hs))
                      have hB385 : rowB (ia w380 112) = b := by rw [HS.row (hO378.hs)]; exact hB342
                      refine sx_RP.step (pc2 := 65) (ls2 := [(1, .int 4), (0, .ref 111)]) (st2 := []) (w3 := w380) rfl rfl ?_
                      refine sx_RP.step (pc2 := 66) (ls2 := [(1, .int 4), (0, .ref 111)]) (st2 := [.ref 111]) (w3 := w380) rfl rfl ?_
                      refine sx_RP.step (pc2 := 67) (ls2 := [(1, .int 4), (0, .ref 111)]) (st2 := [.int 4, .ref 111]) (w3 := w380) rfl rfl ?_
                      refine sx_RP.cu (as := [.int 4]) (rest2 := [.ref 111]) (st3 := [.float 105, .ref 111]) rfl rfl rfl rfl rfl (p226_4) rfl ?_
                      refine sx_RP.callp (as2 := [.ref 111, .float 105]) (rest2 := []) rfl rfl (sx_inv_v2 (mi := 211) (k := 243) (st := [.float 105, .ref 111]) (w := w380) rfl rfl hI381.1.o111 rfl rfl rfl) rfl rfl rfl (y213f (k := (105 : UInt32)) (m := 5) hI381 hM383 hpl ep377 ef379 (by decide) rfl (by decide) (by decide) hP382 c343) (show _ = 73 from rfl) ?_
                      rintro r4 w390 ⟨⟨rfl, ep387⟩, hI391, hO388⟩
                      show sx_RP _ _ _ _ _ [.int 0] _ _
                      have ef389 := (hO388.2 13 (by decide)).trans ef379
                      have hP392 : rE blk n X q = q := by rw [← hP382]; exact rE_rE
                      have hM393 := hM383.hs (hO388.hs)
                      have hO394 := hO384.tr (HS.om (hO388.hs))
                      have hB395 : rowB (ia w390 112) = b := by rw [HS.row (hO388.hs)]; exact hB385
                      refine sx_RP.step (pc2 := 82) (ls2 := [(1, .int 4), (0, .ref 111)]) (st2 := []) (w3 := w390) rfl rfl ?_
                      refine sx_RP.step (pc2 := 85) (ls2 := [(1, .int 5), (0, .ref 111)]) (st2 := []) (w3 := w390) rfl rfl ?_
                      refine sx_RP.step (pc2 := 32) (ls2 := [(1, .int 5), (0, .ref 111)]) (st2 := []) (w3 := w390) rfl rfl ?_
                      refine sx_RP.step (pc2 := 33) (ls2 := [(1, .int 5), (0, .ref 111)]) (st2 := [.int 5]) (w3 := w390) rfl rfl ?_
                      refine sx_RP.step (pc2 := 35) (ls2 := [(1, .int 5), (0, .ref 111)]) (st2 := [.int 6, .int 5]) (w3 := w390) rfl rfl ?_
                      refine sx_RP.step (pc2 := 38) (ls2 := [(1, .int 5), (0, .ref 111)]) (st2 := []) (w3 := w390) rfl rfl ?_
                      refine sx_RP.step (pc2 := 39) (ls2 := [(1, .int 5), (0, .ref 111)]) (st2 := [.ref 111]) (w3 := w390) rfl rfl ?_
                      refine sx_RP.step (pc2 := 40) (ls2 := [(1, .int 5), (0, .ref 111)]) (st2 := [.int 5, .ref 111]) (w3 := w390) rfl rfl ?_
                      refine sx_RP.cu (as := [.int 5]) (rest2 := [.ref 111]) (st3 := [.float 103, .ref 111]) rfl rfl rfl rfl rfl (p226_5) rfl ?_
                      rcases Bool.eq_false_or_eq_true (wdT n X q (103 : UInt32)) with c396 | c396
                      · refine sx_RP.callp (as2 := [.ref 111, .float 103]) (rest2 := []) rfl rfl (sx_inv_v2 (mi := 211) (k := 239) (st := [.float 103, .ref 111]) (w := w390) rfl rfl hI391.1.o111 rfl rfl rfl) rfl rfl rfl (y214t (k := (103 : UInt32)) (m := 4) hI391 hM393 hpl ep387 (by decide) rfl (by decide) (by decide) hP392 c396) (show _ = 46 from rfl) ?_
                        rintro r4 w400 ⟨⟨rfl, ep397⟩, hI401, hO398⟩
                        show sx_RP _ _ _ _ _ [.int 1] _ _
                        have ef399 := (hO398.2 13 (by decide)).trans ef389
                        have hP402 : rE blk n X q = q := by rw [← hP392]; exact rE_rE
                        have hM403 := hM393.hs (hO398.hs)
                        have hO404 := hO394.tr (HS.om (hO398.hs))
                        have hB405 : rowB (ia w400 112) = b := by rw [HS.row (hO398.hs)]; exact hB395
                        refine sx_RP.step (pc2 := 49) (ls2 := [(1, .int 5), (0, .ref 111)]) (st2 := []) (w3 := w400) rfl rfl ?_
                        refine sx_RP.step (pc2 := 50) (ls2 := [(1, .int 5), (0, .ref 111)]) (st2 := [.ref 111]) (w3 := w400) rfl rfl ?_
                        refine sx_RP.gf (v := .ref 112) rfl rfl hI401.1.o111 rfl rfl (show _ = 53 from rfl) ?_
                        refine sx_RP.step (pc2 := 54) (ls2 := [(1, .int 5), (0, .ref 111)]) (st2 := [.int 1, .ref 112]) (w3 := w400) rfl rfl ?_
                        have ex406 : (ia w400 112).getD 1 0 = nI u := row_len hI401 hB405 hu (by omega)
                        refine sx_RP.ild (c := 1) rfl hI401.1.a112.1 hI401.1.a112.2 (sx_in_nI (show 1 < 172 by omega) (by decide)) (nI_clamp (by decide)) (show _ = 55 from rfl) ?_
                        rw [ex406]
                        refine sx_RP.step (pc2 := 57) (ls2 := [(1, .int 5), (0, .ref 111)]) (st2 := [.int 10, .int (nI u)]) (w3 := w400) rfl rfl ?_
                        refine sx_RP.br (p1 := 65) (l1 := [(1, .int 5), (0, .ref 111)]) (s1 := []) (v1 := w400) (p2 := 60) (l2 := [(1, .int 5), (0, .ref 111)]) (s2 := []) (v2 := w400) rfl rfl (fun q407 => ?_) (fun q407 => ?_)
                        · replace q407 := of_decide_eq_true q407
                          replace q407 := mt (nI_eq (a := u) (b := 10) (by omega) (by omega)).mpr q407
                          refine sx_RP.step (pc2 := 66) (ls2 := [(1, .int 5), (0, .ref 111)]) (st2 := [.ref 111]) (w3 := w400) rfl rfl ?_
                          refine sx_RP.step (pc2 := 67) (ls2 := [(1, .int 5), (0, .ref 111)]) (st2 := [.int 5, .ref 111]) (w3 := w400) rfl rfl ?_
                          refine sx_RP.cu (as := [.int 5]) (rest2 := [.ref 111]) (st3 := [.float 103, .ref 111]) rfl rfl rfl rfl rfl (p226_5) rfl ?_
                          refine sx_RP.callp (as2 := [.ref 111, .float 103]) (rest2 := []) rfl rfl (sx_inv_v2 (mi := 211) (k := 243) (st := [.float 103, .ref 111]) (w := w400) rfl rfl hI401.1.o111 rfl rfl rfl) rfl rfl rfl (y213t (k := (103 : UInt32)) (m := 4) hI401 hM403 hpl ep397 ef399 (by decide) rfl (by decide) (by decide) hP402 c396) (show _ = 73 from rfl) ?_
                          rintro r4 w412 ⟨⟨rfl, ep409⟩, hI413, hO410⟩
                          show sx_RP _ _ _ _ _ [.int 1] _ _
                          have ef411 := (hO410.2 13 (by decide)).trans ef399
                          have hp414 : beT n X q ≤ n := beT_le hpl
                          have hp415 : nP n X q ≤ n := rE_le hp414
                          have hP416 : rE blk n X (beT n X q) = nP n X q := rfl
                          have hM417 := hM403.hs (hO410.hs)
                          have hO418 := hO404.tr (HS.om (hO410.hs))
                          have hB419 : rowB (ia w412 112) = b := by rw [HS.row (hO410.hs)]; exact hB405
                          refine sx_RP.step (pc2 := 76) (ls2 := [(1, .int 5), (0, .ref 111)]) (st2 := []) (w3 := w412) rfl rfl ?_
                          refine sx_RP.step (pc2 := 77) (ls2 := [(1, .int 5), (0, .ref 111)]) (st2 := [.ref 111]) (w3 := w412) rfl rfl ?_
                          refine sx_RP.step (pc2 := 78) (ls2 := [(1, .int 5), (0, .ref 111)]) (st2 := [.int 5, .ref 111]) (w3 := w412) rfl rfl ?_
                          refine sx_RP.callp (as2 := [.ref 111, .int 5]) (rest2 := []) rfl rfl (sx_inv_v2 (mi := 211) (k := 323) (st := [.int 5, .ref 111]) (w := w412) rfl rfl hI413.1.o111 rfl rfl rfl) rfl rfl rfl (y227 (k := 5) hI413 hM417 hp414 ep409 ef411 hP416 hB419 (by decide) hu (by omega)) (show _ = 81 from rfl) ?_
                          rintro r4 w422 ⟨⟨rfl, hr420⟩, hI423, hO421⟩
                          show sx_RP _ _ _ _ _ [.int (b01 (galS n X 5 (nP n X q) b).1)] _ _
                          have hO424 := hO418.tr hO421
                          refine sx_RP.ret (r := (some (.int (b01 (galS n X 5 (nP n X q) b).1)))) rfl (bo_ret rfl (b01_in _)) ?_
                          have eg : gwT n X q = -1 := by simp only [gwT, c1, c27, c53, c79, c105, c131, c184, c237, c290, c343, c396, if_true, if_false, Bool.false_eq_true, ite_true, ite_false, true_or, or_true, or_false, false_or]
                          have ek : kwT n X q = 5 := by simp only [kwT, c1, c27, c53, c79, c105, c131, c184, c237, c290, c343, c396, if_true, if_false, Bool.false_eq_true, ite_true, ite_false, true_or, or_true, or_false, false_or]
                          have eR : itT n X q b = galS n X 5 (nP n X q) b := by unfold itT; rw [eg, if_pos rfl, ek, if_neg (by decide)]; exact galT_S (by omega)
                          rw [eR]
                          exact ⟨⟨rfl, hr420⟩, hI423, hO424⟩
                        · replace q407 := Decidable.not_not.mp (of_decide_eq_false q407)
                          replace q407 := (nI_eq (a := u) (b := 10) (by omega) (by omega)).mp q407
                          refine sx_RP.step (pc2 := 61) (ls2 := [(1, .int 5), (0, .ref 111)]) (st2 := [.ref 111]) (w3 := w400) rfl rfl ?_
                          refine sx_RP.callp (as2 := [.ref 111]) (rest2 := []) rfl rfl (sx_inv_v2 (mi := 211) (k := 245) (st := [.ref 111]) (w := w400) rfl rfl hI401.1.o111 rfl rfl rfl) rfl rfl rfl (y222 (p := q) hI401 ef399 ep397) (show _ = 64 from rfl) ?_
                          rintro r4 w427 ⟨⟨rfl, hv425⟩, hI428, hO426⟩
                          show sx_RP _ _ _ _ _ [.int 0] _ _
                          have hO429 := hO404.tr (HS.om hO426.hs)
                          refine sx_RP.ret (r := (some (.int 0))) rfl rfl ?_
                          have eg : gwT n X q = -1 := by simp only [gwT, c1, c27, c53, c79, c105, c131, c184, c237, c290, c343, c396, if_true, if_false, Bool.false_eq_true, ite_true, ite_false, true_or, or_true, or_false, false_or]
                          have ek : kwT n X q = 5 := by simp only [kwT, c1, c27, c53, c79, c105, c131, c184, c237, c290, c343, c396, if_true, if_false, Bool.false_eq_true, ite_true, ite_false, true_or, or_true, or_false, false_or]
                          have eR : itT n X q b = (false, q, b) := by unfold itT; rw [eg, if_pos rfl, ek, if_neg (by decide)]; unfold galT; rw [if_neg (by omega)]
                          rw [eR]
                          exact ⟨⟨rfl, RdM.f hv425⟩, hI428, hO429⟩
                      · refine sx_RP.callp (as2 := [.ref 111, .float 103]) (rest2 := []) rfl rfl (sx_inv_v2 (mi := 211) (k := 239) (st := [.float 103, .ref 111]) (w := w390) rfl rfl hI391.1.o111 rfl rfl rfl) rfl rfl rfl (y214f (k := (103 : UInt32)) (m := 4) hI391 hM393 hpl ep387 (by decide) rfl (by decide) (by decide) hP392 c396) (show _ = 46 from rfl) ?_
                        rintro r4 w433 ⟨⟨rfl, ep430⟩, hI434, hO431⟩
                        show sx_RP _ _ _ _ _ [.int 0] _ _
                        have ef432 := (hO431.2 13 (by decide)).trans ef389
                        have hP435 : rE blk n X q = q := by rw [← hP392]; exact rE_rE
                        have hM436 := hM393.hs (hO431.hs)
                        have hO437 := hO394.tr (HS.om (hO431.hs))
                        have hB438 : rowB (ia w433 112) = b := by rw [HS.row (hO431.hs)]; exact hB395
                        refine sx_RP.step (pc2 := 65) (ls2 := [(1, .int 5), (0, .ref 111)]) (st2 := []) (w3 := w433) rfl rfl ?_
                        refine sx_RP.step (pc2 := 66) (ls2 := [(1, .int 5), (0, .ref 111)]) (st2 := [.ref 111]) (w3 := w433) rfl rfl ?_
                        refine sx_RP.step (pc2 := 67) (ls2 := [(1, .int 5), (0, .ref 111)]) (st2 := [.int 5, .ref 111]) (w3 := w433) rfl rfl ?_
                        refine sx_RP.cu (as := [.int 5]) (rest2 := [.ref 111]) (st3 := [.float 103, .ref 111]) rfl rfl rfl rfl rfl (p226_5) rfl ?_
                        refine sx_RP.callp (as2 := [.ref 111, .float 103]) (rest2 := []) rfl rfl (sx_inv_v2 (mi := 211) (k := 243) (st := [.float 103, .ref 111]) (w := w433) rfl rfl hI434.1.o111 rfl rfl rfl) rfl rfl rfl (y213f (k := (103 : UInt32)) (m := 4) hI434 hM436 hpl ep430 ef432 (by decide) rfl (by decide) (by decide) hP435 c396) (show _ = 73 from rfl) ?_
                        rintro r4 w443 ⟨⟨rfl, ep440⟩, hI444, hO441⟩
                        show sx_RP _ _ _ _ _ [.int 0] _ _
                        have ef442 := (hO441.2 13 (by decide)).trans ef432
                        have hP445 : rE blk n X q = q := by rw [← hP435]; exact rE_rE
                        have hM446 := hM436.hs (hO441.hs)
                        have hO447 := hO437.tr (HS.om (hO441.hs))
                        have hB448 : rowB (ia w443 112) = b := by rw [HS.row (hO441.hs)]; exact hB438
                        refine sx_RP.step (pc2 := 82) (ls2 := [(1, .int 5), (0, .ref 111)]) (st2 := []) (w3 := w443) rfl rfl ?_
                        refine sx_RP.step (pc2 := 85) (ls2 := [(1, .int 6), (0, .ref 111)]) (st2 := []) (w3 := w443) rfl rfl ?_
                        refine sx_RP.step (pc2 := 32) (ls2 := [(1, .int 6), (0, .ref 111)]) (st2 := []) (w3 := w443) rfl rfl ?_
                        refine sx_RP.step (pc2 := 33) (ls2 := [(1, .int 6), (0, .ref 111)]) (st2 := [.int 6]) (w3 := w443) rfl rfl ?_
                        refine sx_RP.step (pc2 := 35) (ls2 := [(1, .int 6), (0, .ref 111)]) (st2 := [.int 6, .int 6]) (w3 := w443) rfl rfl ?_
                        refine sx_RP.step (pc2 := 88) (ls2 := [(1, .int 6), (0, .ref 111)]) (st2 := []) (w3 := w443) rfl rfl ?_
                        refine sx_RP.step (pc2 := 89) (ls2 := [(1, .int 6), (0, .ref 111)]) (st2 := [.ref 111]) (w3 := w443) rfl rfl ?_
                        refine sx_RP.step (pc2 := 92) (ls2 := [(1, .int 6), (0, .ref 111)]) (st2 := [.float 104, .ref 111]) (w3 := w443) rfl rfl ?_
                        rcases Bool.eq_false_or_eq_true (wdT n X q (104 : UInt32)) with c449 | c449
                        · refine sx_RP.callp (as2 := [.ref 111, .float 104]) (rest2 := []) rfl rfl (sx_inv_v2 (mi := 211) (k := 239) (st := [.float 104, .ref 111]) (w := w443) rfl rfl hI444.1.o111 rfl rfl rfl) rfl rfl rfl (y214t (k := (104 : UInt32)) (m := 4) hI444 hM446 hpl ep440 (by decide) rfl (by decide) (by decide) hP445 c449) (show _ = 95 from rfl) ?_
                          rintro r4 w453 ⟨⟨rfl, ep450⟩, hI454, hO451⟩
                          show sx_RP _ _ _ _ _ [.int 1] _ _
                          have ef452 := (hO451.2 13 (by decide)).trans ef442
                          have hP455 : rE blk n X q = q := by rw [← hP445]; exact rE_rE
                          have hM456 := hM446.hs (hO451.hs)
                          have hO457 := hO447.tr (HS.om (hO451.hs))
                          have hB458 : rowB (ia w453 112) = b := by rw [HS.row (hO451.hs)]; exact hB448
                          refine sx_RP.step (pc2 := 98) (ls2 := [(1, .int 6), (0, .ref 111)]) (st2 := []) (w3 := w453) rfl rfl ?_
                          refine sx_RP.step (pc2 := 99) (ls2 := [(1, .int 6), (0, .ref 111)]) (st2 := [.ref 111]) (w3 := w453) rfl rfl ?_
                          refine sx_RP.gf (v := .ref 112) rfl rfl hI454.1.o111 rfl rfl (show _ = 102 from rfl) ?_
                          refine sx_RP.step (pc2 := 103) (ls2 := [(1, .int 6), (0, .ref 111)]) (st2 := [.int 2, .ref 112]) (w3 := w453) rfl rfl ?_
                          have ex459 : (ia w453 112).getD 2 0 = nI m := row_dlen hI454 hB458 hm (by omega)
                          refine sx_RP.ild (c := 2) rfl hI454.1.a112.1 hI454.1.a112.2 (sx_in_nI (show 2 < 172 by omega) (by decide)) (nI_clamp (by decide)) (show _ = 104 from rfl) ?_
                          rw [ex459]
                          refine sx_RP.step (pc2 := 106) (ls2 := [(1, .int 6), (0, .ref 111)]) (st2 := [.int 9, .int (nI m)]) (w3 := w453) rfl rfl ?_
                          refine sx_RP.br (p1 := 114) (l1 := [(1, .int 6), (0, .ref 111)]) (s1 := []) (v1 := w453) (p2 := 109) (l2 := [(1, .int 6), (0, .ref 111)]) (s2 := []) (v2 := w453) rfl rfl (fun q460 => ?_) (fun q460 => ?_)
                          · replace q460 := of_decide_eq_true q460
                            replace q460 := mt (nI_eq (a := m) (b := 9) (by omega) (by omega)).mpr q460
                            refine sx_RP.step (pc2 := 115) (ls2 := [(1, .int 6), (0, .ref 111)]) (st2 := [.ref 111]) (w3 := w453) rfl rfl ?_
                            refine sx_RP.step (pc2 := 118) (ls2 := [(1, .int 6), (0, .ref 111)]) (st2 := [.float 104, .ref 111]) (w3 := w453) rfl rfl ?_
                            refine sx_RP.callp (as2 := [.ref 111, .float 104]) (rest2 := []) rfl rfl (sx_inv_v2 (mi := 211) (k := 243) (st := [.float 104, .ref 111]) (w := w453) rfl rfl hI454.1.o111 rfl rfl rfl) rfl rfl rfl (y213t (k := (104 : UInt32)) (m := 4) hI454 hM456 hpl ep450 ef452 (by decide) rfl (by decide) (by decide) hP455 c449) (show _ = 121 from rfl) ?_
                            rintro r4 w465 ⟨⟨rfl, ep462⟩, hI466, hO463⟩
                            show sx_RP _ _ _ _ _ [.int 1] _ _
                            have ef464 := (hO463.2 13 (by decide)).trans ef452
                            have hp467 : beT n X q ≤ n := beT_le hpl
                            have hp468 : nP n X q ≤ n := rE_le hp467
                            have hP469 : rE blk n X (beT n X q) = nP n X q := rfl
                            have hM470 := hM456.hs (hO463.hs)
                            have hO471 := hO457.tr (HS.om (hO463.hs))
                            have hB472 : rowB (ia w465 112) = b := by rw [HS.row (hO463.hs)]; exact hB458
                            refine sx_RP.step (pc2 := 124) (ls2 := [(1, .int 6), (0, .ref 111)]) (st2 := []) (w3 := w465) rfl rfl ?_
                            refine sx_RP.step (pc2 := 125) (ls2 := [(1, .int 6), (0, .ref 111)]) (st2 := [.ref 111]) (w3 := w465) rfl rfl ?_
                            refine sx_RP.step (pc2 := 126) (ls2 := [(1, .int 6), (0, .ref 111)]) (st2 := [.int 0, .ref 111]) (w3 := w465) rfl rfl ?_
                            refine sx_RP.step (pc2 := 128) (ls2 := [(1, .int 6), (0, .ref 111)]) (st2 := [.int 47, .int 0, .ref 111]) (w3 := w465) rfl rfl ?_
                            rcases Bool.eq_false_or_eq_true (nmT n X (nP n X q) 0 47) with c473 | c473
                            · refine sx_RP.callp (as2 := [.ref 111, .int 0, .int 47]) (rest2 := []) rfl rfl (sx_inv_v2 (mi := 211) (k := 267) (st := [.int 47, .int 0, .ref 111]) (w := w465) rfl rfl hI466.1.o111 rfl rfl rfl) rfl rfl rfl (y220t (lo := 0) (hi := 47) hI466 hM470 hp467 ep462 ef464 (by omega) (by decide) hP469 c473) (show _ = 131 from rfl) ?_
                              rintro r4 w478 ⟨⟨rfl, ep474, ev477, ef476⟩, hI479, hO475⟩
                              show sx_RP _ _ _ _ _ [.int 1] _ _
                              have hp480 : beT n X (nP n X q) ≤ n := beT_le hp468
                              have hp481 : nP n X (nP n X q) ≤ n := rE_le hp480
                              have hr482 := nmT_in c473
                              have hP483 : rE blk n X (beT n X (nP n X q)) = nP n X (nP n X q) := rfl
                              have hM484 := hM470.hs (hO475)
                              have hO485 := hO471.tr (HS.om (hO475))
                              have hB486 : rowB (ia w478 112) = b := by rw [HS.row (hO475)]; exact hB472
                              refine sx_RP.step (pc2 := 136) (ls2 := [(1, .int 6), (0, .ref 111)]) (st2 := []) (w3 := w478) rfl rfl ?_
                              refine sx_RP.step (pc2 := 137) (ls2 := [(1, .int 6), (0, .ref 111)]) (st2 := [.ref 111]) (w3 := w478) rfl rfl ?_
                              refine sx_RP.gf (v := .ref 112) rfl rfl hI479.1.o111 rfl rfl (show _ = 140 from rfl) ?_
                              refine sx_RP.step (pc2 := 143) (ls2 := [(1, .int 6), (0, .ref 111)]) (st2 := [.int 163, .ref 112]) (w3 := w478) rfl rfl ?_
                              refine sx_RP.step (pc2 := 144) (ls2 := [(1, .int 6), (0, .ref 111)]) (st2 := [.ref 111, .int 163, .ref 112]) (w3 := w478) rfl rfl ?_
                              refine sx_RP.gf (v := .ref 112) rfl rfl hI479.1.o111 rfl rfl (show _ = 147 from rfl) ?_
                              refine sx_RP.step (pc2 := 148) (ls2 := [(1, .int 6), (0, .ref 111)]) (st2 := [.int 2, .ref 112, .int 163, .ref 112]) (w3 := w478) rfl rfl ?_
                              have ex487 : (ia w478 112).getD 2 0 = nI m := row_dlen hI479 hB486 hm (by omega)
                              refine sx_RP.ild (c := 2) rfl hI479.1.a112.1 hI479.1.a112.2 (sx_in_nI (show 2 < 172 by omega) (by decide)) (nI_clamp (by decide)) (show _ = 149 from rfl) ?_
                              rw [ex487]
                              refine sx_RP.step (pc2 := 150) (ls2 := [(1, .int 6), (0, .ref 111)]) (st2 := [.int (163 + (nI m)), .ref 112]) (w3 := w478) rfl rfl ?_
                              rw [show (163 + (nI m) : Int32) = nI (163 + m) from nI_add 163 m]
                              refine sx_RP.step (pc2 := 151) (ls2 := [(1, .int 6), (0, .ref 111)]) (st2 := [.ref 111, .int (nI (163 + m)), .ref 112]) (w3 := w478) rfl rfl ?_
                              refine sx_RP.gf (v := .int (fi w478 111 14)) rfl rfl hI479.1.o111 rfl rfl (show _ = 154 from rfl) ?_
                              rw [ev477]
                              refine sx_RP.xM (k := 163 + m) hI479 (by decide) rfl (by omega) (eOK_d (by omega) (inR.n (show (vaT n X (nP n X q)) ≤ 47 by omega))) (show _ = 155 from rfl) (fun w488 hI489 hs490 hv491 => ?_)
                              have ep493 := (fi_same 12 (hs490 111 (by decide))).trans ep474
                              have ef494 := (fi_same 13 (hs490 111 (by decide))).trans ef476
                              have hM495 := hM484.om (OM.st hs490)
                              have hO496 := hO485.tr (OM.st hs490)
                              refine sx_RP.step (pc2 := 156) (ls2 := [(1, .int 6), (0, .ref 111)]) (st2 := [.ref 111]) (w3 := w488) rfl rfl ?_
                              refine sx_RP.gf (v := .ref 112) rfl rfl hI489.1.o111 rfl rfl (show _ = 159 from rfl) ?_
                              refine sx_RP.step (pc2 := 160) (ls2 := [(1, .int 6), (0, .ref 111)]) (st2 := [.int 2, .ref 112]) (w3 := w488) rfl rfl ?_
                              refine sx_RP.step (pc2 := 161) (ls2 := [(1, .int 6), (0, .ref 111)]) (st2 := [.int 2, .ref 112, .int 2, .ref 112]) (w3 := w488) rfl rfl ?_
                              have ex497 : (ia w488 112).getD 2 0 = nI m := by rw [hv491, gd_ne (by omega)]; exact row_dlen hI479 hB486 hm (by omega)
                              refine sx_RP.ild (c := 2) rfl hI489.1.a112.1 hI489.1.a112.2 (sx_in_nI (show 2 < 172 by omega) (by decide)) (nI_clamp (by decide)) (show _ = 162 from rfl) ?_
                              rw [ex497]
                              refine sx_RP.step (pc2 := 163) (ls2 := [(1, .int 6), (0, .ref 111)]) (st2 := [.int 1, .int (nI m), .int 2, .ref 112]) (w3 := w488) rfl rfl ?_
                              refine sx_RP.step (pc2 := 164) (ls2 := [(1, .int 6), (0, .ref 111)]) (st2 := [.int ((nI m) + 1), .int 2, .ref 112]) (w3 := w488) rfl rfl ?_
                              rw [show ((nI m) + 1 : Int32) = nI (m + 1) from nI_add m 1]
                              refine sx_RP.xM (k := 2) hI489 (by decide) rfl (by omega) (eOK_2 (inR.n (show m + 1 ≤ 9 by omega))) (show _ = 165 from rfl) (fun w498 hI499 hs500 hv501 => ?_)
                              have hB502 : rowB (ia w498 112) = addD (nI (vaT n X (nP n X q))) (b) := by rw [hv501, hv491, rowB_addD hI479.1.a112.2 (row_dlen hI479 hB486 hm (by omega)) (by omega) (hI479.manyM (by decide)), hB486]
                              have ep503 := (fi_same 12 (hs500 111 (by decide))).trans ep493
                              have ef504 := (fi_same 13 (hs500 111 (by decide))).trans ef494
                              have hM505 := hM495.om (OM.st hs500)
                              have hO506 := hO496.tr (OM.st hs500)
                              refine sx_RP.step (pc2 := 166) (ls2 := [(1, .int 6), (0, .ref 111)]) (st2 := [.int 1]) (w3 := w498) rfl rfl ?_
                              refine sx_RP.ret (r := (some (.int 1))) rfl rfl ?_
                              have eg : gwT n X q = -1 := by simp only [gwT, c1, c27, c53, c79, c105, c131, c184, c237, c290, c343, c396, c449, c473, if_true, if_false, Bool.false_eq_true, ite_true, ite_false, true_or, or_true, or_false, false_or]
                              have ek : kwT n X q = -1 := by simp only [kwT, c1, c27, c53, c79, c105, c131, c184, c237, c290, c343, c396, c449, c473, if_true, if_false, Bool.false_eq_true, ite_true, ite_false, true_or, or_true, or_false, false_or]
                              have eR : itT n X q b = (true, nP n X (nP n X q), addD (nI (vaT n X (nP n X q))) (b)) := by unfold itT; rw [eg, if_pos rfl, ek, if_pos rfl, if_pos c449]; unfold disT; rw [if_pos (by omega), if_pos c473]
                              rw [eR]
                              exact ⟨⟨rfl, RdM.t ef504 hB502 hp480 ep503 hP483⟩, hI499, hO506⟩
                            · refine sx_RP.callp (as2 := [.ref 111, .int 0, .int 47]) (rest2 := []) rfl rfl (sx_inv_v2 (mi := 211) (k := 267) (st := [.int 47, .int 0, .ref 111]) (w := w465) rfl rfl hI466.1.o111 rfl rfl rfl) rfl rfl rfl (y220f (lo := 0) (hi := 47) hI466 hM470 hp467 ep462 ef464 (by omega) (by decide) hP469 c473) (show _ = 131 from rfl) ?_
                              rintro r4 w511 ⟨⟨rfl, ep507⟩, hI512, hO508⟩
                              show sx_RP _ _ _ _ _ [.int 0] _ _
                              have hO513 := hO471.tr (HS.om hO508)
                              refine sx_RP.step (pc2 := 134) (ls2 := [(1, .int 6), (0, .ref 111)]) (st2 := []) (w3 := w511) rfl rfl ?_
                              refine sx_RP.step (pc2 := 135) (ls2 := [(1, .int 6), (0, .ref 111)]) (st2 := [.int 0]) (w3 := w511) rfl rfl ?_
                              refine sx_RP.ret (r := (some (.int 0))) rfl rfl ?_
                              have eg : gwT n X q = -1 := by simp only [gwT, c1, c27, c53, c79, c105, c131, c184, c237, c290, c343, c396, c449, c473, if_true, if_false, Bool.false_eq_true, ite_true, ite_false, true_or, or_true, or_false, false_or]
                              have ek : kwT n X q = -1 := by simp only [kwT, c1, c27, c53, c79, c105, c131, c184, c237, c290, c343, c396, c449, c473, if_true, if_false, Bool.false_eq_true, ite_true, ite_false, true_or, or_true, or_false, false_or]
                              have eR : itT n X q b = (false, nP n X q, b) := by unfold itT; rw [eg, if_pos rfl, ek, if_pos rfl, if_pos c449]; unfold disT; rw [if_pos (by omega), if_neg (by rw [c473]; decide)]
                              rw [eR]
                              exact ⟨⟨rfl, RdM.f ep507⟩, hI512, hO513⟩
                          · replace q460 := Decidable.not_not.mp (of_decide_eq_false q460)
                            replace q460 := (nI_eq (a := m) (b := 9) (by omega) (by omega)).mp q460
                            refine sx_RP.step (pc2 := 110) (ls2 := [(1, .int 6), (0, .ref 111)]) (st2 := [.ref 111]) (w3 := w453) rfl rfl ?_
                            refine sx_RP.callp (as2 := [.ref 111]) (rest2 := []) rfl rfl (sx_inv_v2 (mi := 211) (k := 245) (st := [.ref 111]) (w := w453) rfl rfl hI454.1.o111 rfl rfl rfl) rfl rfl rfl (y222 (p := q) hI454 ef452 ep450) (show _ = 113 from rfl) ?_
                            rintro r4 w516 ⟨⟨rfl, hv514⟩, hI517, hO515⟩
                            show sx_RP _ _ _ _ _ [.int 0] _ _
                            have hO518 := hO457.tr (HS.om hO515.hs)
                            refine sx_RP.ret (r := (some (.int 0))) rfl rfl ?_
                            have eg : gwT n X q = -1 := by simp only [gwT, c1, c27, c53, c79, c105, c131, c184, c237, c290, c343, c396, c449, if_true, if_false, Bool.false_eq_true, ite_true, ite_false, true_or, or_true, or_false, false_or]
                            have ek : kwT n X q = -1 := by simp only [kwT, c1, c27, c53, c79, c105, c131, c184, c237, c290, c343, c396, c449, if_true, if_false, Bool.false_eq_true, ite_true, ite_false, true_or, or_true, or_false, false_or]
                            have eR : itT n X q b = (false, q, b) := by unfold itT; rw [eg, if_pos rfl, ek, if_pos rfl, if_pos c449]; unfold disT; rw [if_neg (by omega)]
                            rw [eR]
                            exact ⟨⟨rfl, RdM.f hv514⟩, hI517, hO518⟩
                        · refine sx_RP.callp (as2 := [.ref 111, .float 104]) (rest2 := []) rfl rfl (sx_inv_v2 (mi := 211) (k := 239) (st := [.float 104, .ref 111]) (w := w443) rfl rfl hI444.1.o111 rfl rfl rfl) rfl rfl rfl (y214f (k := (104 : UInt32)) (m := 4) hI444 hM446 hpl ep440 (by decide) rfl (by decide) (by decide) hP445 c449) (show _ = 95 from rfl) ?_
                          rintro r4 w522 ⟨⟨rfl, ep519⟩, hI523, hO520⟩
                          show sx_RP _ _ _ _ _ [.int 0] _ _
                          have ef521 := (hO520.2 13 (by decide)).trans ef442
                          have hP524 : rE blk n X q = q := by rw [← hP445]; exact rE_rE
                          have hM525 := hM446.hs (hO520.hs)
                          have hO526 := hO447.tr (HS.om (hO520.hs))
                          have hB527 : rowB (ia w522 112) = b := by rw [HS.row (hO520.hs)]; exact hB448
                          refine sx_RP.step (pc2 := 114) (ls2 := [(1, .int 6), (0, .ref 111)]) (st2 := []) (w3 := w522) rfl rfl ?_
                          refine sx_RP.step (pc2 := 115) (ls2 := [(1, .int 6), (0, .ref 111)]) (st2 := [.ref 111]) (w3 := w522) rfl rfl ?_
                          refine sx_RP.step (pc2 := 118) (ls2 := [(1, .int 6), (0, .ref 111)]) (st2 := [.float 104, .ref 111]) (w3 := w522) rfl rfl ?_
                          refine sx_RP.callp (as2 := [.ref 111, .float 104]) (rest2 := []) rfl rfl (sx_inv_v2 (mi := 211) (k := 243) (st := [.float 104, .ref 111]) (w := w522) rfl rfl hI523.1.o111 rfl rfl rfl) rfl rfl rfl (y213f (k := (104 : UInt32)) (m := 4) hI523 hM525 hpl ep519 ef521 (by decide) rfl (by decide) (by decide) hP524 c449) (show _ = 121 from rfl) ?_
                          rintro r4 w532 ⟨⟨rfl, ep529⟩, hI533, hO530⟩
                          show sx_RP _ _ _ _ _ [.int 0] _ _
                          have ef531 := (hO530.2 13 (by decide)).trans ef521
                          have hP534 : rE blk n X q = q := by rw [← hP524]; exact rE_rE
                          have hM535 := hM525.hs (hO530.hs)
                          have hO536 := hO526.tr (HS.om (hO530.hs))
                          have hB537 : rowB (ia w532 112) = b := by rw [HS.row (hO530.hs)]; exact hB527
                          refine sx_RP.step (pc2 := 167) (ls2 := [(1, .int 6), (0, .ref 111)]) (st2 := []) (w3 := w532) rfl rfl ?_
                          refine sx_RP.step (pc2 := 168) (ls2 := [(1, .int 6), (0, .ref 111)]) (st2 := [.ref 111]) (w3 := w532) rfl rfl ?_
                          refine sx_RP.step (pc2 := 171) (ls2 := [(1, .int 6), (0, .ref 111)]) (st2 := [.float 101, .ref 111]) (w3 := w532) rfl rfl ?_
                          rcases Bool.eq_false_or_eq_true (wdT n X q (101 : UInt32)) with c538 | c538
                          · refine sx_RP.callp (as2 := [.ref 111, .float 101]) (rest2 := []) rfl rfl (sx_inv_v2 (mi := 211) (k := 282) (st := [.float 101, .ref 111]) (w := w532) rfl rfl hI533.1.o111 rfl rfl rfl) rfl rfl rfl (y228t (k := (101 : UInt32)) (m := 5) hI533 hM535 hpl ep529 ef531 (by decide) rfl (by decide) (by decide) hP534 c538) (show _ = 174 from rfl) ?_
                            rintro r4 w542 ⟨⟨rfl, ep539, ef541⟩, hI543, hO540⟩
                            show sx_RP _ _ _ _ _ [.int 1] _ _
                            have hp544 : beT n X q ≤ n := beT_le hpl
                            have hp545 : nP n X q ≤ n := rE_le hp544
                            have hP546 : rE blk n X (beT n X q) = nP n X q := rfl
                            have hM547 := hM535.hs (hO540)
                            have hO548 := hO536.tr (HS.om (hO540))
                            have hB549 : rowB (ia w542 112) = b := by rw [HS.row (hO540)]; exact hB537
                            refine sx_RP.step (pc2 := 177) (ls2 := [(1, .int 6), (0, .ref 111)]) (st2 := []) (w3 := w542) rfl rfl ?_
                            refine sx_RP.step (pc2 := 178) (ls2 := [(1, .int 6), (0, .ref 111)]) (st2 := [.ref 111]) (w3 := w542) rfl rfl ?_
                            refine sx_RP.callp (as2 := [.ref 111]) (rest2 := []) rfl rfl (sx_inv_v2 (mi := 211) (k := 330) (st := [.ref 111]) (w := w542) rfl rfl hI543.1.o111 rfl rfl rfl) rfl rfl rfl (y229 hI543 hM547 hp544 ep539 ef541 hP546 hB549) (show _ = 181 from rfl) ?_
                            rintro r4 w552 ⟨⟨rfl, hr550⟩, hI553, hO551⟩
                            show sx_RP _ _ _ _ _ [.int (b01 (breS n X (nP n X q) b).1)] _ _
                            have hO554 := hO548.tr hO551
                            refine sx_RP.br (p1 := 188) (l1 := [(1, .int 6), (0, .ref 111)]) (s1 := []) (v1 := w552) (p2 := 184) (l2 := [(1, .int 6), (0, .ref 111)]) (s2 := []) (v2 := w552) rfl rfl (fun q555 => ?_) (fun q555 => ?_)
                            · replace q555 := of_decide_eq_true q555
                              refine sx_RP.step (pc2 := 189) (ls2 := [(1, .int 6), (0, .ref 111)]) (st2 := [.int 0]) (w3 := w552) rfl rfl ?_
                              refine sx_RP.ret (r := (some (.int 0))) rfl rfl ?_
                              have eg : gwT n X q = -1 := by simp only [gwT, c1, c27, c53, c79, c105, c131, c184, c237, c290, c343, c396, c449, c538, if_true, if_false, Bool.false_eq_true, ite_true, ite_false, true_or, or_true, or_false, false_or]
                              have ek : kwT n X q = -1 := by simp only [kwT, c1, c27, c53, c79, c105, c131, c184, c237, c290, c343, c396, c449, c538, if_true, if_false, Bool.false_eq_true, ite_true, ite_false, true_or, or_true, or_false, false_or]
                              have eR : itT n X q b = breS n X (nP n X q) b := by unfold itT; rw [eg, if_pos rfl, ek, if_pos rfl, if_neg (by rw [c449]; decide), if_pos c538]; rfl
                              rw [eR]
                              exact ⟨⟨by rw [b01_f q555]; rfl, hr550⟩, hI553, hO554⟩
                            · replace q555 := of_decide_eq_false q555
                              refine sx_RP.step (pc2 := 185) (ls2 := [(1, .int 6), (0, .ref 111)]) (st2 := [.int 1]) (w3 := w552) rfl rfl ?_
                              refine sx_RP.step (pc2 := 189) (ls2 := [(1, .int 6), (0, .ref 111)]) (st2 := [.int 1]) (w3 := w552) rfl rfl ?_
                              refine sx_RP.ret (r := (some (.int 1))) rfl rfl ?_
                              have eg : gwT n X q = -1 := by simp only [gwT, c1, c27, c53, c79, c105, c131, c184, c237, c290, c343, c396, c449, c538, if_true, if_false, Bool.false_eq_true, ite_true, ite_false, true_or, or_true, or_false, false_or]
                              have ek : kwT n X q = -1 := by simp only [kwT, c1, c27, c53, c79, c105, c131, c184, c237, c290, c343, c396, c449, c538, if_true, if_false, Bool.false_eq_true, ite_true, ite_false, true_or, or_true, or_false, false_or]
                              have eR : itT n X q b = breS n X (nP n X q) b := by unfold itT; rw [eg, if_pos rfl, ek, if_pos rfl, if_neg (by rw [c449]; decide), if_pos c538]; rfl
                              rw [eR]
                              exact ⟨⟨by rw [b01_t q555]; rfl, hr550⟩, hI553, hO554⟩
                          · refine sx_RP.callp (as2 := [.ref 111, .float 101]) (rest2 := []) rfl rfl (sx_inv_v2 (mi := 211) (k := 282) (st := [.float 101, .ref 111]) (w := w532) rfl rfl hI533.1.o111 rfl rfl rfl) rfl rfl rfl (y228f (k := (101 : UInt32)) (m := 5) hI533 hM535 hpl ep529 ef531 (by decide) rfl (by decide) (by decide) hP534 c538) (show _ = 174 from rfl) ?_
                            rintro r4 w559 ⟨⟨rfl, ep556⟩, hI560, hO557⟩
                            show sx_RP _ _ _ _ _ [.int 0] _ _
                            have hO561 := hO536.tr (HS.om hO557)
                            refine sx_RP.step (pc2 := 188) (ls2 := [(1, .int 6), (0, .ref 111)]) (st2 := []) (w3 := w559) rfl rfl ?_
                            refine sx_RP.step (pc2 := 189) (ls2 := [(1, .int 6), (0, .ref 111)]) (st2 := [.int 0]) (w3 := w559) rfl rfl ?_
                            refine sx_RP.ret (r := (some (.int 0))) rfl rfl ?_
                            have eg : gwT n X q = -1 := by simp only [gwT, c1, c27, c53, c79, c105, c131, c184, c237, c290, c343, c396, c449, c538, if_true, if_false, Bool.false_eq_true, ite_true, ite_false, true_or, or_true, or_false, false_or]
                            have ek : kwT n X q = -1 := by simp only [kwT, c1, c27, c53, c79, c105, c131, c184, c237, c290, c343, c396, c449, c538, if_true, if_false, Bool.false_eq_true, ite_true, ite_false, true_or, or_true, or_false, false_or]
                            have eR : itT n X q b = (false, q, b) := by unfold itT; rw [eg, if_pos rfl, ek, if_pos rfl, if_neg (by rw [c449]; decide), if_neg (by rw [c538]; decide)]
                            rw [eR]
                            exact ⟨⟨rfl, RdM.f ep556⟩, hI560, hO561⟩
end
-- 89v.siege.lean.txt
section
theorem nP_ge {n p z : Nat} {X : Nat → Nat} (h : z ≤ p) : z ≤ nP n X p := Nat.le_trans h (Nat.le_trans beT_ge rE_ge)
theorem wtT_ge {n p lo hi z : Nat} {X : Nat → Nat} {k : UInt32} (h : z ≤ p) : z ≤ (wtT n X p k lo hi).2 := by
  unfold wtT
  split
  · exact nP_ge h
  · exact h
theorem disT_ge {n p : Nat} {X : Nat → Nat} {b : BB} {z : Nat} (h : z ≤ p) : z ≤ (disT n X p b).2.1 := by
  unfold disT
  repeat' split
  all_goals first | exact nP_ge (nP_ge h) | exact nP_ge h | exact h
theorem galT_ge {n k p : Nat} {X : Nat → Nat} {b : BB} {z : Nat} (h : z ≤ p) : z ≤ (galT n X k p b).2.1 := by
  unfold galT
  repeat' split
  all_goals first | exact h | exact nP_ge h | exact wtT_ge (nP_ge (nP_ge h)) | exact wtT_ge (nP_ge (wtT_ge (nP_ge (nP_ge h)))) | exact nP_ge (wtT_ge (nP_ge (wtT_ge (nP_ge (nP_ge h)))))
theorem br2_ge {n p : Nat} {X : Nat → Nat} {b : BB} {z : Nat} (h : z ≤ p) : z ≤ (br2 n X p b).2.1 := by
  unfold br2
  repeat' split
  all_goals first | exact h | exact nP_ge (wtT_ge h) | exact wtT_ge h
theorem br1_ge {n p : Nat} {X : Nat → Nat} {b : BB} {z : Nat} (h : z ≤ p) : z ≤ (br1 n X p b).2.1 := by
  unfold br1
  repeat' split
  all_goals first | exact br2_ge h | exact br2_ge (nP_ge (wtT_ge h)) | exact wtT_ge h
theorem breT_ge {n p : Nat} {X : Nat → Nat} {b : BB} {z : Nat} (h : z ≤ p) : z ≤ (breT n X p b).2.1 := by
  unfold breT
  split
  · exact br1_ge (nP_ge (nP_ge h))
  · exact nP_ge h
theorem grT_ge {n l p : Nat} {X : Nat → Nat} {b : BB} {z : Nat} (h : z ≤ p) : z ≤ (grT n X b l p).2.1 := by
  unfold grT
  repeat' split
  all_goals first | exact h | exact nP_ge (nP_ge h) | exact nP_ge h
theorem grL_ge {n : Nat} {X : Nat → Nat} {b : BB} {z : Nat} : ∀ f l p, z ≤ p → z ≤ (grL n X b f l p).2.1
  | 0, l, p, h => grT_ge h
  | f + 1, l, p, h => by
    unfold grL
    split
    · split
      · exact grL_ge f _ _ (nP_ge h)
      · exact h
    · exact grT_ge h
theorem groT_ge {n p : Nat} {X : Nat → Nat} {b : BB} {z : Nat} (h : z ≤ p) : z ≤ (groT n X p b).2.1 := by
  unfold groT
  split
  · exact grL_ge _ _ _ (nP_ge (nP_ge h))
  · exact nP_ge h
theorem itT_ge {n p : Nat} {X : Nat → Nat} {b : BB} {z : Nat} (h : z ≤ p) : z ≤ (itT n X p b).2.1 := by
  unfold itT
  repeat' split
  all_goals first | exact disT_ge h | exact breT_ge h | exact galT_ge h | exact groT_ge h | exact h
theorem bA_59 {n i : Nat} {X : Nat → Nat} (hX : i < n → X i < 256) : bA n X i = 59 ↔ (i < n ∧ X i = 59) := by
  unfold bA
  split
  · rename_i h
    rw [show (59 : Int32) = nI 59 from rfl, nI_eq (by have := hX h; omega) (by decide)]
    exact ⟨fun z => ⟨h, z⟩, fun z => z.2⟩
  · rename_i h
    exact ⟨fun z => absurd z (by decide), fun z => absurd z.1 h⟩
theorem sort_3 : ∀ c : Fin 256, sortN c.val = 3 ↔ c.val = 59 := by decide +kernel
theorem so_3 {n p : Nat} {X : Nat → Nat} (hX : ∀ i, i < n → X i < 256) : soT n X p = 3 ↔ (p < n ∧ X p = 59) := by
  unfold soT
  split
  · rename_i h
    rw [sort_3 ⟨X p, hX p h⟩]
    exact ⟨fun z => ⟨h, z⟩, fun z => z.2⟩
  · rename_i h
    exact ⟨fun z => absurd z (by decide), fun z => absurd z.1 h⟩
theorem so_0 {n p : Nat} {X : Nat → Nat} (hX : ∀ i, i < n → X i < 256) : soT n X p = 0 ↔ ¬ p < n := by
  unfold soT
  split
  · rename_i h
    have := (sort_le ⟨X p, hX p h⟩).1
    exact ⟨fun z => absurd z (by show ¬ sortN (X p) = 0; have t : 1 ≤ sortN (X p) := this; omega), fun z => absurd h z⟩
  · rename_i h
    exact ⟨fun _ => h, fun _ => rfl⟩
theorem be_3 {n p : Nat} {X : Nat → Nat} (h : p < n) (h3 : sortN (X p) = 3) : beT n X p = p + 1 := by
  unfold beT
  rw [if_pos h, h3, if_neg (by decide), if_neg (by decide)]
def OE (w w2 : List sx_C) : Prop := (∀ a, a ≠ 111 → a ≠ 112 → w2[a]? = w[a]?) ∧ ∀ j, j < 11 → fi w2 111 j = fi w 111 j
theorem OM.oe {w w2 : List sx_C} (h : OM w w2) : OE w w2 := ⟨h.1, fun j hj => h.2 j (by omega)⟩
theorem OE.tr {w w1 w2 : List sx_C} (h : OE w w1) (h2 : OE w1 w2) : OE w w2 := ⟨fun a h3 h4 => (h2.1 a h3 h4).trans (h.1 a h3 h4), fun j hj => (h2.2 j hj).trans (h.2 j hj)⟩
theorem OE.st {w w2 : List sx_C} (h : Same 112 w w2) : OE w w2 := (OM.st h).oe
theorem row_u {w : List sx_C} {b : BB} (hI : WI w) (hB : rowB (ia w 112) = b) : b.1.length ≤ 10 ∧ b.2.1.length ≤ 9 := by
  rw [← hB]
  unfold rowB
  rw [mkB_len1, mkB_len2]
  exact ⟨hI.manyM (by decide), hI.dishedM (by decide)⟩
set_option maxRecDepth 20000 in
set_option maxHeartbeats 4000000 in
theorem y210a {xs : Option (List Int32)} {d : Nat} {w : List sx_C} (hI : WI w) {n p : Nat} {X : Nat → Nat} {c f : Int32} (hM : MT n X w) (hp : p ≤ n) (ef : fi w 111 13 = nI p) : sx_RP xs (d + 8) 210 83 [(0, .ref 111), (1, .int c), (2, .int f)] [] w (fun r w2 => (r = some (.int (-1 - nI p)) ∧ ia w2 112 = ia w 115 ∧ fi w2 111 11 = 0) ∧ WI w2 ∧ OE w w2) := by
  have hn := hM.2.1
  refine sx_RP.step (pc2 := 84) (ls2 := [(0, .ref 111), (1, .int c), (2, .int f)]) (st2 := [.ref 111]) (w3 := w) rfl rfl ?_
  refine sx_RP.gf (v := .int (fi w 111 13)) rfl rfl hI.1.o111 rfl rfl (show _ = 87 from rfl) ?_
  rw [ef]
  refine sx_RP.br (p1 := 106) (l1 := [(0, .ref 111), (1, .int c), (2, .int f)]) (s1 := []) (v1 := w) rfl rfl (fun _ => ?_) (fun q => absurd (nI_le (a := 0) (b := p) (Nat.zero_le _) (by omega)) (of_decide_eq_false q))
  refine sx_RP.step (pc2 := 107) (ls2 := [(0, .ref 111), (1, .int c), (2, .int f)]) (st2 := [.ref 111]) (w3 := w) rfl rfl ?_
  refine sx_RP.step (pc2 := 108) (ls2 := [(0, .ref 111), (1, .int c), (2, .int f)]) (st2 := [.int 0, .ref 111]) (w3 := w) rfl rfl ?_
  refine sx_RP.xJ (k := 11) hI rfl rfl (by decide) rfl ⟨0, by decide, rfl⟩ (show _ = 111 from rfl) (fun w1 hI2 hs3 hv4 hr5 => ?_)
  have hO6 := OE.tr (OM.rf.oe) (⟨fun a h1 _ => hs3 a h1, fun j hj => hr5 j (by omega)⟩ : OE w w1)
  have ex7 := (hr5 13 (by decide)).trans ef
  refine sx_RP.step (pc2 := 112) (ls2 := [(0, .ref 111), (1, .int c), (2, .int f)]) (st2 := [.ref 111]) (w3 := w1) rfl rfl ?_
  refine sx_RP.gf (v := .int (fi w1 111 13)) rfl rfl hI2.1.o111 rfl rfl (show _ = 115 from rfl) ?_
  rw [ex7]
  refine sx_RP.br (p2 := 118) (l2 := [(0, .ref 111), (1, .int c), (2, .int f)]) (s2 := []) (v2 := w1) rfl rfl (fun q => absurd (of_decide_eq_true q) (fun z => absurd z (Int32.not_lt.mpr (nI_le (a := 0) (b := p) (Nat.zero_le _) (by omega))))) (fun _ => ?_)
  refine sx_RP.step (pc2 := 119) (ls2 := [(0, .ref 111), (1, .int c), (2, .int f)]) (st2 := [.ref 111]) (w3 := w1) rfl rfl ?_
  refine sx_RP.gf (v := .ref 115) rfl rfl hI2.1.o111 rfl rfl (show _ = 122 from rfl) ?_
  refine sx_RP.step (pc2 := 123) (ls2 := [(0, .ref 111), (1, .int c), (2, .int f)]) (st2 := [.ref 111, .ref 115]) (w3 := w1) rfl rfl ?_
  refine sx_RP.gf (v := .ref 112) rfl rfl hI2.1.o111 rfl rfl (show _ = 126 from rfl) ?_
  refine sx_RP.callp (as2 := [.ref 115, .ref 112]) (rest2 := []) rfl rfl rfl rfl rfl rfl (K175 hI2 (a := 115) (b := 112) (by decide) (by decide) (by decide)) (show _ = 129 from rfl) ?_
  rintro r4 w12 ⟨rfl, hI13, hl8⟩
  show sx_RP _ _ _ _ _ [] _ _
  have hO9 := OE.tr hO6 (OE.st hl8.1)
  have ex10 := (fi_same 13 (hl8.1 111 (by decide))).trans ex7
  have ex11 := (fi_same 11 (hl8.1 111 (by decide))).trans hv4
  refine sx_RP.step (pc2 := 130) (ls2 := [(0, .ref 111), (1, .int c), (2, .int f)]) (st2 := [.int (-1)]) (w3 := w12) rfl rfl ?_
  refine sx_RP.step (pc2 := 131) (ls2 := [(0, .ref 111), (1, .int c), (2, .int f)]) (st2 := [.ref 111, .int (-1)]) (w3 := w12) rfl rfl ?_
  refine sx_RP.gf (v := .int (fi w12 111 13)) rfl rfl hI13.1.o111 rfl rfl (show _ = 134 from rfl) ?_
  rw [ex10]
  refine sx_RP.step (pc2 := 135) (ls2 := [(0, .ref 111), (1, .int c), (2, .int f)]) (st2 := [.int ((-1) - (nI p))]) (w3 := w12) rfl rfl ?_
  refine sx_RP.ret (r := (some (.int ((-1) - (nI p))))) rfl rfl ?_
  exact ⟨⟨rfl, hl8.2.trans (ia_of (hO6.1 115 (by decide) (by decide))), ex11⟩, hI13, hO9⟩
set_option maxRecDepth 20000 in
set_option maxHeartbeats 4000000 in
theorem y210b {xs : Option (List Int32)} {d : Nat} {w : List sx_C} (hI : WI w) {n p : Nat} {X : Nat → Nat} {c f : Int32} (hM : MT n X w) (hp : p ≤ n) (ef : fi w 111 13 = -1) (ep : fi w 111 12 = nI p) (hl : p < n) : sx_RP xs (d + 8) 210 83 [(0, .ref 111), (1, .int c), (2, .int f)] [] w (fun r w2 => (r = some (.int (-1 - nI p)) ∧ ia w2 112 = ia w 115 ∧ fi w2 111 11 = 0) ∧ WI w2 ∧ OE w w2) := by
  have hn := hM.2.1
  refine sx_RP.step (pc2 := 84) (ls2 := [(0, .ref 111), (1, .int c), (2, .int f)]) (st2 := [.ref 111]) (w3 := w) rfl rfl ?_
  refine sx_RP.gf (v := .int (fi w 111 13)) rfl rfl hI.1.o111 rfl rfl (show _ = 87 from rfl) ?_
  rw [ef]
  refine sx_RP.step (pc2 := 90) (ls2 := [(0, .ref 111), (1, .int c), (2, .int f)]) (st2 := []) (w3 := w) rfl rfl ?_
  refine sx_RP.step (pc2 := 91) (ls2 := [(0, .ref 111), (1, .int c), (2, .int f)]) (st2 := [.ref 111]) (w3 := w) rfl rfl ?_
  refine sx_RP.gf (v := .int (fi w 111 12)) rfl rfl hI.1.o111 rfl rfl (show _ = 94 from rfl) ?_
  rw [ep]
  refine sx_RP.step (pc2 := 95) (ls2 := [(0, .ref 111), (1, .int c), (2, .int f)]) (st2 := [.ref 111, .int (nI p)]) (w3 := w) rfl rfl ?_
  refine sx_RP.gf (v := .int (fi w 111 11)) rfl rfl hI.1.o111 rfl rfl (show _ = 98 from rfl) ?_
  rw [hM.1]
  refine sx_RP.br (p2 := 101) (l2 := [(0, .ref 111), (1, .int c), (2, .int f)]) (s2 := []) (v2 := w) rfl rfl (fun q => absurd (of_decide_eq_true q) (fun z => absurd ((nI_leI (a := n) (b := p) (by omega) (by omega)).mp z) (by omega))) (fun _ => ?_)
  refine sx_RP.step (pc2 := 102) (ls2 := [(0, .ref 111), (1, .int c), (2, .int f)]) (st2 := [.ref 111]) (w3 := w) rfl rfl ?_
  refine sx_RP.callp (as2 := [.ref 111]) (rest2 := []) rfl rfl (sx_inv_v2 (mi := 210) (k := 245) (st := [.ref 111]) (w := w) rfl rfl hI.1.o111 rfl rfl rfl) rfl rfl rfl (y222 (p := p) hI ef ep) (show _ = 105 from rfl) ?_
  rintro r4 w3 ⟨⟨rfl, hv1⟩, hI4, hO2⟩
  show sx_RP _ _ _ _ _ [.int 0] _ _
  have hx1 := (HS.om hO2.hs).oe
  have hx3 := HS.row hO2.hs
  refine sx_RP.step (pc2 := 106) (ls2 := [(0, .ref 111), (1, .int c), (2, .int f)]) (st2 := []) (w3 := w3) rfl rfl ?_
  refine sx_RP.step (pc2 := 107) (ls2 := [(0, .ref 111), (1, .int c), (2, .int f)]) (st2 := [.ref 111]) (w3 := w3) rfl rfl ?_
  refine sx_RP.step (pc2 := 108) (ls2 := [(0, .ref 111), (1, .int c), (2, .int f)]) (st2 := [.int 0, .ref 111]) (w3 := w3) rfl rfl ?_
  refine sx_RP.xJ (k := 11) hI4 rfl rfl (by decide) rfl ⟨0, by decide, rfl⟩ (show _ = 111 from rfl) (fun w5 hI6 hs7 hv8 hr9 => ?_)
  have hO10 := OE.tr (hx1) (⟨fun a h1 _ => hs7 a h1, fun j hj => hr9 j (by omega)⟩ : OE w3 w5)
  have ex11 := (hr9 13 (by decide)).trans hv1
  refine sx_RP.step (pc2 := 112) (ls2 := [(0, .ref 111), (1, .int c), (2, .int f)]) (st2 := [.ref 111]) (w3 := w5) rfl rfl ?_
  refine sx_RP.gf (v := .int (fi w5 111 13)) rfl rfl hI6.1.o111 rfl rfl (show _ = 115 from rfl) ?_
  rw [ex11]
  refine sx_RP.br (p2 := 118) (l2 := [(0, .ref 111), (1, .int c), (2, .int f)]) (s2 := []) (v2 := w5) rfl rfl (fun q => absurd (of_decide_eq_true q) (fun z => absurd z (Int32.not_lt.mpr (nI_le (a := 0) (b := p) (Nat.zero_le _) (by omega))))) (fun _ => ?_)
  refine sx_RP.step (pc2 := 119) (ls2 := [(0, .ref 111), (1, .int c), (2, .int f)]) (st2 := [.ref 111]) (w3 := w5) rfl rfl ?_
  refine sx_RP.gf (v := .ref 115) rfl rfl hI6.1.o111 rfl rfl (show _ = 122 from rfl) ?_
  refine sx_RP.step (pc2 := 123) (ls2 := [(0, .ref 111), (1, .int c), (2, .int f)]) (st2 := [.ref 111, .ref 115]) (w3 := w5) rfl rfl ?_
  refine sx_RP.gf (v := .ref 112) rfl rfl hI6.1.o111 rfl rfl (show _ = 126 from rfl) ?_
  refine sx_RP.callp (as2 := [.ref 115, .ref 112]) (rest2 := []) rfl rfl rfl rfl rfl rfl (K175 hI6 (a := 115) (b := 112) (by decide) (by decide) (by decide)) (show _ = 129 from rfl) ?_
  rintro r4 w16 ⟨rfl, hI17, hl12⟩
  show sx_RP _ _ _ _ _ [] _ _
  have hO13 := OE.tr hO10 (OE.st hl12.1)
  have ex14 := (fi_same 13 (hl12.1 111 (by decide))).trans ex11
  have ex15 := (fi_same 11 (hl12.1 111 (by decide))).trans hv8
  refine sx_RP.step (pc2 := 130) (ls2 := [(0, .ref 111), (1, .int c), (2, .int f)]) (st2 := [.int (-1)]) (w3 := w16) rfl rfl ?_
  refine sx_RP.step (pc2 := 131) (ls2 := [(0, .ref 111), (1, .int c), (2, .int f)]) (st2 := [.ref 111, .int (-1)]) (w3 := w16) rfl rfl ?_
  refine sx_RP.gf (v := .int (fi w16 111 13)) rfl rfl hI17.1.o111 rfl rfl (show _ = 134 from rfl) ?_
  rw [ex14]
  refine sx_RP.step (pc2 := 135) (ls2 := [(0, .ref 111), (1, .int c), (2, .int f)]) (st2 := [.int ((-1) - (nI p))]) (w3 := w16) rfl rfl ?_
  refine sx_RP.ret (r := (some (.int ((-1) - (nI p))))) rfl rfl ?_
  exact ⟨⟨rfl, hl12.2.trans (ia_of (hO10.1 115 (by decide) (by decide))), ex15⟩, hI17, hO13⟩
set_option maxRecDepth 20000 in
set_option maxHeartbeats 4000000 in
theorem y210c {xs : Option (List Int32)} {d : Nat} {w : List sx_C} (hI : WI w) {n p : Nat} {X : Nat → Nat} {c f : Int32} (hM : MT n X w) (hp : p ≤ n) (ef : fi w 111 13 = -1) (ep : fi w 111 12 = nI p) (hl : ¬ p < n) : sx_RP xs (d + 8) 210 83 [(0, .ref 111), (1, .int c), (2, .int f)] [] w (fun r w2 => (r = some (.int c) ∧ ia w2 112 = ia w 112 ∧ fi w2 111 11 = 0) ∧ WI w2 ∧ OE w w2) := by
  have hn := hM.2.1
  refine sx_RP.step (pc2 := 84) (ls2 := [(0, .ref 111), (1, .int c), (2, .int f)]) (st2 := [.ref 111]) (w3 := w) rfl rfl ?_
  refine sx_RP.gf (v := .int (fi w 111 13)) rfl rfl hI.1.o111 rfl rfl (show _ = 87 from rfl) ?_
  rw [ef]
  refine sx_RP.step (pc2 := 90) (ls2 := [(0, .ref 111), (1, .int c), (2, .int f)]) (st2 := []) (w3 := w) rfl rfl ?_
  refine sx_RP.step (pc2 := 91) (ls2 := [(0, .ref 111), (1, .int c), (2, .int f)]) (st2 := [.ref 111]) (w3 := w) rfl rfl ?_
  refine sx_RP.gf (v := .int (fi w 111 12)) rfl rfl hI.1.o111 rfl rfl (show _ = 94 from rfl) ?_
  rw [ep]
  refine sx_RP.step (pc2 := 95) (ls2 := [(0, .ref 111), (1, .int c), (2, .int f)]) (st2 := [.ref 111, .int (nI p)]) (w3 := w) rfl rfl ?_
  refine sx_RP.gf (v := .int (fi w 111 11)) rfl rfl hI.1.o111 rfl rfl (show _ = 98 from rfl) ?_
  rw [hM.1]
  refine sx_RP.br (p1 := 106) (l1 := [(0, .ref 111), (1, .int c), (2, .int f)]) (s1 := []) (v1 := w) rfl rfl (fun _ => ?_) (fun q => absurd (nI_le (a := n) (b := p) (by omega) (by omega)) (of_decide_eq_false q))
  refine sx_RP.step (pc2 := 107) (ls2 := [(0, .ref 111), (1, .int c), (2, .int f)]) (st2 := [.ref 111]) (w3 := w) rfl rfl ?_
  refine sx_RP.step (pc2 := 108) (ls2 := [(0, .ref 111), (1, .int c), (2, .int f)]) (st2 := [.int 0, .ref 111]) (w3 := w) rfl rfl ?_
  refine sx_RP.xJ (k := 11) hI rfl rfl (by decide) rfl ⟨0, by decide, rfl⟩ (show _ = 111 from rfl) (fun w1 hI2 hs3 hv4 hr5 => ?_)
  have hO6 := OE.tr (OM.rf.oe) (⟨fun a h1 _ => hs3 a h1, fun j hj => hr5 j (by omega)⟩ : OE w w1)
  have ex7 := (hr5 13 (by decide)).trans ef
  refine sx_RP.step (pc2 := 112) (ls2 := [(0, .ref 111), (1, .int c), (2, .int f)]) (st2 := [.ref 111]) (w3 := w1) rfl rfl ?_
  refine sx_RP.gf (v := .int (fi w1 111 13)) rfl rfl hI2.1.o111 rfl rfl (show _ = 115 from rfl) ?_
  rw [ex7]
  refine sx_RP.step (pc2 := 136) (ls2 := [(0, .ref 111), (1, .int c), (2, .int f)]) (st2 := []) (w3 := w1) rfl rfl ?_
  refine sx_RP.step (pc2 := 137) (ls2 := [(0, .ref 111), (1, .int c), (2, .int f)]) (st2 := [.int c]) (w3 := w1) rfl rfl ?_
  refine sx_RP.ret (r := (some (.int c))) rfl rfl ?_
  exact ⟨⟨rfl, ia_of (hs3 112 (by decide)), hv4⟩, hI2, hO6⟩
theorem yF {w0 w : List sx_C} {n p : Nat} {b : BB} (hO : OM w0 w) (hn : n ≤ 120) (hp : p ≤ n) : ∀ r w2, (r = some (Value.int (-1 - nI p)) ∧ ia w2 112 = ia w 115 ∧ fi w2 111 11 = 0) ∧ WI w2 ∧ OE w w2 → (r = some (.int (((-1 - nI p, b) : Int32 × BB)).1) ∧ rowB (ia w2 112) = (if 0 ≤ (((-1 - nI p, b) : Int32 × BB)).1 then (((-1 - nI p, b) : Int32 × BB)).2 else rowB (ia w0 115)) ∧ fi w2 111 11 = 0) ∧ WI w2 ∧ OE w0 w2 := by
  rintro r w2 ⟨⟨h1, h2, h3⟩, h4, h5⟩
  refine ⟨⟨h1, ?_, h3⟩, h4, hO.oe.tr h5⟩
  rw [if_neg (neg_p (show p ≤ 120 by omega)), h2, ia_of (hO.1 115 (by decide) (by decide))]
theorem yG {w0 w : List sx_C} {it : Nat} {b : BB} (hO : OM w0 w) (hB : rowB (ia w 112) = b) (hi : it < 2 ^ 31) : ∀ r w2, (r = some (Value.int (nI it)) ∧ ia w2 112 = ia w 112 ∧ fi w2 111 11 = 0) ∧ WI w2 ∧ OE w w2 → (r = some (.int (((nI it, b) : Int32 × BB)).1) ∧ rowB (ia w2 112) = (if 0 ≤ (((nI it, b) : Int32 × BB)).1 then (((nI it, b) : Int32 × BB)).2 else rowB (ia w0 115)) ∧ fi w2 111 11 = 0) ∧ WI w2 ∧ OE w0 w2 := by
  rintro r w2 ⟨⟨h1, h2, h3⟩, h4, h5⟩
  refine ⟨⟨h1, ?_, h3⟩, h4, hO.oe.tr h5⟩
  rw [if_pos (show (0 : Int32) ≤ nI it from nI_le (a := 0) (b := it) (Nat.zero_le _) (by omega)), h2, hB]
set_option maxRecDepth 20000 in
set_option maxHeartbeats 4000000 in
theorem y210L {xs : Option (List Int32)} {d n : Nat} {X : Nat → Nat} {w0 : List sx_C} : ∀ (fz it h q : Nat) (b : BB) (w : List sx_C), n + 1 ≤ fz + q → it + fz ≤ 121 → h ≤ n → rE blk n X h = q → WI w → MT n X w → fi w 111 12 = nI h → fi w 111 13 = -1 → rowB (ia w 112) = b → OM w0 w → sx_RP xs (d + 8) 210 25 [(0, .ref 111), (1, .int (nI it)), (2, .int 1)] [] w (fun r w2 => (r = some (.int (teL n X fz it q b).1) ∧ rowB (ia w2 112) = (if 0 ≤ (teL n X fz it q b).1 then (teL n X fz it q b).2 else rowB (ia w0 115)) ∧ fi w2 111 11 = 0) ∧ WI w2 ∧ OE w0 w2)
  | 0, it, h, q, b, w, h0, hi, hp, hP, hI, hM, ep, ef, hB, hO => absurd (show q ≤ n by rw [← hP]; exact rE_le hp) (by omega)
  | fz + 1, it, h, q, b, w, h0, hi, hp, hP, hI, hM, ep, ef, hB, hO => by
    have hn := hM.2.1
    have hpl : q ≤ n := by rw [← hP]; exact rE_le hp
    refine sx_RP.step (pc2 := 26) (ls2 := [(0, .ref 111), (1, .int (nI it)), (2, .int 1)]) (st2 := [.int 1]) (w3 := w) rfl rfl ?_
    refine sx_RP.step (pc2 := 29) (ls2 := [(0, .ref 111), (1, .int (nI it)), (2, .int 1)]) (st2 := []) (w3 := w) rfl rfl ?_
    refine sx_RP.step (pc2 := 30) (ls2 := [(0, .ref 111), (1, .int (nI it)), (2, .int 1)]) (st2 := [.ref 111]) (w3 := w) rfl rfl ?_
    have hru := row_u hI hB
    refine sx_RP.callp (as2 := [.ref 111]) (rest2 := []) rfl rfl (sx_inv_v2 (mi := 210) (k := 333) (st := [.ref 111]) (w := w) rfl rfl hI.1.o111 rfl rfl rfl) rfl rfl rfl (y211 hI hM hp ep ef hP hB rfl rfl hru.1 hru.2) (show _ = 33 from rfl) ?_
    rintro r4 w3 ⟨⟨rfl, hr1⟩, hI4, hO2⟩
    show sx_RP _ _ _ _ _ [.int (b01 (itT n X q b).1)] _ _
    have hM5 := hM.om hO2
    have hO6 := hO.tr hO2
    refine sx_RP.br (p1 := 83) (l1 := [(0, .ref 111), (1, .int (nI it)), (2, .int 1)]) (s1 := []) (v1 := w3) (p2 := 36) (l2 := [(0, .ref 111), (1, .int (nI it)), (2, .int 1)]) (s2 := []) (v2 := w3) rfl rfl (fun q7 => ?_) (fun q7 => ?_)
    · replace q7 := of_decide_eq_true q7
      have eR : teL n X (fz + 1) it q b = (-1 - nI (itT n X q b).2.1, b) := by unfold teL; rw [if_neg (by rw [b01_f q7]; decide)]
      rw [eR]
      refine sx_RP.ls (sx_lr.cons rfl (sx_lr.cons rfl (sx_lr.cons rfl sx_lr.nil))) ((y210a (p := (itT n X q b).2.1) hI4 hM5 (itT_le hpl) (hr1.2 (b01_f q7))).mono9 (yF hO6 (by omega) (itT_le hpl)))
    · replace q7 := of_decide_eq_false q7
      refine sx_RP.step (pc2 := 39) (ls2 := [(1, .int ((nI it) + 1)), (0, .ref 111), (2, .int 1)]) (st2 := []) (w3 := w3) rfl rfl ?_
      rw [nI_1 it]
      refine sx_RP.step (pc2 := 40) (ls2 := [(1, .int (nI (it + 1))), (0, .ref 111), (2, .int 1)]) (st2 := [.ref 111]) (w3 := w3) rfl rfl ?_
      obtain ⟨ef2, hB2, h2, hp2, ep2, hP2⟩ := hr1.1 (b01_t q7)
      refine sx_RP.callp (as2 := [.ref 111]) (rest2 := []) rfl rfl (sx_inv_v2 (mi := 210) (k := 224) (st := [.ref 111]) (w := w3) rfl rfl hI4.1.o111 rfl rfl rfl) rfl rfl rfl (y215 hI4 hM5 hp2 ep2) (show _ = 43 from rfl) ?_
      rintro r4 w11 ⟨⟨rfl, ep8⟩, hI12, hO9⟩
      show sx_RP _ _ _ _ _ [] _ _
      rw [hP2] at ep8
      have ef13 := (hO9.2 13 (by decide)).trans ef2
      have hq2 : (itT n X q b).2.1 ≤ n := itT_le hpl
      have hq3 : q ≤ (itT n X q b).2.1 := itT_ge (Nat.le_refl q)
      have hP3 : rE blk n X (itT n X q b).2.1 = (itT n X q b).2.1 := by rw [← hP2]; exact rE_rE
      have hM14 := hM5.hs hO9.hs
      have hO15 := hO6.tr (HS.om hO9.hs)
      have hB16 : rowB (ia w11 112) = (itT n X q b).2.2 := by rw [HS.row hO9.hs]; exact hB2
      refine sx_RP.step (pc2 := 44) (ls2 := [(1, .int (nI (it + 1))), (0, .ref 111), (2, .int 1)]) (st2 := [.ref 111]) (w3 := w11) rfl rfl ?_
      refine sx_RP.step (pc2 := 45) (ls2 := [(1, .int (nI (it + 1))), (0, .ref 111), (2, .int 1)]) (st2 := [.ref 111, .ref 111]) (w3 := w11) rfl rfl ?_
      refine sx_RP.gf (v := .int (fi w11 111 12)) rfl rfl hI12.1.o111 rfl rfl (show _ = 48 from rfl) ?_
      rw [ep8]
      refine sx_RP.cu (as := [.ref 111, .int (nI ((itT n X q b).2.1))]) (rest2 := []) (st3 := [.int (bA n X (itT n X q b).2.1)]) rfl rfl (sx_inv_v2 (mi := 210) (k := 215) (st := [.int (nI ((itT n X q b).2.1)), .ref 111]) (w := w11) rfl rfl hI12.1.o111 rfl rfl rfl) rfl rfl (y216 hI12 hM14 (by omega)) rfl ?_
      refine sx_RP.step (pc2 := 53) (ls2 := [(1, .int (nI (it + 1))), (0, .ref 111), (2, .int 1)]) (st2 := [.int 59, .int (bA n X (itT n X q b).2.1)]) (w3 := w11) rfl rfl ?_
      refine sx_RP.br (p1 := 60) (l1 := [(1, .int (nI (it + 1))), (0, .ref 111), (2, .int 1)]) (s1 := []) (v1 := w11) (p2 := 56) (l2 := [(1, .int (nI (it + 1))), (0, .ref 111), (2, .int 1)]) (s2 := []) (v2 := w11) rfl rfl (fun q17 => ?_) (fun q17 => ?_)
      · replace q17 := of_decide_eq_true q17
        refine sx_RP.step (pc2 := 61) (ls2 := [(1, .int (nI (it + 1))), (0, .ref 111), (2, .int 1)]) (st2 := [.int 0]) (w3 := w11) rfl rfl ?_
        refine sx_RP.step (pc2 := 62) (ls2 := [(2, .int 0), (1, .int (nI (it + 1))), (0, .ref 111)]) (st2 := []) (w3 := w11) rfl rfl ?_
        refine sx_RP.step (pc2 := 63) (ls2 := [(2, .int 0), (1, .int (nI (it + 1))), (0, .ref 111)]) (st2 := [.ref 111]) (w3 := w11) rfl rfl ?_
        refine sx_RP.step (pc2 := 64) (ls2 := [(2, .int 0), (1, .int (nI (it + 1))), (0, .ref 111)]) (st2 := [.ref 111, .ref 111]) (w3 := w11) rfl rfl ?_
        refine sx_RP.gf (v := .int (fi w11 111 12)) rfl rfl hI12.1.o111 rfl rfl (show _ = 67 from rfl) ?_
        rw [ep8]
        refine sx_RP.step (pc2 := 68) (ls2 := [(2, .int 0), (1, .int (nI (it + 1))), (0, .ref 111)]) (st2 := [.int 0, .int (nI ((itT n X q b).2.1)), .ref 111]) (w3 := w11) rfl rfl ?_
        refine sx_RP.step (pc2 := 75) (ls2 := [(2, .int 0), (1, .int (nI (it + 1))), (0, .ref 111)]) (st2 := [.int (nI ((itT n X q b).2.1)), .ref 111]) (w3 := w11) rfl rfl ?_
        refine sx_RP.step (pc2 := 76) (ls2 := [(2, .int 0), (1, .int (nI (it + 1))), (0, .ref 111)]) (st2 := [.int 0, .int (nI ((itT n X q b).2.1)), .ref 111]) (w3 := w11) rfl rfl ?_
        refine sx_RP.step (pc2 := 77) (ls2 := [(2, .int 0), (1, .int (nI (it + 1))), (0, .ref 111)]) (st2 := [.int ((nI ((itT n X q b).2.1)) + 0), .ref 111]) (w3 := w11) rfl rfl ?_
        rw [show ((nI ((itT n X q b).2.1)) + 0 : Int32) = nI (((itT n X q b).2.1) + 0) from nI_add ((itT n X q b).2.1) 0]
        have h59 : ¬ ((itT n X q b).2.1 < n ∧ X (itT n X q b).2.1 = 59) := fun z => q17 ((bA_59 (fun z => hM.x z)).mpr z)
        refine sx_RP.pm (k := 12) hI12 EM.rf rfl rfl (by decide) rfl (inR.n (show (((itT n X q b).2.1) + 0) ≤ 120 by omega)) (show _ = 80 from rfl) (fun w18 hI19 hE20 hv21 hr22 hs23 => ?_)
        have hh24 : H12 w11 w18 := ⟨hs23, hr22⟩
        have ef25 := (hr22 13 (by decide)).trans ef13
        have hM26 := hM14.hs hh24.hs
        have hO27 := hO15.tr (HS.om hh24.hs)
        have hB28 : rowB (ia w18 112) = (itT n X q b).2.2 := by rw [HS.row hh24.hs]; exact hB16
        refine sx_RP.step (pc2 := 25) (ls2 := [(2, .int 0), (1, .int (nI (it + 1))), (0, .ref 111)]) (st2 := []) (w3 := w18) rfl rfl ?_
        have hs3 := fun z => h59 ((so_3 (fun i hi => hM.x hi)).mp z)
        refine sx_RP.step (pc2 := 26) (ls2 := [(2, .int 0), (1, .int (nI (it + 1))), (0, .ref 111)]) (st2 := [.int 0]) (w3 := w18) rfl rfl ?_
        refine sx_RP.step (pc2 := 83) (ls2 := [(2, .int 0), (1, .int (nI (it + 1))), (0, .ref 111)]) (st2 := []) (w3 := w18) rfl rfl ?_
        by_cases hlt : (itT n X q b).2.1 < n
        · have eR : teL n X (fz + 1) it q b = (-1 - nI (itT n X q b).2.1, b) := by unfold teL; rw [if_pos (b01_t q7), if_neg (fun z => (so_0 (fun i hi => hM.x hi)).mp z hlt), if_neg hs3]
          rw [eR]
          refine sx_RP.ls (sx_lr.cons rfl (sx_lr.cons rfl (sx_lr.cons rfl sx_lr.nil))) ((y210b (p := (itT n X q b).2.1) hI19 hM26 hq2 ef25 hv21 hlt).mono9 (yF hO27 (by omega) hq2))
        · have eR : teL n X (fz + 1) it q b = (nI (it + 1), (itT n X q b).2.2) := by unfold teL; rw [if_pos (b01_t q7), if_pos ((so_0 (fun i hi => hM.x hi)).mpr hlt)]
          rw [eR]
          refine sx_RP.ls (sx_lr.cons rfl (sx_lr.cons rfl (sx_lr.cons rfl sx_lr.nil))) ((y210c (p := (itT n X q b).2.1) hI19 hM26 hq2 ef25 hv21 hlt).mono9 (yG hO27 hB28 (by omega)))
      · replace q17 := Decidable.not_not.mp (of_decide_eq_false q17)
        refine sx_RP.step (pc2 := 57) (ls2 := [(1, .int (nI (it + 1))), (0, .ref 111), (2, .int 1)]) (st2 := [.int 1]) (w3 := w11) rfl rfl ?_
        refine sx_RP.step (pc2 := 61) (ls2 := [(1, .int (nI (it + 1))), (0, .ref 111), (2, .int 1)]) (st2 := [.int 1]) (w3 := w11) rfl rfl ?_
        refine sx_RP.step (pc2 := 62) (ls2 := [(2, .int 1), (1, .int (nI (it + 1))), (0, .ref 111)]) (st2 := []) (w3 := w11) rfl rfl ?_
        refine sx_RP.step (pc2 := 63) (ls2 := [(2, .int 1), (1, .int (nI (it + 1))), (0, .ref 111)]) (st2 := [.ref 111]) (w3 := w11) rfl rfl ?_
        refine sx_RP.step (pc2 := 64) (ls2 := [(2, .int 1), (1, .int (nI (it + 1))), (0, .ref 111)]) (st2 := [.ref 111, .ref 111]) (w3 := w11) rfl rfl ?_
        refine sx_RP.gf (v := .int (fi w11 111 12)) rfl rfl hI12.1.o111 rfl rfl (show _ = 67 from rfl) ?_
        rw [ep8]
        refine sx_RP.step (pc2 := 68) (ls2 := [(2, .int 1), (1, .int (nI (it + 1))), (0, .ref 111)]) (st2 := [.int 1, .int (nI ((itT n X q b).2.1)), .ref 111]) (w3 := w11) rfl rfl ?_
        refine sx_RP.step (pc2 := 71) (ls2 := [(2, .int 1), (1, .int (nI (it + 1))), (0, .ref 111)]) (st2 := [.int (nI ((itT n X q b).2.1)), .ref 111]) (w3 := w11) rfl rfl ?_
        refine sx_RP.step (pc2 := 72) (ls2 := [(2, .int 1), (1, .int (nI (it + 1))), (0, .ref 111)]) (st2 := [.int 1, .int (nI ((itT n X q b).2.1)), .ref 111]) (w3 := w11) rfl rfl ?_
        refine sx_RP.step (pc2 := 76) (ls2 := [(2, .int 1), (1, .int (nI (it + 1))), (0, .ref 111)]) (st2 := [.int 1, .int (nI ((itT n X q b).2.1)), .ref 111]) (w3 := w11) rfl rfl ?_
        refine sx_RP.step (pc2 := 77) (ls2 := [(2, .int 1), (1, .int (nI (it + 1))), (0, .ref 111)]) (st2 := [.int ((nI ((itT n X q b).2.1)) + 1), .ref 111]) (w3 := w11) rfl rfl ?_
        rw [show ((nI ((itT n X q b).2.1)) + 1 : Int32) = nI (((itT n X q b).2.1) + 1) from nI_add ((itT n X q b).2.1) 1]
        have h59 := (bA_59 (fun z => hM.x z)).mp q17
        refine sx_RP.pm (k := 12) hI12 EM.rf rfl rfl (by decide) rfl (inR.n (show (((itT n X q b).2.1) + 1) ≤ 120 by omega)) (show _ = 80 from rfl) (fun w29 hI30 hE31 hv32 hr33 hs34 => ?_)
        have hh35 : H12 w11 w29 := ⟨hs34, hr33⟩
        have ef36 := (hr33 13 (by decide)).trans ef13
        have hM37 := hM14.hs hh35.hs
        have hO38 := hO15.tr (HS.om hh35.hs)
        have hB39 : rowB (ia w29 112) = (itT n X q b).2.2 := by rw [HS.row hh35.hs]; exact hB16
        refine sx_RP.step (pc2 := 25) (ls2 := [(2, .int 1), (1, .int (nI (it + 1))), (0, .ref 111)]) (st2 := []) (w3 := w29) rfl rfl ?_
        have hs3 := (so_3 (fun i hi => hM.x hi)).mpr h59
        have hbe : beT n X (itT n X q b).2.1 = (itT n X q b).2.1 + 1 := be_3 h59.1 ((sort_3 ⟨X (itT n X q b).2.1, hM.x h59.1⟩).mpr h59.2)
        have hnp : rE blk n X ((itT n X q b).2.1 + 1) = nP n X (itT n X q b).2.1 := by unfold nP; rw [hbe]
        have hng : (itT n X q b).2.1 + 1 ≤ nP n X (itT n X q b).2.1 := by rw [← hnp]; exact rE_ge
        have eR : teL n X (fz + 1) it q b = teL n X fz (it + 1) (nP n X (itT n X q b).2.1) (itT n X q b).2.2 := by conv => lhs; unfold teL; rw [if_pos (b01_t q7), if_neg (show ¬ soT n X (itT n X q b).2.1 = 0 by rw [hs3]; decide), if_pos hs3]
        rw [eR]
        exact sx_RP.ls (sx_lr.cons rfl (sx_lr.cons rfl (sx_lr.cons rfl sx_lr.nil))) (y210L fz (it + 1) ((itT n X q b).2.1 + 1) (nP n X (itT n X q b).2.1) (itT n X q b).2.2 w29 (by omega) (by omega) (by omega) hnp hI30 hM37 hv32 ef36 hB39 hO38)
set_option maxRecDepth 20000 in
set_option maxHeartbeats 4000000 in
theorem y210 {xs : Option (List Int32)} {d : Nat} {w : List sx_C} (hI : WI w) {n : Nat} {X : Nat → Nat} (hM : MT n X w) : sx_RP xs (d + 8) 210 0 (lv_args 0 [.ref 111]) [] w (fun r w2 => (r = some (.int (teL n X 121 0 (rE blk n X 0) (rowB (ia w 112))).1) ∧ rowB (ia w2 112) = (if 0 ≤ (teL n X 121 0 (rE blk n X 0) (rowB (ia w 112))).1 then (teL n X 121 0 (rE blk n X 0) (rowB (ia w 112))).2 else rowB (ia w 112)) ∧ fi w2 111 11 = 0 ∧ ∀ j, j < 11 → fi w2 111 j = fi w 111 j) ∧ WI w2 ∧ ∀ a, a ≠ 111 → a ≠ 112 → a ≠ 115 → w2[a]? = w[a]?) := by
  have hn := hM.2.1
  refine sx_RP.step (pc2 := 1) (ls2 := [(0, .ref 111)]) (st2 := [.ref 111]) (w3 := w) rfl rfl ?_
  refine sx_RP.step (pc2 := 2) (ls2 := [(0, .ref 111)]) (st2 := [.int 0, .ref 111]) (w3 := w) rfl rfl ?_
  refine sx_RP.pm (k := 12) hI EM.rf rfl rfl (by decide) rfl ⟨0, by decide, rfl⟩ (show _ = 5 from rfl) (fun w1 hI2 hE3 hv4 hr5 hs6 => ?_)
  refine sx_RP.step (pc2 := 6) (ls2 := [(0, .ref 111)]) (st2 := [.ref 111]) (w3 := w1) rfl rfl ?_
  refine sx_RP.step (pc2 := 7) (ls2 := [(0, .ref 111)]) (st2 := [.int (-1), .ref 111]) (w3 := w1) rfl rfl ?_
  refine sx_RP.pm (k := 13) hI2 EM.rf rfl rfl (by decide) rfl trivial (show _ = 10 from rfl) (fun w7 hI8 hE9 hv10 hr11 hs12 => ?_)
  refine sx_RP.step (pc2 := 11) (ls2 := [(0, .ref 111)]) (st2 := [.ref 111]) (w3 := w7) rfl rfl ?_
  refine sx_RP.gf (v := .ref 112) rfl rfl hI8.1.o111 rfl rfl (show _ = 14 from rfl) ?_
  refine sx_RP.step (pc2 := 15) (ls2 := [(0, .ref 111)]) (st2 := [.ref 111, .ref 112]) (w3 := w7) rfl rfl ?_
  refine sx_RP.gf (v := .ref 115) rfl rfl hI8.1.o111 rfl rfl (show _ = 18 from rfl) ?_
  refine sx_RP.callp (as2 := [.ref 112, .ref 115]) (rest2 := []) rfl rfl rfl rfl rfl rfl (K175 hI8 (a := 112) (b := 115) (by decide) (by decide) (by decide)) (show _ = 21 from rfl) ?_
  rintro r4 w14 ⟨rfl, hI15, hl13⟩
  show sx_RP _ _ _ _ _ [] _ _
  have hc : ∀ a, a ≠ 111 → a ≠ 115 → w14[a]? = w[a]? := fun a h1 h2 => (hl13.1 a h2).trans ((hs12 a h1).trans (hs6 a h1))
  have hf : ∀ j, j < 12 → fi w14 111 j = fi w 111 j := fun j hj => (fi_same j (hl13.1 111 (by decide))).trans ((hr11 j (by omega)).trans (hr5 j (by omega)))
  have he : fi w14 111 12 = nI 0 := (fi_same 12 (hl13.1 111 (by decide))).trans ((hr11 12 (by decide)).trans hv4)
  have hg : fi w14 111 13 = -1 := (fi_same 13 (hl13.1 111 (by decide))).trans hv10
  have h5 : ia w14 115 = ia w 112 := by rw [hl13.2, ia_of (hs12 112 (by decide)), ia_of (hs6 112 (by decide))]
  have hM2 : MT n X w14 := ⟨(hf 11 (by decide)).trans hM.1, hM.2.1, fun i hi => by rw [ia_of (hc 121 (by decide) (by decide))]; exact hM.2.2 i hi⟩
  have hB2 : rowB (ia w14 112) = rowB (ia w 112) := by rw [ia_of (hc 112 (by decide) (by decide))]
  refine sx_RP.step (pc2 := 22) (ls2 := [(0, .ref 111)]) (st2 := [.int 0]) (w3 := w14) rfl rfl ?_
  refine sx_RP.step (pc2 := 23) (ls2 := [(1, .int 0), (0, .ref 111)]) (st2 := []) (w3 := w14) rfl rfl ?_
  refine sx_RP.step (pc2 := 24) (ls2 := [(1, .int 0), (0, .ref 111)]) (st2 := [.int 1]) (w3 := w14) rfl rfl ?_
  refine sx_RP.step (pc2 := 25) (ls2 := [(2, .int 1), (1, .int 0), (0, .ref 111)]) (st2 := []) (w3 := w14) rfl rfl ?_
  refine sx_RP.ls (sx_lr.cons rfl (sx_lr.cons rfl (sx_lr.cons rfl sx_lr.nil))) ((y210L 121 0 0 (rE blk n X 0) (rowB (ia w 112)) w14 (by omega) (by omega) (Nat.zero_le _) rfl hI15 hM2 he hg hB2 OM.rf).mono9 ?_)
  rintro r w2 ⟨⟨h1, h2, h3⟩, h4, h6⟩
  rw [h5] at h2
  exact ⟨⟨h1, h2, h3, fun j hj => (h6.2 j hj).trans (hf j (by omega))⟩, h4, fun a z1 z2 z3 => (h6.1 a z1 z2).trans (hc a z1 z3)⟩
end
-- 89w.siegeM.lean.txt
section
def TBm (t : BT) : Prop := ∀ i, i < t.2.2.2.length → ∃ j, j < 256 ∧ t.2.2.2.getD i 0 = nI j
theorem tapM_len9 {w : List sx_C} {n : Nat} (en : fi w 111 11 = nI n) (hn : n ≤ 120) : (FMb w).2.2.2.length = n := by
  show (tapM w).length = n
  unfold tapM
  rw [List.length_map, List.length_range, en, iN_n (by omega)]
theorem MT_of {w : List sx_C} (hI : WI w) (hY : TBm (FMb w)) : MT (FMb w).2.2.2.length (sieX (FMb w)) w := by
  obtain ⟨n, hn, en⟩ := hI.m.2.1
  have el := tapM_len9 en hn
  have hY2 := hY
  unfold TBm at hY2
  rw [el] at hY2 ⊢
  refine ⟨en, hn, fun i hi => ?_⟩
  obtain ⟨j, hj, e⟩ := hY2 i hi
  have ea : (tapM w).getD i 0 = (ia w 121).getD i 0 := by
    unfold tapM
    rw [map_at (by rw [en, iN_n (by omega)]; exact hi)]
  have ex : sieX (FMb w) i = j := by
    show iN ((tapM w).getD i 0) = j
    rw [show (tapM w).getD i 0 = nI j from e, iN_n (by omega)]
  rw [ex]
  exact ⟨ea.symm.trans e, hj⟩
theorem B210 {xs : Option (List Int32)} {d : Nat} {w : List sx_C} (hI : WI w) (hY : TBm (FMb w)) : sx_RP xs (d + 8) 210 0 (lv_args 0 [.ref 111]) [] w (fun r w2 => (r = some (.int ((sieT (FMb w)).1)) ∧ FMb w2 = sieU (FMb w)) ∧ WI w2 ∧ ∀ a, a < 111 → w2[a]? = w[a]?) := by
  refine (y210 hI (MT_of hI hY)).mono9 ?_
  rintro r w2 ⟨⟨h1, h2, h3, h4⟩, h5, h6⟩
  refine ⟨⟨h1, ?_⟩, h5, fun a ha => h6 a (by omega) (by omega) (by omega)⟩
  have et : tapM w2 = [] := by
    unfold tapM
    rw [h3]
    rfl
  show (rowB (ia w2 112), fi w2 111 4, (if fi w2 111 4 = 1 then rowB (ia w2 113) else nilB), tapM w2) = _
  rw [et, h4 4 (by decide), ia_of (h6 113 (by decide) (by decide) (by decide)), h2]
  rfl
theorem TBm_of {w : List sx_C} (hI : WI w) (hY : TBy w) (e : FCb w = FMb w) : TBm (FMb w) := by
  rw [← e]
  intro i hi
  obtain ⟨n, hn, en⟩ := hI.t.1
  rw [tapC_len en hn] at hi
  obtain ⟨j, hj, ej⟩ := hY i
  refine ⟨j, hj, ?_⟩
  show (tapC w).getD i 0 = nI j
  unfold tapC
  rw [map_at (by rw [en, iN_n (by omega)]; exact hi), ej]
  exact sgn_and ⟨j, hj⟩
end
-- 89x.keeps.lean.txt
section
theorem BR.same {b b2 : BB} (h : BR b) (e : b2.2.2 = b.2.2) : BR b2 := by
  unfold BR at h ⊢
  rw [e]
  exact h
theorem BR.o {b : BB} {o : Nat} (h : BR b) (ho : o ≤ 999999) : BR (setO (nI o) b) := by
  obtain ⟨_, m, r, _, _, h3⟩ := h
  exact ⟨o, m, r, rfl, ho, h3⟩
theorem BR.m {b : BB} {m : Nat} (h : BR b) (h1 : 1 ≤ m) (h2 : m ≤ 999) : BR (setM (nI m) b) := by
  obtain ⟨o, _, r, q1, q2, _, _, _, q6⟩ := h
  exact ⟨o, m, r, q1, q2, rfl, h1, h2, q6⟩
theorem BR.r {b : BB} {r : Nat} (h : BR b) (h1 : 1 ≤ r) (h2 : r ≤ 99) : BR (setR (nI r) b) := by
  obtain ⟨o, m, _, q1, q2, q3, q4, q5, _⟩ := h
  exact ⟨o, m, r, q1, q2, q3, q4, q5, rfl, h1, h2⟩
theorem rngB {a : Int32} {lo hi : Nat} (h1 : nI lo ≤ a) (h2 : a ≤ nI hi) (hl : lo < 2 ^ 31) (hh : hi < 2 ^ 31) : ∃ x, lo ≤ x ∧ x ≤ hi ∧ a = nI x := by
  have h0 : ¬ a < 0 := by
    intro z
    rw [Int32.lt_iff_toInt_lt, show (0 : Int32).toInt = 0 by decide] at z
    rw [Int32.le_iff_toInt_le, nI_toInt hl] at h1
    omega
  obtain ⟨x, hx, rfl⟩ := nI_of h0
  exact ⟨x, (nI_leI hl hx).mp h1, (nI_leI hx hh).mp h2, rfl⟩
def GT (t : BT) : Prop := BR t.1 ∧ (t.2.1 = 1 → BR t.2.2.1)
section SXGT
variable {t : BT}
theorem GT.c {b : BB} (h : GT t) (hb : BR b) : GT (b, t.2) := ⟨hb, h.2⟩
theorem GT.gal (h : GT t) (a1 a2 a3 a4 : Int32) : GT (galU t a1 a2 a3 a4) := by
  unfold galU
  split
  · split
    · exact h.c (h.1.same rfl)
    · exact h
  · exact h
theorem GT.bec (h : GT t) (a1 a2 : Int32) : GT (becU t a1 a2) := by
  unfold becU
  split
  · exact h.c (h.1.same rfl)
  · exact h
theorem GT.dis (h : GT t) (a1 : Int32) : GT (disU t a1) := by
  unfold disU
  split
  · split
    · exact h.c (h.1.same rfl)
    · exact h
  · exact h
theorem GT.mov (h : GT t) (a1 a2 : Int32) : GT (movU t a1 a2) := by
  unfold movU
  split
  · exact h.c (h.1.same rfl)
  · exact h
theorem GT.bre (h : GT t) (a1 a2 : Int32) : GT (breU t a1 a2) := by
  unfold breU
  split
  · rename_i q
    obtain ⟨x, _, h2, rfl⟩ := rngB (lo := 0) (hi := 999999) q.2.1 q.2.2 (by decide) (by decide)
    exact h.c (h.1.o h2)
  · split
    · rename_i q
      obtain ⟨x, h1, h2, rfl⟩ := rngB (lo := 1) (hi := 999) q.2.1 q.2.2 (by decide) (by decide)
      exact h.c (h.1.m h1 h2)
    · split
      · rename_i q
        obtain ⟨x, h1, h2, rfl⟩ := rngB (lo := 1) (hi := 99) q.2.1 q.2.2 (by decide) (by decide)
        exact h.c (h.1.r h1 h2)
      · exact h
theorem GT.img (h : GT t) : GT (imgU t) := ⟨h.1, fun _ => h.1⟩
theorem GT.und (h : GT t) : GT (undU t) := by
  unfold undU
  split
  · rename_i q
    exact ⟨h.2 q, h.2⟩
  · exact h
theorem GT.tea (h : GT t) : GT (teaU t) := ⟨h.1, fun z => absurd (show (0 : Int32) = 1 from z) (by decide)⟩
theorem GT.wip (h : GT t) : GT (wipU t) := ⟨h.1, h.2⟩
theorem GT.fee (h : GT t) (a1 a2 : Int32) : GT (feeU t a1 a2) := by
  unfold feeU
  split
  · split
    · exact ⟨h.1, h.2⟩
    · exact h
  · exact h
end SXGT
section SXBT
variable {n : Nat} {X : Nat → Nat}
theorem grT_b {b : BB} {last p : Nat} : (grT n X b last p).2.2 = b := by
  unfold grT
  split
  · split <;> rfl
  · rfl
theorem grL_b {b : BB} : ∀ f last p, (grL n X b f last p).2.2 = b
  | 0, last, p => grT_b
  | f + 1, last, p => by
    unfold grL
    split
    · split
      · exact grL_b f _ _
      · rfl
    · exact grT_b
theorem groT_b {b : BB} {p : Nat} : (groT n X p b).2.2 = b := by
  unfold groT
  split
  · exact grL_b _ _ _
  · rfl
theorem br2_b {b : BB} {p : Nat} (h : BR b) : BR (br2 n X p b).2.2 := by
  unfold br2
  split
  · split
    · rename_i q
      have e := wtT_t q
      have v := nmT_in e.2.1
      rw [e.2.2]
      exact h.r v.1 v.2
    · exact h
  · exact h
theorem br1_b {b : BB} {p : Nat} (h : BR b) : BR (br1 n X p b).2.2 := by
  unfold br1
  split
  · split
    · rename_i q
      have e := wtT_t q
      have v := nmT_in e.2.1
      rw [e.2.2]
      exact br2_b (h.m v.1 v.2)
    · exact h
  · exact br2_b h
theorem breT_b {b : BB} {p : Nat} (h : BR b) : BR (breT n X p b).2.2 := by
  unfold breT
  split
  · rename_i q
    exact br1_b (h.o (nmT_in q).2)
  · exact h
theorem disT_b {b : BB} {p : Nat} (h : BR b) : BR (disT n X p b).2.2 := by
  unfold disT
  split
  · split
    · exact h.same rfl
    · exact h
  · exact h
theorem galT_b {b : BB} {k p : Nat} (h : BR b) : BR (galT n X k p b).2.2 := by
  unfold galT
  split
  · split
    · split
      · split
        · exact h.same rfl
        · exact h
      · exact h
    · exact h
  · exact h
theorem itT_b {b : BB} {p : Nat} (h : BR b) : BR (itT n X p b).2.2 := by
  unfold itT
  split
  · split
    · split
      · exact disT_b h
      · split
        · exact breT_b h
        · exact h
    · exact galT_b h
  · rw [groT_b]
    exact h
theorem teL_b : ∀ (f it p : Nat) (b : BB), BR b → BR (teL n X f it p b).2
  | 0, it, p, b, h => h
  | f + 1, it, p, b, h => by
    unfold teL
    split
    · split
      · exact itT_b h
      · split
        · exact teL_b f _ _ _ (itT_b h)
        · exact h
    · exact h
end SXBT
theorem GT.sie {t : BT} (h : GT t) : GT (sieU t) := by
  refine ⟨?_, h.2⟩
  show BR (if 0 ≤ (sieT t).1 then (sieT t).2 else t.1)
  split
  · exact teL_b _ _ _ _ h.1
  · exact h.1
def bOK (w : List sx_C) : Prop := ∀ (a : Nat) (l : List Int32), w[a]? = some (.inl (2, l)) → ∀ v, v ∈ l → ∃ j, j < 256 ∧ v = sgn j
def sx_by (w w2 : List sx_C) : Prop := bOK w → bOK w2
theorem sx_by.rf (w : List sx_C) : sx_by w w := id
theorem sx_by.of {w w2 : List sx_C} (h : w2 = w) : sx_by w w2 := by subst h; exact sx_by.rf w2
theorem sx_by.tr {a b c : List sx_C} (h : sx_by a b) (h2 : sx_by b c) : sx_by a c := fun z => h2 (h z)
theorem sx_by.set {w : List sx_C} {a : Nat} {c : sx_C} (hc : bOK w → ∀ l : List Int32, c = .inl (2, l) → ∀ v, v ∈ l → ∃ j, j < 256 ∧ v = sgn j) : sx_by w (w.set a c) := by
  intro hb b l hl
  by_cases e : a = b
  · subst e
    have hlt : a < w.length := by
      have := (List.getElem?_eq_some_iff.mp hl).1
      rwa [List.length_set] at this
    rw [List.getElem?_set_self hlt] at hl
    exact hc hb l (Option.some.inj hl)
  · rw [List.getElem?_set_ne e] at hl
    exact hb b l hl
theorem nar_back : ∀ c : Fin 256, (nI c.val).toInt8.toBitVec = BitVec.ofNat 8 c.val := by decide +kernel
theorem nar_sgn (x : Int32) : ∃ j, j < 256 ∧ vp_nar .byte x = sgn j := by
  have hlt : x.toInt8.toBitVec.toNat < 256 := x.toInt8.toBitVec.isLt
  refine ⟨x.toInt8.toBitVec.toNat, hlt, ?_⟩
  rw [vp_nar_byte]
  unfold sgn
  congr 1
  apply Int8.toBitVec_inj.mp
  rw [nar_back ⟨_, hlt⟩]
  simp
theorem sx_y_pf {mi : Nat} {idx : Nat} {ls : sx_L} {pc : Nat} {st : List Value} {w : List sx_C} {F : sx_F} (h : sx_pf mi idx ls pc st w = some F) : sx_by w F.2.2.2 := by
  simp only [sx_pf, Bool.cond_eq_ite] at h
  (repeat' split at h) <;> first | (cases h; done) | (cases h; exact sx_by.set (fun _ l e => by cases e))
theorem sx_y_iast {ls : sx_L} {pc : Nat} {st : List Value} {w : List sx_C} {F : sx_F} (h : sx_iast ls pc st w = some F) : sx_by w F.2.2.2 := by
  simp only [sx_iast, Bool.cond_eq_ite] at h
  (repeat' split at h) <;> first | (cases h; done) | (cases h; exact sx_by.set (fun _ l e => absurd (Prod.mk.inj (Sum.inl.inj e)).1 (by decide)))
theorem sx_y_bast {ls : sx_L} {pc : Nat} {st : List Value} {w : List sx_C} {F : sx_F} (h : sx_bast ls pc st w = some F) : sx_by w F.2.2.2 := by
  simp only [sx_bast, Bool.cond_eq_ite] at h
  (repeat' split at h) <;> first | (cases h; done) | (cases h; exact sx_by.set (fun _ l e => absurd (Prod.mk.inj (Sum.inl.inj e)).1 (by decide))) | skip
  rename_i x i a r l0 hl0 hin
  cases h
  refine sx_by.set (fun hb l e v hv => ?_)
  have e2 := (Prod.mk.inj (Sum.inl.inj e)).2
  subst e2
  rcases List.mem_or_eq_of_mem_set hv with q | q
  · exact hb _ _ hl0 v q
  · rw [q]
    exact nar_sgn _
theorem sx_y_last {ls : sx_L} {pc : Nat} {st : List Value} {w : List sx_C} {F : sx_F} (h : sx_last ls pc st w = some F) : sx_by w F.2.2.2 := by
  simp only [sx_last, Bool.cond_eq_ite] at h
  (repeat' split at h) <;> first | (cases h; done) | (cases h; exact sx_by.set (fun _ l e => by cases e))
theorem sx_y_aast {ls : sx_L} {pc : Nat} {st : List Value} {w : List sx_C} {F : sx_F} (h : sx_aast ls pc st w = some F) : sx_by w F.2.2.2 := by
  simp only [sx_aast, Bool.cond_eq_ite] at h
  (repeat' split at h) <;> first | (cases h; done) | (cases h; exact sx_by.set (fun _ l e => by cases e))
theorem sx_y_acp {o idx : Nat} {ls : sx_L} {pc : Nat} {st : List Value} {w : List sx_C} {F : sx_F} (h : sx_acp o idx ls pc st w = some F) : sx_by w F.2.2.2 := by
  simp only [sx_acp, Bool.cond_eq_ite] at h
  (repeat' split at h) <;> first | (cases h; done) | (cases h; exact sx_by.set (fun _ l e => by cases e)) | (cases h; exact sx_by.set (fun _ l e => absurd (Prod.mk.inj (Sum.inl.inj e)).1 (by decide)))
set_option maxHeartbeats 4000000 in
theorem sx_y_step {md : Bool} (hm : md = false) {xs : Option (List Int32)} {mi pc n : Nat} {i : Instr} {ls : sx_L} {st : List Value} {w : List sx_C} {F : sx_F} (h : sx_step md xs mi pc i n ls st w = some F) : sx_by w F.2.2.2 := by
  unfold sx_step at h
  split at h
  · cases h; exact sx_by.rf _
  · cases h; exact sx_by.rf _
  · cases h; exact sx_by.rf _
  · cases h; exact sx_by.rf _
  · exact sx_by.of (sx_w_kc h)
  · exact sx_by.of (sx_w_kc h)
  · exact sx_by.of (sx_w_kj h)
  · exact sx_by.of (sx_w_ldi h)
  · exact sx_by.of (sx_w_ldi h)
  · exact sx_by.of (sx_w_ldl h)
  · exact sx_by.of (sx_w_ldl h)
  · exact sx_by.of (sx_w_lda h)
  · exact sx_by.of (sx_w_lda h)
  · exact sx_by.of (sx_w_sti h)
  · exact sx_by.of (sx_w_sti h)
  · exact sx_by.of (sx_w_stl h)
  · exact sx_by.of (sx_w_stl h)
  · exact sx_by.of (sx_w_sta h)
  · exact sx_by.of (sx_w_sta h)
  · exact sx_by.of (sx_w_inc h)
  · exact sx_by.of (sx_w_ii h)
  · exact sx_by.of (sx_w_ii h)
  · exact sx_by.of (sx_w_ii h)
  · exact sx_by.of (sx_w_ii h)
  · exact sx_by.of (sx_w_ii h)
  · exact sx_by.of (sx_w_ii h)
  · exact sx_by.of (sx_w_iz h)
  · exact sx_by.of (sx_w_iz h)
  · exact sx_by.of (sx_w_i1 h)
  · exact sx_by.of (sx_w_i1 h)
  · exact sx_by.of (sx_w_i1 h)
  · exact sx_by.of (sx_w_jj h)
  · exact sx_by.of (sx_w_jj h)
  · exact sx_by.of (sx_w_jj h)
  · exact sx_by.of (sx_w_jj h)
  · exact sx_by.of (sx_w_jj h)
  · exact sx_by.of (sx_w_jj h)
  · exact sx_by.of (sx_w_ji h)
  · exact sx_by.of (sx_w_ji h)
  · split at h
    · cases h; exact sx_by.rf _
    · cases h
  · split at h
    · cases h; exact sx_by.rf _
    · cases h
  · split at h
    · cases h; exact sx_by.rf _
    · cases h
  · exact sx_by.of (sx_w_dup h)
  · exact sx_by.of (sx_w_pop h)
  · exact sx_by.of (sx_w_dup2 h)
  · exact sx_by.of (sx_w_pop2 h)
  · exact sx_by.of (sx_w_b1 h)
  · exact sx_by.of (sx_w_b2 h)
  · exact sx_by.of (sx_w_b1 h)
  · exact sx_by.of (sx_w_b2 h)
  · exact sx_by.of (sx_w_b1 h)
  · exact sx_by.of (sx_w_b2 h)
  · exact sx_by.of (sx_w_b1 h)
  · exact sx_by.of (sx_w_b2 h)
  · exact sx_by.of (sx_w_b1 h)
  · exact sx_by.of (sx_w_b2 h)
  · exact sx_by.of (sx_w_b1 h)
  · exact sx_by.of (sx_w_b2 h)
  · split at h
    · cases h; exact sx_by.rf _
    · cases h
  · exact sx_by.of (sx_w_sw h)
  · exact sx_by.of (sx_w_gf h)
  · exact sx_y_pf h
  · exact sx_by.of (sx_w_gs h)
  · exact sx_by.of (sx_w_iald h)
  · exact sx_by.of (sx_w_bald h)
  · exact sx_by.of (sx_w_lald h)
  · exact sx_by.of (sx_w_aald h)
  · exact sx_y_iast h
  · exact sx_y_bast h
  · exact sx_y_last h
  · exact sx_y_aast h
  · exact sx_by.of (sx_w_len h)
  · cases md with
    | false => cases h
    | true => cases hm
  · cases md with
    | false => cases h
    | true => cases hm
  · cases md with
    | false => cases h
    | true => cases hm
  · cases md with
    | false => cases h
    | true => cases hm
  · exact sx_by.of (sx_w_obj h)
  · cases md with
    | true => cases h
    | false => exact sx_y_acp h
  · exact sx_by.of (sx_w_str h)
  · cases h
theorem sx_y_run (xs : Option (List Int32)) : ∀ (f d mi pc : Nat) (ls : sx_L) (st : List Value) (w : List sx_C) (r : Option Value) (w2 : List sx_C), sx_run false xs f d mi pc ls st w = some (r, w2) → sx_by w w2
  | 0, d, mi, pc, ls, st, w, r, w2, h => by cases h
  | f + 1, d, mi, pc, ls, st, w, r, w2, h => by
    unfold sx_run at h
    split at h
    · cases h
    · rename_i i n hi
      split at h
      · rename_i pc2 ls2 st2 w3 hs
        exact (sx_y_step rfl hs).tr (sx_y_run xs f d mi pc2 ls2 st2 w3 r w2 h)
      · split at h
        · cases h
          exact sx_by.rf _
        · split at h
          · rename_i mi2 as rest d2 hinv
            simp only [Bool.cond_eq_ite] at h
            split at h
            · split at h
              · rename_i r2 w4 hc
                exact (sx_y_run xs f d2 mi2 0 _ [] w r2 w4 hc).tr (sx_y_run xs f (d2 + 1) mi (pc + 3) ls _ w4 r w2 h)
              · cases h
            · cases h
          · cases h
theorem sx_RP.byk {xs : Option (List Int32)} {d mi pc : Nat} {ls : sx_L} {st : List Value} {w : List sx_C} {P : Option Value → List sx_C → Prop} (h : sx_RP xs d mi pc ls st w P) : sx_RP xs d mi pc ls st w (fun r w2 => P r w2 ∧ (bOK w → bOK w2)) := by
  obtain ⟨r, w2, ⟨f, hf⟩, hp⟩ := h
  exact ⟨r, w2, ⟨f, hf⟩, hp, sx_y_run xs f d mi pc ls st w r w2 hf⟩
theorem sgn_0 : sgn 0 = 0 := by decide
theorem TBy_of {w : List sx_C} (hI : WI w) (hb : bOK w) : TBy w := by
  intro i
  by_cases hi : i < (ia w 97).length
  · have hm : (ia w 97).getD i 0 ∈ ia w 97 := by
      rw [List.getD_eq_getElem?_getD, List.getElem?_eq_getElem hi]
      exact List.getElem_mem hi
    obtain ⟨j, hj, e⟩ := hb 97 _ hI.1.a97.1 _ hm
    exact ⟨j, hj, e⟩
  · refine ⟨0, by decide, ?_⟩
    rw [List.getD_eq_getElem?_getD, List.getElem?_eq_none (by omega), sgn_0]
    rfl
end
-- 90.law.lean.txt
section
section SXLAW
variable {ys : List Int32} {d mi pc pc2 : Nat} {ls : sx_L} {r : List Value} {w : List sx_C} {P : Option Value → List sx_C → Prop}
theorem sx_RP.scr {x : Nat} (hi : sx_ins mi pc = some (.iaload, 1)) (hx : x < ys.length) (hl : ys.length ≤ 3072) (hp : pc + 1 = pc2) (kk : sx_RP (some ys) d mi pc2 ls (.int (ys.getD x 0) :: r) w P) : sx_RP (some ys) d mi pc ls (.int (nI x) :: .float 4 :: r) w P :=
  sx_RP.stat (k := 4) hi rfl ⟨sx_in_nI (n := ys.length) hx (by omega), by rw [nI_clamp (by omega)]; rfl⟩ hp kk
end SXLAW
theorem law_le {len i : Nat} (hlen : len ≤ 3072) (hi : i ≤ 3072) (h : ¬ (nI len - 6 < nI i)) : i + 6 ≤ len := by
  by_cases h6 : 6 ≤ len
  · rw [show (6 : Int32) = nI 6 from rfl, nI_sub h6] at h
    have := mt (nI_ltI (a := len - 6) (b := i) (by omega) (by omega)).mpr h
    omega
  · exfalso
    apply h
    have e : (nI len - 6).toInt < 0 := by
      rcases (show len = 0 ∨ len = 1 ∨ len = 2 ∨ len = 3 ∨ len = 4 ∨ len = 5 by omega) with rfl | rfl | rfl | rfl | rfl | rfl <;> decide
    rw [Int32.lt_iff_toInt_lt, nI_toInt (by omega)]
    omega
def inRb (v : Int32) (n : Nat) : Bool := (List.range (n + 1)).any (fun j => decide (v = nI j))
theorem inRb_ok {v : Int32} {n : Nat} (h : inRb v n = true) : inR v n := by
  unfold inRb at h
  obtain ⟨j, hj, e⟩ := List.any_eq_true.mp h
  exact ⟨j, by have := List.mem_range.mp hj; omega, of_decide_eq_true e⟩
def impb (p : Prop) [Decidable p] (b : Bool) : Bool := !(decide p) || b
theorem impb_ok {p : Prop} [Decidable p] {b : Bool} (h : impb p b = true) (hp : p) : b = true := by
  unfold impb at h
  rw [decide_eq_true hp] at h
  exact h
def eOKb (k : Nat) (v : Int32) : Bool :=
  impb (k = 1) (inRb v 10) && (impb (k = 2) (inRb v 9) && (impb (7 ≤ k ∧ k < 55) (inRb v 3) && (impb (103 ≤ k ∧ k < 163 ∧ (k - 103) % 6 = 0) (inRb v 5) && (impb (103 ≤ k ∧ k < 163 ∧ (k - 103) % 6 = 1) (inRb v 1) && (impb (103 ≤ k ∧ k < 163 ∧ (k - 103) % 6 = 2) (inRb v 47) && (impb (103 ≤ k ∧ k < 163 ∧ (k - 103) % 6 = 3) (inRb v 3) && (impb (103 ≤ k ∧ k < 163 ∧ (k - 103) % 6 = 5) (inRb v 1) && impb (163 ≤ k) (inRb v 47))))))))
theorem eOKb_ok {k : Nat} {v : Int32} (h : eOKb k v = true) : eOK k v := by
  unfold eOKb at h
  simp only [Bool.and_eq_true] at h
  obtain ⟨h1, h2, h3, h4, h5, h6, h7, h8, h9⟩ := h
  exact ⟨fun z => inRb_ok (impb_ok h1 z), fun z => inRb_ok (impb_ok h2 z), fun z => inRb_ok (impb_ok h3 z), fun z => inRb_ok (impb_ok h4 z), fun z => inRb_ok (impb_ok h5 z), fun z => inRb_ok (impb_ok h6 z), fun z => inRb_ok (impb_ok h7 z), fun z => inRb_ok (impb_ok h8 z), fun z => inRb_ok (impb_ok h9 z)⟩
def allb (n : Nat) (f : Nat → Bool) : Bool := (List.range n).all f
theorem allb_ok {n : Nat} {f : Nat → Bool} (h : allb n f = true) {k : Nat} (hk : k < n) : f k = true := List.all_eq_true.mp h k (List.mem_range.mpr hk)
def cOKb (a : Nat) (c : sx_C) : Bool :=
  impb ((5 ≤ a ∧ a < 15) ∨ (19 ≤ a ∧ a < 29) ∨ (33 ≤ a ∧ a < 44)) (inRb (vi (cf c)[0]?) 5 && (inRb (vi (cf c)[1]?) 1 && (inRb (vi (cf c)[2]?) 47 && (inRb (vi (cf c)[3]?) 3 && inRb (vi (cf c)[5]?) 1)))) && (impb (a = 1 ∨ a = 15 ∨ a = 29) (inRb (vi (cf c)[3]?) 10 && inRb (vi (cf c)[5]?) 9) && (impb (a = 2 ∨ a = 16 ∨ a = 30) (allb 48 (fun k => inRb ((cI c).getD k 0) 3)) && (impb (a = 4 ∨ a = 18 ∨ a = 32) (allb 9 (fun k => inRb ((cI c).getD k 0) 47)) && (impb (a = 0) (inRb (vi (cf c)[3]?) 1) && (impb (a = 96) (inRb (vi (cf c)[1]?) 120 && (inRb (vi (cf c)[3]?) 120 && inRb (vi (cf c)[4]?) 120)) && (impb (a = 103 ∨ a = 105 ∨ a = 107 ∨ a = 109) (inRb (vi (cf c)[2]?) 40) && (impb (a = 111) (inRb (vi (cf c)[4]?) 1 && (inRb (vi (cf c)[11]?) 120 && inRb (vi (cf c)[12]?) 120)) && (impb (a = 112 ∨ a = 113 ∨ a = 114 ∨ a = 115) (allb 172 (fun k => eOKb k ((cI c).getD k 0))) && impb (a = 123) (allb 4 (fun k => inRb ((cI c).getD k 0) 40))))))))))
theorem cOKb_ok {a : Nat} {c : sx_C} (h : cOKb a c = true) : cOK a c := by
  unfold cOKb at h
  simp only [Bool.and_eq_true] at h
  obtain ⟨h1, h2, h3, h4, h5, h6, h7, h8, h9, h10⟩ := h
  refine ⟨fun z => ?_, fun z => ?_, fun z k hk => inRb_ok (allb_ok (impb_ok h3 z) hk), fun z k hk => inRb_ok (allb_ok (impb_ok h4 z) hk), fun z => inRb_ok (impb_ok h5 z), fun z => ?_, fun z => inRb_ok (impb_ok h7 z), fun z => ?_, fun z k hk => eOKb_ok (allb_ok (impb_ok h9 z) hk), fun z k hk => inRb_ok (allb_ok (impb_ok h10 z) hk)⟩
  · have := impb_ok h1 z
    simp only [Bool.and_eq_true] at this
    exact ⟨inRb_ok this.1, inRb_ok this.2.1, inRb_ok this.2.2.1, inRb_ok this.2.2.2.1, inRb_ok this.2.2.2.2⟩
  · have := impb_ok h2 z
    simp only [Bool.and_eq_true] at this
    exact ⟨inRb_ok this.1, inRb_ok this.2⟩
  · have := impb_ok h6 z
    simp only [Bool.and_eq_true] at this
    exact ⟨inRb_ok this.1, inRb_ok this.2.1, inRb_ok this.2.2⟩
  · have := impb_ok h8 z
    simp only [Bool.and_eq_true] at this
    exact ⟨inRb_ok this.1, inRb_ok this.2.1, inRb_ok this.2.2⟩
theorem w0_ok : allb 126 (fun a => match (sx_w0[a]? : Option sx_C) with
  | some c => cOKb a c
  | none => true) = true := by decide +kernel
theorem w0_WI : WI sx_w0 := by
  refine ⟨rfl, ?_⟩
  intro a c hc
  have ha : a < 126 := by
    have := (List.getElem?_eq_some_iff.mp hc).1
    rw [sx_w0_len] at this
    exact this
  have h := allb_ok w0_ok ha
  rw [hc] at h
  exact cOKb_ok h
def LI (w : List sx_C) : Prop := (FCb w = FMb w ∧ GT (FCb w)) ∧ bOK w
theorem LI.mid {w w1 : List sx_C} (hL : LI w) (h : ∀ a, 111 ≤ a → w1[a]? = w[a]?) : FCb w = FMb w1 := hL.1.1.trans (FMb_eq h).symm
theorem LI.rc {w w2 : List sx_C} (hL : LI w) (hI : WI w) (h : EN w w2) (hb : bOK w → bOK w2) : LI w2 := by
  have e1 := FCb_en hI h
  have e2 : FMb w2 = FMb w := FMb_eq (fun a ha => h.1 a (by unfold nc; omega))
  exact ⟨⟨e1.trans (hL.1.1.trans e2.symm), by rw [e1]; exact hL.1.2⟩, hb hL.2⟩
theorem LI.rm {w w2 : List sx_C} (hL : LI w) (hI : WI w) (h : EL w w2) (hb : bOK w → bOK w2) : LI w2 := by
  have e1 : FCb w2 = FCb w := FCb_eq hI (fun a ha => h.1 a (by unfold kc; omega) (by omega))
  have e2 := FMb_el hI h
  exact ⟨⟨e1.trans (hL.1.1.trans e2.symm), by rw [e1]; exact hL.1.2⟩, hb hL.2⟩
theorem LI.two {w w1 w2 : List sx_C} (U : BT → BT) (hL : LI w) (h1 : ∀ a, 111 ≤ a → w1[a]? = w[a]?) (e1 : FCb w1 = U (FCb w)) (hI1 : WI w1) (h2 : ∀ a, a < 111 → w2[a]? = w1[a]?) (e2 : FMb w2 = U (FMb w1)) (hg : GT (U (FCb w))) (hb1 : bOK w → bOK w1) (hb2 : bOK w1 → bOK w2) : LI w2 := by
  have ec : FCb w2 = U (FCb w) := (FCb_eq hI1 h2).trans e1
  refine ⟨⟨?_, by rw [ec]; exact hg⟩, hb2 (hb1 hL.2)⟩
  rw [ec, e2, hL.mid h1]
theorem LI.tb {w w1 : List sx_C} (hL : LI w) (hI : WI w) (h1 : ∀ a, 111 ≤ a → w1[a]? = w[a]?) : TBm (FMb w1) := by
  rw [FMb_eq h1]
  exact TBm_of hI (TBy_of hI hL.2) hL.1.1
theorem LI.br {w w1 : List sx_C} (hL : LI w) (h1 : ∀ a, 111 ≤ a → w1[a]? = w[a]?) : BR (FMb w1).1 := by
  rw [← hL.mid h1]
  exact hL.1.2.1
theorem EQ.hi {w w2 : List sx_C} (h : EQ w w2) : ∀ a, 111 ≤ a → w2[a]? = w[a]? := fun a ha => h a (Or.inr (Or.inr (by omega)))
theorem sx_between {a : Int32} (h : 0 ≤ a ∧ a ≤ 3) : ∃ s, s < 4 ∧ a = nI s := by
  rw [Int32.le_iff_toInt_le, Int32.le_iff_toInt_le] at h
  have h1 : (0 : Int32).toInt = 0 := by decide
  have h2 : (3 : Int32).toInt = 3 := by decide
  refine ⟨a.toInt.toNat, by omega, ?_⟩
  rw [← Int32.toInt_inj, nI_toInt (by omega)]
  omega
theorem t111 {xs : Option (List Int32)} {d : Nat} {w : List sx_C} (hI : WI w) (a1 a2 a3 : Int32) : sx_RP xs (d + 7) 111 0 (lv_args 0 [.ref 0, .int a1, .int a2, .int a3]) [] w (fun r w2 => (∃ v : Int32, r = some (.int v)) ∧ WI w2 ∧ EN w w2) := by
  by_cases h : 0 ≤ a1 ∧ a1 ≤ 3
  · obtain ⟨s, hs, rfl⟩ := sx_between h
    exact N111p hI hs a2 a3
  · exact N111n hI a1 a2 a3 h
theorem t139 {xs : Option (List Int32)} {d : Nat} {w : List sx_C} (hI : WI w) : sx_RP xs (d + 7) 139 0 (lv_args 0 [.ref 111]) [] w (fun r w2 => (∃ v : Int64, r = some (.long v)) ∧ WI w2 ∧ EL w w2) := by
  obtain ⟨v, h⟩ := p139 (xs := xs) (d := d) hI
  exact ⟨_, _, h, ⟨v, rfl⟩, hI, EL.rf⟩
end
