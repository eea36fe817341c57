-- 89u.siege.lean.txt
section
-- item of the reference
theorem row_dlen {w : List sx_C} {b : BB} {u : Nat} (hI : WI w) (hB : rowB (ia w 112) = b) (hu : b.2.1.length = u) (h : u ≤ 10) : (ia w 112).getD 2 0 = nI u := by
  obtain ⟨j, hj, e⟩ := (hI.sA (a := 112) (by decide) 2 (by decide)).2.1 rfl
  have z : (rowB (ia w 112)).2.1.length = j := by
    unfold rowB
    rw [mkB_len2, e, iN_n (by omega)]
  rw [e, ← hu, ← hB, z]
theorem b01_in (b : Bool) : inR (b01 b) 1 := by
  cases b
  · exact ⟨0, by decide, rfl⟩
  · exact ⟨1, by decide, rfl⟩
set_option maxRecDepth 20000 in
set_option maxHeartbeats 4000000 in
theorem y211 {xs : Option (List Int32)} {d : Nat} {w : List sx_C} (hI : WI w) {n h q : Nat} {X : Nat → Nat} {b : BB} (hM : MT n X w) (hp : h ≤ n) (ep : fi w 111 12 = nI h) (ef : fi w 111 13 = -1) (hP : rE blk n X h = q) (hB : rowB (ia w 112) = b) {u m : Nat} (hu : b.1.length = u) (hm : b.2.1.length = m) (hu10 : u ≤ 10) (hm9 : m ≤ 9) : sx_RP xs (d + 7) 211 0 (lv_args 0 [.ref 111]) [] w (fun r w2 => (r = some (.int (b01 (itT n X q b).1)) ∧ RdM n X (itT n X q b) w2) ∧ WI w2 ∧ OM w w2) := by
  have hn := hM.2.1
  have hpl : q ≤ n := by rw [← hP]; exact rE_le hp
  refine sx_RP.step (pc2 := 1) (ls2 := [(0, .ref 111)]) (st2 := [.int 0]) (w3 := w) rfl rfl ?_
  refine sx_RP.step (pc2 := 2) (ls2 := [(1, .int 0), (0, .ref 111)]) (st2 := []) (w3 := w) rfl rfl ?_
  refine sx_RP.step (pc2 := 3) (ls2 := [(1, .int 0), (0, .ref 111)]) (st2 := [.int 0]) (w3 := w) rfl rfl ?_
  refine sx_RP.step (pc2 := 4) (ls2 := [(1, .int 0), (0, .ref 111)]) (st2 := [.int 5, .int 0]) (w3 := w) rfl rfl ?_
  refine sx_RP.step (pc2 := 7) (ls2 := [(1, .int 0), (0, .ref 111)]) (st2 := []) (w3 := w) rfl rfl ?_
  refine sx_RP.step (pc2 := 8) (ls2 := [(1, .int 0), (0, .ref 111)]) (st2 := [.ref 111]) (w3 := w) rfl rfl ?_
  refine sx_RP.step (pc2 := 9) (ls2 := [(1, .int 0), (0, .ref 111)]) (st2 := [.int 0, .ref 111]) (w3 := w) rfl rfl ?_
  refine sx_RP.cu (as := [.int 0]) (rest2 := [.ref 111]) (st3 := [.float 102, .ref 111]) rfl rfl rfl rfl rfl (p212_0) rfl ?_
  rcases Bool.eq_false_or_eq_true (wdT n X q (102 : UInt32)) with c1 | c1
  · refine sx_RP.callp (as2 := [.ref 111, .float 102]) (rest2 := []) rfl rfl (sx_inv_v2 (mi := 211) (k := 243) (st := [.float 102, .ref 111]) (w := w) rfl rfl hI.1.o111 rfl rfl rfl) rfl rfl rfl (y213t (k := (102 : UInt32)) (m := 4) hI hM hp ep ef (by decide) rfl (by decide) (by decide) hP c1) (show _ = 15 from rfl) ?_
    rintro r4 w5 ⟨⟨rfl, ep2⟩, hI6, hO3⟩
    show sx_RP _ _ _ _ _ [.int 1] _ _
    have ef4 := (hO3.2 13 (by decide)).trans ef
    have hp7 : beT n X q ≤ n := beT_le hpl
    have hp8 : nP n X q ≤ n := rE_le hp7
    have hP9 : rE blk n X (beT n X q) = nP n X q := rfl
    have hM10 := hM.hs (hO3.hs)
    have hO11 := OM.rf.tr (HS.om (hO3.hs))
    have hB12 : rowB (ia w5 112) = b := by rw [HS.row (hO3.hs)]; exact hB
    refine sx_RP.step (pc2 := 18) (ls2 := [(1, .int 0), (0, .ref 111)]) (st2 := []) (w3 := w5) rfl rfl ?_
    refine sx_RP.step (pc2 := 19) (ls2 := [(1, .int 0), (0, .ref 111)]) (st2 := [.ref 111]) (w3 := w5) rfl rfl ?_
    refine sx_RP.step (pc2 := 20) (ls2 := [(1, .int 0), (0, .ref 111)]) (st2 := [.int 0, .ref 111]) (w3 := w5) rfl rfl ?_
    refine sx_RP.callp (as2 := [.ref 111, .int 0]) (rest2 := []) rfl rfl (sx_inv_v2 (mi := 211) (k := 318) (st := [.int 0, .ref 111]) (w := w5) rfl rfl hI6.1.o111 rfl rfl rfl) rfl rfl rfl (y219 (u := 0) hI6 hM10 hp7 ep2 ef4 hP9 hB12 (by decide)) (show _ = 23 from rfl) ?_
    rintro r4 w15 ⟨⟨rfl, hr13⟩, hI16, hO14⟩
    show sx_RP _ _ _ _ _ [.int (b01 (groS n X (nP n X q) b).1)] _ _
    have hO17 := hO11.tr hO14
    refine sx_RP.ret (r := (some (.int (b01 (groS n X (nP n X q) b).1)))) rfl (bo_ret rfl (b01_in _)) ?_
    have eg : gwT n X q = 0 := by simp only [gwT, c1, if_true, if_false, Bool.false_eq_true, ite_true, ite_false, true_or, or_true, or_false, false_or]
    have eR : itT n X q b = groS n X (nP n X q) b := by unfold itT; rw [eg, if_neg (by decide)]; rfl
    rw [eR]
    exact ⟨⟨rfl, hr13⟩, hI16, hO17⟩
  · refine sx_RP.callp (as2 := [.ref 111, .float 102]) (rest2 := []) rfl rfl (sx_inv_v2 (mi := 211) (k := 243) (st := [.float 102, .ref 111]) (w := w) rfl rfl hI.1.o111 rfl rfl rfl) rfl rfl rfl (y213f (k := (102 : UInt32)) (m := 4) hI hM hp ep ef (by decide) rfl (by decide) (by decide) hP c1) (show _ = 15 from rfl) ?_
    rintro r4 w21 ⟨⟨rfl, ep18⟩, hI22, hO19⟩
    show sx_RP _ _ _ _ _ [.int 0] _ _
    have ef20 := (hO19.2 13 (by decide)).trans ef
    have hP23 : rE blk n X q = q := by rw [← hP]; exact rE_rE
    have hM24 := hM.hs (hO19.hs)
    have hO25 := OM.rf.tr (HS.om (hO19.hs))
    have hB26 : rowB (ia w21 112) = b := by rw [HS.row (hO19.hs)]; exact hB
    refine sx_RP.step (pc2 := 24) (ls2 := [(1, .int 0), (0, .ref 111)]) (st2 := []) (w3 := w21) rfl rfl ?_
    refine sx_RP.step (pc2 := 27) (ls2 := [(1, .int 1), (0, .ref 111)]) (st2 := []) (w3 := w21) rfl rfl ?_
    refine sx_RP.step (pc2 := 2) (ls2 := [(1, .int 1), (0, .ref 111)]) (st2 := []) (w3 := w21) rfl rfl ?_
    refine sx_RP.step (pc2 := 3) (ls2 := [(1, .int 1), (0, .ref 111)]) (st2 := [.int 1]) (w3 := w21) rfl rfl ?_
    refine sx_RP.step (pc2 := 4) (ls2 := [(1, .int 1), (0, .ref 111)]) (st2 := [.int 5, .int 1]) (w3 := w21) rfl rfl ?_
    refine sx_RP.step (pc2 := 7) (ls2 := [(1, .int 1), (0, .ref 111)]) (st2 := []) (w3 := w21) rfl rfl ?_
    refine sx_RP.step (pc2 := 8) (ls2 := [(1, .int 1), (0, .ref 111)]) (st2 := [.ref 111]) (w3 := w21) rfl rfl ?_
    refine sx_RP.step (pc2 := 9) (ls2 := [(1, .int 1), (0, .ref 111)]) (st2 := [.int 1, .ref 111]) (w3 := w21) rfl rfl ?_
    refine sx_RP.cu (as := [.int 1]) (rest2 := [.ref 111]) (st3 := [.float 113, .ref 111]) rfl rfl rfl rfl rfl (p212_1) rfl ?_
    rcases Bool.eq_false_or_eq_true (wdT n X q (113 : UInt32)) with c27 | c27
    · refine sx_RP.callp (as2 := [.ref 111, .float 113]) (rest2 := []) rfl rfl (sx_inv_v2 (mi := 211) (k := 243) (st := [.float 113, .ref 111]) (w := w21) rfl rfl hI22.1.o111 rfl rfl rfl) rfl rfl rfl (y213t (k := (113 : UInt32)) (m := 4) hI22 hM24 hpl ep18 ef20 (by decide) rfl (by decide) (by decide) hP23 c27) (show _ = 15 from rfl) ?_
      rintro r4 w31 ⟨⟨rfl, ep28⟩, hI32, hO29⟩
      show sx_RP _ _ _ _ _ [.int 1] _ _
      have ef30 := (hO29.2 13 (by decide)).trans ef20
      have hp33 : beT n X q ≤ n := beT_le hpl
      have hp34 : nP n X q ≤ n := rE_le hp33
      have hP35 : rE blk n X (beT n X q) = nP n X q := rfl
      have hM36 := hM24.hs (hO29.hs)
      have hO37 := hO25.tr (HS.om (hO29.hs))
      have hB38 : rowB (ia w31 112) = b := by rw [HS.row (hO29.hs)]; exact hB26
      refine sx_RP.step (pc2 := 18) (ls2 := [(1, .int 1), (0, .ref 111)]) (st2 := []) (w3 := w31) rfl rfl ?_
      refine sx_RP.step (pc2 := 19) (ls2 := [(1, .int 1), (0, .ref 111)]) (st2 := [.ref 111]) (w3 := w31) rfl rfl ?_
      refine sx_RP.step (pc2 := 20) (ls2 := [(1, .int 1), (0, .ref 111)]) (st2 := [.int 1, .ref 111]) (w3 := w31) rfl rfl ?_
      refine sx_RP.callp (as2 := [.ref 111, .int 1]) (rest2 := []) rfl rfl (sx_inv_v2 (mi := 211) (k := 318) (st := [.int 1, .ref 111]) (w := w31) rfl rfl hI32.1.o111 rfl rfl rfl) rfl rfl rfl (y219 (u := 1) hI32 hM36 hp33 ep28 ef30 hP35 hB38 (by decide)) (show _ = 23 from rfl) ?_
      rintro r4 w41 ⟨⟨rfl, hr39⟩, hI42, hO40⟩
      show sx_RP _ _ _ _ _ [.int (b01 (groS n X (nP n X q) b).1)] _ _
      have hO43 := hO37.tr hO40
      refine sx_RP.ret (r := (some (.int (b01 (groS n X (nP n X q) b).1)))) rfl (bo_ret rfl (b01_in _)) ?_
      have eg : gwT n X q = 1 := by simp only [gwT, c1, c27, if_true, if_false, Bool.false_eq_true, ite_true, ite_false, true_or, or_true, or_false, false_or]
      have eR : itT n X q b = groS n X (nP n X q) b := by unfold itT; rw [eg, if_neg (by decide)]; rfl
      rw [eR]
      exact ⟨⟨rfl, hr39⟩, hI42, hO43⟩
    · refine sx_RP.callp (as2 := [.ref 111, .float 113]) (rest2 := []) rfl rfl (sx_inv_v2 (mi := 211) (k := 243) (st := [.float 113, .ref 111]) (w := w21) rfl rfl hI22.1.o111 rfl rfl rfl) rfl rfl rfl (y213f (k := (113 : UInt32)) (m := 4) hI22 hM24 hpl ep18 ef20 (by decide) rfl (by decide) (by decide) hP23 c27) (show _ = 15 from rfl) ?_
      rintro r4 w47 ⟨⟨rfl, ep44⟩, hI48, hO45⟩
      show sx_RP _ _ _ _ _ [.int 0] _ _
      have ef46 := (hO45.2 13 (by decide)).trans ef20
      have hP49 : rE blk n X q = q := by rw [← hP23]; exact rE_rE
      have hM50 := hM24.hs (hO45.hs)
      have hO51 := hO25.tr (HS.om (hO45.hs))
      have hB52 : rowB (ia w47 112) = b := by rw [HS.row (hO45.hs)]; exact hB26
      refine sx_RP.step (pc2 := 24) (ls2 := [(1, .int 1), (0, .ref 111)]) (st2 := []) (w3 := w47) rfl rfl ?_
      refine sx_RP.step (pc2 := 27) (ls2 := [(1, .int 2), (0, .ref 111)]) (st2 := []) (w3 := w47) rfl rfl ?_
      refine sx_RP.step (pc2 := 2) (ls2 := [(1, .int 2), (0, .ref 111)]) (st2 := []) (w3 := w47) rfl rfl ?_
      refine sx_RP.step (pc2 := 3) (ls2 := [(1, .int 2), (0, .ref 111)]) (st2 := [.int 2]) (w3 := w47) rfl rfl ?_
      refine sx_RP.step (pc2 := 4) (ls2 := [(1, .int 2), (0, .ref 111)]) (st2 := [.int 5, .int 2]) (w3 := w47) rfl rfl ?_
      refine sx_RP.step (pc2 := 7) (ls2 := [(1, .int 2), (0, .ref 111)]) (st2 := []) (w3 := w47) rfl rfl ?_
      refine sx_RP.step (pc2 := 8) (ls2 := [(1, .int 2), (0, .ref 111)]) (st2 := [.ref 111]) (w3 := w47) rfl rfl ?_
      refine sx_RP.step (pc2 := 9) (ls2 := [(1, .int 2), (0, .ref 111)]) (st2 := [.int 2, .ref 111]) (w3 := w47) rfl rfl ?_
      refine sx_RP.cu (as := [.int 2]) (rest2 := [.ref 111]) (st3 := [.float 112, .ref 111]) rfl rfl rfl rfl rfl (p212_2) rfl ?_
      rcases Bool.eq_false_or_eq_true (wdT n X q (112 : UInt32)) with c53 | c53
      · refine sx_RP.callp (as2 := [.ref 111, .float 112]) (rest2 := []) rfl rfl (sx_inv_v2 (mi := 211) (k := 243) (st := [.float 112, .ref 111]) (w := w47) rfl rfl hI48.1.o111 rfl rfl rfl) rfl rfl rfl (y213t (k := (112 : UInt32)) (m := 4) hI48 hM50 hpl ep44 ef46 (by decide) rfl (by decide) (by decide) hP49 c53) (show _ = 15 from rfl) ?_
        rintro r4 w57 ⟨⟨rfl, ep54⟩, hI58, hO55⟩
        show sx_RP _ _ _ _ _ [.int 1] _ _
        have ef56 := (hO55.2 13 (by decide)).trans ef46
        have hp59 : beT n X q ≤ n := beT_le hpl
        have hp60 : nP n X q ≤ n := rE_le hp59
        have hP61 : rE blk n X (beT n X q) = nP n X q := rfl
        have hM62 := hM50.hs (hO55.hs)
        have hO63 := hO51.tr (HS.om (hO55.hs))
        have hB64 : rowB (ia w57 112) = b := by rw [HS.row (hO55.hs)]; exact hB52
        refine sx_RP.step (pc2 := 18) (ls2 := [(1, .int 2), (0, .ref 111)]) (st2 := []) (w3 := w57) rfl rfl ?_
        refine sx_RP.step (pc2 := 19) (ls2 := [(1, .int 2), (0, .ref 111)]) (st2 := [.ref 111]) (w3 := w57) rfl rfl ?_
        refine sx_RP.step (pc2 := 20) (ls2 := [(1, .int 2), (0, .ref 111)]) (st2 := [.int 2, .ref 111]) (w3 := w57) rfl rfl ?_
        refine sx_RP.callp (as2 := [.ref 111, .int 2]) (rest2 := []) rfl rfl (sx_inv_v2 (mi := 211) (k := 318) (st := [.int 2, .ref 111]) (w := w57) rfl rfl hI58.1.o111 rfl rfl rfl) rfl rfl rfl (y219 (u := 2) hI58 hM62 hp59 ep54 ef56 hP61 hB64 (by decide)) (show _ = 23 from rfl) ?_
        rintro r4 w67 ⟨⟨rfl, hr65⟩, hI68, hO66⟩
        show sx_RP _ _ _ _ _ [.int (b01 (groS n X (nP n X q) b).1)] _ _
        have hO69 := hO63.tr hO66
        refine sx_RP.ret (r := (some (.int (b01 (groS n X (nP n X q) b).1)))) rfl (bo_ret rfl (b01_in _)) ?_
        have eg : gwT n X q = 2 := by simp only [gwT, c1, c27, c53, if_true, if_false, Bool.false_eq_true, ite_true, ite_false, true_or, or_true, or_false, false_or]
        have eR : itT n X q b = groS n X (nP n X q) b := by unfold itT; rw [eg, if_neg (by decide)]; rfl
        rw [eR]
        exact ⟨⟨rfl, hr65⟩, hI68, hO69⟩
      · refine sx_RP.callp (as2 := [.ref 111, .float 112]) (rest2 := []) rfl rfl (sx_inv_v2 (mi := 211) (k := 243) (st := [.float 112, .ref 111]) (w := w47) rfl rfl hI48.1.o111 rfl rfl rfl) rfl rfl rfl (y213f (k := (112 : UInt32)) (m := 4) hI48 hM50 hpl ep44 ef46 (by decide) rfl (by decide) (by decide) hP49 c53) (show _ = 15 from rfl) ?_
        rintro r4 w73 ⟨⟨rfl, ep70⟩, hI74, hO71⟩
        show sx_RP _ _ _ _ _ [.int 0] _ _
        have ef72 := (hO71.2 13 (by decide)).trans ef46
        have hP75 : rE blk n X q = q := by rw [← hP49]; exact rE_rE
        have hM76 := hM50.hs (hO71.hs)
        have hO77 := hO51.tr (HS.om (hO71.hs))
        have hB78 : rowB (ia w73 112) = b := by rw [HS.row (hO71.hs)]; exact hB52
        refine sx_RP.step (pc2 := 24) (ls2 := [(1, .int 2), (0, .ref 111)]) (st2 := []) (w3 := w73) rfl rfl ?_
        refine sx_RP.step (pc2 := 27) (ls2 := [(1, .int 3), (0, .ref 111)]) (st2 := []) (w3 := w73) rfl rfl ?_
        refine sx_RP.step (pc2 := 2) (ls2 := [(1, .int 3), (0, .ref 111)]) (st2 := []) (w3 := w73) rfl rfl ?_
        refine sx_RP.step (pc2 := 3) (ls2 := [(1, .int 3), (0, .ref 111)]) (st2 := [.int 3]) (w3 := w73) rfl rfl ?_
        refine sx_RP.step (pc2 := 4) (ls2 := [(1, .int 3), (0, .ref 111)]) (st2 := [.int 5, .int 3]) (w3 := w73) rfl rfl ?_
        refine sx_RP.step (pc2 := 7) (ls2 := [(1, .int 3), (0, .ref 111)]) (st2 := []) (w3 := w73) rfl rfl ?_
        refine sx_RP.step (pc2 := 8) (ls2 := [(1, .int 3), (0, .ref 111)]) (st2 := [.ref 111]) (w3 := w73) rfl rfl ?_
        refine sx_RP.step (pc2 := 9) (ls2 := [(1, .int 3), (0, .ref 111)]) (st2 := [.int 3, .ref 111]) (w3 := w73) rfl rfl ?_
        refine sx_RP.cu (as := [.int 3]) (rest2 := [.ref 111]) (st3 := [.float 118, .ref 111]) rfl rfl rfl rfl rfl (p212_3) rfl ?_
        rcases Bool.eq_false_or_eq_true (wdT n X q (118 : UInt32)) with c79 | c79
        · refine sx_RP.callp (as2 := [.ref 111, .float 118]) (rest2 := []) rfl rfl (sx_inv_v2 (mi := 211) (k := 243) (st := [.float 118, .ref 111]) (w := w73) rfl rfl hI74.1.o111 rfl rfl rfl) rfl rfl rfl (y213t (k := (118 : UInt32)) (m := 5) hI74 hM76 hpl ep70 ef72 (by decide) rfl (by decide) (by decide) hP75 c79) (show _ = 15 from rfl) ?_
          rintro r4 w83 ⟨⟨rfl, ep80⟩, hI84, hO81⟩
          show sx_RP _ _ _ _ _ [.int 1] _ _
          have ef82 := (hO81.2 13 (by decide)).trans ef72
          have hp85 : beT n X q ≤ n := beT_le hpl
          have hp86 : nP n X q ≤ n := rE_le hp85
          have hP87 : rE blk n X (beT n X q) = nP n X q := rfl
          have hM88 := hM76.hs (hO81.hs)
          have hO89 := hO77.tr (HS.om (hO81.hs))
          have hB90 : rowB (ia w83 112) = b := by rw [HS.row (hO81.hs)]; exact hB78
          refine sx_RP.step (pc2 := 18) (ls2 := [(1, .int 3), (0, .ref 111)]) (st2 := []) (w3 := w83) rfl rfl ?_
          refine sx_RP.step (pc2 := 19) (ls2 := [(1, .int 3), (0, .ref 111)]) (st2 := [.ref 111]) (w3 := w83) rfl rfl ?_
          refine sx_RP.step (pc2 := 20) (ls2 := [(1, .int 3), (0, .ref 111)]) (st2 := [.int 3, .ref 111]) (w3 := w83) rfl rfl ?_
          refine sx_RP.callp (as2 := [.ref 111, .int 3]) (rest2 := []) rfl rfl (sx_inv_v2 (mi := 211) (k := 318) (st := [.int 3, .ref 111]) (w := w83) rfl rfl hI84.1.o111 rfl rfl rfl) rfl rfl rfl (y219 (u := 3) hI84 hM88 hp85 ep80 ef82 hP87 hB90 (by decide)) (show _ = 23 from rfl) ?_
          rintro r4 w93 ⟨⟨rfl, hr91⟩, hI94, hO92⟩
          show sx_RP _ _ _ _ _ [.int (b01 (groS n X (nP n X q) b).1)] _ _
          have hO95 := hO89.tr hO92
          refine sx_RP.ret (r := (some (.int (b01 (groS n X (nP n X q) b).1)))) rfl (bo_ret rfl (b01_in _)) ?_
          have eg : gwT n X q = 3 := by simp only [gwT, c1, c27, c53, c79, if_true, if_false, Bool.false_eq_true, ite_true, ite_false, true_or, or_true, or_false, false_or]
          have eR : itT n X q b = groS n X (nP n X q) b := by unfold itT; rw [eg, if_neg (by decide)]; rfl
          rw [eR]
          exact ⟨⟨rfl, hr91⟩, hI94, hO95⟩
        · refine sx_RP.callp (as2 := [.ref 111, .float 118]) (rest2 := []) rfl rfl (sx_inv_v2 (mi := 211) (k := 243) (st := [.float 118, .ref 111]) (w := w73) rfl rfl hI74.1.o111 rfl rfl rfl) rfl rfl rfl (y213f (k := (118 : UInt32)) (m := 5) hI74 hM76 hpl ep70 ef72 (by decide) rfl (by decide) (by decide) hP75 c79) (show _ = 15 from rfl) ?_
          rintro r4 w99 ⟨⟨rfl, ep96⟩, hI100, hO97⟩
          show sx_RP _ _ _ _ _ [.int 0] _ _
          have ef98 := (hO97.2 13 (by decide)).trans ef72
          have hP101 : rE blk n X q = q := by rw [← hP75]; exact rE_rE
          have hM102 := hM76.hs (hO97.hs)
          have hO103 := hO77.tr (HS.om (hO97.hs))
          have hB104 : rowB (ia w99 112) = b := by rw [HS.row (hO97.hs)]; exact hB78
          refine sx_RP.step (pc2 := 24) (ls2 := [(1, .int 3), (0, .ref 111)]) (st2 := []) (w3 := w99) rfl rfl ?_
          refine sx_RP.step (pc2 := 27) (ls2 := [(1, .int 4), (0, .ref 111)]) (st2 := []) (w3 := w99) rfl rfl ?_
          refine sx_RP.step (pc2 := 2) (ls2 := [(1, .int 4), (0, .ref 111)]) (st2 := []) (w3 := w99) rfl rfl ?_
          refine sx_RP.step (pc2 := 3) (ls2 := [(1, .int 4), (0, .ref 111)]) (st2 := [.int 4]) (w3 := w99) rfl rfl ?_
          refine sx_RP.step (pc2 := 4) (ls2 := [(1, .int 4), (0, .ref 111)]) (st2 := [.int 5, .int 4]) (w3 := w99) rfl rfl ?_
          refine sx_RP.step (pc2 := 7) (ls2 := [(1, .int 4), (0, .ref 111)]) (st2 := []) (w3 := w99) rfl rfl ?_
          refine sx_RP.step (pc2 := 8) (ls2 := [(1, .int 4), (0, .ref 111)]) (st2 := [.ref 111]) (w3 := w99) rfl rfl ?_
          refine sx_RP.step (pc2 := 9) (ls2 := [(1, .int 4), (0, .ref 111)]) (st2 := [.int 4, .ref 111]) (w3 := w99) rfl rfl ?_
          refine sx_RP.cu (as := [.int 4]) (rest2 := [.ref 111]) (st3 := [.float 117, .ref 111]) rfl rfl rfl rfl rfl (p212_4) rfl ?_
          rcases Bool.eq_false_or_eq_true (wdT n X q (117 : UInt32)) with c105 | c105
          · refine sx_RP.callp (as2 := [.ref 111, .float 117]) (rest2 := []) rfl rfl (sx_inv_v2 (mi := 211) (k := 243) (st := [.float 117, .ref 111]) (w := w99) rfl rfl hI100.1.o111 rfl rfl rfl) rfl rfl rfl (y213t (k := (117 : UInt32)) (m := 4) hI100 hM102 hpl ep96 ef98 (by decide) rfl (by decide) (by decide) hP101 c105) (show _ = 15 from rfl) ?_
            rintro r4 w109 ⟨⟨rfl, ep106⟩, hI110, hO107⟩
            show sx_RP _ _ _ _ _ [.int 1] _ _
            have ef108 := (hO107.2 13 (by decide)).trans ef98
            have hp111 : beT n X q ≤ n := beT_le hpl
            have hp112 : nP n X q ≤ n := rE_le hp111
            have hP113 : rE blk n X (beT n X q) = nP n X q := rfl
            have hM114 := hM102.hs (hO107.hs)
            have hO115 := hO103.tr (HS.om (hO107.hs))
            have hB116 : rowB (ia w109 112) = b := by rw [HS.row (hO107.hs)]; exact hB104
            refine sx_RP.step (pc2 := 18) (ls2 := [(1, .int 4), (0, .ref 111)]) (st2 := []) (w3 := w109) rfl rfl ?_
            refine sx_RP.step (pc2 := 19) (ls2 := [(1, .int 4), (0, .ref 111)]) (st2 := [.ref 111]) (w3 := w109) rfl rfl ?_
            refine sx_RP.step (pc2 := 20) (ls2 := [(1, .int 4), (0, .ref 111)]) (st2 := [.int 4, .ref 111]) (w3 := w109) rfl rfl ?_
            refine sx_RP.callp (as2 := [.ref 111, .int 4]) (rest2 := []) rfl rfl (sx_inv_v2 (mi := 211) (k := 318) (st := [.int 4, .ref 111]) (w := w109) rfl rfl hI110.1.o111 rfl rfl rfl) rfl rfl rfl (y219 (u := 4) hI110 hM114 hp111 ep106 ef108 hP113 hB116 (by decide)) (show _ = 23 from rfl) ?_
            rintro r4 w119 ⟨⟨rfl, hr117⟩, hI120, hO118⟩
            show sx_RP _ _ _ _ _ [.int (b01 (groS n X (nP n X q) b).1)] _ _
            have hO121 := hO115.tr hO118
            refine sx_RP.ret (r := (some (.int (b01 (groS n X (nP n X q) b).1)))) rfl (bo_ret rfl (b01_in _)) ?_
            have eg : gwT n X q = 4 := by simp only [gwT, c1, c27, c53, c79, c105, if_true, if_false, Bool.false_eq_true, ite_true, ite_false, true_or, or_true, or_false, false_or]
            have eR : itT n X q b = groS n X (nP n X q) b := by unfold itT; rw [eg, if_neg (by decide)]; rfl
            rw [eR]
            exact ⟨⟨rfl, hr117⟩, hI120, hO121⟩
          · refine sx_RP.callp (as2 := [.ref 111, .float 117]) (rest2 := []) rfl rfl (sx_inv_v2 (mi := 211) (k := 243) (st := [.float 117, .ref 111]) (w := w99) rfl rfl hI100.1.o111 rfl rfl rfl) rfl rfl rfl (y213f (k := (117 : UInt32)) (m := 4) hI100 hM102 hpl ep96 ef98 (by decide) rfl (by decide) (by decide) hP101 c105) (show _ = 15 from rfl) ?_
            rintro r4 w125 ⟨⟨rfl, ep122⟩, hI126, hO123⟩
            show sx_RP _ _ _ _ _ [.int 0] _ _
            have ef124 := (hO123.2 13 (by decide)).trans ef98
            have hP127 : rE blk n X q = q := by rw [← hP101]; exact rE_rE
            have hM128 := hM102.hs (hO123.hs)
            have hO129 := hO103.tr (HS.om (hO123.hs))
            have hB130 : rowB (ia w125 112) = b := by rw [HS.row (hO123.hs)]; exact hB104
            refine sx_RP.step (pc2 := 24) (ls2 := [(1, .int 4), (0, .ref 111)]) (st2 := []) (w3 := w125) rfl rfl ?_
            refine sx_RP.step (pc2 := 27) (ls2 := [(1, .int 5), (0, .ref 111)]) (st2 := []) (w3 := w125) rfl rfl ?_
            refine sx_RP.step (pc2 := 2) (ls2 := [(1, .int 5), (0, .ref 111)]) (st2 := []) (w3 := w125) rfl rfl ?_
            refine sx_RP.step (pc2 := 3) (ls2 := [(1, .int 5), (0, .ref 111)]) (st2 := [.int 5]) (w3 := w125) rfl rfl ?_
            refine sx_RP.step (pc2 := 4) (ls2 := [(1, .int 5), (0, .ref 111)]) (st2 := [.int 5, .int 5]) (w3 := w125) rfl rfl ?_
            refine sx_RP.step (pc2 := 30) (ls2 := [(1, .int 5), (0, .ref 111)]) (st2 := []) (w3 := w125) rfl rfl ?_
            refine sx_RP.step (pc2 := 31) (ls2 := [(1, .int 5), (0, .ref 111)]) (st2 := [.int 0]) (w3 := w125) rfl rfl ?_
            refine sx_RP.step (pc2 := 32) (ls2 := [(1, .int 0), (0, .ref 111)]) (st2 := []) (w3 := w125) rfl rfl ?_
            refine sx_RP.step (pc2 := 33) (ls2 := [(1, .int 0), (0, .ref 111)]) (st2 := [.int 0]) (w3 := w125) rfl rfl ?_
            refine sx_RP.step (pc2 := 35) (ls2 := [(1, .int 0), (0, .ref 111)]) (st2 := [.int 6, .int 0]) (w3 := w125) rfl rfl ?_
            refine sx_RP.step (pc2 := 38) (ls2 := [(1, .int 0), (0, .ref 111)]) (st2 := []) (w3 := w125) rfl rfl ?_
            refine sx_RP.step (pc2 := 39) (ls2 := [(1, .int 0), (0, .ref 111)]) (st2 := [.ref 111]) (w3 := w125) rfl rfl ?_
            refine sx_RP.step (pc2 := 40) (ls2 := [(1, .int 0), (0, .ref 111)]) (st2 := [.int 0, .ref 111]) (w3 := w125) rfl rfl ?_
            refine sx_RP.cu (as := [.int 0]) (rest2 := [.ref 111]) (st3 := [.float 106, .ref 111]) rfl rfl rfl rfl rfl (p226_0) rfl ?_
            rcases Bool.eq_false_or_eq_true (wdT n X q (106 : UInt32)) with c131 | c131
            · refine sx_RP.callp (as2 := [.ref 111, .float 106]) (rest2 := []) rfl rfl (sx_inv_v2 (mi := 211) (k := 239) (st := [.float 106, .ref 111]) (w := w125) rfl rfl hI126.1.o111 rfl rfl rfl) rfl rfl rfl (y214t (k := (106 : UInt32)) (m := 7) hI126 hM128 hpl ep122 (by decide) rfl (by decide) (by decide) hP127 c131) (show _ = 46 from rfl) ?_
              rintro r4 w135 ⟨⟨rfl, ep132⟩, hI136, hO133⟩
              show sx_RP _ _ _ _ _ [.int 1] _ _
              have ef134 := (hO133.2 13 (by decide)).trans ef124
              have hP137 : rE blk n X q = q := by rw [← hP127]; exact rE_rE
              have hM138 := hM128.hs (hO133.hs)
              have hO139 := hO129.tr (HS.om (hO133.hs))
              have hB140 : rowB (ia w135 112) = b := by rw [HS.row (hO133.hs)]; exact hB130
              refine sx_RP.step (pc2 := 49) (ls2 := [(1, .int 0), (0, .ref 111)]) (st2 := []) (w3 := w135) rfl rfl ?_
              refine sx_RP.step (pc2 := 50) (ls2 := [(1, .int 0), (0, .ref 111)]) (st2 := [.ref 111]) (w3 := w135) rfl rfl ?_
              refine sx_RP.gf (v := .ref 112) rfl rfl hI136.1.o111 rfl rfl (show _ = 53 from rfl) ?_
              refine sx_RP.step (pc2 := 54) (ls2 := [(1, .int 0), (0, .ref 111)]) (st2 := [.int 1, .ref 112]) (w3 := w135) rfl rfl ?_
              have ex141 : (ia w135 112).getD 1 0 = nI u := row_len hI136 hB140 hu (by omega)
              refine sx_RP.ild (c := 1) rfl hI136.1.a112.1 hI136.1.a112.2 (sx_in_nI (show 1 < 172 by omega) (by decide)) (nI_clamp (by decide)) (show _ = 55 from rfl) ?_
              rw [ex141]
              refine sx_RP.step (pc2 := 57) (ls2 := [(1, .int 0), (0, .ref 111)]) (st2 := [.int 10, .int (nI u)]) (w3 := w135) rfl rfl ?_
              refine sx_RP.br (p1 := 65) (l1 := [(1, .int 0), (0, .ref 111)]) (s1 := []) (v1 := w135) (p2 := 60) (l2 := [(1, .int 0), (0, .ref 111)]) (s2 := []) (v2 := w135) rfl rfl (fun q142 => ?_) (fun q142 => ?_)
              · replace q142 := of_decide_eq_true q142
                replace q142 := mt (nI_eq (a := u) (b := 10) (by omega) (by omega)).mpr q142
                refine sx_RP.step (pc2 := 66) (ls2 := [(1, .int 0), (0, .ref 111)]) (st2 := [.ref 111]) (w3 := w135) rfl rfl ?_
                refine sx_RP.step (pc2 := 67) (ls2 := [(1, .int 0), (0, .ref 111)]) (st2 := [.int 0, .ref 111]) (w3 := w135) rfl rfl ?_
                refine sx_RP.cu (as := [.int 0]) (rest2 := [.ref 111]) (st3 := [.float 106, .ref 111]) rfl rfl rfl rfl rfl (p226_0) rfl ?_
                refine sx_RP.callp (as2 := [.ref 111, .float 106]) (rest2 := []) rfl rfl (sx_inv_v2 (mi := 211) (k := 243) (st := [.float 106, .ref 111]) (w := w135) rfl rfl hI136.1.o111 rfl rfl rfl) rfl rfl rfl (y213t (k := (106 : UInt32)) (m := 7) hI136 hM138 hpl ep132 ef134 (by decide) rfl (by decide) (by decide) hP137 c131) (show _ = 73 from rfl) ?_
                rintro r4 w147 ⟨⟨rfl, ep144⟩, hI148, hO145⟩
                show sx_RP _ _ _ _ _ [.int 1] _ _
                have ef146 := (hO145.2 13 (by decide)).trans ef134
                have hp149 : beT n X q ≤ n := beT_le hpl
                have hp150 : nP n X q ≤ n := rE_le hp149
                have hP151 : rE blk n X (beT n X q) = nP n X q := rfl
                have hM152 := hM138.hs (hO145.hs)
                have hO153 := hO139.tr (HS.om (hO145.hs))
                have hB154 : rowB (ia w147 112) = b := by rw [HS.row (hO145.hs)]; exact hB140
                refine sx_RP.step (pc2 := 76) (ls2 := [(1, .int 0), (0, .ref 111)]) (st2 := []) (w3 := w147) rfl rfl ?_
                refine sx_RP.step (pc2 := 77) (ls2 := [(1, .int 0), (0, .ref 111)]) (st2 := [.ref 111]) (w3 := w147) rfl rfl ?_
                refine sx_RP.step (pc2 := 78) (ls2 := [(1, .int 0), (0, .ref 111)]) (st2 := [.int 0, .ref 111]) (w3 := w147) rfl rfl ?_
                refine sx_RP.callp (as2 := [.ref 111, .int 0]) (rest2 := []) rfl rfl (sx_inv_v2 (mi := 211) (k := 323) (st := [.int 0, .ref 111]) (w := w147) rfl rfl hI148.1.o111 rfl rfl rfl) rfl rfl rfl (y227 (k := 0) hI148 hM152 hp149 ep144 ef146 hP151 hB154 (by decide) hu (by omega)) (show _ = 81 from rfl) ?_
                rintro r4 w157 ⟨⟨rfl, hr155⟩, hI158, hO156⟩
                show sx_RP _ _ _ _ _ [.int (b01 (galS n X 0 (nP n X q) b).1)] _ _
                have hO159 := hO153.tr hO156
                refine sx_RP.ret (r := (some (.int (b01 (galS n X 0 (nP n X q) b).1)))) rfl (bo_ret rfl (b01_in _)) ?_
                have eg : gwT n X q = -1 := by simp only [gwT, c1, c27, c53, c79, c105, c131, if_true, if_false, Bool.false_eq_true, ite_true, ite_false, true_or, or_true, or_false, false_or]
                have ek : kwT n X q = 0 := by simp only [kwT, c1, c27, c53, c79, c105, c131, if_true, if_false, Bool.false_eq_true, ite_true, ite_false, true_or, or_true, or_false, false_or]
                have eR : itT n X q b = galS n X 0 (nP n X q) b := by unfold itT; rw [eg, if_pos rfl, ek, if_neg (by decide)]; exact galT_S (by omega)
                rw [eR]
                exact ⟨⟨rfl, hr155⟩, hI158, hO159⟩
              · replace q142 := Decidable.not_not.mp (of_decide_eq_false q142)
                replace q142 := (nI_eq (a := u) (b := 10) (by omega) (by omega)).mp q142
                refine sx_RP.step (pc2 := 61) (ls2 := [(1, .int 0), (0, .ref 111)]) (st2 := [.ref 111]) (w3 := w135) rfl rfl ?_
                refine sx_RP.callp (as2 := [.ref 111]) (rest2 := []) rfl rfl (sx_inv_v2 (mi := 211) (k := 245) (st := [.ref 111]) (w := w135) rfl rfl hI136.1.o111 rfl rfl rfl) rfl rfl rfl (y222 (p := q) hI136 ef134 ep132) (show _ = 64 from rfl) ?_
                rintro r4 w162 ⟨⟨rfl, hv160⟩, hI163, hO161⟩
                show sx_RP _ _ _ _ _ [.int 0] _ _
                have hO164 := hO139.tr (HS.om hO161.hs)
                refine sx_RP.ret (r := (some (.int 0))) rfl rfl ?_
                have eg : gwT n X q = -1 := by simp only [gwT, c1, c27, c53, c79, c105, c131, if_true, if_false, Bool.false_eq_true, ite_true, ite_false, true_or, or_true, or_false, false_or]
                have ek : kwT n X q = 0 := by simp only [kwT, c1, c27, c53, c79, c105, c131, if_true, if_false, Bool.false_eq_true, ite_true, ite_false, true_or, or_true, or_false, false_or]
                have eR : itT n X q b = (false, q, b) := by unfold itT; rw [eg, if_pos rfl, ek, if_neg (by decide)]; unfold galT; rw [if_neg (by omega)]
                rw [eR]
                exact ⟨⟨rfl, RdM.f hv160⟩, hI163, hO164⟩
            · refine sx_RP.callp (as2 := [.ref 111, .float 106]) (rest2 := []) rfl rfl (sx_inv_v2 (mi := 211) (k := 239) (st := [.float 106, .ref 111]) (w := w125) rfl rfl hI126.1.o111 rfl rfl rfl) rfl rfl rfl (y214f (k := (106 : UInt32)) (m := 7) hI126 hM128 hpl ep122 (by decide) rfl (by decide) (by decide) hP127 c131) (show _ = 46 from rfl) ?_
              rintro r4 w168 ⟨⟨rfl, ep165⟩, hI169, hO166⟩
              show sx_RP _ _ _ _ _ [.int 0] _ _
              have ef167 := (hO166.2 13 (by decide)).trans ef124
              have hP170 : rE blk n X q = q := by rw [← hP127]; exact rE_rE
              have hM171 := hM128.hs (hO166.hs)
              have hO172 := hO129.tr (HS.om (hO166.hs))
              have hB173 : rowB (ia w168 112) = b := by rw [HS.row (hO166.hs)]; exact hB130
              refine sx_RP.step (pc2 := 65) (ls2 := [(1, .int 0), (0, .ref 111)]) (st2 := []) (w3 := w168) rfl rfl ?_
              refine sx_RP.step (pc2 := 66) (ls2 := [(1, .int 0), (0, .ref 111)]) (st2 := [.ref 111]) (w3 := w168) rfl rfl ?_
              refine sx_RP.step (pc2 := 67) (ls2 := [(1, .int 0), (0, .ref 111)]) (st2 := [.int 0, .ref 111]) (w3 := w168) rfl rfl ?_
              refine sx_RP.cu (as := [.int 0]) (rest2 := [.ref 111]) (st3 := [.float 106, .ref 111]) rfl rfl rfl rfl rfl (p226_0) rfl ?_
              refine sx_RP.callp (as2 := [.ref 111, .float 106]) (rest2 := []) rfl rfl (sx_inv_v2 (mi := 211) (k := 243) (st := [.float 106, .ref 111]) (w := w168) rfl rfl hI169.1.o111 rfl rfl rfl) rfl rfl rfl (y213f (k := (106 : UInt32)) (m := 7) hI169 hM171 hpl ep165 ef167 (by decide) rfl (by decide) (by decide) hP170 c131) (show _ = 73 from rfl) ?_
              rintro r4 w178 ⟨⟨rfl, ep175⟩, hI179, hO176⟩
              show sx_RP _ _ _ _ _ [.int 0] _ _
              have ef177 := (hO176.2 13 (by decide)).trans ef167
              have hP180 : rE blk n X q = q := by rw [← hP170]; exact rE_rE
              have hM181 := hM171.hs (hO176.hs)
              have hO182 := hO172.tr (HS.om (hO176.hs))
              have hB183 : rowB (ia w178 112) = b := by rw [HS.row (hO176.hs)]; exact hB173
              refine sx_RP.step (pc2 := 82) (ls2 := [(1, .int 0), (0, .ref 111)]) (st2 := []) (w3 := w178) rfl rfl ?_
              refine sx_RP.step (pc2 := 85) (ls2 := [(1, .int 1), (0, .ref 111)]) (st2 := []) (w3 := w178) rfl rfl ?_
              refine sx_RP.step (pc2 := 32) (ls2 := [(1, .int 1), (0, .ref 111)]) (st2 := []) (w3 := w178) rfl rfl ?_
              refine sx_RP.step (pc2 := 33) (ls2 := [(1, .int 1), (0, .ref 111)]) (st2 := [.int 1]) (w3 := w178) rfl rfl ?_
              refine sx_RP.step (pc2 := 35) (ls2 := [(1, .int 1), (0, .ref 111)]) (st2 := [.int 6, .int 1]) (w3 := w178) rfl rfl ?_
              refine sx_RP.step (pc2 := 38) (ls2 := [(1, .int 1), (0, .ref 111)]) (st2 := []) (w3 := w178) rfl rfl ?_
              refine sx_RP.step (pc2 := 39) (ls2 := [(1, .int 1), (0, .ref 111)]) (st2 := [.ref 111]) (w3 := w178) rfl rfl ?_
              refine sx_RP.step (pc2 := 40) (ls2 := [(1, .int 1), (0, .ref 111)]) (st2 := [.int 1, .ref 111]) (w3 := w178) rfl rfl ?_
              refine sx_RP.cu (as := [.int 1]) (rest2 := [.ref 111]) (st3 := [.float 110, .ref 111]) rfl rfl rfl rfl rfl (p226_1) rfl ?_
              rcases Bool.eq_false_or_eq_true (wdT n X q (110 : UInt32)) with c184 | c184
              · refine sx_RP.callp (as2 := [.ref 111, .float 110]) (rest2 := []) rfl rfl (sx_inv_v2 (mi := 211) (k := 239) (st := [.float 110, .ref 111]) (w := w178) rfl rfl hI179.1.o111 rfl rfl rfl) rfl rfl rfl (y214t (k := (110 : UInt32)) (m := 7) hI179 hM181 hpl ep175 (by decide) rfl (by decide) (by decide) hP180 c184) (show _ = 46 from rfl) ?_
                rintro r4 w188 ⟨⟨rfl, ep185⟩, hI189, hO186⟩
                show sx_RP _ _ _ _ _ [.int 1] _ _
                have ef187 := (hO186.2 13 (by decide)).trans ef177
                have hP190 : rE blk n X q = q := by rw [← hP180]; exact rE_rE
                have hM191 := hM181.hs (hO186.hs)
                have hO192 := hO182.tr (HS.om (hO186.hs))
                have hB193 : rowB (ia w188 112) = b := by rw [HS.row (hO186.hs)]; exact hB183
                refine sx_RP.step (pc2 := 49) (ls2 := [(1, .int 1), (0, .ref 111)]) (st2 := []) (w3 := w188) rfl rfl ?_
                refine sx_RP.step (pc2 := 50) (ls2 := [(1, .int 1), (0, .ref 111)]) (st2 := [.ref 111]) (w3 := w188) rfl rfl ?_
                refine sx_RP.gf (v := .ref 112) rfl rfl hI189.1.o111 rfl rfl (show _ = 53 from rfl) ?_
                refine sx_RP.step (pc2 := 54) (ls2 := [(1, .int 1), (0, .ref 111)]) (st2 := [.int 1, .ref 112]) (w3 := w188) rfl rfl ?_
                have ex194 : (ia w188 112).getD 1 0 = nI u := row_len hI189 hB193 hu (by omega)
                refine sx_RP.ild (c := 1) rfl hI189.1.a112.1 hI189.1.a112.2 (sx_in_nI (show 1 < 172 by omega) (by decide)) (nI_clamp (by decide)) (show _ = 55 from rfl) ?_
                rw [ex194]
                refine sx_RP.step (pc2 := 57) (ls2 := [(1, .int 1), (0, .ref 111)]) (st2 := [.int 10, .int (nI u)]) (w3 := w188) rfl rfl ?_
                refine sx_RP.br (p1 := 65) (l1 := [(1, .int 1), (0, .ref 111)]) (s1 := []) (v1 := w188) (p2 := 60) (l2 := [(1, .int 1), (0, .ref 111)]) (s2 := []) (v2 := w188) rfl rfl (fun q195 => ?_) (fun q195 => ?_)
                · replace q195 := of_decide_eq_true q195
                  replace q195 := mt (nI_eq (a := u) (b := 10) (by omega) (by omega)).mpr q195
                  refine sx_RP.step (pc2 := 66) (ls2 := [(1, .int 1), (0, .ref 111)]) (st2 := [.ref 111]) (w3 := w188) rfl rfl ?_
                  refine sx_RP.step (pc2 := 67) (ls2 := [(1, .int 1), (0, .ref 111)]) (st2 := [.int 1, .ref 111]) (w3 := w188) rfl rfl ?_
                  refine sx_RP.cu (as := [.int 1]) (rest2 := [.ref 111]) (st3 := [.float 110, .ref 111]) rfl rfl rfl rfl rfl (p226_1) rfl ?_
                  refine sx_RP.callp (as2 := [.ref 111, .float 110]) (rest2 := []) rfl rfl (sx_inv_v2 (mi := 211) (k := 243) (st := [.float 110, .ref 111]) (w := w188) rfl rfl hI189.1.o111 rfl rfl rfl) rfl rfl rfl (y213t (k := (110 : UInt32)) (m := 7) hI189 hM191 hpl ep185 ef187 (by decide) rfl (by decide) (by decide) hP190 c184) (show _ = 73 from rfl) ?_
                  rintro r4 w200 ⟨⟨rfl, ep197⟩, hI201, hO198⟩
                  show sx_RP _ _ _ _ _ [.int 1] _ _
                  have ef199 := (hO198.2 13 (by decide)).trans ef187
                  have hp202 : beT n X q ≤ n := beT_le hpl
                  have hp203 : nP n X q ≤ n := rE_le hp202
                  have hP204 : rE blk n X (beT n X q) = nP n X q := rfl
                  have hM205 := hM191.hs (hO198.hs)
                  have hO206 := hO192.tr (HS.om (hO198.hs))
                  have hB207 : rowB (ia w200 112) = b := by rw [HS.row (hO198.hs)]; exact hB193
                  refine sx_RP.step (pc2 := 76) (ls2 := [(1, .int 1), (0, .ref 111)]) (st2 := []) (w3 := w200) rfl rfl ?_
                  refine sx_RP.step (pc2 := 77) (ls2 := [(1, .int 1), (0, .ref 111)]) (st2 := [.ref 111]) (w3 := w200) rfl rfl ?_
                  refine sx_RP.step (pc2 := 78) (ls2 := [(1, .int 1), (0, .ref 111)]) (st2 := [.int 1, .ref 111]) (w3 := w200) rfl rfl ?_
                  refine sx_RP.callp (as2 := [.ref 111, .int 1]) (rest2 := []) rfl rfl (sx_inv_v2 (mi := 211) (k := 323) (st := [.int 1, .ref 111]) (w := w200) rfl rfl hI201.1.o111 rfl rfl rfl) rfl rfl rfl (y227 (k := 1) hI201 hM205 hp202 ep197 ef199 hP204 hB207 (by decide) hu (by omega)) (show _ = 81 from rfl) ?_
                  rintro r4 w210 ⟨⟨rfl, hr208⟩, hI211, hO209⟩
                  show sx_RP _ _ _ _ _ [.int (b01 (galS n X 1 (nP n X q) b).1)] _ _
                  have hO212 := hO206.tr hO209
                  refine sx_RP.ret (r := (some (.int (b01 (galS n X 1 (nP n X q) b).1)))) rfl (bo_ret rfl (b01_in _)) ?_
                  have eg : gwT n X q = -1 := by simp only [gwT, c1, c27, c53, c79, c105, c131, c184, if_true, if_false, Bool.false_eq_true, ite_true, ite_false, true_or, or_true, or_false, false_or]
                  have ek : kwT n X q = 1 := by simp only [kwT, c1, c27, c53, c79, c105, c131, c184, if_true, if_false, Bool.false_eq_true, ite_true, ite_false, true_or, or_true, or_false, false_or]
                  have eR : itT n X q b = galS n X 1 (nP n X q) b := by unfold itT; rw [eg, if_pos rfl, ek, if_neg (by decide)]; exact galT_S (by omega)
                  rw [eR]
                  exact ⟨⟨rfl, hr208⟩, hI211, hO212⟩
                · replace q195 := Decidable.not_not.mp (of_decide_eq_false q195)
                  replace q195 := (nI_eq (a := u) (b := 10) (by omega) (by omega)).mp q195
                  refine sx_RP.step (pc2 := 61) (ls2 := [(1, .int 1), (0, .ref 111)]) (st2 := [.ref 111]) (w3 := w188) rfl rfl ?_
                  refine sx_RP.callp (as2 := [.ref 111]) (rest2 := []) rfl rfl (sx_inv_v2 (mi := 211) (k := 245) (st := [.ref 111]) (w := w188) rfl rfl hI189.1.o111 rfl rfl rfl) rfl rfl rfl (y222 (p := q) hI189 ef187 ep185) (show _ = 64 from rfl) ?_
                  rintro r4 w215 ⟨⟨rfl, hv213⟩, hI216, hO214⟩
                  show sx_RP _ _ _ _ _ [.int 0] _ _
                  have hO217 := hO192.tr (HS.om hO214.hs)
                  refine sx_RP.ret (r := (some (.int 0))) rfl rfl ?_
                  have eg : gwT n X q = -1 := by simp only [gwT, c1, c27, c53, c79, c105, c131, c184, if_true, if_false, Bool.false_eq_true, ite_true, ite_false, true_or, or_true, or_false, false_or]
                  have ek : kwT n X q = 1 := by simp only [kwT, c1, c27, c53, c79, c105, c131, c184, if_true, if_false, Bool.false_eq_true, ite_true, ite_false, true_or, or_true, or_false, false_or]
                  have eR : itT n X q b = (false, q, b) := by unfold itT; rw [eg, if_pos rfl, ek, if_neg (by decide)]; unfold galT; rw [if_neg (by omega)]
                  rw [eR]
                  exact ⟨⟨rfl, RdM.f hv213⟩, hI216, hO217⟩
              · refine sx_RP.callp (as2 := [.ref 111, .float 110]) (rest2 := []) rfl rfl (sx_inv_v2 (mi := 211) (k := 239) (st := [.float 110, .ref 111]) (w := w178) rfl rfl hI179.1.o111 rfl rfl rfl) rfl rfl rfl (y214f (k := (110 : UInt32)) (m := 7) hI179 hM181 hpl ep175 (by decide) rfl (by decide) (by decide) hP180 c184) (show _ = 46 from rfl) ?_
                rintro r4 w221 ⟨⟨rfl, ep218⟩, hI222, hO219⟩
                show sx_RP _ _ _ _ _ [.int 0] _ _
                have ef220 := (hO219.2 13 (by decide)).trans ef177
                have hP223 : rE blk n X q = q := by rw [← hP180]; exact rE_rE
                have hM224 := hM181.hs (hO219.hs)
                have hO225 := hO182.tr (HS.om (hO219.hs))
                have hB226 : rowB (ia w221 112) = b := by rw [HS.row (hO219.hs)]; exact hB183
                refine sx_RP.step (pc2 := 65) (ls2 := [(1, .int 1), (0, .ref 111)]) (st2 := []) (w3 := w221) rfl rfl ?_
                refine sx_RP.step (pc2 := 66) (ls2 := [(1, .int 1), (0, .ref 111)]) (st2 := [.ref 111]) (w3 := w221) rfl rfl ?_
                refine sx_RP.step (pc2 := 67) (ls2 := [(1, .int 1), (0, .ref 111)]) (st2 := [.int 1, .ref 111]) (w3 := w221) rfl rfl ?_
                refine sx_RP.cu (as := [.int 1]) (rest2 := [.ref 111]) (st3 := [.float 110, .ref 111]) rfl rfl rfl rfl rfl (p226_1) rfl ?_
                refine sx_RP.callp (as2 := [.ref 111, .float 110]) (rest2 := []) rfl rfl (sx_inv_v2 (mi := 211) (k := 243) (st := [.float 110, .ref 111]) (w := w221) rfl rfl hI222.1.o111 rfl rfl rfl) rfl rfl rfl (y213f (k := (110 : UInt32)) (m := 7) hI222 hM224 hpl ep218 ef220 (by decide) rfl (by decide) (by decide) hP223 c184) (show _ = 73 from rfl) ?_
                rintro r4 w231 ⟨⟨rfl, ep228⟩, hI232, hO229⟩
                show sx_RP _ _ _ _ _ [.int 0] _ _
                have ef230 := (hO229.2 13 (by decide)).trans ef220
                have hP233 : rE blk n X q = q := by rw [← hP223]; exact rE_rE
                have hM234 := hM224.hs (hO229.hs)
                have hO235 := hO225.tr (HS.om (hO229.hs))
                have hB236 : rowB (ia w231 112) = b := by rw [HS.row (hO229.hs)]; exact hB226
                refine sx_RP.step (pc2 := 82) (ls2 := [(1, .int 1), (0, .ref 111)]) (st2 := []) (w3 := w231) rfl rfl ?_
                refine sx_RP.step (pc2 := 85) (ls2 := [(1, .int 2), (0, .ref 111)]) (st2 := []) (w3 := w231) rfl rfl ?_
                refine sx_RP.step (pc2 := 32) (ls2 := [(1, .int 2), (0, .ref 111)]) (st2 := []) (w3 := w231) rfl rfl ?_
                refine sx_RP.step (pc2 := 33) (ls2 := [(1, .int 2), (0, .ref 111)]) (st2 := [.int 2]) (w3 := w231) rfl rfl ?_
                refine sx_RP.step (pc2 := 35) (ls2 := [(1, .int 2), (0, .ref 111)]) (st2 := [.int 6, .int 2]) (w3 := w231) rfl rfl ?_
                refine sx_RP.step (pc2 := 38) (ls2 := [(1, .int 2), (0, .ref 111)]) (st2 := []) (w3 := w231) rfl rfl ?_
                refine sx_RP.step (pc2 := 39) (ls2 := [(1, .int 2), (0, .ref 111)]) (st2 := [.ref 111]) (w3 := w231) rfl rfl ?_
                refine sx_RP.step (pc2 := 40) (ls2 := [(1, .int 2), (0, .ref 111)]) (st2 := [.int 2, .ref 111]) (w3 := w231) rfl rfl ?_
                refine sx_RP.cu (as := [.int 2]) (rest2 := [.ref 111]) (st3 := [.float 114, .ref 111]) rfl rfl rfl rfl rfl (p226_2) rfl ?_
                rcases Bool.eq_false_or_eq_true (wdT n X q (114 : UInt32)) with c237 | c237
                · refine sx_RP.callp (as2 := [.ref 111, .float 114]) (rest2 := []) rfl rfl (sx_inv_v2 (mi := 211) (k := 239) (st := [.float 114, .ref 111]) (w := w231) rfl rfl hI232.1.o111 rfl rfl rfl) rfl rfl rfl (y214t (k := (114 : UInt32)) (m := 3) hI232 hM234 hpl ep228 (by decide) rfl (by decide) (by decide) hP233 c237) (show _ = 46 from rfl) ?_
                  rintro r4 w241 ⟨⟨rfl, ep238⟩, hI242, hO239⟩
                  show sx_RP _ _ _ _ _ [.int 1] _ _
                  have ef240 := (hO239.2 13 (by decide)).trans ef230
                  have hP243 : rE blk n X q = q := by rw [← hP233]; exact rE_rE
                  have hM244 := hM234.hs (hO239.hs)
                  have hO245 := hO235.tr (HS.om (hO239.hs))
                  have hB246 : rowB (ia w241 112) = b := by rw [HS.row (hO239.hs)]; exact hB236
                  refine sx_RP.step (pc2 := 49) (ls2 := [(1, .int 2), (0, .ref 111)]) (st2 := []) (w3 := w241) rfl rfl ?_
                  refine sx_RP.step (pc2 := 50) (ls2 := [(1, .int 2), (0, .ref 111)]) (st2 := [.ref 111]) (w3 := w241) rfl rfl ?_
                  refine sx_RP.gf (v := .ref 112) rfl rfl hI242.1.o111 rfl rfl (show _ = 53 from rfl) ?_
                  refine sx_RP.step (pc2 := 54) (ls2 := [(1, .int 2), (0, .ref 111)]) (st2 := [.int 1, .ref 112]) (w3 := w241) rfl rfl ?_
                  have ex247 : (ia w241 112).getD 1 0 = nI u := row_len hI242 hB246 hu (by omega)
                  refine sx_RP.ild (c := 1) rfl hI242.1.a112.1 hI242.1.a112.2 (sx_in_nI (show 1 < 172 by omega) (by decide)) (nI_clamp (by decide)) (show _ = 55 from rfl) ?_
                  rw [ex247]
                  refine sx_RP.step (pc2 := 57) (ls2 := [(1, .int 2), (0, .ref 111)]) (st2 := [.int 10, .int (nI u)]) (w3 := w241) rfl rfl ?_
                  refine sx_RP.br (p1 := 65) (l1 := [(1, .int 2), (0, .ref 111)]) (s1 := []) (v1 := w241) (p2 := 60) (l2 := [(1, .int 2), (0, .ref 111)]) (s2 := []) (v2 := w241) rfl rfl (fun q248 => ?_) (fun q248 => ?_)
                  · replace q248 := of_decide_eq_true q248
                    replace q248 := mt (nI_eq (a := u) (b := 10) (by omega) (by omega)).mpr q248
                    refine sx_RP.step (pc2 := 66) (ls2 := [(1, .int 2), (0, .ref 111)]) (st2 := [.ref 111]) (w3 := w241) rfl rfl ?_
                    refine sx_RP.step (pc2 := 67) (ls2 := [(1, .int 2), (0, .ref 111)]) (st2 := [.int 2, .ref 111]) (w3 := w241) rfl rfl ?_
                    refine sx_RP.cu (as := [.int 2]) (rest2 := [.ref 111]) (st3 := [.float 114, .ref 111]) rfl rfl rfl rfl rfl (p226_2) rfl ?_
                    refine sx_RP.callp (as2 := [.ref 111, .float 114]) (rest2 := []) rfl rfl (sx_inv_v2 (mi := 211) (k := 243) (st := [.float 114, .ref 111]) (w := w241) rfl rfl hI242.1.o111 rfl rfl rfl) rfl rfl rfl (y213t (k := (114 : UInt32)) (m := 3) hI242 hM244 hpl ep238 ef240 (by decide) rfl (by decide) (by decide) hP243 c237) (show _ = 73 from rfl) ?_
                    rintro r4 w253 ⟨⟨rfl, ep250⟩, hI254, hO251⟩
                    show sx_RP _ _ _ _ _ [.int 1] _ _
                    have ef252 := (hO251.2 13 (by decide)).trans ef240
                    have hp255 : beT n X q ≤ n := beT_le hpl
                    have hp256 : nP n X q ≤ n := rE_le hp255
                    have hP257 : rE blk n X (beT n X q) = nP n X q := rfl
                    have hM258 := hM244.hs (hO251.hs)
                    have hO259 := hO245.tr (HS.om (hO251.hs))
                    have hB260 : rowB (ia w253 112) = b := by rw [HS.row (hO251.hs)]; exact hB246
                    refine sx_RP.step (pc2 := 76) (ls2 := [(1, .int 2), (0, .ref 111)]) (st2 := []) (w3 := w253) rfl rfl ?_
                    refine sx_RP.step (pc2 := 77) (ls2 := [(1, .int 2), (0, .ref 111)]) (st2 := [.ref 111]) (w3 := w253) rfl rfl ?_
                    refine sx_RP.step (pc2 := 78) (ls2 := [(1, .int 2), (0, .ref 111)]) (st2 := [.int 2, .ref 111]) (w3 := w253) rfl rfl ?_
                    refine sx_RP.callp (as2 := [.ref 111, .int 2]) (rest2 := []) rfl rfl (sx_inv_v2 (mi := 211) (k := 323) (st := [.int 2, .ref 111]) (w := w253) rfl rfl hI254.1.o111 rfl rfl rfl) rfl rfl rfl (y227 (k := 2) hI254 hM258 hp255 ep250 ef252 hP257 hB260 (by decide) hu (by omega)) (show _ = 81 from rfl) ?_
                    rintro r4 w263 ⟨⟨rfl, hr261⟩, hI264, hO262⟩
                    show sx_RP _ _ _ _ _ [.int (b01 (galS n X 2 (nP n X q) b).1)] _ _
                    have hO265 := hO259.tr hO262
                    refine sx_RP.ret (r := (some (.int (b01 (galS n X 2 (nP n X q) b).1)))) rfl (bo_ret rfl (b01_in _)) ?_
                    have eg : gwT n X q = -1 := by simp only [gwT, c1, c27, c53, c79, c105, c131, c184, c237, if_true, if_false, Bool.false_eq_true, ite_true, ite_false, true_or, or_true, or_false, false_or]
                    have ek : kwT n X q = 2 := by simp only [kwT, c1, c27, c53, c79, c105, c131, c184, c237, if_true, if_false, Bool.false_eq_true, ite_true, ite_false, true_or, or_true, or_false, false_or]
                    have eR : itT n X q b = galS n X 2 (nP n X q) b := by unfold itT; rw [eg, if_pos rfl, ek, if_neg (by decide)]; exact galT_S (by omega)
                    rw [eR]
                    exact ⟨⟨rfl, hr261⟩, hI264, hO265⟩
                  · replace q248 := Decidable.not_not.mp (of_decide_eq_false q248)
                    replace q248 := (nI_eq (a := u) (b := 10) (by omega) (by omega)).mp q248
                    refine sx_RP.step (pc2 := 61) (ls2 := [(1, .int 2), (0, .ref 111)]) (st2 := [.ref 111]) (w3 := w241) rfl rfl ?_
                    refine sx_RP.callp (as2 := [.ref 111]) (rest2 := []) rfl rfl (sx_inv_v2 (mi := 211) (k := 245) (st := [.ref 111]) (w := w241) rfl rfl hI242.1.o111 rfl rfl rfl) rfl rfl rfl (y222 (p := q) hI242 ef240 ep238) (show _ = 64 from rfl) ?_
                    rintro r4 w268 ⟨⟨rfl, hv266⟩, hI269, hO267⟩
                    show sx_RP _ _ _ _ _ [.int 0] _ _
                    have hO270 := hO245.tr (HS.om hO267.hs)
                    refine sx_RP.ret (r := (some (.int 0))) rfl rfl ?_
                    have eg : gwT n X q = -1 := by simp only [gwT, c1, c27, c53, c79, c105, c131, c184, c237, if_true, if_false, Bool.false_eq_true, ite_true, ite_false, true_or, or_true, or_false, false_or]
                    have ek : kwT n X q = 2 := by simp only [kwT, c1, c27, c53, c79, c105, c131, c184, c237, if_true, if_false, Bool.false_eq_true, ite_true, ite_false, true_or, or_true, or_false, false_or]
                    have eR : itT n X q b = (false, q, b) := by unfold itT; rw [eg, if_pos rfl, ek, if_neg (by decide)]; unfold galT; rw [if_neg (by omega)]
                    rw [eR]
                    exact ⟨⟨rfl, RdM.f hv266⟩, hI269, hO270⟩
                · refine sx_RP.callp (as2 := [.ref 111, .float 114]) (rest2 := []) rfl rfl (sx_inv_v2 (mi := 211) (k := 239) (st := [.float 114, .ref 111]) (w := w231) rfl rfl hI232.1.o111 rfl rfl rfl) rfl rfl rfl (y214f (k := (114 : UInt32)) (m := 3) hI232 hM234 hpl ep228 (by decide) rfl (by decide) (by decide) hP233 c237) (show _ = 46 from rfl) ?_
                  rintro r4 w274 ⟨⟨rfl, ep271⟩, hI275, hO272⟩
                  show sx_RP _ _ _ _ _ [.int 0] _ _
                  have ef273 := (hO272.2 13 (by decide)).trans ef230
                  have hP276 : rE blk n X q = q := by rw [← hP233]; exact rE_rE
                  have hM277 := hM234.hs (hO272.hs)
                  have hO278 := hO235.tr (HS.om (hO272.hs))
                  have hB279 : rowB (ia w274 112) = b := by rw [HS.row (hO272.hs)]; exact hB236
                  refine sx_RP.step (pc2 := 65) (ls2 := [(1, .int 2), (0, .ref 111)]) (st2 := []) (w3 := w274) rfl rfl ?_
                  refine sx_RP.step (pc2 := 66) (ls2 := [(1, .int 2), (0, .ref 111)]) (st2 := [.ref 111]) (w3 := w274) rfl rfl ?_
                  refine sx_RP.step (pc2 := 67) (ls2 := [(1, .int 2), (0, .ref 111)]) (st2 := [.int 2, .ref 111]) (w3 := w274) rfl rfl ?_
                  refine sx_RP.cu (as := [.int 2]) (rest2 := [.ref 111]) (st3 := [.float 114, .ref 111]) rfl rfl rfl rfl rfl (p226_2) rfl ?_
                  refine sx_RP.callp (as2 := [.ref 111, .float 114]) (rest2 := []) rfl rfl (sx_inv_v2 (mi := 211) (k := 243) (st := [.float 114, .ref 111]) (w := w274) rfl rfl hI275.1.o111 rfl rfl rfl) rfl rfl rfl (y213f (k := (114 : UInt32)) (m := 3) hI275 hM277 hpl ep271 ef273 (by decide) rfl (by decide) (by decide) hP276 c237) (show _ = 73 from rfl) ?_
                  rintro r4 w284 ⟨⟨rfl, ep281⟩, hI285, hO282⟩
                  show sx_RP _ _ _ _ _ [.int 0] _ _
                  have ef283 := (hO282.2 13 (by decide)).trans ef273
                  have hP286 : rE blk n X q = q := by rw [← hP276]; exact rE_rE
                  have hM287 := hM277.hs (hO282.hs)
                  have hO288 := hO278.tr (HS.om (hO282.hs))
                  have hB289 : rowB (ia w284 112) = b := by rw [HS.row (hO282.hs)]; exact hB279
                  refine sx_RP.step (pc2 := 82) (ls2 := [(1, .int 2), (0, .ref 111)]) (st2 := []) (w3 := w284) rfl rfl ?_
                  refine sx_RP.step (pc2 := 85) (ls2 := [(1, .int 3), (0, .ref 111)]) (st2 := []) (w3 := w284) rfl rfl ?_
                  refine sx_RP.step (pc2 := 32) (ls2 := [(1, .int 3), (0, .ref 111)]) (st2 := []) (w3 := w284) rfl rfl ?_
                  refine sx_RP.step (pc2 := 33) (ls2 := [(1, .int 3), (0, .ref 111)]) (st2 := [.int 3]) (w3 := w284) rfl rfl ?_
                  refine sx_RP.step (pc2 := 35) (ls2 := [(1, .int 3), (0, .ref 111)]) (st2 := [.int 6, .int 3]) (w3 := w284) rfl rfl ?_
                  refine sx_RP.step (pc2 := 38) (ls2 := [(1, .int 3), (0, .ref 111)]) (st2 := []) (w3 := w284) rfl rfl ?_
                  refine sx_RP.step (pc2 := 39) (ls2 := [(1, .int 3), (0, .ref 111)]) (st2 := [.ref 111]) (w3 := w284) rfl rfl ?_
                  refine sx_RP.step (pc2 := 40) (ls2 := [(1, .int 3), (0, .ref 111)]) (st2 := [.int 3, .ref 111]) (w3 := w284) rfl rfl ?_
                  refine sx_RP.cu (as := [.int 3]) (rest2 := [.ref 111]) (st3 := [.float 107, .ref 111]) rfl rfl rfl rfl rfl (p226_3) rfl ?_
                  rcases Bool.eq_false_or_eq_true (wdT n X q (107 : UInt32)) with c290 | c290
                  · refine sx_RP.callp (as2 := [.ref 111, .float 107]) (rest2 := []) rfl rfl (sx_inv_v2 (mi := 211) (k := 239) (st := [.float 107, .ref 111]) (w := w284) rfl rfl hI285.1.o111 rfl rfl rfl) rfl rfl rfl (y214t (k := (107 : UInt32)) (m := 4) hI285 hM287 hpl ep281 (by decide) rfl (by decide) (by decide) hP286 c290) (show _ = 46 from rfl) ?_
                    rintro r4 w294 ⟨⟨rfl, ep291⟩, hI295, hO292⟩
                    show sx_RP _ _ _ _ _ [.int 1] _ _
                    have ef293 := (hO292.2 13 (by decide)).trans ef283
                    have hP296 : rE blk n X q = q := by rw [← hP286]; exact rE_rE
                    have hM297 := hM287.hs (hO292.hs)
                    have hO298 := hO288.tr (HS.om (hO292.hs))
                    have hB299 : rowB (ia w294 112) = b := by rw [HS.row (hO292.hs)]; exact hB289
                    refine sx_RP.step (pc2 := 49) (ls2 := [(1, .int 3), (0, .ref 111)]) (st2 := []) (w3 := w294) rfl rfl ?_
                    refine sx_RP.step (pc2 := 50) (ls2 := [(1, .int 3), (0, .ref 111)]) (st2 := [.ref 111]) (w3 := w294) rfl rfl ?_
                    refine sx_RP.gf (v := .ref 112) rfl rfl hI295.1.o111 rfl rfl (show _ = 53 from rfl) ?_
                    refine sx_RP.step (pc2 := 54) (ls2 := [(1, .int 3), (0, .ref 111)]) (st2 := [.int 1, .ref 112]) (w3 := w294) rfl rfl ?_
                    have ex300 : (ia w294 112).getD 1 0 = nI u := row_len hI295 hB299 hu (by omega)
                    refine sx_RP.ild (c := 1) rfl hI295.1.a112.1 hI295.1.a112.2 (sx_in_nI (show 1 < 172 by omega) (by decide)) (nI_clamp (by decide)) (show _ = 55 from rfl) ?_
                    rw [ex300]
                    refine sx_RP.step (pc2 := 57) (ls2 := [(1, .int 3), (0, .ref 111)]) (st2 := [.int 10, .int (nI u)]) (w3 := w294) rfl rfl ?_
                    refine sx_RP.br (p1 := 65) (l1 := [(1, .int 3), (0, .ref 111)]) (s1 := []) (v1 := w294) (p2 := 60) (l2 := [(1, .int 3), (0, .ref 111)]) (s2 := []) (v2 := w294) rfl rfl (fun q301 => ?_) (fun q301 => ?_)
                    · replace q301 := of_decide_eq_true q301
                      replace q301 := mt (nI_eq (a := u) (b := 10) (by omega) (by omega)).mpr q301
                      refine sx_RP.step (pc2 := 66) (ls2 := [(1, .int 3), (0, .ref 111)]) (st2 := [.ref 111]) (w3 := w294) rfl rfl ?_
                      refine sx_RP.step (pc2 := 67) (ls2 := [(1, .int 3), (0, .ref 111)]) (st2 := [.int 3, .ref 111]) (w3 := w294) rfl rfl ?_
                      refine sx_RP.cu (as := [.int 3]) (rest2 := [.ref 111]) (st3 := [.float 107, .ref 111]) rfl rfl rfl rfl rfl (p226_3) rfl ?_
                      refine sx_RP.callp (as2 := [.ref 111, .float 107]) (rest2 := []) rfl rfl (sx_inv_v2 (mi := 211) (k := 243) (st := [.float 107, .ref 111]) (w := w294) rfl rfl hI295.1.o111 rfl rfl rfl) rfl rfl rfl (y213t (k := (107 : UInt32)) (m := 4) hI295 hM297 hpl ep291 ef293 (by decide) rfl (by decide) (by decide) hP296 c290) (show _ = 73 from rfl) ?_
                      rintro r4 w306 ⟨⟨rfl, ep303⟩, hI307, hO304⟩
                      show sx_RP _ _ _ _ _ [.int 1] _ _
                      have ef305 := (hO304.2 13 (by decide)).trans ef293
                      have hp308 : beT n X q ≤ n := beT_le hpl
                      have hp309 : nP n X q ≤ n := rE_le hp308
                      have hP310 : rE blk n X (beT n X q) = nP n X q := rfl
                      have hM311 := hM297.hs (hO304.hs)
                      have hO312 := hO298.tr (HS.om (hO304.hs))
                      have hB313 : rowB (ia w306 112) = b := by rw [HS.row (hO304.hs)]; exact hB299
                      refine sx_RP.step (pc2 := 76) (ls2 := [(1, .int 3), (0, .ref 111)]) (st2 := []) (w3 := w306) rfl rfl ?_
                      refine sx_RP.step (pc2 := 77) (ls2 := [(1, .int 3), (0, .ref 111)]) (st2 := [.ref 111]) (w3 := w306) rfl rfl ?_
                      refine sx_RP.step (pc2 := 78) (ls2 := [(1, .int 3), (0, .ref 111)]) (st2 := [.int 3, .ref 111]) (w3 := w306) rfl rfl ?_
                      refine sx_RP.callp (as2 := [.ref 111, .int 3]) (rest2 := []) rfl rfl (sx_inv_v2 (mi := 211) (k := 323) (st := [.int 3, .ref 111]) (w := w306) rfl rfl hI307.1.o111 rfl rfl rfl) rfl rfl rfl (y227 (k := 3) hI307 hM311 hp308 ep303 ef305 hP310 hB313 (by decide) hu (by omega)) (show _ = 81 from rfl) ?_
                      rintro r4 w316 ⟨⟨rfl, hr314⟩, hI317, hO315⟩
                      show sx_RP _ _ _ _ _ [.int (b01 (galS n X 3 (nP n X q) b).1)] _ _
                      have hO318 := hO312.tr hO315
                      refine sx_RP.ret (r := (some (.int (b01 (galS n X 3 (nP n X q) b).1)))) rfl (bo_ret rfl (b01_in _)) ?_
                      have eg : gwT n X q = -1 := by simp only [gwT, c1, c27, c53, c79, c105, c131, c184, c237, c290, if_true, if_false, Bool.false_eq_true, ite_true, ite_false, true_or, or_true, or_false, false_or]
                      have ek : kwT n X q = 3 := by simp only [kwT, c1, c27, c53, c79, c105, c131, c184, c237, c290, if_true, if_false, Bool.false_eq_true, ite_true, ite_false, true_or, or_true, or_false, false_or]
                      have eR : itT n X q b = galS n X 3 (nP n X q) b := by unfold itT; rw [eg, if_pos rfl, ek, if_neg (by decide)]; exact galT_S (by omega)
                      rw [eR]
                      exact ⟨⟨rfl, hr314⟩, hI317, hO318⟩
                    · replace q301 := Decidable.not_not.mp (of_decide_eq_false q301)
                      replace q301 := (nI_eq (a := u) (b := 10) (by omega) (by omega)).mp q301
                      refine sx_RP.step (pc2 := 61) (ls2 := [(1, .int 3), (0, .ref 111)]) (st2 := [.ref 111]) (w3 := w294) rfl rfl ?_
                      refine sx_RP.callp (as2 := [.ref 111]) (rest2 := []) rfl rfl (sx_inv_v2 (mi := 211) (k := 245) (st := [.ref 111]) (w := w294) rfl rfl hI295.1.o111 rfl rfl rfl) rfl rfl rfl (y222 (p := q) hI295 ef293 ep291) (show _ = 64 from rfl) ?_
                      rintro r4 w321 ⟨⟨rfl, hv319⟩, hI322, hO320⟩
                      show sx_RP _ _ _ _ _ [.int 0] _ _
                      have hO323 := hO298.tr (HS.om hO320.hs)
                      refine sx_RP.ret (r := (some (.int 0))) rfl rfl ?_
                      have eg : gwT n X q = -1 := by simp only [gwT, c1, c27, c53, c79, c105, c131, c184, c237, c290, if_true, if_false, Bool.false_eq_true, ite_true, ite_false, true_or, or_true, or_false, false_or]
                      have ek : kwT n X q = 3 := by simp only [kwT, c1, c27, c53, c79, c105, c131, c184, c237, c290, if_true, if_false, Bool.false_eq_true, ite_true, ite_false, true_or, or_true, or_false, false_or]
                      have eR : itT n X q b = (false, q, b) := by unfold itT; rw [eg, if_pos rfl, ek, if_neg (by decide)]; unfold galT; rw [if_neg (by omega)]
                      rw [eR]
                      exact ⟨⟨rfl, RdM.f hv319⟩, hI322, hO323⟩
                  · refine sx_RP.callp (as2 := [.ref 111, .float 107]) (rest2 := []) rfl rfl (sx_inv_v2 (mi := 211) (k := 239) (st := [.float 107, .ref 111]) (w := w284) rfl rfl hI285.1.o111 rfl rfl rfl) rfl rfl rfl (y214f (k := (107 : UInt32)) (m := 4) hI285 hM287 hpl ep281 (by decide) rfl (by decide) (by decide) hP286 c290) (show _ = 46 from rfl) ?_
                    rintro r4 w327 ⟨⟨rfl, ep324⟩, hI328, hO325⟩
                    show sx_RP _ _ _ _ _ [.int 0] _ _
                    have ef326 := (hO325.2 13 (by decide)).trans ef283
                    have hP329 : rE blk n X q = q := by rw [← hP286]; exact rE_rE
                    have hM330 := hM287.hs (hO325.hs)
                    have hO331 := hO288.tr (HS.om (hO325.hs))
                    have hB332 : rowB (ia w327 112) = b := by rw [HS.row (hO325.hs)]; exact hB289
                    refine sx_RP.step (pc2 := 65) (ls2 := [(1, .int 3), (0, .ref 111)]) (st2 := []) (w3 := w327) rfl rfl ?_
                    refine sx_RP.step (pc2 := 66) (ls2 := [(1, .int 3), (0, .ref 111)]) (st2 := [.ref 111]) (w3 := w327) rfl rfl ?_
                    refine sx_RP.step (pc2 := 67) (ls2 := [(1, .int 3), (0, .ref 111)]) (st2 := [.int 3, .ref 111]) (w3 := w327) rfl rfl ?_
                    refine sx_RP.cu (as := [.int 3]) (rest2 := [.ref 111]) (st3 := [.float 107, .ref 111]) rfl rfl rfl rfl rfl (p226_3) rfl ?_
                    refine sx_RP.callp (as2 := [.ref 111, .float 107]) (rest2 := []) rfl rfl (sx_inv_v2 (mi := 211) (k := 243) (st := [.float 107, .ref 111]) (w := w327) rfl rfl hI328.1.o111 rfl rfl rfl) rfl rfl rfl (y213f (k := (107 : UInt32)) (m := 4) hI328 hM330 hpl ep324 ef326 (by decide) rfl (by decide) (by decide) hP329 c290) (show _ = 73 from rfl) ?_
                    rintro r4 w337 ⟨⟨rfl, ep334⟩, hI338, hO335⟩
                    show sx_RP _ _ _ _ _ [.int 0] _ _
                    have ef336 := (hO335.2 13 (by decide)).trans ef326
                    have hP339 : rE blk n X q = q := by rw [← hP329]; exact rE_rE
                    have hM340 := hM330.hs (hO335.hs)
                    have hO341 := hO331.tr (HS.om (hO335.hs))
                    have hB342 : rowB (ia w337 112) = b := by rw [HS.row (hO335.hs)]; exact hB332
                    refine sx_RP.step (pc2 := 82) (ls2 := [(1, .int 3), (0, .ref 111)]) (st2 := []) (w3 := w337) rfl rfl ?_
                    refine sx_RP.step (pc2 := 85) (ls2 := [(1, .int 4), (0, .ref 111)]) (st2 := []) (w3 := w337) rfl rfl ?_
                    refine sx_RP.step (pc2 := 32) (ls2 := [(1, .int 4), (0, .ref 111)]) (st2 := []) (w3 := w337) rfl rfl ?_
                    refine sx_RP.step (pc2 := 33) (ls2 := [(1, .int 4), (0, .ref 111)]) (st2 := [.int 4]) (w3 := w337) rfl rfl ?_
                    refine sx_RP.step (pc2 := 35) (ls2 := [(1, .int 4), (0, .ref 111)]) (st2 := [.int 6, .int 4]) (w3 := w337) rfl rfl ?_
                    refine sx_RP.step (pc2 := 38) (ls2 := [(1, .int 4), (0, .ref 111)]) (st2 := []) (w3 := w337) rfl rfl ?_
                    refine sx_RP.step (pc2 := 39) (ls2 := [(1, .int 4), (0, .ref 111)]) (st2 := [.ref 111]) (w3 := w337) rfl rfl ?_
                    refine sx_RP.step (pc2 := 40) (ls2 := [(1, .int 4), (0, .ref 111)]) (st2 := [.int 4, .ref 111]) (w3 := w337) rfl rfl ?_
                    refine sx_RP.cu (as := [.int 4]) (rest2 := [.ref 111]) (st3 := [.float 105, .ref 111]) rfl rfl rfl rfl rfl (p226_4) rfl ?_
                    rcases Bool.eq_false_or_eq_true (wdT n X q (105 : UInt32)) with c343 | c343
                    · refine sx_RP.callp (as2 := [.ref 111, .float 105]) (rest2 := []) rfl rfl (sx_inv_v2 (mi := 211) (k := 239) (st := [.float 105, .ref 111]) (w := w337) rfl rfl hI338.1.o111 rfl rfl rfl) rfl rfl rfl (y214t (k := (105 : UInt32)) (m := 5) hI338 hM340 hpl ep334 (by decide) rfl (by decide) (by decide) hP339 c343) (show _ = 46 from rfl) ?_
                      rintro r4 w347 ⟨⟨rfl, ep344⟩, hI348, hO345⟩
                      show sx_RP _ _ _ _ _ [.int 1] _ _
                      have ef346 := (hO345.2 13 (by decide)).trans ef336
                      have hP349 : rE blk n X q = q := by rw [← hP339]; exact rE_rE
                      have hM350 := hM340.hs (hO345.hs)
                      have hO351 := hO341.tr (HS.om (hO345.hs))
                      have hB352 : rowB (ia w347 112) = b := by rw [HS.row (hO345.hs)]; exact hB342
                      refine sx_RP.step (pc2 := 49) (ls2 := [(1, .int 4), (0, .ref 111)]) (st2 := []) (w3 := w347) rfl rfl ?_
                      refine sx_RP.step (pc2 := 50) (ls2 := [(1, .int 4), (0, .ref 111)]) (st2 := [.ref 111]) (w3 := w347) rfl rfl ?_
                      refine sx_RP.gf (v := .ref 112) rfl rfl hI348.1.o111 rfl rfl (show _ = 53 from rfl) ?_
                      refine sx_RP.step (pc2 := 54) (ls2 := [(1, .int 4), (0, .ref 111)]) (st2 := [.int 1, .ref 112]) (w3 := w347) rfl rfl ?_
                      have ex353 : (ia w347 112).getD 1 0 = nI u := row_len hI348 hB352 hu (by omega)
                      refine sx_RP.ild (c := 1) rfl hI348.1.a112.1 hI348.1.a112.2 (sx_in_nI (show 1 < 172 by omega) (by decide)) (nI_clamp (by decide)) (show _ = 55 from rfl) ?_
                      rw [ex353]
                      refine sx_RP.step (pc2 := 57) (ls2 := [(1, .int 4), (0, .ref 111)]) (st2 := [.int 10, .int (nI u)]) (w3 := w347) rfl rfl ?_
                      refine sx_RP.br (p1 := 65) (l1 := [(1, .int 4), (0, .ref 111)]) (s1 := []) (v1 := w347) (p2 := 60) (l2 := [(1, .int 4), (0, .ref 111)]) (s2 := []) (v2 := w347) rfl rfl (fun q354 => ?_) (fun q354 => ?_)
                      · replace q354 := of_decide_eq_true q354
                        replace q354 := mt (nI_eq (a := u) (b := 10) (by omega) (by omega)).mpr q354
                        refine sx_RP.step (pc2 := 66) (ls2 := [(1, .int 4), (0, .ref 111)]) (st2 := [.ref 111]) (w3 := w347) rfl rfl ?_
                        refine sx_RP.step (pc2 := 67) (ls2 := [(1, .int 4), (0, .ref 111)]) (st2 := [.int 4, .ref 111]) (w3 := w347) rfl rfl ?_
                        refine sx_RP.cu (as := [.int 4]) (rest2 := [.ref 111]) (st3 := [.float 105, .ref 111]) rfl rfl rfl rfl rfl (p226_4) rfl ?_
                        refine sx_RP.callp (as2 := [.ref 111, .float 105]) (rest2 := []) rfl rfl (sx_inv_v2 (mi := 211) (k := 243) (st := [.float 105, .ref 111]) (w := w347) rfl rfl hI348.1.o111 rfl rfl rfl) rfl rfl rfl (y213t (k := (105 : UInt32)) (m := 5) hI348 hM350 hpl ep344 ef346 (by decide) rfl (by decide) (by decide) hP349 c343) (show _ = 73 from rfl) ?_
                        rintro r4 w359 ⟨⟨rfl, ep356⟩, hI360, hO357⟩
                        show sx_RP _ _ _ _ _ [.int 1] _ _
                        have ef358 := (hO357.2 13 (by decide)).trans ef346
                        have hp361 : beT n X q ≤ n := beT_le hpl
                        have hp362 : nP n X q ≤ n := rE_le hp361
                        have hP363 : rE blk n X (beT n X q) = nP n X q := rfl
                        have hM364 := hM350.hs (hO357.hs)
                        have hO365 := hO351.tr (HS.om (hO357.hs))
                        have hB366 : rowB (ia w359 112) = b := by rw [HS.row (hO357.hs)]; exact hB352
                        refine sx_RP.step (pc2 := 76) (ls2 := [(1, .int 4), (0, .ref 111)]) (st2 := []) (w3 := w359) rfl rfl ?_
                        refine sx_RP.step (pc2 := 77) (ls2 := [(1, .int 4), (0, .ref 111)]) (st2 := [.ref 111]) (w3 := w359) rfl rfl ?_
                        refine sx_RP.step (pc2 := 78) (ls2 := [(1, .int 4), (0, .ref 111)]) (st2 := [.int 4, .ref 111]) (w3 := w359) rfl rfl ?_
                        refine sx_RP.callp (as2 := [.ref 111, .int 4]) (rest2 := []) rfl rfl (sx_inv_v2 (mi := 211) (k := 323) (st := [.int 4, .ref 111]) (w := w359) rfl rfl hI360.1.o111 rfl rfl rfl) rfl rfl rfl (y227 (k := 4) hI360 hM364 hp361 ep356 ef358 hP363 hB366 (by decide) hu (by omega)) (show _ = 81 from rfl) ?_
                        rintro r4 w369 ⟨⟨rfl, hr367⟩, hI370, hO368⟩
                        show sx_RP _ _ _ _ _ [.int (b01 (galS n X 4 (nP n X q) b).1)] _ _
                        have hO371 := hO365.tr hO368
                        refine sx_RP.ret (r := (some (.int (b01 (galS n X 4 (nP n X q) b).1)))) rfl (bo_ret rfl (b01_in _)) ?_
                        have eg : gwT n X q = -1 := by simp only [gwT, c1, c27, c53, c79, c105, c131, c184, c237, c290, c343, if_true, if_false, Bool.false_eq_true, ite_true, ite_false, true_or, or_true, or_false, false_or]
                        have ek : kwT n X q = 4 := by simp only [kwT, c1, c27, c53, c79, c105, c131, c184, c237, c290, c343, if_true, if_false, Bool.false_eq_true, ite_true, ite_false, true_or, or_true, or_false, false_or]
                        have eR : itT n X q b = galS n X 4 (nP n X q) b := by unfold itT; rw [eg, if_pos rfl, ek, if_neg (by decide)]; exact galT_S (by omega)
                        rw [eR]
                        exact ⟨⟨rfl, hr367⟩, hI370, hO371⟩
                      · replace q354 := Decidable.not_not.mp (of_decide_eq_false q354)
                        replace q354 := (nI_eq (a := u) (b := 10) (by omega) (by omega)).mp q354
                        refine sx_RP.step (pc2 := 61) (ls2 := [(1, .int 4), (0, .ref 111)]) (st2 := [.ref 111]) (w3 := w347) rfl rfl ?_
                        refine sx_RP.callp (as2 := [.ref 111]) (rest2 := []) rfl rfl (sx_inv_v2 (mi := 211) (k := 245) (st := [.ref 111]) (w := w347) rfl rfl hI348.1.o111 rfl rfl rfl) rfl rfl rfl (y222 (p := q) hI348 ef346 ep344) (show _ = 64 from rfl) ?_
                        rintro r4 w374 ⟨⟨rfl, hv372⟩, hI375, hO373⟩
                        show sx_RP _ _ _ _ _ [.int 0] _ _
                        have hO376 := hO351.tr (HS.om hO373.hs)
                        refine sx_RP.ret (r := (some (.int 0))) rfl rfl ?_
                        have eg : gwT n X q = -1 := by simp only [gwT, c1, c27, c53, c79, c105, c131, c184, c237, c290, c343, if_true, if_false, Bool.false_eq_true, ite_true, ite_false, true_or, or_true, or_false, false_or]
                        have ek : kwT n X q = 4 := by simp only [kwT, c1, c27, c53, c79, c105, c131, c184, c237, c290, c343, if_true, if_false, Bool.false_eq_true, ite_true, ite_false, true_or, or_true, or_false, false_or]
                        have eR : itT n X q b = (false, q, b) := by unfold itT; rw [eg, if_pos rfl, ek, if_neg (by decide)]; unfold galT; rw [if_neg (by omega)]
                        rw [eR]
                        exact ⟨⟨rfl, RdM.f hv372⟩, hI375, hO376⟩
                    · refine sx_RP.callp (as2 := [.ref 111, .float 105]) (rest2 := []) rfl rfl (sx_inv_v2 (mi := 211) (k := 239) (st := [.float 105, .ref 111]) (w := w337) rfl rfl hI338.1.o111 rfl rfl rfl) rfl rfl rfl (y214f (k := (105 : UInt32)) (m := 5) hI338 hM340 hpl ep334 (by decide) rfl (by decide) (by decide) hP339 c343) (show _ = 46 from rfl) ?_
                      rintro r4 w380 ⟨⟨rfl, ep377⟩, hI381, hO378⟩
                      show sx_RP _ _ _ _ _ [.int 0] _ _
                      have ef379 := (hO378.2 13 (by decide)).trans ef336
                      have hP382 : rE blk n X q = q := by rw [← hP339]; exact rE_rE
                      have hM383 := hM340.hs (hO378.hs)
                      have hO384 := hO341.tr (HS.om (hO378.hs))
                      have hB385 : rowB (ia w380 112) = b := by rw [HS.row (hO378.hs)]; exact hB342
                      refine sx_RP.step (pc2 := 65) (ls2 := [(1, .int 4), (0, .ref 111)]) (st2 := []) (w3 := w380) rfl rfl ?_
                      refine sx_RP.step (pc2 := 66) (ls2 := [(1, .int 4), (0, .ref 111)]) (st2 := [.ref 111]) (w3 := w380) rfl rfl ?_
                      refine sx_RP.step (pc2 := 67) (ls2 := [(1, .int 4), (0, .ref 111)]) (st2 := [.int 4, .ref 111]) (w3 := w380) rfl rfl ?_
                      refine sx_RP.cu (as := [.int 4]) (rest2 := [.ref 111]) (st3 := [.float 105, .ref 111]) rfl rfl rfl rfl rfl (p226_4) rfl ?_
                      refine sx_RP.callp (as2 := [.ref 111, .float 105]) (rest2 := []) rfl rfl (sx_inv_v2 (mi := 211) (k := 243) (st := [.float 105, .ref 111]) (w := w380) rfl rfl hI381.1.o111 rfl rfl rfl) rfl rfl rfl (y213f (k := (105 : UInt32)) (m := 5) hI381 hM383 hpl ep377 ef379 (by decide) rfl (by decide) (by decide) hP382 c343) (show _ = 73 from rfl) ?_
                      rintro r4 w390 ⟨⟨rfl, ep387⟩, hI391, hO388⟩
                      show sx_RP _ _ _ _ _ [.int 0] _ _
                      have ef389 := (hO388.2 13 (by decide)).trans ef379
                      have hP392 : rE blk n X q = q := by rw [← hP382]; exact rE_rE
                      have hM393 := hM383.hs (hO388.hs)
                      have hO394 := hO384.tr (HS.om (hO388.hs))
                      have hB395 : rowB (ia w390 112) = b := by rw [HS.row (hO388.hs)]; exact hB385
                      refine sx_RP.step (pc2 := 82) (ls2 := [(1, .int 4), (0, .ref 111)]) (st2 := []) (w3 := w390) rfl rfl ?_
                      refine sx_RP.step (pc2 := 85) (ls2 := [(1, .int 5), (0, .ref 111)]) (st2 := []) (w3 := w390) rfl rfl ?_
                      refine sx_RP.step (pc2 := 32) (ls2 := [(1, .int 5), (0, .ref 111)]) (st2 := []) (w3 := w390) rfl rfl ?_
                      refine sx_RP.step (pc2 := 33) (ls2 := [(1, .int 5), (0, .ref 111)]) (st2 := [.int 5]) (w3 := w390) rfl rfl ?_
                      refine sx_RP.step (pc2 := 35) (ls2 := [(1, .int 5), (0, .ref 111)]) (st2 := [.int 6, .int 5]) (w3 := w390) rfl rfl ?_
                      refine sx_RP.step (pc2 := 38) (ls2 := [(1, .int 5), (0, .ref 111)]) (st2 := []) (w3 := w390) rfl rfl ?_
                      refine sx_RP.step (pc2 := 39) (ls2 := [(1, .int 5), (0, .ref 111)]) (st2 := [.ref 111]) (w3 := w390) rfl rfl ?_
                      refine sx_RP.step (pc2 := 40) (ls2 := [(1, .int 5), (0, .ref 111)]) (st2 := [.int 5, .ref 111]) (w3 := w390) rfl rfl ?_
                      refine sx_RP.cu (as := [.int 5]) (rest2 := [.ref 111]) (st3 := [.float 103, .ref 111]) rfl rfl rfl rfl rfl (p226_5) rfl ?_
                      rcases Bool.eq_false_or_eq_true (wdT n X q (103 : UInt32)) with c396 | c396
                      · refine sx_RP.callp (as2 := [.ref 111, .float 103]) (rest2 := []) rfl rfl (sx_inv_v2 (mi := 211) (k := 239) (st := [.float 103, .ref 111]) (w := w390) rfl rfl hI391.1.o111 rfl rfl rfl) rfl rfl rfl (y214t (k := (103 : UInt32)) (m := 4) hI391 hM393 hpl ep387 (by decide) rfl (by decide) (by decide) hP392 c396) (show _ = 46 from rfl) ?_
                        rintro r4 w400 ⟨⟨rfl, ep397⟩, hI401, hO398⟩
                        show sx_RP _ _ _ _ _ [.int 1] _ _
                        have ef399 := (hO398.2 13 (by decide)).trans ef389
                        have hP402 : rE blk n X q = q := by rw [← hP392]; exact rE_rE
                        have hM403 := hM393.hs (hO398.hs)
                        have hO404 := hO394.tr (HS.om (hO398.hs))
                        have hB405 : rowB (ia w400 112) = b := by rw [HS.row (hO398.hs)]; exact hB395
                        refine sx_RP.step (pc2 := 49) (ls2 := [(1, .int 5), (0, .ref 111)]) (st2 := []) (w3 := w400) rfl rfl ?_
                        refine sx_RP.step (pc2 := 50) (ls2 := [(1, .int 5), (0, .ref 111)]) (st2 := [.ref 111]) (w3 := w400) rfl rfl ?_
                        refine sx_RP.gf (v := .ref 112) rfl rfl hI401.1.o111 rfl rfl (show _ = 53 from rfl) ?_
                        refine sx_RP.step (pc2 := 54) (ls2 := [(1, .int 5), (0, .ref 111)]) (st2 := [.int 1, .ref 112]) (w3 := w400) rfl rfl ?_
                        have ex406 : (ia w400 112).getD 1 0 = nI u := row_len hI401 hB405 hu (by omega)
                        refine sx_RP.ild (c := 1) rfl hI401.1.a112.1 hI401.1.a112.2 (sx_in_nI (show 1 < 172 by omega) (by decide)) (nI_clamp (by decide)) (show _ = 55 from rfl) ?_
                        rw [ex406]
                        refine sx_RP.step (pc2 := 57) (ls2 := [(1, .int 5), (0, .ref 111)]) (st2 := [.int 10, .int (nI u)]) (w3 := w400) rfl rfl ?_
                        refine sx_RP.br (p1 := 65) (l1 := [(1, .int 5), (0, .ref 111)]) (s1 := []) (v1 := w400) (p2 := 60) (l2 := [(1, .int 5), (0, .ref 111)]) (s2 := []) (v2 := w400) rfl rfl (fun q407 => ?_) (fun q407 => ?_)
                        · replace q407 := of_decide_eq_true q407
                          replace q407 := mt (nI_eq (a := u) (b := 10) (by omega) (by omega)).mpr q407
                          refine sx_RP.step (pc2 := 66) (ls2 := [(1, .int 5), (0, .ref 111)]) (st2 := [.ref 111]) (w3 := w400) rfl rfl ?_
                          refine sx_RP.step (pc2 := 67) (ls2 := [(1, .int 5), (0, .ref 111)]) (st2 := [.int 5, .ref 111]) (w3 := w400) rfl rfl ?_
                          refine sx_RP.cu (as := [.int 5]) (rest2 := [.ref 111]) (st3 := [.float 103, .ref 111]) rfl rfl rfl rfl rfl (p226_5) rfl ?_
                          refine sx_RP.callp (as2 := [.ref 111, .float 103]) (rest2 := []) rfl rfl (sx_inv_v2 (mi := 211) (k := 243) (st := [.float 103, .ref 111]) (w := w400) rfl rfl hI401.1.o111 rfl rfl rfl) rfl rfl rfl (y213t (k := (103 : UInt32)) (m := 4) hI401 hM403 hpl ep397 ef399 (by decide) rfl (by decide) (by decide) hP402 c396) (show _ = 73 from rfl) ?_
                          rintro r4 w412 ⟨⟨rfl, ep409⟩, hI413, hO410⟩
                          show sx_RP _ _ _ _ _ [.int 1] _ _
                          have ef411 := (hO410.2 13 (by decide)).trans ef399
                          have hp414 : beT n X q ≤ n := beT_le hpl
                          have hp415 : nP n X q ≤ n := rE_le hp414
                          have hP416 : rE blk n X (beT n X q) = nP n X q := rfl
                          have hM417 := hM403.hs (hO410.hs)
                          have hO418 := hO404.tr (HS.om (hO410.hs))
                          have hB419 : rowB (ia w412 112) = b := by rw [HS.row (hO410.hs)]; exact hB405
                          refine sx_RP.step (pc2 := 76) (ls2 := [(1, .int 5), (0, .ref 111)]) (st2 := []) (w3 := w412) rfl rfl ?_
                          refine sx_RP.step (pc2 := 77) (ls2 := [(1, .int 5), (0, .ref 111)]) (st2 := [.ref 111]) (w3 := w412) rfl rfl ?_
                          refine sx_RP.step (pc2 := 78) (ls2 := [(1, .int 5), (0, .ref 111)]) (st2 := [.int 5, .ref 111]) (w3 := w412) rfl rfl ?_
                          refine sx_RP.callp (as2 := [.ref 111, .int 5]) (rest2 := []) rfl rfl (sx_inv_v2 (mi := 211) (k := 323) (st := [.int 5, .ref 111]) (w := w412) rfl rfl hI413.1.o111 rfl rfl rfl) rfl rfl rfl (y227 (k := 5) hI413 hM417 hp414 ep409 ef411 hP416 hB419 (by decide) hu (by omega)) (show _ = 81 from rfl) ?_
                          rintro r4 w422 ⟨⟨rfl, hr420⟩, hI423, hO421⟩
                          show sx_RP _ _ _ _ _ [.int (b01 (galS n X 5 (nP n X q) b).1)] _ _
                          have hO424 := hO418.tr hO421
                          refine sx_RP.ret (r := (some (.int (b01 (galS n X 5 (nP n X q) b).1)))) rfl (bo_ret rfl (b01_in _)) ?_
                          have eg : gwT n X q = -1 := by simp only [gwT, c1, c27, c53, c79, c105, c131, c184, c237, c290, c343, c396, if_true, if_false, Bool.false_eq_true, ite_true, ite_false, true_or, or_true, or_false, false_or]
                          have ek : kwT n X q = 5 := by simp only [kwT, c1, c27, c53, c79, c105, c131, c184, c237, c290, c343, c396, if_true, if_false, Bool.false_eq_true, ite_true, ite_false, true_or, or_true, or_false, false_or]
                          have eR : itT n X q b = galS n X 5 (nP n X q) b := by unfold itT; rw [eg, if_pos rfl, ek, if_neg (by decide)]; exact galT_S (by omega)
                          rw [eR]
                          exact ⟨⟨rfl, hr420⟩, hI423, hO424⟩
                        · replace q407 := Decidable.not_not.mp (of_decide_eq_false q407)
                          replace q407 := (nI_eq (a := u) (b := 10) (by omega) (by omega)).mp q407
                          refine sx_RP.step (pc2 := 61) (ls2 := [(1, .int 5), (0, .ref 111)]) (st2 := [.ref 111]) (w3 := w400) rfl rfl ?_
                          refine sx_RP.callp (as2 := [.ref 111]) (rest2 := []) rfl rfl (sx_inv_v2 (mi := 211) (k := 245) (st := [.ref 111]) (w := w400) rfl rfl hI401.1.o111 rfl rfl rfl) rfl rfl rfl (y222 (p := q) hI401 ef399 ep397) (show _ = 64 from rfl) ?_
                          rintro r4 w427 ⟨⟨rfl, hv425⟩, hI428, hO426⟩
                          show sx_RP _ _ _ _ _ [.int 0] _ _
                          have hO429 := hO404.tr (HS.om hO426.hs)
                          refine sx_RP.ret (r := (some (.int 0))) rfl rfl ?_
                          have eg : gwT n X q = -1 := by simp only [gwT, c1, c27, c53, c79, c105, c131, c184, c237, c290, c343, c396, if_true, if_false, Bool.false_eq_true, ite_true, ite_false, true_or, or_true, or_false, false_or]
                          have ek : kwT n X q = 5 := by simp only [kwT, c1, c27, c53, c79, c105, c131, c184, c237, c290, c343, c396, if_true, if_false, Bool.false_eq_true, ite_true, ite_false, true_or, or_true, or_false, false_or]
                          have eR : itT n X q b = (false, q, b) := by unfold itT; rw [eg, if_pos rfl, ek, if_neg (by decide)]; unfold galT; rw [if_neg (by omega)]
                          rw [eR]
                          exact ⟨⟨rfl, RdM.f hv425⟩, hI428, hO429⟩
                      · refine sx_RP.callp (as2 := [.ref 111, .float 103]) (rest2 := []) rfl rfl (sx_inv_v2 (mi := 211) (k := 239) (st := [.float 103, .ref 111]) (w := w390) rfl rfl hI391.1.o111 rfl rfl rfl) rfl rfl rfl (y214f (k := (103 : UInt32)) (m := 4) hI391 hM393 hpl ep387 (by decide) rfl (by decide) (by decide) hP392 c396) (show _ = 46 from rfl) ?_
                        rintro r4 w433 ⟨⟨rfl, ep430⟩, hI434, hO431⟩
                        show sx_RP _ _ _ _ _ [.int 0] _ _
                        have ef432 := (hO431.2 13 (by decide)).trans ef389
                        have hP435 : rE blk n X q = q := by rw [← hP392]; exact rE_rE
                        have hM436 := hM393.hs (hO431.hs)
                        have hO437 := hO394.tr (HS.om (hO431.hs))
                        have hB438 : rowB (ia w433 112) = b := by rw [HS.row (hO431.hs)]; exact hB395
                        refine sx_RP.step (pc2 := 65) (ls2 := [(1, .int 5), (0, .ref 111)]) (st2 := []) (w3 := w433) rfl rfl ?_
                        refine sx_RP.step (pc2 := 66) (ls2 := [(1, .int 5), (0, .ref 111)]) (st2 := [.ref 111]) (w3 := w433) rfl rfl ?_
                        refine sx_RP.step (pc2 := 67) (ls2 := [(1, .int 5), (0, .ref 111)]) (st2 := [.int 5, .ref 111]) (w3 := w433) rfl rfl ?_
                        refine sx_RP.cu (as := [.int 5]) (rest2 := [.ref 111]) (st3 := [.float 103, .ref 111]) rfl rfl rfl rfl rfl (p226_5) rfl ?_
                        refine sx_RP.callp (as2 := [.ref 111, .float 103]) (rest2 := []) rfl rfl (sx_inv_v2 (mi := 211) (k := 243) (st := [.float 103, .ref 111]) (w := w433) rfl rfl hI434.1.o111 rfl rfl rfl) rfl rfl rfl (y213f (k := (103 : UInt32)) (m := 4) hI434 hM436 hpl ep430 ef432 (by decide) rfl (by decide) (by decide) hP435 c396) (show _ = 73 from rfl) ?_
                        rintro r4 w443 ⟨⟨rfl, ep440⟩, hI444, hO441⟩
                        show sx_RP _ _ _ _ _ [.int 0] _ _
                        have ef442 := (hO441.2 13 (by decide)).trans ef432
                        have hP445 : rE blk n X q = q := by rw [← hP435]; exact rE_rE
                        have hM446 := hM436.hs (hO441.hs)
                        have hO447 := hO437.tr (HS.om (hO441.hs))
                        have hB448 : rowB (ia w443 112) = b := by rw [HS.row (hO441.hs)]; exact hB438
                        refine sx_RP.step (pc2 := 82) (ls2 := [(1, .int 5), (0, .ref 111)]) (st2 := []) (w3 := w443) rfl rfl ?_
                        refine sx_RP.step (pc2 := 85) (ls2 := [(1, .int 6), (0, .ref 111)]) (st2 := []) (w3 := w443) rfl rfl ?_
                        refine sx_RP.step (pc2 := 32) (ls2 := [(1, .int 6), (0, .ref 111)]) (st2 := []) (w3 := w443) rfl rfl ?_
                        refine sx_RP.step (pc2 := 33) (ls2 := [(1, .int 6), (0, .ref 111)]) (st2 := [.int 6]) (w3 := w443) rfl rfl ?_
                        refine sx_RP.step (pc2 := 35) (ls2 := [(1, .int 6), (0, .ref 111)]) (st2 := [.int 6, .int 6]) (w3 := w443) rfl rfl ?_
                        refine sx_RP.step (pc2 := 88) (ls2 := [(1, .int 6), (0, .ref 111)]) (st2 := []) (w3 := w443) rfl rfl ?_
                        refine sx_RP.step (pc2 := 89) (ls2 := [(1, .int 6), (0, .ref 111)]) (st2 := [.ref 111]) (w3 := w443) rfl rfl ?_
                        refine sx_RP.step (pc2 := 92) (ls2 := [(1, .int 6), (0, .ref 111)]) (st2 := [.float 104, .ref 111]) (w3 := w443) rfl rfl ?_
                        rcases Bool.eq_false_or_eq_true (wdT n X q (104 : UInt32)) with c449 | c449
                        · refine sx_RP.callp (as2 := [.ref 111, .float 104]) (rest2 := []) rfl rfl (sx_inv_v2 (mi := 211) (k := 239) (st := [.float 104, .ref 111]) (w := w443) rfl rfl hI444.1.o111 rfl rfl rfl) rfl rfl rfl (y214t (k := (104 : UInt32)) (m := 4) hI444 hM446 hpl ep440 (by decide) rfl (by decide) (by decide) hP445 c449) (show _ = 95 from rfl) ?_
                          rintro r4 w453 ⟨⟨rfl, ep450⟩, hI454, hO451⟩
                          show sx_RP _ _ _ _ _ [.int 1] _ _
                          have ef452 := (hO451.2 13 (by decide)).trans ef442
                          have hP455 : rE blk n X q = q := by rw [← hP445]; exact rE_rE
                          have hM456 := hM446.hs (hO451.hs)
                          have hO457 := hO447.tr (HS.om (hO451.hs))
                          have hB458 : rowB (ia w453 112) = b := by rw [HS.row (hO451.hs)]; exact hB448
                          refine sx_RP.step (pc2 := 98) (ls2 := [(1, .int 6), (0, .ref 111)]) (st2 := []) (w3 := w453) rfl rfl ?_
                          refine sx_RP.step (pc2 := 99) (ls2 := [(1, .int 6), (0, .ref 111)]) (st2 := [.ref 111]) (w3 := w453) rfl rfl ?_
                          refine sx_RP.gf (v := .ref 112) rfl rfl hI454.1.o111 rfl rfl (show _ = 102 from rfl) ?_
                          refine sx_RP.step (pc2 := 103) (ls2 := [(1, .int 6), (0, .ref 111)]) (st2 := [.int 2, .ref 112]) (w3 := w453) rfl rfl ?_
                          have ex459 : (ia w453 112).getD 2 0 = nI m := row_dlen hI454 hB458 hm (by omega)
                          refine sx_RP.ild (c := 2) rfl hI454.1.a112.1 hI454.1.a112.2 (sx_in_nI (show 2 < 172 by omega) (by decide)) (nI_clamp (by decide)) (show _ = 104 from rfl) ?_
                          rw [ex459]
                          refine sx_RP.step (pc2 := 106) (ls2 := [(1, .int 6), (0, .ref 111)]) (st2 := [.int 9, .int (nI m)]) (w3 := w453) rfl rfl ?_
                          refine sx_RP.br (p1 := 114) (l1 := [(1, .int 6), (0, .ref 111)]) (s1 := []) (v1 := w453) (p2 := 109) (l2 := [(1, .int 6), (0, .ref 111)]) (s2 := []) (v2 := w453) rfl rfl (fun q460 => ?_) (fun q460 => ?_)
                          · replace q460 := of_decide_eq_true q460
                            replace q460 := mt (nI_eq (a := m) (b := 9) (by omega) (by omega)).mpr q460
                            refine sx_RP.step (pc2 := 115) (ls2 := [(1, .int 6), (0, .ref 111)]) (st2 := [.ref 111]) (w3 := w453) rfl rfl ?_
                            refine sx_RP.step (pc2 := 118) (ls2 := [(1, .int 6), (0, .ref 111)]) (st2 := [.float 104, .ref 111]) (w3 := w453) rfl rfl ?_
                            refine sx_RP.callp (as2 := [.ref 111, .float 104]) (rest2 := []) rfl rfl (sx_inv_v2 (mi := 211) (k := 243) (st := [.float 104, .ref 111]) (w := w453) rfl rfl hI454.1.o111 rfl rfl rfl) rfl rfl rfl (y213t (k := (104 : UInt32)) (m := 4) hI454 hM456 hpl ep450 ef452 (by decide) rfl (by decide) (by decide) hP455 c449) (show _ = 121 from rfl) ?_
                            rintro r4 w465 ⟨⟨rfl, ep462⟩, hI466, hO463⟩
                            show sx_RP _ _ _ _ _ [.int 1] _ _
                            have ef464 := (hO463.2 13 (by decide)).trans ef452
                            have hp467 : beT n X q ≤ n := beT_le hpl
                            have hp468 : nP n X q ≤ n := rE_le hp467
                            have hP469 : rE blk n X (beT n X q) = nP n X q := rfl
                            have hM470 := hM456.hs (hO463.hs)
                            have hO471 := hO457.tr (HS.om (hO463.hs))
                            have hB472 : rowB (ia w465 112) = b := by rw [HS.row (hO463.hs)]; exact hB458
                            refine sx_RP.step (pc2 := 124) (ls2 := [(1, .int 6), (0, .ref 111)]) (st2 := []) (w3 := w465) rfl rfl ?_
                            refine sx_RP.step (pc2 := 125) (ls2 := [(1, .int 6), (0, .ref 111)]) (st2 := [.ref 111]) (w3 := w465) rfl rfl ?_
                            refine sx_RP.step (pc2 := 126) (ls2 := [(1, .int 6), (0, .ref 111)]) (st2 := [.int 0, .ref 111]) (w3 := w465) rfl rfl ?_
                            refine sx_RP.step (pc2 := 128) (ls2 := [(1, .int 6), (0, .ref 111)]) (st2 := [.int 47, .int 0, .ref 111]) (w3 := w465) rfl rfl ?_
                            rcases Bool.eq_false_or_eq_true (nmT n X (nP n X q) 0 47) with c473 | c473
                            · refine sx_RP.callp (as2 := [.ref 111, .int 0, .int 47]) (rest2 := []) rfl rfl (sx_inv_v2 (mi := 211) (k := 267) (st := [.int 47, .int 0, .ref 111]) (w := w465) rfl rfl hI466.1.o111 rfl rfl rfl) rfl rfl rfl (y220t (lo := 0) (hi := 47) hI466 hM470 hp467 ep462 ef464 (by omega) (by decide) hP469 c473) (show _ = 131 from rfl) ?_
                              rintro r4 w478 ⟨⟨rfl, ep474, ev477, ef476⟩, hI479, hO475⟩
                              show sx_RP _ _ _ _ _ [.int 1] _ _
                              have hp480 : beT n X (nP n X q) ≤ n := beT_le hp468
                              have hp481 : nP n X (nP n X q) ≤ n := rE_le hp480
                              have hr482 := nmT_in c473
                              have hP483 : rE blk n X (beT n X (nP n X q)) = nP n X (nP n X q) := rfl
                              have hM484 := hM470.hs (hO475)
                              have hO485 := hO471.tr (HS.om (hO475))
                              have hB486 : rowB (ia w478 112) = b := by rw [HS.row (hO475)]; exact hB472
                              refine sx_RP.step (pc2 := 136) (ls2 := [(1, .int 6), (0, .ref 111)]) (st2 := []) (w3 := w478) rfl rfl ?_
                              refine sx_RP.step (pc2 := 137) (ls2 := [(1, .int 6), (0, .ref 111)]) (st2 := [.ref 111]) (w3 := w478) rfl rfl ?_
                              refine sx_RP.gf (v := .ref 112) rfl rfl hI479.1.o111 rfl rfl (show _ = 140 from rfl) ?_
                              refine sx_RP.step (pc2 := 143) (ls2 := [(1, .int 6), (0, .ref 111)]) (st2 := [.int 163, .ref 112]) (w3 := w478) rfl rfl ?_
                              refine sx_RP.step (pc2 := 144) (ls2 := [(1, .int 6), (0, .ref 111)]) (st2 := [.ref 111, .int 163, .ref 112]) (w3 := w478) rfl rfl ?_
                              refine sx_RP.gf (v := .ref 112) rfl rfl hI479.1.o111 rfl rfl (show _ = 147 from rfl) ?_
                              refine sx_RP.step (pc2 := 148) (ls2 := [(1, .int 6), (0, .ref 111)]) (st2 := [.int 2, .ref 112, .int 163, .ref 112]) (w3 := w478) rfl rfl ?_
                              have ex487 : (ia w478 112).getD 2 0 = nI m := row_dlen hI479 hB486 hm (by omega)
                              refine sx_RP.ild (c := 2) rfl hI479.1.a112.1 hI479.1.a112.2 (sx_in_nI (show 2 < 172 by omega) (by decide)) (nI_clamp (by decide)) (show _ = 149 from rfl) ?_
                              rw [ex487]
                              refine sx_RP.step (pc2 := 150) (ls2 := [(1, .int 6), (0, .ref 111)]) (st2 := [.int (163 + (nI m)), .ref 112]) (w3 := w478) rfl rfl ?_
                              rw [show (163 + (nI m) : Int32) = nI (163 + m) from nI_add 163 m]
                              refine sx_RP.step (pc2 := 151) (ls2 := [(1, .int 6), (0, .ref 111)]) (st2 := [.ref 111, .int (nI (163 + m)), .ref 112]) (w3 := w478) rfl rfl ?_
                              refine sx_RP.gf (v := .int (fi w478 111 14)) rfl rfl hI479.1.o111 rfl rfl (show _ = 154 from rfl) ?_
                              rw [ev477]
                              refine sx_RP.xM (k := 163 + m) hI479 (by decide) rfl (by omega) (eOK_d (by omega) (inR.n (show (vaT n X (nP n X q)) ≤ 47 by omega))) (show _ = 155 from rfl) (fun w488 hI489 hs490 hv491 => ?_)
                              have ep493 := (fi_same 12 (hs490 111 (by decide))).trans ep474
                              have ef494 := (fi_same 13 (hs490 111 (by decide))).trans ef476
                              have hM495 := hM484.om (OM.st hs490)
                              have hO496 := hO485.tr (OM.st hs490)
                              refine sx_RP.step (pc2 := 156) (ls2 := [(1, .int 6), (0, .ref 111)]) (st2 := [.ref 111]) (w3 := w488) rfl rfl ?_
                              refine sx_RP.gf (v := .ref 112) rfl rfl hI489.1.o111 rfl rfl (show _ = 159 from rfl) ?_
                              refine sx_RP.step (pc2 := 160) (ls2 := [(1, .int 6), (0, .ref 111)]) (st2 := [.int 2, .ref 112]) (w3 := w488) rfl rfl ?_
                              refine sx_RP.step (pc2 := 161) (ls2 := [(1, .int 6), (0, .ref 111)]) (st2 := [.int 2, .ref 112, .int 2, .ref 112]) (w3 := w488) rfl rfl ?_
                              have ex497 : (ia w488 112).getD 2 0 = nI m := by rw [hv491, gd_ne (by omega)]; exact row_dlen hI479 hB486 hm (by omega)
                              refine sx_RP.ild (c := 2) rfl hI489.1.a112.1 hI489.1.a112.2 (sx_in_nI (show 2 < 172 by omega) (by decide)) (nI_clamp (by decide)) (show _ = 162 from rfl) ?_
                              rw [ex497]
                              refine sx_RP.step (pc2 := 163) (ls2 := [(1, .int 6), (0, .ref 111)]) (st2 := [.int 1, .int (nI m), .int 2, .ref 112]) (w3 := w488) rfl rfl ?_
                              refine sx_RP.step (pc2 := 164) (ls2 := [(1, .int 6), (0, .ref 111)]) (st2 := [.int ((nI m) + 1), .int 2, .ref 112]) (w3 := w488) rfl rfl ?_
                              rw [show ((nI m) + 1 : Int32) = nI (m + 1) from nI_add m 1]
                              refine sx_RP.xM (k := 2) hI489 (by decide) rfl (by omega) (eOK_2 (inR.n (show m + 1 ≤ 9 by omega))) (show _ = 165 from rfl) (fun w498 hI499 hs500 hv501 => ?_)
                              have hB502 : rowB (ia w498 112) = addD (nI (vaT n X (nP n X q))) (b) := by rw [hv501, hv491, rowB_addD hI479.1.a112.2 (row_dlen hI479 hB486 hm (by omega)) (by omega) (hI479.manyM (by decide)), hB486]
                              have ep503 := (fi_same 12 (hs500 111 (by decide))).trans ep493
                              have ef504 := (fi_same 13 (hs500 111 (by decide))).trans ef494
                              have hM505 := hM495.om (OM.st hs500)
                              have hO506 := hO496.tr (OM.st hs500)
                              refine sx_RP.step (pc2 := 166) (ls2 := [(1, .int 6), (0, .ref 111)]) (st2 := [.int 1]) (w3 := w498) rfl rfl ?_
                              refine sx_RP.ret (r := (some (.int 1))) rfl rfl ?_
                              have eg : gwT n X q = -1 := by simp only [gwT, c1, c27, c53, c79, c105, c131, c184, c237, c290, c343, c396, c449, c473, if_true, if_false, Bool.false_eq_true, ite_true, ite_false, true_or, or_true, or_false, false_or]
                              have ek : kwT n X q = -1 := by simp only [kwT, c1, c27, c53, c79, c105, c131, c184, c237, c290, c343, c396, c449, c473, if_true, if_false, Bool.false_eq_true, ite_true, ite_false, true_or, or_true, or_false, false_or]
                              have eR : itT n X q b = (true, nP n X (nP n X q), addD (nI (vaT n X (nP n X q))) (b)) := by unfold itT; rw [eg, if_pos rfl, ek, if_pos rfl, if_pos c449]; unfold disT; rw [if_pos (by omega), if_pos c473]
                              rw [eR]
                              exact ⟨⟨rfl, RdM.t ef504 hB502 hp480 ep503 hP483⟩, hI499, hO506⟩
                            · refine sx_RP.callp (as2 := [.ref 111, .int 0, .int 47]) (rest2 := []) rfl rfl (sx_inv_v2 (mi := 211) (k := 267) (st := [.int 47, .int 0, .ref 111]) (w := w465) rfl rfl hI466.1.o111 rfl rfl rfl) rfl rfl rfl (y220f (lo := 0) (hi := 47) hI466 hM470 hp467 ep462 ef464 (by omega) (by decide) hP469 c473) (show _ = 131 from rfl) ?_
                              rintro r4 w511 ⟨⟨rfl, ep507⟩, hI512, hO508⟩
                              show sx_RP _ _ _ _ _ [.int 0] _ _
                              have hO513 := hO471.tr (HS.om hO508)
                              refine sx_RP.step (pc2 := 134) (ls2 := [(1, .int 6), (0, .ref 111)]) (st2 := []) (w3 := w511) rfl rfl ?_
                              refine sx_RP.step (pc2 := 135) (ls2 := [(1, .int 6), (0, .ref 111)]) (st2 := [.int 0]) (w3 := w511) rfl rfl ?_
                              refine sx_RP.ret (r := (some (.int 0))) rfl rfl ?_
                              have eg : gwT n X q = -1 := by simp only [gwT, c1, c27, c53, c79, c105, c131, c184, c237, c290, c343, c396, c449, c473, if_true, if_false, Bool.false_eq_true, ite_true, ite_false, true_or, or_true, or_false, false_or]
                              have ek : kwT n X q = -1 := by simp only [kwT, c1, c27, c53, c79, c105, c131, c184, c237, c290, c343, c396, c449, c473, if_true, if_false, Bool.false_eq_true, ite_true, ite_false, true_or, or_true, or_false, false_or]
                              have eR : itT n X q b = (false, nP n X q, b) := by unfold itT; rw [eg, if_pos rfl, ek, if_pos rfl, if_pos c449]; unfold disT; rw [if_pos (by omega), if_neg (by rw [c473]; decide)]
                              rw [eR]
                              exact ⟨⟨rfl, RdM.f ep507⟩, hI512, hO513⟩
                          · replace q460 := Decidable.not_not.mp (of_decide_eq_false q460)
                            replace q460 := (nI_eq (a := m) (b := 9) (by omega) (by omega)).mp q460
                            refine sx_RP.step (pc2 := 110) (ls2 := [(1, .int 6), (0, .ref 111)]) (st2 := [.ref 111]) (w3 := w453) rfl rfl ?_
                            refine sx_RP.callp (as2 := [.ref 111]) (rest2 := []) rfl rfl (sx_inv_v2 (mi := 211) (k := 245) (st := [.ref 111]) (w := w453) rfl rfl hI454.1.o111 rfl rfl rfl) rfl rfl rfl (y222 (p := q) hI454 ef452 ep450) (show _ = 113 from rfl) ?_
                            rintro r4 w516 ⟨⟨rfl, hv514⟩, hI517, hO515⟩
                            show sx_RP _ _ _ _ _ [.int 0] _ _
                            have hO518 := hO457.tr (HS.om hO515.hs)
                            refine sx_RP.ret (r := (some (.int 0))) rfl rfl ?_
                            have eg : gwT n X q = -1 := by simp only [gwT, c1, c27, c53, c79, c105, c131, c184, c237, c290, c343, c396, c449, if_true, if_false, Bool.false_eq_true, ite_true, ite_false, true_or, or_true, or_false, false_or]
                            have ek : kwT n X q = -1 := by simp only [kwT, c1, c27, c53, c79, c105, c131, c184, c237, c290, c343, c396, c449, if_true, if_false, Bool.false_eq_true, ite_true, ite_false, true_or, or_true, or_false, false_or]
                            have eR : itT n X q b = (false, q, b) := by unfold itT; rw [eg, if_pos rfl, ek, if_pos rfl, if_pos c449]; unfold disT; rw [if_neg (by omega)]
                            rw [eR]
                            exact ⟨⟨rfl, RdM.f hv514⟩, hI517, hO518⟩
                        · refine sx_RP.callp (as2 := [.ref 111, .float 104]) (rest2 := []) rfl rfl (sx_inv_v2 (mi := 211) (k := 239) (st := [.float 104, .ref 111]) (w := w443) rfl rfl hI444.1.o111 rfl rfl rfl) rfl rfl rfl (y214f (k := (104 : UInt32)) (m := 4) hI444 hM446 hpl ep440 (by decide) rfl (by decide) (by decide) hP445 c449) (show _ = 95 from rfl) ?_
                          rintro r4 w522 ⟨⟨rfl, ep519⟩, hI523, hO520⟩
                          show sx_RP _ _ _ _ _ [.int 0] _ _
                          have ef521 := (hO520.2 13 (by decide)).trans ef442
                          have hP524 : rE blk n X q = q := by rw [← hP445]; exact rE_rE
                          have hM525 := hM446.hs (hO520.hs)
                          have hO526 := hO447.tr (HS.om (hO520.hs))
                          have hB527 : rowB (ia w522 112) = b := by rw [HS.row (hO520.hs)]; exact hB448
                          refine sx_RP.step (pc2 := 114) (ls2 := [(1, .int 6), (0, .ref 111)]) (st2 := []) (w3 := w522) rfl rfl ?_
                          refine sx_RP.step (pc2 := 115) (ls2 := [(1, .int 6), (0, .ref 111)]) (st2 := [.ref 111]) (w3 := w522) rfl rfl ?_
                          refine sx_RP.step (pc2 := 118) (ls2 := [(1, .int 6), (0, .ref 111)]) (st2 := [.float 104, .ref 111]) (w3 := w522) rfl rfl ?_
                          refine sx_RP.callp (as2 := [.ref 111, .float 104]) (rest2 := []) rfl rfl (sx_inv_v2 (mi := 211) (k := 243) (st := [.float 104, .ref 111]) (w := w522) rfl rfl hI523.1.o111 rfl rfl rfl) rfl rfl rfl (y213f (k := (104 : UInt32)) (m := 4) hI523 hM525 hpl ep519 ef521 (by decide) rfl (by decide) (by decide) hP524 c449) (show _ = 121 from rfl) ?_
                          rintro r4 w532 ⟨⟨rfl, ep529⟩, hI533, hO530⟩
                          show sx_RP _ _ _ _ _ [.int 0] _ _
                          have ef531 := (hO530.2 13 (by decide)).trans ef521
                          have hP534 : rE blk n X q = q := by rw [← hP524]; exact rE_rE
                          have hM535 := hM525.hs (hO530.hs)
                          have hO536 := hO526.tr (HS.om (hO530.hs))
                          have hB537 : rowB (ia w532 112) = b := by rw [HS.row (hO530.hs)]; exact hB527
                          refine sx_RP.step (pc2 := 167) (ls2 := [(1, .int 6), (0, .ref 111)]) (st2 := []) (w3 := w532) rfl rfl ?_
                          refine sx_RP.step (pc2 := 168) (ls2 := [(1, .int 6), (0, .ref 111)]) (st2 := [.ref 111]) (w3 := w532) rfl rfl ?_
                          refine sx_RP.step (pc2 := 171) (ls2 := [(1, .int 6), (0, .ref 111)]) (st2 := [.float 101, .ref 111]) (w3 := w532) rfl rfl ?_
                          rcases Bool.eq_false_or_eq_true (wdT n X q (101 : UInt32)) with c538 | c538
                          · refine sx_RP.callp (as2 := [.ref 111, .float 101]) (rest2 := []) rfl rfl (sx_inv_v2 (mi := 211) (k := 282) (st := [.float 101, .ref 111]) (w := w532) rfl rfl hI533.1.o111 rfl rfl rfl) rfl rfl rfl (y228t (k := (101 : UInt32)) (m := 5) hI533 hM535 hpl ep529 ef531 (by decide) rfl (by decide) (by decide) hP534 c538) (show _ = 174 from rfl) ?_
                            rintro r4 w542 ⟨⟨rfl, ep539, ef541⟩, hI543, hO540⟩
                            show sx_RP _ _ _ _ _ [.int 1] _ _
                            have hp544 : beT n X q ≤ n := beT_le hpl
                            have hp545 : nP n X q ≤ n := rE_le hp544
                            have hP546 : rE blk n X (beT n X q) = nP n X q := rfl
                            have hM547 := hM535.hs (hO540)
                            have hO548 := hO536.tr (HS.om (hO540))
                            have hB549 : rowB (ia w542 112) = b := by rw [HS.row (hO540)]; exact hB537
                            refine sx_RP.step (pc2 := 177) (ls2 := [(1, .int 6), (0, .ref 111)]) (st2 := []) (w3 := w542) rfl rfl ?_
                            refine sx_RP.step (pc2 := 178) (ls2 := [(1, .int 6), (0, .ref 111)]) (st2 := [.ref 111]) (w3 := w542) rfl rfl ?_
                            refine sx_RP.callp (as2 := [.ref 111]) (rest2 := []) rfl rfl (sx_inv_v2 (mi := 211) (k := 330) (st := [.ref 111]) (w := w542) rfl rfl hI543.1.o111 rfl rfl rfl) rfl rfl rfl (y229 hI543 hM547 hp544 ep539 ef541 hP546 hB549) (show _ = 181 from rfl) ?_
                            rintro r4 w552 ⟨⟨rfl, hr550⟩, hI553, hO551⟩
                            show sx_RP _ _ _ _ _ [.int (b01 (breS n X (nP n X q) b).1)] _ _
                            have hO554 := hO548.tr hO551
                            refine sx_RP.br (p1 := 188) (l1 := [(1, .int 6), (0, .ref 111)]) (s1 := []) (v1 := w552) (p2 := 184) (l2 := [(1, .int 6), (0, .ref 111)]) (s2 := []) (v2 := w552) rfl rfl (fun q555 => ?_) (fun q555 => ?_)
                            · replace q555 := of_decide_eq_true q555
                              refine sx_RP.step (pc2 := 189) (ls2 := [(1, .int 6), (0, .ref 111)]) (st2 := [.int 0]) (w3 := w552) rfl rfl ?_
                              refine sx_RP.ret (r := (some (.int 0))) rfl rfl ?_
                              have eg : gwT n X q = -1 := by simp only [gwT, c1, c27, c53, c79, c105, c131, c184, c237, c290, c343, c396, c449, c538, if_true, if_false, Bool.false_eq_true, ite_true, ite_false, true_or, or_true, or_false, false_or]
                              have ek : kwT n X q = -1 := by simp only [kwT, c1, c27, c53, c79, c105, c131, c184, c237, c290, c343, c396, c449, c538, if_true, if_false, Bool.false_eq_true, ite_true, ite_false, true_or, or_true, or_false, false_or]
                              have eR : itT n X q b = breS n X (nP n X q) b := by unfold itT; rw [eg, if_pos rfl, ek, if_pos rfl, if_neg (by rw [c449]; decide), if_pos c538]; rfl
                              rw [eR]
                              exact ⟨⟨by rw [b01_f q555]; rfl, hr550⟩, hI553, hO554⟩
                            · replace q555 := of_decide_eq_false q555
                              refine sx_RP.step (pc2 := 185) (ls2 := [(1, .int 6), (0, .ref 111)]) (st2 := [.int 1]) (w3 := w552) rfl rfl ?_
                              refine sx_RP.step (pc2 := 189) (ls2 := [(1, .int 6), (0, .ref 111)]) (st2 := [.int 1]) (w3 := w552) rfl rfl ?_
                              refine sx_RP.ret (r := (some (.int 1))) rfl rfl ?_
                              have eg : gwT n X q = -1 := by simp only [gwT, c1, c27, c53, c79, c105, c131, c184, c237, c290, c343, c396, c449, c538, if_true, if_false, Bool.false_eq_true, ite_true, ite_false, true_or, or_true, or_false, false_or]
                              have ek : kwT n X q = -1 := by simp only [kwT, c1, c27, c53, c79, c105, c131, c184, c237, c290, c343, c396, c449, c538, if_true, if_false, Bool.false_eq_true, ite_true, ite_false, true_or, or_true, or_false, false_or]
                              have eR : itT n X q b = breS n X (nP n X q) b := by unfold itT; rw [eg, if_pos rfl, ek, if_pos rfl, if_neg (by rw [c449]; decide), if_pos c538]; rfl
                              rw [eR]
                              exact ⟨⟨by rw [b01_t q555]; rfl, hr550⟩, hI553, hO554⟩
                          · refine sx_RP.callp (as2 := [.ref 111, .float 101]) (rest2 := []) rfl rfl (sx_inv_v2 (mi := 211) (k := 282) (st := [.float 101, .ref 111]) (w := w532) rfl rfl hI533.1.o111 rfl rfl rfl) rfl rfl rfl (y228f (k := (101 : UInt32)) (m := 5) hI533 hM535 hpl ep529 ef531 (by decide) rfl (by decide) (by decide) hP534 c538) (show _ = 174 from rfl) ?_
                            rintro r4 w559 ⟨⟨rfl, ep556⟩, hI560, hO557⟩
                            show sx_RP _ _ _ _ _ [.int 0] _ _
                            have hO561 := hO536.tr (HS.om hO557)
                            refine sx_RP.step (pc2 := 188) (ls2 := [(1, .int 6), (0, .ref 111)]) (st2 := []) (w3 := w559) rfl rfl ?_
                            refine sx_RP.step (pc2 := 189) (ls2 := [(1, .int 6), (0, .ref 111)]) (st2 := [.int 0]) (w3 := w559) rfl rfl ?_
                            refine sx_RP.ret (r := (some (.int 0))) rfl rfl ?_
                            have eg : gwT n X q = -1 := by simp only [gwT, c1, c27, c53, c79, c105, c131, c184, c237, c290, c343, c396, c449, c538, if_true, if_false, Bool.false_eq_true, ite_true, ite_false, true_or, or_true, or_false, false_or]
                            have ek : kwT n X q = -1 := by simp only [kwT, c1, c27, c53, c79, c105, c131, c184, c237, c290, c343, c396, c449, c538, if_true, if_false, Bool.false_eq_true, ite_true, ite_false, true_or, or_true, or_false, false_or]
                            have eR : itT n X q b = (false, q, b) := by unfold itT; rw [eg, if_pos rfl, ek, if_pos rfl, if_neg (by rw [c449]; decide), if_neg (by rw [c538]; decide)]
                            rw [eR]
                            exact ⟨⟨rfl, RdM.f ep556⟩, hI560, hO561⟩
end
-- 89v.siege.lean.txt
section
-- siege of the reference
theorem nP_ge {n p z : Nat} {X : Nat → Nat} (h : z ≤ p) : z ≤ nP n X p := Nat.le_trans h (Nat.le_trans beT_ge rE_ge)
theorem wtT_ge {n p lo hi z : Nat} {X : Nat → Nat} {k : UInt32} (h : z ≤ p) : z ≤ (wtT n X p k lo hi).2 := by
  unfold wtT
  split
  · exact nP_ge h
  · exact h
theorem disT_ge {n p : Nat} {X : Nat → Nat} {b : BB} {z : Nat} (h : z ≤ p) : z ≤ (disT n X p b).2.1 := by
  unfold disT
  repeat' split
  all_goals first | exact nP_ge (nP_ge h) | exact nP_ge h | exact h
theorem galT_ge {n k p : Nat} {X : Nat → Nat} {b : BB} {z : Nat} (h : z ≤ p) : z ≤ (galT n X k p b).2.1 := by
  unfold galT
  repeat' split
  all_goals first | exact h | exact nP_ge h | exact wtT_ge (nP_ge (nP_ge h)) | exact wtT_ge (nP_ge (wtT_ge (nP_ge (nP_ge h)))) | exact nP_ge (wtT_ge (nP_ge (wtT_ge (nP_ge (nP_ge h)))))
theorem br2_ge {n p : Nat} {X : Nat → Nat} {b : BB} {z : Nat} (h : z ≤ p) : z ≤ (br2 n X p b).2.1 := by
  unfold br2
  repeat' split
  all_goals first | exact h | exact nP_ge (wtT_ge h) | exact wtT_ge h
theorem br1_ge {n p : Nat} {X : Nat → Nat} {b : BB} {z : Nat} (h : z ≤ p) : z ≤ (br1 n X p b).2.1 := by
  unfold br1
  repeat' split
  all_goals first | exact br2_ge h | exact br2_ge (nP_ge (wtT_ge h)) | exact wtT_ge h
theorem breT_ge {n p : Nat} {X : Nat → Nat} {b : BB} {z : Nat} (h : z ≤ p) : z ≤ (breT n X p b).2.1 := by
  unfold breT
  split
  · exact br1_ge (nP_ge (nP_ge h))
  · exact nP_ge h
theorem grT_ge {n l p : Nat} {X : Nat → Nat} {b : BB} {z : Nat} (h : z ≤ p) : z ≤ (grT n X b l p).2.1 := by
  unfold grT
  repeat' split
  all_goals first | exact h | exact nP_ge (nP_ge h) | exact nP_ge h
theorem grL_ge {n : Nat} {X : Nat → Nat} {b : BB} {z : Nat} : ∀ f l p, z ≤ p → z ≤ (grL n X b f l p).2.1
  | 0, l, p, h => grT_ge h
  | f + 1, l, p, h => by
    unfold grL
    split
    · split
      · exact grL_ge f _ _ (nP_ge h)
      · exact h
    · exact grT_ge h
theorem groT_ge {n p : Nat} {X : Nat → Nat} {b : BB} {z : Nat} (h : z ≤ p) : z ≤ (groT n X p b).2.1 := by
  unfold groT
  split
  · exact grL_ge _ _ _ (nP_ge (nP_ge h))
  · exact nP_ge h
theorem itT_ge {n p : Nat} {X : Nat → Nat} {b : BB} {z : Nat} (h : z ≤ p) : z ≤ (itT n X p b).2.1 := by
  unfold itT
  repeat' split
  all_goals first | exact disT_ge h | exact breT_ge h | exact galT_ge h | exact groT_ge h | exact h
theorem bA_59 {n i : Nat} {X : Nat → Nat} (hX : i < n → X i < 256) : bA n X i = 59 ↔ (i < n ∧ X i = 59) := by
  unfold bA
  split
  · rename_i h
    rw [show (59 : Int32) = nI 59 from rfl, nI_eq (by have := hX h; omega) (by decide)]
    exact ⟨fun z => ⟨h, z⟩, fun z => z.2⟩
  · rename_i h
    exact ⟨fun z => absurd z (by decide), fun z => absurd z.1 h⟩
theorem sort_3 : ∀ c : Fin 256, sortN c.val = 3 ↔ c.val = 59 := by decide +kernel
theorem so_3 {n p : Nat} {X : Nat → Nat} (hX : ∀ i, i < n → X i < 256) : soT n X p = 3 ↔ (p < n ∧ X p = 59) := by
  unfold soT
  split
  · rename_i h
    rw [sort_3 ⟨X p, hX p h⟩]
    exact ⟨fun z => ⟨h, z⟩, fun z => z.2⟩
  · rename_i h
    exact ⟨fun z => absurd z (by decide), fun z => absurd z.1 h⟩
theorem so_0 {n p : Nat} {X : Nat → Nat} (hX : ∀ i, i < n → X i < 256) : soT n X p = 0 ↔ ¬ p < n := by
  unfold soT
  split
  · rename_i h
    have := (sort_le ⟨X p, hX p h⟩).1
    exact ⟨fun z => absurd z (by show ¬ sortN (X p) = 0; have t : 1 ≤ sortN (X p) := this; omega), fun z => absurd h z⟩
  · rename_i h
    exact ⟨fun _ => h, fun _ => rfl⟩
theorem be_3 {n p : Nat} {X : Nat → Nat} (h : p < n) (h3 : sortN (X p) = 3) : beT n X p = p + 1 := by
  unfold beT
  rw [if_pos h, h3, if_neg (by decide), if_neg (by decide)]
def OE (w w2 : List sx_C) : Prop := (∀ a, a ≠ 111 → a ≠ 112 → w2[a]? = w[a]?) ∧ ∀ j, j < 11 → fi w2 111 j = fi w 111 j
theorem OM.oe {w w2 : List sx_C} (h : OM w w2) : OE w w2 := ⟨h.1, fun j hj => h.2 j (by omega)⟩
theorem OE.tr {w w1 w2 : List sx_C} (h : OE w w1) (h2 : OE w1 w2) : OE w w2 := ⟨fun a h3 h4 => (h2.1 a h3 h4).trans (h.1 a h3 h4), fun j hj => (h2.2 j hj).trans (h.2 j hj)⟩
theorem OE.st {w w2 : List sx_C} (h : Same 112 w w2) : OE w w2 := (OM.st h).oe
theorem row_u {w : List sx_C} {b : BB} (hI : WI w) (hB : rowB (ia w 112) = b) : b.1.length ≤ 10 ∧ b.2.1.length ≤ 9 := by
  rw [← hB]
  unfold rowB
  rw [mkB_len1, mkB_len2]
  exact ⟨hI.manyM (by decide), hI.dishedM (by decide)⟩
set_option maxRecDepth 20000 in
set_option maxHeartbeats 4000000 in
theorem y210a {xs : Option (List Int32)} {d : Nat} {w : List sx_C} (hI : WI w) {n p : Nat} {X : Nat → Nat} {c f : Int32} (hM : MT n X w) (hp : p ≤ n) (ef : fi w 111 13 = nI p) : sx_RP xs (d + 8) 210 83 [(0, .ref 111), (1, .int c), (2, .int f)] [] w (fun r w2 => (r = some (.int (-1 - nI p)) ∧ ia w2 112 = ia w 115 ∧ fi w2 111 11 = 0) ∧ WI w2 ∧ OE w w2) := by
  have hn := hM.2.1
  refine sx_RP.step (pc2 := 84) (ls2 := [(0, .ref 111), (1, .int c), (2, .int f)]) (st2 := [.ref 111]) (w3 := w) rfl rfl ?_
  refine sx_RP.gf (v := .int (fi w 111 13)) rfl rfl hI.1.o111 rfl rfl (show _ = 87 from rfl) ?_
  rw [ef]
  refine sx_RP.br (p1 := 106) (l1 := [(0, .ref 111), (1, .int c), (2, .int f)]) (s1 := []) (v1 := w) rfl rfl (fun _ => ?_) (fun q => absurd (nI_le (a := 0) (b := p) (Nat.zero_le _) (by omega)) (of_decide_eq_false q))
  refine sx_RP.step (pc2 := 107) (ls2 := [(0, .ref 111), (1, .int c), (2, .int f)]) (st2 := [.ref 111]) (w3 := w) rfl rfl ?_
  refine sx_RP.step (pc2 := 108) (ls2 := [(0, .ref 111), (1, .int c), (2, .int f)]) (st2 := [.int 0, .ref 111]) (w3 := w) rfl rfl ?_
  refine sx_RP.xJ (k := 11) hI rfl rfl (by decide) rfl ⟨0, by decide, rfl⟩ (show _ = 111 from rfl) (fun w1 hI2 hs3 hv4 hr5 => ?_)
  have hO6 := OE.tr (OM.rf.oe) (⟨fun a h1 _ => hs3 a h1, fun j hj => hr5 j (by omega)⟩ : OE w w1)
  have ex7 := (hr5 13 (by decide)).trans ef
  refine sx_RP.step (pc2 := 112) (ls2 := [(0, .ref 111), (1, .int c), (2, .int f)]) (st2 := [.ref 111]) (w3 := w1) rfl rfl ?_
  refine sx_RP.gf (v := .int (fi w1 111 13)) rfl rfl hI2.1.o111 rfl rfl (show _ = 115 from rfl) ?_
  rw [ex7]
  refine sx_RP.br (p2 := 118) (l2 := [(0, .ref 111), (1, .int c), (2, .int f)]) (s2 := []) (v2 := w1) rfl rfl (fun q => absurd (of_decide_eq_true q) (fun z => absurd z (Int32.not_lt.mpr (nI_le (a := 0) (b := p) (Nat.zero_le _) (by omega))))) (fun _ => ?_)
  refine sx_RP.step (pc2 := 119) (ls2 := [(0, .ref 111), (1, .int c), (2, .int f)]) (st2 := [.ref 111]) (w3 := w1) rfl rfl ?_
  refine sx_RP.gf (v := .ref 115) rfl rfl hI2.1.o111 rfl rfl (show _ = 122 from rfl) ?_
  refine sx_RP.step (pc2 := 123) (ls2 := [(0, .ref 111), (1, .int c), (2, .int f)]) (st2 := [.ref 111, .ref 115]) (w3 := w1) rfl rfl ?_
  refine sx_RP.gf (v := .ref 112) rfl rfl hI2.1.o111 rfl rfl (show _ = 126 from rfl) ?_
  refine sx_RP.callp (as2 := [.ref 115, .ref 112]) (rest2 := []) rfl rfl rfl rfl rfl rfl (K175 hI2 (a := 115) (b := 112) (by decide) (by decide) (by decide)) (show _ = 129 from rfl) ?_
  rintro r4 w12 ⟨rfl, hI13, hl8⟩
  show sx_RP _ _ _ _ _ [] _ _
  have hO9 := OE.tr hO6 (OE.st hl8.1)
  have ex10 := (fi_same 13 (hl8.1 111 (by decide))).trans ex7
  have ex11 := (fi_same 11 (hl8.1 111 (by decide))).trans hv4
  refine sx_RP.step (pc2 := 130) (ls2 := [(0, .ref 111), (1, .int c), (2, .int f)]) (st2 := [.int (-1)]) (w3 := w12) rfl rfl ?_
  refine sx_RP.step (pc2 := 131) (ls2 := [(0, .ref 111), (1, .int c), (2, .int f)]) (st2 := [.ref 111, .int (-1)]) (w3 := w12) rfl rfl ?_
  refine sx_RP.gf (v := .int (fi w12 111 13)) rfl rfl hI13.1.o111 rfl rfl (show _ = 134 from rfl) ?_
  rw [ex10]
  refine sx_RP.step (pc2 := 135) (ls2 := [(0, .ref 111), (1, .int c), (2, .int f)]) (st2 := [.int ((-1) - (nI p))]) (w3 := w12) rfl rfl ?_
  refine sx_RP.ret (r := (some (.int ((-1) - (nI p))))) rfl rfl ?_
  exact ⟨⟨rfl, hl8.2.trans (ia_of (hO6.1 115 (by decide) (by decide))), ex11⟩, hI13, hO9⟩
set_option maxRecDepth 20000 in
set_option maxHeartbeats 4000000 in
theorem y210b {xs : Option (List Int32)} {d : Nat} {w : List sx_C} (hI : WI w) {n p : Nat} {X : Nat → Nat} {c f : Int32} (hM : MT n X w) (hp : p ≤ n) (ef : fi w 111 13 = -1) (ep : fi w 111 12 = nI p) (hl : p < n) : sx_RP xs (d + 8) 210 83 [(0, .ref 111), (1, .int c), (2, .int f)] [] w (fun r w2 => (r = some (.int (-1 - nI p)) ∧ ia w2 112 = ia w 115 ∧ fi w2 111 11 = 0) ∧ WI w2 ∧ OE w w2) := by
  have hn := hM.2.1
  refine sx_RP.step (pc2 := 84) (ls2 := [(0, .ref 111), (1, .int c), (2, .int f)]) (st2 := [.ref 111]) (w3 := w) rfl rfl ?_
  refine sx_RP.gf (v := .int (fi w 111 13)) rfl rfl hI.1.o111 rfl rfl (show _ = 87 from rfl) ?_
  rw [ef]
  refine sx_RP.step (pc2 := 90) (ls2 := [(0, .ref 111), (1, .int c), (2, .int f)]) (st2 := []) (w3 := w) rfl rfl ?_
  refine sx_RP.step (pc2 := 91) (ls2 := [(0, .ref 111), (1, .int c), (2, .int f)]) (st2 := [.ref 111]) (w3 := w) rfl rfl ?_
  refine sx_RP.gf (v := .int (fi w 111 12)) rfl rfl hI.1.o111 rfl rfl (show _ = 94 from rfl) ?_
  rw [ep]
  refine sx_RP.step (pc2 := 95) (ls2 := [(0, .ref 111), (1, .int c), (2, .int f)]) (st2 := [.ref 111, .int (nI p)]) (w3 := w) rfl rfl ?_
  refine sx_RP.gf (v := .int (fi w 111 11)) rfl rfl hI.1.o111 rfl rfl (show _ = 98 from rfl) ?_
  rw [hM.1]
  refine sx_RP.br (p2 := 101) (l2 := [(0, .ref 111), (1, .int c), (2, .int f)]) (s2 := []) (v2 := w) rfl rfl (fun q => absurd (of_decide_eq_true q) (fun z => absurd ((nI_leI (a := n) (b := p) (by omega) (by omega)).mp z) (by omega))) (fun _ => ?_)
  refine sx_RP.step (pc2 := 102) (ls2 := [(0, .ref 111), (1, .int c), (2, .int f)]) (st2 := [.ref 111]) (w3 := w) rfl rfl ?_
  refine sx_RP.callp (as2 := [.ref 111]) (rest2 := []) rfl rfl (sx_inv_v2 (mi := 210) (k := 245) (st := [.ref 111]) (w := w) rfl rfl hI.1.o111 rfl rfl rfl) rfl rfl rfl (y222 (p := p) hI ef ep) (show _ = 105 from rfl) ?_
  rintro r4 w3 ⟨⟨rfl, hv1⟩, hI4, hO2⟩
  show sx_RP _ _ _ _ _ [.int 0] _ _
  have hx1 := (HS.om hO2.hs).oe
  have hx3 := HS.row hO2.hs
  refine sx_RP.step (pc2 := 106) (ls2 := [(0, .ref 111), (1, .int c), (2, .int f)]) (st2 := []) (w3 := w3) rfl rfl ?_
  refine sx_RP.step (pc2 := 107) (ls2 := [(0, .ref 111), (1, .int c), (2, .int f)]) (st2 := [.ref 111]) (w3 := w3) rfl rfl ?_
  refine sx_RP.step (pc2 := 108) (ls2 := [(0, .ref 111), (1, .int c), (2, .int f)]) (st2 := [.int 0, .ref 111]) (w3 := w3) rfl rfl ?_
  refine sx_RP.xJ (k := 11) hI4 rfl rfl (by decide) rfl ⟨0, by decide, rfl⟩ (show _ = 111 from rfl) (fun w5 hI6 hs7 hv8 hr9 => ?_)
  have hO10 := OE.tr (hx1) (⟨fun a h1 _ => hs7 a h1, fun j hj => hr9 j (by omega)⟩ : OE w3 w5)
  have ex11 := (hr9 13 (by decide)).trans hv1
  refine sx_RP.step (pc2 := 112) (ls2 := [(0, .ref 111), (1, .int c), (2, .int f)]) (st2 := [.ref 111]) (w3 := w5) rfl rfl ?_
  refine sx_RP.gf (v := .int (fi w5 111 13)) rfl rfl hI6.1.o111 rfl rfl (show _ = 115 from rfl) ?_
  rw [ex11]
  refine sx_RP.br (p2 := 118) (l2 := [(0, .ref 111), (1, .int c), (2, .int f)]) (s2 := []) (v2 := w5) rfl rfl (fun q => absurd (of_decide_eq_true q) (fun z => absurd z (Int32.not_lt.mpr (nI_le (a := 0) (b := p) (Nat.zero_le _) (by omega))))) (fun _ => ?_)
  refine sx_RP.step (pc2 := 119) (ls2 := [(0, .ref 111), (1, .int c), (2, .int f)]) (st2 := [.ref 111]) (w3 := w5) rfl rfl ?_
  refine sx_RP.gf (v := .ref 115) rfl rfl hI6.1.o111 rfl rfl (show _ = 122 from rfl) ?_
  refine sx_RP.step (pc2 := 123) (ls2 := [(0, .ref 111), (1, .int c), (2, .int f)]) (st2 := [.ref 111, .ref 115]) (w3 := w5) rfl rfl ?_
  refine sx_RP.gf (v := .ref 112) rfl rfl hI6.1.o111 rfl rfl (show _ = 126 from rfl) ?_
  refine sx_RP.callp (as2 := [.ref 115, .ref 112]) (rest2 := []) rfl rfl rfl rfl rfl rfl (K175 hI6 (a := 115) (b := 112) (by decide) (by decide) (by decide)) (show _ = 129 from rfl) ?_
  rintro r4 w16 ⟨rfl, hI17, hl12⟩
  show sx_RP _ _ _ _ _ [] _ _
  have hO13 := OE.tr hO10 (OE.st hl12.1)
  have ex14 := (fi_same 13 (hl12.1 111 (by decide))).trans ex11
  have ex15 := (fi_same 11 (hl12.1 111 (by decide))).trans hv8
  refine sx_RP.step (pc2 := 130) (ls2 := [(0, .ref 111), (1, .int c), (2, .int f)]) (st2 := [.int (-1)]) (w3 := w16) rfl rfl ?_
  refine sx_RP.step (pc2 := 131) (ls2 := [(0, .ref 111), (1, .int c), (2, .int f)]) (st2 := [.ref 111, .int (-1)]) (w3 := w16) rfl rfl ?_
  refine sx_RP.gf (v := .int (fi w16 111 13)) rfl rfl hI17.1.o111 rfl rfl (show _ = 134 from rfl) ?_
  rw [ex14]
  refine sx_RP.step (pc2 := 135) (ls2 := [(0, .ref 111), (1, .int c), (2, .int f)]) (st2 := [.int ((-1) - (nI p))]) (w3 := w16) rfl rfl ?_
  refine sx_RP.ret (r := (some (.int ((-1) - (nI p))))) rfl rfl ?_
  exact ⟨⟨rfl, hl12.2.trans (ia_of (hO10.1 115 (by decide) (by decide))), ex15⟩, hI17, hO13⟩
set_option maxRecDepth 20000 in
set_option maxHeartbeats 4000000 in
theorem y210c {xs : Option (List Int32)} {d : Nat} {w : List sx_C} (hI : WI w) {n p : Nat} {X : Nat → Nat} {c f : Int32} (hM : MT n X w) (hp : p ≤ n) (ef : fi w 111 13 = -1) (ep : fi w 111 12 = nI p) (hl : ¬ p < n) : sx_RP xs (d + 8) 210 83 [(0, .ref 111), (1, .int c), (2, .int f)] [] w (fun r w2 => (r = some (.int c) ∧ ia w2 112 = ia w 112 ∧ fi w2 111 11 = 0) ∧ WI w2 ∧ OE w w2) := by
  have hn := hM.2.1
  refine sx_RP.step (pc2 := 84) (ls2 := [(0, .ref 111), (1, .int c), (2, .int f)]) (st2 := [.ref 111]) (w3 := w) rfl rfl ?_
  refine sx_RP.gf (v := .int (fi w 111 13)) rfl rfl hI.1.o111 rfl rfl (show _ = 87 from rfl) ?_
  rw [ef]
  refine sx_RP.step (pc2 := 90) (ls2 := [(0, .ref 111), (1, .int c), (2, .int f)]) (st2 := []) (w3 := w) rfl rfl ?_
  refine sx_RP.step (pc2 := 91) (ls2 := [(0, .ref 111), (1, .int c), (2, .int f)]) (st2 := [.ref 111]) (w3 := w) rfl rfl ?_
  refine sx_RP.gf (v := .int (fi w 111 12)) rfl rfl hI.1.o111 rfl rfl (show _ = 94 from rfl) ?_
  rw [ep]
  refine sx_RP.step (pc2 := 95) (ls2 := [(0, .ref 111), (1, .int c), (2, .int f)]) (st2 := [.ref 111, .int (nI p)]) (w3 := w) rfl rfl ?_
  refine sx_RP.gf (v := .int (fi w 111 11)) rfl rfl hI.1.o111 rfl rfl (show _ = 98 from rfl) ?_
  rw [hM.1]
  refine sx_RP.br (p1 := 106) (l1 := [(0, .ref 111), (1, .int c), (2, .int f)]) (s1 := []) (v1 := w) rfl rfl (fun _ => ?_) (fun q => absurd (nI_le (a := n) (b := p) (by omega) (by omega)) (of_decide_eq_false q))
  refine sx_RP.step (pc2 := 107) (ls2 := [(0, .ref 111), (1, .int c), (2, .int f)]) (st2 := [.ref 111]) (w3 := w) rfl rfl ?_
  refine sx_RP.step (pc2 := 108) (ls2 := [(0, .ref 111), (1, .int c), (2, .int f)]) (st2 := [.int 0, .ref 111]) (w3 := w) rfl rfl ?_
  refine sx_RP.xJ (k := 11) hI rfl rfl (by decide) rfl ⟨0, by decide, rfl⟩ (show _ = 111 from rfl) (fun w1 hI2 hs3 hv4 hr5 => ?_)
  have hO6 := OE.tr (OM.rf.oe) (⟨fun a h1 _ => hs3 a h1, fun j hj => hr5 j (by omega)⟩ : OE w w1)
  have ex7 := (hr5 13 (by decide)).trans ef
  refine sx_RP.step (pc2 := 112) (ls2 := [(0, .ref 111), (1, .int c), (2, .int f)]) (st2 := [.ref 111]) (w3 := w1) rfl rfl ?_
  refine sx_RP.gf (v := .int (fi w1 111 13)) rfl rfl hI2.1.o111 rfl rfl (show _ = 115 from rfl) ?_
  rw [ex7]
  refine sx_RP.step (pc2 := 136) (ls2 := [(0, .ref 111), (1, .int c), (2, .int f)]) (st2 := []) (w3 := w1) rfl rfl ?_
  refine sx_RP.step (pc2 := 137) (ls2 := [(0, .ref 111), (1, .int c), (2, .int f)]) (st2 := [.int c]) (w3 := w1) rfl rfl ?_
  refine sx_RP.ret (r := (some (.int c))) rfl rfl ?_
  exact ⟨⟨rfl, ia_of (hs3 112 (by decide)), hv4⟩, hI2, hO6⟩
theorem yF {w0 w : List sx_C} {n p : Nat} {b : BB} (hO : OM w0 w) (hn : n ≤ 120) (hp : p ≤ n) : ∀ r w2, (r = some (Value.int (-1 - nI p)) ∧ ia w2 112 = ia w 115 ∧ fi w2 111 11 = 0) ∧ WI w2 ∧ OE w w2 → (r = some (.int (((-1 - nI p, b) : Int32 × BB)).1) ∧ rowB (ia w2 112) = (if 0 ≤ (((-1 - nI p, b) : Int32 × BB)).1 then (((-1 - nI p, b) : Int32 × BB)).2 else rowB (ia w0 115)) ∧ fi w2 111 11 = 0) ∧ WI w2 ∧ OE w0 w2 := by
  rintro r w2 ⟨⟨h1, h2, h3⟩, h4, h5⟩
  refine ⟨⟨h1, ?_, h3⟩, h4, hO.oe.tr h5⟩
  rw [if_neg (neg_p (show p ≤ 120 by omega)), h2, ia_of (hO.1 115 (by decide) (by decide))]
theorem yG {w0 w : List sx_C} {it : Nat} {b : BB} (hO : OM w0 w) (hB : rowB (ia w 112) = b) (hi : it < 2 ^ 31) : ∀ r w2, (r = some (Value.int (nI it)) ∧ ia w2 112 = ia w 112 ∧ fi w2 111 11 = 0) ∧ WI w2 ∧ OE w w2 → (r = some (.int (((nI it, b) : Int32 × BB)).1) ∧ rowB (ia w2 112) = (if 0 ≤ (((nI it, b) : Int32 × BB)).1 then (((nI it, b) : Int32 × BB)).2 else rowB (ia w0 115)) ∧ fi w2 111 11 = 0) ∧ WI w2 ∧ OE w0 w2 := by
  rintro r w2 ⟨⟨h1, h2, h3⟩, h4, h5⟩
  refine ⟨⟨h1, ?_, h3⟩, h4, hO.oe.tr h5⟩
  rw [if_pos (show (0 : Int32) ≤ nI it from nI_le (a := 0) (b := it) (Nat.zero_le _) (by omega)), h2, hB]
set_option maxRecDepth 20000 in
set_option maxHeartbeats 4000000 in
theorem y210L {xs : Option (List Int32)} {d n : Nat} {X : Nat → Nat} {w0 : List sx_C} : ∀ (fz it h q : Nat) (b : BB) (w : List sx_C), n + 1 ≤ fz + q → it + fz ≤ 121 → h ≤ n → rE blk n X h = q → WI w → MT n X w → fi w 111 12 = nI h → fi w 111 13 = -1 → rowB (ia w 112) = b → OM w0 w → sx_RP xs (d + 8) 210 25 [(0, .ref 111), (1, .int (nI it)), (2, .int 1)] [] w (fun r w2 => (r = some (.int (teL n X fz it q b).1) ∧ rowB (ia w2 112) = (if 0 ≤ (teL n X fz it q b).1 then (teL n X fz it q b).2 else rowB (ia w0 115)) ∧ fi w2 111 11 = 0) ∧ WI w2 ∧ OE w0 w2)
  | 0, it, h, q, b, w, h0, hi, hp, hP, hI, hM, ep, ef, hB, hO => absurd (show q ≤ n by rw [← hP]; exact rE_le hp) (by omega)
  | fz + 1, it, h, q, b, w, h0, hi, hp, hP, hI, hM, ep, ef, hB, hO => by
    have hn := hM.2.1
    have hpl : q ≤ n := by rw [← hP]; exact rE_le hp
    refine sx_RP.step (pc2 := 26) (ls2 := [(0, .ref 111), (1, .int (nI it)), (2, .int 1)]) (st2 := [.int 1]) (w3 := w) rfl rfl ?_
    refine sx_RP.step (pc2 := 29) (ls2 := [(0, .ref 111), (1, .int (nI it)), (2, .int 1)]) (st2 := []) (w3 := w) rfl rfl ?_
    refine sx_RP.step (pc2 := 30) (ls2 := [(0, .ref 111), (1, .int (nI it)), (2, .int 1)]) (st2 := [.ref 111]) (w3 := w) rfl rfl ?_
    have hru := row_u hI hB
    refine sx_RP.callp (as2 := [.ref 111]) (rest2 := []) rfl rfl (sx_inv_v2 (mi := 210) (k := 333) (st := [.ref 111]) (w := w) rfl rfl hI.1.o111 rfl rfl rfl) rfl rfl rfl (y211 hI hM hp ep ef hP hB rfl rfl hru.1 hru.2) (show _ = 33 from rfl) ?_
    rintro r4 w3 ⟨⟨rfl, hr1⟩, hI4, hO2⟩
    show sx_RP _ _ _ _ _ [.int (b01 (itT n X q b).1)] _ _
    have hM5 := hM.om hO2
    have hO6 := hO.tr hO2
    refine sx_RP.br (p1 := 83) (l1 := [(0, .ref 111), (1, .int (nI it)), (2, .int 1)]) (s1 := []) (v1 := w3) (p2 := 36) (l2 := [(0, .ref 111), (1, .int (nI it)), (2, .int 1)]) (s2 := []) (v2 := w3) rfl rfl (fun q7 => ?_) (fun q7 => ?_)
    · replace q7 := of_decide_eq_true q7
      have eR : teL n X (fz + 1) it q b = (-1 - nI (itT n X q b).2.1, b) := by unfold teL; rw [if_neg (by rw [b01_f q7]; decide)]
      rw [eR]
      refine sx_RP.ls (sx_lr.cons rfl (sx_lr.cons rfl (sx_lr.cons rfl sx_lr.nil))) ((y210a (p := (itT n X q b).2.1) hI4 hM5 (itT_le hpl) (hr1.2 (b01_f q7))).mono9 (yF hO6 (by omega) (itT_le hpl)))
    · replace q7 := of_decide_eq_false q7
      refine sx_RP.step (pc2 := 39) (ls2 := [(1, .int ((nI it) + 1)), (0, .ref 111), (2, .int 1)]) (st2 := []) (w3 := w3) rfl rfl ?_
      rw [nI_1 it]
      refine sx_RP.step (pc2 := 40) (ls2 := [(1, .int (nI (it + 1))), (0, .ref 111), (2, .int 1)]) (st2 := [.ref 111]) (w3 := w3) rfl rfl ?_
      obtain ⟨ef2, hB2, h2, hp2, ep2, hP2⟩ := hr1.1 (b01_t q7)
      refine sx_RP.callp (as2 := [.ref 111]) (rest2 := []) rfl rfl (sx_inv_v2 (mi := 210) (k := 224) (st := [.ref 111]) (w := w3) rfl rfl hI4.1.o111 rfl rfl rfl) rfl rfl rfl (y215 hI4 hM5 hp2 ep2) (show _ = 43 from rfl) ?_
      rintro r4 w11 ⟨⟨rfl, ep8⟩, hI12, hO9⟩
      show sx_RP _ _ _ _ _ [] _ _
      rw [hP2] at ep8
      have ef13 := (hO9.2 13 (by decide)).trans ef2
      have hq2 : (itT n X q b).2.1 ≤ n := itT_le hpl
      have hq3 : q ≤ (itT n X q b).2.1 := itT_ge (Nat.le_refl q)
      have hP3 : rE blk n X (itT n X q b).2.1 = (itT n X q b).2.1 := by rw [← hP2]; exact rE_rE
      have hM14 := hM5.hs hO9.hs
      have hO15 := hO6.tr (HS.om hO9.hs)
      have hB16 : rowB (ia w11 112) = (itT n X q b).2.2 := by rw [HS.row hO9.hs]; exact hB2
      refine sx_RP.step (pc2 := 44) (ls2 := [(1, .int (nI (it + 1))), (0, .ref 111), (2, .int 1)]) (st2 := [.ref 111]) (w3 := w11) rfl rfl ?_
      refine sx_RP.step (pc2 := 45) (ls2 := [(1, .int (nI (it + 1))), (0, .ref 111), (2, .int 1)]) (st2 := [.ref 111, .ref 111]) (w3 := w11) rfl rfl ?_
      refine sx_RP.gf (v := .int (fi w11 111 12)) rfl rfl hI12.1.o111 rfl rfl (show _ = 48 from rfl) ?_
      rw [ep8]
      refine sx_RP.cu (as := [.ref 111, .int (nI ((itT n X q b).2.1))]) (rest2 := []) (st3 := [.int (bA n X (itT n X q b).2.1)]) rfl rfl (sx_inv_v2 (mi := 210) (k := 215) (st := [.int (nI ((itT n X q b).2.1)), .ref 111]) (w := w11) rfl rfl hI12.1.o111 rfl rfl rfl) rfl rfl (y216 hI12 hM14 (by omega)) rfl ?_
      refine sx_RP.step (pc2 := 53) (ls2 := [(1, .int (nI (it + 1))), (0, .ref 111), (2, .int 1)]) (st2 := [.int 59, .int (bA n X (itT n X q b).2.1)]) (w3 := w11) rfl rfl ?_
      refine sx_RP.br (p1 := 60) (l1 := [(1, .int (nI (it + 1))), (0, .ref 111), (2, .int 1)]) (s1 := []) (v1 := w11) (p2 := 56) (l2 := [(1, .int (nI (it + 1))), (0, .ref 111), (2, .int 1)]) (s2 := []) (v2 := w11) rfl rfl (fun q17 => ?_) (fun q17 => ?_)
      · replace q17 := of_decide_eq_true q17
        refine sx_RP.step (pc2 := 61) (ls2 := [(1, .int (nI (it + 1))), (0, .ref 111), (2, .int 1)]) (st2 := [.int 0]) (w3 := w11) rfl rfl ?_
        refine sx_RP.step (pc2 := 62) (ls2 := [(2, .int 0), (1, .int (nI (it + 1))), (0, .ref 111)]) (st2 := []) (w3 := w11) rfl rfl ?_
        refine sx_RP.step (pc2 := 63) (ls2 := [(2, .int 0), (1, .int (nI (it + 1))), (0, .ref 111)]) (st2 := [.ref 111]) (w3 := w11) rfl rfl ?_
        refine sx_RP.step (pc2 := 64) (ls2 := [(2, .int 0), (1, .int (nI (it + 1))), (0, .ref 111)]) (st2 := [.ref 111, .ref 111]) (w3 := w11) rfl rfl ?_
        refine sx_RP.gf (v := .int (fi w11 111 12)) rfl rfl hI12.1.o111 rfl rfl (show _ = 67 from rfl) ?_
        rw [ep8]
        refine sx_RP.step (pc2 := 68) (ls2 := [(2, .int 0), (1, .int (nI (it + 1))), (0, .ref 111)]) (st2 := [.int 0, .int (nI ((itT n X q b).2.1)), .ref 111]) (w3 := w11) rfl rfl ?_
        refine sx_RP.step (pc2 := 75) (ls2 := [(2, .int 0), (1, .int (nI (it + 1))), (0, .ref 111)]) (st2 := [.int (nI ((itT n X q b).2.1)), .ref 111]) (w3 := w11) rfl rfl ?_
        refine sx_RP.step (pc2 := 76) (ls2 := [(2, .int 0), (1, .int (nI (it + 1))), (0, .ref 111)]) (st2 := [.int 0, .int (nI ((itT n X q b).2.1)), .ref 111]) (w3 := w11) rfl rfl ?_
        refine sx_RP.step (pc2 := 77) (ls2 := [(2, .int 0), (1, .int (nI (it + 1))), (0, .ref 111)]) (st2 := [.int ((nI ((itT n X q b).2.1)) + 0), .ref 111]) (w3 := w11) rfl rfl ?_
        rw [show ((nI ((itT n X q b).2.1)) + 0 : Int32) = nI (((itT n X q b).2.1) + 0) from nI_add ((itT n X q b).2.1) 0]
        have h59 : ¬ ((itT n X q b).2.1 < n ∧ X (itT n X q b).2.1 = 59) := fun z => q17 ((bA_59 (fun z => hM.x z)).mpr z)
        refine sx_RP.pm (k := 12) hI12 EM.rf rfl rfl (by decide) rfl (inR.n (show (((itT n X q b).2.1) + 0) ≤ 120 by omega)) (show _ = 80 from rfl) (fun w18 hI19 hE20 hv21 hr22 hs23 => ?_)
        have hh24 : H12 w11 w18 := ⟨hs23, hr22⟩
        have ef25 := (hr22 13 (by decide)).trans ef13
        have hM26 := hM14.hs hh24.hs
        have hO27 := hO15.tr (HS.om hh24.hs)
        have hB28 : rowB (ia w18 112) = (itT n X q b).2.2 := by rw [HS.row hh24.hs]; exact hB16
        refine sx_RP.step (pc2 := 25) (ls2 := [(2, .int 0), (1, .int (nI (it + 1))), (0, .ref 111)]) (st2 := []) (w3 := w18) rfl rfl ?_
        have hs3 := fun z => h59 ((so_3 (fun i hi => hM.x hi)).mp z)
        refine sx_RP.step (pc2 := 26) (ls2 := [(2, .int 0), (1, .int (nI (it + 1))), (0, .ref 111)]) (st2 := [.int 0]) (w3 := w18) rfl rfl ?_
        refine sx_RP.step (pc2 := 83) (ls2 := [(2, .int 0), (1, .int (nI (it + 1))), (0, .ref 111)]) (st2 := []) (w3 := w18) rfl rfl ?_
        by_cases hlt : (itT n X q b).2.1 < n
        · have eR : teL n X (fz + 1) it q b = (-1 - nI (itT n X q b).2.1, b) := by unfold teL; rw [if_pos (b01_t q7), if_neg (fun z => (so_0 (fun i hi => hM.x hi)).mp z hlt), if_neg hs3]
          rw [eR]
          refine sx_RP.ls (sx_lr.cons rfl (sx_lr.cons rfl (sx_lr.cons rfl sx_lr.nil))) ((y210b (p := (itT n X q b).2.1) hI19 hM26 hq2 ef25 hv21 hlt).mono9 (yF hO27 (by omega) hq2))
        · have eR : teL n X (fz + 1) it q b = (nI (it + 1), (itT n X q b).2.2) := by unfold teL; rw [if_pos (b01_t q7), if_pos ((so_0 (fun i hi => hM.x hi)).mpr hlt)]
          rw [eR]
          refine sx_RP.ls (sx_lr.cons rfl (sx_lr.cons rfl (sx_lr.cons rfl sx_lr.nil))) ((y210c (p := (itT n X q b).2.1) hI19 hM26 hq2 ef25 hv21 hlt).mono9 (yG hO27 hB28 (by omega)))
      · replace q17 := Decidable.not_not.mp (of_decide_eq_false q17)
        refine sx_RP.step (pc2 := 57) (ls2 := [(1, .int (nI (it + 1))), (0, .ref 111), (2, .int 1)]) (st2 := [.int 1]) (w3 := w11) rfl rfl ?_
        refine sx_RP.step (pc2 := 61) (ls2 := [(1, .int (nI (it + 1))), (0, .ref 111), (2, .int 1)]) (st2 := [.int 1]) (w3 := w11) rfl rfl ?_
        refine sx_RP.step (pc2 := 62) (ls2 := [(2, .int 1), (1, .int (nI (it + 1))), (0, .ref 111)]) (st2 := []) (w3 := w11) rfl rfl ?_
        refine sx_RP.step (pc2 := 63) (ls2 := [(2, .int 1), (1, .int (nI (it + 1))), (0, .ref 111)]) (st2 := [.ref 111]) (w3 := w11) rfl rfl ?_
        refine sx_RP.step (pc2 := 64) (ls2 := [(2, .int 1), (1, .int (nI (it + 1))), (0, .ref 111)]) (st2 := [.ref 111, .ref 111]) (w3 := w11) rfl rfl ?_
        refine sx_RP.gf (v := .int (fi w11 111 12)) rfl rfl hI12.1.o111 rfl rfl (show _ = 67 from rfl) ?_
        rw [ep8]
        refine sx_RP.step (pc2 := 68) (ls2 := [(2, .int 1), (1, .int (nI (it + 1))), (0, .ref 111)]) (st2 := [.int 1, .int (nI ((itT n X q b).2.1)), .ref 111]) (w3 := w11) rfl rfl ?_
        refine sx_RP.step (pc2 := 71) (ls2 := [(2, .int 1), (1, .int (nI (it + 1))), (0, .ref 111)]) (st2 := [.int (nI ((itT n X q b).2.1)), .ref 111]) (w3 := w11) rfl rfl ?_
        refine sx_RP.step (pc2 := 72) (ls2 := [(2, .int 1), (1, .int (nI (it + 1))), (0, .ref 111)]) (st2 := [.int 1, .int (nI ((itT n X q b).2.1)), .ref 111]) (w3 := w11) rfl rfl ?_
        refine sx_RP.step (pc2 := 76) (ls2 := [(2, .int 1), (1, .int (nI (it + 1))), (0, .ref 111)]) (st2 := [.int 1, .int (nI ((itT n X q b).2.1)), .ref 111]) (w3 := w11) rfl rfl ?_
        refine sx_RP.step (pc2 := 77) (ls2 := [(2, .int 1), (1, .int (nI (it + 1))), (0, .ref 111)]) (st2 := [.int ((nI ((itT n X q b).2.1)) + 1), .ref 111]) (w3 := w11) rfl rfl ?_
        rw [show ((nI ((itT n X q b).2.1)) + 1 : Int32) = nI (((itT n X q b).2.1) + 1) from nI_add ((itT n X q b).2.1) 1]
        have h59 := (bA_59 (fun z => hM.x z)).mp q17
        refine sx_RP.pm (k := 12) hI12 EM.rf rfl rfl (by decide) rfl (inR.n (show (((itT n X q b).2.1) + 1) ≤ 120 by omega)) (show _ = 80 from rfl) (fun w29 hI30 hE31 hv32 hr33 hs34 => ?_)
        have hh35 : H12 w11 w29 := ⟨hs34, hr33⟩
        have ef36 := (hr33 13 (by decide)).trans ef13
        have hM37 := hM14.hs hh35.hs
        have hO38 := hO15.tr (HS.om hh35.hs)
        have hB39 : rowB (ia w29 112) = (itT n X q b).2.2 := by rw [HS.row hh35.hs]; exact hB16
        refine sx_RP.step (pc2 := 25) (ls2 := [(2, .int 1), (1, .int (nI (it + 1))), (0, .ref 111)]) (st2 := []) (w3 := w29) rfl rfl ?_
        have hs3 := (so_3 (fun i hi => hM.x hi)).mpr h59
        have hbe : beT n X (itT n X q b).2.1 = (itT n X q b).2.1 + 1 := be_3 h59.1 ((sort_3 ⟨X (itT n X q b).2.1, hM.x h59.1⟩).mpr h59.2)
        have hnp : rE blk n X ((itT n X q b).2.1 + 1) = nP n X (itT n X q b).2.1 := by unfold nP; rw [hbe]
        have hng : (itT n X q b).2.1 + 1 ≤ nP n X (itT n X q b).2.1 := by rw [← hnp]; exact rE_ge
        have eR : teL n X (fz + 1) it q b = teL n X fz (it + 1) (nP n X (itT n X q b).2.1) (itT n X q b).2.2 := by conv => lhs; unfold teL; rw [if_pos (b01_t q7), if_neg (show ¬ soT n X (itT n X q b).2.1 = 0 by rw [hs3]; decide), if_pos hs3]
        rw [eR]
        exact sx_RP.ls (sx_lr.cons rfl (sx_lr.cons rfl (sx_lr.cons rfl sx_lr.nil))) (y210L fz (it + 1) ((itT n X q b).2.1 + 1) (nP n X (itT n X q b).2.1) (itT n X q b).2.2 w29 (by omega) (by omega) (by omega) hnp hI30 hM37 hv32 ef36 hB39 hO38)
set_option maxRecDepth 20000 in
set_option maxHeartbeats 4000000 in
theorem y210 {xs : Option (List Int32)} {d : Nat} {w : List sx_C} (hI : WI w) {n : Nat} {X : Nat → Nat} (hM : MT n X w) : sx_RP xs (d + 8) 210 0 (lv_args 0 [.ref 111]) [] w (fun r w2 => (r = some (.int (teL n X 121 0 (rE blk n X 0) (rowB (ia w 112))).1) ∧ rowB (ia w2 112) = (if 0 ≤ (teL n X 121 0 (rE blk n X 0) (rowB (ia w 112))).1 then (teL n X 121 0 (rE blk n X 0) (rowB (ia w 112))).2 else rowB (ia w 112)) ∧ fi w2 111 11 = 0 ∧ ∀ j, j < 11 → fi w2 111 j = fi w 111 j) ∧ WI w2 ∧ ∀ a, a ≠ 111 → a ≠ 112 → a ≠ 115 → w2[a]? = w[a]?) := by
  have hn := hM.2.1
  refine sx_RP.step (pc2 := 1) (ls2 := [(0, .ref 111)]) (st2 := [.ref 111]) (w3 := w) rfl rfl ?_
  refine sx_RP.step (pc2 := 2) (ls2 := [(0, .ref 111)]) (st2 := [.int 0, .ref 111]) (w3 := w) rfl rfl ?_
  refine sx_RP.pm (k := 12) hI EM.rf rfl rfl (by decide) rfl ⟨0, by decide, rfl⟩ (show _ = 5 from rfl) (fun w1 hI2 hE3 hv4 hr5 hs6 => ?_)
  refine sx_RP.step (pc2 := 6) (ls2 := [(0, .ref 111)]) (st2 := [.ref 111]) (w3 := w1) rfl rfl ?_
  refine sx_RP.step (pc2 := 7) (ls2 := [(0, .ref 111)]) (st2 := [.int (-1), .ref 111]) (w3 := w1) rfl rfl ?_
  refine sx_RP.pm (k := 13) hI2 EM.rf rfl rfl (by decide) rfl trivial (show _ = 10 from rfl) (fun w7 hI8 hE9 hv10 hr11 hs12 => ?_)
  refine sx_RP.step (pc2 := 11) (ls2 := [(0, .ref 111)]) (st2 := [.ref 111]) (w3 := w7) rfl rfl ?_
  refine sx_RP.gf (v := .ref 112) rfl rfl hI8.1.o111 rfl rfl (show _ = 14 from rfl) ?_
  refine sx_RP.step (pc2 := 15) (ls2 := [(0, .ref 111)]) (st2 := [.ref 111, .ref 112]) (w3 := w7) rfl rfl ?_
  refine sx_RP.gf (v := .ref 115) rfl rfl hI8.1.o111 rfl rfl (show _ = 18 from rfl) ?_
  refine sx_RP.callp (as2 := [.ref 112, .ref 115]) (rest2 := []) rfl rfl rfl rfl rfl rfl (K175 hI8 (a := 112) (b := 115) (by decide) (by decide) (by decide)) (show _ = 21 from rfl) ?_
  rintro r4 w14 ⟨rfl, hI15, hl13⟩
  show sx_RP _ _ _ _ _ [] _ _
  have hc : ∀ a, a ≠ 111 → a ≠ 115 → w14[a]? = w[a]? := fun a h1 h2 => (hl13.1 a h2).trans ((hs12 a h1).trans (hs6 a h1))
  have hf : ∀ j, j < 12 → fi w14 111 j = fi w 111 j := fun j hj => (fi_same j (hl13.1 111 (by decide))).trans ((hr11 j (by omega)).trans (hr5 j (by omega)))
  have he : fi w14 111 12 = nI 0 := (fi_same 12 (hl13.1 111 (by decide))).trans ((hr11 12 (by decide)).trans hv4)
  have hg : fi w14 111 13 = -1 := (fi_same 13 (hl13.1 111 (by decide))).trans hv10
  have h5 : ia w14 115 = ia w 112 := by rw [hl13.2, ia_of (hs12 112 (by decide)), ia_of (hs6 112 (by decide))]
  have hM2 : MT n X w14 := ⟨(hf 11 (by decide)).trans hM.1, hM.2.1, fun i hi => by rw [ia_of (hc 121 (by decide) (by decide))]; exact hM.2.2 i hi⟩
  have hB2 : rowB (ia w14 112) = rowB (ia w 112) := by rw [ia_of (hc 112 (by decide) (by decide))]
  refine sx_RP.step (pc2 := 22) (ls2 := [(0, .ref 111)]) (st2 := [.int 0]) (w3 := w14) rfl rfl ?_
  refine sx_RP.step (pc2 := 23) (ls2 := [(1, .int 0), (0, .ref 111)]) (st2 := []) (w3 := w14) rfl rfl ?_
  refine sx_RP.step (pc2 := 24) (ls2 := [(1, .int 0), (0, .ref 111)]) (st2 := [.int 1]) (w3 := w14) rfl rfl ?_
  refine sx_RP.step (pc2 := 25) (ls2 := [(2, .int 1), (1, .int 0), (0, .ref 111)]) (st2 := []) (w3 := w14) rfl rfl ?_
  refine sx_RP.ls (sx_lr.cons rfl (sx_lr.cons rfl (sx_lr.cons rfl sx_lr.nil))) ((y210L 121 0 0 (rE blk n X 0) (rowB (ia w 112)) w14 (by omega) (by omega) (Nat.zero_le _) rfl hI15 hM2 he hg hB2 OM.rf).mono9 ?_)
  rintro r w2 ⟨⟨h1, h2, h3⟩, h4, h6⟩
  rw [h5] at h2
  exact ⟨⟨h1, h2, h3, fun j hj => (h6.2 j hj).trans (hf j (by omega))⟩, h4, fun a z1 z2 z3 => (h6.1 a z1 z2).trans (hc a z1 z3)⟩
end
-- 89w.siegeM.lean.txt
section
-- siege of the reference over group B's state
def TBm (t : BT) : Prop := ∀ i, i < t.2.2.2.length → ∃ j, j < 256 ∧ t.2.2.2.getD i 0 = nI j
theorem tapM_len9 {w : List sx_C} {n : Nat} (en : fi w 111 11 = nI n) (hn : n ≤ 120) : (FMb w).2.2.2.length = n := by
  show (tapM w).length = n
  unfold tapM
  rw [List.length_map, List.length_range, en, iN_n (by omega)]
theorem MT_of {w : List sx_C} (hI : WI w) (hY : TBm (FMb w)) : MT (FMb w).2.2.2.length (sieX (FMb w)) w := by
  obtain ⟨n, hn, en⟩ := hI.m.2.1
  have el := tapM_len9 en hn
  have hY2 := hY
  unfold TBm at hY2
  rw [el] at hY2 ⊢
  refine ⟨en, hn, fun i hi => ?_⟩
  obtain ⟨j, hj, e⟩ := hY2 i hi
  have ea : (tapM w).getD i 0 = (ia w 121).getD i 0 := by
    unfold tapM
    rw [map_at (by rw [en, iN_n (by omega)]; exact hi)]
  have ex : sieX (FMb w) i = j := by
    show iN ((tapM w).getD i 0) = j
    rw [show (tapM w).getD i 0 = nI j from e, iN_n (by omega)]
  rw [ex]
  exact ⟨ea.symm.trans e, hj⟩
theorem B210 {xs : Option (List Int32)} {d : Nat} {w : List sx_C} (hI : WI w) (hY : TBm (FMb w)) : sx_RP xs (d + 8) 210 0 (lv_args 0 [.ref 111]) [] w (fun r w2 => (r = some (.int ((sieT (FMb w)).1)) ∧ FMb w2 = sieU (FMb w)) ∧ WI w2 ∧ ∀ a, a < 111 → w2[a]? = w[a]?) := by
  refine (y210 hI (MT_of hI hY)).mono9 ?_
  rintro r w2 ⟨⟨h1, h2, h3, h4⟩, h5, h6⟩
  refine ⟨⟨h1, ?_⟩, h5, fun a ha => h6 a (by omega) (by omega) (by omega)⟩
  have et : tapM w2 = [] := by
    unfold tapM
    rw [h3]
    rfl
  show (rowB (ia w2 112), fi w2 111 4, (if fi w2 111 4 = 1 then rowB (ia w2 113) else nilB), tapM w2) = _
  rw [et, h4 4 (by decide), ia_of (h6 113 (by decide) (by decide) (by decide)), h2]
  rfl
theorem TBm_of {w : List sx_C} (hI : WI w) (hY : TBy w) (e : FCb w = FMb w) : TBm (FMb w) := by
  rw [← e]
  intro i hi
  obtain ⟨n, hn, en⟩ := hI.t.1
  rw [tapC_len en hn] at hi
  obtain ⟨j, hj, ej⟩ := hY i
  refine ⟨j, hj, ?_⟩
  show (tapC w).getD i 0 = nI j
  unfold tapC
  rw [map_at (by rw [en, iN_n (by omega)]; exact hi), ej]
  exact sgn_and ⟨j, hj⟩
end
-- 89x.keeps.lean.txt
section
-- what the law keeps: the bread's ranges, bytes in rows of bytes
theorem BR.same {b b2 : BB} (h : BR b) (e : b2.2.2 = b.2.2) : BR b2 := by
  unfold BR at h ⊢
  rw [e]
  exact h
theorem BR.o {b : BB} {o : Nat} (h : BR b) (ho : o ≤ 999999) : BR (setO (nI o) b) := by
  obtain ⟨_, m, r, _, _, h3⟩ := h
  exact ⟨o, m, r, rfl, ho, h3⟩
theorem BR.m {b : BB} {m : Nat} (h : BR b) (h1 : 1 ≤ m) (h2 : m ≤ 999) : BR (setM (nI m) b) := by
  obtain ⟨o, _, r, q1, q2, _, _, _, q6⟩ := h
  exact ⟨o, m, r, q1, q2, rfl, h1, h2, q6⟩
theorem BR.r {b : BB} {r : Nat} (h : BR b) (h1 : 1 ≤ r) (h2 : r ≤ 99) : BR (setR (nI r) b) := by
  obtain ⟨o, m, _, q1, q2, q3, q4, q5, _⟩ := h
  exact ⟨o, m, r, q1, q2, q3, q4, q5, rfl, h1, h2⟩
theorem rngB {a : Int32} {lo hi : Nat} (h1 : nI lo ≤ a) (h2 : a ≤ nI hi) (hl : lo < 2 ^ 31) (hh : hi < 2 ^ 31) : ∃ x, lo ≤ x ∧ x ≤ hi ∧ a = nI x := by
  have h0 : ¬ a < 0 := by
    intro z
    rw [Int32.lt_iff_toInt_lt, show (0 : Int32).toInt = 0 by decide] at z
    rw [Int32.le_iff_toInt_le, nI_toInt hl] at h1
    omega
  obtain ⟨x, hx, rfl⟩ := nI_of h0
  exact ⟨x, (nI_leI hl hx).mp h1, (nI_leI hx hh).mp h2, rfl⟩
def GT (t : BT) : Prop := BR t.1 ∧ (t.2.1 = 1 → BR t.2.2.1)
section SXGT
variable {t : BT}
theorem GT.c {b : BB} (h : GT t) (hb : BR b) : GT (b, t.2) := ⟨hb, h.2⟩
theorem GT.gal (h : GT t) (a1 a2 a3 a4 : Int32) : GT (galU t a1 a2 a3 a4) := by
  unfold galU
  split
  · split
    · exact h.c (h.1.same rfl)
    · exact h
  · exact h
theorem GT.bec (h : GT t) (a1 a2 : Int32) : GT (becU t a1 a2) := by
  unfold becU
  split
  · exact h.c (h.1.same rfl)
  · exact h
theorem GT.dis (h : GT t) (a1 : Int32) : GT (disU t a1) := by
  unfold disU
  split
  · split
    · exact h.c (h.1.same rfl)
    · exact h
  · exact h
theorem GT.mov (h : GT t) (a1 a2 : Int32) : GT (movU t a1 a2) := by
  unfold movU
  split
  · exact h.c (h.1.same rfl)
  · exact h
theorem GT.bre (h : GT t) (a1 a2 : Int32) : GT (breU t a1 a2) := by
  unfold breU
  split
  · rename_i q
    obtain ⟨x, _, h2, rfl⟩ := rngB (lo := 0) (hi := 999999) q.2.1 q.2.2 (by decide) (by decide)
    exact h.c (h.1.o h2)
  · split
    · rename_i q
      obtain ⟨x, h1, h2, rfl⟩ := rngB (lo := 1) (hi := 999) q.2.1 q.2.2 (by decide) (by decide)
      exact h.c (h.1.m h1 h2)
    · split
      · rename_i q
        obtain ⟨x, h1, h2, rfl⟩ := rngB (lo := 1) (hi := 99) q.2.1 q.2.2 (by decide) (by decide)
        exact h.c (h.1.r h1 h2)
      · exact h
theorem GT.img (h : GT t) : GT (imgU t) := ⟨h.1, fun _ => h.1⟩
theorem GT.und (h : GT t) : GT (undU t) := by
  unfold undU
  split
  · rename_i q
    exact ⟨h.2 q, h.2⟩
  · exact h
theorem GT.tea (h : GT t) : GT (teaU t) := ⟨h.1, fun z => absurd (show (0 : Int32) = 1 from z) (by decide)⟩
theorem GT.wip (h : GT t) : GT (wipU t) := ⟨h.1, h.2⟩
theorem GT.fee (h : GT t) (a1 a2 : Int32) : GT (feeU t a1 a2) := by
  unfold feeU
  split
  · split
    · exact ⟨h.1, h.2⟩
    · exact h
  · exact h
end SXGT
section SXBT
variable {n : Nat} {X : Nat → Nat}
theorem grT_b {b : BB} {last p : Nat} : (grT n X b last p).2.2 = b := by
  unfold grT
  split
  · split <;> rfl
  · rfl
theorem grL_b {b : BB} : ∀ f last p, (grL n X b f last p).2.2 = b
  | 0, last, p => grT_b
  | f + 1, last, p => by
    unfold grL
    split
    · split
      · exact grL_b f _ _
      · rfl
    · exact grT_b
theorem groT_b {b : BB} {p : Nat} : (groT n X p b).2.2 = b := by
  unfold groT
  split
  · exact grL_b _ _ _
  · rfl
theorem br2_b {b : BB} {p : Nat} (h : BR b) : BR (br2 n X p b).2.2 := by
  unfold br2
  split
  · split
    · rename_i q
      have e := wtT_t q
      have v := nmT_in e.2.1
      rw [e.2.2]
      exact h.r v.1 v.2
    · exact h
  · exact h
theorem br1_b {b : BB} {p : Nat} (h : BR b) : BR (br1 n X p b).2.2 := by
  unfold br1
  split
  · split
    · rename_i q
      have e := wtT_t q
      have v := nmT_in e.2.1
      rw [e.2.2]
      exact br2_b (h.m v.1 v.2)
    · exact h
  · exact br2_b h
theorem breT_b {b : BB} {p : Nat} (h : BR b) : BR (breT n X p b).2.2 := by
  unfold breT
  split
  · rename_i q
    exact br1_b (h.o (nmT_in q).2)
  · exact h
theorem disT_b {b : BB} {p : Nat} (h : BR b) : BR (disT n X p b).2.2 := by
  unfold disT
  split
  · split
    · exact h.same rfl
    · exact h
  · exact h
theorem galT_b {b : BB} {k p : Nat} (h : BR b) : BR (galT n X k p b).2.2 := by
  unfold galT
  split
  · split
    · split
      · split
        · exact h.same rfl
        · exact h
      · exact h
    · exact h
  · exact h
theorem itT_b {b : BB} {p : Nat} (h : BR b) : BR (itT n X p b).2.2 := by
  unfold itT
  split
  · split
    · split
      · exact disT_b h
      · split
        · exact breT_b h
        · exact h
    · exact galT_b h
  · rw [groT_b]
    exact h
theorem teL_b : ∀ (f it p : Nat) (b : BB), BR b → BR (teL n X f it p b).2
  | 0, it, p, b, h => h
  | f + 1, it, p, b, h => by
    unfold teL
    split
    · split
      · exact itT_b h
      · split
        · exact teL_b f _ _ _ (itT_b h)
        · exact h
    · exact h
end SXBT
theorem GT.sie {t : BT} (h : GT t) : GT (sieU t) := by
  refine ⟨?_, h.2⟩
  show BR (if 0 ≤ (sieT t).1 then (sieT t).2 else t.1)
  split
  · exact teL_b _ _ _ _ h.1
  · exact h.1
-- bytes
def bOK (w : List sx_C) : Prop := ∀ (a : Nat) (l : List Int32), w[a]? = some (.inl (2, l)) → ∀ v, v ∈ l → ∃ j, j < 256 ∧ v = sgn j
def sx_by (w w2 : List sx_C) : Prop := bOK w → bOK w2
theorem sx_by.rf (w : List sx_C) : sx_by w w := id
theorem sx_by.of {w w2 : List sx_C} (h : w2 = w) : sx_by w w2 := by subst h; exact sx_by.rf w2
theorem sx_by.tr {a b c : List sx_C} (h : sx_by a b) (h2 : sx_by b c) : sx_by a c := fun z => h2 (h z)
theorem sx_by.set {w : List sx_C} {a : Nat} {c : sx_C} (hc : bOK w → ∀ l : List Int32, c = .inl (2, l) → ∀ v, v ∈ l → ∃ j, j < 256 ∧ v = sgn j) : sx_by w (w.set a c) := by
  intro hb b l hl
  by_cases e : a = b
  · subst e
    have hlt : a < w.length := by
      have := (List.getElem?_eq_some_iff.mp hl).1
      rwa [List.length_set] at this
    rw [List.getElem?_set_self hlt] at hl
    exact hc hb l (Option.some.inj hl)
  · rw [List.getElem?_set_ne e] at hl
    exact hb b l hl
theorem nar_back : ∀ c : Fin 256, (nI c.val).toInt8.toBitVec = BitVec.ofNat 8 c.val := by decide +kernel
theorem nar_sgn (x : Int32) : ∃ j, j < 256 ∧ vp_nar .byte x = sgn j := by
  have hlt : x.toInt8.toBitVec.toNat < 256 := x.toInt8.toBitVec.isLt
  refine ⟨x.toInt8.toBitVec.toNat, hlt, ?_⟩
  rw [vp_nar_byte]
  unfold sgn
  congr 1
  apply Int8.toBitVec_inj.mp
  rw [nar_back ⟨_, hlt⟩]
  simp
theorem sx_y_pf {mi : Nat} {idx : Nat} {ls : sx_L} {pc : Nat} {st : List Value} {w : List sx_C} {F : sx_F} (h : sx_pf mi idx ls pc st w = some F) : sx_by w F.2.2.2 := by
  simp only [sx_pf, Bool.cond_eq_ite] at h
  (repeat' split at h) <;> first | (cases h; done) | (cases h; exact sx_by.set (fun _ l e => by cases e))
theorem sx_y_iast {ls : sx_L} {pc : Nat} {st : List Value} {w : List sx_C} {F : sx_F} (h : sx_iast ls pc st w = some F) : sx_by w F.2.2.2 := by
  simp only [sx_iast, Bool.cond_eq_ite] at h
  (repeat' split at h) <;> first | (cases h; done) | (cases h; exact sx_by.set (fun _ l e => absurd (Prod.mk.inj (Sum.inl.inj e)).1 (by decide)))
theorem sx_y_bast {ls : sx_L} {pc : Nat} {st : List Value} {w : List sx_C} {F : sx_F} (h : sx_bast ls pc st w = some F) : sx_by w F.2.2.2 := by
  simp only [sx_bast, Bool.cond_eq_ite] at h
  (repeat' split at h) <;> first | (cases h; done) | (cases h; exact sx_by.set (fun _ l e => absurd (Prod.mk.inj (Sum.inl.inj e)).1 (by decide))) | skip
  rename_i x i a r l0 hl0 hin
  cases h
  refine sx_by.set (fun hb l e v hv => ?_)
  have e2 := (Prod.mk.inj (Sum.inl.inj e)).2
  subst e2
  rcases List.mem_or_eq_of_mem_set hv with q | q
  · exact hb _ _ hl0 v q
  · rw [q]
    exact nar_sgn _
theorem sx_y_last {ls : sx_L} {pc : Nat} {st : List Value} {w : List sx_C} {F : sx_F} (h : sx_last ls pc st w = some F) : sx_by w F.2.2.2 := by
  simp only [sx_last, Bool.cond_eq_ite] at h
  (repeat' split at h) <;> first | (cases h; done) | (cases h; exact sx_by.set (fun _ l e => by cases e))
theorem sx_y_aast {ls : sx_L} {pc : Nat} {st : List Value} {w : List sx_C} {F : sx_F} (h : sx_aast ls pc st w = some F) : sx_by w F.2.2.2 := by
  simp only [sx_aast, Bool.cond_eq_ite] at h
  (repeat' split at h) <;> first | (cases h; done) | (cases h; exact sx_by.set (fun _ l e => by cases e))
theorem sx_y_acp {o idx : Nat} {ls : sx_L} {pc : Nat} {st : List Value} {w : List sx_C} {F : sx_F} (h : sx_acp o idx ls pc st w = some F) : sx_by w F.2.2.2 := by
  simp only [sx_acp, Bool.cond_eq_ite] at h
  (repeat' split at h) <;> first | (cases h; done) | (cases h; exact sx_by.set (fun _ l e => by cases e)) | (cases h; exact sx_by.set (fun _ l e => absurd (Prod.mk.inj (Sum.inl.inj e)).1 (by decide)))
set_option maxHeartbeats 4000000 in
theorem sx_y_step {md : Bool} (hm : md = false) {xs : Option (List Int32)} {mi pc n : Nat} {i : Instr} {ls : sx_L} {st : List Value} {w : List sx_C} {F : sx_F} (h : sx_step md xs mi pc i n ls st w = some F) : sx_by w F.2.2.2 := by
  unfold sx_step at h
  split at h
  · cases h; exact sx_by.rf _
  · cases h; exact sx_by.rf _
  · cases h; exact sx_by.rf _
  · cases h; exact sx_by.rf _
  · exact sx_by.of (sx_w_kc h)
  · exact sx_by.of (sx_w_kc h)
  · exact sx_by.of (sx_w_kj h)
  · exact sx_by.of (sx_w_ldi h)
  · exact sx_by.of (sx_w_ldi h)
  · exact sx_by.of (sx_w_ldl h)
  · exact sx_by.of (sx_w_ldl h)
  · exact sx_by.of (sx_w_lda h)
  · exact sx_by.of (sx_w_lda h)
  · exact sx_by.of (sx_w_sti h)
  · exact sx_by.of (sx_w_sti h)
  · exact sx_by.of (sx_w_stl h)
  · exact sx_by.of (sx_w_stl h)
  · exact sx_by.of (sx_w_sta h)
  · exact sx_by.of (sx_w_sta h)
  · exact sx_by.of (sx_w_inc h)
  · exact sx_by.of (sx_w_ii h)
  · exact sx_by.of (sx_w_ii h)
  · exact sx_by.of (sx_w_ii h)
  · exact sx_by.of (sx_w_ii h)
  · exact sx_by.of (sx_w_ii h)
  · exact sx_by.of (sx_w_ii h)
  · exact sx_by.of (sx_w_iz h)
  · exact sx_by.of (sx_w_iz h)
  · exact sx_by.of (sx_w_i1 h)
  · exact sx_by.of (sx_w_i1 h)
  · exact sx_by.of (sx_w_i1 h)
  · exact sx_by.of (sx_w_jj h)
  · exact sx_by.of (sx_w_jj h)
  · exact sx_by.of (sx_w_jj h)
  · exact sx_by.of (sx_w_jj h)
  · exact sx_by.of (sx_w_jj h)
  · exact sx_by.of (sx_w_jj h)
  · exact sx_by.of (sx_w_ji h)
  · exact sx_by.of (sx_w_ji h)
  · split at h
    · cases h; exact sx_by.rf _
    · cases h
  · split at h
    · cases h; exact sx_by.rf _
    · cases h
  · split at h
    · cases h; exact sx_by.rf _
    · cases h
  · exact sx_by.of (sx_w_dup h)
  · exact sx_by.of (sx_w_pop h)
  · exact sx_by.of (sx_w_dup2 h)
  · exact sx_by.of (sx_w_pop2 h)
  · exact sx_by.of (sx_w_b1 h)
  · exact sx_by.of (sx_w_b2 h)
  · exact sx_by.of (sx_w_b1 h)
  · exact sx_by.of (sx_w_b2 h)
  · exact sx_by.of (sx_w_b1 h)
  · exact sx_by.of (sx_w_b2 h)
  · exact sx_by.of (sx_w_b1 h)
  · exact sx_by.of (sx_w_b2 h)
  · exact sx_by.of (sx_w_b1 h)
  · exact sx_by.of (sx_w_b2 h)
  · exact sx_by.of (sx_w_b1 h)
  · exact sx_by.of (sx_w_b2 h)
  · split at h
    · cases h; exact sx_by.rf _
    · cases h
  · exact sx_by.of (sx_w_sw h)
  · exact sx_by.of (sx_w_gf h)
  · exact sx_y_pf h
  · exact sx_by.of (sx_w_gs h)
  · exact sx_by.of (sx_w_iald h)
  · exact sx_by.of (sx_w_bald h)
  · exact sx_by.of (sx_w_lald h)
  · exact sx_by.of (sx_w_aald h)
  · exact sx_y_iast h
  · exact sx_y_bast h
  · exact sx_y_last h
  · exact sx_y_aast h
  · exact sx_by.of (sx_w_len h)
  · cases md with
    | false => cases h
    | true => cases hm
  · cases md with
    | false => cases h
    | true => cases hm
  · cases md with
    | false => cases h
    | true => cases hm
  · cases md with
    | false => cases h
    | true => cases hm
  · exact sx_by.of (sx_w_obj h)
  · cases md with
    | true => cases h
    | false => exact sx_y_acp h
  · exact sx_by.of (sx_w_str h)
  · cases h
theorem sx_y_run (xs : Option (List Int32)) : ∀ (f d mi pc : Nat) (ls : sx_L) (st : List Value) (w : List sx_C) (r : Option Value) (w2 : List sx_C), sx_run false xs f d mi pc ls st w = some (r, w2) → sx_by w w2
  | 0, d, mi, pc, ls, st, w, r, w2, h => by cases h
  | f + 1, d, mi, pc, ls, st, w, r, w2, h => by
    unfold sx_run at h
    split at h
    · cases h
    · rename_i i n hi
      split at h
      · rename_i pc2 ls2 st2 w3 hs
        exact (sx_y_step rfl hs).tr (sx_y_run xs f d mi pc2 ls2 st2 w3 r w2 h)
      · split at h
        · cases h
          exact sx_by.rf _
        · split at h
          · rename_i mi2 as rest d2 hinv
            simp only [Bool.cond_eq_ite] at h
            split at h
            · split at h
              · rename_i r2 w4 hc
                exact (sx_y_run xs f d2 mi2 0 _ [] w r2 w4 hc).tr (sx_y_run xs f (d2 + 1) mi (pc + 3) ls _ w4 r w2 h)
              · cases h
            · cases h
          · cases h
theorem sx_RP.byk {xs : Option (List Int32)} {d mi pc : Nat} {ls : sx_L} {st : List Value} {w : List sx_C} {P : Option Value → List sx_C → Prop} (h : sx_RP xs d mi pc ls st w P) : sx_RP xs d mi pc ls st w (fun r w2 => P r w2 ∧ (bOK w → bOK w2)) := by
  obtain ⟨r, w2, ⟨f, hf⟩, hp⟩ := h
  exact ⟨r, w2, ⟨f, hf⟩, hp, sx_y_run xs f d mi pc ls st w r w2 hf⟩
theorem sgn_0 : sgn 0 = 0 := by decide
theorem TBy_of {w : List sx_C} (hI : WI w) (hb : bOK w) : TBy w := by
  intro i
  by_cases hi : i < (ia w 97).length
  · have hm : (ia w 97).getD i 0 ∈ ia w 97 := by
      rw [List.getD_eq_getElem?_getD, List.getElem?_eq_getElem hi]
      exact List.getElem_mem hi
    obtain ⟨j, hj, e⟩ := hb 97 _ hI.1.a97.1 _ hm
    exact ⟨j, hj, e⟩
  · refine ⟨0, by decide, ?_⟩
    rw [List.getD_eq_getElem?_getD, List.getElem?_eq_none (by omega), sgn_0]
    rfl
end
-- 89y01.far1.lean.txt
section
-- least sums: the equations, their one solution, ways there and back
def nb (c n : Nat) : Prop := ∃ j, j < 4 ∧ bsd c j = nI n
def nbb (c n : Nat) : Bool := (List.range 4).any (fun j => bsd c j == nI n)
theorem nbb_iff {c n : Nat} : nbb c n = true ↔ nb c n := by
  unfold nbb nb
  rw [List.any_eq_true]
  constructor
  · rintro ⟨j, hj, e⟩
    exact ⟨j, List.mem_range.mp hj, eq_of_beq e⟩
  · rintro ⟨j, hj, e⟩
    exact ⟨j, List.mem_range.mpr hj, by rw [e]; exact beq_self_eq_true _⟩
theorem nbb_sym : ∀ c, c < 48 → ∀ n, n < 48 → nbb c n = true → nbb n c = true := by decide +kernel
theorem nb.sym {c n : Nat} (hc : c < 48) (hn : n < 48) (h : nb c n) : nb n c := nbb_iff.mp (nbb_sym c hc n hn (nbb_iff.mpr h))
theorem nb.ne {c n : Nat} (hc : c < 48) (h : nb c n) : n ≠ c := by
  obtain ⟨j, hj, e⟩ := h
  intro z
  rw [z] at e
  exact bsd_self c hc j hj e
def rlx (k : Nat → Nat) (op : Nat → Bool) (D : Nat → Nat) : Prop := ∀ c n, c < 48 → n < 48 → nb c n → op n = true → D n ≤ D c + k n
def slt (k : Nat → Nat) (op : Nat → Bool) (src : Nat) (D : Nat → Nat) : Prop := D src = 0 ∧ (∀ c, c < 48 → D c ≤ 1000000) ∧ rlx k op D ∧ ∀ c, c < 48 → c ≠ src → D c < 1000000 → op c = true ∧ ∃ n, n < 48 ∧ nb n c ∧ D n + k c ≤ D c
section SXLS
variable {k : Nat → Nat} {op : Nat → Bool} {src : Nat} {D E G : Nat → Nat}
theorem slt_le (hk : ∀ c, c < 48 → op c = true → 1 ≤ k c) (hE : rlx k op E) (hG : ∀ c, c < 48 → E c ≤ G c ∨ (op c = true ∧ ∃ n, n < 48 ∧ nb n c ∧ G n + k c ≤ G c)) : ∀ c, c < 48 → E c ≤ G c := by
  have key : ∀ v c, c < 48 → G c ≤ v → E c ≤ G c := by
    intro v
    induction v with
    | zero =>
      intro c hc h
      rcases hG c hc with q | ⟨ho, n, hn, hb, q⟩
      · exact q
      · have := hk c hc ho
        omega
    | succ v ih =>
      intro c hc h
      rcases hG c hc with q | ⟨ho, n, hn, hb, q⟩
      · exact q
      · have h1 := hk c hc ho
        have h2 := ih n hn (by omega)
        have h3 := hE n c hn hc hb ho
        omega
  exact fun c hc => key _ c hc (Nat.le_refl _)
theorem slt.le (hk : ∀ c, c < 48 → op c = true → 1 ≤ k c) (h1 : slt k op src D) (h2 : slt k op src E) : ∀ c, c < 48 → D c ≤ E c := by
  refine slt_le hk h1.2.2.1 (fun c hc => ?_)
  by_cases e : c = src
  · subst e
    exact Or.inl (by rw [h1.1]; exact Nat.zero_le _)
  · by_cases hi : E c < 1000000
    · exact Or.inr (h2.2.2.2 c hc e hi)
    · have := h1.2.1 c hc
      exact Or.inl (by omega)
theorem slt.eq (hk : ∀ c, c < 48 → op c = true → 1 ≤ k c) (h1 : slt k op src D) (h2 : slt k op src E) : ∀ c, c < 48 → D c = E c := fun c hc => Nat.le_antisymm (h1.le hk h2 c hc) (h2.le hk h1 c hc)
end SXLS
section SXLR
variable {k : Nat → Nat} {D : Nat → Nat → Nat}
def all1 (_ : Nat) : Bool := true
theorem slt_first (hD : ∀ t, t < 48 → slt k all1 t (D t)) (hF : ∀ t c, t < 48 → c < 48 → D t c < 1000000) (hk : ∀ c, c < 48 → 1 ≤ k c) {t : Nat} (ht : t < 48) : ∀ v c, c < 48 → c ≠ t → D t c ≤ v → ∃ n, n < 48 ∧ nb t n ∧ D n c + k n ≤ D t c := by
  intro v
  induction v with
  | zero =>
    intro c hc hne h
    obtain ⟨_, m, hm, hb, q⟩ := (hD t ht).2.2.2 c hc hne (hF t c ht hc)
    have := hk c hc
    omega
  | succ v ih =>
    intro c hc hne h
    obtain ⟨_, m, hm, hb, q⟩ := (hD t ht).2.2.2 c hc hne (hF t c ht hc)
    have h1 := hk c hc
    by_cases e : m = t
    · subst e
      refine ⟨c, hc, hb, ?_⟩
      rw [(hD c hc).1]
      omega
    · obtain ⟨n, hn, hb2, q2⟩ := ih m hm e (by omega)
      have h3 := (hD n hn).2.2.1 m c hm hc hb rfl
      exact ⟨n, hn, hb2, by omega⟩
theorem slt_step (hD : ∀ t, t < 48 → slt k all1 t (D t)) (hF : ∀ t c, t < 48 → c < 48 → D t c < 1000000) (hk : ∀ c, c < 48 → 1 ≤ k c) {c n : Nat} (hc : c < 48) (hn : n < 48) (hb : nb c n) : ∀ x, x < 48 → D n x ≤ D c x + k c := by
  refine slt_le (k := k) (op := all1) (fun c hc _ => hk c hc) (hD n hn).2.2.1 (G := fun x => D c x + k c) (fun x hx => ?_)
  by_cases e : x = c
  · subst e
    refine Or.inl ?_
    have h1 := (hD n hn).2.2.1 n x hn hx (hb.sym hx hn) rfl
    rw [(hD n hn).1] at h1
    show D n x ≤ D x x + k x
    omega
  · obtain ⟨_, m, hm, hb2, q⟩ := (hD c hc).2.2.2 x hx e (hF c x hc hx)
    exact Or.inr ⟨rfl, m, hm, hb2, by show D c m + k c + k x ≤ D c x + k c; omega⟩
/-- the way there and the way back -/
theorem slt_rev (hD : ∀ t, t < 48 → slt k all1 t (D t)) (hF : ∀ t c, t < 48 → c < 48 → D t c < 1000000) (hk : ∀ c, c < 48 → 1 ≤ k c) {f t : Nat} (hf : f < 48) (ht : t < 48) : D t f + k t = D f t + k f := by
  have hE : rlx k all1 (fun t => D t f + k t) := by
    intro c n hc hn hb _
    have := slt_step hD hF hk hc hn hb f hf
    show D n f + k n ≤ D c f + k c + k n
    omega
  have hG : rlx k all1 (fun t => D f t + k f) := by
    intro c n hc hn hb _
    have := (hD f hf).2.2.1 c n hc hn hb rfl
    show D f n + k f ≤ D f c + k f + k n
    omega
  apply Nat.le_antisymm
  · refine slt_le (k := k) (op := all1) (fun c hc _ => hk c hc) hE (G := fun t => D f t + k f) (fun x hx => ?_) t ht
    by_cases e : x = f
    · subst e
      exact Or.inl (Nat.le_refl _)
    · obtain ⟨_, m, hm, hb2, q⟩ := (hD f hf).2.2.2 x hx e (hF f x hf hx)
      exact Or.inr ⟨rfl, m, hm, hb2, by show D f m + k f + k x ≤ D f x + k f; omega⟩
  · refine slt_le (k := k) (op := all1) (fun c hc _ => hk c hc) hG (G := fun t => D t f + k t) (fun x hx => ?_) t ht
    by_cases e : x = f
    · subst e
      exact Or.inl (Nat.le_refl _)
    · obtain ⟨n, hn, hb2, q⟩ := slt_first hD hF hk hx _ f hf (Ne.symm e) (Nat.le_refl _)
      exact Or.inr ⟨rfl, n, hn, hb2.sym hx hn, by show D n f + k n + k x ≤ D x f + k x; omega⟩
end SXLR
-- the reference: by the nearest
def wr1G (kf : Nat → Int32) (c : Nat) (wy : List Int32) (n : Int32) : List Int32 := if n < 0 then wy else if kf n.toNatClampNeg = -1 then wy else if wy.getD n.toNatClampNeg 0 < 0 then wy.set n.toNatClampNeg (wy.getD c 0 + kf n.toNatClampNeg) else if wy.getD n.toNatClampNeg 0 ≤ wy.getD c 0 + kf n.toNatClampNeg then wy else wy.set n.toNatClampNeg (wy.getD c 0 + kf n.toNatClampNeg)
def wrG (kf : Nat → Int32) (c : Nat) : Nat → Nat → List Int32 → List Int32
  | 0, _, wy => wy
  | k + 1, j, wy => wrG kf c k (j + 1) (wr1G kf c wy (bsd c j))
def wkG (kf : Nat → Int32) : Nat → Int32 → List Int32 → List Int32 → List Int32 × List Int32
  | 0, _, wy, su => (wy, su)
  | f + 1, b, wy, su => if b < 0 then (wy, su) else wkG kf f (nrF (wrG kf b.toNatClampNeg 4 0 wy) (su.set b.toNatClampNeg 1) 48 0 (-1)) (wrG kf b.toNatClampNeg 4 0 wy) (su.set b.toNatClampNeg 1)
def crK (s : List Int32) (n : Nat) : Int32 := crF (s.getD (7 + n) 0)
theorem crF_ne (x : Int32) : ¬ crF x = -1 := by
  obtain ⟨j, h1, h2, e⟩ := crF_n x
  rw [e]
  exact nI_ne1 (by omega)
theorem wr1_G {s : List Int32} {c : Nat} {wy : List Int32} {n : Int32} : wr1 s c wy n = wr1G (crK s) c wy n := by
  unfold wr1 wr1G
  rw [if_neg (show ¬ crK s n.toNatClampNeg = -1 from crF_ne _)]
  rfl
theorem wrF_G {s : List Int32} {c : Nat} : ∀ (k j : Nat) (wy : List Int32), wrF s c k j wy = wrG (crK s) c k j wy
  | 0, _, _ => rfl
  | k + 1, j, wy => by
    show wrF s c k (j + 1) (wr1 s c wy (bsd c j)) = wrG (crK s) c k (j + 1) (wr1G (crK s) c wy (bsd c j))
    rw [wr1_G]
    exact wrF_G k (j + 1) _
theorem wkF_G {s : List Int32} : ∀ (f : Nat) (b : Int32) (wy su : List Int32), wkF s f b wy su = wkG (crK s) f b wy su
  | 0, _, _, _ => rfl
  | f + 1, b, wy, su => by
    unfold wkF wkG
    split
    · rfl
    · rw [wrF_G]
      exact wkF_G f _ _ _
def kfr (kf : Nat → Int32) (k : Nat → Nat) (op : Nat → Bool) : Prop := ∀ n, n < 48 → (op n = false ∧ kf n = -1) ∨ (op n = true ∧ 1 ≤ k n ∧ k n ≤ 9 ∧ kf n = nI (k n))
/-- what a row of ways tells: -1 for none -/
def rep (B : Nat) (wy : List Int32) (D : Nat → Nat) : Prop := wy.length = 48 ∧ ∀ c, c < 48 → (D c = 1000000 ∧ wy.getD c 0 = -1) ∨ (D c ≤ B ∧ wy.getD c 0 = nI (D c))
def updN (D : Nat → Nat) (n v : Nat) : Nat → Nat := fun x => if x = n then v else D x
section SXDJ
variable {kf : Nat → Int32} {k : Nat → Nat} {op : Nat → Bool} {D : Nat → Nat} {wy su : List Int32} {B c : Nat}
theorem rep.up {B2 : Nat} (h : rep B wy D) (hb : B ≤ B2) : rep B2 wy D := ⟨h.1, fun c hc => by
  rcases h.2 c hc with q | q
  · exact Or.inl q
  · exact Or.inr ⟨by omega, q.2⟩⟩
theorem rep.fin (h : rep B wy D) (hc : c < 48) (hB : B < 1000000) : ¬ wy.getD c 0 < 0 ↔ D c < 1000000 := by
  rcases h.2 c hc with ⟨q1, q2⟩ | ⟨q1, q2⟩
  · rw [q2, q1]
    exact ⟨fun z => absurd (show (-1 : Int32) < 0 by decide) z, fun z => absurd z (by omega)⟩
  · rw [q2]
    exact ⟨fun _ => by omega, fun _ => nI_pos (by omega)⟩
theorem rep.at (h : rep B wy D) (hc : c < 48) (hf : D c < 1000000) : D c ≤ B ∧ wy.getD c 0 = nI (D c) := by
  rcases h.2 c hc with ⟨q1, _⟩ | q
  · omega
  · exact q
theorem rep.put {n v : Nat} (h : rep B wy D) (hn : n < 48) (hv : v ≤ B) : rep B (wy.set n (nI v)) (updN D n v) := by
  refine ⟨by rw [List.length_set]; exact h.1, fun c hc => ?_⟩
  rw [gd_set (by rw [h.1]; exact hn)]
  unfold updN
  by_cases e : c = n
  · rw [if_pos e, if_pos e]
    exact Or.inr ⟨hv, rfl⟩
  · rw [if_neg e, if_neg e]
    exact h.2 c hc
theorem wr1G_rep {n : Nat} (hkf : kfr kf k op) (h : rep B wy D) (hB : B < 500000) (hc : c < 48) (hf : D c < 1000000) (hcB : D c + 9 ≤ B) (hn : n < 48) (hne : n ≠ c) : ∃ D2, rep B (wr1G kf c wy (nI n)) D2 ∧ (∀ x, x ≠ n → D2 x = D x) ∧ (op n = true → D2 n ≤ D c + k n) ∧ (D2 n = D n ∨ (op n = true ∧ D2 n = D c + k n)) ∧ D2 n ≤ D n := by
  unfold wr1G
  rw [if_neg (nI_pos (by omega)), nI_clamp (by omega)]
  rcases hkf n hn with ⟨ho, hk⟩ | ⟨ho, hk1, hk9, hk⟩
  · rw [if_pos hk]
    exact ⟨D, h, fun _ _ => rfl, fun z => absurd (z.symm.trans ho) (by decide), Or.inl rfl, Nat.le_refl _⟩
  · obtain ⟨hc1, hc2⟩ := h.at hc hf
    rw [hk, if_neg (nI_ne1 (by omega)), hc2, nI_add]
    have key : ∀ (hlt : D c + k n ≤ D n), ∃ D2, rep B (wy.set n (nI (D c + k n))) D2 ∧ (∀ x, x ≠ n → D2 x = D x) ∧ (op n = true → D2 n ≤ D c + k n) ∧ (D2 n = D n ∨ (op n = true ∧ D2 n = D c + k n)) ∧ D2 n ≤ D n := by
      intro hlt
      refine ⟨updN D n (D c + k n), h.put hn (by omega), fun x hx => by unfold updN; rw [if_neg hx], ?_, ?_, ?_⟩
      · intro _
        unfold updN
        rw [if_pos rfl]
        exact Nat.le_refl _
      · exact Or.inr ⟨ho, by unfold updN; rw [if_pos rfl]⟩
      · unfold updN
        rw [if_pos rfl]
        exact hlt
    rcases h.2 n hn with ⟨q1, q2⟩ | ⟨q1, q2⟩
    · rw [q2, if_pos (by decide)]
      exact key (by omega)
    · rw [q2, if_neg (nI_pos (by omega))]
      by_cases hle : D n ≤ D c + k n
      · rw [if_pos ((nI_leI (by omega) (by omega)).mpr hle)]
        exact ⟨D, h, fun _ _ => rfl, fun _ => hle, Or.inl rfl, Nat.le_refl _⟩
      · rw [if_neg (fun z => hle ((nI_leI (by omega) (by omega)).mp z))]
        exact key (by omega)
theorem wrG_rep (hkf : kfr kf k op) (hB : B < 500000) (hc : c < 48) : ∀ (q j : Nat) (wy : List Int32) (D : Nat → Nat), j + q = 4 → rep B wy D → D c < 1000000 → D c + 9 ≤ B → ∃ D2, rep B (wrG kf c q j wy) D2 ∧ D2 c = D c ∧ (∀ x, x < 48 → D2 x ≤ D x) ∧ (∀ x, x < 48 → D2 x = D x ∨ (nb c x ∧ op x = true ∧ D2 x = D c + k x)) ∧ ∀ i, j ≤ i → i < 4 → ∀ x, x < 48 → bsd c i = nI x → op x = true → D2 x ≤ D c + k x
  | 0, j, wy, D, hj, h, hf, hcB => ⟨D, h, rfl, fun _ _ => Nat.le_refl _, fun _ _ => Or.inl rfl, fun i h1 h2 => by omega⟩
  | q + 1, j, wy, D, hj, h, hf, hcB => by
    show ∃ D2, rep B (wrG kf c q (j + 1) (wr1G kf c wy (bsd c j))) D2 ∧ _
    rcases bsd_nat c hc j (by omega) with e | ⟨hn, e⟩
    · have e1 : wr1G kf c wy (bsd c j) = wy := by
        unfold wr1G
        rw [e]
        exact if_pos (by decide)
      rw [e1]
      obtain ⟨D2, h1, h2, h3, h4, h5⟩ := wrG_rep hkf hB hc q (j + 1) wy D (by omega) h hf hcB
      refine ⟨D2, h1, h2, h3, h4, fun i hi1 hi2 x hx hb ho => ?_⟩
      by_cases ei : i = j
      · rw [ei, e] at hb
        exact absurd hb.symm (nI_ne1 (by omega))
      · exact h5 i (by omega) hi2 x hx hb ho
    · have hnb : nb c (bsd c j).toNatClampNeg := ⟨j, by omega, e⟩
      have hne : (bsd c j).toNatClampNeg ≠ c := hnb.ne hc
      obtain ⟨D1, g1, g2, g3, g4, g5⟩ := wr1G_rep (n := (bsd c j).toNatClampNeg) hkf h hB hc hf hcB hn hne
      rw [← e] at g1
      have hc1 : D1 c = D c := g2 c (Ne.symm hne)
      obtain ⟨D2, h1, h2, h3, h4, h5⟩ := wrG_rep hkf hB hc q (j + 1) _ D1 (by omega) g1 (by omega) (by omega)
      have hle : ∀ x, x < 48 → D1 x ≤ D x := by
        intro x hx
        by_cases ex : x = (bsd c j).toNatClampNeg
        · rw [ex]
          exact g5
        · rw [g2 x ex]
          exact Nat.le_refl _
      refine ⟨D2, h1, h2.trans hc1, fun x hx => Nat.le_trans (h3 x hx) (hle x hx), fun x hx => ?_, fun i hi1 hi2 x hx hb ho => ?_⟩
      · rcases h4 x hx with z | ⟨z1, z2, z3⟩
        · by_cases ex : x = (bsd c j).toNatClampNeg
          · rw [z, ex]
            rcases g4 with y | ⟨y1, y2⟩
            · exact Or.inl y
            · exact Or.inr ⟨hnb, y1, y2⟩
          · exact Or.inl (z.trans (g2 x ex))
        · exact Or.inr ⟨z1, z2, by rw [z3, hc1]⟩
      · by_cases ei : i = j
        · subst ei
          have ex : x = (bsd c i).toNatClampNeg := by
            rw [hb, nI_clamp (by omega)]
          have := h3 x hx
          rw [ex] at this ho ⊢
          exact Nat.le_trans this (g3 ho)
        · have := h5 i (by omega) hi2 x hx hb ho
          rw [hc1] at this
          exact this
theorem nrF_near (h : rep B wy D) (hB : B < 500000) : ∀ (q c : Nat) (b : Int32), c + q = 48 → ((b < 0 ∧ ∀ x, x < c → ¬ su.getD x 0 = 0 ∨ D x = 1000000) ∨ ∃ x, x < 48 ∧ b = nI x ∧ su.getD x 0 = 0 ∧ D x < 1000000 ∧ ∀ y, y < c → su.getD y 0 = 0 → D x ≤ D y) → ((nrF wy su q c b < 0 ∧ ∀ x, x < 48 → ¬ su.getD x 0 = 0 ∨ D x = 1000000) ∨ ∃ x, x < 48 ∧ nrF wy su q c b = nI x ∧ su.getD x 0 = 0 ∧ D x < 1000000 ∧ ∀ y, y < 48 → su.getD y 0 = 0 → D x ≤ D y)
  | 0, c, b, hc, hb => by
    obtain rfl : c = 48 := by omega
    exact hb
  | q + 1, c, b, hc, hb => by
    refine nrF_near h hB q (c + 1) (nr1 wy su b c) (by omega) ?_
    have hi : D c = 1000000 ∨ D c < 1000000 := by
      rcases h.2 c (by omega) with z | z
      · exact Or.inl z.1
      · exact Or.inr (by omega)
    unfold nr1
    by_cases h1 : su.getD c 0 = 0
    · rw [if_neg (fun z => z h1)]
      by_cases h2 : wy.getD c 0 < 0
      · rw [if_pos h2]
        have hI : D c = 1000000 := by
          rcases hi with z | z
          · exact z
          · exact absurd h2 ((h.fin (by omega) (by omega)).mpr z)
        rcases hb with ⟨z1, z2⟩ | ⟨x, hx, z1, z2, z3, z4⟩
        · exact Or.inl ⟨z1, fun x hx => by
            by_cases e : x = c
            · rw [e]
              exact Or.inr hI
            · exact z2 x (by omega)⟩
        · exact Or.inr ⟨x, hx, z1, z2, z3, fun y hy hs => by
            by_cases e : y = c
            · rw [e, hI]
              omega
            · exact z4 y (by omega) hs⟩
      · rw [if_neg h2]
        have hF : D c < 1000000 := (h.fin (by omega) (by omega)).mp h2
        rcases hb with ⟨z1, z2⟩ | ⟨x, hx, z1, z2, z3, z4⟩
        · rw [if_pos z1]
          exact Or.inr ⟨c, by omega, rfl, h1, hF, fun y hy hs => by
            by_cases e : y = c
            · rw [e]
              exact Nat.le_refl _
            · rcases z2 y (by omega) with u | u
              · exact absurd hs u
              · rw [u]
                omega⟩
        · rw [z1, if_neg (nI_pos (by omega)), nI_clamp (by omega), (h.at hx z3).2, (h.at (by omega) hF).2]
          have b1 := (h.at hx z3).1
          have b2 := (h.at (c := c) (by omega) hF).1
          by_cases hle : D x ≤ D c
          · rw [if_pos ((nI_leI (by omega) (by omega)).mpr hle)]
            exact Or.inr ⟨x, hx, rfl, z2, z3, fun y hy hs => by
              by_cases e : y = c
              · rw [e]
                exact hle
              · exact z4 y (by omega) hs⟩
          · rw [if_neg (fun z => hle ((nI_leI (by omega) (by omega)).mp z))]
            exact Or.inr ⟨c, by omega, rfl, h1, hF, fun y hy hs => by
              by_cases e : y = c
              · rw [e]
                exact Nat.le_refl _
              · have := z4 y (by omega) hs
                omega⟩
    · rw [if_pos h1]
      rcases hb with ⟨z1, z2⟩ | ⟨x, hx, z1, z2, z3, z4⟩
      · exact Or.inl ⟨z1, fun x hx => by
          by_cases e : x = c
          · rw [e]
            exact Or.inl h1
          · exact z2 x (by omega)⟩
      · exact Or.inr ⟨x, hx, z1, z2, z3, fun y hy hs => by
          by_cases e : y = c
          · rw [e] at hs
            exact absurd hs h1
          · exact z4 y (by omega) hs⟩
end SXDJ
section SXDK
variable {kf : Nat → Int32} {k : Nat → Nat} {op : Nat → Bool} {src : Nat}
theorem wkG_slt (hkf : kfr kf k op) (hsrc : src < 48) : ∀ (f : Nat) (b : Int32) (wy su : List Int32) (M : Nat) (D : Nat → Nat), M + 9 * f ≤ 2000 → su.length = 48 → su.count 0 < f → rep (M + 9) wy D → D src = 0 → (∀ c, c < 48 → ¬ su.getD c 0 = 0 → D c ≤ M) → (∀ c, c < 48 → su.getD c 0 = 0 → M ≤ D c) → (∀ c, c < 48 → ¬ su.getD c 0 = 0 → ∀ n, n < 48 → nb c n → op n = true → D n ≤ D c + k n) → (∀ c, c < 48 → c ≠ src → D c < 1000000 → op c = true ∧ ∃ m, m < 48 ∧ ¬ su.getD m 0 = 0 ∧ nb m c ∧ D m + k c ≤ D c) → ((b < 0 ∧ ∀ x, x < 48 → ¬ su.getD x 0 = 0 ∨ D x = 1000000) ∨ ∃ x, x < 48 ∧ b = nI x ∧ su.getD x 0 = 0 ∧ D x < 1000000 ∧ ∀ y, y < 48 → su.getD y 0 = 0 → D x ≤ D y) → ∃ D2, rep 3000 (wkG kf f b wy su).1 D2 ∧ slt k op src D2
  | 0, _, _, _, _, _, _, _, hf, _, _, _, _, _, _, _ => absurd hf (by omega)
  | f + 1, b, wy, su, M, D, hM, hs, hf, hr, h0, hc1, hd1, he1, hf1, hb => by
    rw [wkG]
    rcases hb with ⟨h1, h2⟩ | ⟨c, hc, rfl, hsu, hfin, hmin⟩
    · rw [if_pos h1]
      refine ⟨D, hr.up (by omega), h0, fun c hc => ?_, fun c n hc hn hb ho => ?_, fun c hc hne hfin => ?_⟩
      · rcases hr.2 c hc with z | z
        · omega
        · omega
      · rcases h2 c hc with z | z
        · exact he1 c hc z n hn hb ho
        · rcases hr.2 n hn with y | y
          · omega
          · omega
      · obtain ⟨g1, m, hm, _, hb, q⟩ := hf1 c hc hne hfin
        exact ⟨g1, m, hm, hb, q⟩
    · rw [if_neg (nI_pos (by omega)), nI_clamp (by omega)]
      have hcM := (hr.at hc hfin).1
      have hMc := hd1 c hc hsu
      obtain ⟨D2, g1, g2, g3, g4, g5⟩ := wrG_rep (B := D c + 9) hkf (by omega) hc 4 0 wy D rfl (hr.up (by omega)) hfin (Nat.le_refl _)
      have hsu2 : ∀ x, x < 48 → ¬ (su.set c 1).getD x 0 = 0 → x = c ∨ ¬ su.getD x 0 = 0 := by
        intro x hx h
        rw [gd_set (by omega)] at h
        by_cases e : x = c
        · exact Or.inl e
        · rw [if_neg e] at h
          exact Or.inr h
      have hsu3 : ∀ x, x < 48 → (su.set c 1).getD x 0 = 0 → x ≠ c ∧ su.getD x 0 = 0 := by
        intro x hx h
        rw [gd_set (by omega)] at h
        by_cases e : x = c
        · rw [if_pos e] at h
          exact absurd h (by decide)
        · rw [if_neg e] at h
          exact ⟨e, h⟩
      have hsu4 : ∀ x, x < 48 → ¬ su.getD x 0 = 0 → ¬ (su.set c 1).getD x 0 = 0 := by
        intro x hx h
        rw [gd_set (by omega)]
        split
        · decide
        · exact h
      have hkeep : ∀ x, x < 48 → ¬ su.getD x 0 = 0 → D2 x = D x := by
        intro x hx h
        rcases g4 x hx with z | ⟨_, z2, z3⟩
        · exact z
        · have y1 := hc1 x hx h
          have y2 := g3 x hx
          rcases hkf x hx with ⟨u, _⟩ | ⟨_, u1, _, _⟩
          · exact absurd (u.symm.trans z2) (by decide)
          · omega
      refine wkG_slt hkf hsrc f _ _ _ (D c) D2 (by omega) (sx_ls hs) ?_ g1 ?_ ?_ ?_ ?_ ?_ (nrF_near (B := D c + 9) g1 (by omega) 48 0 (-1) rfl (Or.inl ⟨by decide, fun x hx => absurd hx (by omega)⟩))
      · have h5 := cnt_pos (su := su) (c := c) (by omega) hsu
        have h6 : (su.set c 1).count 0 ≤ su.count 0 - 1 := cnt_set (f := su.count 0 - 1) (by omega) hsu (by omega)
        omega
      · have := g3 src hsrc
        omega
      · intro x hx h
        rcases hsu2 x hx h with rfl | h
        · omega
        · have := hkeep x hx h
          have := hc1 x hx h
          omega
      · intro x hx h
        obtain ⟨e1, e2⟩ := hsu3 x hx h
        rcases g4 x hx with z | ⟨_, z2, z3⟩
        · rw [z]
          exact hmin x hx e2
        · omega
      · intro x hx h n hn hb ho
        rcases hsu2 x hx h with rfl | h
        · obtain ⟨j, hj, e⟩ := hb
          have := g5 j (Nat.zero_le _) hj n hn e ho
          omega
        · have y1 := he1 x hx h n hn hb ho
          have y2 := hkeep x hx h
          have y3 := g3 n hn
          omega
      · intro x hx hne hfx
        rcases g4 x hx with z | ⟨z1, z2, z3⟩
        · obtain ⟨y1, m, hm, hsm, hbm, q⟩ := hf1 x hx hne (by omega)
          have := g3 m hm
          exact ⟨y1, m, hm, hsu4 m hm hsm, hbm, by omega⟩
        · exact ⟨z2, c, hc, by rw [gd_set (by omega), if_pos rfl]; decide, z1, by omega⟩
def wlG (kf : Nat → Int32) (src : Nat) (wy0 su0 : List Int32) : List Int32 × List Int32 := wkG kf 49 (nI src) (wiF src 48 0 wy0) (flF 0 48 0 su0)
theorem wlG_slt {wy0 su0 : List Int32} (hkf : kfr kf k op) (hsrc : src < 48) (h1 : wy0.length = 48) (h2 : su0.length = 48) : ∃ D, rep 3000 (wlG kf src wy0 su0).1 D ∧ slt k op src D := by
  unfold wlG
  have hw : ∀ c, c < 48 → (wiF src 48 0 wy0).getD c 0 = if nI c = nI src then 0 else -1 := fun c hc => (wiF_at 48 0 wy0 (by omega) c (by omega)).1 (Nat.zero_le _)
  have hsz : ∀ c, c < 48 → (flF 0 48 0 su0).getD c 0 = 0 := fun c hc => (flF_at 48 0 su0 (by omega) c (by omega)).1 (Nat.zero_le _)
  refine wkG_slt hkf hsrc 49 (nI src) _ _ 0 (fun c => if c = src then 0 else 1000000) (by decide) (flF_len 48 0 _ h2) ?_ ⟨wiF_len 48 0 _ h1, fun c hc => ?_⟩ (if_pos rfl) ?_ ?_ ?_ ?_ ?_
  · exact Nat.lt_succ_of_le (Nat.le_trans List.count_le_length (by rw [flF_len 48 0 _ h2]; exact Nat.le_refl _))
  · rw [hw c hc]
    by_cases e : c = src
    · subst e
      exact Or.inr ⟨by simp only [if_true]; omega, by simp only [if_true]; rfl⟩
    · exact Or.inl ⟨by simp only [if_neg e], by rw [if_neg (fun z => e ((nI_eq (by omega) (by omega)).mp z))]⟩
  · intro c hc h
    exact absurd (hsz c hc) h
  · intro c hc _
    exact Nat.zero_le _
  · intro c hc h
    exact absurd (hsz c hc) h
  · intro c hc hne hfin
    rw [if_neg hne] at hfin
    omega
  · refine Or.inr ⟨src, hsrc, rfl, hsz src hsrc, ?_, fun y hy _ => ?_⟩
    · rw [if_pos rfl]
      decide
    · rw [if_pos rfl]
      exact Nat.zero_le _
end SXDK
end
-- 89y02.far2.lean.txt
section
-- the class: by sweeps
def cnt (f : Nat → Bool) : Nat → Nat
  | 0 => 0
  | n + 1 => cnt f n + (if f n = true then 1 else 0)
theorem cnt_le {f g : Nat → Bool} : ∀ n, (∀ x, x < n → f x = true → g x = true) → cnt f n ≤ cnt g n
  | 0, _ => Nat.le_refl _
  | n + 1, h => by
    have h1 := cnt_le n (fun x hx => h x (by omega))
    unfold cnt
    by_cases e : f n = true
    · rw [if_pos e, if_pos (h n (by omega) e)]
      omega
    · rw [if_neg e]
      omega
theorem cnt_lt {f g : Nat → Bool} {y : Nat} (h1 : g y = true) (h2 : ¬ f y = true) : ∀ n, y < n → (∀ x, x < n → f x = true → g x = true) → cnt f n < cnt g n
  | 0, hy, _ => absurd hy (by omega)
  | n + 1, hy, h => by
    unfold cnt
    by_cases e : y = n
    · subst e
      have h3 := cnt_le (f := f) (g := g) y (fun x hx => h x (by omega))
      rw [if_neg h2, if_pos h1]
      omega
    · have h3 := cnt_lt h1 h2 n (by omega) (fun x hx => h x (by omega))
      by_cases e2 : f n = true
      · rw [if_pos e2, if_pos (h n (by omega) e2)]
        omega
      · rw [if_neg e2]
        omega
theorem cnt_0 {f : Nat → Bool} : ∀ n, (∀ x, x < n → ¬ f x = true) → cnt f n = 0
  | 0, _ => rfl
  | n + 1, h => by
    unfold cnt
    rw [cnt_0 n (fun x hx => h x (by omega)), if_neg (h n (by omega))]
theorem cnt_t : ∀ n, cnt (fun _ => true) n = n
  | 0 => rfl
  | n + 1 => by
    unfold cnt
    rw [cnt_t n, if_pos rfl]
def rank (D : Nat → Nat) (c : Nat) : Nat := cnt (fun x => decide (D x < D c)) 48
theorem rank_le {D : Nat → Nat} {c : Nat} (hc : c < 48) : rank D c ≤ 47 := by
  have := cnt_lt (f := fun x => decide (D x < D c)) (g := fun _ => true) (y := c) rfl (by simp) 48 hc (fun _ _ _ => rfl)
  rw [cnt_t] at this
  unfold rank
  omega
theorem rank_lt {D : Nat → Nat} {c n : Nat} (hn : n < 48) (h : D n < D c) : rank D n < rank D c := cnt_lt (y := n) (decide_eq_true h) (by simp) 48 hn (fun x _ hx => decide_eq_true (Nat.lt_trans (of_decide_eq_true hx) h))
def repC (s : List Int32) (V : Nat → Nat) : Prop := s.length = 48 ∧ ∀ c, c < 48 → V c ≤ 1000000 ∧ s.getD c 0 = nI (V c)
section SXBF
variable {k : Nat → Nat} {op : Nat → Bool} {src : Nat} {D V : Nat → Nat} {cs s : List Int32}
theorem repC.put {n v : Nat} (h : repC s V) (hn : n < 48) (hv : v ≤ 1000000) : repC (s.set n (nI v)) (updN V n v) := by
  refine ⟨by rw [List.length_set]; exact h.1, fun c hc => ?_⟩
  rw [gd_set (by rw [h.1]; exact hn)]
  unfold updN
  by_cases e : c = n
  · rw [if_pos e, if_pos e]
    exact ⟨hv, rfl⟩
  · rw [if_neg e, if_neg e]
    exact h.2 c hc
theorem lb_rep {c : Nat} (h : repC s V) (hc : c < 48) : ∀ (q j m : Nat), j + q = 4 → m ≤ 1000000 → ∃ m2, lbF s c q j (nI m) = nI m2 ∧ m2 ≤ m ∧ (m2 = m ∨ ∃ n, n < 48 ∧ nb c n ∧ m2 = V n) ∧ ∀ i, j ≤ i → i < 4 → ∀ n, n < 48 → bsd c i = nI n → m2 ≤ V n
  | 0, j, m, hj, hm => ⟨m, rfl, Nat.le_refl _, Or.inl rfl, fun i h1 h2 => by omega⟩
  | q + 1, j, m, hj, hm => by
    show ∃ m2, lbF s c q (j + 1) (lb1 s (bsd c j) (nI m)) = nI m2 ∧ _
    rcases bsd_nat c hc j (by omega) with e | ⟨hn, e⟩
    · rw [show lb1 s (bsd c j) (nI m) = nI m from if_pos e]
      obtain ⟨m2, h1, h2, h3, h4⟩ := lb_rep h hc q (j + 1) m (by omega) hm
      refine ⟨m2, h1, h2, h3, fun i hi1 hi2 n hn hb => ?_⟩
      by_cases ei : i = j
      · rw [ei, e] at hb
        exact absurd hb.symm (nI_ne1 (by omega))
      · exact h4 i (by omega) hi2 n hn hb
    · have hv := h.2 _ hn
      have hne : ¬ bsd c j = -1 := by
        rw [e]
        exact nI_ne1 (by omega)
      have last : ∀ i n, i = j → n < 48 → bsd c i = nI n → n = (bsd c j).toNatClampNeg := by
        intro i n ei hn2 hb
        rw [← ei, hb, nI_clamp (by omega)]
      unfold lb1
      rw [if_neg hne, hv.2]
      by_cases hle : m ≤ V (bsd c j).toNatClampNeg
      · rw [if_pos ((nI_leI (by omega) (by omega)).mpr hle)]
        obtain ⟨m2, h1, h2, h3, h4⟩ := lb_rep h hc q (j + 1) m (by omega) hm
        refine ⟨m2, h1, h2, h3, fun i hi1 hi2 n hn2 hb => ?_⟩
        by_cases ei : i = j
        · rw [last i n ei hn2 hb]
          omega
        · exact h4 i (by omega) hi2 n hn2 hb
      · rw [if_neg (fun z => hle ((nI_leI (by omega) (by omega)).mp z))]
        obtain ⟨m2, h1, h2, h3, h4⟩ := lb_rep h hc q (j + 1) (V (bsd c j).toNatClampNeg) (by omega) hv.1
        refine ⟨m2, h1, by omega, ?_, fun i hi1 hi2 n hn2 hb => ?_⟩
        · rcases h3 with z | z
          · exact Or.inr ⟨_, hn, ⟨j, by omega, e⟩, z⟩
          · exact Or.inr z
        · by_cases ei : i = j
          · rw [last i n ei hn2 hb]
            exact h2
          · exact h4 i (by omega) hi2 n hn2 hb
theorem rx_rep {c : Nat} {fl : Int32} (hcs : kfr (fun n => cs.getD n 0) k op) (h : repC s V) (hc : c < 48) : ∃ V2, repC (rx cs (s, fl) c).1 V2 ∧ (∀ x, x ≠ c → V2 x = V x) ∧ V2 c ≤ V c ∧ (op c = true → ∀ n, n < 48 → nb c n → V2 c ≤ V n + k c) ∧ (V2 c = V c ∨ (op c = true ∧ ∃ n, n < 48 ∧ nb c n ∧ V2 c = V n + k c)) ∧ ((rx cs (s, fl) c).2 = 0 → fl = 0 ∧ V2 c = V c) := by
  unfold rx
  rcases hcs c hc with ⟨ho, hk⟩ | ⟨ho, hk1, hk9, hk⟩
  · rw [if_pos hk]
    exact ⟨V, h, fun _ _ => rfl, Nat.le_refl _, fun z => absurd (z.symm.trans ho) (by decide), Or.inl rfl, fun z => ⟨z, rfl⟩⟩
  · replace hk : cs.getD c 0 = nI (k c) := hk
    obtain ⟨m2, h1, h2, h3, h4⟩ := lb_rep h hc 4 0 1000000 rfl (Nat.le_refl _)
    replace h1 : lbF s c 4 0 1000000 = nI m2 := h1
    have hv := h.2 c hc
    rw [hk, if_neg (nI_ne1 (by omega)), h1, nI_add]
    simp only
    rw [hv.2]
    by_cases hle : V c ≤ m2 + k c
    · rw [if_pos ((nI_leI (by omega) (by omega)).mpr hle)]
      refine ⟨V, h, fun _ _ => rfl, Nat.le_refl _, fun _ n hn hb => ?_, Or.inl rfl, fun z => ⟨z, rfl⟩⟩
      obtain ⟨j, hj, e⟩ := hb
      have := h4 j (Nat.zero_le _) hj n hn e
      omega
    · rw [if_neg (fun z => hle ((nI_leI (by omega) (by omega)).mp z))]
      refine ⟨updN V c (m2 + k c), h.put hc (by omega), fun x hx => by unfold updN; rw [if_neg hx], ?_, ?_, ?_, fun z => absurd (show (1 : Int32) = 0 from z) (by decide)⟩
      · unfold updN
        rw [if_pos rfl]
        omega
      · intro _ n hn hb
        obtain ⟨j, hj, e⟩ := hb
        have := h4 j (Nat.zero_le _) hj n hn e
        unfold updN
        rw [if_pos rfl]
        omega
      · rcases h3 with z | ⟨n, hn, hb, z⟩
        · omega
        · exact Or.inr ⟨ho, n, hn, hb, by unfold updN; rw [if_pos rfl, z]⟩
theorem sw_rep {e : Bool} (hcs : kfr (fun n => cs.getD n 0) k op) (hR : rlx k op D) : ∀ (q i : Nat) (s : List Int32) (fl : Int32) (V : Nat → Nat), i + q = 48 → repC s V → (∀ x, x < 48 → D x ≤ V x) → ∃ V2, repC (swF cs e q i (s, fl)).1 V2 ∧ (∀ x, x < 48 → V2 x ≤ V x) ∧ (∀ x, x < 48 → D x ≤ V2 x) ∧ (∀ i2, i ≤ i2 → i2 < 48 → op (cond e i2 (47 - i2)) = true → ∀ n, n < 48 → nb (cond e i2 (47 - i2)) n → V2 (cond e i2 (47 - i2)) ≤ V n + k (cond e i2 (47 - i2))) ∧ ((swF cs e q i (s, fl)).2 = 0 → fl = 0 ∧ ∀ x, x < 48 → V2 x = V x)
  | 0, i, s, fl, V, hi, h, hD => ⟨V, h, fun _ _ => Nat.le_refl _, hD, fun i2 h1 h2 => by omega, fun z => ⟨z, fun _ _ => rfl⟩⟩
  | q + 1, i, s, fl, V, hi, h, hD => by
    have hc : cond e i (47 - i) < 48 := by
      cases e
      · show 47 - i < 48
        omega
      · show i < 48
        omega
    obtain ⟨V1, g1, g2, g3, g4, g5, g6⟩ := rx_rep (fl := fl) hcs h hc
    have hD1 : ∀ x, x < 48 → D x ≤ V1 x := by
      intro x hx
      by_cases ex : x = cond e i (47 - i)
      · rw [ex]
        rcases g5 with z | ⟨ho, n, hn, hb, z⟩
        · rw [z]
          exact hD _ hc
        · have y1 := hR n _ hn hc (hb.sym hc hn) ho
          have y2 := hD n hn
          omega
      · rw [g2 x ex]
        exact hD x hx
    have hle : ∀ x, x < 48 → V1 x ≤ V x := by
      intro x hx
      by_cases ex : x = cond e i (47 - i)
      · rw [ex]
        exact g3
      · rw [g2 x ex]
        exact Nat.le_refl _
    obtain ⟨V2, h1, h2, h3, h4, h5⟩ := sw_rep hcs hR q (i + 1) (rx cs (s, fl) (cond e i (47 - i))).1 (rx cs (s, fl) (cond e i (47 - i))).2 V1 (by omega) g1 hD1
    refine ⟨V2, h1, fun x hx => Nat.le_trans (h2 x hx) (hle x hx), h3, fun i2 hi1 hi2 ho n hn hb => ?_, fun z => ?_⟩
    · by_cases ei : i2 = i
      · rw [ei] at ho hb ⊢
        have := h2 _ hc
        have := g4 ho n hn hb
        omega
      · have := h4 i2 (by omega) hi2 ho n hn hb
        have := hle n hn
        omega
    · obtain ⟨z1, z2⟩ := h5 z
      obtain ⟨z3, z4⟩ := g6 z1
      refine ⟨z3, fun x hx => ?_⟩
      rw [z2 x hx]
      by_cases ex : x = cond e i (47 - i)
      · rw [ex]
        exact z4
      · exact g2 x ex
theorem cell_at (e : Bool) {c : Nat} (hc : c < 48) : ∃ i, i < 48 ∧ cond e i (47 - i) = c := by
  cases e
  · exact ⟨47 - c, by omega, by show 47 - (47 - c) = c; omega⟩
  · exact ⟨c, hc, rfl⟩
theorem rd_slt (hcs : kfr (fun n => cs.getD n 0) k op) (hsrc : src < 48) (hS : slt k op src D) : ∀ (q r : Nat) (p : List Int32 × Int32) (V : Nat → Nat), r + q = 48 → repC p.1 V → (∀ x, x < 48 → D x ≤ V x) → (∀ c, c < 48 → rank D c ≤ r → V c = D c) → (p.2 = 0 → rlx k op V) → ∀ c, c < 48 → (rdF cs q r p).getD c 0 = nI (D c)
  | 0, r, p, V, hr, h, hD, hk, hz, c, hc => by
    show p.1.getD c 0 = nI (D c)
    rw [(h.2 c hc).2, hk c hc (by have := rank_le (D := D) hc; omega)]
  | q + 1, r, p, V, hr, h, hD, hk, hz, c, hc => by
    have hk1 : ∀ x, x < 48 → op x = true → 1 ≤ k x := by
      intro x hx ho
      rcases hcs x hx with ⟨u, _⟩ | ⟨_, u, _⟩
      · exact absurd (u.symm.trans ho) (by decide)
      · exact u
    unfold rdF
    split
    · rename_i e
      have hle := slt_le hk1 (hz e) (G := D) (fun x hx => by
        by_cases ex : x = src
        · refine Or.inl ?_
          rw [ex, hk src hsrc ?_]
          · exact Nat.le_refl _
          · have : rank D src = 0 := cnt_0 48 (fun x _ => by rw [hS.1]; simp)
            omega
        · by_cases hf : D x < 1000000
          · exact Or.inr (hS.2.2.2 x hx ex hf)
          · have := (h.2 x hx).1
            exact Or.inl (by omega)) c hc
      rw [(h.2 c hc).2, Nat.le_antisymm hle (hD c hc)]
    · obtain ⟨V2, h1, h2, h3, h4, h5⟩ := sw_rep (e := evn r) hcs hS.2.2.1 48 0 p.1 0 V rfl h hD
      have hall : ∀ x, x < 48 → op x = true → ∀ n, n < 48 → nb x n → V2 x ≤ V n + k x := by
        intro x hx ho n hn hb
        obtain ⟨i, hi, ei⟩ := cell_at (evn r) hx
        have := h4 i (Nat.zero_le _) hi
        rw [ei] at this
        exact this ho n hn hb
      refine rd_slt hcs hsrc hS q (r + 1) _ V2 (by omega) h1 h3 (fun x hx hrk => ?_) (fun z => ?_) c hc
      · have a1 := h3 x hx
        have a2 := h2 x hx
        by_cases hle : rank D x ≤ r
        · have := hk x hx hle
          omega
        · by_cases hf : D x < 1000000
          · by_cases ex : x = src
            · have : rank D src = 0 := cnt_0 48 (fun x _ => by rw [hS.1]; simp)
              rw [ex] at hle
              omega
            · obtain ⟨ho, n, hn, hb, q2⟩ := hS.2.2.2 x hx ex hf
              have b1 := hk1 x hx ho
              have b2 := rank_lt (D := D) (c := x) hn (by omega)
              have b3 := hk n hn (by omega)
              have b4 := hall x hx ho n hn (hb.sym hn hx)
              omega
          · have := (h1.2 x hx).1
            omega
      · obtain ⟨_, z2⟩ := h5 z
        intro x n hx hn hb ho
        have := hall n hn ho x hx (hb.sym hx hn)
        rw [← z2 x hx] at this
        exact this
theorem spF_slt {l : List Int32} (hcs : kfr (fun n => cs.getD n 0) k op) (hsrc : src < 48) (hS : slt k op src D) (hl : l.length = 48) : ∀ c, c < 48 → (spF cs src l).getD c 0 = nI (D c) := by
  have hfl : ∀ c, c < 48 → (flF 1000000 48 0 l).getD c 0 = 1000000 := fun c hc => (flF_at 48 0 l (by omega) c (by omega)).1 (Nat.zero_le _)
  have hlen : (flF 1000000 48 0 l).length = 48 := flF_len 48 0 l hl
  have hk1 : ∀ x, x < 48 → op x = true → 1 ≤ k x := by
    intro x hx ho
    rcases hcs x hx with ⟨u, _⟩ | ⟨_, u, _⟩
    · exact absurd (u.symm.trans ho) (by decide)
    · exact u
  unfold spF
  refine rd_slt hcs hsrc hS 48 0 _ (fun c => if c = src then 0 else 1000000) rfl ⟨by rw [List.length_set]; exact hlen, fun c hc => ?_⟩ (fun x hx => ?_) (fun c hc hr => ?_) (fun z => absurd (show (1 : Int32) = 0 from z) (by decide))
  · rw [gd_set (by rw [hlen]; exact hsrc)]
    by_cases e : c = src
    · simp only [if_pos e]
      exact ⟨by omega, rfl⟩
    · simp only [if_neg e]
      exact ⟨Nat.le_refl _, hfl c hc⟩
  · by_cases e : x = src
    · simp only [if_pos e]
      rw [e, hS.1]
      exact Nat.le_refl _
    · simp only [if_neg e]
      exact hS.2.1 x hx
  · by_cases e : c = src
    · simp only [if_pos e]
      rw [e, hS.1]
    · exfalso
      have hpos : D src < D c := by
        rw [hS.1]
        by_cases hf : D c < 1000000
        · obtain ⟨ho, n, hn, hb, q2⟩ := hS.2.2.2 c hc e hf
          have := hk1 c hc ho
          omega
        · omega
      have := rank_lt (D := D) hsrc hpos
      omega
end SXBF
/-- the least sums -/
def dst (kf : Nat → Int32) (src c : Nat) : Nat := if (wlG kf src (List.replicate 48 0) (List.replicate 48 0)).1.getD c 0 < 0 then 1000000 else iN ((wlG kf src (List.replicate 48 0) (List.replicate 48 0)).1.getD c 0)
section SXDS
variable {kf : Nat → Int32} {k : Nat → Nat} {op : Nat → Bool} {src : Nat}
theorem slt.congr {D E : Nat → Nat} (hsrc : src < 48) (h : slt k op src D) (e : ∀ c, c < 48 → E c = D c) : slt k op src E := by
  refine ⟨by rw [e src hsrc]; exact h.1, fun c hc => by rw [e c hc]; exact h.2.1 c hc, fun c n hc hn hb ho => by rw [e c hc, e n hn]; exact h.2.2.1 c n hc hn hb ho, fun c hc hne hf => ?_⟩
  rw [e c hc] at hf
  obtain ⟨h1, n, hn, hb, q⟩ := h.2.2.2 c hc hne hf
  exact ⟨h1, n, hn, hb, by rw [e c hc, e n hn]; exact q⟩
theorem rep_val {B : Nat} {wy : List Int32} {D : Nat → Nat} {c : Nat} (h : rep B wy D) (hB : B < 1000000) (hc : c < 48) : (if wy.getD c 0 < 0 then 1000000 else iN (wy.getD c 0)) = D c := by
  rcases h.2 c hc with ⟨q1, q2⟩ | ⟨q1, q2⟩
  · rw [q2, if_pos (by decide), q1]
  · rw [q2, if_neg (nI_pos (by omega)), iN_n (by omega)]
theorem dst_slt (hkf : kfr kf k op) (hsrc : src < 48) : slt k op src (dst kf src) := by
  obtain ⟨D, h1, h2⟩ := wlG_slt (wy0 := List.replicate 48 0) (su0 := List.replicate 48 0) hkf hsrc rfl rfl
  exact h2.congr hsrc (fun c hc => rep_val h1 (by decide) hc)
theorem kfr.k1 (hkf : kfr kf k op) : ∀ c, c < 48 → op c = true → 1 ≤ k c := by
  intro x hx ho
  rcases hkf x hx with ⟨u, _⟩ | ⟨_, u, _⟩
  · exact absurd (u.symm.trans ho) (by decide)
  · exact u
/-- the reference's row of ways -/
theorem wlG_dst {wy0 su0 : List Int32} (hkf : kfr kf k op) (hsrc : src < 48) (h1 : wy0.length = 48) (h2 : su0.length = 48) : rep 3000 (wlG kf src wy0 su0).1 (dst kf src) := by
  obtain ⟨D, g1, g2⟩ := wlG_slt hkf hsrc h1 h2
  have e := (dst_slt hkf hsrc).eq hkf.k1 g2
  refine ⟨g1.1, fun c hc => ?_⟩
  rw [e c hc]
  exact g1.2 c hc
/-- the class's row of sums -/
theorem spF_dst {cs l : List Int32} (hkf : kfr kf k op) (hcs : ∀ c, c < 48 → cs.getD c 0 = kf c) (hsrc : src < 48) (hl : l.length = 48) : ∀ c, c < 48 → (spF cs src l).getD c 0 = nI (dst kf src c) := spF_slt (k := k) (op := op) (fun n hn => by show (op n = false ∧ cs.getD n 0 = -1) ∨ (op n = true ∧ 1 ≤ k n ∧ k n ≤ 9 ∧ cs.getD n 0 = nI (k n)); rw [hcs n hn]; exact hkf n hn) hsrc (dst_slt hkf hsrc) hl
end SXDS
-- FAR
/-- what sound loses, by the ground -/
def gk (g : List Int32) (c : Nat) : Int32 := crF (g.getD c 0)
def farN (g : List Int32) (f t : Nat) : Nat := dst (gk g) f t
theorem crF_iN (x : Int32) : crF x = nI (iN (crF x)) ∧ 1 ≤ iN (crF x) ∧ iN (crF x) ≤ 4 := by
  obtain ⟨j, h1, h2, e⟩ := crF_n x
  rw [e, iN_n (by omega)]
  exact ⟨rfl, h1, h2⟩
theorem gk_kfr (g : List Int32) : kfr (gk g) (fun c => iN (gk g c)) all1 := fun n _ => Or.inr ⟨rfl, (crF_iN _).2.1, by have := (crF_iN (g.getD n 0)).2.2; show iN (crF (g.getD n 0)) ≤ 9; omega, (crF_iN _).1⟩
theorem crK_kfr (s : List Int32) : kfr (crK s) (fun c => iN (crK s c)) all1 := fun n _ => Or.inr ⟨rfl, (crF_iN _).2.1, by have := (crF_iN (s.getD (7 + n) 0)).2.2; show iN (crF (s.getD (7 + n) 0)) ≤ 9; omega, (crF_iN _).1⟩
theorem dst_congr {kf kf2 : Nat → Int32} {k k2 : Nat → Nat} {op op2 : Nat → Bool} {src : Nat} (h1 : kfr kf k op) (h2 : kfr kf2 k2 op2) (hsrc : src < 48) (e : ∀ c, c < 48 → kf c = kf2 c) : ∀ c, c < 48 → dst kf src c = dst kf2 src c := by
  have h3 : kfr kf2 k op := fun n hn => by rw [← e n hn]; exact h1 n hn
  exact (dst_slt h1 hsrc).eq h1.k1 (dst_slt h3 hsrc)
theorem wlF_far {s wy0 su0 g : List Int32} {src : Nat} (hsrc : src < 48) (h1 : wy0.length = 48) (h2 : su0.length = 48) (e : ∀ c, c < 48 → g.getD c 0 = s.getD (7 + c) 0) : ∀ c, c < 48 → (wlF s src wy0 su0).1.getD c 0 = nI (farN g src c) ∧ farN g src c ≤ 3000 := by
  have hG : wlF s src wy0 su0 = wlG (crK s) src wy0 su0 := wkF_G _ _ _ _
  have hd := wlG_dst (crK_kfr s) hsrc h1 h2
  rw [← hG] at hd
  have hne := (wlF_inv (s := s) hsrc h1 h2).2
  have hc2 := dst_congr (gk_kfr g) (crK_kfr s) hsrc (fun c hc => by unfold gk crK; rw [e c hc])
  intro c hc
  unfold farN
  rw [hc2 c hc]
  rcases hd.2 c hc with ⟨_, q⟩ | q
  · exact absurd q (hne c hc)
  · exact ⟨q.2, q.1⟩
theorem far_fin (g : List Int32) {f t : Nat} (hf : f < 48) (ht : t < 48) : farN g f t ≤ 3000 := (wlF_far (s := List.replicate 7 0 ++ g) (wy0 := List.replicate 48 0) (su0 := List.replicate 48 0) (g := g) hf rfl rfl (fun c hc => by
  rw [List.getD_eq_getElem?_getD, List.getD_eq_getElem?_getD, List.getElem?_append_right (by rw [List.length_replicate]; omega), List.length_replicate, Nat.add_sub_cancel_left]) t ht).2
theorem far_rev (g : List Int32) {f t : Nat} (hf : f < 48) (ht : t < 48) : farN g t f + iN (gk g t) = farN g f t + iN (gk g f) := slt_rev (k := fun c => iN (gk g c)) (D := fun t c => farN g t c) (fun t ht => dst_slt (gk_kfr g) ht) (fun t c h1 h2 => by have := far_fin g h1 h2; show farN g t c < 1000000; omega) (fun c hc => (crF_iN _).2.1) hf ht
theorem far_0 (g : List Int32) {f : Nat} (hf : f < 48) : farN g f f = 0 := (dst_slt (gk_kfr g) hf).1
theorem nI_back {a b c d : Nat} (h : a + b = d + c) : nI a + (nI b - nI c) = nI d := by
  rw [Int32.sub_eq_add_neg, ← Int32.add_assoc, nI_add, h, ← nI_add, Int32.add_assoc, Int32.add_right_neg, Int32.add_zero]
theorem adF_at {ls : List Int32} {t : Nat} : ∀ (q j : Nat) (l : List Int32), j + q = l.length → ∀ c, c < l.length → (j ≤ c → (adF ls t q j l).getD c 0 = l.getD c 0 + (ls.getD t 0 - ls.getD c 0)) ∧ (c < j → (adF ls t q j l).getD c 0 = l.getD c 0)
  | 0, j, l, h, c, hc => ⟨fun z => by omega, fun _ => rfl⟩
  | q + 1, j, l, h, c, hc => by
    have IH := adF_at (ls := ls) (t := t) q (j + 1) (l.set j (l.getD j 0 + (ls.getD t 0 - ls.getD j 0))) (by rw [List.length_set]; omega) c (by rw [List.length_set]; exact hc)
    refine ⟨fun z => ?_, fun z => ?_⟩
    · by_cases e : c = j
      · subst e
        show (adF ls t q (c + 1) (l.set c (l.getD c 0 + (ls.getD t 0 - ls.getD c 0)))).getD c 0 = _
        rw [IH.2 (by omega), gd_set hc, if_pos rfl]
      · show (adF ls t q (j + 1) (l.set j (l.getD j 0 + (ls.getD t 0 - ls.getD j 0)))).getD c 0 = _
        rw [IH.1 (by omega), gd_set (by omega), if_neg e]
    · show (adF ls t q (j + 1) (l.set j (l.getD j 0 + (ls.getD t 0 - ls.getD j 0)))).getD c 0 = l.getD c 0
      rw [IH.2 (by omega), gd_set (by omega), if_neg (by omega)]
/-- the class's row to a cell -/
theorem row_far {g ls row : List Int32} {t : Nat} (ht : t < 48) (hr : row.length = 48) (e : ∀ c, c < 48 → ls.getD c 0 = gk g c) : ∀ f, f < 48 → (adF ls t 48 0 (spF ls t row)).getD f 0 = nI (farN g f t) := by
  intro f hf
  have hl : (spF ls t row).length = 48 := spF_len hr
  rw [((adF_at (ls := ls) (t := t) 48 0 (spF ls t row) (by omega) f (by omega)).1 (Nat.zero_le _)), spF_dst (gk_kfr g) e ht hr f hf, e t ht, e f hf]
  have h1 : gk g t = nI (iN (gk g t)) := (crF_iN _).1
  have h2 : gk g f = nI (iN (gk g f)) := (crF_iN _).1
  rw [h1, h2]
  exact nI_back (far_rev g hf ht)
end
-- 89y03.rel.lean.txt
section
-- camp and row tell the same
theorem sh_amt : ∀ c : Fin 64, ((nI c.val).toInt64.toUInt64 &&& Int64.toUInt64 63).toBitVec % 64 = BitVec.ofNat 64 c.val := by decide +kernel
theorem sh_one : ∀ c : Fin 64, ((1 : Int64) <<< ((nI c.val).toInt64 &&& 63)).toBitVec = BitVec.twoPow 64 c.val := by decide +kernel
def bitL (v : Int64) (c : Nat) : Bool := v.toBitVec.getLsbD c
theorem bit_1 {v : Int64} {c : Nat} (hc : c < 64) : lg_cmp ((((v).toUInt64 >>> ((nI c).toInt64.toUInt64 &&& Int64.toUInt64 63)).toInt64) &&& 1) 1 = 0 ↔ bitL v c = true := by
  rw [lg_cmp_eq, ← Int64.toBitVec_inj]
  have e : ((((v).toUInt64 >>> ((nI c).toInt64.toUInt64 &&& Int64.toUInt64 63)).toInt64) &&& 1).toBitVec = BitVec.setWidth 64 (BitVec.ofBool (bitL v c)) := by
    show (v.toBitVec >>> (((nI c).toInt64.toUInt64 &&& Int64.toUInt64 63).toBitVec % 64)) &&& 1#64 = _
    rw [sh_amt ⟨c, hc⟩, BitVec.and_one_eq_setWidth_ofBool_getLsbD]
    congr 2
    show (v.toBitVec >>> (BitVec.ofNat 64 c).toNat).getLsbD 0 = _
    rw [BitVec.getLsbD_ushiftRight, BitVec.toNat_ofNat, Nat.mod_eq_of_lt (by omega)]
    rfl
  rw [e]
  cases bitL v c <;> decide
theorem bit_xor {v : Int64} {c j : Nat} (hc : c < 64) : bitL (v ^^^ ((1 : Int64) <<< ((nI c).toInt64 &&& 63))) j = (bitL v j ^^ decide (c = j)) := by
  unfold bitL
  rw [Int64.toBitVec_xor, BitVec.getLsbD_xor, sh_one ⟨c, hc⟩, BitVec.getLsbD_twoPow, decide_eq_true (show c < 64 from hc), Bool.true_and]
theorem bit_or {v : Int64} {c j : Nat} (hc : c < 64) : bitL (v ||| ((1 : Int64) <<< ((nI c).toInt64 &&& 63))) j = (bitL v j || decide (c = j)) := by
  unfold bitL
  rw [Int64.toBitVec_or, BitVec.getLsbD_or, sh_one ⟨c, hc⟩, BitVec.getLsbD_twoPow, decide_eq_true (show c < 64 from hc), Bool.true_and]
theorem bit_andn {v u : Int64} {j : Nat} (hj : j < 64) : bitL (v &&& (u ^^^ (-1))) j = (bitL v j && !(bitL u j)) := by
  unfold bitL
  rw [Int64.toBitVec_and, BitVec.getLsbD_and, Int64.toBitVec_xor, BitVec.getLsbD_xor, show ((-1 : Int64)).toBitVec = BitVec.allOnes 64 from rfl, BitVec.getLsbD_allOnes, decide_eq_true hj, Bool.xor_true]
theorem bit_0 {j : Nat} : bitL 0 j = false := by
  unfold bitL
  exact BitVec.getLsbD_zero
def wbt (v : Int64) (c : Nat) : Int32 := b01 (bitL v c)
def wlr (l : List Int32) (c : Nat) : Int32 := if c < 48 then l.getD (55 + c) 0 else 0
/-- a camp's cells against a row -/
def rel (w : List sx_C) (A : Nat) (l : List Int32) : Prop := l.length = 172 ∧ (fi w A 6 = l.getD 0 0 ∧ fi w A 3 = l.getD 1 0 ∧ fi w A 5 = l.getD 2 0 ∧ fi w A 7 = l.getD 3 0 ∧ fi w A 8 = l.getD 4 0 ∧ fi w A 9 = l.getD 5 0 ∧ fi w A 10 = l.getD 6 0) ∧ (∀ c, c < 48 → (ia w (A + 1)).getD c 0 = l.getD (7 + c) 0) ∧ (∀ c, c < 64 → wbt (fj w A 1) c = wlr l c) ∧ (∀ i, i < iN (l.getD 1 0) → ∀ k, k < 6 → fi w (A + 4 + i) k = l.getD (103 + 6 * i + k) 0) ∧ ∀ d, d < iN (l.getD 2 0) → (ia w (A + 3)).getD d 0 = l.getD (163 + d) 0
section SXRL
variable {w w2 : List sx_C} {A : Nat} {l : List Int32}
theorem rel.len (h : rel w A l) : l.length = 172 := h.1
theorem rel.night (h : rel w A l) : fi w A 6 = l.getD 0 0 := h.2.1.1
theorem rel.many (h : rel w A l) : fi w A 3 = l.getD 1 0 := h.2.1.2.1
theorem rel.dished (h : rel w A l) : fi w A 5 = l.getD 2 0 := h.2.1.2.2.1
theorem rel.met (h : rel w A l) : fi w A 7 = l.getD 3 0 := h.2.1.2.2.2.1
theorem rel.gr (h : rel w A l) {c : Nat} (hc : c < 48) : (ia w (A + 1)).getD c 0 = l.getD (7 + c) 0 := h.2.2.1 c hc
theorem rel.wl (h : rel w A l) {c : Nat} (hc : c < 64) : wbt (fj w A 1) c = wlr l c := h.2.2.2.1 c hc
theorem rel.ga (h : rel w A l) {i k : Nat} (hi : i < iN (l.getD 1 0)) (hk : k < 6) : fi w (A + 4 + i) k = l.getD (103 + 6 * i + k) 0 := h.2.2.2.2.1 i hi k hk
theorem rel.di (h : rel w A l) {d : Nat} (hd : d < iN (l.getD 2 0)) : (ia w (A + 3)).getD d 0 = l.getD (163 + d) 0 := h.2.2.2.2.2 d hd
theorem rel.w48 (h : rel w A l) {c : Nat} (hc : c < 48) : b01 (bitL (fj w A 1) c) = l.getD (55 + c) 0 := by
  have := h.wl (c := c) (by omega)
  unfold wlr at this
  rw [if_pos hc] at this
  exact this
theorem rel.n10 (h : rel w A l) (hI : WI w) (hA : isA A) : ∃ n, n ≤ 10 ∧ l.getD 1 0 = nI n := by
  obtain ⟨n, hn, e⟩ := (hI.c hA).1
  exact ⟨n, hn, h.many.symm.trans e⟩
theorem rel.m9 (h : rel w A l) (hI : WI w) (hA : isA A) : ∃ n, n ≤ 9 ∧ l.getD 2 0 = nI n := by
  obtain ⟨n, hn, e⟩ := (hI.c hA).2
  exact ⟨n, hn, h.dished.symm.trans e⟩
theorem rel.same (h : rel w A l) (hI : WI w) (hA : isA A) (hs : ∀ a, A ≤ a → a < A + 14 → w2[a]? = w[a]?) : rel w2 A l := by
  obtain ⟨n, hn, en⟩ := h.n10 hI hA
  obtain ⟨h0, ⟨h1, h2, h3, h4, h5, h6, h7⟩, h8, h9, h10, h11⟩ := h
  have ea := hs A (by omega) (by omega)
  refine ⟨h0, ⟨(fi_same 6 ea).trans h1, (fi_same 3 ea).trans h2, (fi_same 5 ea).trans h3, (fi_same 7 ea).trans h4, (fi_same 8 ea).trans h5, (fi_same 9 ea).trans h6, (fi_same 10 ea).trans h7⟩, fun c hc => ?_, fun c hc => ?_, fun i hi k hk => ?_, fun d hd => ?_⟩
  · rw [ia_of (hs (A + 1) (by omega) (by omega))]
    exact h8 c hc
  · rw [fj_same 1 ea]
    exact h9 c hc
  · have hi2 := hi
    rw [en, iN_n (by omega)] at hi2
    exact (fi_same k (hs _ (by omega) (by omega))).trans (h10 i hi k hk)
  · rw [ia_of (hs (A + 3) (by omega) (by omega))]
    exact h11 d hd
/-- a cell's stuff -/
theorem rel.sGr {c : Nat} {v : Int32} (h : rel w A l) (hI : WI w) (hA : isA A) (hc : c < 48) (hs : Same (A + 1) w w2) (hv : ia w2 (A + 1) = (ia w (A + 1)).set c v) : rel w2 A (l.set (7 + c) v) := by
  have hl := (hI.1.aS hA).2
  obtain ⟨h0, ⟨h1, h2, h3, h4, h5, h6, h7⟩, h8, h9, h10, h11⟩ := h
  have ea := hs A (by omega)
  refine ⟨by rw [List.length_set]; exact h0, ⟨(fi_same 6 ea).trans (h1.trans (gd_ne (by omega)).symm), (fi_same 3 ea).trans (h2.trans (gd_ne (by omega)).symm), (fi_same 5 ea).trans (h3.trans (gd_ne (by omega)).symm), (fi_same 7 ea).trans (h4.trans (gd_ne (by omega)).symm), (fi_same 8 ea).trans (h5.trans (gd_ne (by omega)).symm), (fi_same 9 ea).trans (h6.trans (gd_ne (by omega)).symm), (fi_same 10 ea).trans (h7.trans (gd_ne (by omega)).symm)⟩, fun b hb => ?_, fun b hb => ?_, fun i hi k hk => ?_, fun d hd => ?_⟩
  · rw [hv, gd_set (by omega), gd_set (by omega)]
    by_cases e : b = c
    · rw [if_pos e, if_pos (by omega)]
    · rw [if_neg e, if_neg (by omega)]
      exact h8 b hb
  · rw [fj_same 1 ea]
    have := h9 b hb
    rw [this]
    unfold wlr
    split
    · exact (gd_ne (by omega)).symm
    · rfl
  · rw [gd_ne (by omega)] at hi
    exact (fi_same k (hs _ (by omega))).trans ((h10 i hi k hk).trans (gd_ne (by omega)).symm)
  · rw [gd_ne (by omega)] at hd
    exact (congrArg (fun q => List.getD q d 0) (ia_of (hs (A + 3) (by omega)))).trans ((h11 d hd).trans (gd_ne (by omega)).symm)
/-- the wall of a cell -/
theorem rel.sWl {c : Nat} {v : Int32} (h : rel w A l) (hc : c < 48) (hs : Same A w w2) (hr : ∀ j, fi w2 A j = fi w A j) (hv : ∀ b, b < 64 → wbt (fj w2 A 1) b = if b = c then v else wbt (fj w A 1) b) : rel w2 A (l.set (55 + c) v) := by
  obtain ⟨h0, ⟨h1, h2, h3, h4, h5, h6, h7⟩, h8, h9, h10, h11⟩ := h
  refine ⟨by rw [List.length_set]; exact h0, ⟨(hr 6).trans (h1.trans (gd_ne (by omega)).symm), (hr 3).trans (h2.trans (gd_ne (by omega)).symm), (hr 5).trans (h3.trans (gd_ne (by omega)).symm), (hr 7).trans (h4.trans (gd_ne (by omega)).symm), (hr 8).trans (h5.trans (gd_ne (by omega)).symm), (hr 9).trans (h6.trans (gd_ne (by omega)).symm), (hr 10).trans (h7.trans (gd_ne (by omega)).symm)⟩, fun b hb => ?_, fun b hb => ?_, fun i hi k hk => ?_, fun d hd => ?_⟩
  · rw [ia_of (hs (A + 1) (by omega)), gd_ne (by omega)]
    exact h8 b hb
  · rw [hv b hb]
    unfold wlr
    by_cases e : b = c
    · rw [if_pos e, if_pos (by omega), gd_set (by omega), if_pos (by omega)]
    · rw [if_neg e, h9 b hb]
      unfold wlr
      split
      · exact (gd_ne (by omega)).symm
      · rfl
  · rw [gd_ne (by omega)] at hi
    exact (fi_same k (hs _ (by omega))).trans ((h10 i hi k hk).trans (gd_ne (by omega)).symm)
  · rw [gd_ne (by omega)] at hd
    exact (congrArg (fun q => List.getD q d 0) (ia_of (hs (A + 3) (by omega)))).trans ((h11 d hd).trans (gd_ne (by omega)).symm)
/-- a field of a gallery -/
theorem rel.sGa {i k : Nat} {v : Int32} (h : rel w A l) (hi10 : i < 10) (hk6 : k < 6) (hs : Same (A + 4 + i) w w2) (hv : fi w2 (A + 4 + i) k = v) (hr : ∀ j, j ≠ k → fi w2 (A + 4 + i) j = fi w (A + 4 + i) j) : rel w2 A (l.set (103 + 6 * i + k) v) := by
  obtain ⟨h0, ⟨h1, h2, h3, h4, h5, h6, h7⟩, h8, h9, h10, h11⟩ := h
  have ea := hs A (by omega)
  refine ⟨by rw [List.length_set]; exact h0, ⟨(fi_same 6 ea).trans (h1.trans (gd_ne (by omega)).symm), (fi_same 3 ea).trans (h2.trans (gd_ne (by omega)).symm), (fi_same 5 ea).trans (h3.trans (gd_ne (by omega)).symm), (fi_same 7 ea).trans (h4.trans (gd_ne (by omega)).symm), (fi_same 8 ea).trans (h5.trans (gd_ne (by omega)).symm), (fi_same 9 ea).trans (h6.trans (gd_ne (by omega)).symm), (fi_same 10 ea).trans (h7.trans (gd_ne (by omega)).symm)⟩, fun b hb => ?_, fun b hb => ?_, fun i2 hi k2 hk => ?_, fun d hd => ?_⟩
  · rw [ia_of (hs (A + 1) (by omega)), gd_ne (by omega)]
    exact h8 b hb
  · rw [fj_same 1 ea, h9 b hb]
    unfold wlr
    split
    · exact (gd_ne (by omega)).symm
    · rfl
  · rw [gd_ne (by omega)] at hi
    rw [gd_set (by omega)]
    by_cases e : i2 = i
    · subst e
      by_cases e2 : k2 = k
      · subst e2
        rw [if_pos rfl]
        exact hv
      · rw [if_neg (by omega), hr k2 e2]
        exact h10 i2 hi k2 hk
    · rw [if_neg (by omega)]
      exact (fi_same k2 (hs _ (by omega))).trans (h10 i2 hi k2 hk)
  · rw [gd_ne (by omega)] at hd
    exact (congrArg (fun q => List.getD q d 0) (ia_of (hs (A + 3) (by omega)))).trans ((h11 d hd).trans (gd_ne (by omega)).symm)
/-- a dish's cell -/
theorem rel.sDi {d : Nat} {v : Int32} (h : rel w A l) (hI : WI w) (hA : isA A) (hd9 : d < 9) (hs : Same (A + 3) w w2) (hv : ia w2 (A + 3) = (ia w (A + 3)).set d v) : rel w2 A (l.set (163 + d) v) := by
  have hl := (hI.1.aD hA).2
  obtain ⟨n, hn, en⟩ := h.n10 hI hA
  obtain ⟨h0, ⟨h1, h2, h3, h4, h5, h6, h7⟩, h8, h9, h10, h11⟩ := h
  have ea := hs A (by omega)
  refine ⟨by rw [List.length_set]; exact h0, ⟨(fi_same 6 ea).trans (h1.trans (gd_ne (by omega)).symm), (fi_same 3 ea).trans (h2.trans (gd_ne (by omega)).symm), (fi_same 5 ea).trans (h3.trans (gd_ne (by omega)).symm), (fi_same 7 ea).trans (h4.trans (gd_ne (by omega)).symm), (fi_same 8 ea).trans (h5.trans (gd_ne (by omega)).symm), (fi_same 9 ea).trans (h6.trans (gd_ne (by omega)).symm), (fi_same 10 ea).trans (h7.trans (gd_ne (by omega)).symm)⟩, fun b hb => ?_, fun b hb => ?_, fun i hi k hk => ?_, fun e he => ?_⟩
  · rw [ia_of (hs (A + 1) (by omega)), gd_ne (by omega)]
    exact h8 b hb
  · rw [fj_same 1 ea, h9 b hb]
    unfold wlr
    split
    · exact (gd_ne (by omega)).symm
    · rfl
  · rw [gd_ne (by omega)] at hi
    have hi2 := hi
    rw [en, iN_n (by omega)] at hi2
    exact (fi_same k (hs _ (by omega))).trans ((h10 i hi k hk).trans (gd_ne (by omega)).symm)
  · rw [gd_ne (by omega)] at he
    rw [hv, gd_set (by omega), gd_set (by omega)]
    by_cases e2 : e = d
    · rw [if_pos e2, if_pos (by omega)]
    · rw [if_neg e2, if_neg (by omega)]
      exact h11 e he
/-- where a field of a camp stands in the row -/
def fkR (k : Nat) : Nat := if k = 6 then 0 else if k = 3 then 1 else if k = 5 then 2 else if k = 7 then 3 else k - 4
/-- night, met, bread -/
theorem rel.sFi {k : Nat} {v : Int32} (h : rel w A l) (hk : k = 6 ∨ k = 7 ∨ k = 8 ∨ k = 9 ∨ k = 10) (hs : Same A w w2) (hv : fi w2 A k = v) (hr : ∀ j, j ≠ k → fi w2 A j = fi w A j) (hj : fj w2 A 1 = fj w A 1) : rel w2 A (l.set (fkR k) v) := by
  obtain ⟨h0, ⟨h1, h2, h3, h4, h5, h6, h7⟩, h8, h9, h10, h11⟩ := h
  have rest : ∀ p, p ≠ 1 → p ≠ 2 → p < 7 → (∀ c, c < 48 → (ia w2 (A + 1)).getD c 0 = (l.set p v).getD (7 + c) 0) ∧ (∀ c, c < 64 → wbt (fj w2 A 1) c = wlr (l.set p v) c) ∧ (∀ i, i < iN ((l.set p v).getD 1 0) → ∀ k, k < 6 → fi w2 (A + 4 + i) k = (l.set p v).getD (103 + 6 * i + k) 0) ∧ ∀ d, d < iN ((l.set p v).getD 2 0) → (ia w2 (A + 3)).getD d 0 = (l.set p v).getD (163 + d) 0 := by
    intro p hp1 hp2 hp7
    refine ⟨fun b hb => ?_, fun b hb => ?_, fun i hi k hk => ?_, fun d hd => ?_⟩
    · rw [ia_of (hs (A + 1) (by omega)), gd_ne (by omega)]
      exact h8 b hb
    · rw [hj, h9 b hb]
      unfold wlr
      split
      · exact (gd_ne (by omega)).symm
      · rfl
    · rw [gd_ne (by omega)] at hi
      exact (fi_same k (hs _ (by omega))).trans ((h10 i hi k hk).trans (gd_ne (by omega)).symm)
    · rw [gd_ne (by omega)] at hd
      exact (congrArg (fun q => List.getD q d 0) (ia_of (hs (A + 3) (by omega)))).trans ((h11 d hd).trans (gd_ne (by omega)).symm)
  rcases hk with rfl | rfl | rfl | rfl | rfl
  · show rel w2 A (l.set 0 v)
    exact ⟨by rw [List.length_set]; exact h0, ⟨hv.trans (gd_eq (by omega)).symm, (hr 3 (by decide)).trans (h2.trans (gd_ne (by decide)).symm), (hr 5 (by decide)).trans (h3.trans (gd_ne (by decide)).symm), (hr 7 (by decide)).trans (h4.trans (gd_ne (by decide)).symm), (hr 8 (by decide)).trans (h5.trans (gd_ne (by decide)).symm), (hr 9 (by decide)).trans (h6.trans (gd_ne (by decide)).symm), (hr 10 (by decide)).trans (h7.trans (gd_ne (by decide)).symm)⟩, rest 0 (by decide) (by decide) (by decide)⟩
  · show rel w2 A (l.set 3 v)
    exact ⟨by rw [List.length_set]; exact h0, ⟨(hr 6 (by decide)).trans (h1.trans (gd_ne (by decide)).symm), (hr 3 (by decide)).trans (h2.trans (gd_ne (by decide)).symm), (hr 5 (by decide)).trans (h3.trans (gd_ne (by decide)).symm), hv.trans (gd_eq (by omega)).symm, (hr 8 (by decide)).trans (h5.trans (gd_ne (by decide)).symm), (hr 9 (by decide)).trans (h6.trans (gd_ne (by decide)).symm), (hr 10 (by decide)).trans (h7.trans (gd_ne (by decide)).symm)⟩, rest 3 (by decide) (by decide) (by decide)⟩
  · show rel w2 A (l.set 4 v)
    exact ⟨by rw [List.length_set]; exact h0, ⟨(hr 6 (by decide)).trans (h1.trans (gd_ne (by decide)).symm), (hr 3 (by decide)).trans (h2.trans (gd_ne (by decide)).symm), (hr 5 (by decide)).trans (h3.trans (gd_ne (by decide)).symm), (hr 7 (by decide)).trans (h4.trans (gd_ne (by decide)).symm), hv.trans (gd_eq (by omega)).symm, (hr 9 (by decide)).trans (h6.trans (gd_ne (by decide)).symm), (hr 10 (by decide)).trans (h7.trans (gd_ne (by decide)).symm)⟩, rest 4 (by decide) (by decide) (by decide)⟩
  · show rel w2 A (l.set 5 v)
    exact ⟨by rw [List.length_set]; exact h0, ⟨(hr 6 (by decide)).trans (h1.trans (gd_ne (by decide)).symm), (hr 3 (by decide)).trans (h2.trans (gd_ne (by decide)).symm), (hr 5 (by decide)).trans (h3.trans (gd_ne (by decide)).symm), (hr 7 (by decide)).trans (h4.trans (gd_ne (by decide)).symm), (hr 8 (by decide)).trans (h5.trans (gd_ne (by decide)).symm), hv.trans (gd_eq (by omega)).symm, (hr 10 (by decide)).trans (h7.trans (gd_ne (by decide)).symm)⟩, rest 5 (by decide) (by decide) (by decide)⟩
  · show rel w2 A (l.set 6 v)
    exact ⟨by rw [List.length_set]; exact h0, ⟨(hr 6 (by decide)).trans (h1.trans (gd_ne (by decide)).symm), (hr 3 (by decide)).trans (h2.trans (gd_ne (by decide)).symm), (hr 5 (by decide)).trans (h3.trans (gd_ne (by decide)).symm), (hr 7 (by decide)).trans (h4.trans (gd_ne (by decide)).symm), (hr 8 (by decide)).trans (h5.trans (gd_ne (by decide)).symm), (hr 9 (by decide)).trans (h6.trans (gd_ne (by decide)).symm), hv.trans (gd_eq (by omega)).symm⟩, rest 6 (by decide) (by decide) (by decide)⟩
/-- one gallery more: its fields stand already -/
theorem rel.sMany {n : Nat} (h : rel w A l) (hn : n ≤ 9) (en : l.getD 1 0 = nI n) (hnew : ∀ k, k < 6 → fi w (A + 4 + n) k = l.getD (103 + 6 * n + k) 0) (hs : Same A w w2) (hv : fi w2 A 3 = nI (n + 1)) (hr : ∀ j, j ≠ 3 → fi w2 A j = fi w A j) (hj : fj w2 A 1 = fj w A 1) : rel w2 A (l.set 1 (nI (n + 1))) := by
  obtain ⟨h0, ⟨h1, h2, h3, h4, h5, h6, h7⟩, h8, h9, h10, h11⟩ := h
  refine ⟨by rw [List.length_set]; exact h0, ⟨(hr 6 (by decide)).trans (h1.trans (gd_ne (by decide)).symm), hv.trans (gd_eq (by omega)).symm, (hr 5 (by decide)).trans (h3.trans (gd_ne (by decide)).symm), (hr 7 (by decide)).trans (h4.trans (gd_ne (by decide)).symm), (hr 8 (by decide)).trans (h5.trans (gd_ne (by decide)).symm), (hr 9 (by decide)).trans (h6.trans (gd_ne (by decide)).symm), (hr 10 (by decide)).trans (h7.trans (gd_ne (by decide)).symm)⟩, fun b hb => ?_, fun b hb => ?_, fun i hi k hk => ?_, fun d hd => ?_⟩
  · rw [ia_of (hs (A + 1) (by omega)), gd_ne (by omega)]
    exact h8 b hb
  · rw [hj, h9 b hb]
    unfold wlr
    split
    · exact (gd_ne (by omega)).symm
    · rfl
  · rw [gd_eq (by omega), iN_n (by omega)] at hi
    rw [gd_ne (by omega)]
    refine (fi_same k (hs _ (by omega))).trans ?_
    by_cases e : i = n
    · rw [e]
      exact hnew k hk
    · exact h10 i (by rw [en, iN_n (by omega)]; omega) k hk
  · rw [gd_ne (by decide)] at hd
    exact (congrArg (fun q => List.getD q d 0) (ia_of (hs (A + 3) (by omega)))).trans ((h11 d hd).trans (gd_ne (by omega)).symm)
/-- one dish more: its cell stands already -/
theorem rel.sDished {n : Nat} (h : rel w A l) (hn : n ≤ 8) (en : l.getD 2 0 = nI n) (hnew : (ia w (A + 3)).getD n 0 = l.getD (163 + n) 0) (hs : Same A w w2) (hv : fi w2 A 5 = nI (n + 1)) (hr : ∀ j, j ≠ 5 → fi w2 A j = fi w A j) (hj : fj w2 A 1 = fj w A 1) : rel w2 A (l.set 2 (nI (n + 1))) := by
  obtain ⟨h0, ⟨h1, h2, h3, h4, h5, h6, h7⟩, h8, h9, h10, h11⟩ := h
  refine ⟨by rw [List.length_set]; exact h0, ⟨(hr 6 (by decide)).trans (h1.trans (gd_ne (by decide)).symm), (hr 3 (by decide)).trans (h2.trans (gd_ne (by decide)).symm), hv.trans (gd_eq (by omega)).symm, (hr 7 (by decide)).trans (h4.trans (gd_ne (by decide)).symm), (hr 8 (by decide)).trans (h5.trans (gd_ne (by decide)).symm), (hr 9 (by decide)).trans (h6.trans (gd_ne (by decide)).symm), (hr 10 (by decide)).trans (h7.trans (gd_ne (by decide)).symm)⟩, fun b hb => ?_, fun b hb => ?_, fun i hi k hk => ?_, fun d hd => ?_⟩
  · rw [ia_of (hs (A + 1) (by omega)), gd_ne (by omega)]
    exact h8 b hb
  · rw [hj, h9 b hb]
    unfold wlr
    split
    · exact (gd_ne (by omega)).symm
    · rfl
  · rw [gd_ne (by decide)] at hi
    exact (fi_same k (hs _ (by omega))).trans ((h10 i hi k hk).trans (gd_ne (by omega)).symm)
  · rw [gd_eq (by omega), iN_n (by omega)] at hd
    rw [ia_of (hs (A + 3) (by omega)), gd_ne (by omega)]
    by_cases e : d = n
    · rw [e]
      exact hnew
    · exact h11 d (by rw [en, iN_n (by omega)]; omega)
/-- a camp laid over another one -/
theorem rel.took {B : Nat} (h : rel w B l) (ht : Took A B w w2) : rel w2 A l := by
  obtain ⟨h0, ⟨h1, h2, h3, h4, h5, h6, h7⟩, h8, h9, h10, h11⟩ := h
  obtain ⟨-, t1, t2, t3, t4, t5⟩ := ht
  refine ⟨h0, ⟨(t3 6 (by omega)).trans h1, (t3 3 (by omega)).trans h2, (t3 5 (by omega)).trans h3, (t3 7 (by omega)).trans h4, (t3 8 (by omega)).trans h5, (t3 9 (by omega)).trans h6, (t3 10 (by omega)).trans h7⟩, fun c hc => by rw [t1]; exact h8 c hc, fun c hc => by rw [t2]; exact h9 c hc, fun i hi k hk => ?_, fun d hd => by rw [t4]; exact h11 d hd⟩
  exact (t5 i (by rw [h2]; exact hi) k hk).trans (h10 i hi k hk)
end SXRL
end
