-- cells of the reference
theorem row_set {l : List Int32} {i : Nat} {v : Int32} (hi : ¬ bk i) (hn : iN (l.getD 1 0) ≤ 10) : rowB (l.set i v) = rowB l := rowB_bk (fun k hk => gd_ne (fun e => hi (e ▸ hk))) hn
set_option maxRecDepth 20000 in
set_option maxHeartbeats 4000000 in
theorem y224 {xs : Option (List Int32)} {d : Nat} {w : List sx_C} (hI : WI w) {c u : Nat} (hc : c < 48) (hu : u ≤ 4) : sx_RP xs d 224 0 (lv_args 0 [.ref 111, .int (nI c), .int (nI u)]) [] w (fun r w2 => (r = none ∧ rowB (ia w2 112) = rowB (ia w 112)) ∧ WI w2 ∧ Same 112 w w2) := by
  refine sx_RP.step (pc2 := 1) (ls2 := [(0, .ref 111), (1, .int (nI c)), (2, .int (nI u))]) (st2 := [.int (nI u)]) (w3 := w) rfl rfl ?_
  refine sx_RP.step (pc2 := 2) (ls2 := [(0, .ref 111), (1, .int (nI c)), (2, .int (nI u))]) (st2 := [.int 4, .int (nI u)]) (w3 := w) rfl rfl ?_
  refine sx_RP.br (p1 := 18) (l1 := [(0, .ref 111), (1, .int (nI c)), (2, .int (nI u))]) (s1 := []) (v1 := w) (p2 := 5) (l2 := [(0, .ref 111), (1, .int (nI c)), (2, .int (nI u))]) (s2 := []) (v2 := w) rfl rfl (fun q1 => ?_) (fun q1 => ?_)
  · replace q1 := of_decide_eq_true q1
    replace q1 := mt (nI_eq (a := u) (b := 4) (by omega) (by omega)).mpr q1
    refine sx_RP.step (pc2 := 19) (ls2 := [(0, .ref 111), (1, .int (nI c)), (2, .int (nI u))]) (st2 := [.ref 111]) (w3 := w) rfl rfl ?_
    refine sx_RP.gf (v := .ref 112) rfl rfl hI.1.o111 rfl rfl (show _ = 22 from rfl) ?_
    refine sx_RP.step (pc2 := 24) (ls2 := [(0, .ref 111), (1, .int (nI c)), (2, .int (nI u))]) (st2 := [.int 7, .ref 112]) (w3 := w) rfl rfl ?_
    refine sx_RP.step (pc2 := 25) (ls2 := [(0, .ref 111), (1, .int (nI c)), (2, .int (nI u))]) (st2 := [.int (nI c), .int 7, .ref 112]) (w3 := w) rfl rfl ?_
    refine sx_RP.step (pc2 := 26) (ls2 := [(0, .ref 111), (1, .int (nI c)), (2, .int (nI u))]) (st2 := [.int (7 + (nI c)), .ref 112]) (w3 := w) rfl rfl ?_
    rw [show (7 + (nI c) : Int32) = nI (7 + c) from nI_add 7 c]
    refine sx_RP.step (pc2 := 27) (ls2 := [(0, .ref 111), (1, .int (nI c)), (2, .int (nI u))]) (st2 := [.int (nI u), .int (nI (7 + c)), .ref 112]) (w3 := w) rfl rfl ?_
    refine sx_RP.xM (k := (7 + c)) hI (by decide) rfl (by omega) (eOK_st (by omega) ⟨u, by omega, rfl⟩) (show _ = 28 from rfl) (fun w2 hI3 hs4 hv5 => ?_)
    refine sx_RP.ret (r := none) rfl rfl ?_
    exact ⟨⟨rfl, by rw [hv5]; exact row_set (by unfold bk; omega) (hI.manyM (by decide))⟩, hI3, hs4⟩
  · replace q1 := Decidable.not_not.mp (of_decide_eq_false q1)
    replace q1 := (nI_eq (a := u) (b := 4) (by omega) (by omega)).mp q1
    refine sx_RP.step (pc2 := 6) (ls2 := [(0, .ref 111), (1, .int (nI c)), (2, .int (nI u))]) (st2 := [.ref 111]) (w3 := w) rfl rfl ?_
    refine sx_RP.gf (v := .ref 112) rfl rfl hI.1.o111 rfl rfl (show _ = 9 from rfl) ?_
    refine sx_RP.step (pc2 := 11) (ls2 := [(0, .ref 111), (1, .int (nI c)), (2, .int (nI u))]) (st2 := [.int 55, .ref 112]) (w3 := w) rfl rfl ?_
    refine sx_RP.step (pc2 := 12) (ls2 := [(0, .ref 111), (1, .int (nI c)), (2, .int (nI u))]) (st2 := [.int (nI c), .int 55, .ref 112]) (w3 := w) rfl rfl ?_
    refine sx_RP.step (pc2 := 13) (ls2 := [(0, .ref 111), (1, .int (nI c)), (2, .int (nI u))]) (st2 := [.int (55 + (nI c)), .ref 112]) (w3 := w) rfl rfl ?_
    rw [show (55 + (nI c) : Int32) = nI (55 + c) from nI_add 55 c]
    refine sx_RP.step (pc2 := 14) (ls2 := [(0, .ref 111), (1, .int (nI c)), (2, .int (nI u))]) (st2 := [.int 1, .int (nI (55 + c)), .ref 112]) (w3 := w) rfl rfl ?_
    refine sx_RP.xM (k := (55 + c)) hI (by decide) rfl (by omega) (eOK_n (by omega)) (show _ = 15 from rfl) (fun w6 hI7 hs8 hv9 => ?_)
    refine sx_RP.step (pc2 := 28) (ls2 := [(0, .ref 111), (1, .int (nI c)), (2, .int (nI u))]) (st2 := []) (w3 := w6) rfl rfl ?_
    refine sx_RP.ret (r := none) rfl rfl ?_
    exact ⟨⟨rfl, by rw [hv9]; exact row_set (by unfold bk; omega) (hI.manyM (by decide))⟩, hI7, hs8⟩
set_option maxRecDepth 20000 in
set_option maxHeartbeats 4000000 in
theorem y219B {xs : Option (List Int32)} {d i : Nat} {n h q v u : Nat} {X : Nat → Nat} {b : BB} {l : Int32} {w0 : List sx_C} (hu : u ≤ 4) (hv : v ≤ 47) (hp : h ≤ n) (hP : rE blk n X h = q) {w : List sx_C} (hI : WI w) (hM : MT n X w) (ep : fi w 111 12 = nI h) (ef : fi w 111 13 = -1) (ev : fi w 111 14 = nI v) (hB : rowB (ia w 112) = b) (hO : OM w0 w) (hi : i ≤ 48) (kk : ∀ w, i ≤ v → WI w → MT n X w → fi w 111 12 = nI h → fi w 111 13 = -1 → fi w 111 14 = nI v → rowB (ia w 112) = b → OM w0 w → sx_RP xs (d + 6) 219 62 [(0, .ref 111), (1, .int (nI u)), (2, .int l), (3, .int (nI (i + 1)))] [] w (fun r w2 => (r = some (.int 1) ∧ RdM n X (true, q, b) w2) ∧ WI w2 ∧ OM w0 w2)) : sx_RP xs (d + 6) 219 62 [(0, .ref 111), (1, .int (nI u)), (2, .int l), (3, .int (nI i))] [] w (fun r w2 => (r = some (.int 1) ∧ RdM n X (true, q, b) w2) ∧ WI w2 ∧ OM w0 w2) := by
  have hn := hM.2.1
  refine sx_RP.step (pc2 := 63) (ls2 := [(0, .ref 111), (1, .int (nI u)), (2, .int l), (3, .int (nI i))]) (st2 := [.int (nI i)]) (w3 := w) rfl rfl ?_
  refine sx_RP.step (pc2 := 64) (ls2 := [(0, .ref 111), (1, .int (nI u)), (2, .int l), (3, .int (nI i))]) (st2 := [.ref 111, .int (nI i)]) (w3 := w) rfl rfl ?_
  refine sx_RP.gf (v := .int (fi w 111 14)) rfl rfl hI.1.o111 rfl rfl (show _ = 67 from rfl) ?_
  rw [ev]
  refine sx_RP.br (p1 := 82) (l1 := [(0, .ref 111), (1, .int (nI u)), (2, .int l), (3, .int (nI i))]) (s1 := []) (v1 := w) (p2 := 70) (l2 := [(0, .ref 111), (1, .int (nI u)), (2, .int l), (3, .int (nI i))]) (s2 := []) (v2 := w) rfl rfl (fun q1 => ?_) (fun q1 => ?_)
  · replace q1 := of_decide_eq_true q1
    replace q1 := (nI_ltI (a := v) (b := i) (by omega) (by omega)).mp q1
    refine sx_RP.step (pc2 := 83) (ls2 := [(0, .ref 111), (1, .int (nI u)), (2, .int l), (3, .int (nI i))]) (st2 := [.int 1]) (w3 := w) rfl rfl ?_
    refine sx_RP.ret (r := (some (.int 1))) rfl rfl ?_
    exact ⟨⟨rfl, RdM.t ef hB hp ep hP⟩, hI, hO⟩
  · replace q1 := of_decide_eq_false q1
    replace q1 := mt (nI_ltI (a := v) (b := i) (by omega) (by omega)).mpr q1
    refine sx_RP.step (pc2 := 71) (ls2 := [(0, .ref 111), (1, .int (nI u)), (2, .int l), (3, .int (nI i))]) (st2 := [.ref 111]) (w3 := w) rfl rfl ?_
    refine sx_RP.step (pc2 := 72) (ls2 := [(0, .ref 111), (1, .int (nI u)), (2, .int l), (3, .int (nI i))]) (st2 := [.int (nI i), .ref 111]) (w3 := w) rfl rfl ?_
    refine sx_RP.step (pc2 := 73) (ls2 := [(0, .ref 111), (1, .int (nI u)), (2, .int l), (3, .int (nI i))]) (st2 := [.int (nI u), .int (nI i), .ref 111]) (w3 := w) rfl rfl ?_
    refine sx_RP.callp (as2 := [.ref 111, .int (nI i), .int (nI u)]) (rest2 := []) rfl rfl (sx_inv_v2 (mi := 219) (k := 270) (st := [.int (nI u), .int (nI i), .ref 111]) (w := w) rfl rfl hI.1.o111 rfl rfl rfl) rfl rfl rfl (y224 (c := i) (u := u) hI (by omega) (by omega)) (show _ = 76 from rfl) ?_
    rintro r4 w5 ⟨⟨rfl, hb2⟩, hI6, hs3⟩
    show sx_RP _ _ _ _ _ [] _ _
    have hB4 := hb2.trans hB
    have ep7 := (fi_same 12 (hs3 111 (by decide))).trans ep
    have ef8 := (fi_same 13 (hs3 111 (by decide))).trans ef
    have hM9 := hM.om (OM.st hs3)
    have hO10 := hO.tr (OM.st hs3)
    have ev11 := (fi_same 14 (hs3 111 (by decide))).trans ev
    refine sx_RP.step (pc2 := 79) (ls2 := [(3, .int ((nI i) + 1)), (0, .ref 111), (1, .int (nI u)), (2, .int l)]) (st2 := []) (w3 := w5) rfl rfl ?_
    rw [nI_1 i]
    refine sx_RP.step (pc2 := 62) (ls2 := [(3, .int (nI (i + 1))), (0, .ref 111), (1, .int (nI u)), (2, .int l)]) (st2 := []) (w3 := w5) rfl rfl ?_
    exact sx_RP.ls (sx_lr.cons rfl (sx_lr.cons rfl (sx_lr.cons rfl (sx_lr.cons rfl sx_lr.nil)))) (kk w5 (by omega) hI6 hM9 ep7 ef8 ev11 hB4 hO10)
theorem y219I {xs : Option (List Int32)} {d : Nat} {n h q v u : Nat} {X : Nat → Nat} {b : BB} {l : Int32} {w0 : List sx_C} (hu : u ≤ 4) (hv : v ≤ 47) (hp : h ≤ n) (hP : rE blk n X h = q) : ∀ (fz i : Nat) (w : List sx_C), 48 ≤ i + fz → i ≤ 48 → WI w → MT n X w → fi w 111 12 = nI h → fi w 111 13 = -1 → fi w 111 14 = nI v → rowB (ia w 112) = b → OM w0 w → sx_RP xs (d + 6) 219 62 [(0, .ref 111), (1, .int (nI u)), (2, .int l), (3, .int (nI i))] [] w (fun r w2 => (r = some (.int 1) ∧ RdM n X (true, q, b) w2) ∧ WI w2 ∧ OM w0 w2)
  | 0, i, w, h0, hi, hI, hM, ep, ef, ev, hB, hO => y219B hu hv hp hP hI hM ep ef ev hB hO hi (fun _ z => absurd z (by omega))
  | fz + 1, i, w, h0, hi, hI, hM, ep, ef, ev, hB, hO => y219B hu hv hp hP hI hM ep ef ev hB hO hi (fun w2 z => y219I hu hv hp hP fz (i + 1) w2 (by omega) (by omega))
theorem y225t {xs : Option (List Int32)} {d n h q : Nat} {X : Nat → Nat} {w : List sx_C} (hI : WI w) (hM : MT n X w) (hp : h ≤ n) (ep : fi w 111 12 = nI h) (ef : fi w 111 13 = -1) (hP : rE blk n X h = q) (c : soT n X q = 2) : sx_RP xs (d + 3) 225 0 (lv_args 0 [.ref 111]) [] w (fun r w2 => (r = some (.int 1) ∧ fi w2 111 12 = nI q) ∧ WI w2 ∧ H12 w w2) := by
  subst hP
  have z := y225 (xs := xs) (d := d) hI hM hp ep ef
  rw [decide_eq_true c] at z
  exact z
theorem y225f {xs : Option (List Int32)} {d n h q : Nat} {X : Nat → Nat} {w : List sx_C} (hI : WI w) (hM : MT n X w) (hp : h ≤ n) (ep : fi w 111 12 = nI h) (ef : fi w 111 13 = -1) (hP : rE blk n X h = q) (c : ¬ soT n X q = 2) : sx_RP xs (d + 3) 225 0 (lv_args 0 [.ref 111]) [] w (fun r w2 => (r = some (.int 0) ∧ fi w2 111 12 = nI q) ∧ WI w2 ∧ H12 w w2) := by
  subst hP
  have z := y225 (xs := xs) (d := d) hI hM hp ep ef
  rw [decide_eq_false c] at z
  exact z
set_option maxRecDepth 20000 in
set_option maxHeartbeats 4000000 in
theorem y219L {xs : Option (List Int32)} {d n u : Nat} {X : Nat → Nat} {b : BB} {w0 : List sx_C} (hu : u ≤ 4) : ∀ (fz last h q : Nat) (w : List sx_C), 48 ≤ last + fz → last ≤ 47 → h ≤ n → rE blk n X h = q → WI w → MT n X w → fi w 111 12 = nI h → fi w 111 13 = -1 → rowB (ia w 112) = b → OM w0 w → sx_RP xs (d + 6) 219 27 [(0, .ref 111), (1, .int (nI u)), (2, .int (nI last))] [] w (fun r w2 => (r = some (.int (b01 (grL n X b fz last q).1)) ∧ RdM n X (grL n X b fz last q) w2) ∧ WI w2 ∧ OM w0 w2)
  | 0, last, h, q, w, h0, hl, hp, hP, hI, hM, ep, ef, hB, hO => absurd h0 (by omega)
  | fz + 1, last, h, q, w, h0, hl, hp, hP, hI, hM, ep, ef, hB, hO => by
    have hn := hM.2.1
    have hpl : q ≤ n := by rw [← hP]; exact rE_le hp
    refine sx_RP.step (pc2 := 28) (ls2 := [(0, .ref 111), (1, .int (nI u)), (2, .int (nI last))]) (st2 := [.ref 111]) (w3 := w) rfl rfl ?_
    rcases Decidable.em (soT n X q = 2) with c1 | c1
    · refine sx_RP.callp (as2 := [.ref 111]) (rest2 := []) rfl rfl (sx_inv_v2 (mi := 219) (k := 273) (st := [.ref 111]) (w := w) rfl rfl hI.1.o111 rfl rfl rfl) rfl rfl rfl (y225t hI hM hp ep ef hP c1) (show _ = 31 from rfl) ?_
      rintro r4 w5 ⟨⟨rfl, ep2⟩, hI6, hO3⟩
      show sx_RP _ _ _ _ _ [.int 1] _ _
      have ef4 := (hO3.2 13 (by decide)).trans ef
      have hP7 : rE blk n X q = q := by rw [← hP]; exact rE_rE
      have hM8 := hM.hs (hO3.hs)
      have hO9 := hO.tr (HS.om (hO3.hs))
      have hB10 : rowB (ia w5 112) = b := by rw [HS.row (hO3.hs)]; exact hB
      refine sx_RP.step (pc2 := 2) (ls2 := [(0, .ref 111), (1, .int (nI u)), (2, .int (nI last))]) (st2 := []) (w3 := w5) rfl rfl ?_
      refine sx_RP.step (pc2 := 3) (ls2 := [(0, .ref 111), (1, .int (nI u)), (2, .int (nI last))]) (st2 := [.ref 111]) (w3 := w5) rfl rfl ?_
      refine sx_RP.step (pc2 := 4) (ls2 := [(0, .ref 111), (1, .int (nI u)), (2, .int (nI last))]) (st2 := [.int (nI last), .ref 111]) (w3 := w5) rfl rfl ?_
      refine sx_RP.step (pc2 := 5) (ls2 := [(0, .ref 111), (1, .int (nI u)), (2, .int (nI last))]) (st2 := [.int 1, .int (nI last), .ref 111]) (w3 := w5) rfl rfl ?_
      refine sx_RP.step (pc2 := 6) (ls2 := [(0, .ref 111), (1, .int (nI u)), (2, .int (nI last))]) (st2 := [.int ((nI last) + 1), .ref 111]) (w3 := w5) rfl rfl ?_
      rw [show ((nI last) + 1 : Int32) = nI (last + 1) from nI_add last 1]
      refine sx_RP.step (pc2 := 8) (ls2 := [(0, .ref 111), (1, .int (nI u)), (2, .int (nI last))]) (st2 := [.int 47, .int (nI (last + 1)), .ref 111]) (w3 := w5) rfl rfl ?_
      rcases Bool.eq_false_or_eq_true (nmT n X q (last + 1) 47) with c11 | c11
      · refine sx_RP.callp (as2 := [.ref 111, .int (nI (last + 1)), .int 47]) (rest2 := []) rfl rfl (sx_inv_v2 (mi := 219) (k := 267) (st := [.int 47, .int (nI (last + 1)), .ref 111]) (w := w5) rfl rfl hI6.1.o111 rfl rfl rfl) rfl rfl rfl (y220t (lo := (last + 1)) (hi := 47) hI6 hM8 hpl ep2 ef4 (by omega) (by decide) hP7 c11) (show _ = 11 from rfl) ?_
        rintro r4 w16 ⟨⟨rfl, ep12, ev15, ef14⟩, hI17, hO13⟩
        show sx_RP _ _ _ _ _ [.int 1] _ _
        have hp18 : beT n X q ≤ n := beT_le hpl
        have hp19 : nP n X q ≤ n := rE_le hp18
        have hr20 := nmT_in c11
        have hP21 : rE blk n X (beT n X q) = nP n X q := rfl
        have hM22 := hM8.hs (hO13)
        have hO23 := hO9.tr (HS.om (hO13))
        have hB24 : rowB (ia w16 112) = b := by rw [HS.row (hO13)]; exact hB10
        refine sx_RP.step (pc2 := 16) (ls2 := [(0, .ref 111), (1, .int (nI u)), (2, .int (nI last))]) (st2 := []) (w3 := w16) rfl rfl ?_
        refine sx_RP.step (pc2 := 17) (ls2 := [(0, .ref 111), (1, .int (nI u)), (2, .int (nI last))]) (st2 := [.ref 111]) (w3 := w16) rfl rfl ?_
        refine sx_RP.gf (v := .int (fi w16 111 14)) rfl rfl hI17.1.o111 rfl rfl (show _ = 20 from rfl) ?_
        rw [ev15]
        refine sx_RP.step (pc2 := 21) (ls2 := [(2, .int (nI (vaT n X q))), (0, .ref 111), (1, .int (nI u))]) (st2 := []) (w3 := w16) rfl rfl ?_
        refine sx_RP.step (pc2 := 22) (ls2 := [(2, .int (nI (vaT n X q))), (0, .ref 111), (1, .int (nI u))]) (st2 := [.ref 111]) (w3 := w16) rfl rfl ?_
        refine sx_RP.step (pc2 := 23) (ls2 := [(2, .int (nI (vaT n X q))), (0, .ref 111), (1, .int (nI u))]) (st2 := [.int (nI (vaT n X q)), .ref 111]) (w3 := w16) rfl rfl ?_
        refine sx_RP.step (pc2 := 24) (ls2 := [(2, .int (nI (vaT n X q))), (0, .ref 111), (1, .int (nI u))]) (st2 := [.int (nI u), .int (nI (vaT n X q)), .ref 111]) (w3 := w16) rfl rfl ?_
        refine sx_RP.callp (as2 := [.ref 111, .int (nI (vaT n X q)), .int (nI u)]) (rest2 := []) rfl rfl (sx_inv_v2 (mi := 219) (k := 270) (st := [.int (nI u), .int (nI (vaT n X q)), .ref 111]) (w := w16) rfl rfl hI17.1.o111 rfl rfl rfl) rfl rfl rfl (y224 (c := (vaT n X q)) (u := u) hI17 (by omega) (by omega)) (show _ = 27 from rfl) ?_
        rintro r4 w28 ⟨⟨rfl, hb25⟩, hI29, hs26⟩
        show sx_RP _ _ _ _ _ [] _ _
        have hB27 := hb25.trans hB24
        have ep30 := (fi_same 12 (hs26 111 (by decide))).trans ep12
        have ef31 := (fi_same 13 (hs26 111 (by decide))).trans ef14
        have hM32 := hM22.om (OM.st hs26)
        have hO33 := hO23.tr (OM.st hs26)
        have eR : grL n X b (fz + 1) last q = grL n X b fz ((vaT n X q)) (nP n X q) := by
          conv => lhs; unfold grL
          simp only [grT, c1, c11, if_true, if_false, Bool.false_eq_true, ite_true, ite_false, true_or, or_true, or_false, false_or]
        rw [eR]
        exact sx_RP.ls (sx_lr.cons rfl (sx_lr.cons rfl (sx_lr.cons rfl sx_lr.nil))) (y219L hu fz ((vaT n X q)) (beT n X q) (nP n X q) w28 (by omega) (by omega) hp18 hP21 hI29 hM32 ep30 ef31 hB27 hO33)
      · refine sx_RP.callp (as2 := [.ref 111, .int (nI (last + 1)), .int 47]) (rest2 := []) rfl rfl (sx_inv_v2 (mi := 219) (k := 267) (st := [.int 47, .int (nI (last + 1)), .ref 111]) (w := w5) rfl rfl hI6.1.o111 rfl rfl rfl) rfl rfl rfl (y220f (lo := (last + 1)) (hi := 47) hI6 hM8 hpl ep2 ef4 (by omega) (by decide) hP7 c11) (show _ = 11 from rfl) ?_
        rintro r4 w38 ⟨⟨rfl, ep34⟩, hI39, hO35⟩
        show sx_RP _ _ _ _ _ [.int 0] _ _
        have hO40 := hO9.tr (HS.om hO35)
        refine sx_RP.step (pc2 := 14) (ls2 := [(0, .ref 111), (1, .int (nI u)), (2, .int (nI last))]) (st2 := []) (w3 := w38) rfl rfl ?_
        refine sx_RP.step (pc2 := 15) (ls2 := [(0, .ref 111), (1, .int (nI u)), (2, .int (nI last))]) (st2 := [.int 0]) (w3 := w38) rfl rfl ?_
        refine sx_RP.ret (r := (some (.int 0))) rfl rfl ?_
        have eR : grL n X b (fz + 1) last q = (false, q, b) := by
          conv => lhs; unfold grL
          simp only [grT, c1, c11, if_true, if_false, Bool.false_eq_true, ite_true, ite_false, true_or, or_true, or_false, false_or]
        rw [eR]
        exact ⟨⟨rfl, RdM.f ep34⟩, hI39, hO40⟩
    · refine sx_RP.callp (as2 := [.ref 111]) (rest2 := []) rfl rfl (sx_inv_v2 (mi := 219) (k := 273) (st := [.ref 111]) (w := w) rfl rfl hI.1.o111 rfl rfl rfl) rfl rfl rfl (y225f hI hM hp ep ef hP c1) (show _ = 31 from rfl) ?_
      rintro r4 w44 ⟨⟨rfl, ep41⟩, hI45, hO42⟩
      show sx_RP _ _ _ _ _ [.int 0] _ _
      have ef43 := (hO42.2 13 (by decide)).trans ef
      have hP46 : rE blk n X q = q := by rw [← hP]; exact rE_rE
      have hM47 := hM.hs (hO42.hs)
      have hO48 := hO.tr (HS.om (hO42.hs))
      have hB49 : rowB (ia w44 112) = b := by rw [HS.row (hO42.hs)]; exact hB
      refine sx_RP.step (pc2 := 34) (ls2 := [(0, .ref 111), (1, .int (nI u)), (2, .int (nI last))]) (st2 := []) (w3 := w44) rfl rfl ?_
      refine sx_RP.step (pc2 := 35) (ls2 := [(0, .ref 111), (1, .int (nI u)), (2, .int (nI last))]) (st2 := [.ref 111]) (w3 := w44) rfl rfl ?_
      refine sx_RP.step (pc2 := 38) (ls2 := [(0, .ref 111), (1, .int (nI u)), (2, .int (nI last))]) (st2 := [.float 116, .ref 111]) (w3 := w44) rfl rfl ?_
      rcases Bool.eq_false_or_eq_true (wdT n X q (116 : UInt32)) with c50 | c50
      · refine sx_RP.callp (as2 := [.ref 111, .float 116]) (rest2 := []) rfl rfl (sx_inv_v2 (mi := 219) (k := 243) (st := [.float 116, .ref 111]) (w := w44) rfl rfl hI45.1.o111 rfl rfl rfl) rfl rfl rfl (y213t (k := (116 : UInt32)) (m := 2) hI45 hM47 hpl ep41 ef43 (by decide) rfl (by decide) (by decide) hP46 c50) (show _ = 41 from rfl) ?_
        rintro r4 w54 ⟨⟨rfl, ep51⟩, hI55, hO52⟩
        show sx_RP _ _ _ _ _ [.int 1] _ _
        have ef53 := (hO52.2 13 (by decide)).trans ef43
        have hp56 : beT n X q ≤ n := beT_le hpl
        have hp57 : nP n X q ≤ n := rE_le hp56
        have hP58 : rE blk n X (beT n X q) = nP n X q := rfl
        have hM59 := hM47.hs (hO52.hs)
        have hO60 := hO48.tr (HS.om (hO52.hs))
        have hB61 : rowB (ia w54 112) = b := by rw [HS.row (hO52.hs)]; exact hB49
        refine sx_RP.step (pc2 := 46) (ls2 := [(0, .ref 111), (1, .int (nI u)), (2, .int (nI last))]) (st2 := []) (w3 := w54) rfl rfl ?_
        refine sx_RP.step (pc2 := 47) (ls2 := [(0, .ref 111), (1, .int (nI u)), (2, .int (nI last))]) (st2 := [.ref 111]) (w3 := w54) rfl rfl ?_
        refine sx_RP.step (pc2 := 48) (ls2 := [(0, .ref 111), (1, .int (nI u)), (2, .int (nI last))]) (st2 := [.int (nI last), .ref 111]) (w3 := w54) rfl rfl ?_
        refine sx_RP.step (pc2 := 49) (ls2 := [(0, .ref 111), (1, .int (nI u)), (2, .int (nI last))]) (st2 := [.int 1, .int (nI last), .ref 111]) (w3 := w54) rfl rfl ?_
        refine sx_RP.step (pc2 := 50) (ls2 := [(0, .ref 111), (1, .int (nI u)), (2, .int (nI last))]) (st2 := [.int ((nI last) + 1), .ref 111]) (w3 := w54) rfl rfl ?_
        rw [show ((nI last) + 1 : Int32) = nI (last + 1) from nI_add last 1]
        refine sx_RP.step (pc2 := 52) (ls2 := [(0, .ref 111), (1, .int (nI u)), (2, .int (nI last))]) (st2 := [.int 47, .int (nI (last + 1)), .ref 111]) (w3 := w54) rfl rfl ?_
        rcases Bool.eq_false_or_eq_true (nmT n X (nP n X q) (last + 1) 47) with c62 | c62
        · refine sx_RP.callp (as2 := [.ref 111, .int (nI (last + 1)), .int 47]) (rest2 := []) rfl rfl (sx_inv_v2 (mi := 219) (k := 267) (st := [.int 47, .int (nI (last + 1)), .ref 111]) (w := w54) rfl rfl hI55.1.o111 rfl rfl rfl) rfl rfl rfl (y220t (lo := (last + 1)) (hi := 47) hI55 hM59 hp56 ep51 ef53 (by omega) (by decide) hP58 c62) (show _ = 55 from rfl) ?_
          rintro r4 w67 ⟨⟨rfl, ep63, ev66, ef65⟩, hI68, hO64⟩
          show sx_RP _ _ _ _ _ [.int 1] _ _
          have hp69 : beT n X (nP n X q) ≤ n := beT_le hp57
          have hp70 : nP n X (nP n X q) ≤ n := rE_le hp69
          have hr71 := nmT_in c62
          have hP72 : rE blk n X (beT n X (nP n X q)) = nP n X (nP n X q) := rfl
          have hM73 := hM59.hs (hO64)
          have hO74 := hO60.tr (HS.om (hO64))
          have hB75 : rowB (ia w67 112) = b := by rw [HS.row (hO64)]; exact hB61
          refine sx_RP.step (pc2 := 60) (ls2 := [(0, .ref 111), (1, .int (nI u)), (2, .int (nI last))]) (st2 := []) (w3 := w67) rfl rfl ?_
          refine sx_RP.step (pc2 := 61) (ls2 := [(0, .ref 111), (1, .int (nI u)), (2, .int (nI last))]) (st2 := [.int (nI last)]) (w3 := w67) rfl rfl ?_
          refine sx_RP.step (pc2 := 62) (ls2 := [(3, .int (nI last)), (0, .ref 111), (1, .int (nI u)), (2, .int (nI last))]) (st2 := []) (w3 := w67) rfl rfl ?_
          have eR : grL n X b (fz + 1) last q = (true, nP n X (nP n X q), b) := by
            conv => lhs; unfold grL
            simp only [grT, c1, c50, c62, if_true, if_false, Bool.false_eq_true, ite_true, ite_false, true_or, or_true, or_false, false_or]
          rw [eR]
          exact sx_RP.ls (sx_lr.cons rfl (sx_lr.cons rfl (sx_lr.cons rfl (sx_lr.cons rfl sx_lr.nil)))) (y219I hu (by omega) hp69 hP72 48 last w67 (by omega) (by omega) hI68 hM73 ep63 ef65 ev66 hB75 hO74)
        · refine sx_RP.callp (as2 := [.ref 111, .int (nI (last + 1)), .int 47]) (rest2 := []) rfl rfl (sx_inv_v2 (mi := 219) (k := 267) (st := [.int 47, .int (nI (last + 1)), .ref 111]) (w := w54) rfl rfl hI55.1.o111 rfl rfl rfl) rfl rfl rfl (y220f (lo := (last + 1)) (hi := 47) hI55 hM59 hp56 ep51 ef53 (by omega) (by decide) hP58 c62) (show _ = 55 from rfl) ?_
          rintro r4 w80 ⟨⟨rfl, ep76⟩, hI81, hO77⟩
          show sx_RP _ _ _ _ _ [.int 0] _ _
          have hO82 := hO60.tr (HS.om hO77)
          refine sx_RP.step (pc2 := 58) (ls2 := [(0, .ref 111), (1, .int (nI u)), (2, .int (nI last))]) (st2 := []) (w3 := w80) rfl rfl ?_
          refine sx_RP.step (pc2 := 59) (ls2 := [(0, .ref 111), (1, .int (nI u)), (2, .int (nI last))]) (st2 := [.int 0]) (w3 := w80) rfl rfl ?_
          refine sx_RP.ret (r := (some (.int 0))) rfl rfl ?_
          have eR : grL n X b (fz + 1) last q = (false, nP n X q, b) := by
            conv => lhs; unfold grL
            simp only [grT, c1, c50, c62, if_true, if_false, Bool.false_eq_true, ite_true, ite_false, true_or, or_true, or_false, false_or]
          rw [eR]
          exact ⟨⟨rfl, RdM.f ep76⟩, hI81, hO82⟩
      · refine sx_RP.callp (as2 := [.ref 111, .float 116]) (rest2 := []) rfl rfl (sx_inv_v2 (mi := 219) (k := 243) (st := [.float 116, .ref 111]) (w := w44) rfl rfl hI45.1.o111 rfl rfl rfl) rfl rfl rfl (y213f (k := (116 : UInt32)) (m := 2) hI45 hM47 hpl ep41 ef43 (by decide) rfl (by decide) (by decide) hP46 c50) (show _ = 41 from rfl) ?_
        rintro r4 w86 ⟨⟨rfl, ep83⟩, hI87, hO84⟩
        show sx_RP _ _ _ _ _ [.int 0] _ _
        have ef85 := (hO84.2 13 (by decide)).trans ef43
        have hP88 : rE blk n X q = q := by rw [← hP46]; exact rE_rE
        have hM89 := hM47.hs (hO84.hs)
        have hO90 := hO48.tr (HS.om (hO84.hs))
        have hB91 : rowB (ia w86 112) = b := by rw [HS.row (hO84.hs)]; exact hB49
        refine sx_RP.step (pc2 := 44) (ls2 := [(0, .ref 111), (1, .int (nI u)), (2, .int (nI last))]) (st2 := []) (w3 := w86) rfl rfl ?_
        refine sx_RP.step (pc2 := 45) (ls2 := [(0, .ref 111), (1, .int (nI u)), (2, .int (nI last))]) (st2 := [.int 1]) (w3 := w86) rfl rfl ?_
        refine sx_RP.ret (r := (some (.int 1))) rfl rfl ?_
        have eR : grL n X b (fz + 1) last q = (true, q, b) := by
          conv => lhs; unfold grL
          simp only [grT, c1, c50, if_true, if_false, Bool.false_eq_true, ite_true, ite_false, true_or, or_true, or_false, false_or]
        rw [eR]
        exact ⟨⟨rfl, RdM.t ef85 hB91 hpl ep83 hP88⟩, hI87, hO90⟩
def groS (n : Nat) (X : Nat → Nat) (p : Nat) (b : BB) : Bool × Nat × BB := if nmT n X p 0 47 = true then grL n X b 48 (vaT n X p) (nP n X p) else (false, p, b)
theorem groT_S {n p : Nat} {X : Nat → Nat} {b : BB} : groT n X p b = groS n X (nP n X p) b := rfl
set_option maxRecDepth 20000 in
set_option maxHeartbeats 4000000 in
theorem y219 {xs : Option (List Int32)} {d : Nat} {w : List sx_C} (hI : WI w) {n h q : Nat} {X : Nat → Nat} {b : BB} (hM : MT n X w) (hp : h ≤ n) (ep : fi w 111 12 = nI h) (ef : fi w 111 13 = -1) (hP : rE blk n X h = q) (hB : rowB (ia w 112) = b) {u : Nat} (hu : u ≤ 4) : sx_RP xs (d + 6) 219 0 (lv_args 0 [.ref 111, .int (nI u)]) [] w (fun r w2 => (r = some (.int (b01 (groS n X q b).1)) ∧ RdM n X (groS n X q b) w2) ∧ WI w2 ∧ OM w w2) := by
  have hn := hM.2.1
  have hpl : q ≤ n := by rw [← hP]; exact rE_le hp
  refine sx_RP.step (pc2 := 1) (ls2 := [(0, .ref 111), (1, .int (nI u))]) (st2 := [.int (-1)]) (w3 := w) rfl rfl ?_
  refine sx_RP.step (pc2 := 2) (ls2 := [(2, .int (-1)), (0, .ref 111), (1, .int (nI u))]) (st2 := []) (w3 := w) rfl rfl ?_
  refine sx_RP.step (pc2 := 3) (ls2 := [(2, .int (-1)), (0, .ref 111), (1, .int (nI u))]) (st2 := [.ref 111]) (w3 := w) rfl rfl ?_
  refine sx_RP.step (pc2 := 4) (ls2 := [(2, .int (-1)), (0, .ref 111), (1, .int (nI u))]) (st2 := [.int (-1), .ref 111]) (w3 := w) rfl rfl ?_
  refine sx_RP.step (pc2 := 5) (ls2 := [(2, .int (-1)), (0, .ref 111), (1, .int (nI u))]) (st2 := [.int 1, .int (-1), .ref 111]) (w3 := w) rfl rfl ?_
  refine sx_RP.step (pc2 := 6) (ls2 := [(2, .int (-1)), (0, .ref 111), (1, .int (nI u))]) (st2 := [.int 0, .ref 111]) (w3 := w) rfl rfl ?_
  refine sx_RP.step (pc2 := 8) (ls2 := [(2, .int (-1)), (0, .ref 111), (1, .int (nI u))]) (st2 := [.int 47, .int 0, .ref 111]) (w3 := w) rfl rfl ?_
  rcases Bool.eq_false_or_eq_true (nmT n X q 0 47) with c1 | c1
  · refine sx_RP.callp (as2 := [.ref 111, .int 0, .int 47]) (rest2 := []) rfl rfl (sx_inv_v2 (mi := 219) (k := 267) (st := [.int 47, .int 0, .ref 111]) (w := w) rfl rfl hI.1.o111 rfl rfl rfl) rfl rfl rfl (y220t (lo := 0) (hi := 47) hI hM hp ep ef (by omega) (by decide) hP c1) (show _ = 11 from rfl) ?_
    rintro r4 w6 ⟨⟨rfl, ep2, ev5, ef4⟩, hI7, hO3⟩
    show sx_RP _ _ _ _ _ [.int 1] _ _
    have hp8 : beT n X q ≤ n := beT_le hpl
    have hp9 : nP n X q ≤ n := rE_le hp8
    have hr10 := nmT_in c1
    have hP11 : rE blk n X (beT n X q) = nP n X q := rfl
    have hM12 := hM.hs (hO3)
    have hO13 := OM.rf.tr (HS.om (hO3))
    have hB14 : rowB (ia w6 112) = b := by rw [HS.row (hO3)]; exact hB
    refine sx_RP.step (pc2 := 16) (ls2 := [(2, .int (-1)), (0, .ref 111), (1, .int (nI u))]) (st2 := []) (w3 := w6) rfl rfl ?_
    refine sx_RP.step (pc2 := 17) (ls2 := [(2, .int (-1)), (0, .ref 111), (1, .int (nI u))]) (st2 := [.ref 111]) (w3 := w6) rfl rfl ?_
    refine sx_RP.gf (v := .int (fi w6 111 14)) rfl rfl hI7.1.o111 rfl rfl (show _ = 20 from rfl) ?_
    rw [ev5]
    refine sx_RP.step (pc2 := 21) (ls2 := [(2, .int (nI (vaT n X q))), (0, .ref 111), (1, .int (nI u))]) (st2 := []) (w3 := w6) rfl rfl ?_
    refine sx_RP.step (pc2 := 22) (ls2 := [(2, .int (nI (vaT n X q))), (0, .ref 111), (1, .int (nI u))]) (st2 := [.ref 111]) (w3 := w6) rfl rfl ?_
    refine sx_RP.step (pc2 := 23) (ls2 := [(2, .int (nI (vaT n X q))), (0, .ref 111), (1, .int (nI u))]) (st2 := [.int (nI (vaT n X q)), .ref 111]) (w3 := w6) rfl rfl ?_
    refine sx_RP.step (pc2 := 24) (ls2 := [(2, .int (nI (vaT n X q))), (0, .ref 111), (1, .int (nI u))]) (st2 := [.int (nI u), .int (nI (vaT n X q)), .ref 111]) (w3 := w6) rfl rfl ?_
    refine sx_RP.callp (as2 := [.ref 111, .int (nI (vaT n X q)), .int (nI u)]) (rest2 := []) rfl rfl (sx_inv_v2 (mi := 219) (k := 270) (st := [.int (nI u), .int (nI (vaT n X q)), .ref 111]) (w := w6) rfl rfl hI7.1.o111 rfl rfl rfl) rfl rfl rfl (y224 (c := (vaT n X q)) (u := u) hI7 (by omega) (by omega)) (show _ = 27 from rfl) ?_
    rintro r4 w18 ⟨⟨rfl, hb15⟩, hI19, hs16⟩
    show sx_RP _ _ _ _ _ [] _ _
    have hB17 := hb15.trans hB14
    have ep20 := (fi_same 12 (hs16 111 (by decide))).trans ep2
    have ef21 := (fi_same 13 (hs16 111 (by decide))).trans ef4
    have hM22 := hM12.om (OM.st hs16)
    have hO23 := hO13.tr (OM.st hs16)
    have eR : groS n X q b = grL n X b 48 ((vaT n X q)) (nP n X q) := by simp only [groS, c1, if_true, if_false, Bool.false_eq_true, ite_true, ite_false, true_or, or_true, or_false, false_or]
    rw [eR]
    exact sx_RP.ls (sx_lr.cons rfl (sx_lr.cons rfl (sx_lr.cons rfl sx_lr.nil))) (y219L hu 48 ((vaT n X q)) (beT n X q) (nP n X q) w18 (by omega) (by omega) hp8 hP11 hI19 hM22 ep20 ef21 hB17 hO23)
  · refine sx_RP.callp (as2 := [.ref 111, .int 0, .int 47]) (rest2 := []) rfl rfl (sx_inv_v2 (mi := 219) (k := 267) (st := [.int 47, .int 0, .ref 111]) (w := w) rfl rfl hI.1.o111 rfl rfl rfl) rfl rfl rfl (y220f (lo := 0) (hi := 47) hI hM hp ep ef (by omega) (by decide) hP c1) (show _ = 11 from rfl) ?_
    rintro r4 w28 ⟨⟨rfl, ep24⟩, hI29, hO25⟩
    show sx_RP _ _ _ _ _ [.int 0] _ _
    have hO30 := OM.rf.tr (HS.om hO25)
    refine sx_RP.step (pc2 := 14) (ls2 := [(2, .int (-1)), (0, .ref 111), (1, .int (nI u))]) (st2 := []) (w3 := w28) rfl rfl ?_
    refine sx_RP.step (pc2 := 15) (ls2 := [(2, .int (-1)), (0, .ref 111), (1, .int (nI u))]) (st2 := [.int 0]) (w3 := w28) rfl rfl ?_
    refine sx_RP.ret (r := (some (.int 0))) rfl rfl ?_
    have eR : groS n X q b = (false, q, b) := by simp only [groS, c1, if_true, if_false, Bool.false_eq_true, ite_true, ite_false, true_or, or_true, or_false, false_or]
    rw [eR]
    exact ⟨⟨rfl, RdM.f ep24⟩, hI29, hO30⟩
