-- the readers of the class's text, over rows
def RdW (n : Nat) (X : Nat → Nat) (q : Bool × Nat × List Int32) (w : List sx_C) : Prop := TK' n X q.2.1 w ∧ (q.1 = true → rel w 29 q.2.2)
def dsW (v : Int32) (b : List Int32) : List Int32 := (b.set (163 + iN (b.getD 2 0)) v).set 2 (nI (iN (b.getD 2 0) + 1))
def disW (n : Nat) (X : Nat → Nat) (p : Nat) (b : List Int32) : Bool × Nat × List Int32 := if iN (b.getD 2 0) < 9 then (if nmT n X (nP n X p) 0 47 = true then (true, nP n X (nP n X p), dsW (nI (vaT n X (nP n X p))) b) else (false, nP n X p, b)) else (false, p, b)
set_option maxRecDepth 20000 in
set_option maxHeartbeats 4000000 in
theorem V109 {xs : Option (List Int32)} {d : Nat} {w : List sx_C} (hI : WI w) {n p : Nat} {X : Nat → Nat} {b : List Int32} (hC : CT n X w) (hT : TK' n X p w) (hp : p ≤ n) (hB : rel w 29 b) : sx_RP xs (d + 3) 109 0 (lv_args 0 [.ref 96, .ref 29]) [] w (fun r w2 => (r = some (.int (b01 (disW n X p b).1)) ∧ RdW n X (disW n X p b) w2) ∧ WI w2 ∧ CT n X w2 ∧ OffT w w2) := by
  obtain ⟨m, hm, en⟩ := (hI.c isA29).2
  have er : b.getD 2 0 = nI m := hB.dished.symm.trans en
  have hlen : iN (b.getD 2 0) = m := by rw [er, iN_n (by omega)]
  refine sx_RP.step (pc2 := 1) (ls2 := [(0, .ref 96), (1, .ref 29)]) (st2 := [.ref 29]) (w3 := w) rfl rfl ?_
  rcases Decidable.em (m < 9) with c1 | c1
  · refine sx_RP.cu (as := [.ref 29]) (rest2 := []) (st3 := [.int 1]) rfl rfl (sx_inv_v2 (mi := 109) (k := 100) (st := [.ref 29]) (w := w) rfl rfl (hI.1.oC (Or.inr (Or.inr rfl))) rfl rfl rfl) rfl rfl (p63y hI isA29 en hm c1) rfl ?_
    refine sx_RP.step (pc2 := 9) (ls2 := [(0, .ref 96), (1, .ref 29)]) (st2 := []) (w3 := w) rfl rfl ?_
    refine sx_RP.step (pc2 := 10) (ls2 := [(0, .ref 96), (1, .ref 29)]) (st2 := [.ref 96]) (w3 := w) rfl rfl ?_
    refine sx_RP.callp (as2 := [.ref 96]) (rest2 := []) rfl rfl (sx_inv_v2 (mi := 109) (k := 29) (st := [.ref 96]) (w := w) rfl rfl hI.1.o96 rfl rfl rfl) rfl rfl rfl (X94 hI hC hT.2.2.1 (beT_le hp)) (show _ = 13 from rfl) ?_
    rintro r4 w5 ⟨⟨rfl, hT2, h13⟩, hI6, hs4⟩
    show sx_RP _ _ _ _ _ [] _ _
    have hT11 : TK' n X (nP n X p) w5 := hT2
    have hC7 := hC.same h13 (ia_of (hs4 97 (by decide)))
    have hp8 : nP n X p ≤ n := nP_le hp
    have hB9 := hB.same hI isA29 (fun a h1 h2 => hs4 a (by omega))
    have hO10 := OffT.rf.tr hs4.offT
    refine sx_RP.step (pc2 := 14) (ls2 := [(0, .ref 96), (1, .ref 29)]) (st2 := [.ref 96]) (w3 := w5) rfl rfl ?_
    refine sx_RP.step (pc2 := 15) (ls2 := [(0, .ref 96), (1, .ref 29)]) (st2 := [.int 0, .ref 96]) (w3 := w5) rfl rfl ?_
    refine sx_RP.step (pc2 := 17) (ls2 := [(0, .ref 96), (1, .ref 29)]) (st2 := [.int 47, .int 0, .ref 96]) (w3 := w5) rfl rfl ?_
    rcases Bool.eq_false_or_eq_true (nmT n X (nP n X p) 0 47) with c12 | c12
    · refine sx_RP.cu (as := [.ref 96, .int 0, .int 47]) (rest2 := []) (st3 := [.int 1]) rfl rfl (sx_inv_v2 (mi := 109) (k := 66) (st := [.int 47, .int 0, .ref 96]) (w := w5) rfl rfl hI6.1.o96 rfl rfl rfl) rfl rfl (x103t (lo := 0) (hi := 47) hI6 hC7 hT11 (by omega) (by omega) c12) rfl ?_
      refine sx_RP.step (pc2 := 25) (ls2 := [(0, .ref 96), (1, .ref 29)]) (st2 := []) (w3 := w5) rfl rfl ?_
      refine sx_RP.step (pc2 := 26) (ls2 := [(0, .ref 96), (1, .ref 29)]) (st2 := [.ref 29]) (w3 := w5) rfl rfl ?_
      refine sx_RP.step (pc2 := 27) (ls2 := [(0, .ref 96), (1, .ref 29)]) (st2 := [.ref 96, .ref 29]) (w3 := w5) rfl rfl ?_
      refine sx_RP.gt (k := 5) hI6 rfl rfl (by decide) (show _ = 30 from rfl) ?_
      rw [hT11.2.2.2]
      have hv := nmT_in c12
      refine sx_RP.callp (as2 := [.ref 29, .int (nI (vaT n X (nP n X p)))]) (rest2 := []) rfl rfl (sx_inv_v2 (mi := 109) (k := 103) (st := [.int (nI (vaT n X (nP n X p))), .ref 29]) (w := w5) rfl rfl (hI6.1.oC (Or.inr (Or.inr rfl))) rfl rfl rfl) rfl rfl rfl (X64z hI6 isA29 (n := m) (c := (vaT n X (nP n X p))) hB9 (by omega) er (by omega)) (show _ = 33 from rfl) ?_
      rintro r4 w15 ⟨⟨rfl, hc13⟩, hI16, ho14⟩
      show sx_RP _ _ _ _ _ [.int (nI m)] _ _
      have hC17 := hC7.out ho14
      have hT18 := hT11.out ho14
      have hO19 := hO10.tr ho14.offT
      refine sx_RP.step (pc2 := 34) (ls2 := [(0, .ref 96), (1, .ref 29)]) (st2 := []) (w3 := w15) rfl rfl ?_
      refine sx_RP.step (pc2 := 35) (ls2 := [(0, .ref 96), (1, .ref 29)]) (st2 := [.ref 96]) (w3 := w15) rfl rfl ?_
      refine sx_RP.callp (as2 := [.ref 96]) (rest2 := []) rfl rfl (sx_inv_v2 (mi := 109) (k := 29) (st := [.ref 96]) (w := w15) rfl rfl hI16.1.o96 rfl rfl rfl) rfl rfl rfl (X94 hI16 hC17 hT18.2.2.1 (beT_le hp8)) (show _ = 38 from rfl) ?_
      rintro r4 w23 ⟨⟨rfl, hT20, h121⟩, hI24, hs22⟩
      show sx_RP _ _ _ _ _ [] _ _
      have hT29 : TK' n X (nP n X (nP n X p)) w23 := hT20
      have hC25 := hC17.same h121 (ia_of (hs22 97 (by decide)))
      have hp26 : nP n X (nP n X p) ≤ n := nP_le hp8
      have hB27 := hc13.same hI16 isA29 (fun a h1 h2 => hs22 a (by omega))
      have hO28 := hO19.tr hs22.offT
      refine sx_RP.step (pc2 := 39) (ls2 := [(0, .ref 96), (1, .ref 29)]) (st2 := [.int 1]) (w3 := w23) rfl rfl ?_
      refine sx_RP.ret (r := (some (.int 1))) rfl rfl ?_
      rw [show disW n X p b = (true, nP n X (nP n X p), dsW (nI (vaT n X (nP n X p))) b) by unfold disW; rw [if_pos (by rw [hlen]; exact c1), if_pos c12]]
      exact ⟨⟨rfl, hT29, fun _ => (by show rel _ 29 (dsW _ b); unfold dsW; rw [hlen]; exact hB27)⟩, hI24, hC25, hO28⟩
    · refine sx_RP.cu (as := [.ref 96, .int 0, .int 47]) (rest2 := []) (st3 := [.int 0]) rfl rfl (sx_inv_v2 (mi := 109) (k := 66) (st := [.int 47, .int 0, .ref 96]) (w := w5) rfl rfl hI6.1.o96 rfl rfl rfl) rfl rfl (x103f (lo := 0) (hi := 47) hI6 hC7 hT11 (by omega) (by omega) c12) rfl ?_
      refine sx_RP.step (pc2 := 23) (ls2 := [(0, .ref 96), (1, .ref 29)]) (st2 := []) (w3 := w5) rfl rfl ?_
      refine sx_RP.step (pc2 := 24) (ls2 := [(0, .ref 96), (1, .ref 29)]) (st2 := [.int 0]) (w3 := w5) rfl rfl ?_
      refine sx_RP.ret (r := (some (.int 0))) rfl rfl ?_
      rw [show disW n X p b = (false, nP n X p, b) by unfold disW; rw [if_pos (by rw [hlen]; exact c1), if_neg (by rw [c12]; decide)]]
      exact ⟨⟨rfl, hT11, fun z => absurd (show false = true from z) (by decide)⟩, hI6, hC7, hO10⟩
  · refine sx_RP.cu (as := [.ref 29]) (rest2 := []) (st3 := [.int 0]) rfl rfl (sx_inv_v2 (mi := 109) (k := 100) (st := [.ref 29]) (w := w) rfl rfl (hI.1.oC (Or.inr (Or.inr rfl))) rfl rfl rfl) rfl rfl (p63n hI isA29 en hm c1) rfl ?_
    refine sx_RP.step (pc2 := 7) (ls2 := [(0, .ref 96), (1, .ref 29)]) (st2 := []) (w3 := w) rfl rfl ?_
    refine sx_RP.step (pc2 := 8) (ls2 := [(0, .ref 96), (1, .ref 29)]) (st2 := [.int 0]) (w3 := w) rfl rfl ?_
    refine sx_RP.ret (r := (some (.int 0))) rfl rfl ?_
    rw [show disW n X p b = (false, p, b) by unfold disW; rw [if_neg (by rw [hlen]; exact c1)]]
    exact ⟨⟨rfl, hT, fun z => absurd (show false = true from z) (by decide)⟩, hI, hC, OffT.rf⟩
def galX (n : Nat) (X : Nat → Nat) (k s p : Nat) (b : List Int32) : Bool × Nat × List Int32 := if (wtT n X (nP n X (nP n X p)) 100 0 47).1 = true then (if (wtT n X (nP n X (wtT n X (nP n X (nP n X p)) 100 0 47).2) 119 0 3).1 = true then (true, nP n X (wtT n X (nP n X (wtT n X (nP n X (nP n X p)) 100 0 47).2) 119 0 3).2, addRow b (iN (b.getD 1 0)) (nI k) (nI s) (nI (vaT n X (wtT n X (nP n X (nP n X p)) 100 0 47).2)) (nI (vaT n X (wtT n X (nP n X (wtT n X (nP n X (nP n X p)) 100 0 47).2) 119 0 3).2))) else (false, (wtT n X (nP n X (wtT n X (nP n X (nP n X p)) 100 0 47).2) 119 0 3).2, b)) else (false, (wtT n X (nP n X (nP n X p)) 100 0 47).2, b)
def galW (n : Nat) (X : Nat → Nat) (k p : Nat) (b : List Int32) : Bool × Nat × List Int32 := if iN (b.getD 1 0) < 10 then (if wdT n X (nP n X p) 115 = true then galX n X k 0 p b else (if wdT n X (nP n X p) 109 = true then galX n X k 1 p b else (false, nP n X p, b))) else (false, p, b)
set_option maxRecDepth 20000 in
set_option maxHeartbeats 4000000 in
theorem V107 {xs : Option (List Int32)} {d : Nat} {w : List sx_C} (hI : WI w) {n p k : Nat} {X : Nat → Nat} {b : List Int32} (hk5 : k ≤ 5) (hC : CT n X w) (hT : TK' n X p w) (hp : p ≤ n) (hB : rel w 29 b) : sx_RP xs (d + 4) 107 0 (lv_args 0 [.ref 96, .int (nI k), .ref 29]) [] w (fun r w2 => (r = some (.int (b01 (galW n X k p b).1)) ∧ RdW n X (galW n X k p b) w2) ∧ WI w2 ∧ CT n X w2 ∧ OffT w w2) := by
  obtain ⟨m, hm, en⟩ := (hI.c isA29).1
  have er : b.getD 1 0 = nI m := hB.many.symm.trans en
  have hlen : iN (b.getD 1 0) = m := by rw [er, iN_n (by omega)]
  refine sx_RP.step (pc2 := 1) (ls2 := [(0, .ref 96), (1, .int (nI k)), (2, .ref 29)]) (st2 := [.ref 29]) (w3 := w) rfl rfl ?_
  rcases Decidable.em (m < 10) with c1 | c1
  · refine sx_RP.cu (as := [.ref 29]) (rest2 := []) (st3 := [.int 1]) rfl rfl (sx_inv_v2 (mi := 107) (k := 78) (st := [.ref 29]) (w := w) rfl rfl (hI.1.oC (Or.inr (Or.inr rfl))) rfl rfl rfl) rfl rfl (p24y hI isA29 en hm c1) rfl ?_
    refine sx_RP.step (pc2 := 9) (ls2 := [(0, .ref 96), (1, .int (nI k)), (2, .ref 29)]) (st2 := []) (w3 := w) rfl rfl ?_
    refine sx_RP.step (pc2 := 10) (ls2 := [(0, .ref 96), (1, .int (nI k)), (2, .ref 29)]) (st2 := [.ref 96]) (w3 := w) rfl rfl ?_
    refine sx_RP.callp (as2 := [.ref 96]) (rest2 := []) rfl rfl (sx_inv_v2 (mi := 107) (k := 29) (st := [.ref 96]) (w := w) rfl rfl hI.1.o96 rfl rfl rfl) rfl rfl rfl (X94 hI hC hT.2.2.1 (beT_le hp)) (show _ = 13 from rfl) ?_
    rintro r4 w5 ⟨⟨rfl, hT2, h13⟩, hI6, hs4⟩
    show sx_RP _ _ _ _ _ [] _ _
    have hT11 : TK' n X (nP n X p) w5 := hT2
    have hC7 := hC.same h13 (ia_of (hs4 97 (by decide)))
    have hp8 : nP n X p ≤ n := nP_le hp
    have hB9 := hB.same hI isA29 (fun a h1 h2 => hs4 a (by omega))
    have hO10 := OffT.rf.tr hs4.offT
    refine sx_RP.step (pc2 := 14) (ls2 := [(0, .ref 96), (1, .int (nI k)), (2, .ref 29)]) (st2 := [.ref 96]) (w3 := w5) rfl rfl ?_
    refine sx_RP.step (pc2 := 16) (ls2 := [(0, .ref 96), (1, .int (nI k)), (2, .ref 29)]) (st2 := [.float 115, .ref 96]) (w3 := w5) rfl rfl ?_
    rcases Bool.eq_false_or_eq_true (wdT n X (nP n X p) (115 : UInt32)) with c12 | c12
    · refine sx_RP.cu (as := [.ref 96, .float 115]) (rest2 := []) (st3 := [.int 1]) rfl rfl (sx_inv_v2 (mi := 107) (k := 52) (st := [.float 115, .ref 96]) (w := w5) rfl rfl hI6.1.o96 rfl rfl rfl) rfl rfl (x101t (k := (115 : UInt32)) (m := 6) hI6 hC7 hT11 hp8 (by decide) rfl (by decide) c12) rfl ?_
      refine sx_RP.step (pc2 := 22) (ls2 := [(0, .ref 96), (1, .int (nI k)), (2, .ref 29)]) (st2 := []) (w3 := w5) rfl rfl ?_
      refine sx_RP.step (pc2 := 23) (ls2 := [(0, .ref 96), (1, .int (nI k)), (2, .ref 29)]) (st2 := [.int 0]) (w3 := w5) rfl rfl ?_
      refine sx_RP.step (pc2 := 27) (ls2 := [(0, .ref 96), (1, .int (nI k)), (2, .ref 29)]) (st2 := [.int 0]) (w3 := w5) rfl rfl ?_
      refine sx_RP.step (pc2 := 28) (ls2 := [(3, .int 0), (0, .ref 96), (1, .int (nI k)), (2, .ref 29)]) (st2 := []) (w3 := w5) rfl rfl ?_
      refine sx_RP.step (pc2 := 29) (ls2 := [(3, .int 0), (0, .ref 96), (1, .int (nI k)), (2, .ref 29)]) (st2 := [.int 0]) (w3 := w5) rfl rfl ?_
      refine sx_RP.step (pc2 := 30) (ls2 := [(3, .int 0), (0, .ref 96), (1, .int (nI k)), (2, .ref 29)]) (st2 := [.int 1, .int 0]) (w3 := w5) rfl rfl ?_
      refine sx_RP.step (pc2 := 44) (ls2 := [(3, .int 0), (0, .ref 96), (1, .int (nI k)), (2, .ref 29)]) (st2 := []) (w3 := w5) rfl rfl ?_
      refine sx_RP.step (pc2 := 45) (ls2 := [(3, .int 0), (0, .ref 96), (1, .int (nI k)), (2, .ref 29)]) (st2 := [.ref 96]) (w3 := w5) rfl rfl ?_
      refine sx_RP.callp (as2 := [.ref 96]) (rest2 := []) rfl rfl (sx_inv_v2 (mi := 107) (k := 29) (st := [.ref 96]) (w := w5) rfl rfl hI6.1.o96 rfl rfl rfl) rfl rfl rfl (X94 hI6 hC7 hT11.2.2.1 (beT_le hp8)) (show _ = 48 from rfl) ?_
      rintro r4 w16 ⟨⟨rfl, hT13, h114⟩, hI17, hs15⟩
      show sx_RP _ _ _ _ _ [] _ _
      have hT22 : TK' n X (nP n X (nP n X p)) w16 := hT13
      have hC18 := hC7.same h114 (ia_of (hs15 97 (by decide)))
      have hp19 : nP n X (nP n X p) ≤ n := nP_le hp8
      have hB20 := hB9.same hI6 isA29 (fun a h1 h2 => hs15 a (by omega))
      have hO21 := hO10.tr hs15.offT
      refine sx_RP.step (pc2 := 49) (ls2 := [(3, .int 0), (0, .ref 96), (1, .int (nI k)), (2, .ref 29)]) (st2 := [.ref 96]) (w3 := w16) rfl rfl ?_
      refine sx_RP.step (pc2 := 51) (ls2 := [(3, .int 0), (0, .ref 96), (1, .int (nI k)), (2, .ref 29)]) (st2 := [.float 100, .ref 96]) (w3 := w16) rfl rfl ?_
      refine sx_RP.step (pc2 := 52) (ls2 := [(3, .int 0), (0, .ref 96), (1, .int (nI k)), (2, .ref 29)]) (st2 := [.int 0, .float 100, .ref 96]) (w3 := w16) rfl rfl ?_
      refine sx_RP.step (pc2 := 54) (ls2 := [(3, .int 0), (0, .ref 96), (1, .int (nI k)), (2, .ref 29)]) (st2 := [.int 47, .int 0, .float 100, .ref 96]) (w3 := w16) rfl rfl ?_
      refine sx_RP.callp (as2 := [.ref 96, .float 100, .int 0, .int 47]) (rest2 := []) rfl rfl (sx_inv_v2 (mi := 107) (k := 90) (st := [.int 47, .int 0, .float 100, .ref 96]) (w := w16) rfl rfl hI17.1.o96 rfl rfl rfl) rfl rfl rfl (X108 (k := 100) (m := 2) (lo := 0) (hi := 47) hI17 hC18 hT22 hp19 (by decide) rfl (by decide) (by decide) (by decide)) (show _ = 57 from rfl) ?_
      rintro r4 w26 ⟨⟨rfl, hT23, h124⟩, hI27, hs25⟩
      show sx_RP _ _ _ _ _ [.int (b01 (wtT n X (nP n X (nP n X p)) 100 0 47).1)] _ _
      have hC28 := hC18.same h124 (ia_of (hs25 97 (by decide)))
      have hp29 : (wtT n X (nP n X (nP n X p)) 100 0 47).2 ≤ n := wtT_le hp19
      have hB30 := hB20.same hI17 isA29 (fun a h1 h2 => hs25 a (by omega))
      have hO31 := hO21.tr hs25.offT
      refine sx_RP.br (p1 := 62) (l1 := [(3, .int 0), (0, .ref 96), (1, .int (nI k)), (2, .ref 29)]) (s1 := []) (v1 := w26) (p2 := 60) (l2 := [(3, .int 0), (0, .ref 96), (1, .int (nI k)), (2, .ref 29)]) (s2 := []) (v2 := w26) rfl rfl (fun q32 => ?_) (fun q32 => ?_)
      · replace q32 := of_decide_eq_true q32
        refine sx_RP.step (pc2 := 63) (ls2 := [(3, .int 0), (0, .ref 96), (1, .int (nI k)), (2, .ref 29)]) (st2 := [.ref 96]) (w3 := w26) rfl rfl ?_
        refine sx_RP.gt (k := 5) hI27 rfl rfl (by decide) (show _ = 66 from rfl) ?_
        rw [hT23.2.2.2]
        refine sx_RP.step (pc2 := 68) (ls2 := [(4, .int (nI (vaT n X (wtT n X (nP n X (nP n X p)) 100 0 47).2))), (3, .int 0), (0, .ref 96), (1, .int (nI k)), (2, .ref 29)]) (st2 := []) (w3 := w26) rfl rfl ?_
        refine sx_RP.step (pc2 := 69) (ls2 := [(4, .int (nI (vaT n X (wtT n X (nP n X (nP n X p)) 100 0 47).2))), (3, .int 0), (0, .ref 96), (1, .int (nI k)), (2, .ref 29)]) (st2 := [.ref 96]) (w3 := w26) rfl rfl ?_
        refine sx_RP.callp (as2 := [.ref 96]) (rest2 := []) rfl rfl (sx_inv_v2 (mi := 107) (k := 29) (st := [.ref 96]) (w := w26) rfl rfl hI27.1.o96 rfl rfl rfl) rfl rfl rfl (X94 hI27 hC28 hT23.2.2.1 (beT_le hp29)) (show _ = 72 from rfl) ?_
        rintro r4 w36 ⟨⟨rfl, hT33, h134⟩, hI37, hs35⟩
        show sx_RP _ _ _ _ _ [] _ _
        have hT42 : TK' n X (nP n X ((wtT n X (nP n X (nP n X p)) 100 0 47).2)) w36 := hT33
        have hC38 := hC28.same h134 (ia_of (hs35 97 (by decide)))
        have hp39 : nP n X ((wtT n X (nP n X (nP n X p)) 100 0 47).2) ≤ n := nP_le hp29
        have hB40 := hB30.same hI27 isA29 (fun a h1 h2 => hs35 a (by omega))
        have hO41 := hO31.tr hs35.offT
        refine sx_RP.step (pc2 := 73) (ls2 := [(4, .int (nI (vaT n X (wtT n X (nP n X (nP n X p)) 100 0 47).2))), (3, .int 0), (0, .ref 96), (1, .int (nI k)), (2, .ref 29)]) (st2 := [.ref 96]) (w3 := w36) rfl rfl ?_
        refine sx_RP.step (pc2 := 75) (ls2 := [(4, .int (nI (vaT n X (wtT n X (nP n X (nP n X p)) 100 0 47).2))), (3, .int 0), (0, .ref 96), (1, .int (nI k)), (2, .ref 29)]) (st2 := [.float 119, .ref 96]) (w3 := w36) rfl rfl ?_
        refine sx_RP.step (pc2 := 76) (ls2 := [(4, .int (nI (vaT n X (wtT n X (nP n X (nP n X p)) 100 0 47).2))), (3, .int 0), (0, .ref 96), (1, .int (nI k)), (2, .ref 29)]) (st2 := [.int 0, .float 119, .ref 96]) (w3 := w36) rfl rfl ?_
        refine sx_RP.step (pc2 := 77) (ls2 := [(4, .int (nI (vaT n X (wtT n X (nP n X (nP n X p)) 100 0 47).2))), (3, .int 0), (0, .ref 96), (1, .int (nI k)), (2, .ref 29)]) (st2 := [.int 3, .int 0, .float 119, .ref 96]) (w3 := w36) rfl rfl ?_
        refine sx_RP.callp (as2 := [.ref 96, .float 119, .int 0, .int 3]) (rest2 := []) rfl rfl (sx_inv_v2 (mi := 107) (k := 90) (st := [.int 3, .int 0, .float 119, .ref 96]) (w := w36) rfl rfl hI37.1.o96 rfl rfl rfl) rfl rfl rfl (X108 (k := 119) (m := 3) (lo := 0) (hi := 3) hI37 hC38 hT42 hp39 (by decide) rfl (by decide) (by decide) (by decide)) (show _ = 80 from rfl) ?_
        rintro r4 w46 ⟨⟨rfl, hT43, h144⟩, hI47, hs45⟩
        show sx_RP _ _ _ _ _ [.int (b01 (wtT n X (nP n X ((wtT n X (nP n X (nP n X p)) 100 0 47).2)) 119 0 3).1)] _ _
        have hC48 := hC38.same h144 (ia_of (hs45 97 (by decide)))
        have hp49 : (wtT n X (nP n X ((wtT n X (nP n X (nP n X p)) 100 0 47).2)) 119 0 3).2 ≤ n := wtT_le hp39
        have hB50 := hB40.same hI37 isA29 (fun a h1 h2 => hs45 a (by omega))
        have hO51 := hO41.tr hs45.offT
        refine sx_RP.br (p1 := 85) (l1 := [(4, .int (nI (vaT n X (wtT n X (nP n X (nP n X p)) 100 0 47).2))), (3, .int 0), (0, .ref 96), (1, .int (nI k)), (2, .ref 29)]) (s1 := []) (v1 := w46) (p2 := 83) (l2 := [(4, .int (nI (vaT n X (wtT n X (nP n X (nP n X p)) 100 0 47).2))), (3, .int 0), (0, .ref 96), (1, .int (nI k)), (2, .ref 29)]) (s2 := []) (v2 := w46) rfl rfl (fun q52 => ?_) (fun q52 => ?_)
        · replace q52 := of_decide_eq_true q52
          refine sx_RP.step (pc2 := 86) (ls2 := [(4, .int (nI (vaT n X (wtT n X (nP n X (nP n X p)) 100 0 47).2))), (3, .int 0), (0, .ref 96), (1, .int (nI k)), (2, .ref 29)]) (st2 := [.ref 29]) (w3 := w46) rfl rfl ?_
          refine sx_RP.step (pc2 := 87) (ls2 := [(4, .int (nI (vaT n X (wtT n X (nP n X (nP n X p)) 100 0 47).2))), (3, .int 0), (0, .ref 96), (1, .int (nI k)), (2, .ref 29)]) (st2 := [.int (nI k), .ref 29]) (w3 := w46) rfl rfl ?_
          refine sx_RP.step (pc2 := 88) (ls2 := [(4, .int (nI (vaT n X (wtT n X (nP n X (nP n X p)) 100 0 47).2))), (3, .int 0), (0, .ref 96), (1, .int (nI k)), (2, .ref 29)]) (st2 := [.int 0, .int (nI k), .ref 29]) (w3 := w46) rfl rfl ?_
          refine sx_RP.step (pc2 := 90) (ls2 := [(4, .int (nI (vaT n X (wtT n X (nP n X (nP n X p)) 100 0 47).2))), (3, .int 0), (0, .ref 96), (1, .int (nI k)), (2, .ref 29)]) (st2 := [.int (nI (vaT n X (wtT n X (nP n X (nP n X p)) 100 0 47).2)), .int 0, .int (nI k), .ref 29]) (w3 := w46) rfl rfl ?_
          refine sx_RP.step (pc2 := 91) (ls2 := [(4, .int (nI (vaT n X (wtT n X (nP n X (nP n X p)) 100 0 47).2))), (3, .int 0), (0, .ref 96), (1, .int (nI k)), (2, .ref 29)]) (st2 := [.ref 96, .int (nI (vaT n X (wtT n X (nP n X (nP n X p)) 100 0 47).2)), .int 0, .int (nI k), .ref 29]) (w3 := w46) rfl rfl ?_
          refine sx_RP.gt (k := 5) hI47 rfl rfl (by decide) (show _ = 94 from rfl) ?_
          rw [hT43.2.2.2]
          have ht53 := wtT_t (b01_t q32)
          have ht54 := wtT_t (b01_t q52)
          have hv1 := nmT_in ht53.2.1
          have hv2 := nmT_in ht54.2.1
          rw [← ht53.2.2] at hv1
          rw [← ht54.2.2] at hv2
          refine sx_RP.callp (as2 := [.ref 29, .int (nI k), .int 0, .int (nI (vaT n X (wtT n X (nP n X (nP n X p)) 100 0 47).2)), .int (nI (vaT n X (wtT n X (nP n X ((wtT n X (nP n X (nP n X p)) 100 0 47).2)) 119 0 3).2))]) (rest2 := []) rfl rfl (sx_inv_v2 (mi := 107) (k := 96) (st := [.int (nI (vaT n X (wtT n X (nP n X ((wtT n X (nP n X (nP n X p)) 100 0 47).2)) 119 0 3).2)), .int (nI (vaT n X (wtT n X (nP n X (nP n X p)) 100 0 47).2)), .int 0, .int (nI k), .ref 29]) (w := w46) rfl rfl (hI47.1.oC (Or.inr (Or.inr rfl))) rfl rfl rfl) rfl rfl rfl (X25z hI47 isA29 (n := m) (k := k) (s := 0) (c := (vaT n X (wtT n X (nP n X (nP n X p)) 100 0 47).2)) (y := (vaT n X (wtT n X (nP n X ((wtT n X (nP n X (nP n X p)) 100 0 47).2)) 119 0 3).2)) hB50 (by omega) er (by omega) (by omega) (by omega) (by omega)) (show _ = 97 from rfl) ?_
          rintro r4 w57 ⟨⟨rfl, hc55⟩, hI58, ho56⟩
          show sx_RP _ _ _ _ _ [.int (nI m)] _ _
          have hC59 := hC48.out ho56
          have hT60 := hT43.out ho56
          have hO61 := hO51.tr ho56.offT
          refine sx_RP.step (pc2 := 98) (ls2 := [(4, .int (nI (vaT n X (wtT n X (nP n X (nP n X p)) 100 0 47).2))), (3, .int 0), (0, .ref 96), (1, .int (nI k)), (2, .ref 29)]) (st2 := []) (w3 := w57) rfl rfl ?_
          refine sx_RP.step (pc2 := 99) (ls2 := [(4, .int (nI (vaT n X (wtT n X (nP n X (nP n X p)) 100 0 47).2))), (3, .int 0), (0, .ref 96), (1, .int (nI k)), (2, .ref 29)]) (st2 := [.ref 96]) (w3 := w57) rfl rfl ?_
          refine sx_RP.callp (as2 := [.ref 96]) (rest2 := []) rfl rfl (sx_inv_v2 (mi := 107) (k := 29) (st := [.ref 96]) (w := w57) rfl rfl hI58.1.o96 rfl rfl rfl) rfl rfl rfl (X94 hI58 hC59 hT60.2.2.1 (beT_le hp49)) (show _ = 102 from rfl) ?_
          rintro r4 w65 ⟨⟨rfl, hT62, h163⟩, hI66, hs64⟩
          show sx_RP _ _ _ _ _ [] _ _
          have hT71 : TK' n X (nP n X ((wtT n X (nP n X ((wtT n X (nP n X (nP n X p)) 100 0 47).2)) 119 0 3).2)) w65 := hT62
          have hC67 := hC59.same h163 (ia_of (hs64 97 (by decide)))
          have hp68 : nP n X ((wtT n X (nP n X ((wtT n X (nP n X (nP n X p)) 100 0 47).2)) 119 0 3).2) ≤ n := nP_le hp49
          have hB69 := hc55.same hI58 isA29 (fun a h1 h2 => hs64 a (by omega))
          have hO70 := hO61.tr hs64.offT
          refine sx_RP.step (pc2 := 103) (ls2 := [(4, .int (nI (vaT n X (wtT n X (nP n X (nP n X p)) 100 0 47).2))), (3, .int 0), (0, .ref 96), (1, .int (nI k)), (2, .ref 29)]) (st2 := [.int 1]) (w3 := w65) rfl rfl ?_
          refine sx_RP.ret (r := (some (.int 1))) rfl rfl ?_
          rw [show galW n X k p b = (true, nP n X (wtT n X (nP n X (wtT n X (nP n X (nP n X p)) 100 0 47).2) 119 0 3).2, addRow b (iN (b.getD 1 0)) (nI k) (nI 0) (nI (vaT n X (wtT n X (nP n X (nP n X p)) 100 0 47).2)) (nI (vaT n X (wtT n X (nP n X (wtT n X (nP n X (nP n X p)) 100 0 47).2) 119 0 3).2))) by unfold galW; rw [if_pos (by rw [hlen]; exact c1), if_pos c12]; unfold galX; rw [if_pos (b01_t q32), if_pos (b01_t q52)]]
          exact ⟨⟨rfl, hT71, fun _ => (by rw [hlen]; exact hB69)⟩, hI66, hC67, hO70⟩
        · replace q52 := Decidable.not_not.mp (of_decide_eq_false q52)
          refine sx_RP.step (pc2 := 84) (ls2 := [(4, .int (nI (vaT n X (wtT n X (nP n X (nP n X p)) 100 0 47).2))), (3, .int 0), (0, .ref 96), (1, .int (nI k)), (2, .ref 29)]) (st2 := [.int 0]) (w3 := w46) rfl rfl ?_
          refine sx_RP.ret (r := (some (.int 0))) rfl rfl ?_
          rw [show galW n X k p b = (false, (wtT n X (nP n X (wtT n X (nP n X (nP n X p)) 100 0 47).2) 119 0 3).2, b) by unfold galW; rw [if_pos (by rw [hlen]; exact c1), if_pos c12]; unfold galX; rw [if_pos (b01_t q32), if_neg (by rw [b01_f q52]; decide)]]
          exact ⟨⟨rfl, hT43, fun z => absurd (show false = true from z) (by decide)⟩, hI47, hC48, hO51⟩
      · replace q32 := Decidable.not_not.mp (of_decide_eq_false q32)
        refine sx_RP.step (pc2 := 61) (ls2 := [(3, .int 0), (0, .ref 96), (1, .int (nI k)), (2, .ref 29)]) (st2 := [.int 0]) (w3 := w26) rfl rfl ?_
        refine sx_RP.ret (r := (some (.int 0))) rfl rfl ?_
        rw [show galW n X k p b = (false, (wtT n X (nP n X (nP n X p)) 100 0 47).2, b) by unfold galW; rw [if_pos (by rw [hlen]; exact c1), if_pos c12]; unfold galX; rw [if_neg (by rw [b01_f q32]; decide)]]
        exact ⟨⟨rfl, hT23, fun z => absurd (show false = true from z) (by decide)⟩, hI27, hC28, hO31⟩
    · refine sx_RP.cu (as := [.ref 96, .float 115]) (rest2 := []) (st3 := [.int 0]) rfl rfl (sx_inv_v2 (mi := 107) (k := 52) (st := [.float 115, .ref 96]) (w := w5) rfl rfl hI6.1.o96 rfl rfl rfl) rfl rfl (x101f (k := (115 : UInt32)) (m := 6) hI6 hC7 hT11 hp8 (by decide) rfl (by decide) c12) rfl ?_
      refine sx_RP.step (pc2 := 26) (ls2 := [(0, .ref 96), (1, .int (nI k)), (2, .ref 29)]) (st2 := []) (w3 := w5) rfl rfl ?_
      refine sx_RP.step (pc2 := 27) (ls2 := [(0, .ref 96), (1, .int (nI k)), (2, .ref 29)]) (st2 := [.int 1]) (w3 := w5) rfl rfl ?_
      refine sx_RP.step (pc2 := 28) (ls2 := [(3, .int 1), (0, .ref 96), (1, .int (nI k)), (2, .ref 29)]) (st2 := []) (w3 := w5) rfl rfl ?_
      refine sx_RP.step (pc2 := 29) (ls2 := [(3, .int 1), (0, .ref 96), (1, .int (nI k)), (2, .ref 29)]) (st2 := [.int 1]) (w3 := w5) rfl rfl ?_
      refine sx_RP.step (pc2 := 30) (ls2 := [(3, .int 1), (0, .ref 96), (1, .int (nI k)), (2, .ref 29)]) (st2 := [.int 1, .int 1]) (w3 := w5) rfl rfl ?_
      refine sx_RP.step (pc2 := 33) (ls2 := [(3, .int 1), (0, .ref 96), (1, .int (nI k)), (2, .ref 29)]) (st2 := []) (w3 := w5) rfl rfl ?_
      refine sx_RP.step (pc2 := 34) (ls2 := [(3, .int 1), (0, .ref 96), (1, .int (nI k)), (2, .ref 29)]) (st2 := [.ref 96]) (w3 := w5) rfl rfl ?_
      refine sx_RP.step (pc2 := 36) (ls2 := [(3, .int 1), (0, .ref 96), (1, .int (nI k)), (2, .ref 29)]) (st2 := [.float 109, .ref 96]) (w3 := w5) rfl rfl ?_
      rcases Bool.eq_false_or_eq_true (wdT n X (nP n X p) (109 : UInt32)) with c72 | c72
      · refine sx_RP.cu (as := [.ref 96, .float 109]) (rest2 := []) (st3 := [.int 1]) rfl rfl (sx_inv_v2 (mi := 107) (k := 52) (st := [.float 109, .ref 96]) (w := w5) rfl rfl hI6.1.o96 rfl rfl rfl) rfl rfl (x101t (k := (109 : UInt32)) (m := 4) hI6 hC7 hT11 hp8 (by decide) rfl (by decide) c72) rfl ?_
        refine sx_RP.step (pc2 := 44) (ls2 := [(3, .int 1), (0, .ref 96), (1, .int (nI k)), (2, .ref 29)]) (st2 := []) (w3 := w5) rfl rfl ?_
        refine sx_RP.step (pc2 := 45) (ls2 := [(3, .int 1), (0, .ref 96), (1, .int (nI k)), (2, .ref 29)]) (st2 := [.ref 96]) (w3 := w5) rfl rfl ?_
        refine sx_RP.callp (as2 := [.ref 96]) (rest2 := []) rfl rfl (sx_inv_v2 (mi := 107) (k := 29) (st := [.ref 96]) (w := w5) rfl rfl hI6.1.o96 rfl rfl rfl) rfl rfl rfl (X94 hI6 hC7 hT11.2.2.1 (beT_le hp8)) (show _ = 48 from rfl) ?_
        rintro r4 w76 ⟨⟨rfl, hT73, h174⟩, hI77, hs75⟩
        show sx_RP _ _ _ _ _ [] _ _
        have hT82 : TK' n X (nP n X (nP n X p)) w76 := hT73
        have hC78 := hC7.same h174 (ia_of (hs75 97 (by decide)))
        have hp79 : nP n X (nP n X p) ≤ n := nP_le hp8
        have hB80 := hB9.same hI6 isA29 (fun a h1 h2 => hs75 a (by omega))
        have hO81 := hO10.tr hs75.offT
        refine sx_RP.step (pc2 := 49) (ls2 := [(3, .int 1), (0, .ref 96), (1, .int (nI k)), (2, .ref 29)]) (st2 := [.ref 96]) (w3 := w76) rfl rfl ?_
        refine sx_RP.step (pc2 := 51) (ls2 := [(3, .int 1), (0, .ref 96), (1, .int (nI k)), (2, .ref 29)]) (st2 := [.float 100, .ref 96]) (w3 := w76) rfl rfl ?_
        refine sx_RP.step (pc2 := 52) (ls2 := [(3, .int 1), (0, .ref 96), (1, .int (nI k)), (2, .ref 29)]) (st2 := [.int 0, .float 100, .ref 96]) (w3 := w76) rfl rfl ?_
        refine sx_RP.step (pc2 := 54) (ls2 := [(3, .int 1), (0, .ref 96), (1, .int (nI k)), (2, .ref 29)]) (st2 := [.int 47, .int 0, .float 100, .ref 96]) (w3 := w76) rfl rfl ?_
        refine sx_RP.callp (as2 := [.ref 96, .float 100, .int 0, .int 47]) (rest2 := []) rfl rfl (sx_inv_v2 (mi := 107) (k := 90) (st := [.int 47, .int 0, .float 100, .ref 96]) (w := w76) rfl rfl hI77.1.o96 rfl rfl rfl) rfl rfl rfl (X108 (k := 100) (m := 2) (lo := 0) (hi := 47) hI77 hC78 hT82 hp79 (by decide) rfl (by decide) (by decide) (by decide)) (show _ = 57 from rfl) ?_
        rintro r4 w86 ⟨⟨rfl, hT83, h184⟩, hI87, hs85⟩
        show sx_RP _ _ _ _ _ [.int (b01 (wtT n X (nP n X (nP n X p)) 100 0 47).1)] _ _
        have hC88 := hC78.same h184 (ia_of (hs85 97 (by decide)))
        have hp89 : (wtT n X (nP n X (nP n X p)) 100 0 47).2 ≤ n := wtT_le hp79
        have hB90 := hB80.same hI77 isA29 (fun a h1 h2 => hs85 a (by omega))
        have hO91 := hO81.tr hs85.offT
        refine sx_RP.br (p1 := 62) (l1 := [(3, .int 1), (0, .ref 96), (1, .int (nI k)), (2, .ref 29)]) (s1 := []) (v1 := w86) (p2 := 60) (l2 := [(3, .int 1), (0, .ref 96), (1, .int (nI k)), (2, .ref 29)]) (s2 := []) (v2 := w86) rfl rfl (fun q92 => ?_) (fun q92 => ?_)
        · replace q92 := of_decide_eq_true q92
          refine sx_RP.step (pc2 := 63) (ls2 := [(3, .int 1), (0, .ref 96), (1, .int (nI k)), (2, .ref 29)]) (st2 := [.ref 96]) (w3 := w86) rfl rfl ?_
          refine sx_RP.gt (k := 5) hI87 rfl rfl (by decide) (show _ = 66 from rfl) ?_
          rw [hT83.2.2.2]
          refine sx_RP.step (pc2 := 68) (ls2 := [(4, .int (nI (vaT n X (wtT n X (nP n X (nP n X p)) 100 0 47).2))), (3, .int 1), (0, .ref 96), (1, .int (nI k)), (2, .ref 29)]) (st2 := []) (w3 := w86) rfl rfl ?_
          refine sx_RP.step (pc2 := 69) (ls2 := [(4, .int (nI (vaT n X (wtT n X (nP n X (nP n X p)) 100 0 47).2))), (3, .int 1), (0, .ref 96), (1, .int (nI k)), (2, .ref 29)]) (st2 := [.ref 96]) (w3 := w86) rfl rfl ?_
          refine sx_RP.callp (as2 := [.ref 96]) (rest2 := []) rfl rfl (sx_inv_v2 (mi := 107) (k := 29) (st := [.ref 96]) (w := w86) rfl rfl hI87.1.o96 rfl rfl rfl) rfl rfl rfl (X94 hI87 hC88 hT83.2.2.1 (beT_le hp89)) (show _ = 72 from rfl) ?_
          rintro r4 w96 ⟨⟨rfl, hT93, h194⟩, hI97, hs95⟩
          show sx_RP _ _ _ _ _ [] _ _
          have hT102 : TK' n X (nP n X ((wtT n X (nP n X (nP n X p)) 100 0 47).2)) w96 := hT93
          have hC98 := hC88.same h194 (ia_of (hs95 97 (by decide)))
          have hp99 : nP n X ((wtT n X (nP n X (nP n X p)) 100 0 47).2) ≤ n := nP_le hp89
          have hB100 := hB90.same hI87 isA29 (fun a h1 h2 => hs95 a (by omega))
          have hO101 := hO91.tr hs95.offT
          refine sx_RP.step (pc2 := 73) (ls2 := [(4, .int (nI (vaT n X (wtT n X (nP n X (nP n X p)) 100 0 47).2))), (3, .int 1), (0, .ref 96), (1, .int (nI k)), (2, .ref 29)]) (st2 := [.ref 96]) (w3 := w96) rfl rfl ?_
          refine sx_RP.step (pc2 := 75) (ls2 := [(4, .int (nI (vaT n X (wtT n X (nP n X (nP n X p)) 100 0 47).2))), (3, .int 1), (0, .ref 96), (1, .int (nI k)), (2, .ref 29)]) (st2 := [.float 119, .ref 96]) (w3 := w96) rfl rfl ?_
          refine sx_RP.step (pc2 := 76) (ls2 := [(4, .int (nI (vaT n X (wtT n X (nP n X (nP n X p)) 100 0 47).2))), (3, .int 1), (0, .ref 96), (1, .int (nI k)), (2, .ref 29)]) (st2 := [.int 0, .float 119, .ref 96]) (w3 := w96) rfl rfl ?_
          refine sx_RP.step (pc2 := 77) (ls2 := [(4, .int (nI (vaT n X (wtT n X (nP n X (nP n X p)) 100 0 47).2))), (3, .int 1), (0, .ref 96), (1, .int (nI k)), (2, .ref 29)]) (st2 := [.int 3, .int 0, .float 119, .ref 96]) (w3 := w96) rfl rfl ?_
          refine sx_RP.callp (as2 := [.ref 96, .float 119, .int 0, .int 3]) (rest2 := []) rfl rfl (sx_inv_v2 (mi := 107) (k := 90) (st := [.int 3, .int 0, .float 119, .ref 96]) (w := w96) rfl rfl hI97.1.o96 rfl rfl rfl) rfl rfl rfl (X108 (k := 119) (m := 3) (lo := 0) (hi := 3) hI97 hC98 hT102 hp99 (by decide) rfl (by decide) (by decide) (by decide)) (show _ = 80 from rfl) ?_
          rintro r4 w106 ⟨⟨rfl, hT103, h1104⟩, hI107, hs105⟩
          show sx_RP _ _ _ _ _ [.int (b01 (wtT n X (nP n X ((wtT n X (nP n X (nP n X p)) 100 0 47).2)) 119 0 3).1)] _ _
          have hC108 := hC98.same h1104 (ia_of (hs105 97 (by decide)))
          have hp109 : (wtT n X (nP n X ((wtT n X (nP n X (nP n X p)) 100 0 47).2)) 119 0 3).2 ≤ n := wtT_le hp99
          have hB110 := hB100.same hI97 isA29 (fun a h1 h2 => hs105 a (by omega))
          have hO111 := hO101.tr hs105.offT
          refine sx_RP.br (p1 := 85) (l1 := [(4, .int (nI (vaT n X (wtT n X (nP n X (nP n X p)) 100 0 47).2))), (3, .int 1), (0, .ref 96), (1, .int (nI k)), (2, .ref 29)]) (s1 := []) (v1 := w106) (p2 := 83) (l2 := [(4, .int (nI (vaT n X (wtT n X (nP n X (nP n X p)) 100 0 47).2))), (3, .int 1), (0, .ref 96), (1, .int (nI k)), (2, .ref 29)]) (s2 := []) (v2 := w106) rfl rfl (fun q112 => ?_) (fun q112 => ?_)
          · replace q112 := of_decide_eq_true q112
            refine sx_RP.step (pc2 := 86) (ls2 := [(4, .int (nI (vaT n X (wtT n X (nP n X (nP n X p)) 100 0 47).2))), (3, .int 1), (0, .ref 96), (1, .int (nI k)), (2, .ref 29)]) (st2 := [.ref 29]) (w3 := w106) rfl rfl ?_
            refine sx_RP.step (pc2 := 87) (ls2 := [(4, .int (nI (vaT n X (wtT n X (nP n X (nP n X p)) 100 0 47).2))), (3, .int 1), (0, .ref 96), (1, .int (nI k)), (2, .ref 29)]) (st2 := [.int (nI k), .ref 29]) (w3 := w106) rfl rfl ?_
            refine sx_RP.step (pc2 := 88) (ls2 := [(4, .int (nI (vaT n X (wtT n X (nP n X (nP n X p)) 100 0 47).2))), (3, .int 1), (0, .ref 96), (1, .int (nI k)), (2, .ref 29)]) (st2 := [.int 1, .int (nI k), .ref 29]) (w3 := w106) rfl rfl ?_
            refine sx_RP.step (pc2 := 90) (ls2 := [(4, .int (nI (vaT n X (wtT n X (nP n X (nP n X p)) 100 0 47).2))), (3, .int 1), (0, .ref 96), (1, .int (nI k)), (2, .ref 29)]) (st2 := [.int (nI (vaT n X (wtT n X (nP n X (nP n X p)) 100 0 47).2)), .int 1, .int (nI k), .ref 29]) (w3 := w106) rfl rfl ?_
            refine sx_RP.step (pc2 := 91) (ls2 := [(4, .int (nI (vaT n X (wtT n X (nP n X (nP n X p)) 100 0 47).2))), (3, .int 1), (0, .ref 96), (1, .int (nI k)), (2, .ref 29)]) (st2 := [.ref 96, .int (nI (vaT n X (wtT n X (nP n X (nP n X p)) 100 0 47).2)), .int 1, .int (nI k), .ref 29]) (w3 := w106) rfl rfl ?_
            refine sx_RP.gt (k := 5) hI107 rfl rfl (by decide) (show _ = 94 from rfl) ?_
            rw [hT103.2.2.2]
            have ht113 := wtT_t (b01_t q92)
            have ht114 := wtT_t (b01_t q112)
            have hv1 := nmT_in ht113.2.1
            have hv2 := nmT_in ht114.2.1
            rw [← ht113.2.2] at hv1
            rw [← ht114.2.2] at hv2
            refine sx_RP.callp (as2 := [.ref 29, .int (nI k), .int 1, .int (nI (vaT n X (wtT n X (nP n X (nP n X p)) 100 0 47).2)), .int (nI (vaT n X (wtT n X (nP n X ((wtT n X (nP n X (nP n X p)) 100 0 47).2)) 119 0 3).2))]) (rest2 := []) rfl rfl (sx_inv_v2 (mi := 107) (k := 96) (st := [.int (nI (vaT n X (wtT n X (nP n X ((wtT n X (nP n X (nP n X p)) 100 0 47).2)) 119 0 3).2)), .int (nI (vaT n X (wtT n X (nP n X (nP n X p)) 100 0 47).2)), .int 1, .int (nI k), .ref 29]) (w := w106) rfl rfl (hI107.1.oC (Or.inr (Or.inr rfl))) rfl rfl rfl) rfl rfl rfl (X25z hI107 isA29 (n := m) (k := k) (s := 1) (c := (vaT n X (wtT n X (nP n X (nP n X p)) 100 0 47).2)) (y := (vaT n X (wtT n X (nP n X ((wtT n X (nP n X (nP n X p)) 100 0 47).2)) 119 0 3).2)) hB110 (by omega) er (by omega) (by omega) (by omega) (by omega)) (show _ = 97 from rfl) ?_
            rintro r4 w117 ⟨⟨rfl, hc115⟩, hI118, ho116⟩
            show sx_RP _ _ _ _ _ [.int (nI m)] _ _
            have hC119 := hC108.out ho116
            have hT120 := hT103.out ho116
            have hO121 := hO111.tr ho116.offT
            refine sx_RP.step (pc2 := 98) (ls2 := [(4, .int (nI (vaT n X (wtT n X (nP n X (nP n X p)) 100 0 47).2))), (3, .int 1), (0, .ref 96), (1, .int (nI k)), (2, .ref 29)]) (st2 := []) (w3 := w117) rfl rfl ?_
            refine sx_RP.step (pc2 := 99) (ls2 := [(4, .int (nI (vaT n X (wtT n X (nP n X (nP n X p)) 100 0 47).2))), (3, .int 1), (0, .ref 96), (1, .int (nI k)), (2, .ref 29)]) (st2 := [.ref 96]) (w3 := w117) rfl rfl ?_
            refine sx_RP.callp (as2 := [.ref 96]) (rest2 := []) rfl rfl (sx_inv_v2 (mi := 107) (k := 29) (st := [.ref 96]) (w := w117) rfl rfl hI118.1.o96 rfl rfl rfl) rfl rfl rfl (X94 hI118 hC119 hT120.2.2.1 (beT_le hp109)) (show _ = 102 from rfl) ?_
            rintro r4 w125 ⟨⟨rfl, hT122, h1123⟩, hI126, hs124⟩
            show sx_RP _ _ _ _ _ [] _ _
            have hT131 : TK' n X (nP n X ((wtT n X (nP n X ((wtT n X (nP n X (nP n X p)) 100 0 47).2)) 119 0 3).2)) w125 := hT122
            have hC127 := hC119.same h1123 (ia_of (hs124 97 (by decide)))
            have hp128 : nP n X ((wtT n X (nP n X ((wtT n X (nP n X (nP n X p)) 100 0 47).2)) 119 0 3).2) ≤ n := nP_le hp109
            have hB129 := hc115.same hI118 isA29 (fun a h1 h2 => hs124 a (by omega))
            have hO130 := hO121.tr hs124.offT
            refine sx_RP.step (pc2 := 103) (ls2 := [(4, .int (nI (vaT n X (wtT n X (nP n X (nP n X p)) 100 0 47).2))), (3, .int 1), (0, .ref 96), (1, .int (nI k)), (2, .ref 29)]) (st2 := [.int 1]) (w3 := w125) rfl rfl ?_
            refine sx_RP.ret (r := (some (.int 1))) rfl rfl ?_
            rw [show galW n X k p b = (true, nP n X (wtT n X (nP n X (wtT n X (nP n X (nP n X p)) 100 0 47).2) 119 0 3).2, addRow b (iN (b.getD 1 0)) (nI k) (nI 1) (nI (vaT n X (wtT n X (nP n X (nP n X p)) 100 0 47).2)) (nI (vaT n X (wtT n X (nP n X (wtT n X (nP n X (nP n X p)) 100 0 47).2) 119 0 3).2))) by unfold galW; rw [if_pos (by rw [hlen]; exact c1), if_neg (by rw [c12]; decide), if_pos c72]; unfold galX; rw [if_pos (b01_t q92), if_pos (b01_t q112)]]
            exact ⟨⟨rfl, hT131, fun _ => (by rw [hlen]; exact hB129)⟩, hI126, hC127, hO130⟩
          · replace q112 := Decidable.not_not.mp (of_decide_eq_false q112)
            refine sx_RP.step (pc2 := 84) (ls2 := [(4, .int (nI (vaT n X (wtT n X (nP n X (nP n X p)) 100 0 47).2))), (3, .int 1), (0, .ref 96), (1, .int (nI k)), (2, .ref 29)]) (st2 := [.int 0]) (w3 := w106) rfl rfl ?_
            refine sx_RP.ret (r := (some (.int 0))) rfl rfl ?_
            rw [show galW n X k p b = (false, (wtT n X (nP n X (wtT n X (nP n X (nP n X p)) 100 0 47).2) 119 0 3).2, b) by unfold galW; rw [if_pos (by rw [hlen]; exact c1), if_neg (by rw [c12]; decide), if_pos c72]; unfold galX; rw [if_pos (b01_t q92), if_neg (by rw [b01_f q112]; decide)]]
            exact ⟨⟨rfl, hT103, fun z => absurd (show false = true from z) (by decide)⟩, hI107, hC108, hO111⟩
        · replace q92 := Decidable.not_not.mp (of_decide_eq_false q92)
          refine sx_RP.step (pc2 := 61) (ls2 := [(3, .int 1), (0, .ref 96), (1, .int (nI k)), (2, .ref 29)]) (st2 := [.int 0]) (w3 := w86) rfl rfl ?_
          refine sx_RP.ret (r := (some (.int 0))) rfl rfl ?_
          rw [show galW n X k p b = (false, (wtT n X (nP n X (nP n X p)) 100 0 47).2, b) by unfold galW; rw [if_pos (by rw [hlen]; exact c1), if_neg (by rw [c12]; decide), if_pos c72]; unfold galX; rw [if_neg (by rw [b01_f q92]; decide)]]
          exact ⟨⟨rfl, hT83, fun z => absurd (show false = true from z) (by decide)⟩, hI87, hC88, hO91⟩
      · refine sx_RP.cu (as := [.ref 96, .float 109]) (rest2 := []) (st3 := [.int 0]) rfl rfl (sx_inv_v2 (mi := 107) (k := 52) (st := [.float 109, .ref 96]) (w := w5) rfl rfl hI6.1.o96 rfl rfl rfl) rfl rfl (x101f (k := (109 : UInt32)) (m := 4) hI6 hC7 hT11 hp8 (by decide) rfl (by decide) c72) rfl ?_
        refine sx_RP.step (pc2 := 42) (ls2 := [(3, .int 1), (0, .ref 96), (1, .int (nI k)), (2, .ref 29)]) (st2 := []) (w3 := w5) rfl rfl ?_
        refine sx_RP.step (pc2 := 43) (ls2 := [(3, .int 1), (0, .ref 96), (1, .int (nI k)), (2, .ref 29)]) (st2 := [.int 0]) (w3 := w5) rfl rfl ?_
        refine sx_RP.ret (r := (some (.int 0))) rfl rfl ?_
        rw [show galW n X k p b = (false, nP n X p, b) by unfold galW; rw [if_pos (by rw [hlen]; exact c1), if_neg (by rw [c12]; decide), if_neg (by rw [c72]; decide)]]
        exact ⟨⟨rfl, hT11, fun z => absurd (show false = true from z) (by decide)⟩, hI6, hC7, hO10⟩
  · refine sx_RP.cu (as := [.ref 29]) (rest2 := []) (st3 := [.int 0]) rfl rfl (sx_inv_v2 (mi := 107) (k := 78) (st := [.ref 29]) (w := w) rfl rfl (hI.1.oC (Or.inr (Or.inr rfl))) rfl rfl rfl) rfl rfl (p24n hI isA29 en hm c1) rfl ?_
    refine sx_RP.step (pc2 := 7) (ls2 := [(0, .ref 96), (1, .int (nI k)), (2, .ref 29)]) (st2 := []) (w3 := w) rfl rfl ?_
    refine sx_RP.step (pc2 := 8) (ls2 := [(0, .ref 96), (1, .int (nI k)), (2, .ref 29)]) (st2 := [.int 0]) (w3 := w) rfl rfl ?_
    refine sx_RP.ret (r := (some (.int 0))) rfl rfl ?_
    rw [show galW n X k p b = (false, p, b) by unfold galW; rw [if_neg (by rw [hlen]; exact c1)]]
    exact ⟨⟨rfl, hT, fun z => absurd (show false = true from z) (by decide)⟩, hI, hC, OffT.rf⟩
def bw2 (n : Nat) (X : Nat → Nat) (p : Nat) (b : List Int32) : Bool × Nat × List Int32 := if wdT n X p 111 = true then (if (wtT n X p 111 1 99).1 = true then (true, nP n X (wtT n X p 111 1 99).2, b.set 6 (nI (vaT n X (wtT n X p 111 1 99).2))) else (false, (wtT n X p 111 1 99).2, b)) else (true, p, b)
def bw1 (n : Nat) (X : Nat → Nat) (p : Nat) (b : List Int32) : Bool × Nat × List Int32 := if wdT n X p 108 = true then (if (wtT n X p 108 1 999).1 = true then bw2 n X (nP n X (wtT n X p 108 1 999).2) (b.set 5 (nI (vaT n X (wtT n X p 108 1 999).2))) else (false, (wtT n X p 108 1 999).2, b)) else bw2 n X p b
def breW (n : Nat) (X : Nat → Nat) (p : Nat) (b : List Int32) : Bool × Nat × List Int32 := if nmT n X (nP n X p) 0 999999 = true then bw1 n X (nP n X (nP n X p)) (b.set 4 (nI (vaT n X (nP n X p)))) else (false, nP n X p, b)
set_option maxRecDepth 20000 in
set_option maxHeartbeats 4000000 in
theorem V110 {xs : Option (List Int32)} {d : Nat} {w : List sx_C} (hI : WI w) {n p : Nat} {X : Nat → Nat} {b : List Int32} (hC : CT n X w) (hT : TK' n X p w) (hp : p ≤ n) (hB : rel w 29 b) : sx_RP xs (d + 4) 110 0 (lv_args 0 [.ref 96, .ref 29]) [] w (fun r w2 => (r = some (.int (b01 (breW n X p b).1)) ∧ RdW n X (breW n X p b) w2) ∧ WI w2 ∧ CT n X w2 ∧ OffT w w2) := by
  refine sx_RP.step (pc2 := 1) (ls2 := [(0, .ref 96), (1, .ref 29)]) (st2 := [.ref 96]) (w3 := w) rfl rfl ?_
  refine sx_RP.callp (as2 := [.ref 96]) (rest2 := []) rfl rfl (sx_inv_v2 (mi := 110) (k := 29) (st := [.ref 96]) (w := w) rfl rfl hI.1.o96 rfl rfl rfl) rfl rfl rfl (X94 hI hC hT.2.2.1 (beT_le hp)) (show _ = 4 from rfl) ?_
  rintro r4 w4 ⟨⟨rfl, hT1, h12⟩, hI5, hs3⟩
  show sx_RP _ _ _ _ _ [] _ _
  have hT10 : TK' n X (nP n X p) w4 := hT1
  have hC6 := hC.same h12 (ia_of (hs3 97 (by decide)))
  have hp7 : nP n X p ≤ n := nP_le hp
  have hB8 := hB.same hI isA29 (fun a h1 h2 => hs3 a (by omega))
  have hO9 := OffT.rf.tr hs3.offT
  refine sx_RP.step (pc2 := 5) (ls2 := [(0, .ref 96), (1, .ref 29)]) (st2 := [.ref 96]) (w3 := w4) rfl rfl ?_
  refine sx_RP.step (pc2 := 6) (ls2 := [(0, .ref 96), (1, .ref 29)]) (st2 := [.int 0, .ref 96]) (w3 := w4) rfl rfl ?_
  refine sx_RP.step (pc2 := 8) (ls2 := [(0, .ref 96), (1, .ref 29)]) (st2 := [.int 999999, .int 0, .ref 96]) (w3 := w4) rfl rfl ?_
  rcases Bool.eq_false_or_eq_true (nmT n X (nP n X p) 0 999999) with c11 | c11
  · refine sx_RP.cu (as := [.ref 96, .int 0, .int 999999]) (rest2 := []) (st3 := [.int 1]) rfl rfl (sx_inv_v2 (mi := 110) (k := 66) (st := [.int 999999, .int 0, .ref 96]) (w := w4) rfl rfl hI5.1.o96 rfl rfl rfl) rfl rfl (x103t (lo := 0) (hi := 999999) hI5 hC6 hT10 (by omega) (by omega) c11) rfl ?_
    refine sx_RP.step (pc2 := 16) (ls2 := [(0, .ref 96), (1, .ref 29)]) (st2 := []) (w3 := w4) rfl rfl ?_
    refine sx_RP.step (pc2 := 17) (ls2 := [(0, .ref 96), (1, .ref 29)]) (st2 := [.ref 29]) (w3 := w4) rfl rfl ?_
    refine sx_RP.step (pc2 := 18) (ls2 := [(0, .ref 96), (1, .ref 29)]) (st2 := [.ref 96, .ref 29]) (w3 := w4) rfl rfl ?_
    refine sx_RP.gt (k := 5) hI5 rfl rfl (by decide) (show _ = 21 from rfl) ?_
    rw [hT10.2.2.2]
    refine sx_RP.xC (k := 8) hI5 isA29 rfl rfl (by omega) rfl trivial (show _ = 24 from rfl) (fun w12 hI13 hs14 hv15 hr16 hj17 => ?_)
    have ho18 : Out 29 w4 w12 := Out.st Out.rf hs14 (by decide)
    have hC19 := hC6.out ho18
    have hT20 := hT10.out ho18
    have hB21 : rel w12 29 ((b).set 4 (nI (vaT n X (nP n X p)))) := hB8.sFi (k := 8) (by decide) hs14 hv15 hr16 hj17
    have hO22 := hO9.tr ho18.offT
    refine sx_RP.step (pc2 := 25) (ls2 := [(0, .ref 96), (1, .ref 29)]) (st2 := [.ref 96]) (w3 := w12) rfl rfl ?_
    refine sx_RP.callp (as2 := [.ref 96]) (rest2 := []) rfl rfl (sx_inv_v2 (mi := 110) (k := 29) (st := [.ref 96]) (w := w12) rfl rfl hI13.1.o96 rfl rfl rfl) rfl rfl rfl (X94 hI13 hC19 hT20.2.2.1 (beT_le hp7)) (show _ = 28 from rfl) ?_
    rintro r4 w26 ⟨⟨rfl, hT23, h124⟩, hI27, hs25⟩
    show sx_RP _ _ _ _ _ [] _ _
    have hT32 : TK' n X (nP n X (nP n X p)) w26 := hT23
    have hC28 := hC19.same h124 (ia_of (hs25 97 (by decide)))
    have hp29 : nP n X (nP n X p) ≤ n := nP_le hp7
    have hB30 := hB21.same hI13 isA29 (fun a h1 h2 => hs25 a (by omega))
    have hO31 := hO22.tr hs25.offT
    refine sx_RP.step (pc2 := 29) (ls2 := [(0, .ref 96), (1, .ref 29)]) (st2 := [.ref 96]) (w3 := w26) rfl rfl ?_
    refine sx_RP.step (pc2 := 31) (ls2 := [(0, .ref 96), (1, .ref 29)]) (st2 := [.float 108, .ref 96]) (w3 := w26) rfl rfl ?_
    rcases Bool.eq_false_or_eq_true (wdT n X (nP n X (nP n X p)) (108 : UInt32)) with c33 | c33
    · refine sx_RP.cu (as := [.ref 96, .float 108]) (rest2 := []) (st3 := [.int 1]) rfl rfl (sx_inv_v2 (mi := 110) (k := 52) (st := [.float 108, .ref 96]) (w := w26) rfl rfl hI27.1.o96 rfl rfl rfl) rfl rfl (x101t (k := (108 : UInt32)) (m := 6) hI27 hC28 hT32 hp29 (by decide) rfl (by decide) c33) rfl ?_
      refine sx_RP.step (pc2 := 37) (ls2 := [(0, .ref 96), (1, .ref 29)]) (st2 := []) (w3 := w26) rfl rfl ?_
      refine sx_RP.step (pc2 := 38) (ls2 := [(0, .ref 96), (1, .ref 29)]) (st2 := [.ref 96]) (w3 := w26) rfl rfl ?_
      refine sx_RP.step (pc2 := 40) (ls2 := [(0, .ref 96), (1, .ref 29)]) (st2 := [.float 108, .ref 96]) (w3 := w26) rfl rfl ?_
      refine sx_RP.step (pc2 := 41) (ls2 := [(0, .ref 96), (1, .ref 29)]) (st2 := [.int 1, .float 108, .ref 96]) (w3 := w26) rfl rfl ?_
      refine sx_RP.step (pc2 := 44) (ls2 := [(0, .ref 96), (1, .ref 29)]) (st2 := [.int 999, .int 1, .float 108, .ref 96]) (w3 := w26) rfl rfl ?_
      refine sx_RP.callp (as2 := [.ref 96, .float 108, .int 1, .int 999]) (rest2 := []) rfl rfl (sx_inv_v2 (mi := 110) (k := 90) (st := [.int 999, .int 1, .float 108, .ref 96]) (w := w26) rfl rfl hI27.1.o96 rfl rfl rfl) rfl rfl rfl (X108 (k := 108) (m := 6) (lo := 1) (hi := 999) hI27 hC28 hT32 hp29 (by decide) rfl (by decide) (by decide) (by decide)) (show _ = 47 from rfl) ?_
      rintro r4 w37 ⟨⟨rfl, hT34, h135⟩, hI38, hs36⟩
      show sx_RP _ _ _ _ _ [.int (b01 (wtT n X (nP n X (nP n X p)) 108 1 999).1)] _ _
      have hC39 := hC28.same h135 (ia_of (hs36 97 (by decide)))
      have hp40 : (wtT n X (nP n X (nP n X p)) 108 1 999).2 ≤ n := wtT_le hp29
      have hB41 := hB30.same hI27 isA29 (fun a h1 h2 => hs36 a (by omega))
      have hO42 := hO31.tr hs36.offT
      refine sx_RP.br (p1 := 52) (l1 := [(0, .ref 96), (1, .ref 29)]) (s1 := []) (v1 := w37) (p2 := 50) (l2 := [(0, .ref 96), (1, .ref 29)]) (s2 := []) (v2 := w37) rfl rfl (fun q43 => ?_) (fun q43 => ?_)
      · replace q43 := of_decide_eq_true q43
        refine sx_RP.step (pc2 := 53) (ls2 := [(0, .ref 96), (1, .ref 29)]) (st2 := [.ref 29]) (w3 := w37) rfl rfl ?_
        refine sx_RP.step (pc2 := 54) (ls2 := [(0, .ref 96), (1, .ref 29)]) (st2 := [.ref 96, .ref 29]) (w3 := w37) rfl rfl ?_
        refine sx_RP.gt (k := 5) hI38 rfl rfl (by decide) (show _ = 57 from rfl) ?_
        rw [hT34.2.2.2]
        refine sx_RP.xC (k := 9) hI38 isA29 rfl rfl (by omega) rfl trivial (show _ = 60 from rfl) (fun w44 hI45 hs46 hv47 hr48 hj49 => ?_)
        have ho50 : Out 29 w37 w44 := Out.st Out.rf hs46 (by decide)
        have hC51 := hC39.out ho50
        have hT52 := hT34.out ho50
        have hB53 : rel w44 29 (((b).set 4 (nI (vaT n X (nP n X p)))).set 5 (nI (vaT n X (wtT n X (nP n X (nP n X p)) 108 1 999).2))) := hB41.sFi (k := 9) (by decide) hs46 hv47 hr48 hj49
        have hO54 := hO42.tr ho50.offT
        refine sx_RP.step (pc2 := 61) (ls2 := [(0, .ref 96), (1, .ref 29)]) (st2 := [.ref 96]) (w3 := w44) rfl rfl ?_
        refine sx_RP.callp (as2 := [.ref 96]) (rest2 := []) rfl rfl (sx_inv_v2 (mi := 110) (k := 29) (st := [.ref 96]) (w := w44) rfl rfl hI45.1.o96 rfl rfl rfl) rfl rfl rfl (X94 hI45 hC51 hT52.2.2.1 (beT_le hp40)) (show _ = 64 from rfl) ?_
        rintro r4 w58 ⟨⟨rfl, hT55, h156⟩, hI59, hs57⟩
        show sx_RP _ _ _ _ _ [] _ _
        have hT64 : TK' n X (nP n X ((wtT n X (nP n X (nP n X p)) 108 1 999).2)) w58 := hT55
        have hC60 := hC51.same h156 (ia_of (hs57 97 (by decide)))
        have hp61 : nP n X ((wtT n X (nP n X (nP n X p)) 108 1 999).2) ≤ n := nP_le hp40
        have hB62 := hB53.same hI45 isA29 (fun a h1 h2 => hs57 a (by omega))
        have hO63 := hO54.tr hs57.offT
        refine sx_RP.step (pc2 := 65) (ls2 := [(0, .ref 96), (1, .ref 29)]) (st2 := [.ref 96]) (w3 := w58) rfl rfl ?_
        refine sx_RP.step (pc2 := 67) (ls2 := [(0, .ref 96), (1, .ref 29)]) (st2 := [.float 111, .ref 96]) (w3 := w58) rfl rfl ?_
        rcases Bool.eq_false_or_eq_true (wdT n X (nP n X ((wtT n X (nP n X (nP n X p)) 108 1 999).2)) (111 : UInt32)) with c65 | c65
        · refine sx_RP.cu (as := [.ref 96, .float 111]) (rest2 := []) (st3 := [.int 1]) rfl rfl (sx_inv_v2 (mi := 110) (k := 52) (st := [.float 111, .ref 96]) (w := w58) rfl rfl hI59.1.o96 rfl rfl rfl) rfl rfl (x101t (k := (111 : UInt32)) (m := 6) hI59 hC60 hT64 hp61 (by decide) rfl (by decide) c65) rfl ?_
          refine sx_RP.step (pc2 := 73) (ls2 := [(0, .ref 96), (1, .ref 29)]) (st2 := []) (w3 := w58) rfl rfl ?_
          refine sx_RP.step (pc2 := 74) (ls2 := [(0, .ref 96), (1, .ref 29)]) (st2 := [.ref 96]) (w3 := w58) rfl rfl ?_
          refine sx_RP.step (pc2 := 76) (ls2 := [(0, .ref 96), (1, .ref 29)]) (st2 := [.float 111, .ref 96]) (w3 := w58) rfl rfl ?_
          refine sx_RP.step (pc2 := 77) (ls2 := [(0, .ref 96), (1, .ref 29)]) (st2 := [.int 1, .float 111, .ref 96]) (w3 := w58) rfl rfl ?_
          refine sx_RP.step (pc2 := 79) (ls2 := [(0, .ref 96), (1, .ref 29)]) (st2 := [.int 99, .int 1, .float 111, .ref 96]) (w3 := w58) rfl rfl ?_
          refine sx_RP.callp (as2 := [.ref 96, .float 111, .int 1, .int 99]) (rest2 := []) rfl rfl (sx_inv_v2 (mi := 110) (k := 90) (st := [.int 99, .int 1, .float 111, .ref 96]) (w := w58) rfl rfl hI59.1.o96 rfl rfl rfl) rfl rfl rfl (X108 (k := 111) (m := 6) (lo := 1) (hi := 99) hI59 hC60 hT64 hp61 (by decide) rfl (by decide) (by decide) (by decide)) (show _ = 82 from rfl) ?_
          rintro r4 w69 ⟨⟨rfl, hT66, h167⟩, hI70, hs68⟩
          show sx_RP _ _ _ _ _ [.int (b01 (wtT n X (nP n X ((wtT n X (nP n X (nP n X p)) 108 1 999).2)) 111 1 99).1)] _ _
          have hC71 := hC60.same h167 (ia_of (hs68 97 (by decide)))
          have hp72 : (wtT n X (nP n X ((wtT n X (nP n X (nP n X p)) 108 1 999).2)) 111 1 99).2 ≤ n := wtT_le hp61
          have hB73 := hB62.same hI59 isA29 (fun a h1 h2 => hs68 a (by omega))
          have hO74 := hO63.tr hs68.offT
          refine sx_RP.br (p1 := 87) (l1 := [(0, .ref 96), (1, .ref 29)]) (s1 := []) (v1 := w69) (p2 := 85) (l2 := [(0, .ref 96), (1, .ref 29)]) (s2 := []) (v2 := w69) rfl rfl (fun q75 => ?_) (fun q75 => ?_)
          · replace q75 := of_decide_eq_true q75
            refine sx_RP.step (pc2 := 88) (ls2 := [(0, .ref 96), (1, .ref 29)]) (st2 := [.ref 29]) (w3 := w69) rfl rfl ?_
            refine sx_RP.step (pc2 := 89) (ls2 := [(0, .ref 96), (1, .ref 29)]) (st2 := [.ref 96, .ref 29]) (w3 := w69) rfl rfl ?_
            refine sx_RP.gt (k := 5) hI70 rfl rfl (by decide) (show _ = 92 from rfl) ?_
            rw [hT66.2.2.2]
            refine sx_RP.xC (k := 10) hI70 isA29 rfl rfl (by omega) rfl trivial (show _ = 95 from rfl) (fun w76 hI77 hs78 hv79 hr80 hj81 => ?_)
            have ho82 : Out 29 w69 w76 := Out.st Out.rf hs78 (by decide)
            have hC83 := hC71.out ho82
            have hT84 := hT66.out ho82
            have hB85 : rel w76 29 ((((b).set 4 (nI (vaT n X (nP n X p)))).set 5 (nI (vaT n X (wtT n X (nP n X (nP n X p)) 108 1 999).2))).set 6 (nI (vaT n X (wtT n X (nP n X ((wtT n X (nP n X (nP n X p)) 108 1 999).2)) 111 1 99).2))) := hB73.sFi (k := 10) (by decide) hs78 hv79 hr80 hj81
            have hO86 := hO74.tr ho82.offT
            refine sx_RP.step (pc2 := 96) (ls2 := [(0, .ref 96), (1, .ref 29)]) (st2 := [.ref 96]) (w3 := w76) rfl rfl ?_
            refine sx_RP.callp (as2 := [.ref 96]) (rest2 := []) rfl rfl (sx_inv_v2 (mi := 110) (k := 29) (st := [.ref 96]) (w := w76) rfl rfl hI77.1.o96 rfl rfl rfl) rfl rfl rfl (X94 hI77 hC83 hT84.2.2.1 (beT_le hp72)) (show _ = 99 from rfl) ?_
            rintro r4 w90 ⟨⟨rfl, hT87, h188⟩, hI91, hs89⟩
            show sx_RP _ _ _ _ _ [] _ _
            have hT96 : TK' n X (nP n X ((wtT n X (nP n X ((wtT n X (nP n X (nP n X p)) 108 1 999).2)) 111 1 99).2)) w90 := hT87
            have hC92 := hC83.same h188 (ia_of (hs89 97 (by decide)))
            have hp93 : nP n X ((wtT n X (nP n X ((wtT n X (nP n X (nP n X p)) 108 1 999).2)) 111 1 99).2) ≤ n := nP_le hp72
            have hB94 := hB85.same hI77 isA29 (fun a h1 h2 => hs89 a (by omega))
            have hO95 := hO86.tr hs89.offT
            refine sx_RP.step (pc2 := 100) (ls2 := [(0, .ref 96), (1, .ref 29)]) (st2 := [.int 1]) (w3 := w90) rfl rfl ?_
            refine sx_RP.ret (r := (some (.int 1))) rfl rfl ?_
            rw [show breW n X p b = (true, nP n X ((wtT n X (nP n X ((wtT n X (nP n X (nP n X p)) 108 1 999).2)) 111 1 99).2), (((b).set 4 (nI (vaT n X (nP n X p)))).set 5 (nI (vaT n X (wtT n X (nP n X (nP n X p)) 108 1 999).2))).set 6 (nI (vaT n X (wtT n X (nP n X ((wtT n X (nP n X (nP n X p)) 108 1 999).2)) 111 1 99).2))) by unfold breW; rw [if_pos c11]; unfold bw1; rw [if_pos c33, if_pos (b01_t q43)]; unfold bw2; rw [if_pos c65, if_pos (b01_t q75)]]
            exact ⟨⟨rfl, hT96, fun _ => hB94⟩, hI91, hC92, hO95⟩
          · replace q75 := Decidable.not_not.mp (of_decide_eq_false q75)
            refine sx_RP.step (pc2 := 86) (ls2 := [(0, .ref 96), (1, .ref 29)]) (st2 := [.int 0]) (w3 := w69) rfl rfl ?_
            refine sx_RP.ret (r := (some (.int 0))) rfl rfl ?_
            rw [show breW n X p b = (false, (wtT n X (nP n X ((wtT n X (nP n X (nP n X p)) 108 1 999).2)) 111 1 99).2, ((b).set 4 (nI (vaT n X (nP n X p)))).set 5 (nI (vaT n X (wtT n X (nP n X (nP n X p)) 108 1 999).2))) by unfold breW; rw [if_pos c11]; unfold bw1; rw [if_pos c33, if_pos (b01_t q43)]; unfold bw2; rw [if_pos c65, if_neg (by rw [b01_f q75]; decide)]]
            exact ⟨⟨rfl, hT66, fun z => absurd (show false = true from z) (by decide)⟩, hI70, hC71, hO74⟩
        · refine sx_RP.cu (as := [.ref 96, .float 111]) (rest2 := []) (st3 := [.int 0]) rfl rfl (sx_inv_v2 (mi := 110) (k := 52) (st := [.float 111, .ref 96]) (w := w58) rfl rfl hI59.1.o96 rfl rfl rfl) rfl rfl (x101f (k := (111 : UInt32)) (m := 6) hI59 hC60 hT64 hp61 (by decide) rfl (by decide) c65) rfl ?_
          refine sx_RP.step (pc2 := 99) (ls2 := [(0, .ref 96), (1, .ref 29)]) (st2 := []) (w3 := w58) rfl rfl ?_
          refine sx_RP.step (pc2 := 100) (ls2 := [(0, .ref 96), (1, .ref 29)]) (st2 := [.int 1]) (w3 := w58) rfl rfl ?_
          refine sx_RP.ret (r := (some (.int 1))) rfl rfl ?_
          rw [show breW n X p b = (true, nP n X ((wtT n X (nP n X (nP n X p)) 108 1 999).2), ((b).set 4 (nI (vaT n X (nP n X p)))).set 5 (nI (vaT n X (wtT n X (nP n X (nP n X p)) 108 1 999).2))) by unfold breW; rw [if_pos c11]; unfold bw1; rw [if_pos c33, if_pos (b01_t q43)]; unfold bw2; rw [if_neg (by rw [c65]; decide)]]
          exact ⟨⟨rfl, hT64, fun _ => hB62⟩, hI59, hC60, hO63⟩
      · replace q43 := Decidable.not_not.mp (of_decide_eq_false q43)
        refine sx_RP.step (pc2 := 51) (ls2 := [(0, .ref 96), (1, .ref 29)]) (st2 := [.int 0]) (w3 := w37) rfl rfl ?_
        refine sx_RP.ret (r := (some (.int 0))) rfl rfl ?_
        rw [show breW n X p b = (false, (wtT n X (nP n X (nP n X p)) 108 1 999).2, (b).set 4 (nI (vaT n X (nP n X p)))) by unfold breW; rw [if_pos c11]; unfold bw1; rw [if_pos c33, if_neg (by rw [b01_f q43]; decide)]]
        exact ⟨⟨rfl, hT34, fun z => absurd (show false = true from z) (by decide)⟩, hI38, hC39, hO42⟩
    · refine sx_RP.cu (as := [.ref 96, .float 108]) (rest2 := []) (st3 := [.int 0]) rfl rfl (sx_inv_v2 (mi := 110) (k := 52) (st := [.float 108, .ref 96]) (w := w26) rfl rfl hI27.1.o96 rfl rfl rfl) rfl rfl (x101f (k := (108 : UInt32)) (m := 6) hI27 hC28 hT32 hp29 (by decide) rfl (by decide) c33) rfl ?_
      refine sx_RP.step (pc2 := 64) (ls2 := [(0, .ref 96), (1, .ref 29)]) (st2 := []) (w3 := w26) rfl rfl ?_
      refine sx_RP.step (pc2 := 65) (ls2 := [(0, .ref 96), (1, .ref 29)]) (st2 := [.ref 96]) (w3 := w26) rfl rfl ?_
      refine sx_RP.step (pc2 := 67) (ls2 := [(0, .ref 96), (1, .ref 29)]) (st2 := [.float 111, .ref 96]) (w3 := w26) rfl rfl ?_
      rcases Bool.eq_false_or_eq_true (wdT n X (nP n X (nP n X p)) (111 : UInt32)) with c97 | c97
      · refine sx_RP.cu (as := [.ref 96, .float 111]) (rest2 := []) (st3 := [.int 1]) rfl rfl (sx_inv_v2 (mi := 110) (k := 52) (st := [.float 111, .ref 96]) (w := w26) rfl rfl hI27.1.o96 rfl rfl rfl) rfl rfl (x101t (k := (111 : UInt32)) (m := 6) hI27 hC28 hT32 hp29 (by decide) rfl (by decide) c97) rfl ?_
        refine sx_RP.step (pc2 := 73) (ls2 := [(0, .ref 96), (1, .ref 29)]) (st2 := []) (w3 := w26) rfl rfl ?_
        refine sx_RP.step (pc2 := 74) (ls2 := [(0, .ref 96), (1, .ref 29)]) (st2 := [.ref 96]) (w3 := w26) rfl rfl ?_
        refine sx_RP.step (pc2 := 76) (ls2 := [(0, .ref 96), (1, .ref 29)]) (st2 := [.float 111, .ref 96]) (w3 := w26) rfl rfl ?_
        refine sx_RP.step (pc2 := 77) (ls2 := [(0, .ref 96), (1, .ref 29)]) (st2 := [.int 1, .float 111, .ref 96]) (w3 := w26) rfl rfl ?_
        refine sx_RP.step (pc2 := 79) (ls2 := [(0, .ref 96), (1, .ref 29)]) (st2 := [.int 99, .int 1, .float 111, .ref 96]) (w3 := w26) rfl rfl ?_
        refine sx_RP.callp (as2 := [.ref 96, .float 111, .int 1, .int 99]) (rest2 := []) rfl rfl (sx_inv_v2 (mi := 110) (k := 90) (st := [.int 99, .int 1, .float 111, .ref 96]) (w := w26) rfl rfl hI27.1.o96 rfl rfl rfl) rfl rfl rfl (X108 (k := 111) (m := 6) (lo := 1) (hi := 99) hI27 hC28 hT32 hp29 (by decide) rfl (by decide) (by decide) (by decide)) (show _ = 82 from rfl) ?_
        rintro r4 w101 ⟨⟨rfl, hT98, h199⟩, hI102, hs100⟩
        show sx_RP _ _ _ _ _ [.int (b01 (wtT n X (nP n X (nP n X p)) 111 1 99).1)] _ _
        have hC103 := hC28.same h199 (ia_of (hs100 97 (by decide)))
        have hp104 : (wtT n X (nP n X (nP n X p)) 111 1 99).2 ≤ n := wtT_le hp29
        have hB105 := hB30.same hI27 isA29 (fun a h1 h2 => hs100 a (by omega))
        have hO106 := hO31.tr hs100.offT
        refine sx_RP.br (p1 := 87) (l1 := [(0, .ref 96), (1, .ref 29)]) (s1 := []) (v1 := w101) (p2 := 85) (l2 := [(0, .ref 96), (1, .ref 29)]) (s2 := []) (v2 := w101) rfl rfl (fun q107 => ?_) (fun q107 => ?_)
        · replace q107 := of_decide_eq_true q107
          refine sx_RP.step (pc2 := 88) (ls2 := [(0, .ref 96), (1, .ref 29)]) (st2 := [.ref 29]) (w3 := w101) rfl rfl ?_
          refine sx_RP.step (pc2 := 89) (ls2 := [(0, .ref 96), (1, .ref 29)]) (st2 := [.ref 96, .ref 29]) (w3 := w101) rfl rfl ?_
          refine sx_RP.gt (k := 5) hI102 rfl rfl (by decide) (show _ = 92 from rfl) ?_
          rw [hT98.2.2.2]
          refine sx_RP.xC (k := 10) hI102 isA29 rfl rfl (by omega) rfl trivial (show _ = 95 from rfl) (fun w108 hI109 hs110 hv111 hr112 hj113 => ?_)
          have ho114 : Out 29 w101 w108 := Out.st Out.rf hs110 (by decide)
          have hC115 := hC103.out ho114
          have hT116 := hT98.out ho114
          have hB117 : rel w108 29 (((b).set 4 (nI (vaT n X (nP n X p)))).set 6 (nI (vaT n X (wtT n X (nP n X (nP n X p)) 111 1 99).2))) := hB105.sFi (k := 10) (by decide) hs110 hv111 hr112 hj113
          have hO118 := hO106.tr ho114.offT
          refine sx_RP.step (pc2 := 96) (ls2 := [(0, .ref 96), (1, .ref 29)]) (st2 := [.ref 96]) (w3 := w108) rfl rfl ?_
          refine sx_RP.callp (as2 := [.ref 96]) (rest2 := []) rfl rfl (sx_inv_v2 (mi := 110) (k := 29) (st := [.ref 96]) (w := w108) rfl rfl hI109.1.o96 rfl rfl rfl) rfl rfl rfl (X94 hI109 hC115 hT116.2.2.1 (beT_le hp104)) (show _ = 99 from rfl) ?_
          rintro r4 w122 ⟨⟨rfl, hT119, h1120⟩, hI123, hs121⟩
          show sx_RP _ _ _ _ _ [] _ _
          have hT128 : TK' n X (nP n X ((wtT n X (nP n X (nP n X p)) 111 1 99).2)) w122 := hT119
          have hC124 := hC115.same h1120 (ia_of (hs121 97 (by decide)))
          have hp125 : nP n X ((wtT n X (nP n X (nP n X p)) 111 1 99).2) ≤ n := nP_le hp104
          have hB126 := hB117.same hI109 isA29 (fun a h1 h2 => hs121 a (by omega))
          have hO127 := hO118.tr hs121.offT
          refine sx_RP.step (pc2 := 100) (ls2 := [(0, .ref 96), (1, .ref 29)]) (st2 := [.int 1]) (w3 := w122) rfl rfl ?_
          refine sx_RP.ret (r := (some (.int 1))) rfl rfl ?_
          rw [show breW n X p b = (true, nP n X ((wtT n X (nP n X (nP n X p)) 111 1 99).2), ((b).set 4 (nI (vaT n X (nP n X p)))).set 6 (nI (vaT n X (wtT n X (nP n X (nP n X p)) 111 1 99).2))) by unfold breW; rw [if_pos c11]; unfold bw1; rw [if_neg (by rw [c33]; decide)]; unfold bw2; rw [if_pos c97, if_pos (b01_t q107)]]
          exact ⟨⟨rfl, hT128, fun _ => hB126⟩, hI123, hC124, hO127⟩
        · replace q107 := Decidable.not_not.mp (of_decide_eq_false q107)
          refine sx_RP.step (pc2 := 86) (ls2 := [(0, .ref 96), (1, .ref 29)]) (st2 := [.int 0]) (w3 := w101) rfl rfl ?_
          refine sx_RP.ret (r := (some (.int 0))) rfl rfl ?_
          rw [show breW n X p b = (false, (wtT n X (nP n X (nP n X p)) 111 1 99).2, (b).set 4 (nI (vaT n X (nP n X p)))) by unfold breW; rw [if_pos c11]; unfold bw1; rw [if_neg (by rw [c33]; decide)]; unfold bw2; rw [if_pos c97, if_neg (by rw [b01_f q107]; decide)]]
          exact ⟨⟨rfl, hT98, fun z => absurd (show false = true from z) (by decide)⟩, hI102, hC103, hO106⟩
      · refine sx_RP.cu (as := [.ref 96, .float 111]) (rest2 := []) (st3 := [.int 0]) rfl rfl (sx_inv_v2 (mi := 110) (k := 52) (st := [.float 111, .ref 96]) (w := w26) rfl rfl hI27.1.o96 rfl rfl rfl) rfl rfl (x101f (k := (111 : UInt32)) (m := 6) hI27 hC28 hT32 hp29 (by decide) rfl (by decide) c97) rfl ?_
        refine sx_RP.step (pc2 := 99) (ls2 := [(0, .ref 96), (1, .ref 29)]) (st2 := []) (w3 := w26) rfl rfl ?_
        refine sx_RP.step (pc2 := 100) (ls2 := [(0, .ref 96), (1, .ref 29)]) (st2 := [.int 1]) (w3 := w26) rfl rfl ?_
        refine sx_RP.ret (r := (some (.int 1))) rfl rfl ?_
        rw [show breW n X p b = (true, nP n X (nP n X p), (b).set 4 (nI (vaT n X (nP n X p)))) by unfold breW; rw [if_pos c11]; unfold bw1; rw [if_neg (by rw [c33]; decide)]; unfold bw2; rw [if_neg (by rw [c97]; decide)]]
        exact ⟨⟨rfl, hT32, fun _ => hB30⟩, hI27, hC28, hO31⟩
  · refine sx_RP.cu (as := [.ref 96, .int 0, .int 999999]) (rest2 := []) (st3 := [.int 0]) rfl rfl (sx_inv_v2 (mi := 110) (k := 66) (st := [.int 999999, .int 0, .ref 96]) (w := w4) rfl rfl hI5.1.o96 rfl rfl rfl) rfl rfl (x103f (lo := 0) (hi := 999999) hI5 hC6 hT10 (by omega) (by omega) c11) rfl ?_
    refine sx_RP.step (pc2 := 14) (ls2 := [(0, .ref 96), (1, .ref 29)]) (st2 := []) (w3 := w4) rfl rfl ?_
    refine sx_RP.step (pc2 := 15) (ls2 := [(0, .ref 96), (1, .ref 29)]) (st2 := [.int 0]) (w3 := w4) rfl rfl ?_
    refine sx_RP.ret (r := (some (.int 0))) rfl rfl ?_
    rw [show breW n X p b = (false, nP n X p, b) by unfold breW; rw [if_neg (by rw [c11]; decide)]]
    exact ⟨⟨rfl, hT10, fun z => absurd (show false = true from z) (by decide)⟩, hI5, hC6, hO9⟩
