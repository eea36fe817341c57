-- safety: the class, second half
set_option maxRecDepth 20000 in
set_option maxHeartbeats 4000000 in
theorem s39B {xs : Option (List Int32)} {d : Nat} {w w0 : List sx_C} {n : Nat} (hn : n ≤ 60) (hI : WI w) (hE : EC w0 w) {j : Nat} (hj : j ≤ 60) (l : Int32) (kk : ∀ (w4 : List sx_C) (ul : Int32), WI w4 → EC w0 w4 → j + 1 ≤ 60 → sx_RP xs (d + 7) 39 39 [(0, .ref 0), (1, .int (nI n)), (2, .int ul), (3, .int (nI (j + 1)))] [] w4 (fun r w2 => (∃ v : Int32, r = some (.int v)) ∧ WI w2 ∧ EC w0 w2)) : sx_RP xs (d + 7) 39 39 [(0, .ref 0), (1, .int (nI n)), (2, .int l), (3, .int (nI j))] [] w (fun r w2 => (∃ v : Int32, r = some (.int v)) ∧ WI w2 ∧ EC w0 w2) := by
  refine sx_RP.step (pc2 := 40) (ls2 := [(0, .ref 0), (1, .int (nI n)), (2, .int l), (3, .int (nI j))]) (st2 := [.int (nI j)]) (w3 := w) rfl rfl ?_
  refine sx_RP.step (pc2 := 41) (ls2 := [(0, .ref 0), (1, .int (nI n)), (2, .int l), (3, .int (nI j))]) (st2 := [.int (nI n), .int (nI j)]) (w3 := w) rfl rfl ?_
  refine sx_RP.br (p1 := 60) (l1 := [(0, .ref 0), (1, .int (nI n)), (2, .int l), (3, .int (nI j))]) (s1 := []) (v1 := w) (p2 := 44) (l2 := [(0, .ref 0), (1, .int (nI n)), (2, .int l), (3, .int (nI j))]) (s2 := []) (v2 := w) rfl rfl (fun q1 => ?_) (fun q1 => ?_)
  · replace q1 := of_decide_eq_true q1
    replace q1 := (nI_leI (a := n) (b := j) (by omega) (by omega)).mp q1
    refine sx_RP.step (pc2 := 61) (ls2 := [(0, .ref 0), (1, .int (nI n)), (2, .int l), (3, .int (nI j))]) (st2 := [.int l]) (w3 := w) rfl rfl ?_
    refine sx_RP.ret (r := (some (.int l))) rfl rfl ?_
    exact ⟨⟨_, rfl⟩, hI, hE⟩
  · replace q1 := of_decide_eq_false q1
    replace q1 := mt (nI_leI (a := n) (b := j) (by omega) (by omega)).mpr q1
    refine sx_RP.step (pc2 := 45) (ls2 := [(0, .ref 0), (1, .int (nI n)), (2, .int l), (3, .int (nI j))]) (st2 := [.int l]) (w3 := w) rfl rfl ?_
    refine sx_RP.step (pc2 := 46) (ls2 := [(0, .ref 0), (1, .int (nI n)), (2, .int l), (3, .int (nI j))]) (st2 := [.ref 0, .int l]) (w3 := w) rfl rfl ?_
    refine sx_RP.gf (v := .ref 1) rfl rfl hI.1.o0 rfl rfl (show _ = 49 from rfl) ?_
    refine sx_RP.callp (as2 := [.ref 1]) (rest2 := [.int l]) rfl rfl (sx_inv_v2 (mi := 39) (k := 166) (st := [.ref 1, .int l]) (w := w) rfl rfl (hI.1.oC (Or.inl rfl)) rfl rfl rfl) rfl rfl rfl (s41 hI (Or.inl rfl)) (show _ = 52 from rfl) ?_
    rintro r4 w3 ⟨⟨v2, rfl⟩, hI4, hE6⟩
    have hE5 := hE.tr hE6
    show sx_RP _ _ _ _ _ [.int v2, .int l] _ _
    refine sx_RP.step (pc2 := 53) (ls2 := [(0, .ref 0), (1, .int (nI n)), (2, .int l), (3, .int (nI j))]) (st2 := [.int (l + v2)]) (w3 := w3) rfl rfl ?_
    refine sx_RP.step (pc2 := 54) (ls2 := [(2, .int (l + v2)), (0, .ref 0), (1, .int (nI n)), (3, .int (nI j))]) (st2 := []) (w3 := w3) rfl rfl ?_
    refine sx_RP.step (pc2 := 57) (ls2 := [(3, .int ((nI j) + 1)), (2, .int (l + v2)), (0, .ref 0), (1, .int (nI n))]) (st2 := []) (w3 := w3) rfl rfl ?_
    rw [nI_1 j]
    refine sx_RP.step (pc2 := 39) (ls2 := [(3, .int (nI (j + 1))), (2, .int (l + v2)), (0, .ref 0), (1, .int (nI n))]) (st2 := []) (w3 := w3) rfl rfl ?_
    exact sx_RP.ls (sx_lr.cons rfl (sx_lr.cons rfl (sx_lr.cons rfl (sx_lr.cons rfl sx_lr.nil)))) (kk w3 (l + v2) hI4 hE5 (by omega))
set_option maxRecDepth 20000 in
set_option maxHeartbeats 4000000 in
theorem s39L {xs : Option (List Int32)} {d : Nat} {w0 : List sx_C} {n : Nat} (hn : n ≤ 60) : ∀ (fz j : Nat) (w : List sx_C) (l : Int32) , 60 ≤ j + fz * 1 → j ≤ 60 → WI w → EC w0 w → sx_RP xs (d + 7) 39 39 [(0, .ref 0), (1, .int (nI n)), (2, .int l), (3, .int (nI j))] [] w (fun r w2 => (∃ v : Int32, r = some (.int v)) ∧ WI w2 ∧ EC w0 w2)
  | 0, j, w, l, h, hj, hI, hE => s39B hn hI hE hj l  (fun w4 ul hI4 hE4 hlt  => absurd hlt (by omega)) 
  | fz + 1, j, w, l, h, hj, hI, hE => s39B hn hI hE hj l  (fun w4 ul hI4 hE4 hlt  => s39L hn  fz (j + 1) w4 ul (by omega) hlt hI4 hE4 ) 
set_option maxRecDepth 20000 in
set_option maxHeartbeats 4000000 in
theorem s39 {xs : Option (List Int32)} {d : Nat} {w : List sx_C} (hI : WI w) (a1 : Int32) : sx_RP xs (d + 7) 39 0 (lv_args 0 [.ref 0, .int a1]) [] w (fun r w2 => (∃ v : Int32, r = some (.int v)) ∧ WI w2 ∧ EC w w2) := by
  have hE : EC w w := EC.rf
  refine sx_RP.step (pc2 := 1) (ls2 := [(0, .ref 0), (1, .int a1)]) (st2 := [.int a1]) (w3 := w) rfl rfl ?_
  refine sx_RP.step (pc2 := 2) (ls2 := [(0, .ref 0), (1, .int a1)]) (st2 := [.int 1, .int a1]) (w3 := w) rfl rfl ?_
  refine sx_RP.step (pc2 := 4) (ls2 := [(0, .ref 0), (1, .int a1)]) (st2 := [.int 60, .int 1, .int a1]) (w3 := w) rfl rfl ?_
  rcases in_cases a1 1 60 (m := 1) (n := 60) rfl rfl (by decide) (by decide) with q1 | ⟨x2, hx3, hx4, rfl⟩
  · refine sx_RP.cu (as := [.int a1, .int 1, .int 60]) (rest2 := []) (st3 := [.int 0]) rfl rfl rfl rfl rfl (cx_8n q1) rfl ?_
    refine sx_RP.step (pc2 := 10) (ls2 := [(0, .ref 0), (1, .int a1)]) (st2 := []) (w3 := w) rfl rfl ?_
    refine sx_RP.step (pc2 := 11) (ls2 := [(0, .ref 0), (1, .int a1)]) (st2 := [.ref 0]) (w3 := w) rfl rfl ?_
    refine sx_RP.step (pc2 := 13) (ls2 := [(0, .ref 0), (1, .int a1)]) (st2 := [.int (-1000000001), .ref 0]) (w3 := w) rfl rfl ?_
    refine sx_RP.callp (as2 := [.ref 0, .int (-1000000001)]) (rest2 := []) rfl rfl (sx_inv_v2 (mi := 39) (k := 78) (st := [.int (-1000000001), .ref 0]) (w := w) rfl rfl hI.1.o0 rfl rfl rfl) rfl rfl rfl (s9_0 hI) (show _ = 16 from rfl) ?_
    rintro r4 w6 ⟨rfl, hI7, hE9⟩
    have hE8 := hE.tr hE9
    show sx_RP _ _ _ _ _ [.int (-1000000001)] _ _
    refine sx_RP.ret (r := (some (.int (-1000000001)))) rfl rfl ?_
    exact ⟨⟨_, rfl⟩, hI7, hE8⟩
  · refine sx_RP.cu (as := [.int (nI x2), .int 1, .int 60]) (rest2 := []) (st3 := [.int 1]) rfl rfl rfl rfl rfl (cx_8p ⟨nI_le (a := 1) hx3 (by omega), nI_le (b := 60) hx4 (by decide)⟩) rfl ?_
    refine sx_RP.step (pc2 := 17) (ls2 := [(0, .ref 0), (1, .int (nI x2))]) (st2 := []) (w3 := w) rfl rfl ?_
    refine sx_RP.step (pc2 := 18) (ls2 := [(0, .ref 0), (1, .int (nI x2))]) (st2 := [.ref 0]) (w3 := w) rfl rfl ?_
    refine sx_RP.gf (v := .ref 1) rfl rfl hI.1.o0 rfl rfl (show _ = 21 from rfl) ?_
    refine sx_RP.step (pc2 := 22) (ls2 := [(0, .ref 0), (1, .int (nI x2))]) (st2 := [.int (nI x2), .ref 1]) (w3 := w) rfl rfl ?_
    obtain ⟨x10, hx11, c12⟩ := p40 hI (Or.inl rfl) (nI x2)
    refine sx_RP.cu (as := [.ref 1, .int (nI x2)]) (rest2 := []) (st3 := [.int (nI x10)]) rfl rfl (sx_inv_v2 (mi := 39) (k := 163) (st := [.int (nI x2), .ref 1]) (w := w) rfl rfl (hI.1.oC (Or.inl rfl)) rfl rfl rfl) rfl rfl (c12) rfl ?_
    refine sx_RP.br (p1 := 35) (l1 := [(0, .ref 0), (1, .int (nI x2))]) (s1 := []) (v1 := w) (p2 := 28) (l2 := [(0, .ref 0), (1, .int (nI x2))]) (s2 := []) (v2 := w) rfl rfl (fun q13 => ?_) (fun q13 => ?_)
    · replace q13 := of_decide_eq_true q13
      replace q13 := mt (nI_eq (a := x10) (b := 0) (by omega) (by omega)).mpr q13
      refine sx_RP.step (pc2 := 36) (ls2 := [(0, .ref 0), (1, .int (nI x2))]) (st2 := [.int 0]) (w3 := w) rfl rfl ?_
      refine sx_RP.step (pc2 := 37) (ls2 := [(2, .int 0), (0, .ref 0), (1, .int (nI x2))]) (st2 := []) (w3 := w) rfl rfl ?_
      refine sx_RP.step (pc2 := 38) (ls2 := [(2, .int 0), (0, .ref 0), (1, .int (nI x2))]) (st2 := [.int 0]) (w3 := w) rfl rfl ?_
      refine sx_RP.step (pc2 := 39) (ls2 := [(3, .int 0), (2, .int 0), (0, .ref 0), (1, .int (nI x2))]) (st2 := []) (w3 := w) rfl rfl ?_
      exact sx_RP.ls (sx_lr.cons rfl (sx_lr.cons rfl (sx_lr.cons rfl (sx_lr.cons rfl sx_lr.nil)))) (s39L (show x2 ≤ 60 by omega) 60 0 w 0 (by omega) (by omega) hI hE )
    · replace q13 := Decidable.not_not.mp (of_decide_eq_false q13)
      replace q13 := (nI_eq (a := x10) (b := 0) (by omega) (by omega)).mp q13
      refine sx_RP.step (pc2 := 29) (ls2 := [(0, .ref 0), (1, .int (nI x2))]) (st2 := [.ref 0]) (w3 := w) rfl rfl ?_
      refine sx_RP.step (pc2 := 31) (ls2 := [(0, .ref 0), (1, .int (nI x2))]) (st2 := [.int (-1000000005), .ref 0]) (w3 := w) rfl rfl ?_
      refine sx_RP.callp (as2 := [.ref 0, .int (-1000000005)]) (rest2 := []) rfl rfl (sx_inv_v2 (mi := 39) (k := 78) (st := [.int (-1000000005), .ref 0]) (w := w) rfl rfl hI.1.o0 rfl rfl rfl) rfl rfl rfl (s9_4 hI) (show _ = 34 from rfl) ?_
      rintro r4 w14 ⟨rfl, hI15, hE17⟩
      have hE16 := hE.tr hE17
      show sx_RP _ _ _ _ _ [.int (-1000000005)] _ _
      refine sx_RP.ret (r := (some (.int (-1000000005)))) rfl rfl ?_
      exact ⟨⟨_, rfl⟩, hI15, hE16⟩
set_option maxRecDepth 20000 in
set_option maxHeartbeats 4000000 in
theorem s49B {xs : Option (List Int32)} {d : Nat} {w w0 : List sx_C} {g n : Nat} (hg : g < 10) (hn : n ≤ 99) (hI : WI w) (hE : EC w0 w) {j : Nat} (hj : j ≤ 99) (kk : ∀ (w4 : List sx_C), WI w4 → EC w0 w4 → j + 1 ≤ 99 → sx_RP xs (d + 7) 49 59 [(0, .ref 0), (1, .int (nI g)), (2, .int (nI n)), (3, .int (nI (j + 1)))] [] w4 (fun r w2 => (∃ v : Int32, r = some (.int v)) ∧ WI w2 ∧ EC w0 w2)) : sx_RP xs (d + 7) 49 59 [(0, .ref 0), (1, .int (nI g)), (2, .int (nI n)), (3, .int (nI j))] [] w (fun r w2 => (∃ v : Int32, r = some (.int v)) ∧ WI w2 ∧ EC w0 w2) := by
  refine sx_RP.step (pc2 := 60) (ls2 := [(0, .ref 0), (1, .int (nI g)), (2, .int (nI n)), (3, .int (nI j))]) (st2 := [.int (nI j)]) (w3 := w) rfl rfl ?_
  refine sx_RP.step (pc2 := 61) (ls2 := [(0, .ref 0), (1, .int (nI g)), (2, .int (nI n)), (3, .int (nI j))]) (st2 := [.int (nI n), .int (nI j)]) (w3 := w) rfl rfl ?_
  refine sx_RP.br (p1 := 78) (l1 := [(0, .ref 0), (1, .int (nI g)), (2, .int (nI n)), (3, .int (nI j))]) (s1 := []) (v1 := w) (p2 := 64) (l2 := [(0, .ref 0), (1, .int (nI g)), (2, .int (nI n)), (3, .int (nI j))]) (s2 := []) (v2 := w) rfl rfl (fun q1 => ?_) (fun q1 => ?_)
  · replace q1 := of_decide_eq_true q1
    replace q1 := (nI_leI (a := n) (b := j) (by omega) (by omega)).mp q1
    refine sx_RP.step (pc2 := 79) (ls2 := [(0, .ref 0), (1, .int (nI g)), (2, .int (nI n)), (3, .int (nI j))]) (st2 := [.ref 0]) (w3 := w) rfl rfl ?_
    refine sx_RP.gf (v := .ref 29) rfl rfl hI.1.o0 rfl rfl (show _ = 82 from rfl) ?_
    refine sx_RP.gref (k := 2) (b := 31) hI (Or.inr (Or.inr rfl)) rfl rfl (by omega) (show _ = 85 from rfl) ?_
    refine sx_RP.step (pc2 := 86) (ls2 := [(0, .ref 0), (1, .int (nI g)), (2, .int (nI n)), (3, .int (nI j))]) (st2 := [.int (nI g), .ref 31]) (w3 := w) rfl rfl ?_
    refine sx_RP.ald (v := .ref (29 + 4 + g)) rfl (hI.1.aG (Or.inr (Or.inr rfl))) rfl (grA_at (show g < 10 by omega)) (show _ = 87 from rfl) ?_
    refine sx_RP.gg (k := 2) hI (gAd.of (Or.inr (Or.inr rfl)) (show g < 10 by omega)) rfl rfl (by decide) (show _ = 90 from rfl) ?_
    obtain ⟨x2, hx3, ex4⟩ : inR (fi w (29 + 4 + g) 2) 47 := hI.gk (k := 2) (gAd.of (Or.inr (Or.inr rfl)) (show g < 10 by omega)) (by decide)
    rw [ex4]
    refine sx_RP.ret (r := (some (.int (nI x2)))) rfl rfl ?_
    exact ⟨⟨_, rfl⟩, hI, hE⟩
  · replace q1 := of_decide_eq_false q1
    replace q1 := mt (nI_leI (a := n) (b := j) (by omega) (by omega)).mpr q1
    refine sx_RP.step (pc2 := 65) (ls2 := [(0, .ref 0), (1, .int (nI g)), (2, .int (nI n)), (3, .int (nI j))]) (st2 := [.ref 0]) (w3 := w) rfl rfl ?_
    refine sx_RP.gf (v := .ref 29) rfl rfl hI.1.o0 rfl rfl (show _ = 68 from rfl) ?_
    refine sx_RP.callp (as2 := [.ref 29]) (rest2 := []) rfl rfl (sx_inv_v2 (mi := 49) (k := 166) (st := [.ref 29]) (w := w) rfl rfl (hI.1.oC (Or.inr (Or.inr rfl))) rfl rfl rfl) rfl rfl rfl (s41 hI (Or.inr (Or.inr rfl))) (show _ = 71 from rfl) ?_
    rintro r4 w6 ⟨⟨v5, rfl⟩, hI7, hE9⟩
    have hE8 := hE.tr hE9
    show sx_RP _ _ _ _ _ [.int v5] _ _
    refine sx_RP.step (pc2 := 72) (ls2 := [(0, .ref 0), (1, .int (nI g)), (2, .int (nI n)), (3, .int (nI j))]) (st2 := []) (w3 := w6) rfl rfl ?_
    refine sx_RP.step (pc2 := 75) (ls2 := [(3, .int ((nI j) + 1)), (0, .ref 0), (1, .int (nI g)), (2, .int (nI n))]) (st2 := []) (w3 := w6) rfl rfl ?_
    rw [nI_1 j]
    refine sx_RP.step (pc2 := 59) (ls2 := [(3, .int (nI (j + 1))), (0, .ref 0), (1, .int (nI g)), (2, .int (nI n))]) (st2 := []) (w3 := w6) rfl rfl ?_
    exact sx_RP.ls (sx_lr.cons rfl (sx_lr.cons rfl (sx_lr.cons rfl (sx_lr.cons rfl sx_lr.nil)))) (kk w6 hI7 hE8 (by omega))
set_option maxRecDepth 20000 in
set_option maxHeartbeats 4000000 in
theorem s49L {xs : Option (List Int32)} {d : Nat} {w0 : List sx_C} {g n : Nat} (hg : g < 10) (hn : n ≤ 99) : ∀ (fz j : Nat) (w : List sx_C) , 99 ≤ j + fz * 1 → j ≤ 99 → WI w → EC w0 w → sx_RP xs (d + 7) 49 59 [(0, .ref 0), (1, .int (nI g)), (2, .int (nI n)), (3, .int (nI j))] [] w (fun r w2 => (∃ v : Int32, r = some (.int v)) ∧ WI w2 ∧ EC w0 w2)
  | 0, j, w, h, hj, hI, hE => s49B hg hn hI hE hj   (fun w4  hI4 hE4 hlt  => absurd hlt (by omega)) 
  | fz + 1, j, w, h, hj, hI, hE => s49B hg hn hI hE hj   (fun w4  hI4 hE4 hlt  => s49L hg hn  fz (j + 1) w4  (by omega) hlt hI4 hE4 ) 
set_option maxRecDepth 20000 in
set_option maxHeartbeats 4000000 in
theorem s49 {xs : Option (List Int32)} {d : Nat} {w : List sx_C} (hI : WI w) (a1 a2 : Int32) : sx_RP xs (d + 7) 49 0 (lv_args 0 [.ref 0, .int a1, .int a2]) [] w (fun r w2 => (∃ v : Int32, r = some (.int v)) ∧ WI w2 ∧ EC w w2) := by
  have hE : EC w w := EC.rf
  refine sx_RP.step (pc2 := 1) (ls2 := [(0, .ref 0), (1, .int a1), (2, .int a2)]) (st2 := [.ref 0]) (w3 := w) rfl rfl ?_
  refine sx_RP.gf (v := .ref 1) rfl rfl hI.1.o0 rfl rfl (show _ = 4 from rfl) ?_
  refine sx_RP.step (pc2 := 5) (ls2 := [(0, .ref 0), (1, .int a1), (2, .int a2)]) (st2 := [.int a1, .ref 1]) (w3 := w) rfl rfl ?_
  rcases p27 (xs := xs) hI (Or.inl rfl) a1 with c2 | ⟨⟨x3, hx4, rfl⟩, c2⟩
  · refine sx_RP.cu (as := [.ref 1, .int a1]) (rest2 := []) (st3 := [.int 0]) rfl rfl (sx_inv_v2 (mi := 49) (k := 120) (st := [.int a1, .ref 1]) (w := w) rfl rfl (hI.1.oC (Or.inl rfl)) rfl rfl rfl) rfl rfl (c2) rfl ?_
    refine sx_RP.step (pc2 := 21) (ls2 := [(0, .ref 0), (1, .int a1), (2, .int a2)]) (st2 := []) (w3 := w) rfl rfl ?_
    refine sx_RP.step (pc2 := 22) (ls2 := [(0, .ref 0), (1, .int a1), (2, .int a2)]) (st2 := [.ref 0]) (w3 := w) rfl rfl ?_
    refine sx_RP.step (pc2 := 24) (ls2 := [(0, .ref 0), (1, .int a1), (2, .int a2)]) (st2 := [.int (-1000000001), .ref 0]) (w3 := w) rfl rfl ?_
    refine sx_RP.callp (as2 := [.ref 0, .int (-1000000001)]) (rest2 := []) rfl rfl (sx_inv_v2 (mi := 49) (k := 78) (st := [.int (-1000000001), .ref 0]) (w := w) rfl rfl hI.1.o0 rfl rfl rfl) rfl rfl rfl (s9_0 hI) (show _ = 27 from rfl) ?_
    rintro r4 w6 ⟨rfl, hI7, hE9⟩
    have hE8 := hE.tr hE9
    show sx_RP _ _ _ _ _ [.int (-1000000001)] _ _
    refine sx_RP.ret (r := (some (.int (-1000000001)))) rfl rfl ?_
    exact ⟨⟨_, rfl⟩, hI7, hE8⟩
  · refine sx_RP.cu (as := [.ref 1, .int (nI x3)]) (rest2 := []) (st3 := [.int 1]) rfl rfl (sx_inv_v2 (mi := 49) (k := 120) (st := [.int (nI x3), .ref 1]) (w := w) rfl rfl (hI.1.oC (Or.inl rfl)) rfl rfl rfl) rfl rfl (c2) rfl ?_
    refine sx_RP.step (pc2 := 11) (ls2 := [(0, .ref 0), (1, .int (nI x3)), (2, .int a2)]) (st2 := []) (w3 := w) rfl rfl ?_
    refine sx_RP.step (pc2 := 12) (ls2 := [(0, .ref 0), (1, .int (nI x3)), (2, .int a2)]) (st2 := [.int a2]) (w3 := w) rfl rfl ?_
    refine sx_RP.step (pc2 := 13) (ls2 := [(0, .ref 0), (1, .int (nI x3)), (2, .int a2)]) (st2 := [.int 0, .int a2]) (w3 := w) rfl rfl ?_
    refine sx_RP.step (pc2 := 15) (ls2 := [(0, .ref 0), (1, .int (nI x3)), (2, .int a2)]) (st2 := [.int 99, .int 0, .int a2]) (w3 := w) rfl rfl ?_
    rcases in_cases a2 0 99 (m := 0) (n := 99) rfl rfl (by decide) (by decide) with q10 | ⟨x11, hx12, hx13, rfl⟩
    · refine sx_RP.cu (as := [.int a2, .int 0, .int 99]) (rest2 := []) (st3 := [.int 0]) rfl rfl rfl rfl rfl (cx_8n q10) rfl ?_
      refine sx_RP.step (pc2 := 21) (ls2 := [(0, .ref 0), (1, .int (nI x3)), (2, .int a2)]) (st2 := []) (w3 := w) rfl rfl ?_
      refine sx_RP.step (pc2 := 22) (ls2 := [(0, .ref 0), (1, .int (nI x3)), (2, .int a2)]) (st2 := [.ref 0]) (w3 := w) rfl rfl ?_
      refine sx_RP.step (pc2 := 24) (ls2 := [(0, .ref 0), (1, .int (nI x3)), (2, .int a2)]) (st2 := [.int (-1000000001), .ref 0]) (w3 := w) rfl rfl ?_
      refine sx_RP.callp (as2 := [.ref 0, .int (-1000000001)]) (rest2 := []) rfl rfl (sx_inv_v2 (mi := 49) (k := 78) (st := [.int (-1000000001), .ref 0]) (w := w) rfl rfl hI.1.o0 rfl rfl rfl) rfl rfl rfl (s9_0 hI) (show _ = 27 from rfl) ?_
      rintro r4 w15 ⟨rfl, hI16, hE18⟩
      have hE17 := hE.tr hE18
      show sx_RP _ _ _ _ _ [.int (-1000000001)] _ _
      refine sx_RP.ret (r := (some (.int (-1000000001)))) rfl rfl ?_
      exact ⟨⟨_, rfl⟩, hI16, hE17⟩
    · refine sx_RP.cu (as := [.int (nI x11), .int 0, .int 99]) (rest2 := []) (st3 := [.int 1]) rfl rfl rfl rfl rfl (cx_8p ⟨nI_le (a := 0) hx12 (by omega), nI_le (b := 99) hx13 (by decide)⟩) rfl ?_
      refine sx_RP.step (pc2 := 28) (ls2 := [(0, .ref 0), (1, .int (nI x3)), (2, .int (nI x11))]) (st2 := []) (w3 := w) rfl rfl ?_
      refine sx_RP.step (pc2 := 29) (ls2 := [(0, .ref 0), (1, .int (nI x3)), (2, .int (nI x11))]) (st2 := [.ref 0]) (w3 := w) rfl rfl ?_
      refine sx_RP.gf (v := .ref 1) rfl rfl hI.1.o0 rfl rfl (show _ = 32 from rfl) ?_
      refine sx_RP.step (pc2 := 33) (ls2 := [(0, .ref 0), (1, .int (nI x3)), (2, .int (nI x11))]) (st2 := [.int (nI x11), .ref 1]) (w3 := w) rfl rfl ?_
      obtain ⟨x19, hx20, c21⟩ := p40 hI (Or.inl rfl) (nI x11)
      refine sx_RP.cu (as := [.ref 1, .int (nI x11)]) (rest2 := []) (st3 := [.int (nI x19)]) rfl rfl (sx_inv_v2 (mi := 49) (k := 163) (st := [.int (nI x11), .ref 1]) (w := w) rfl rfl (hI.1.oC (Or.inl rfl)) rfl rfl rfl) rfl rfl (c21) rfl ?_
      refine sx_RP.br (p1 := 46) (l1 := [(0, .ref 0), (1, .int (nI x3)), (2, .int (nI x11))]) (s1 := []) (v1 := w) (p2 := 39) (l2 := [(0, .ref 0), (1, .int (nI x3)), (2, .int (nI x11))]) (s2 := []) (v2 := w) rfl rfl (fun q22 => ?_) (fun q22 => ?_)
      · replace q22 := of_decide_eq_true q22
        replace q22 := mt (nI_eq (a := x19) (b := 0) (by omega) (by omega)).mpr q22
        refine sx_RP.step (pc2 := 47) (ls2 := [(0, .ref 0), (1, .int (nI x3)), (2, .int (nI x11))]) (st2 := [.ref 0]) (w3 := w) rfl rfl ?_
        refine sx_RP.gf (v := .ref 29) rfl rfl hI.1.o0 rfl rfl (show _ = 50 from rfl) ?_
        refine sx_RP.step (pc2 := 51) (ls2 := [(0, .ref 0), (1, .int (nI x3)), (2, .int (nI x11))]) (st2 := [.ref 0, .ref 29]) (w3 := w) rfl rfl ?_
        refine sx_RP.gf (v := .ref 1) rfl rfl hI.1.o0 rfl rfl (show _ = 54 from rfl) ?_
        refine sx_RP.callp (as2 := [.ref 29, .ref 1]) (rest2 := []) rfl rfl (sx_inv_v2 (mi := 49) (k := 179) (st := [.ref 1, .ref 29]) (w := w) rfl rfl (hI.1.oC (Or.inr (Or.inr rfl))) rfl rfl rfl) rfl rfl rfl (s50 hI (Or.inr (Or.inr rfl)) (Or.inl rfl)) (show _ = 57 from rfl) ?_
        rintro r4 w23 ⟨rfl, hI24, hE26⟩
        have hE25 := hE.tr hE26
        show sx_RP _ _ _ _ _ [] _ _
        refine sx_RP.step (pc2 := 58) (ls2 := [(0, .ref 0), (1, .int (nI x3)), (2, .int (nI x11))]) (st2 := [.int 0]) (w3 := w23) rfl rfl ?_
        refine sx_RP.step (pc2 := 59) (ls2 := [(3, .int 0), (0, .ref 0), (1, .int (nI x3)), (2, .int (nI x11))]) (st2 := []) (w3 := w23) rfl rfl ?_
        exact sx_RP.ls (sx_lr.cons rfl (sx_lr.cons rfl (sx_lr.cons rfl (sx_lr.cons rfl sx_lr.nil)))) (s49L (show x3 < 10 by omega) (show x11 ≤ 99 by omega) 99 0 w23  (by omega) (by omega) hI24 hE25 )
      · replace q22 := Decidable.not_not.mp (of_decide_eq_false q22)
        replace q22 := (nI_eq (a := x19) (b := 0) (by omega) (by omega)).mp q22
        refine sx_RP.step (pc2 := 40) (ls2 := [(0, .ref 0), (1, .int (nI x3)), (2, .int (nI x11))]) (st2 := [.ref 0]) (w3 := w) rfl rfl ?_
        refine sx_RP.step (pc2 := 42) (ls2 := [(0, .ref 0), (1, .int (nI x3)), (2, .int (nI x11))]) (st2 := [.int (-1000000005), .ref 0]) (w3 := w) rfl rfl ?_
        refine sx_RP.callp (as2 := [.ref 0, .int (-1000000005)]) (rest2 := []) rfl rfl (sx_inv_v2 (mi := 49) (k := 78) (st := [.int (-1000000005), .ref 0]) (w := w) rfl rfl hI.1.o0 rfl rfl rfl) rfl rfl rfl (s9_4 hI) (show _ = 45 from rfl) ?_
        rintro r4 w27 ⟨rfl, hI28, hE30⟩
        have hE29 := hE.tr hE30
        show sx_RP _ _ _ _ _ [.int (-1000000005)] _ _
        refine sx_RP.ret (r := (some (.int (-1000000005)))) rfl rfl ?_
        exact ⟨⟨_, rfl⟩, hI28, hE29⟩
set_option maxRecDepth 20000 in
set_option maxHeartbeats 4000000 in
theorem s52B {xs : Option (List Int32)} {d : Nat} {w w0 : List sx_C} {g : Nat} (hg : g < 10) (hI : WI w) (hE : EC w0 w) {j : Nat} (hj : j ≤ 100) (kk : ∀ (w4 : List sx_C), WI w4 → EC w0 w4 → j + 1 ≤ 100 → sx_RP xs (d + 7) 52 65 [(0, .ref 0), (1, .int (nI g)), (2, .int (nI (j + 1)))] [] w4 (fun r w2 => (∃ v : Int32, r = some (.int v)) ∧ WI w2 ∧ EC w0 w2)) : sx_RP xs (d + 7) 52 65 [(0, .ref 0), (1, .int (nI g)), (2, .int (nI j))] [] w (fun r w2 => (∃ v : Int32, r = some (.int v)) ∧ WI w2 ∧ EC w0 w2) := by
  refine sx_RP.step (pc2 := 66) (ls2 := [(0, .ref 0), (1, .int (nI g)), (2, .int (nI j))]) (st2 := [.int (nI j)]) (w3 := w) rfl rfl ?_
  refine sx_RP.step (pc2 := 68) (ls2 := [(0, .ref 0), (1, .int (nI g)), (2, .int (nI j))]) (st2 := [.int 99, .int (nI j)]) (w3 := w) rfl rfl ?_
  refine sx_RP.br (p1 := 102) (l1 := [(0, .ref 0), (1, .int (nI g)), (2, .int (nI j))]) (s1 := []) (v1 := w) (p2 := 71) (l2 := [(0, .ref 0), (1, .int (nI g)), (2, .int (nI j))]) (s2 := []) (v2 := w) rfl rfl (fun q1 => ?_) (fun q1 => ?_)
  · replace q1 := of_decide_eq_true q1
    replace q1 := (nI_ltI (a := 99) (b := j) (by omega) (by omega)).mp q1
    refine sx_RP.step (pc2 := 103) (ls2 := [(0, .ref 0), (1, .int (nI g)), (2, .int (nI j))]) (st2 := [.ref 0]) (w3 := w) rfl rfl ?_
    refine sx_RP.step (pc2 := 105) (ls2 := [(0, .ref 0), (1, .int (nI g)), (2, .int (nI j))]) (st2 := [.int (-1000000004), .ref 0]) (w3 := w) rfl rfl ?_
    refine sx_RP.callp (as2 := [.ref 0, .int (-1000000004)]) (rest2 := []) rfl rfl (sx_inv_v2 (mi := 52) (k := 78) (st := [.int (-1000000004), .ref 0]) (w := w) rfl rfl hI.1.o0 rfl rfl rfl) rfl rfl rfl (s9_3 hI) (show _ = 108 from rfl) ?_
    rintro r4 w2 ⟨rfl, hI3, hE5⟩
    have hE4 := hE.tr hE5
    show sx_RP _ _ _ _ _ [.int (-1000000004)] _ _
    refine sx_RP.ret (r := (some (.int (-1000000004)))) rfl rfl ?_
    exact ⟨⟨_, rfl⟩, hI3, hE4⟩
  · replace q1 := of_decide_eq_false q1
    replace q1 := mt (nI_ltI (a := 99) (b := j) (by omega) (by omega)).mpr q1
    refine sx_RP.step (pc2 := 72) (ls2 := [(0, .ref 0), (1, .int (nI g)), (2, .int (nI j))]) (st2 := [.ref 0]) (w3 := w) rfl rfl ?_
    refine sx_RP.gf (v := .ref 29) rfl rfl hI.1.o0 rfl rfl (show _ = 75 from rfl) ?_
    refine sx_RP.callp (as2 := [.ref 29]) (rest2 := []) rfl rfl (sx_inv_v2 (mi := 52) (k := 166) (st := [.ref 29]) (w := w) rfl rfl (hI.1.oC (Or.inr (Or.inr rfl))) rfl rfl rfl) rfl rfl rfl (s41 hI (Or.inr (Or.inr rfl))) (show _ = 78 from rfl) ?_
    rintro r4 w7 ⟨⟨v6, rfl⟩, hI8, hE10⟩
    have hE9 := hE.tr hE10
    show sx_RP _ _ _ _ _ [.int v6] _ _
    refine sx_RP.step (pc2 := 79) (ls2 := [(0, .ref 0), (1, .int (nI g)), (2, .int (nI j))]) (st2 := []) (w3 := w7) rfl rfl ?_
    refine sx_RP.step (pc2 := 80) (ls2 := [(0, .ref 0), (1, .int (nI g)), (2, .int (nI j))]) (st2 := [.ref 0]) (w3 := w7) rfl rfl ?_
    refine sx_RP.gf (v := .ref 29) rfl rfl hI8.1.o0 rfl rfl (show _ = 83 from rfl) ?_
    refine sx_RP.gref (k := 2) (b := 31) hI8 (Or.inr (Or.inr rfl)) rfl rfl (by omega) (show _ = 86 from rfl) ?_
    refine sx_RP.step (pc2 := 87) (ls2 := [(0, .ref 0), (1, .int (nI g)), (2, .int (nI j))]) (st2 := [.int (nI g), .ref 31]) (w3 := w7) rfl rfl ?_
    refine sx_RP.ald (v := .ref (29 + 4 + g)) rfl (hI8.1.aG (Or.inr (Or.inr rfl))) rfl (grA_at (show g < 10 by omega)) (show _ = 88 from rfl) ?_
    refine sx_RP.gg (k := 5) hI8 (gAd.of (Or.inr (Or.inr rfl)) (show g < 10 by omega)) rfl rfl (by decide) (show _ = 91 from rfl) ?_
    obtain ⟨x11, hx12, ex13⟩ : inR (fi w7 (29 + 4 + g) 5) 1 := hI8.gk (k := 5) (gAd.of (Or.inr (Or.inr rfl)) (show g < 10 by omega)) (by decide)
    rw [ex13]
    refine sx_RP.br (p1 := 96) (l1 := [(0, .ref 0), (1, .int (nI g)), (2, .int (nI j))]) (s1 := []) (v1 := w7) (p2 := 94) (l2 := [(0, .ref 0), (1, .int (nI g)), (2, .int (nI j))]) (s2 := []) (v2 := w7) rfl rfl (fun q14 => ?_) (fun q14 => ?_)
    · replace q14 := of_decide_eq_true q14
      replace q14 := (nI_eq (a := x11) (b := 0) (by omega) (by omega)).mp q14
      refine sx_RP.step (pc2 := 99) (ls2 := [(2, .int ((nI j) + 1)), (0, .ref 0), (1, .int (nI g))]) (st2 := []) (w3 := w7) rfl rfl ?_
      rw [nI_1 j]
      refine sx_RP.step (pc2 := 65) (ls2 := [(2, .int (nI (j + 1))), (0, .ref 0), (1, .int (nI g))]) (st2 := []) (w3 := w7) rfl rfl ?_
      exact sx_RP.ls (sx_lr.cons rfl (sx_lr.cons rfl (sx_lr.cons rfl sx_lr.nil))) (kk w7 hI8 hE9 (by omega))
    · replace q14 := of_decide_eq_false q14
      replace q14 := mt (nI_eq (a := x11) (b := 0) (by omega) (by omega)).mpr q14
      refine sx_RP.step (pc2 := 95) (ls2 := [(0, .ref 0), (1, .int (nI g)), (2, .int (nI j))]) (st2 := [.int (nI j)]) (w3 := w7) rfl rfl ?_
      refine sx_RP.ret (r := (some (.int (nI j)))) rfl rfl ?_
      exact ⟨⟨_, rfl⟩, hI8, hE9⟩
set_option maxRecDepth 20000 in
set_option maxHeartbeats 4000000 in
theorem s52L {xs : Option (List Int32)} {d : Nat} {w0 : List sx_C} {g : Nat} (hg : g < 10) : ∀ (fz j : Nat) (w : List sx_C) , 100 ≤ j + fz * 1 → j ≤ 100 → WI w → EC w0 w → sx_RP xs (d + 7) 52 65 [(0, .ref 0), (1, .int (nI g)), (2, .int (nI j))] [] w (fun r w2 => (∃ v : Int32, r = some (.int v)) ∧ WI w2 ∧ EC w0 w2)
  | 0, j, w, h, hj, hI, hE => s52B hg hI hE hj   (fun w4  hI4 hE4 hlt  => absurd hlt (by omega)) 
  | fz + 1, j, w, h, hj, hI, hE => s52B hg hI hE hj   (fun w4  hI4 hE4 hlt  => s52L hg  fz (j + 1) w4  (by omega) hlt hI4 hE4 ) 
set_option maxRecDepth 20000 in
set_option maxHeartbeats 4000000 in
theorem s52 {xs : Option (List Int32)} {d : Nat} {w : List sx_C} (hI : WI w) (a1 : Int32) : sx_RP xs (d + 7) 52 0 (lv_args 0 [.ref 0, .int a1]) [] w (fun r w2 => (∃ v : Int32, r = some (.int v)) ∧ WI w2 ∧ EC w w2) := by
  have hE : EC w w := EC.rf
  refine sx_RP.step (pc2 := 1) (ls2 := [(0, .ref 0), (1, .int a1)]) (st2 := [.ref 0]) (w3 := w) rfl rfl ?_
  refine sx_RP.gf (v := .ref 1) rfl rfl hI.1.o0 rfl rfl (show _ = 4 from rfl) ?_
  refine sx_RP.step (pc2 := 5) (ls2 := [(0, .ref 0), (1, .int a1)]) (st2 := [.int a1, .ref 1]) (w3 := w) rfl rfl ?_
  rcases p27 (xs := xs) hI (Or.inl rfl) a1 with c2 | ⟨⟨x3, hx4, rfl⟩, c2⟩
  · refine sx_RP.cu (as := [.ref 1, .int a1]) (rest2 := []) (st3 := [.int 0]) rfl rfl (sx_inv_v2 (mi := 52) (k := 120) (st := [.int a1, .ref 1]) (w := w) rfl rfl (hI.1.oC (Or.inl rfl)) rfl rfl rfl) rfl rfl (c2) rfl ?_
    refine sx_RP.step (pc2 := 11) (ls2 := [(0, .ref 0), (1, .int a1)]) (st2 := []) (w3 := w) rfl rfl ?_
    refine sx_RP.step (pc2 := 12) (ls2 := [(0, .ref 0), (1, .int a1)]) (st2 := [.ref 0]) (w3 := w) rfl rfl ?_
    refine sx_RP.step (pc2 := 14) (ls2 := [(0, .ref 0), (1, .int a1)]) (st2 := [.int (-1000000001), .ref 0]) (w3 := w) rfl rfl ?_
    refine sx_RP.callp (as2 := [.ref 0, .int (-1000000001)]) (rest2 := []) rfl rfl (sx_inv_v2 (mi := 52) (k := 78) (st := [.int (-1000000001), .ref 0]) (w := w) rfl rfl hI.1.o0 rfl rfl rfl) rfl rfl rfl (s9_0 hI) (show _ = 17 from rfl) ?_
    rintro r4 w6 ⟨rfl, hI7, hE9⟩
    have hE8 := hE.tr hE9
    show sx_RP _ _ _ _ _ [.int (-1000000001)] _ _
    refine sx_RP.ret (r := (some (.int (-1000000001)))) rfl rfl ?_
    exact ⟨⟨_, rfl⟩, hI7, hE8⟩
  · refine sx_RP.cu (as := [.ref 1, .int (nI x3)]) (rest2 := []) (st3 := [.int 1]) rfl rfl (sx_inv_v2 (mi := 52) (k := 120) (st := [.int (nI x3), .ref 1]) (w := w) rfl rfl (hI.1.oC (Or.inl rfl)) rfl rfl rfl) rfl rfl (c2) rfl ?_
    refine sx_RP.step (pc2 := 18) (ls2 := [(0, .ref 0), (1, .int (nI x3))]) (st2 := []) (w3 := w) rfl rfl ?_
    refine sx_RP.step (pc2 := 19) (ls2 := [(0, .ref 0), (1, .int (nI x3))]) (st2 := [.ref 0]) (w3 := w) rfl rfl ?_
    refine sx_RP.gf (v := .ref 1) rfl rfl hI.1.o0 rfl rfl (show _ = 22 from rfl) ?_
    refine sx_RP.gref (k := 2) (b := 3) hI (Or.inl rfl) rfl rfl (by omega) (show _ = 25 from rfl) ?_
    refine sx_RP.step (pc2 := 26) (ls2 := [(0, .ref 0), (1, .int (nI x3))]) (st2 := [.int (nI x3), .ref 3]) (w3 := w) rfl rfl ?_
    refine sx_RP.ald (v := .ref (1 + 4 + x3)) rfl (hI.1.aG (Or.inl rfl)) rfl (grA_at (show x3 < 10 by omega)) (show _ = 27 from rfl) ?_
    refine sx_RP.gg (k := 5) hI (gAd.of (Or.inl rfl) (show x3 < 10 by omega)) rfl rfl (by decide) (show _ = 30 from rfl) ?_
    obtain ⟨x10, hx11, ex12⟩ : inR (fi w (1 + 4 + x3) 5) 1 := hI.gk (k := 5) (gAd.of (Or.inl rfl) (show x3 < 10 by omega)) (by decide)
    rw [ex12]
    refine sx_RP.br (p1 := 45) (l1 := [(0, .ref 0), (1, .int (nI x3))]) (s1 := []) (v1 := w) (p2 := 33) (l2 := [(0, .ref 0), (1, .int (nI x3))]) (s2 := []) (v2 := w) rfl rfl (fun q13 => ?_) (fun q13 => ?_)
    · replace q13 := of_decide_eq_true q13
      replace q13 := mt (nI_eq (a := x10) (b := 0) (by omega) (by omega)).mpr q13
      refine sx_RP.step (pc2 := 46) (ls2 := [(0, .ref 0), (1, .int (nI x3))]) (st2 := [.ref 0]) (w3 := w) rfl rfl ?_
      refine sx_RP.step (pc2 := 48) (ls2 := [(0, .ref 0), (1, .int (nI x3))]) (st2 := [.int (-1000000005), .ref 0]) (w3 := w) rfl rfl ?_
      refine sx_RP.callp (as2 := [.ref 0, .int (-1000000005)]) (rest2 := []) rfl rfl (sx_inv_v2 (mi := 52) (k := 78) (st := [.int (-1000000005), .ref 0]) (w := w) rfl rfl hI.1.o0 rfl rfl rfl) rfl rfl rfl (s9_4 hI) (show _ = 51 from rfl) ?_
      rintro r4 w14 ⟨rfl, hI15, hE17⟩
      have hE16 := hE.tr hE17
      show sx_RP _ _ _ _ _ [.int (-1000000005)] _ _
      refine sx_RP.ret (r := (some (.int (-1000000005)))) rfl rfl ?_
      exact ⟨⟨_, rfl⟩, hI15, hE16⟩
    · replace q13 := Decidable.not_not.mp (of_decide_eq_false q13)
      replace q13 := (nI_eq (a := x10) (b := 0) (by omega) (by omega)).mp q13
      refine sx_RP.step (pc2 := 34) (ls2 := [(0, .ref 0), (1, .int (nI x3))]) (st2 := [.ref 0]) (w3 := w) rfl rfl ?_
      refine sx_RP.gf (v := .ref 1) rfl rfl hI.1.o0 rfl rfl (show _ = 37 from rfl) ?_
      refine sx_RP.step (pc2 := 39) (ls2 := [(0, .ref 0), (1, .int (nI x3))]) (st2 := [.int 99, .ref 1]) (w3 := w) rfl rfl ?_
      obtain ⟨x18, hx19, c20⟩ := p40 hI (Or.inl rfl) 99
      refine sx_RP.cu (as := [.ref 1, .int 99]) (rest2 := []) (st3 := [.int (nI x18)]) rfl rfl (sx_inv_v2 (mi := 52) (k := 163) (st := [.int 99, .ref 1]) (w := w) rfl rfl (hI.1.oC (Or.inl rfl)) rfl rfl rfl) rfl rfl (c20) rfl ?_
      refine sx_RP.br (p1 := 52) (l1 := [(0, .ref 0), (1, .int (nI x3))]) (s1 := []) (v1 := w) (p2 := 45) (l2 := [(0, .ref 0), (1, .int (nI x3))]) (s2 := []) (v2 := w) rfl rfl (fun q21 => ?_) (fun q21 => ?_)
      · replace q21 := of_decide_eq_true q21
        replace q21 := mt (nI_eq (a := x18) (b := 0) (by omega) (by omega)).mpr q21
        refine sx_RP.step (pc2 := 53) (ls2 := [(0, .ref 0), (1, .int (nI x3))]) (st2 := [.ref 0]) (w3 := w) rfl rfl ?_
        refine sx_RP.gf (v := .ref 29) rfl rfl hI.1.o0 rfl rfl (show _ = 56 from rfl) ?_
        refine sx_RP.step (pc2 := 57) (ls2 := [(0, .ref 0), (1, .int (nI x3))]) (st2 := [.ref 0, .ref 29]) (w3 := w) rfl rfl ?_
        refine sx_RP.gf (v := .ref 1) rfl rfl hI.1.o0 rfl rfl (show _ = 60 from rfl) ?_
        refine sx_RP.callp (as2 := [.ref 29, .ref 1]) (rest2 := []) rfl rfl (sx_inv_v2 (mi := 52) (k := 179) (st := [.ref 1, .ref 29]) (w := w) rfl rfl (hI.1.oC (Or.inr (Or.inr rfl))) rfl rfl rfl) rfl rfl rfl (s50 hI (Or.inr (Or.inr rfl)) (Or.inl rfl)) (show _ = 63 from rfl) ?_
        rintro r4 w22 ⟨rfl, hI23, hE25⟩
        have hE24 := hE.tr hE25
        show sx_RP _ _ _ _ _ [] _ _
        refine sx_RP.step (pc2 := 64) (ls2 := [(0, .ref 0), (1, .int (nI x3))]) (st2 := [.int 1]) (w3 := w22) rfl rfl ?_
        refine sx_RP.step (pc2 := 65) (ls2 := [(2, .int 1), (0, .ref 0), (1, .int (nI x3))]) (st2 := []) (w3 := w22) rfl rfl ?_
        exact sx_RP.ls (sx_lr.cons rfl (sx_lr.cons rfl (sx_lr.cons rfl sx_lr.nil))) (s52L (show x3 < 10 by omega) 100 1 w22  (by omega) (by omega) hI23 hE24 )
      · replace q21 := Decidable.not_not.mp (of_decide_eq_false q21)
        replace q21 := (nI_eq (a := x18) (b := 0) (by omega) (by omega)).mp q21
        refine sx_RP.step (pc2 := 46) (ls2 := [(0, .ref 0), (1, .int (nI x3))]) (st2 := [.ref 0]) (w3 := w) rfl rfl ?_
        refine sx_RP.step (pc2 := 48) (ls2 := [(0, .ref 0), (1, .int (nI x3))]) (st2 := [.int (-1000000005), .ref 0]) (w3 := w) rfl rfl ?_
        refine sx_RP.callp (as2 := [.ref 0, .int (-1000000005)]) (rest2 := []) rfl rfl (sx_inv_v2 (mi := 52) (k := 78) (st := [.int (-1000000005), .ref 0]) (w := w) rfl rfl hI.1.o0 rfl rfl rfl) rfl rfl rfl (s9_4 hI) (show _ = 51 from rfl) ?_
        rintro r4 w26 ⟨rfl, hI27, hE29⟩
        have hE28 := hE.tr hE29
        show sx_RP _ _ _ _ _ [.int (-1000000005)] _ _
        refine sx_RP.ret (r := (some (.int (-1000000005)))) rfl rfl ?_
        exact ⟨⟨_, rfl⟩, hI27, hE28⟩
set_option maxRecDepth 20000 in
set_option maxHeartbeats 4000000 in
theorem s53B {xs : Option (List Int32)} {d : Nat} {w w0 : List sx_C} (hI : WI w) (hE : EC w0 w) {j : Nat} (hj : j ≤ 100) (l : Int32) (kk : ∀ (w4 : List sx_C) (ul : Int32), WI w4 → EC w0 w4 → j + 1 ≤ 100 → sx_RP xs (d + 7) 53 40 [(0, .ref 0), (1, .int ul), (2, .int (nI (j + 1)))] [] w4 (fun r w2 => (∃ v : Int32, r = some (.int v)) ∧ WI w2 ∧ EC w0 w2)) : sx_RP xs (d + 7) 53 40 [(0, .ref 0), (1, .int l), (2, .int (nI j))] [] w (fun r w2 => (∃ v : Int32, r = some (.int v)) ∧ WI w2 ∧ EC w0 w2) := by
  refine sx_RP.step (pc2 := 41) (ls2 := [(0, .ref 0), (1, .int l), (2, .int (nI j))]) (st2 := [.int (nI j)]) (w3 := w) rfl rfl ?_
  refine sx_RP.step (pc2 := 43) (ls2 := [(0, .ref 0), (1, .int l), (2, .int (nI j))]) (st2 := [.int 99, .int (nI j)]) (w3 := w) rfl rfl ?_
  refine sx_RP.br (p1 := 73) (l1 := [(0, .ref 0), (1, .int l), (2, .int (nI j))]) (s1 := []) (v1 := w) (p2 := 46) (l2 := [(0, .ref 0), (1, .int l), (2, .int (nI j))]) (s2 := []) (v2 := w) rfl rfl (fun q1 => ?_) (fun q1 => ?_)
  · replace q1 := of_decide_eq_true q1
    replace q1 := (nI_ltI (a := 99) (b := j) (by omega) (by omega)).mp q1
    refine sx_RP.step (pc2 := 74) (ls2 := [(0, .ref 0), (1, .int l), (2, .int (nI j))]) (st2 := [.int l]) (w3 := w) rfl rfl ?_
    refine sx_RP.step (pc2 := 75) (ls2 := [(0, .ref 0), (1, .int l), (2, .int (nI j))]) (st2 := [.int (-1), .int l]) (w3 := w) rfl rfl ?_
    refine sx_RP.br (p1 := 87) (l1 := [(0, .ref 0), (1, .int l), (2, .int (nI j))]) (s1 := []) (v1 := w) (p2 := 78) (l2 := [(0, .ref 0), (1, .int l), (2, .int (nI j))]) (s2 := []) (v2 := w) rfl rfl (fun q2 => ?_) (fun q2 => ?_)
    · replace q2 := of_decide_eq_true q2
      refine sx_RP.step (pc2 := 88) (ls2 := [(0, .ref 0), (1, .int l), (2, .int (nI j))]) (st2 := [.int l]) (w3 := w) rfl rfl ?_
      refine sx_RP.ret (r := (some (.int l))) rfl rfl ?_
      exact ⟨⟨_, rfl⟩, hI, hE⟩
    · replace q2 := Decidable.not_not.mp (of_decide_eq_false q2)
      refine sx_RP.step (pc2 := 79) (ls2 := [(0, .ref 0), (1, .int l), (2, .int (nI j))]) (st2 := [.ref 0]) (w3 := w) rfl rfl ?_
      refine sx_RP.step (pc2 := 81) (ls2 := [(0, .ref 0), (1, .int l), (2, .int (nI j))]) (st2 := [.int (-1000000004), .ref 0]) (w3 := w) rfl rfl ?_
      refine sx_RP.callp (as2 := [.ref 0, .int (-1000000004)]) (rest2 := []) rfl rfl (sx_inv_v2 (mi := 53) (k := 78) (st := [.int (-1000000004), .ref 0]) (w := w) rfl rfl hI.1.o0 rfl rfl rfl) rfl rfl rfl (s9_3 hI) (show _ = 84 from rfl) ?_
      rintro r4 w3 ⟨rfl, hI4, hE6⟩
      have hE5 := hE.tr hE6
      show sx_RP _ _ _ _ _ [.int (-1000000004)] _ _
      refine sx_RP.step (pc2 := 88) (ls2 := [(0, .ref 0), (1, .int l), (2, .int (nI j))]) (st2 := [.int (-1000000004)]) (w3 := w3) rfl rfl ?_
      refine sx_RP.ret (r := (some (.int (-1000000004)))) rfl rfl ?_
      exact ⟨⟨_, rfl⟩, hI4, hE5⟩
  · replace q1 := of_decide_eq_false q1
    replace q1 := mt (nI_ltI (a := 99) (b := j) (by omega) (by omega)).mpr q1
    refine sx_RP.step (pc2 := 47) (ls2 := [(0, .ref 0), (1, .int l), (2, .int (nI j))]) (st2 := [.int l]) (w3 := w) rfl rfl ?_
    refine sx_RP.step (pc2 := 48) (ls2 := [(0, .ref 0), (1, .int l), (2, .int (nI j))]) (st2 := [.int (-1), .int l]) (w3 := w) rfl rfl ?_
    refine sx_RP.br (p1 := 73) (l1 := [(0, .ref 0), (1, .int l), (2, .int (nI j))]) (s1 := []) (v1 := w) (p2 := 51) (l2 := [(0, .ref 0), (1, .int l), (2, .int (nI j))]) (s2 := []) (v2 := w) rfl rfl (fun q7 => ?_) (fun q7 => ?_)
    · replace q7 := of_decide_eq_true q7
      refine sx_RP.step (pc2 := 74) (ls2 := [(0, .ref 0), (1, .int l), (2, .int (nI j))]) (st2 := [.int l]) (w3 := w) rfl rfl ?_
      refine sx_RP.step (pc2 := 75) (ls2 := [(0, .ref 0), (1, .int l), (2, .int (nI j))]) (st2 := [.int (-1), .int l]) (w3 := w) rfl rfl ?_
      refine sx_RP.br (p1 := 87) (l1 := [(0, .ref 0), (1, .int l), (2, .int (nI j))]) (s1 := []) (v1 := w) (p2 := 78) (l2 := [(0, .ref 0), (1, .int l), (2, .int (nI j))]) (s2 := []) (v2 := w) rfl rfl (fun q8 => ?_) (fun q8 => ?_)
      · replace q8 := of_decide_eq_true q8
        refine sx_RP.step (pc2 := 88) (ls2 := [(0, .ref 0), (1, .int l), (2, .int (nI j))]) (st2 := [.int l]) (w3 := w) rfl rfl ?_
        refine sx_RP.ret (r := (some (.int l))) rfl rfl ?_
        exact ⟨⟨_, rfl⟩, hI, hE⟩
      · replace q8 := Decidable.not_not.mp (of_decide_eq_false q8)
        refine sx_RP.step (pc2 := 79) (ls2 := [(0, .ref 0), (1, .int l), (2, .int (nI j))]) (st2 := [.ref 0]) (w3 := w) rfl rfl ?_
        refine sx_RP.step (pc2 := 81) (ls2 := [(0, .ref 0), (1, .int l), (2, .int (nI j))]) (st2 := [.int (-1000000004), .ref 0]) (w3 := w) rfl rfl ?_
        refine sx_RP.callp (as2 := [.ref 0, .int (-1000000004)]) (rest2 := []) rfl rfl (sx_inv_v2 (mi := 53) (k := 78) (st := [.int (-1000000004), .ref 0]) (w := w) rfl rfl hI.1.o0 rfl rfl rfl) rfl rfl rfl (s9_3 hI) (show _ = 84 from rfl) ?_
        rintro r4 w9 ⟨rfl, hI10, hE12⟩
        have hE11 := hE.tr hE12
        show sx_RP _ _ _ _ _ [.int (-1000000004)] _ _
        refine sx_RP.step (pc2 := 88) (ls2 := [(0, .ref 0), (1, .int l), (2, .int (nI j))]) (st2 := [.int (-1000000004)]) (w3 := w9) rfl rfl ?_
        refine sx_RP.ret (r := (some (.int (-1000000004)))) rfl rfl ?_
        exact ⟨⟨_, rfl⟩, hI10, hE11⟩
    · replace q7 := Decidable.not_not.mp (of_decide_eq_false q7)
      refine sx_RP.step (pc2 := 52) (ls2 := [(0, .ref 0), (1, .int l), (2, .int (nI j))]) (st2 := [.ref 0]) (w3 := w) rfl rfl ?_
      refine sx_RP.gf (v := .ref 29) rfl rfl hI.1.o0 rfl rfl (show _ = 55 from rfl) ?_
      refine sx_RP.callp (as2 := [.ref 29]) (rest2 := []) rfl rfl (sx_inv_v2 (mi := 53) (k := 166) (st := [.ref 29]) (w := w) rfl rfl (hI.1.oC (Or.inr (Or.inr rfl))) rfl rfl rfl) rfl rfl rfl (s41 hI (Or.inr (Or.inr rfl))) (show _ = 58 from rfl) ?_
      rintro r4 w14 ⟨⟨v13, rfl⟩, hI15, hE17⟩
      have hE16 := hE.tr hE17
      show sx_RP _ _ _ _ _ [.int v13] _ _
      refine sx_RP.step (pc2 := 59) (ls2 := [(0, .ref 0), (1, .int l), (2, .int (nI j))]) (st2 := []) (w3 := w14) rfl rfl ?_
      refine sx_RP.step (pc2 := 60) (ls2 := [(0, .ref 0), (1, .int l), (2, .int (nI j))]) (st2 := [.ref 0]) (w3 := w14) rfl rfl ?_
      refine sx_RP.gf (v := .ref 29) rfl rfl hI15.1.o0 rfl rfl (show _ = 63 from rfl) ?_
      obtain ⟨v18, c19⟩ := p54 hI15 (Or.inr (Or.inr rfl))
      refine sx_RP.cu (as := [.ref 29]) (rest2 := []) (st3 := [.int v18]) rfl rfl (sx_inv_v2 (mi := 53) (k := 183) (st := [.ref 29]) (w := w14) rfl rfl (hI15.1.oC (Or.inr (Or.inr rfl))) rfl rfl rfl) rfl rfl (c19) rfl ?_
      refine sx_RP.step (pc2 := 67) (ls2 := [(1, .int v18), (0, .ref 0), (2, .int (nI j))]) (st2 := []) (w3 := w14) rfl rfl ?_
      refine sx_RP.step (pc2 := 70) (ls2 := [(2, .int ((nI j) + 1)), (1, .int v18), (0, .ref 0)]) (st2 := []) (w3 := w14) rfl rfl ?_
      rw [nI_1 j]
      refine sx_RP.step (pc2 := 40) (ls2 := [(2, .int (nI (j + 1))), (1, .int v18), (0, .ref 0)]) (st2 := []) (w3 := w14) rfl rfl ?_
      exact sx_RP.ls (sx_lr.cons rfl (sx_lr.cons rfl (sx_lr.cons rfl sx_lr.nil))) (kk w14 v18 hI15 hE16 (by omega))
set_option maxRecDepth 20000 in
set_option maxHeartbeats 4000000 in
theorem s53L {xs : Option (List Int32)} {d : Nat} {w0 : List sx_C} : ∀ (fz j : Nat) (w : List sx_C) (l : Int32) , 100 ≤ j + fz * 1 → j ≤ 100 → WI w → EC w0 w → sx_RP xs (d + 7) 53 40 [(0, .ref 0), (1, .int l), (2, .int (nI j))] [] w (fun r w2 => (∃ v : Int32, r = some (.int v)) ∧ WI w2 ∧ EC w0 w2)
  | 0, j, w, l, h, hj, hI, hE => s53B  hI hE hj l  (fun w4 ul hI4 hE4 hlt  => absurd hlt (by omega)) 
  | fz + 1, j, w, l, h, hj, hI, hE => s53B  hI hE hj l  (fun w4 ul hI4 hE4 hlt  => s53L   fz (j + 1) w4 ul (by omega) hlt hI4 hE4 ) 
set_option maxRecDepth 20000 in
set_option maxHeartbeats 4000000 in
theorem s53 {xs : Option (List Int32)} {d : Nat} {w : List sx_C} (hI : WI w) : sx_RP xs (d + 7) 53 0 (lv_args 0 [.ref 0]) [] w (fun r w2 => (∃ v : Int32, r = some (.int v)) ∧ WI w2 ∧ EC w w2) := by
  have hE : EC w w := EC.rf
  refine sx_RP.step (pc2 := 1) (ls2 := [(0, .ref 0)]) (st2 := [.ref 0]) (w3 := w) rfl rfl ?_
  refine sx_RP.gf (v := .ref 1) rfl rfl hI.1.o0 rfl rfl (show _ = 4 from rfl) ?_
  refine sx_RP.step (pc2 := 6) (ls2 := [(0, .ref 0)]) (st2 := [.int 99, .ref 1]) (w3 := w) rfl rfl ?_
  obtain ⟨x1, hx2, c3⟩ := p40 hI (Or.inl rfl) 99
  refine sx_RP.cu (as := [.ref 1, .int 99]) (rest2 := []) (st3 := [.int (nI x1)]) rfl rfl (sx_inv_v2 (mi := 53) (k := 163) (st := [.int 99, .ref 1]) (w := w) rfl rfl (hI.1.oC (Or.inl rfl)) rfl rfl rfl) rfl rfl (c3) rfl ?_
  refine sx_RP.br (p1 := 19) (l1 := [(0, .ref 0)]) (s1 := []) (v1 := w) (p2 := 12) (l2 := [(0, .ref 0)]) (s2 := []) (v2 := w) rfl rfl (fun q4 => ?_) (fun q4 => ?_)
  · replace q4 := of_decide_eq_true q4
    replace q4 := mt (nI_eq (a := x1) (b := 0) (by omega) (by omega)).mpr q4
    refine sx_RP.step (pc2 := 20) (ls2 := [(0, .ref 0)]) (st2 := [.ref 0]) (w3 := w) rfl rfl ?_
    refine sx_RP.gf (v := .ref 29) rfl rfl hI.1.o0 rfl rfl (show _ = 23 from rfl) ?_
    refine sx_RP.step (pc2 := 24) (ls2 := [(0, .ref 0)]) (st2 := [.ref 0, .ref 29]) (w3 := w) rfl rfl ?_
    refine sx_RP.gf (v := .ref 1) rfl rfl hI.1.o0 rfl rfl (show _ = 27 from rfl) ?_
    refine sx_RP.callp (as2 := [.ref 29, .ref 1]) (rest2 := []) rfl rfl (sx_inv_v2 (mi := 53) (k := 179) (st := [.ref 1, .ref 29]) (w := w) rfl rfl (hI.1.oC (Or.inr (Or.inr rfl))) rfl rfl rfl) rfl rfl rfl (s50 hI (Or.inr (Or.inr rfl)) (Or.inl rfl)) (show _ = 30 from rfl) ?_
    rintro r4 w5 ⟨rfl, hI6, hE8⟩
    have hE7 := hE.tr hE8
    show sx_RP _ _ _ _ _ [] _ _
    refine sx_RP.step (pc2 := 31) (ls2 := [(0, .ref 0)]) (st2 := [.ref 0]) (w3 := w5) rfl rfl ?_
    refine sx_RP.gf (v := .ref 29) rfl rfl hI6.1.o0 rfl rfl (show _ = 34 from rfl) ?_
    obtain ⟨v9, c10⟩ := p54 hI6 (Or.inr (Or.inr rfl))
    refine sx_RP.cu (as := [.ref 29]) (rest2 := []) (st3 := [.int v9]) rfl rfl (sx_inv_v2 (mi := 53) (k := 183) (st := [.ref 29]) (w := w5) rfl rfl (hI6.1.oC (Or.inr (Or.inr rfl))) rfl rfl rfl) rfl rfl (c10) rfl ?_
    refine sx_RP.step (pc2 := 38) (ls2 := [(1, .int v9), (0, .ref 0)]) (st2 := []) (w3 := w5) rfl rfl ?_
    refine sx_RP.step (pc2 := 39) (ls2 := [(1, .int v9), (0, .ref 0)]) (st2 := [.int 1]) (w3 := w5) rfl rfl ?_
    refine sx_RP.step (pc2 := 40) (ls2 := [(2, .int 1), (1, .int v9), (0, .ref 0)]) (st2 := []) (w3 := w5) rfl rfl ?_
    exact sx_RP.ls (sx_lr.cons rfl (sx_lr.cons rfl (sx_lr.cons rfl sx_lr.nil))) (s53L  100 1 w5 v9 (by omega) (by omega) hI6 hE7 )
  · replace q4 := Decidable.not_not.mp (of_decide_eq_false q4)
    replace q4 := (nI_eq (a := x1) (b := 0) (by omega) (by omega)).mp q4
    refine sx_RP.step (pc2 := 13) (ls2 := [(0, .ref 0)]) (st2 := [.ref 0]) (w3 := w) rfl rfl ?_
    refine sx_RP.step (pc2 := 15) (ls2 := [(0, .ref 0)]) (st2 := [.int (-1000000005), .ref 0]) (w3 := w) rfl rfl ?_
    refine sx_RP.callp (as2 := [.ref 0, .int (-1000000005)]) (rest2 := []) rfl rfl (sx_inv_v2 (mi := 53) (k := 78) (st := [.int (-1000000005), .ref 0]) (w := w) rfl rfl hI.1.o0 rfl rfl rfl) rfl rfl rfl (s9_4 hI) (show _ = 18 from rfl) ?_
    rintro r4 w11 ⟨rfl, hI12, hE14⟩
    have hE13 := hE.tr hE14
    show sx_RP _ _ _ _ _ [.int (-1000000005)] _ _
    refine sx_RP.ret (r := (some (.int (-1000000005)))) rfl rfl ?_
    exact ⟨⟨_, rfl⟩, hI12, hE13⟩
set_option maxRecDepth 20000 in
set_option maxHeartbeats 4000000 in
theorem s61B {xs : Option (List Int32)} {d : Nat} {w w0 : List sx_C} {g : Nat} (hg : g < 10) (hI : WI w) (hE : EC w0 w) {j : Nat} (hj : j ≤ 10) (l : Int32) (m : Int32) (kk : ∀ (w4 : List sx_C) (ul : Int32) (um : Int32), WI w4 → EC w0 w4 → j + 1 ≤ 10 → sx_RP xs (d + 7) 61 64 [(0, .ref 0), (1, .int (nI g)), (2, .ref (1 + 4 + g)), (3, .int ul), (4, .int um), (5, .int (nI (j + 1)))] [] w4 (fun r w2 => (∃ v : Int32, r = some (.int v)) ∧ WI w2 ∧ EC w0 w2)) : sx_RP xs (d + 7) 61 64 [(0, .ref 0), (1, .int (nI g)), (2, .ref (1 + 4 + g)), (3, .int l), (4, .int m), (5, .int (nI j))] [] w (fun r w2 => (∃ v : Int32, r = some (.int v)) ∧ WI w2 ∧ EC w0 w2) := by
  refine sx_RP.step (pc2 := 66) (ls2 := [(0, .ref 0), (1, .int (nI g)), (2, .ref (1 + 4 + g)), (3, .int l), (4, .int m), (5, .int (nI j))]) (st2 := [.int (nI j)]) (w3 := w) rfl rfl ?_
  refine sx_RP.step (pc2 := 67) (ls2 := [(0, .ref 0), (1, .int (nI g)), (2, .ref (1 + 4 + g)), (3, .int l), (4, .int m), (5, .int (nI j))]) (st2 := [.ref 0, .int (nI j)]) (w3 := w) rfl rfl ?_
  refine sx_RP.gf (v := .ref 1) rfl rfl hI.1.o0 rfl rfl (show _ = 70 from rfl) ?_
  refine sx_RP.gc (k := 3) hI (Or.inl rfl) rfl rfl (by omega) (show _ = 73 from rfl) ?_
  obtain ⟨x1, hx2, ex3⟩ : inR (fi w 1 3) 10 := (hI.c (Or.inl rfl)).1
  rw [ex3]
  refine sx_RP.br (p1 := 135) (l1 := [(0, .ref 0), (1, .int (nI g)), (2, .ref (1 + 4 + g)), (3, .int l), (4, .int m), (5, .int (nI j))]) (s1 := []) (v1 := w) (p2 := 76) (l2 := [(0, .ref 0), (1, .int (nI g)), (2, .ref (1 + 4 + g)), (3, .int l), (4, .int m), (5, .int (nI j))]) (s2 := []) (v2 := w) rfl rfl (fun q4 => ?_) (fun q4 => ?_)
  · replace q4 := of_decide_eq_true q4
    replace q4 := (nI_leI (a := x1) (b := j) (by omega) (by omega)).mp q4
    refine sx_RP.step (pc2 := 137) (ls2 := [(0, .ref 0), (1, .int (nI g)), (2, .ref (1 + 4 + g)), (3, .int l), (4, .int m), (5, .int (nI j))]) (st2 := [.int m]) (w3 := w) rfl rfl ?_
    refine sx_RP.step (pc2 := 138) (ls2 := [(0, .ref 0), (1, .int (nI g)), (2, .ref (1 + 4 + g)), (3, .int l), (4, .int m), (5, .int (nI j))]) (st2 := [.int (-1), .int m]) (w3 := w) rfl rfl ?_
    refine sx_RP.br (p1 := 150) (l1 := [(0, .ref 0), (1, .int (nI g)), (2, .ref (1 + 4 + g)), (3, .int l), (4, .int m), (5, .int (nI j))]) (s1 := []) (v1 := w) (p2 := 141) (l2 := [(0, .ref 0), (1, .int (nI g)), (2, .ref (1 + 4 + g)), (3, .int l), (4, .int m), (5, .int (nI j))]) (s2 := []) (v2 := w) rfl rfl (fun q5 => ?_) (fun q5 => ?_)
    · replace q5 := of_decide_eq_true q5
      refine sx_RP.step (pc2 := 152) (ls2 := [(0, .ref 0), (1, .int (nI g)), (2, .ref (1 + 4 + g)), (3, .int l), (4, .int m), (5, .int (nI j))]) (st2 := [.int m]) (w3 := w) rfl rfl ?_
      refine sx_RP.ret (r := (some (.int m))) rfl rfl ?_
      exact ⟨⟨_, rfl⟩, hI, hE⟩
    · replace q5 := Decidable.not_not.mp (of_decide_eq_false q5)
      refine sx_RP.step (pc2 := 142) (ls2 := [(0, .ref 0), (1, .int (nI g)), (2, .ref (1 + 4 + g)), (3, .int l), (4, .int m), (5, .int (nI j))]) (st2 := [.ref 0]) (w3 := w) rfl rfl ?_
      refine sx_RP.step (pc2 := 144) (ls2 := [(0, .ref 0), (1, .int (nI g)), (2, .ref (1 + 4 + g)), (3, .int l), (4, .int m), (5, .int (nI j))]) (st2 := [.int (-1000000004), .ref 0]) (w3 := w) rfl rfl ?_
      refine sx_RP.callp (as2 := [.ref 0, .int (-1000000004)]) (rest2 := []) rfl rfl (sx_inv_v2 (mi := 61) (k := 78) (st := [.int (-1000000004), .ref 0]) (w := w) rfl rfl hI.1.o0 rfl rfl rfl) rfl rfl rfl (s9_3 hI) (show _ = 147 from rfl) ?_
      rintro r4 w6 ⟨rfl, hI7, hE9⟩
      have hE8 := hE.tr hE9
      show sx_RP _ _ _ _ _ [.int (-1000000004)] _ _
      refine sx_RP.step (pc2 := 152) (ls2 := [(0, .ref 0), (1, .int (nI g)), (2, .ref (1 + 4 + g)), (3, .int l), (4, .int m), (5, .int (nI j))]) (st2 := [.int (-1000000004)]) (w3 := w6) rfl rfl ?_
      refine sx_RP.ret (r := (some (.int (-1000000004)))) rfl rfl ?_
      exact ⟨⟨_, rfl⟩, hI7, hE8⟩
  · replace q4 := of_decide_eq_false q4
    replace q4 := mt (nI_leI (a := x1) (b := j) (by omega) (by omega)).mpr q4
    refine sx_RP.step (pc2 := 77) (ls2 := [(0, .ref 0), (1, .int (nI g)), (2, .ref (1 + 4 + g)), (3, .int l), (4, .int m), (5, .int (nI j))]) (st2 := [.ref 0]) (w3 := w) rfl rfl ?_
    refine sx_RP.gf (v := .ref 1) rfl rfl hI.1.o0 rfl rfl (show _ = 80 from rfl) ?_
    refine sx_RP.gref (k := 2) (b := 3) hI (Or.inl rfl) rfl rfl (by omega) (show _ = 83 from rfl) ?_
    refine sx_RP.step (pc2 := 85) (ls2 := [(0, .ref 0), (1, .int (nI g)), (2, .ref (1 + 4 + g)), (3, .int l), (4, .int m), (5, .int (nI j))]) (st2 := [.int (nI j), .ref 3]) (w3 := w) rfl rfl ?_
    refine sx_RP.ald (v := .ref (1 + 4 + j)) rfl (hI.1.aG (Or.inl rfl)) rfl (grA_at (show j < 10 by omega)) (show _ = 86 from rfl) ?_
    refine sx_RP.step (pc2 := 88) (ls2 := [(6, .ref (1 + 4 + j)), (0, .ref 0), (1, .int (nI g)), (2, .ref (1 + 4 + g)), (3, .int l), (4, .int m), (5, .int (nI j))]) (st2 := []) (w3 := w) rfl rfl ?_
    refine sx_RP.step (pc2 := 90) (ls2 := [(6, .ref (1 + 4 + j)), (0, .ref 0), (1, .int (nI g)), (2, .ref (1 + 4 + g)), (3, .int l), (4, .int m), (5, .int (nI j))]) (st2 := [.ref (1 + 4 + j)]) (w3 := w) rfl rfl ?_
    refine sx_RP.step (pc2 := 91) (ls2 := [(6, .ref (1 + 4 + j)), (0, .ref 0), (1, .int (nI g)), (2, .ref (1 + 4 + g)), (3, .int l), (4, .int m), (5, .int (nI j))]) (st2 := [.int 1, .ref (1 + 4 + j)]) (w3 := w) rfl rfl ?_
    obtain ⟨x10, hx11, c12⟩ := p43 hI (gAd.of (Or.inl rfl) (show j < 10 by omega)) 1
    refine sx_RP.cu (as := [.ref (1 + 4 + j), .int 1]) (rest2 := []) (st3 := [.int (nI x10)]) rfl rfl (sx_inv_v2 (mi := 61) (k := 186) (st := [.int 1, .ref (1 + 4 + j)]) (w := w) rfl rfl (hI.1.oG (gAd.of (Or.inl rfl) (show j < 10 by omega))) rfl rfl rfl) rfl rfl (c12) rfl ?_
    refine sx_RP.br (p1 := 107) (l1 := [(6, .ref (1 + 4 + j)), (0, .ref 0), (1, .int (nI g)), (2, .ref (1 + 4 + g)), (3, .int l), (4, .int m), (5, .int (nI j))]) (s1 := []) (v1 := w) (p2 := 97) (l2 := [(6, .ref (1 + 4 + j)), (0, .ref 0), (1, .int (nI g)), (2, .ref (1 + 4 + g)), (3, .int l), (4, .int m), (5, .int (nI j))]) (s2 := []) (v2 := w) rfl rfl (fun q13 => ?_) (fun q13 => ?_)
    · replace q13 := of_decide_eq_true q13
      replace q13 := (nI_eq (a := x10) (b := 0) (by omega) (by omega)).mp q13
      refine sx_RP.step (pc2 := 108) (ls2 := [(6, .ref (1 + 4 + j)), (0, .ref 0), (1, .int (nI g)), (2, .ref (1 + 4 + g)), (3, .int l), (4, .int m), (5, .int (nI j))]) (st2 := [.int (-1)]) (w3 := w) rfl rfl ?_
      refine sx_RP.step (pc2 := 110) (ls2 := [(7, .int (-1)), (6, .ref (1 + 4 + j)), (0, .ref 0), (1, .int (nI g)), (2, .ref (1 + 4 + g)), (3, .int l), (4, .int m), (5, .int (nI j))]) (st2 := []) (w3 := w) rfl rfl ?_
      refine sx_RP.step (pc2 := 112) (ls2 := [(7, .int (-1)), (6, .ref (1 + 4 + j)), (0, .ref 0), (1, .int (nI g)), (2, .ref (1 + 4 + g)), (3, .int l), (4, .int m), (5, .int (nI j))]) (st2 := [.int (-1)]) (w3 := w) rfl rfl ?_
      refine sx_RP.step (pc2 := 113) (ls2 := [(7, .int (-1)), (6, .ref (1 + 4 + j)), (0, .ref 0), (1, .int (nI g)), (2, .ref (1 + 4 + g)), (3, .int l), (4, .int m), (5, .int (nI j))]) (st2 := [.int (-1), .int (-1)]) (w3 := w) rfl rfl ?_
      refine sx_RP.step (pc2 := 129) (ls2 := [(7, .int (-1)), (6, .ref (1 + 4 + j)), (0, .ref 0), (1, .int (nI g)), (2, .ref (1 + 4 + g)), (3, .int l), (4, .int m), (5, .int (nI j))]) (st2 := []) (w3 := w) rfl rfl ?_
      refine sx_RP.step (pc2 := 132) (ls2 := [(5, .int ((nI j) + 1)), (7, .int (-1)), (6, .ref (1 + 4 + j)), (0, .ref 0), (1, .int (nI g)), (2, .ref (1 + 4 + g)), (3, .int l), (4, .int m)]) (st2 := []) (w3 := w) rfl rfl ?_
      rw [nI_1 j]
      refine sx_RP.step (pc2 := 64) (ls2 := [(5, .int (nI (j + 1))), (7, .int (-1)), (6, .ref (1 + 4 + j)), (0, .ref 0), (1, .int (nI g)), (2, .ref (1 + 4 + g)), (3, .int l), (4, .int m)]) (st2 := []) (w3 := w) rfl rfl ?_
      exact sx_RP.ls (sx_lr.cons rfl (sx_lr.cons rfl (sx_lr.cons rfl (sx_lr.cons rfl (sx_lr.cons rfl (sx_lr.cons rfl sx_lr.nil)))))) (kk w l m hI hE (by omega))
    · replace q13 := of_decide_eq_false q13
      replace q13 := mt (nI_eq (a := x10) (b := 0) (by omega) (by omega)).mpr q13
      refine sx_RP.step (pc2 := 98) (ls2 := [(6, .ref (1 + 4 + j)), (0, .ref 0), (1, .int (nI g)), (2, .ref (1 + 4 + g)), (3, .int l), (4, .int m), (5, .int (nI j))]) (st2 := [.ref 0]) (w3 := w) rfl rfl ?_
      refine sx_RP.step (pc2 := 100) (ls2 := [(6, .ref (1 + 4 + j)), (0, .ref 0), (1, .int (nI g)), (2, .ref (1 + 4 + g)), (3, .int l), (4, .int m), (5, .int (nI j))]) (st2 := [.ref (1 + 4 + j), .ref 0]) (w3 := w) rfl rfl ?_
      refine sx_RP.step (pc2 := 101) (ls2 := [(6, .ref (1 + 4 + j)), (0, .ref 0), (1, .int (nI g)), (2, .ref (1 + 4 + g)), (3, .int l), (4, .int m), (5, .int (nI j))]) (st2 := [.ref (1 + 4 + g), .ref (1 + 4 + j), .ref 0]) (w3 := w) rfl rfl ?_
      refine sx_RP.callp (as2 := [.ref 0, .ref (1 + 4 + j), .ref (1 + 4 + g)]) (rest2 := []) rfl rfl (sx_inv_v2 (mi := 61) (k := 194) (st := [.ref (1 + 4 + g), .ref (1 + 4 + j), .ref 0]) (w := w) rfl rfl hI.1.o0 rfl rfl rfl) rfl rfl rfl (s59 hI (gAd.of (Or.inl rfl) (show j < 10 by omega)) (gAd.of (Or.inl rfl) (show g < 10 by omega))) (show _ = 104 from rfl) ?_
      rintro r4 w15 ⟨⟨v14, rfl⟩, hI16, hE18⟩
      have hE17 := hE.tr hE18
      show sx_RP _ _ _ _ _ [.int v14] _ _
      refine sx_RP.step (pc2 := 108) (ls2 := [(6, .ref (1 + 4 + j)), (0, .ref 0), (1, .int (nI g)), (2, .ref (1 + 4 + g)), (3, .int l), (4, .int m), (5, .int (nI j))]) (st2 := [.int v14]) (w3 := w15) rfl rfl ?_
      refine sx_RP.step (pc2 := 110) (ls2 := [(7, .int v14), (6, .ref (1 + 4 + j)), (0, .ref 0), (1, .int (nI g)), (2, .ref (1 + 4 + g)), (3, .int l), (4, .int m), (5, .int (nI j))]) (st2 := []) (w3 := w15) rfl rfl ?_
      refine sx_RP.step (pc2 := 112) (ls2 := [(7, .int v14), (6, .ref (1 + 4 + j)), (0, .ref 0), (1, .int (nI g)), (2, .ref (1 + 4 + g)), (3, .int l), (4, .int m), (5, .int (nI j))]) (st2 := [.int v14]) (w3 := w15) rfl rfl ?_
      refine sx_RP.step (pc2 := 113) (ls2 := [(7, .int v14), (6, .ref (1 + 4 + j)), (0, .ref 0), (1, .int (nI g)), (2, .ref (1 + 4 + g)), (3, .int l), (4, .int m), (5, .int (nI j))]) (st2 := [.int (-1), .int v14]) (w3 := w15) rfl rfl ?_
      refine sx_RP.br (p1 := 129) (l1 := [(7, .int v14), (6, .ref (1 + 4 + j)), (0, .ref 0), (1, .int (nI g)), (2, .ref (1 + 4 + g)), (3, .int l), (4, .int m), (5, .int (nI j))]) (s1 := []) (v1 := w15) (p2 := 116) (l2 := [(7, .int v14), (6, .ref (1 + 4 + j)), (0, .ref 0), (1, .int (nI g)), (2, .ref (1 + 4 + g)), (3, .int l), (4, .int m), (5, .int (nI j))]) (s2 := []) (v2 := w15) rfl rfl (fun q19 => ?_) (fun q19 => ?_)
      · replace q19 := of_decide_eq_true q19
        refine sx_RP.step (pc2 := 132) (ls2 := [(5, .int ((nI j) + 1)), (7, .int v14), (6, .ref (1 + 4 + j)), (0, .ref 0), (1, .int (nI g)), (2, .ref (1 + 4 + g)), (3, .int l), (4, .int m)]) (st2 := []) (w3 := w15) rfl rfl ?_
        rw [nI_1 j]
        refine sx_RP.step (pc2 := 64) (ls2 := [(5, .int (nI (j + 1))), (7, .int v14), (6, .ref (1 + 4 + j)), (0, .ref 0), (1, .int (nI g)), (2, .ref (1 + 4 + g)), (3, .int l), (4, .int m)]) (st2 := []) (w3 := w15) rfl rfl ?_
        exact sx_RP.ls (sx_lr.cons rfl (sx_lr.cons rfl (sx_lr.cons rfl (sx_lr.cons rfl (sx_lr.cons rfl (sx_lr.cons rfl sx_lr.nil)))))) (kk w15 l m hI16 hE17 (by omega))
      · replace q19 := of_decide_eq_false q19
        refine sx_RP.step (pc2 := 118) (ls2 := [(7, .int v14), (6, .ref (1 + 4 + j)), (0, .ref 0), (1, .int (nI g)), (2, .ref (1 + 4 + g)), (3, .int l), (4, .int m), (5, .int (nI j))]) (st2 := [.int v14]) (w3 := w15) rfl rfl ?_
        refine sx_RP.step (pc2 := 119) (ls2 := [(7, .int v14), (6, .ref (1 + 4 + j)), (0, .ref 0), (1, .int (nI g)), (2, .ref (1 + 4 + g)), (3, .int l), (4, .int m), (5, .int (nI j))]) (st2 := [.int l, .int v14]) (w3 := w15) rfl rfl ?_
        refine sx_RP.br (p1 := 129) (l1 := [(7, .int v14), (6, .ref (1 + 4 + j)), (0, .ref 0), (1, .int (nI g)), (2, .ref (1 + 4 + g)), (3, .int l), (4, .int m), (5, .int (nI j))]) (s1 := []) (v1 := w15) (p2 := 122) (l2 := [(7, .int v14), (6, .ref (1 + 4 + j)), (0, .ref 0), (1, .int (nI g)), (2, .ref (1 + 4 + g)), (3, .int l), (4, .int m), (5, .int (nI j))]) (s2 := []) (v2 := w15) rfl rfl (fun q20 => ?_) (fun q20 => ?_)
        · replace q20 := of_decide_eq_true q20
          refine sx_RP.step (pc2 := 132) (ls2 := [(5, .int ((nI j) + 1)), (7, .int v14), (6, .ref (1 + 4 + j)), (0, .ref 0), (1, .int (nI g)), (2, .ref (1 + 4 + g)), (3, .int l), (4, .int m)]) (st2 := []) (w3 := w15) rfl rfl ?_
          rw [nI_1 j]
          refine sx_RP.step (pc2 := 64) (ls2 := [(5, .int (nI (j + 1))), (7, .int v14), (6, .ref (1 + 4 + j)), (0, .ref 0), (1, .int (nI g)), (2, .ref (1 + 4 + g)), (3, .int l), (4, .int m)]) (st2 := []) (w3 := w15) rfl rfl ?_
          exact sx_RP.ls (sx_lr.cons rfl (sx_lr.cons rfl (sx_lr.cons rfl (sx_lr.cons rfl (sx_lr.cons rfl (sx_lr.cons rfl sx_lr.nil)))))) (kk w15 l m hI16 hE17 (by omega))
        · replace q20 := of_decide_eq_false q20
          refine sx_RP.step (pc2 := 124) (ls2 := [(7, .int v14), (6, .ref (1 + 4 + j)), (0, .ref 0), (1, .int (nI g)), (2, .ref (1 + 4 + g)), (3, .int l), (4, .int m), (5, .int (nI j))]) (st2 := [.int v14]) (w3 := w15) rfl rfl ?_
          refine sx_RP.step (pc2 := 125) (ls2 := [(3, .int v14), (7, .int v14), (6, .ref (1 + 4 + j)), (0, .ref 0), (1, .int (nI g)), (2, .ref (1 + 4 + g)), (4, .int m), (5, .int (nI j))]) (st2 := []) (w3 := w15) rfl rfl ?_
          refine sx_RP.step (pc2 := 127) (ls2 := [(3, .int v14), (7, .int v14), (6, .ref (1 + 4 + j)), (0, .ref 0), (1, .int (nI g)), (2, .ref (1 + 4 + g)), (4, .int m), (5, .int (nI j))]) (st2 := [.int (nI j)]) (w3 := w15) rfl rfl ?_
          refine sx_RP.step (pc2 := 129) (ls2 := [(4, .int (nI j)), (3, .int v14), (7, .int v14), (6, .ref (1 + 4 + j)), (0, .ref 0), (1, .int (nI g)), (2, .ref (1 + 4 + g)), (5, .int (nI j))]) (st2 := []) (w3 := w15) rfl rfl ?_
          refine sx_RP.step (pc2 := 132) (ls2 := [(5, .int ((nI j) + 1)), (4, .int (nI j)), (3, .int v14), (7, .int v14), (6, .ref (1 + 4 + j)), (0, .ref 0), (1, .int (nI g)), (2, .ref (1 + 4 + g))]) (st2 := []) (w3 := w15) rfl rfl ?_
          rw [nI_1 j]
          refine sx_RP.step (pc2 := 64) (ls2 := [(5, .int (nI (j + 1))), (4, .int (nI j)), (3, .int v14), (7, .int v14), (6, .ref (1 + 4 + j)), (0, .ref 0), (1, .int (nI g)), (2, .ref (1 + 4 + g))]) (st2 := []) (w3 := w15) rfl rfl ?_
          exact sx_RP.ls (sx_lr.cons rfl (sx_lr.cons rfl (sx_lr.cons rfl (sx_lr.cons rfl (sx_lr.cons rfl (sx_lr.cons rfl sx_lr.nil)))))) (kk w15 v14 (nI j) hI16 hE17 (by omega))
set_option maxRecDepth 20000 in
set_option maxHeartbeats 4000000 in
theorem s61L {xs : Option (List Int32)} {d : Nat} {w0 : List sx_C} {g : Nat} (hg : g < 10) : ∀ (fz j : Nat) (w : List sx_C) (l : Int32) (m : Int32) , 10 ≤ j + fz * 1 → j ≤ 10 → WI w → EC w0 w → sx_RP xs (d + 7) 61 64 [(0, .ref 0), (1, .int (nI g)), (2, .ref (1 + 4 + g)), (3, .int l), (4, .int m), (5, .int (nI j))] [] w (fun r w2 => (∃ v : Int32, r = some (.int v)) ∧ WI w2 ∧ EC w0 w2)
  | 0, j, w, l, m, h, hj, hI, hE => s61B hg hI hE hj l m  (fun w4 ul um hI4 hE4 hlt  => absurd hlt (by omega)) 
  | fz + 1, j, w, l, m, h, hj, hI, hE => s61B hg hI hE hj l m  (fun w4 ul um hI4 hE4 hlt  => s61L hg  fz (j + 1) w4 ul um (by omega) hlt hI4 hE4 ) 
set_option maxRecDepth 20000 in
set_option maxHeartbeats 4000000 in
theorem s61 {xs : Option (List Int32)} {d : Nat} {w : List sx_C} (hI : WI w) (a1 : Int32) : sx_RP xs (d + 7) 61 0 (lv_args 0 [.ref 0, .int a1]) [] w (fun r w2 => (∃ v : Int32, r = some (.int v)) ∧ WI w2 ∧ EC w w2) := by
  have hE : EC w w := EC.rf
  refine sx_RP.step (pc2 := 1) (ls2 := [(0, .ref 0), (1, .int a1)]) (st2 := [.ref 0]) (w3 := w) rfl rfl ?_
  refine sx_RP.gf (v := .ref 1) rfl rfl hI.1.o0 rfl rfl (show _ = 4 from rfl) ?_
  refine sx_RP.step (pc2 := 5) (ls2 := [(0, .ref 0), (1, .int a1)]) (st2 := [.int a1, .ref 1]) (w3 := w) rfl rfl ?_
  rcases p27 (xs := xs) hI (Or.inl rfl) a1 with c2 | ⟨⟨x3, hx4, rfl⟩, c2⟩
  · refine sx_RP.cu (as := [.ref 1, .int a1]) (rest2 := []) (st3 := [.int 0]) rfl rfl (sx_inv_v2 (mi := 61) (k := 120) (st := [.int a1, .ref 1]) (w := w) rfl rfl (hI.1.oC (Or.inl rfl)) rfl rfl rfl) rfl rfl (c2) rfl ?_
    refine sx_RP.step (pc2 := 11) (ls2 := [(0, .ref 0), (1, .int a1)]) (st2 := []) (w3 := w) rfl rfl ?_
    refine sx_RP.step (pc2 := 12) (ls2 := [(0, .ref 0), (1, .int a1)]) (st2 := [.ref 0]) (w3 := w) rfl rfl ?_
    refine sx_RP.step (pc2 := 14) (ls2 := [(0, .ref 0), (1, .int a1)]) (st2 := [.int (-1000000001), .ref 0]) (w3 := w) rfl rfl ?_
    refine sx_RP.callp (as2 := [.ref 0, .int (-1000000001)]) (rest2 := []) rfl rfl (sx_inv_v2 (mi := 61) (k := 78) (st := [.int (-1000000001), .ref 0]) (w := w) rfl rfl hI.1.o0 rfl rfl rfl) rfl rfl rfl (s9_0 hI) (show _ = 17 from rfl) ?_
    rintro r4 w6 ⟨rfl, hI7, hE9⟩
    have hE8 := hE.tr hE9
    show sx_RP _ _ _ _ _ [.int (-1000000001)] _ _
    refine sx_RP.ret (r := (some (.int (-1000000001)))) rfl rfl ?_
    exact ⟨⟨_, rfl⟩, hI7, hE8⟩
  · refine sx_RP.cu (as := [.ref 1, .int (nI x3)]) (rest2 := []) (st3 := [.int 1]) rfl rfl (sx_inv_v2 (mi := 61) (k := 120) (st := [.int (nI x3), .ref 1]) (w := w) rfl rfl (hI.1.oC (Or.inl rfl)) rfl rfl rfl) rfl rfl (c2) rfl ?_
    refine sx_RP.step (pc2 := 18) (ls2 := [(0, .ref 0), (1, .int (nI x3))]) (st2 := []) (w3 := w) rfl rfl ?_
    refine sx_RP.step (pc2 := 19) (ls2 := [(0, .ref 0), (1, .int (nI x3))]) (st2 := [.ref 0]) (w3 := w) rfl rfl ?_
    refine sx_RP.gf (v := .ref 1) rfl rfl hI.1.o0 rfl rfl (show _ = 22 from rfl) ?_
    refine sx_RP.gref (k := 2) (b := 3) hI (Or.inl rfl) rfl rfl (by omega) (show _ = 25 from rfl) ?_
    refine sx_RP.step (pc2 := 26) (ls2 := [(0, .ref 0), (1, .int (nI x3))]) (st2 := [.int (nI x3), .ref 3]) (w3 := w) rfl rfl ?_
    refine sx_RP.ald (v := .ref (1 + 4 + x3)) rfl (hI.1.aG (Or.inl rfl)) rfl (grA_at (show x3 < 10 by omega)) (show _ = 27 from rfl) ?_
    refine sx_RP.step (pc2 := 28) (ls2 := [(2, .ref (1 + 4 + x3)), (0, .ref 0), (1, .int (nI x3))]) (st2 := []) (w3 := w) rfl rfl ?_
    refine sx_RP.step (pc2 := 29) (ls2 := [(2, .ref (1 + 4 + x3)), (0, .ref 0), (1, .int (nI x3))]) (st2 := [.ref (1 + 4 + x3)]) (w3 := w) rfl rfl ?_
    refine sx_RP.step (pc2 := 30) (ls2 := [(2, .ref (1 + 4 + x3)), (0, .ref 0), (1, .int (nI x3))]) (st2 := [.int 0, .ref (1 + 4 + x3)]) (w3 := w) rfl rfl ?_
    obtain ⟨x10, hx11, c12⟩ := p43 hI (gAd.of (Or.inl rfl) (show x3 < 10 by omega)) 0
    refine sx_RP.cu (as := [.ref (1 + 4 + x3), .int 0]) (rest2 := []) (st3 := [.int (nI x10)]) rfl rfl (sx_inv_v2 (mi := 61) (k := 186) (st := [.int 0, .ref (1 + 4 + x3)]) (w := w) rfl rfl (hI.1.oG (gAd.of (Or.inl rfl) (show x3 < 10 by omega))) rfl rfl rfl) rfl rfl (c12) rfl ?_
    refine sx_RP.br (p1 := 48) (l1 := [(2, .ref (1 + 4 + x3)), (0, .ref 0), (1, .int (nI x3))]) (s1 := []) (v1 := w) (p2 := 36) (l2 := [(2, .ref (1 + 4 + x3)), (0, .ref 0), (1, .int (nI x3))]) (s2 := []) (v2 := w) rfl rfl (fun q13 => ?_) (fun q13 => ?_)
    · replace q13 := of_decide_eq_true q13
      replace q13 := (nI_eq (a := x10) (b := 0) (by omega) (by omega)).mp q13
      refine sx_RP.step (pc2 := 49) (ls2 := [(2, .ref (1 + 4 + x3)), (0, .ref 0), (1, .int (nI x3))]) (st2 := [.ref 0]) (w3 := w) rfl rfl ?_
      refine sx_RP.step (pc2 := 51) (ls2 := [(2, .ref (1 + 4 + x3)), (0, .ref 0), (1, .int (nI x3))]) (st2 := [.int (-1000000005), .ref 0]) (w3 := w) rfl rfl ?_
      refine sx_RP.callp (as2 := [.ref 0, .int (-1000000005)]) (rest2 := []) rfl rfl (sx_inv_v2 (mi := 61) (k := 78) (st := [.int (-1000000005), .ref 0]) (w := w) rfl rfl hI.1.o0 rfl rfl rfl) rfl rfl rfl (s9_4 hI) (show _ = 54 from rfl) ?_
      rintro r4 w14 ⟨rfl, hI15, hE17⟩
      have hE16 := hE.tr hE17
      show sx_RP _ _ _ _ _ [.int (-1000000005)] _ _
      refine sx_RP.ret (r := (some (.int (-1000000005)))) rfl rfl ?_
      exact ⟨⟨_, rfl⟩, hI15, hE16⟩
    · replace q13 := of_decide_eq_false q13
      replace q13 := mt (nI_eq (a := x10) (b := 0) (by omega) (by omega)).mpr q13
      refine sx_RP.step (pc2 := 37) (ls2 := [(2, .ref (1 + 4 + x3)), (0, .ref 0), (1, .int (nI x3))]) (st2 := [.ref 0]) (w3 := w) rfl rfl ?_
      refine sx_RP.gf (v := .ref 1) rfl rfl hI.1.o0 rfl rfl (show _ = 40 from rfl) ?_
      refine sx_RP.step (pc2 := 42) (ls2 := [(2, .ref (1 + 4 + x3)), (0, .ref 0), (1, .int (nI x3))]) (st2 := [.int 60, .ref 1]) (w3 := w) rfl rfl ?_
      obtain ⟨x18, hx19, c20⟩ := p40 hI (Or.inl rfl) 60
      refine sx_RP.cu (as := [.ref 1, .int 60]) (rest2 := []) (st3 := [.int (nI x18)]) rfl rfl (sx_inv_v2 (mi := 61) (k := 163) (st := [.int 60, .ref 1]) (w := w) rfl rfl (hI.1.oC (Or.inl rfl)) rfl rfl rfl) rfl rfl (c20) rfl ?_
      refine sx_RP.br (p1 := 55) (l1 := [(2, .ref (1 + 4 + x3)), (0, .ref 0), (1, .int (nI x3))]) (s1 := []) (v1 := w) (p2 := 48) (l2 := [(2, .ref (1 + 4 + x3)), (0, .ref 0), (1, .int (nI x3))]) (s2 := []) (v2 := w) rfl rfl (fun q21 => ?_) (fun q21 => ?_)
      · replace q21 := of_decide_eq_true q21
        replace q21 := mt (nI_eq (a := x18) (b := 0) (by omega) (by omega)).mpr q21
        refine sx_RP.step (pc2 := 57) (ls2 := [(2, .ref (1 + 4 + x3)), (0, .ref 0), (1, .int (nI x3))]) (st2 := [.int 61]) (w3 := w) rfl rfl ?_
        refine sx_RP.step (pc2 := 58) (ls2 := [(3, .int 61), (2, .ref (1 + 4 + x3)), (0, .ref 0), (1, .int (nI x3))]) (st2 := []) (w3 := w) rfl rfl ?_
        refine sx_RP.step (pc2 := 59) (ls2 := [(3, .int 61), (2, .ref (1 + 4 + x3)), (0, .ref 0), (1, .int (nI x3))]) (st2 := [.int (-1)]) (w3 := w) rfl rfl ?_
        refine sx_RP.step (pc2 := 61) (ls2 := [(4, .int (-1)), (3, .int 61), (2, .ref (1 + 4 + x3)), (0, .ref 0), (1, .int (nI x3))]) (st2 := []) (w3 := w) rfl rfl ?_
        refine sx_RP.step (pc2 := 62) (ls2 := [(4, .int (-1)), (3, .int 61), (2, .ref (1 + 4 + x3)), (0, .ref 0), (1, .int (nI x3))]) (st2 := [.int 0]) (w3 := w) rfl rfl ?_
        refine sx_RP.step (pc2 := 64) (ls2 := [(5, .int 0), (4, .int (-1)), (3, .int 61), (2, .ref (1 + 4 + x3)), (0, .ref 0), (1, .int (nI x3))]) (st2 := []) (w3 := w) rfl rfl ?_
        exact sx_RP.ls (sx_lr.cons rfl (sx_lr.cons rfl (sx_lr.cons rfl (sx_lr.cons rfl (sx_lr.cons rfl (sx_lr.cons rfl sx_lr.nil)))))) (s61L (show x3 < 10 by omega) 10 0 w 61 (-1) (by omega) (by omega) hI hE )
      · replace q21 := Decidable.not_not.mp (of_decide_eq_false q21)
        replace q21 := (nI_eq (a := x18) (b := 0) (by omega) (by omega)).mp q21
        refine sx_RP.step (pc2 := 49) (ls2 := [(2, .ref (1 + 4 + x3)), (0, .ref 0), (1, .int (nI x3))]) (st2 := [.ref 0]) (w3 := w) rfl rfl ?_
        refine sx_RP.step (pc2 := 51) (ls2 := [(2, .ref (1 + 4 + x3)), (0, .ref 0), (1, .int (nI x3))]) (st2 := [.int (-1000000005), .ref 0]) (w3 := w) rfl rfl ?_
        refine sx_RP.callp (as2 := [.ref 0, .int (-1000000005)]) (rest2 := []) rfl rfl (sx_inv_v2 (mi := 61) (k := 78) (st := [.int (-1000000005), .ref 0]) (w := w) rfl rfl hI.1.o0 rfl rfl rfl) rfl rfl rfl (s9_4 hI) (show _ = 54 from rfl) ?_
        rintro r4 w22 ⟨rfl, hI23, hE25⟩
        have hE24 := hE.tr hE25
        show sx_RP _ _ _ _ _ [.int (-1000000005)] _ _
        refine sx_RP.ret (r := (some (.int (-1000000005)))) rfl rfl ?_
        exact ⟨⟨_, rfl⟩, hI23, hE24⟩
set_option maxRecDepth 20000 in
set_option maxHeartbeats 4000000 in
theorem s74B {xs : Option (List Int32)} {d : Nat} {w w0 : List sx_C} {k : Nat} (l : Int64) (hk : k ≤ 5) (hI : WI w) (hE : EC w0 w) {j : Nat} (hj : j ≤ 48) (m : Int32) (n : Int32) (kk : ∀ (w4 : List sx_C) (um : Int32) (un : Int32), WI w4 → EC w0 w4 → j + 1 ≤ 48 → sx_RP xs (d + 7) 74 91 [(0, .ref 0), (1, .int (nI k)), (2, .long l), (4, .int um), (5, .int un), (6, .int (nI (j + 1)))] [] w4 (fun r w2 => (∃ v : Int32, r = some (.int v)) ∧ WI w2 ∧ EC w0 w2)) : sx_RP xs (d + 7) 74 91 [(0, .ref 0), (1, .int (nI k)), (2, .long l), (4, .int m), (5, .int n), (6, .int (nI j))] [] w (fun r w2 => (∃ v : Int32, r = some (.int v)) ∧ WI w2 ∧ EC w0 w2) := by
  refine sx_RP.step (pc2 := 93) (ls2 := [(0, .ref 0), (1, .int (nI k)), (2, .long l), (4, .int m), (5, .int n), (6, .int (nI j))]) (st2 := [.int (nI j)]) (w3 := w) rfl rfl ?_
  refine sx_RP.step (pc2 := 95) (ls2 := [(0, .ref 0), (1, .int (nI k)), (2, .long l), (4, .int m), (5, .int n), (6, .int (nI j))]) (st2 := [.int 48, .int (nI j)]) (w3 := w) rfl rfl ?_
  refine sx_RP.br (p1 := 129) (l1 := [(0, .ref 0), (1, .int (nI k)), (2, .long l), (4, .int m), (5, .int n), (6, .int (nI j))]) (s1 := []) (v1 := w) (p2 := 98) (l2 := [(0, .ref 0), (1, .int (nI k)), (2, .long l), (4, .int m), (5, .int n), (6, .int (nI j))]) (s2 := []) (v2 := w) rfl rfl (fun q1 => ?_) (fun q1 => ?_)
  · replace q1 := of_decide_eq_true q1
    replace q1 := (nI_leI (a := 48) (b := j) (by omega) (by omega)).mp q1
    refine sx_RP.step (pc2 := 131) (ls2 := [(0, .ref 0), (1, .int (nI k)), (2, .long l), (4, .int m), (5, .int n), (6, .int (nI j))]) (st2 := [.int n]) (w3 := w) rfl rfl ?_
    refine sx_RP.ret (r := (some (.int n))) rfl rfl ?_
    exact ⟨⟨_, rfl⟩, hI, hE⟩
  · replace q1 := of_decide_eq_false q1
    replace q1 := mt (nI_leI (a := 48) (b := j) (by omega) (by omega)).mpr q1
    refine sx_RP.step (pc2 := 99) (ls2 := [(0, .ref 0), (1, .int (nI k)), (2, .long l), (4, .int m), (5, .int n), (6, .int (nI j))]) (st2 := [.ref 0]) (w3 := w) rfl rfl ?_
    refine sx_RP.step (pc2 := 100) (ls2 := [(0, .ref 0), (1, .int (nI k)), (2, .long l), (4, .int m), (5, .int n), (6, .int (nI j))]) (st2 := [.int (nI k), .ref 0]) (w3 := w) rfl rfl ?_
    refine sx_RP.step (pc2 := 101) (ls2 := [(0, .ref 0), (1, .int (nI k)), (2, .long l), (4, .int m), (5, .int n), (6, .int (nI j))]) (st2 := [.long l, .int (nI k), .ref 0]) (w3 := w) rfl rfl ?_
    refine sx_RP.step (pc2 := 103) (ls2 := [(0, .ref 0), (1, .int (nI k)), (2, .long l), (4, .int m), (5, .int n), (6, .int (nI j))]) (st2 := [.int (nI j), .long l, .int (nI k), .ref 0]) (w3 := w) rfl rfl ?_
    refine sx_RP.callp (as2 := [.ref 0, .int (nI k), .long l, .int (nI j)]) (rest2 := []) rfl rfl (sx_inv_v2 (mi := 74) (k := 246) (st := [.int (nI j), .long l, .int (nI k), .ref 0]) (w := w) rfl rfl hI.1.o0 rfl rfl rfl) rfl rfl rfl (s75 hI l (show k ≤ 5 by omega) (show j < 48 by omega)) (show _ = 106 from rfl) ?_
    rintro r4 w3 ⟨⟨v2, rfl⟩, hI4, hE6⟩
    have hE5 := hE.tr hE6
    show sx_RP _ _ _ _ _ [.int v2] _ _
    refine sx_RP.step (pc2 := 108) (ls2 := [(7, .int v2), (0, .ref 0), (1, .int (nI k)), (2, .long l), (4, .int m), (5, .int n), (6, .int (nI j))]) (st2 := []) (w3 := w3) rfl rfl ?_
    refine sx_RP.step (pc2 := 110) (ls2 := [(7, .int v2), (0, .ref 0), (1, .int (nI k)), (2, .long l), (4, .int m), (5, .int n), (6, .int (nI j))]) (st2 := [.int v2]) (w3 := w3) rfl rfl ?_
    refine sx_RP.step (pc2 := 112) (ls2 := [(7, .int v2), (0, .ref 0), (1, .int (nI k)), (2, .long l), (4, .int m), (5, .int n), (6, .int (nI j))]) (st2 := [.int m, .int v2]) (w3 := w3) rfl rfl ?_
    refine sx_RP.br (p1 := 123) (l1 := [(7, .int v2), (0, .ref 0), (1, .int (nI k)), (2, .long l), (4, .int m), (5, .int n), (6, .int (nI j))]) (s1 := []) (v1 := w3) (p2 := 115) (l2 := [(7, .int v2), (0, .ref 0), (1, .int (nI k)), (2, .long l), (4, .int m), (5, .int n), (6, .int (nI j))]) (s2 := []) (v2 := w3) rfl rfl (fun q7 => ?_) (fun q7 => ?_)
    · replace q7 := of_decide_eq_true q7
      refine sx_RP.step (pc2 := 126) (ls2 := [(6, .int ((nI j) + 1)), (7, .int v2), (0, .ref 0), (1, .int (nI k)), (2, .long l), (4, .int m), (5, .int n)]) (st2 := []) (w3 := w3) rfl rfl ?_
      rw [nI_1 j]
      refine sx_RP.step (pc2 := 91) (ls2 := [(6, .int (nI (j + 1))), (7, .int v2), (0, .ref 0), (1, .int (nI k)), (2, .long l), (4, .int m), (5, .int n)]) (st2 := []) (w3 := w3) rfl rfl ?_
      exact sx_RP.ls (sx_lr.cons rfl (sx_lr.cons rfl (sx_lr.cons rfl (sx_lr.cons rfl (sx_lr.cons rfl (sx_lr.cons rfl sx_lr.nil)))))) (kk w3 m n hI4 hE5 (by omega))
    · replace q7 := of_decide_eq_false q7
      refine sx_RP.step (pc2 := 117) (ls2 := [(7, .int v2), (0, .ref 0), (1, .int (nI k)), (2, .long l), (4, .int m), (5, .int n), (6, .int (nI j))]) (st2 := [.int v2]) (w3 := w3) rfl rfl ?_
      refine sx_RP.step (pc2 := 119) (ls2 := [(4, .int v2), (7, .int v2), (0, .ref 0), (1, .int (nI k)), (2, .long l), (5, .int n), (6, .int (nI j))]) (st2 := []) (w3 := w3) rfl rfl ?_
      refine sx_RP.step (pc2 := 121) (ls2 := [(4, .int v2), (7, .int v2), (0, .ref 0), (1, .int (nI k)), (2, .long l), (5, .int n), (6, .int (nI j))]) (st2 := [.int (nI j)]) (w3 := w3) rfl rfl ?_
      refine sx_RP.step (pc2 := 123) (ls2 := [(5, .int (nI j)), (4, .int v2), (7, .int v2), (0, .ref 0), (1, .int (nI k)), (2, .long l), (6, .int (nI j))]) (st2 := []) (w3 := w3) rfl rfl ?_
      refine sx_RP.step (pc2 := 126) (ls2 := [(6, .int ((nI j) + 1)), (5, .int (nI j)), (4, .int v2), (7, .int v2), (0, .ref 0), (1, .int (nI k)), (2, .long l)]) (st2 := []) (w3 := w3) rfl rfl ?_
      rw [nI_1 j]
      refine sx_RP.step (pc2 := 91) (ls2 := [(6, .int (nI (j + 1))), (5, .int (nI j)), (4, .int v2), (7, .int v2), (0, .ref 0), (1, .int (nI k)), (2, .long l)]) (st2 := []) (w3 := w3) rfl rfl ?_
      exact sx_RP.ls (sx_lr.cons rfl (sx_lr.cons rfl (sx_lr.cons rfl (sx_lr.cons rfl (sx_lr.cons rfl (sx_lr.cons rfl sx_lr.nil)))))) (kk w3 v2 (nI j) hI4 hE5 (by omega))
set_option maxRecDepth 20000 in
set_option maxHeartbeats 4000000 in
theorem s74L {xs : Option (List Int32)} {d : Nat} {w0 : List sx_C} {k : Nat} (l : Int64) (hk : k ≤ 5) : ∀ (fz j : Nat) (w : List sx_C) (m : Int32) (n : Int32) , 48 ≤ j + fz * 1 → j ≤ 48 → WI w → EC w0 w → sx_RP xs (d + 7) 74 91 [(0, .ref 0), (1, .int (nI k)), (2, .long l), (4, .int m), (5, .int n), (6, .int (nI j))] [] w (fun r w2 => (∃ v : Int32, r = some (.int v)) ∧ WI w2 ∧ EC w0 w2)
  | 0, j, w, m, n, h, hj, hI, hE => s74B l hk hI hE hj m n  (fun w4 um un hI4 hE4 hlt  => absurd hlt (by omega)) 
  | fz + 1, j, w, m, n, h, hj, hI, hE => s74B l hk hI hE hj m n  (fun w4 um un hI4 hE4 hlt  => s74L l hk  fz (j + 1) w4 um un (by omega) hlt hI4 hE4 ) 
set_option maxRecDepth 20000 in
set_option maxHeartbeats 4000000 in
theorem s74 {xs : Option (List Int32)} {d : Nat} {w : List sx_C} (hI : WI w) (a1 : Int32) : sx_RP xs (d + 7) 74 0 (lv_args 0 [.ref 0, .int a1]) [] w (fun r w2 => (∃ v : Int32, r = some (.int v)) ∧ WI w2 ∧ EC w w2) := by
  have hE : EC w w := EC.rf
  refine sx_RP.step (pc2 := 1) (ls2 := [(0, .ref 0), (1, .int a1)]) (st2 := [.int a1]) (w3 := w) rfl rfl ?_
  rcases in_cases a1 0 5 (m := 0) (n := 5) rfl rfl (by decide) (by decide) with q1 | ⟨x2, hx3, hx4, rfl⟩
  · refine sx_RP.cu (as := [.int a1]) (rest2 := []) (st3 := [.int 0]) rfl rfl rfl rfl rfl (cx_22n q1) rfl ?_
    refine sx_RP.step (pc2 := 7) (ls2 := [(0, .ref 0), (1, .int a1)]) (st2 := []) (w3 := w) rfl rfl ?_
    refine sx_RP.step (pc2 := 8) (ls2 := [(0, .ref 0), (1, .int a1)]) (st2 := [.ref 0]) (w3 := w) rfl rfl ?_
    refine sx_RP.step (pc2 := 10) (ls2 := [(0, .ref 0), (1, .int a1)]) (st2 := [.int (-1000000001), .ref 0]) (w3 := w) rfl rfl ?_
    refine sx_RP.callp (as2 := [.ref 0, .int (-1000000001)]) (rest2 := []) rfl rfl (sx_inv_v2 (mi := 74) (k := 78) (st := [.int (-1000000001), .ref 0]) (w := w) rfl rfl hI.1.o0 rfl rfl rfl) rfl rfl rfl (s9_0 hI) (show _ = 13 from rfl) ?_
    rintro r4 w6 ⟨rfl, hI7, hE9⟩
    have hE8 := hE.tr hE9
    show sx_RP _ _ _ _ _ [.int (-1000000001)] _ _
    refine sx_RP.ret (r := (some (.int (-1000000001)))) rfl rfl ?_
    exact ⟨⟨_, rfl⟩, hI7, hE8⟩
  · refine sx_RP.cu (as := [.int (nI x2)]) (rest2 := []) (st3 := [.int 1]) rfl rfl rfl rfl rfl (cx_22p ⟨nI_le (a := 0) hx3 (by omega), nI_le (b := 5) hx4 (by decide)⟩) rfl ?_
    refine sx_RP.step (pc2 := 14) (ls2 := [(0, .ref 0), (1, .int (nI x2))]) (st2 := []) (w3 := w) rfl rfl ?_
    refine sx_RP.step (pc2 := 15) (ls2 := [(0, .ref 0), (1, .int (nI x2))]) (st2 := [.ref 0]) (w3 := w) rfl rfl ?_
    refine sx_RP.gf (v := .ref 1) rfl rfl hI.1.o0 rfl rfl (show _ = 18 from rfl) ?_
    refine sx_RP.gc (k := 5) hI (Or.inl rfl) rfl rfl (by omega) (show _ = 21 from rfl) ?_
    obtain ⟨x10, hx11, ex12⟩ : inR (fi w 1 5) 9 := (hI.c (Or.inl rfl)).2
    rw [ex12]
    refine sx_RP.br (p1 := 31) (l1 := [(0, .ref 0), (1, .int (nI x2))]) (s1 := []) (v1 := w) (p2 := 24) (l2 := [(0, .ref 0), (1, .int (nI x2))]) (s2 := []) (v2 := w) rfl rfl (fun q13 => ?_) (fun q13 => ?_)
    · replace q13 := of_decide_eq_true q13
      replace q13 := mt (nI_eq (a := x10) (b := 0) (by omega) (by omega)).mpr q13
      refine sx_RP.step (pc2 := 32) (ls2 := [(0, .ref 0), (1, .int (nI x2))]) (st2 := [.ref 0]) (w3 := w) rfl rfl ?_
      refine sx_RP.gf (v := .ref 44) rfl rfl hI.1.o0 rfl rfl (show _ = 35 from rfl) ?_
      refine sx_RP.step (pc2 := 36) (ls2 := [(0, .ref 0), (1, .int (nI x2))]) (st2 := [.ref 0, .ref 44]) (w3 := w) rfl rfl ?_
      refine sx_RP.gf (v := .ref 1) rfl rfl hI.1.o0 rfl rfl (show _ = 39 from rfl) ?_
      refine sx_RP.gref (k := 0) (b := 2) hI (Or.inl rfl) rfl rfl (by omega) (show _ = 42 from rfl) ?_
      refine sx_RP.callp (as2 := [.ref 44, .ref 2]) (rest2 := []) rfl rfl (sx_inv_v2 (mi := 74) (k := 95) (st := [.ref 2, .ref 44]) (w := w) rfl rfl hI.1.o44 rfl rfl rfl) rfl rfl rfl (s16 hI (Or.inl rfl)) (show _ = 45 from rfl) ?_
      rintro r4 w14 ⟨rfl, hI15, hE17⟩
      have hE16 := hE.tr hE17
      show sx_RP _ _ _ _ _ [] _ _
      refine sx_RP.step (pc2 := 46) (ls2 := [(0, .ref 0), (1, .int (nI x2))]) (st2 := [.ref 0]) (w3 := w14) rfl rfl ?_
      refine sx_RP.step (pc2 := 47) (ls2 := [(0, .ref 0), (1, .int (nI x2))]) (st2 := [.int (nI x2), .ref 0]) (w3 := w14) rfl rfl ?_
      refine sx_RP.callp (as2 := [.ref 0, .int (nI x2)]) (rest2 := []) rfl rfl (sx_inv_v2 (mi := 74) (k := 242) (st := [.int (nI x2), .ref 0]) (w := w14) rfl rfl hI15.1.o0 rfl rfl rfl) rfl rfl rfl (s72 hI15 (show x2 ≤ 5 by omega)) (show _ = 50 from rfl) ?_
      rintro r4 w19 ⟨⟨v18, rfl⟩, hI20, hE22⟩
      have hE21 := hE16.tr hE22
      show sx_RP _ _ _ _ _ [.long v18] _ _
      refine sx_RP.step (pc2 := 51) (ls2 := [(2, .long v18), (0, .ref 0), (1, .int (nI x2))]) (st2 := []) (w3 := w19) rfl rfl ?_
      refine sx_RP.step (pc2 := 52) (ls2 := [(2, .long v18), (0, .ref 0), (1, .int (nI x2))]) (st2 := [.long v18]) (w3 := w19) rfl rfl ?_
      refine sx_RP.step (pc2 := 53) (ls2 := [(2, .long v18), (0, .ref 0), (1, .int (nI x2))]) (st2 := [.long 0, .long v18]) (w3 := w19) rfl rfl ?_
      refine sx_RP.step (pc2 := 54) (ls2 := [(2, .long v18), (0, .ref 0), (1, .int (nI x2))]) (st2 := [.int (lg_cmp v18 0)]) (w3 := w19) rfl rfl ?_
      refine sx_RP.br (p1 := 64) (l1 := [(2, .long v18), (0, .ref 0), (1, .int (nI x2))]) (s1 := []) (v1 := w19) (p2 := 57) (l2 := [(2, .long v18), (0, .ref 0), (1, .int (nI x2))]) (s2 := []) (v2 := w19) rfl rfl (fun q23 => ?_) (fun q23 => ?_)
      · replace q23 := of_decide_eq_true q23
        refine sx_RP.step (pc2 := 65) (ls2 := [(2, .long v18), (0, .ref 0), (1, .int (nI x2))]) (st2 := [.ref 0]) (w3 := w19) rfl rfl ?_
        refine sx_RP.gf (v := .ref 1) rfl rfl hI20.1.o0 rfl rfl (show _ = 68 from rfl) ?_
        rcases p63 (xs := xs) hI20 (Or.inl rfl) with c24 | ⟨⟨x25, hx26, ex27⟩, c24⟩
        · refine sx_RP.cu (as := [.ref 1]) (rest2 := []) (st3 := [.int 0]) rfl rfl (sx_inv_v2 (mi := 74) (k := 219) (st := [.ref 1]) (w := w19) rfl rfl (hI20.1.oC (Or.inl rfl)) rfl rfl rfl) rfl rfl (c24) rfl ?_
          refine sx_RP.step (pc2 := 74) (ls2 := [(2, .long v18), (0, .ref 0), (1, .int (nI x2))]) (st2 := []) (w3 := w19) rfl rfl ?_
          refine sx_RP.step (pc2 := 75) (ls2 := [(2, .long v18), (0, .ref 0), (1, .int (nI x2))]) (st2 := [.ref 0]) (w3 := w19) rfl rfl ?_
          refine sx_RP.step (pc2 := 77) (ls2 := [(2, .long v18), (0, .ref 0), (1, .int (nI x2))]) (st2 := [.int (-1000000002), .ref 0]) (w3 := w19) rfl rfl ?_
          refine sx_RP.callp (as2 := [.ref 0, .int (-1000000002)]) (rest2 := []) rfl rfl (sx_inv_v2 (mi := 74) (k := 78) (st := [.int (-1000000002), .ref 0]) (w := w19) rfl rfl hI20.1.o0 rfl rfl rfl) rfl rfl rfl (s9_1 hI20) (show _ = 80 from rfl) ?_
          rintro r4 w28 ⟨rfl, hI29, hE31⟩
          have hE30 := hE21.tr hE31
          show sx_RP _ _ _ _ _ [.int (-1000000002)] _ _
          refine sx_RP.ret (r := (some (.int (-1000000002)))) rfl rfl ?_
          exact ⟨⟨_, rfl⟩, hI29, hE30⟩
        · refine sx_RP.cu (as := [.ref 1]) (rest2 := []) (st3 := [.int 1]) rfl rfl (sx_inv_v2 (mi := 74) (k := 219) (st := [.ref 1]) (w := w19) rfl rfl (hI20.1.oC (Or.inl rfl)) rfl rfl rfl) rfl rfl (c24) rfl ?_
          refine sx_RP.step (pc2 := 81) (ls2 := [(2, .long v18), (0, .ref 0), (1, .int (nI x2))]) (st2 := []) (w3 := w19) rfl rfl ?_
          refine sx_RP.step (pc2 := 83) (ls2 := [(2, .long v18), (0, .ref 0), (1, .int (nI x2))]) (st2 := [.int 49]) (w3 := w19) rfl rfl ?_
          refine sx_RP.step (pc2 := 85) (ls2 := [(4, .int 49), (2, .long v18), (0, .ref 0), (1, .int (nI x2))]) (st2 := []) (w3 := w19) rfl rfl ?_
          refine sx_RP.step (pc2 := 86) (ls2 := [(4, .int 49), (2, .long v18), (0, .ref 0), (1, .int (nI x2))]) (st2 := [.int 0]) (w3 := w19) rfl rfl ?_
          refine sx_RP.step (pc2 := 88) (ls2 := [(5, .int 0), (4, .int 49), (2, .long v18), (0, .ref 0), (1, .int (nI x2))]) (st2 := []) (w3 := w19) rfl rfl ?_
          refine sx_RP.step (pc2 := 89) (ls2 := [(5, .int 0), (4, .int 49), (2, .long v18), (0, .ref 0), (1, .int (nI x2))]) (st2 := [.int 0]) (w3 := w19) rfl rfl ?_
          refine sx_RP.step (pc2 := 91) (ls2 := [(6, .int 0), (5, .int 0), (4, .int 49), (2, .long v18), (0, .ref 0), (1, .int (nI x2))]) (st2 := []) (w3 := w19) rfl rfl ?_
          exact sx_RP.ls (sx_lr.cons rfl (sx_lr.cons rfl (sx_lr.cons rfl (sx_lr.cons rfl (sx_lr.cons rfl (sx_lr.cons rfl sx_lr.nil)))))) (s74L v18 (show x2 ≤ 5 by omega) 48 0 w19 49 0 (by omega) (by omega) hI20 hE21 )
      · replace q23 := Decidable.not_not.mp (of_decide_eq_false q23)
        refine sx_RP.step (pc2 := 58) (ls2 := [(2, .long v18), (0, .ref 0), (1, .int (nI x2))]) (st2 := [.ref 0]) (w3 := w19) rfl rfl ?_
        refine sx_RP.step (pc2 := 60) (ls2 := [(2, .long v18), (0, .ref 0), (1, .int (nI x2))]) (st2 := [.int (-1000000004), .ref 0]) (w3 := w19) rfl rfl ?_
        refine sx_RP.callp (as2 := [.ref 0, .int (-1000000004)]) (rest2 := []) rfl rfl (sx_inv_v2 (mi := 74) (k := 78) (st := [.int (-1000000004), .ref 0]) (w := w19) rfl rfl hI20.1.o0 rfl rfl rfl) rfl rfl rfl (s9_3 hI20) (show _ = 63 from rfl) ?_
        rintro r4 w32 ⟨rfl, hI33, hE35⟩
        have hE34 := hE21.tr hE35
        show sx_RP _ _ _ _ _ [.int (-1000000004)] _ _
        refine sx_RP.ret (r := (some (.int (-1000000004)))) rfl rfl ?_
        exact ⟨⟨_, rfl⟩, hI33, hE34⟩
    · replace q13 := Decidable.not_not.mp (of_decide_eq_false q13)
      replace q13 := (nI_eq (a := x10) (b := 0) (by omega) (by omega)).mp q13
      refine sx_RP.step (pc2 := 25) (ls2 := [(0, .ref 0), (1, .int (nI x2))]) (st2 := [.ref 0]) (w3 := w) rfl rfl ?_
      refine sx_RP.step (pc2 := 27) (ls2 := [(0, .ref 0), (1, .int (nI x2))]) (st2 := [.int (-1000000004), .ref 0]) (w3 := w) rfl rfl ?_
      refine sx_RP.callp (as2 := [.ref 0, .int (-1000000004)]) (rest2 := []) rfl rfl (sx_inv_v2 (mi := 74) (k := 78) (st := [.int (-1000000004), .ref 0]) (w := w) rfl rfl hI.1.o0 rfl rfl rfl) rfl rfl rfl (s9_3 hI) (show _ = 30 from rfl) ?_
      rintro r4 w36 ⟨rfl, hI37, hE39⟩
      have hE38 := hE.tr hE39
      show sx_RP _ _ _ _ _ [.int (-1000000004)] _ _
      refine sx_RP.ret (r := (some (.int (-1000000004)))) rfl rfl ?_
      exact ⟨⟨_, rfl⟩, hI37, hE38⟩
set_option maxRecDepth 20000 in
set_option maxHeartbeats 4000000 in
theorem s81B {xs : Option (List Int32)} {d : Nat} {w w0 : List sx_C} {n : Nat} (hI : WI w) (hE : EC w0 w) {j : Nat} (hj : j ≤ 48) (m : Int32) (l : Int32) (kk : ∀ (w4 : List sx_C) (um : Int32) (ul : Int32), WI w4 → EC w0 w4 → j + 1 ≤ 48 → sx_RP xs (d + 7) 81 24 [(0, .ref 0), (1, .int (nI n)), (2, .int um), (3, .int ul), (4, .int (nI (j + 1)))] [] w4 (fun r w2 => (∃ v : Int32, r = some (.int v)) ∧ WI w2 ∧ EC w0 w2)) : sx_RP xs (d + 7) 81 24 [(0, .ref 0), (1, .int (nI n)), (2, .int m), (3, .int l), (4, .int (nI j))] [] w (fun r w2 => (∃ v : Int32, r = some (.int v)) ∧ WI w2 ∧ EC w0 w2) := by
  refine sx_RP.step (pc2 := 26) (ls2 := [(0, .ref 0), (1, .int (nI n)), (2, .int m), (3, .int l), (4, .int (nI j))]) (st2 := [.int (nI j)]) (w3 := w) rfl rfl ?_
  refine sx_RP.step (pc2 := 28) (ls2 := [(0, .ref 0), (1, .int (nI n)), (2, .int m), (3, .int l), (4, .int (nI j))]) (st2 := [.int 48, .int (nI j)]) (w3 := w) rfl rfl ?_
  refine sx_RP.br (p1 := 86) (l1 := [(0, .ref 0), (1, .int (nI n)), (2, .int m), (3, .int l), (4, .int (nI j))]) (s1 := []) (v1 := w) (p2 := 31) (l2 := [(0, .ref 0), (1, .int (nI n)), (2, .int m), (3, .int l), (4, .int (nI j))]) (s2 := []) (v2 := w) rfl rfl (fun q1 => ?_) (fun q1 => ?_)
  · replace q1 := of_decide_eq_true q1
    replace q1 := (nI_leI (a := 48) (b := j) (by omega) (by omega)).mp q1
    refine sx_RP.step (pc2 := 87) (ls2 := [(0, .ref 0), (1, .int (nI n)), (2, .int m), (3, .int l), (4, .int (nI j))]) (st2 := [.int l]) (w3 := w) rfl rfl ?_
    refine sx_RP.step (pc2 := 88) (ls2 := [(0, .ref 0), (1, .int (nI n)), (2, .int m), (3, .int l), (4, .int (nI j))]) (st2 := [.int (-1), .int l]) (w3 := w) rfl rfl ?_
    refine sx_RP.br (p1 := 100) (l1 := [(0, .ref 0), (1, .int (nI n)), (2, .int m), (3, .int l), (4, .int (nI j))]) (s1 := []) (v1 := w) (p2 := 91) (l2 := [(0, .ref 0), (1, .int (nI n)), (2, .int m), (3, .int l), (4, .int (nI j))]) (s2 := []) (v2 := w) rfl rfl (fun q2 => ?_) (fun q2 => ?_)
    · replace q2 := of_decide_eq_true q2
      refine sx_RP.step (pc2 := 101) (ls2 := [(0, .ref 0), (1, .int (nI n)), (2, .int m), (3, .int l), (4, .int (nI j))]) (st2 := [.int l]) (w3 := w) rfl rfl ?_
      refine sx_RP.ret (r := (some (.int l))) rfl rfl ?_
      exact ⟨⟨_, rfl⟩, hI, hE⟩
    · replace q2 := Decidable.not_not.mp (of_decide_eq_false q2)
      refine sx_RP.step (pc2 := 92) (ls2 := [(0, .ref 0), (1, .int (nI n)), (2, .int m), (3, .int l), (4, .int (nI j))]) (st2 := [.ref 0]) (w3 := w) rfl rfl ?_
      refine sx_RP.step (pc2 := 94) (ls2 := [(0, .ref 0), (1, .int (nI n)), (2, .int m), (3, .int l), (4, .int (nI j))]) (st2 := [.int (-1000000004), .ref 0]) (w3 := w) rfl rfl ?_
      refine sx_RP.callp (as2 := [.ref 0, .int (-1000000004)]) (rest2 := []) rfl rfl (sx_inv_v2 (mi := 81) (k := 78) (st := [.int (-1000000004), .ref 0]) (w := w) rfl rfl hI.1.o0 rfl rfl rfl) rfl rfl rfl (s9_3 hI) (show _ = 97 from rfl) ?_
      rintro r4 w3 ⟨rfl, hI4, hE6⟩
      have hE5 := hE.tr hE6
      show sx_RP _ _ _ _ _ [.int (-1000000004)] _ _
      refine sx_RP.step (pc2 := 101) (ls2 := [(0, .ref 0), (1, .int (nI n)), (2, .int m), (3, .int l), (4, .int (nI j))]) (st2 := [.int (-1000000004)]) (w3 := w3) rfl rfl ?_
      refine sx_RP.ret (r := (some (.int (-1000000004)))) rfl rfl ?_
      exact ⟨⟨_, rfl⟩, hI4, hE5⟩
  · replace q1 := of_decide_eq_false q1
    replace q1 := mt (nI_leI (a := 48) (b := j) (by omega) (by omega)).mpr q1
    refine sx_RP.step (pc2 := 32) (ls2 := [(0, .ref 0), (1, .int (nI n)), (2, .int m), (3, .int l), (4, .int (nI j))]) (st2 := [.ref 0]) (w3 := w) rfl rfl ?_
    refine sx_RP.gf (v := .ref 1) rfl rfl hI.1.o0 rfl rfl (show _ = 35 from rfl) ?_
    refine sx_RP.step (pc2 := 37) (ls2 := [(0, .ref 0), (1, .int (nI n)), (2, .int m), (3, .int l), (4, .int (nI j))]) (st2 := [.int (nI j), .ref 1]) (w3 := w) rfl rfl ?_
    refine sx_RP.step (pc2 := 38) (ls2 := [(0, .ref 0), (1, .int (nI n)), (2, .int m), (3, .int l), (4, .int (nI j))]) (st2 := [.int (nI n), .int (nI j), .ref 1]) (w3 := w) rfl rfl ?_
    obtain ⟨v7, c8⟩ := p77 hI (Or.inl rfl) (nI j) (nI n)
    refine sx_RP.cu (as := [.ref 1, .int (nI j), .int (nI n)]) (rest2 := []) (st3 := [.long v7]) rfl rfl (sx_inv_v2 (mi := 81) (k := 253) (st := [.int (nI n), .int (nI j), .ref 1]) (w := w) rfl rfl (hI.1.oC (Or.inl rfl)) rfl rfl rfl) rfl rfl (c8) rfl ?_
    refine sx_RP.step (pc2 := 42) (ls2 := [(0, .ref 0), (1, .int (nI n)), (2, .int m), (3, .int l), (4, .int (nI j))]) (st2 := [.ref 0, .long v7]) (w3 := w) rfl rfl ?_
    refine sx_RP.gf (v := .ref 1) rfl rfl hI.1.o0 rfl rfl (show _ = 45 from rfl) ?_
    refine sx_RP.gw hI (Or.inl rfl) rfl rfl (show _ = 48 from rfl) ?_
    refine sx_RP.step (pc2 := 49) (ls2 := [(0, .ref 0), (1, .int (nI n)), (2, .int m), (3, .int l), (4, .int (nI j))]) (st2 := [.long (v7 &&& (fj w 1 1))]) (w3 := w) rfl rfl ?_
    obtain ⟨v9, c10⟩ := p78 hI (v7 &&& (fj w 1 1))
    refine sx_RP.cu (as := [.long (v7 &&& (fj w 1 1))]) (rest2 := []) (st3 := [.int v9]) rfl rfl rfl rfl rfl (c10) rfl ?_
    refine sx_RP.step (pc2 := 54) (ls2 := [(5, .int v9), (0, .ref 0), (1, .int (nI n)), (2, .int m), (3, .int l), (4, .int (nI j))]) (st2 := []) (w3 := w) rfl rfl ?_
    refine sx_RP.step (pc2 := 55) (ls2 := [(5, .int v9), (0, .ref 0), (1, .int (nI n)), (2, .int m), (3, .int l), (4, .int (nI j))]) (st2 := [.ref 0]) (w3 := w) rfl rfl ?_
    refine sx_RP.gf (v := .ref 1) rfl rfl hI.1.o0 rfl rfl (show _ = 58 from rfl) ?_
    refine sx_RP.gref (k := 0) (b := 2) hI (Or.inl rfl) rfl rfl (by omega) (show _ = 61 from rfl) ?_
    refine sx_RP.step (pc2 := 63) (ls2 := [(5, .int v9), (0, .ref 0), (1, .int (nI n)), (2, .int m), (3, .int l), (4, .int (nI j))]) (st2 := [.int (nI j), .ref 2]) (w3 := w) rfl rfl ?_
    refine sx_RP.ild (c := j) rfl (hI.1.aS (Or.inl rfl)).1 (hI.1.aS (Or.inl rfl)).2 (sx_in_nI (show j < 48 by omega) (by decide)) (show (nI j).toNatClampNeg = j from nI_clamp (by omega)) (show _ = 64 from rfl) ?_
    obtain ⟨x11, hx12, ex13⟩ : inR ((ia w 2).getD j 0) 3 := hI.st (Or.inl rfl) (show j < 48 by omega)
    rw [ex13]
    refine sx_RP.step (pc2 := 65) (ls2 := [(5, .int v9), (0, .ref 0), (1, .int (nI n)), (2, .int m), (3, .int l), (4, .int (nI j))]) (st2 := [.int 3, .int (nI x11)]) (w3 := w) rfl rfl ?_
    refine sx_RP.br (p1 := 80) (l1 := [(5, .int v9), (0, .ref 0), (1, .int (nI n)), (2, .int m), (3, .int l), (4, .int (nI j))]) (s1 := []) (v1 := w) (p2 := 68) (l2 := [(5, .int v9), (0, .ref 0), (1, .int (nI n)), (2, .int m), (3, .int l), (4, .int (nI j))]) (s2 := []) (v2 := w) rfl rfl (fun q14 => ?_) (fun q14 => ?_)
    · replace q14 := of_decide_eq_true q14
      replace q14 := (nI_eq (a := x11) (b := 3) (by omega) (by omega)).mp q14
      refine sx_RP.step (pc2 := 83) (ls2 := [(4, .int ((nI j) + 1)), (5, .int v9), (0, .ref 0), (1, .int (nI n)), (2, .int m), (3, .int l)]) (st2 := []) (w3 := w) rfl rfl ?_
      rw [nI_1 j]
      refine sx_RP.step (pc2 := 24) (ls2 := [(4, .int (nI (j + 1))), (5, .int v9), (0, .ref 0), (1, .int (nI n)), (2, .int m), (3, .int l)]) (st2 := []) (w3 := w) rfl rfl ?_
      exact sx_RP.ls (sx_lr.cons rfl (sx_lr.cons rfl (sx_lr.cons rfl (sx_lr.cons rfl (sx_lr.cons rfl sx_lr.nil))))) (kk w m l hI hE (by omega))
    · replace q14 := of_decide_eq_false q14
      replace q14 := mt (nI_eq (a := x11) (b := 3) (by omega) (by omega)).mpr q14
      refine sx_RP.step (pc2 := 70) (ls2 := [(5, .int v9), (0, .ref 0), (1, .int (nI n)), (2, .int m), (3, .int l), (4, .int (nI j))]) (st2 := [.int v9]) (w3 := w) rfl rfl ?_
      refine sx_RP.step (pc2 := 71) (ls2 := [(5, .int v9), (0, .ref 0), (1, .int (nI n)), (2, .int m), (3, .int l), (4, .int (nI j))]) (st2 := [.int m, .int v9]) (w3 := w) rfl rfl ?_
      refine sx_RP.br (p1 := 80) (l1 := [(5, .int v9), (0, .ref 0), (1, .int (nI n)), (2, .int m), (3, .int l), (4, .int (nI j))]) (s1 := []) (v1 := w) (p2 := 74) (l2 := [(5, .int v9), (0, .ref 0), (1, .int (nI n)), (2, .int m), (3, .int l), (4, .int (nI j))]) (s2 := []) (v2 := w) rfl rfl (fun q15 => ?_) (fun q15 => ?_)
      · replace q15 := of_decide_eq_true q15
        refine sx_RP.step (pc2 := 83) (ls2 := [(4, .int ((nI j) + 1)), (5, .int v9), (0, .ref 0), (1, .int (nI n)), (2, .int m), (3, .int l)]) (st2 := []) (w3 := w) rfl rfl ?_
        rw [nI_1 j]
        refine sx_RP.step (pc2 := 24) (ls2 := [(4, .int (nI (j + 1))), (5, .int v9), (0, .ref 0), (1, .int (nI n)), (2, .int m), (3, .int l)]) (st2 := []) (w3 := w) rfl rfl ?_
        exact sx_RP.ls (sx_lr.cons rfl (sx_lr.cons rfl (sx_lr.cons rfl (sx_lr.cons rfl (sx_lr.cons rfl sx_lr.nil))))) (kk w m l hI hE (by omega))
      · replace q15 := of_decide_eq_false q15
        refine sx_RP.step (pc2 := 76) (ls2 := [(5, .int v9), (0, .ref 0), (1, .int (nI n)), (2, .int m), (3, .int l), (4, .int (nI j))]) (st2 := [.int v9]) (w3 := w) rfl rfl ?_
        refine sx_RP.step (pc2 := 77) (ls2 := [(2, .int v9), (5, .int v9), (0, .ref 0), (1, .int (nI n)), (3, .int l), (4, .int (nI j))]) (st2 := []) (w3 := w) rfl rfl ?_
        refine sx_RP.step (pc2 := 79) (ls2 := [(2, .int v9), (5, .int v9), (0, .ref 0), (1, .int (nI n)), (3, .int l), (4, .int (nI j))]) (st2 := [.int (nI j)]) (w3 := w) rfl rfl ?_
        refine sx_RP.step (pc2 := 80) (ls2 := [(3, .int (nI j)), (2, .int v9), (5, .int v9), (0, .ref 0), (1, .int (nI n)), (4, .int (nI j))]) (st2 := []) (w3 := w) rfl rfl ?_
        refine sx_RP.step (pc2 := 83) (ls2 := [(4, .int ((nI j) + 1)), (3, .int (nI j)), (2, .int v9), (5, .int v9), (0, .ref 0), (1, .int (nI n))]) (st2 := []) (w3 := w) rfl rfl ?_
        rw [nI_1 j]
        refine sx_RP.step (pc2 := 24) (ls2 := [(4, .int (nI (j + 1))), (3, .int (nI j)), (2, .int v9), (5, .int v9), (0, .ref 0), (1, .int (nI n))]) (st2 := []) (w3 := w) rfl rfl ?_
        exact sx_RP.ls (sx_lr.cons rfl (sx_lr.cons rfl (sx_lr.cons rfl (sx_lr.cons rfl (sx_lr.cons rfl sx_lr.nil))))) (kk w v9 (nI j) hI hE (by omega))
set_option maxRecDepth 20000 in
set_option maxHeartbeats 4000000 in
theorem s81L {xs : Option (List Int32)} {d : Nat} {w0 : List sx_C} {n : Nat} : ∀ (fz j : Nat) (w : List sx_C) (m : Int32) (l : Int32) , 48 ≤ j + fz * 1 → j ≤ 48 → WI w → EC w0 w → sx_RP xs (d + 7) 81 24 [(0, .ref 0), (1, .int (nI n)), (2, .int m), (3, .int l), (4, .int (nI j))] [] w (fun r w2 => (∃ v : Int32, r = some (.int v)) ∧ WI w2 ∧ EC w0 w2)
  | 0, j, w, m, l, h, hj, hI, hE => s81B (n := n) hI hE hj m l  (fun w4 um ul hI4 hE4 hlt  => absurd hlt (by omega)) 
  | fz + 1, j, w, m, l, h, hj, hI, hE => s81B (n := n) hI hE hj m l  (fun w4 um ul hI4 hE4 hlt  => s81L (n := n)  fz (j + 1) w4 um ul (by omega) hlt hI4 hE4 ) 
set_option maxRecDepth 20000 in
set_option maxHeartbeats 4000000 in
theorem s81 {xs : Option (List Int32)} {d : Nat} {w : List sx_C} (hI : WI w) (a1 : Int32) : sx_RP xs (d + 7) 81 0 (lv_args 0 [.ref 0, .int a1]) [] w (fun r w2 => (∃ v : Int32, r = some (.int v)) ∧ WI w2 ∧ EC w w2) := by
  have hE : EC w w := EC.rf
  refine sx_RP.step (pc2 := 1) (ls2 := [(0, .ref 0), (1, .int a1)]) (st2 := [.int a1]) (w3 := w) rfl rfl ?_
  refine sx_RP.step (pc2 := 2) (ls2 := [(0, .ref 0), (1, .int a1)]) (st2 := [.int 1, .int a1]) (w3 := w) rfl rfl ?_
  refine sx_RP.step (pc2 := 4) (ls2 := [(0, .ref 0), (1, .int a1)]) (st2 := [.int 30, .int 1, .int a1]) (w3 := w) rfl rfl ?_
  rcases in_cases a1 1 30 (m := 1) (n := 30) rfl rfl (by decide) (by decide) with q1 | ⟨x2, hx3, hx4, rfl⟩
  · refine sx_RP.cu (as := [.int a1, .int 1, .int 30]) (rest2 := []) (st3 := [.int 0]) rfl rfl rfl rfl rfl (cx_8n q1) rfl ?_
    refine sx_RP.step (pc2 := 10) (ls2 := [(0, .ref 0), (1, .int a1)]) (st2 := []) (w3 := w) rfl rfl ?_
    refine sx_RP.step (pc2 := 11) (ls2 := [(0, .ref 0), (1, .int a1)]) (st2 := [.ref 0]) (w3 := w) rfl rfl ?_
    refine sx_RP.step (pc2 := 13) (ls2 := [(0, .ref 0), (1, .int a1)]) (st2 := [.int (-1000000001), .ref 0]) (w3 := w) rfl rfl ?_
    refine sx_RP.callp (as2 := [.ref 0, .int (-1000000001)]) (rest2 := []) rfl rfl (sx_inv_v2 (mi := 81) (k := 78) (st := [.int (-1000000001), .ref 0]) (w := w) rfl rfl hI.1.o0 rfl rfl rfl) rfl rfl rfl (s9_0 hI) (show _ = 16 from rfl) ?_
    rintro r4 w6 ⟨rfl, hI7, hE9⟩
    have hE8 := hE.tr hE9
    show sx_RP _ _ _ _ _ [.int (-1000000001)] _ _
    refine sx_RP.ret (r := (some (.int (-1000000001)))) rfl rfl ?_
    exact ⟨⟨_, rfl⟩, hI7, hE8⟩
  · refine sx_RP.cu (as := [.int (nI x2), .int 1, .int 30]) (rest2 := []) (st3 := [.int 1]) rfl rfl rfl rfl rfl (cx_8p ⟨nI_le (a := 1) hx3 (by omega), nI_le (b := 30) hx4 (by decide)⟩) rfl ?_
    refine sx_RP.step (pc2 := 17) (ls2 := [(0, .ref 0), (1, .int (nI x2))]) (st2 := []) (w3 := w) rfl rfl ?_
    refine sx_RP.step (pc2 := 18) (ls2 := [(0, .ref 0), (1, .int (nI x2))]) (st2 := [.int 0]) (w3 := w) rfl rfl ?_
    refine sx_RP.step (pc2 := 19) (ls2 := [(2, .int 0), (0, .ref 0), (1, .int (nI x2))]) (st2 := []) (w3 := w) rfl rfl ?_
    refine sx_RP.step (pc2 := 20) (ls2 := [(2, .int 0), (0, .ref 0), (1, .int (nI x2))]) (st2 := [.int (-1)]) (w3 := w) rfl rfl ?_
    refine sx_RP.step (pc2 := 21) (ls2 := [(3, .int (-1)), (2, .int 0), (0, .ref 0), (1, .int (nI x2))]) (st2 := []) (w3 := w) rfl rfl ?_
    refine sx_RP.step (pc2 := 22) (ls2 := [(3, .int (-1)), (2, .int 0), (0, .ref 0), (1, .int (nI x2))]) (st2 := [.int 0]) (w3 := w) rfl rfl ?_
    refine sx_RP.step (pc2 := 24) (ls2 := [(4, .int 0), (3, .int (-1)), (2, .int 0), (0, .ref 0), (1, .int (nI x2))]) (st2 := []) (w3 := w) rfl rfl ?_
    exact sx_RP.ls (sx_lr.cons rfl (sx_lr.cons rfl (sx_lr.cons rfl (sx_lr.cons rfl (sx_lr.cons rfl sx_lr.nil))))) (s81L  48 0 w 0 (-1) (by omega) (by omega) hI hE )
set_option maxRecDepth 20000 in
set_option maxHeartbeats 4000000 in
theorem s86_0 {xs : Option (List Int32)} {d n : Nat} {w w0 : List sx_C} (hI : WI w) (hE : EC w0 w) (g : Int32) : sx_RP xs (d + 7) 86 23 [(0, .ref 0), (1, .int (nI n)), (2, .int g), (3, .int 0)] [] w (fun r w2 => (∃ v : Int32, r = some (.int v)) ∧ WI w2 ∧ EC w0 w2) := by
  refine sx_RP.step (pc2 := 24) (ls2 := [(0, .ref 0), (1, .int (nI n)), (2, .int g), (3, .int 0)]) (st2 := [.int 0]) (w3 := w) rfl rfl ?_
  refine sx_RP.step (pc2 := 62) (ls2 := [(0, .ref 0), (1, .int (nI n)), (2, .int g), (3, .int 0)]) (st2 := []) (w3 := w) rfl rfl ?_
  refine sx_RP.step (pc2 := 63) (ls2 := [(0, .ref 0), (1, .int (nI n)), (2, .int g), (3, .int 0)]) (st2 := [.int g]) (w3 := w) rfl rfl ?_
  refine sx_RP.br (p1 := 75) (l1 := [(0, .ref 0), (1, .int (nI n)), (2, .int g), (3, .int 0)]) (s1 := []) (v1 := w) (p2 := 66) (l2 := [(0, .ref 0), (1, .int (nI n)), (2, .int g), (3, .int 0)]) (s2 := []) (v2 := w) rfl rfl (fun q1 => ?_) (fun q1 => ?_)
  · replace q1 := of_decide_eq_true q1
    refine sx_RP.step (pc2 := 76) (ls2 := [(0, .ref 0), (1, .int (nI n)), (2, .int g), (3, .int 0)]) (st2 := [.int g]) (w3 := w) rfl rfl ?_
    refine sx_RP.ret (r := (some (.int g))) rfl rfl ?_
    exact ⟨⟨_, rfl⟩, hI, hE⟩
  · replace q1 := Decidable.not_not.mp (of_decide_eq_false q1)
    refine sx_RP.step (pc2 := 67) (ls2 := [(0, .ref 0), (1, .int (nI n)), (2, .int g), (3, .int 0)]) (st2 := [.ref 0]) (w3 := w) rfl rfl ?_
    refine sx_RP.step (pc2 := 69) (ls2 := [(0, .ref 0), (1, .int (nI n)), (2, .int g), (3, .int 0)]) (st2 := [.int (-1000000004), .ref 0]) (w3 := w) rfl rfl ?_
    refine sx_RP.callp (as2 := [.ref 0, .int (-1000000004)]) (rest2 := []) rfl rfl (sx_inv_v2 (mi := 86) (k := 78) (st := [.int (-1000000004), .ref 0]) (w := w) rfl rfl hI.1.o0 rfl rfl rfl) rfl rfl rfl (s9_3 hI) (show _ = 72 from rfl) ?_
    rintro r4 w2 ⟨rfl, hI3, hE5⟩
    have hE4 := hE.tr hE5
    show sx_RP _ _ _ _ _ [.int (-1000000004)] _ _
    refine sx_RP.step (pc2 := 76) (ls2 := [(0, .ref 0), (1, .int (nI n)), (2, .int g), (3, .int 0)]) (st2 := [.int (-1000000004)]) (w3 := w2) rfl rfl ?_
    refine sx_RP.ret (r := (some (.int (-1000000004)))) rfl rfl ?_
    exact ⟨⟨_, rfl⟩, hI3, hE4⟩
set_option maxRecDepth 20000 in
set_option maxHeartbeats 4000000 in
theorem s86_1 {xs : Option (List Int32)} {d n : Nat} {w w0 : List sx_C} (hI : WI w) (hE : EC w0 w) (g : Int32) : sx_RP xs (d + 7) 86 23 [(0, .ref 0), (1, .int (nI n)), (2, .int g), (3, .int 1)] [] w (fun r w2 => (∃ v : Int32, r = some (.int v)) ∧ WI w2 ∧ EC w0 w2) := by
  refine sx_RP.step (pc2 := 24) (ls2 := [(0, .ref 0), (1, .int (nI n)), (2, .int g), (3, .int 1)]) (st2 := [.int 1]) (w3 := w) rfl rfl ?_
  refine sx_RP.step (pc2 := 27) (ls2 := [(0, .ref 0), (1, .int (nI n)), (2, .int g), (3, .int 1)]) (st2 := []) (w3 := w) rfl rfl ?_
  refine sx_RP.step (pc2 := 28) (ls2 := [(0, .ref 0), (1, .int (nI n)), (2, .int g), (3, .int 1)]) (st2 := [.int g]) (w3 := w) rfl rfl ?_
  refine sx_RP.step (pc2 := 29) (ls2 := [(0, .ref 0), (1, .int (nI n)), (2, .int g), (3, .int 1)]) (st2 := [.int 1, .int g]) (w3 := w) rfl rfl ?_
  refine sx_RP.step (pc2 := 30) (ls2 := [(0, .ref 0), (1, .int (nI n)), (2, .int g), (3, .int 1)]) (st2 := [.int (g + 1)]) (w3 := w) rfl rfl ?_
  refine sx_RP.step (pc2 := 32) (ls2 := [(4, .int (g + 1)), (0, .ref 0), (1, .int (nI n)), (2, .int g), (3, .int 1)]) (st2 := []) (w3 := w) rfl rfl ?_
  refine sx_RP.step (pc2 := 34) (ls2 := [(4, .int (g + 1)), (0, .ref 0), (1, .int (nI n)), (2, .int g), (3, .int 1)]) (st2 := [.int (g + 1)]) (w3 := w) rfl rfl ?_
  refine sx_RP.step (pc2 := 36) (ls2 := [(4, .int (g + 1)), (0, .ref 0), (1, .int (nI n)), (2, .int g), (3, .int 1)]) (st2 := [.int 99, .int (g + 1)]) (w3 := w) rfl rfl ?_
  refine sx_RP.br (p1 := 55) (l1 := [(4, .int (g + 1)), (0, .ref 0), (1, .int (nI n)), (2, .int g), (3, .int 1)]) (s1 := []) (v1 := w) (p2 := 39) (l2 := [(4, .int (g + 1)), (0, .ref 0), (1, .int (nI n)), (2, .int g), (3, .int 1)]) (s2 := []) (v2 := w) rfl rfl (fun q1 => ?_) (fun q1 => ?_)
  · replace q1 := of_decide_eq_true q1
    refine sx_RP.step (pc2 := 56) (ls2 := [(4, .int (g + 1)), (0, .ref 0), (1, .int (nI n)), (2, .int g), (3, .int 1)]) (st2 := [.int 1]) (w3 := w) rfl rfl ?_
    refine sx_RP.step (pc2 := 57) (ls2 := [(4, .int (g + 1)), (0, .ref 0), (1, .int (nI n)), (2, .int g), (3, .int 1)]) (st2 := [.int 2, .int 1]) (w3 := w) rfl rfl ?_
    refine sx_RP.step (pc2 := 58) (ls2 := [(4, .int (g + 1)), (0, .ref 0), (1, .int (nI n)), (2, .int g), (3, .int 1)]) (st2 := [.int 0]) (w3 := w) rfl rfl ?_
    refine sx_RP.step (pc2 := 59) (ls2 := [(3, .int 0), (4, .int (g + 1)), (0, .ref 0), (1, .int (nI n)), (2, .int g)]) (st2 := []) (w3 := w) rfl rfl ?_
    refine sx_RP.step (pc2 := 23) (ls2 := [(3, .int 0), (4, .int (g + 1)), (0, .ref 0), (1, .int (nI n)), (2, .int g)]) (st2 := []) (w3 := w) rfl rfl ?_
    exact sx_RP.ls (sx_lr.cons rfl (sx_lr.cons rfl (sx_lr.cons rfl (sx_lr.cons rfl sx_lr.nil)))) (s86_0 hI hE g)
  · replace q1 := of_decide_eq_false q1
    refine sx_RP.step (pc2 := 40) (ls2 := [(4, .int (g + 1)), (0, .ref 0), (1, .int (nI n)), (2, .int g), (3, .int 1)]) (st2 := [.ref 0]) (w3 := w) rfl rfl ?_
    refine sx_RP.gf (v := .ref 1) rfl rfl hI.1.o0 rfl rfl (show _ = 43 from rfl) ?_
    refine sx_RP.step (pc2 := 45) (ls2 := [(4, .int (g + 1)), (0, .ref 0), (1, .int (nI n)), (2, .int g), (3, .int 1)]) (st2 := [.int (g + 1), .ref 1]) (w3 := w) rfl rfl ?_
    obtain ⟨v2, c3⟩ := p84 hI (Or.inl rfl) (g + 1)
    refine sx_RP.cu (as := [.ref 1, .int (g + 1)]) (rest2 := []) (st3 := [.int v2]) rfl rfl (sx_inv_v2 (mi := 86) (k := 276) (st := [.int (g + 1), .ref 1]) (w := w) rfl rfl (hI.1.oC (Or.inl rfl)) rfl rfl rfl) rfl rfl (c3) rfl ?_
    refine sx_RP.step (pc2 := 49) (ls2 := [(4, .int (g + 1)), (0, .ref 0), (1, .int (nI n)), (2, .int g), (3, .int 1)]) (st2 := [.int (nI n), .int v2]) (w3 := w) rfl rfl ?_
    refine sx_RP.br (p1 := 55) (l1 := [(4, .int (g + 1)), (0, .ref 0), (1, .int (nI n)), (2, .int g), (3, .int 1)]) (s1 := []) (v1 := w) (p2 := 52) (l2 := [(4, .int (g + 1)), (0, .ref 0), (1, .int (nI n)), (2, .int g), (3, .int 1)]) (s2 := []) (v2 := w) rfl rfl (fun q4 => ?_) (fun q4 => ?_)
    · replace q4 := of_decide_eq_true q4
      refine sx_RP.step (pc2 := 56) (ls2 := [(4, .int (g + 1)), (0, .ref 0), (1, .int (nI n)), (2, .int g), (3, .int 1)]) (st2 := [.int 1]) (w3 := w) rfl rfl ?_
      refine sx_RP.step (pc2 := 57) (ls2 := [(4, .int (g + 1)), (0, .ref 0), (1, .int (nI n)), (2, .int g), (3, .int 1)]) (st2 := [.int 2, .int 1]) (w3 := w) rfl rfl ?_
      refine sx_RP.step (pc2 := 58) (ls2 := [(4, .int (g + 1)), (0, .ref 0), (1, .int (nI n)), (2, .int g), (3, .int 1)]) (st2 := [.int 0]) (w3 := w) rfl rfl ?_
      refine sx_RP.step (pc2 := 59) (ls2 := [(3, .int 0), (4, .int (g + 1)), (0, .ref 0), (1, .int (nI n)), (2, .int g)]) (st2 := []) (w3 := w) rfl rfl ?_
      refine sx_RP.step (pc2 := 23) (ls2 := [(3, .int 0), (4, .int (g + 1)), (0, .ref 0), (1, .int (nI n)), (2, .int g)]) (st2 := []) (w3 := w) rfl rfl ?_
      exact sx_RP.ls (sx_lr.cons rfl (sx_lr.cons rfl (sx_lr.cons rfl (sx_lr.cons rfl sx_lr.nil)))) (s86_0 hI hE g)
    · replace q4 := of_decide_eq_false q4
      refine sx_RP.step (pc2 := 54) (ls2 := [(4, .int (g + 1)), (0, .ref 0), (1, .int (nI n)), (2, .int g), (3, .int 1)]) (st2 := [.int (g + 1)]) (w3 := w) rfl rfl ?_
      refine sx_RP.step (pc2 := 55) (ls2 := [(2, .int (g + 1)), (4, .int (g + 1)), (0, .ref 0), (1, .int (nI n)), (3, .int 1)]) (st2 := []) (w3 := w) rfl rfl ?_
      refine sx_RP.step (pc2 := 56) (ls2 := [(2, .int (g + 1)), (4, .int (g + 1)), (0, .ref 0), (1, .int (nI n)), (3, .int 1)]) (st2 := [.int 1]) (w3 := w) rfl rfl ?_
      refine sx_RP.step (pc2 := 57) (ls2 := [(2, .int (g + 1)), (4, .int (g + 1)), (0, .ref 0), (1, .int (nI n)), (3, .int 1)]) (st2 := [.int 2, .int 1]) (w3 := w) rfl rfl ?_
      refine sx_RP.step (pc2 := 58) (ls2 := [(2, .int (g + 1)), (4, .int (g + 1)), (0, .ref 0), (1, .int (nI n)), (3, .int 1)]) (st2 := [.int 0]) (w3 := w) rfl rfl ?_
      refine sx_RP.step (pc2 := 59) (ls2 := [(3, .int 0), (2, .int (g + 1)), (4, .int (g + 1)), (0, .ref 0), (1, .int (nI n))]) (st2 := []) (w3 := w) rfl rfl ?_
      refine sx_RP.step (pc2 := 23) (ls2 := [(3, .int 0), (2, .int (g + 1)), (4, .int (g + 1)), (0, .ref 0), (1, .int (nI n))]) (st2 := []) (w3 := w) rfl rfl ?_
      exact sx_RP.ls (sx_lr.cons rfl (sx_lr.cons rfl (sx_lr.cons rfl (sx_lr.cons rfl sx_lr.nil)))) (s86_0 hI hE (g + 1))
set_option maxRecDepth 20000 in
set_option maxHeartbeats 4000000 in
theorem s86_2 {xs : Option (List Int32)} {d n : Nat} {w w0 : List sx_C} (hI : WI w) (hE : EC w0 w) (g : Int32) : sx_RP xs (d + 7) 86 23 [(0, .ref 0), (1, .int (nI n)), (2, .int g), (3, .int 2)] [] w (fun r w2 => (∃ v : Int32, r = some (.int v)) ∧ WI w2 ∧ EC w0 w2) := by
  refine sx_RP.step (pc2 := 24) (ls2 := [(0, .ref 0), (1, .int (nI n)), (2, .int g), (3, .int 2)]) (st2 := [.int 2]) (w3 := w) rfl rfl ?_
  refine sx_RP.step (pc2 := 27) (ls2 := [(0, .ref 0), (1, .int (nI n)), (2, .int g), (3, .int 2)]) (st2 := []) (w3 := w) rfl rfl ?_
  refine sx_RP.step (pc2 := 28) (ls2 := [(0, .ref 0), (1, .int (nI n)), (2, .int g), (3, .int 2)]) (st2 := [.int g]) (w3 := w) rfl rfl ?_
  refine sx_RP.step (pc2 := 29) (ls2 := [(0, .ref 0), (1, .int (nI n)), (2, .int g), (3, .int 2)]) (st2 := [.int 2, .int g]) (w3 := w) rfl rfl ?_
  refine sx_RP.step (pc2 := 30) (ls2 := [(0, .ref 0), (1, .int (nI n)), (2, .int g), (3, .int 2)]) (st2 := [.int (g + 2)]) (w3 := w) rfl rfl ?_
  refine sx_RP.step (pc2 := 32) (ls2 := [(4, .int (g + 2)), (0, .ref 0), (1, .int (nI n)), (2, .int g), (3, .int 2)]) (st2 := []) (w3 := w) rfl rfl ?_
  refine sx_RP.step (pc2 := 34) (ls2 := [(4, .int (g + 2)), (0, .ref 0), (1, .int (nI n)), (2, .int g), (3, .int 2)]) (st2 := [.int (g + 2)]) (w3 := w) rfl rfl ?_
  refine sx_RP.step (pc2 := 36) (ls2 := [(4, .int (g + 2)), (0, .ref 0), (1, .int (nI n)), (2, .int g), (3, .int 2)]) (st2 := [.int 99, .int (g + 2)]) (w3 := w) rfl rfl ?_
  refine sx_RP.br (p1 := 55) (l1 := [(4, .int (g + 2)), (0, .ref 0), (1, .int (nI n)), (2, .int g), (3, .int 2)]) (s1 := []) (v1 := w) (p2 := 39) (l2 := [(4, .int (g + 2)), (0, .ref 0), (1, .int (nI n)), (2, .int g), (3, .int 2)]) (s2 := []) (v2 := w) rfl rfl (fun q1 => ?_) (fun q1 => ?_)
  · replace q1 := of_decide_eq_true q1
    refine sx_RP.step (pc2 := 56) (ls2 := [(4, .int (g + 2)), (0, .ref 0), (1, .int (nI n)), (2, .int g), (3, .int 2)]) (st2 := [.int 2]) (w3 := w) rfl rfl ?_
    refine sx_RP.step (pc2 := 57) (ls2 := [(4, .int (g + 2)), (0, .ref 0), (1, .int (nI n)), (2, .int g), (3, .int 2)]) (st2 := [.int 2, .int 2]) (w3 := w) rfl rfl ?_
    refine sx_RP.step (pc2 := 58) (ls2 := [(4, .int (g + 2)), (0, .ref 0), (1, .int (nI n)), (2, .int g), (3, .int 2)]) (st2 := [.int 1]) (w3 := w) rfl rfl ?_
    refine sx_RP.step (pc2 := 59) (ls2 := [(3, .int 1), (4, .int (g + 2)), (0, .ref 0), (1, .int (nI n)), (2, .int g)]) (st2 := []) (w3 := w) rfl rfl ?_
    refine sx_RP.step (pc2 := 23) (ls2 := [(3, .int 1), (4, .int (g + 2)), (0, .ref 0), (1, .int (nI n)), (2, .int g)]) (st2 := []) (w3 := w) rfl rfl ?_
    exact sx_RP.ls (sx_lr.cons rfl (sx_lr.cons rfl (sx_lr.cons rfl (sx_lr.cons rfl sx_lr.nil)))) (s86_1 hI hE g)
  · replace q1 := of_decide_eq_false q1
    refine sx_RP.step (pc2 := 40) (ls2 := [(4, .int (g + 2)), (0, .ref 0), (1, .int (nI n)), (2, .int g), (3, .int 2)]) (st2 := [.ref 0]) (w3 := w) rfl rfl ?_
    refine sx_RP.gf (v := .ref 1) rfl rfl hI.1.o0 rfl rfl (show _ = 43 from rfl) ?_
    refine sx_RP.step (pc2 := 45) (ls2 := [(4, .int (g + 2)), (0, .ref 0), (1, .int (nI n)), (2, .int g), (3, .int 2)]) (st2 := [.int (g + 2), .ref 1]) (w3 := w) rfl rfl ?_
    obtain ⟨v2, c3⟩ := p84 hI (Or.inl rfl) (g + 2)
    refine sx_RP.cu (as := [.ref 1, .int (g + 2)]) (rest2 := []) (st3 := [.int v2]) rfl rfl (sx_inv_v2 (mi := 86) (k := 276) (st := [.int (g + 2), .ref 1]) (w := w) rfl rfl (hI.1.oC (Or.inl rfl)) rfl rfl rfl) rfl rfl (c3) rfl ?_
    refine sx_RP.step (pc2 := 49) (ls2 := [(4, .int (g + 2)), (0, .ref 0), (1, .int (nI n)), (2, .int g), (3, .int 2)]) (st2 := [.int (nI n), .int v2]) (w3 := w) rfl rfl ?_
    refine sx_RP.br (p1 := 55) (l1 := [(4, .int (g + 2)), (0, .ref 0), (1, .int (nI n)), (2, .int g), (3, .int 2)]) (s1 := []) (v1 := w) (p2 := 52) (l2 := [(4, .int (g + 2)), (0, .ref 0), (1, .int (nI n)), (2, .int g), (3, .int 2)]) (s2 := []) (v2 := w) rfl rfl (fun q4 => ?_) (fun q4 => ?_)
    · replace q4 := of_decide_eq_true q4
      refine sx_RP.step (pc2 := 56) (ls2 := [(4, .int (g + 2)), (0, .ref 0), (1, .int (nI n)), (2, .int g), (3, .int 2)]) (st2 := [.int 2]) (w3 := w) rfl rfl ?_
      refine sx_RP.step (pc2 := 57) (ls2 := [(4, .int (g + 2)), (0, .ref 0), (1, .int (nI n)), (2, .int g), (3, .int 2)]) (st2 := [.int 2, .int 2]) (w3 := w) rfl rfl ?_
      refine sx_RP.step (pc2 := 58) (ls2 := [(4, .int (g + 2)), (0, .ref 0), (1, .int (nI n)), (2, .int g), (3, .int 2)]) (st2 := [.int 1]) (w3 := w) rfl rfl ?_
      refine sx_RP.step (pc2 := 59) (ls2 := [(3, .int 1), (4, .int (g + 2)), (0, .ref 0), (1, .int (nI n)), (2, .int g)]) (st2 := []) (w3 := w) rfl rfl ?_
      refine sx_RP.step (pc2 := 23) (ls2 := [(3, .int 1), (4, .int (g + 2)), (0, .ref 0), (1, .int (nI n)), (2, .int g)]) (st2 := []) (w3 := w) rfl rfl ?_
      exact sx_RP.ls (sx_lr.cons rfl (sx_lr.cons rfl (sx_lr.cons rfl (sx_lr.cons rfl sx_lr.nil)))) (s86_1 hI hE g)
    · replace q4 := of_decide_eq_false q4
      refine sx_RP.step (pc2 := 54) (ls2 := [(4, .int (g + 2)), (0, .ref 0), (1, .int (nI n)), (2, .int g), (3, .int 2)]) (st2 := [.int (g + 2)]) (w3 := w) rfl rfl ?_
      refine sx_RP.step (pc2 := 55) (ls2 := [(2, .int (g + 2)), (4, .int (g + 2)), (0, .ref 0), (1, .int (nI n)), (3, .int 2)]) (st2 := []) (w3 := w) rfl rfl ?_
      refine sx_RP.step (pc2 := 56) (ls2 := [(2, .int (g + 2)), (4, .int (g + 2)), (0, .ref 0), (1, .int (nI n)), (3, .int 2)]) (st2 := [.int 2]) (w3 := w) rfl rfl ?_
      refine sx_RP.step (pc2 := 57) (ls2 := [(2, .int (g + 2)), (4, .int (g + 2)), (0, .ref 0), (1, .int (nI n)), (3, .int 2)]) (st2 := [.int 2, .int 2]) (w3 := w) rfl rfl ?_
      refine sx_RP.step (pc2 := 58) (ls2 := [(2, .int (g + 2)), (4, .int (g + 2)), (0, .ref 0), (1, .int (nI n)), (3, .int 2)]) (st2 := [.int 1]) (w3 := w) rfl rfl ?_
      refine sx_RP.step (pc2 := 59) (ls2 := [(3, .int 1), (2, .int (g + 2)), (4, .int (g + 2)), (0, .ref 0), (1, .int (nI n))]) (st2 := []) (w3 := w) rfl rfl ?_
      refine sx_RP.step (pc2 := 23) (ls2 := [(3, .int 1), (2, .int (g + 2)), (4, .int (g + 2)), (0, .ref 0), (1, .int (nI n))]) (st2 := []) (w3 := w) rfl rfl ?_
      exact sx_RP.ls (sx_lr.cons rfl (sx_lr.cons rfl (sx_lr.cons rfl (sx_lr.cons rfl sx_lr.nil)))) (s86_1 hI hE (g + 2))
set_option maxRecDepth 20000 in
set_option maxHeartbeats 4000000 in
theorem s86_4 {xs : Option (List Int32)} {d n : Nat} {w w0 : List sx_C} (hI : WI w) (hE : EC w0 w) (g : Int32) : sx_RP xs (d + 7) 86 23 [(0, .ref 0), (1, .int (nI n)), (2, .int g), (3, .int 4)] [] w (fun r w2 => (∃ v : Int32, r = some (.int v)) ∧ WI w2 ∧ EC w0 w2) := by
  refine sx_RP.step (pc2 := 24) (ls2 := [(0, .ref 0), (1, .int (nI n)), (2, .int g), (3, .int 4)]) (st2 := [.int 4]) (w3 := w) rfl rfl ?_
  refine sx_RP.step (pc2 := 27) (ls2 := [(0, .ref 0), (1, .int (nI n)), (2, .int g), (3, .int 4)]) (st2 := []) (w3 := w) rfl rfl ?_
  refine sx_RP.step (pc2 := 28) (ls2 := [(0, .ref 0), (1, .int (nI n)), (2, .int g), (3, .int 4)]) (st2 := [.int g]) (w3 := w) rfl rfl ?_
  refine sx_RP.step (pc2 := 29) (ls2 := [(0, .ref 0), (1, .int (nI n)), (2, .int g), (3, .int 4)]) (st2 := [.int 4, .int g]) (w3 := w) rfl rfl ?_
  refine sx_RP.step (pc2 := 30) (ls2 := [(0, .ref 0), (1, .int (nI n)), (2, .int g), (3, .int 4)]) (st2 := [.int (g + 4)]) (w3 := w) rfl rfl ?_
  refine sx_RP.step (pc2 := 32) (ls2 := [(4, .int (g + 4)), (0, .ref 0), (1, .int (nI n)), (2, .int g), (3, .int 4)]) (st2 := []) (w3 := w) rfl rfl ?_
  refine sx_RP.step (pc2 := 34) (ls2 := [(4, .int (g + 4)), (0, .ref 0), (1, .int (nI n)), (2, .int g), (3, .int 4)]) (st2 := [.int (g + 4)]) (w3 := w) rfl rfl ?_
  refine sx_RP.step (pc2 := 36) (ls2 := [(4, .int (g + 4)), (0, .ref 0), (1, .int (nI n)), (2, .int g), (3, .int 4)]) (st2 := [.int 99, .int (g + 4)]) (w3 := w) rfl rfl ?_
  refine sx_RP.br (p1 := 55) (l1 := [(4, .int (g + 4)), (0, .ref 0), (1, .int (nI n)), (2, .int g), (3, .int 4)]) (s1 := []) (v1 := w) (p2 := 39) (l2 := [(4, .int (g + 4)), (0, .ref 0), (1, .int (nI n)), (2, .int g), (3, .int 4)]) (s2 := []) (v2 := w) rfl rfl (fun q1 => ?_) (fun q1 => ?_)
  · replace q1 := of_decide_eq_true q1
    refine sx_RP.step (pc2 := 56) (ls2 := [(4, .int (g + 4)), (0, .ref 0), (1, .int (nI n)), (2, .int g), (3, .int 4)]) (st2 := [.int 4]) (w3 := w) rfl rfl ?_
    refine sx_RP.step (pc2 := 57) (ls2 := [(4, .int (g + 4)), (0, .ref 0), (1, .int (nI n)), (2, .int g), (3, .int 4)]) (st2 := [.int 2, .int 4]) (w3 := w) rfl rfl ?_
    refine sx_RP.step (pc2 := 58) (ls2 := [(4, .int (g + 4)), (0, .ref 0), (1, .int (nI n)), (2, .int g), (3, .int 4)]) (st2 := [.int 2]) (w3 := w) rfl rfl ?_
    refine sx_RP.step (pc2 := 59) (ls2 := [(3, .int 2), (4, .int (g + 4)), (0, .ref 0), (1, .int (nI n)), (2, .int g)]) (st2 := []) (w3 := w) rfl rfl ?_
    refine sx_RP.step (pc2 := 23) (ls2 := [(3, .int 2), (4, .int (g + 4)), (0, .ref 0), (1, .int (nI n)), (2, .int g)]) (st2 := []) (w3 := w) rfl rfl ?_
    exact sx_RP.ls (sx_lr.cons rfl (sx_lr.cons rfl (sx_lr.cons rfl (sx_lr.cons rfl sx_lr.nil)))) (s86_2 hI hE g)
  · replace q1 := of_decide_eq_false q1
    refine sx_RP.step (pc2 := 40) (ls2 := [(4, .int (g + 4)), (0, .ref 0), (1, .int (nI n)), (2, .int g), (3, .int 4)]) (st2 := [.ref 0]) (w3 := w) rfl rfl ?_
    refine sx_RP.gf (v := .ref 1) rfl rfl hI.1.o0 rfl rfl (show _ = 43 from rfl) ?_
    refine sx_RP.step (pc2 := 45) (ls2 := [(4, .int (g + 4)), (0, .ref 0), (1, .int (nI n)), (2, .int g), (3, .int 4)]) (st2 := [.int (g + 4), .ref 1]) (w3 := w) rfl rfl ?_
    obtain ⟨v2, c3⟩ := p84 hI (Or.inl rfl) (g + 4)
    refine sx_RP.cu (as := [.ref 1, .int (g + 4)]) (rest2 := []) (st3 := [.int v2]) rfl rfl (sx_inv_v2 (mi := 86) (k := 276) (st := [.int (g + 4), .ref 1]) (w := w) rfl rfl (hI.1.oC (Or.inl rfl)) rfl rfl rfl) rfl rfl (c3) rfl ?_
    refine sx_RP.step (pc2 := 49) (ls2 := [(4, .int (g + 4)), (0, .ref 0), (1, .int (nI n)), (2, .int g), (3, .int 4)]) (st2 := [.int (nI n), .int v2]) (w3 := w) rfl rfl ?_
    refine sx_RP.br (p1 := 55) (l1 := [(4, .int (g + 4)), (0, .ref 0), (1, .int (nI n)), (2, .int g), (3, .int 4)]) (s1 := []) (v1 := w) (p2 := 52) (l2 := [(4, .int (g + 4)), (0, .ref 0), (1, .int (nI n)), (2, .int g), (3, .int 4)]) (s2 := []) (v2 := w) rfl rfl (fun q4 => ?_) (fun q4 => ?_)
    · replace q4 := of_decide_eq_true q4
      refine sx_RP.step (pc2 := 56) (ls2 := [(4, .int (g + 4)), (0, .ref 0), (1, .int (nI n)), (2, .int g), (3, .int 4)]) (st2 := [.int 4]) (w3 := w) rfl rfl ?_
      refine sx_RP.step (pc2 := 57) (ls2 := [(4, .int (g + 4)), (0, .ref 0), (1, .int (nI n)), (2, .int g), (3, .int 4)]) (st2 := [.int 2, .int 4]) (w3 := w) rfl rfl ?_
      refine sx_RP.step (pc2 := 58) (ls2 := [(4, .int (g + 4)), (0, .ref 0), (1, .int (nI n)), (2, .int g), (3, .int 4)]) (st2 := [.int 2]) (w3 := w) rfl rfl ?_
      refine sx_RP.step (pc2 := 59) (ls2 := [(3, .int 2), (4, .int (g + 4)), (0, .ref 0), (1, .int (nI n)), (2, .int g)]) (st2 := []) (w3 := w) rfl rfl ?_
      refine sx_RP.step (pc2 := 23) (ls2 := [(3, .int 2), (4, .int (g + 4)), (0, .ref 0), (1, .int (nI n)), (2, .int g)]) (st2 := []) (w3 := w) rfl rfl ?_
      exact sx_RP.ls (sx_lr.cons rfl (sx_lr.cons rfl (sx_lr.cons rfl (sx_lr.cons rfl sx_lr.nil)))) (s86_2 hI hE g)
    · replace q4 := of_decide_eq_false q4
      refine sx_RP.step (pc2 := 54) (ls2 := [(4, .int (g + 4)), (0, .ref 0), (1, .int (nI n)), (2, .int g), (3, .int 4)]) (st2 := [.int (g + 4)]) (w3 := w) rfl rfl ?_
      refine sx_RP.step (pc2 := 55) (ls2 := [(2, .int (g + 4)), (4, .int (g + 4)), (0, .ref 0), (1, .int (nI n)), (3, .int 4)]) (st2 := []) (w3 := w) rfl rfl ?_
      refine sx_RP.step (pc2 := 56) (ls2 := [(2, .int (g + 4)), (4, .int (g + 4)), (0, .ref 0), (1, .int (nI n)), (3, .int 4)]) (st2 := [.int 4]) (w3 := w) rfl rfl ?_
      refine sx_RP.step (pc2 := 57) (ls2 := [(2, .int (g + 4)), (4, .int (g + 4)), (0, .ref 0), (1, .int (nI n)), (3, .int 4)]) (st2 := [.int 2, .int 4]) (w3 := w) rfl rfl ?_
      refine sx_RP.step (pc2 := 58) (ls2 := [(2, .int (g + 4)), (4, .int (g + 4)), (0, .ref 0), (1, .int (nI n)), (3, .int 4)]) (st2 := [.int 2]) (w3 := w) rfl rfl ?_
      refine sx_RP.step (pc2 := 59) (ls2 := [(3, .int 2), (2, .int (g + 4)), (4, .int (g + 4)), (0, .ref 0), (1, .int (nI n))]) (st2 := []) (w3 := w) rfl rfl ?_
      refine sx_RP.step (pc2 := 23) (ls2 := [(3, .int 2), (2, .int (g + 4)), (4, .int (g + 4)), (0, .ref 0), (1, .int (nI n))]) (st2 := []) (w3 := w) rfl rfl ?_
      exact sx_RP.ls (sx_lr.cons rfl (sx_lr.cons rfl (sx_lr.cons rfl (sx_lr.cons rfl sx_lr.nil)))) (s86_2 hI hE (g + 4))
set_option maxRecDepth 20000 in
set_option maxHeartbeats 4000000 in
theorem s86_8 {xs : Option (List Int32)} {d n : Nat} {w w0 : List sx_C} (hI : WI w) (hE : EC w0 w) (g : Int32) : sx_RP xs (d + 7) 86 23 [(0, .ref 0), (1, .int (nI n)), (2, .int g), (3, .int 8)] [] w (fun r w2 => (∃ v : Int32, r = some (.int v)) ∧ WI w2 ∧ EC w0 w2) := by
  refine sx_RP.step (pc2 := 24) (ls2 := [(0, .ref 0), (1, .int (nI n)), (2, .int g), (3, .int 8)]) (st2 := [.int 8]) (w3 := w) rfl rfl ?_
  refine sx_RP.step (pc2 := 27) (ls2 := [(0, .ref 0), (1, .int (nI n)), (2, .int g), (3, .int 8)]) (st2 := []) (w3 := w) rfl rfl ?_
  refine sx_RP.step (pc2 := 28) (ls2 := [(0, .ref 0), (1, .int (nI n)), (2, .int g), (3, .int 8)]) (st2 := [.int g]) (w3 := w) rfl rfl ?_
  refine sx_RP.step (pc2 := 29) (ls2 := [(0, .ref 0), (1, .int (nI n)), (2, .int g), (3, .int 8)]) (st2 := [.int 8, .int g]) (w3 := w) rfl rfl ?_
  refine sx_RP.step (pc2 := 30) (ls2 := [(0, .ref 0), (1, .int (nI n)), (2, .int g), (3, .int 8)]) (st2 := [.int (g + 8)]) (w3 := w) rfl rfl ?_
  refine sx_RP.step (pc2 := 32) (ls2 := [(4, .int (g + 8)), (0, .ref 0), (1, .int (nI n)), (2, .int g), (3, .int 8)]) (st2 := []) (w3 := w) rfl rfl ?_
  refine sx_RP.step (pc2 := 34) (ls2 := [(4, .int (g + 8)), (0, .ref 0), (1, .int (nI n)), (2, .int g), (3, .int 8)]) (st2 := [.int (g + 8)]) (w3 := w) rfl rfl ?_
  refine sx_RP.step (pc2 := 36) (ls2 := [(4, .int (g + 8)), (0, .ref 0), (1, .int (nI n)), (2, .int g), (3, .int 8)]) (st2 := [.int 99, .int (g + 8)]) (w3 := w) rfl rfl ?_
  refine sx_RP.br (p1 := 55) (l1 := [(4, .int (g + 8)), (0, .ref 0), (1, .int (nI n)), (2, .int g), (3, .int 8)]) (s1 := []) (v1 := w) (p2 := 39) (l2 := [(4, .int (g + 8)), (0, .ref 0), (1, .int (nI n)), (2, .int g), (3, .int 8)]) (s2 := []) (v2 := w) rfl rfl (fun q1 => ?_) (fun q1 => ?_)
  · replace q1 := of_decide_eq_true q1
    refine sx_RP.step (pc2 := 56) (ls2 := [(4, .int (g + 8)), (0, .ref 0), (1, .int (nI n)), (2, .int g), (3, .int 8)]) (st2 := [.int 8]) (w3 := w) rfl rfl ?_
    refine sx_RP.step (pc2 := 57) (ls2 := [(4, .int (g + 8)), (0, .ref 0), (1, .int (nI n)), (2, .int g), (3, .int 8)]) (st2 := [.int 2, .int 8]) (w3 := w) rfl rfl ?_
    refine sx_RP.step (pc2 := 58) (ls2 := [(4, .int (g + 8)), (0, .ref 0), (1, .int (nI n)), (2, .int g), (3, .int 8)]) (st2 := [.int 4]) (w3 := w) rfl rfl ?_
    refine sx_RP.step (pc2 := 59) (ls2 := [(3, .int 4), (4, .int (g + 8)), (0, .ref 0), (1, .int (nI n)), (2, .int g)]) (st2 := []) (w3 := w) rfl rfl ?_
    refine sx_RP.step (pc2 := 23) (ls2 := [(3, .int 4), (4, .int (g + 8)), (0, .ref 0), (1, .int (nI n)), (2, .int g)]) (st2 := []) (w3 := w) rfl rfl ?_
    exact sx_RP.ls (sx_lr.cons rfl (sx_lr.cons rfl (sx_lr.cons rfl (sx_lr.cons rfl sx_lr.nil)))) (s86_4 hI hE g)
  · replace q1 := of_decide_eq_false q1
    refine sx_RP.step (pc2 := 40) (ls2 := [(4, .int (g + 8)), (0, .ref 0), (1, .int (nI n)), (2, .int g), (3, .int 8)]) (st2 := [.ref 0]) (w3 := w) rfl rfl ?_
    refine sx_RP.gf (v := .ref 1) rfl rfl hI.1.o0 rfl rfl (show _ = 43 from rfl) ?_
    refine sx_RP.step (pc2 := 45) (ls2 := [(4, .int (g + 8)), (0, .ref 0), (1, .int (nI n)), (2, .int g), (3, .int 8)]) (st2 := [.int (g + 8), .ref 1]) (w3 := w) rfl rfl ?_
    obtain ⟨v2, c3⟩ := p84 hI (Or.inl rfl) (g + 8)
    refine sx_RP.cu (as := [.ref 1, .int (g + 8)]) (rest2 := []) (st3 := [.int v2]) rfl rfl (sx_inv_v2 (mi := 86) (k := 276) (st := [.int (g + 8), .ref 1]) (w := w) rfl rfl (hI.1.oC (Or.inl rfl)) rfl rfl rfl) rfl rfl (c3) rfl ?_
    refine sx_RP.step (pc2 := 49) (ls2 := [(4, .int (g + 8)), (0, .ref 0), (1, .int (nI n)), (2, .int g), (3, .int 8)]) (st2 := [.int (nI n), .int v2]) (w3 := w) rfl rfl ?_
    refine sx_RP.br (p1 := 55) (l1 := [(4, .int (g + 8)), (0, .ref 0), (1, .int (nI n)), (2, .int g), (3, .int 8)]) (s1 := []) (v1 := w) (p2 := 52) (l2 := [(4, .int (g + 8)), (0, .ref 0), (1, .int (nI n)), (2, .int g), (3, .int 8)]) (s2 := []) (v2 := w) rfl rfl (fun q4 => ?_) (fun q4 => ?_)
    · replace q4 := of_decide_eq_true q4
      refine sx_RP.step (pc2 := 56) (ls2 := [(4, .int (g + 8)), (0, .ref 0), (1, .int (nI n)), (2, .int g), (3, .int 8)]) (st2 := [.int 8]) (w3 := w) rfl rfl ?_
      refine sx_RP.step (pc2 := 57) (ls2 := [(4, .int (g + 8)), (0, .ref 0), (1, .int (nI n)), (2, .int g), (3, .int 8)]) (st2 := [.int 2, .int 8]) (w3 := w) rfl rfl ?_
      refine sx_RP.step (pc2 := 58) (ls2 := [(4, .int (g + 8)), (0, .ref 0), (1, .int (nI n)), (2, .int g), (3, .int 8)]) (st2 := [.int 4]) (w3 := w) rfl rfl ?_
      refine sx_RP.step (pc2 := 59) (ls2 := [(3, .int 4), (4, .int (g + 8)), (0, .ref 0), (1, .int (nI n)), (2, .int g)]) (st2 := []) (w3 := w) rfl rfl ?_
      refine sx_RP.step (pc2 := 23) (ls2 := [(3, .int 4), (4, .int (g + 8)), (0, .ref 0), (1, .int (nI n)), (2, .int g)]) (st2 := []) (w3 := w) rfl rfl ?_
      exact sx_RP.ls (sx_lr.cons rfl (sx_lr.cons rfl (sx_lr.cons rfl (sx_lr.cons rfl sx_lr.nil)))) (s86_4 hI hE g)
    · replace q4 := of_decide_eq_false q4
      refine sx_RP.step (pc2 := 54) (ls2 := [(4, .int (g + 8)), (0, .ref 0), (1, .int (nI n)), (2, .int g), (3, .int 8)]) (st2 := [.int (g + 8)]) (w3 := w) rfl rfl ?_
      refine sx_RP.step (pc2 := 55) (ls2 := [(2, .int (g + 8)), (4, .int (g + 8)), (0, .ref 0), (1, .int (nI n)), (3, .int 8)]) (st2 := []) (w3 := w) rfl rfl ?_
      refine sx_RP.step (pc2 := 56) (ls2 := [(2, .int (g + 8)), (4, .int (g + 8)), (0, .ref 0), (1, .int (nI n)), (3, .int 8)]) (st2 := [.int 8]) (w3 := w) rfl rfl ?_
      refine sx_RP.step (pc2 := 57) (ls2 := [(2, .int (g + 8)), (4, .int (g + 8)), (0, .ref 0), (1, .int (nI n)), (3, .int 8)]) (st2 := [.int 2, .int 8]) (w3 := w) rfl rfl ?_
      refine sx_RP.step (pc2 := 58) (ls2 := [(2, .int (g + 8)), (4, .int (g + 8)), (0, .ref 0), (1, .int (nI n)), (3, .int 8)]) (st2 := [.int 4]) (w3 := w) rfl rfl ?_
      refine sx_RP.step (pc2 := 59) (ls2 := [(3, .int 4), (2, .int (g + 8)), (4, .int (g + 8)), (0, .ref 0), (1, .int (nI n))]) (st2 := []) (w3 := w) rfl rfl ?_
      refine sx_RP.step (pc2 := 23) (ls2 := [(3, .int 4), (2, .int (g + 8)), (4, .int (g + 8)), (0, .ref 0), (1, .int (nI n))]) (st2 := []) (w3 := w) rfl rfl ?_
      exact sx_RP.ls (sx_lr.cons rfl (sx_lr.cons rfl (sx_lr.cons rfl (sx_lr.cons rfl sx_lr.nil)))) (s86_4 hI hE (g + 8))
set_option maxRecDepth 20000 in
set_option maxHeartbeats 4000000 in
theorem s86_16 {xs : Option (List Int32)} {d n : Nat} {w w0 : List sx_C} (hI : WI w) (hE : EC w0 w) (g : Int32) : sx_RP xs (d + 7) 86 23 [(0, .ref 0), (1, .int (nI n)), (2, .int g), (3, .int 16)] [] w (fun r w2 => (∃ v : Int32, r = some (.int v)) ∧ WI w2 ∧ EC w0 w2) := by
  refine sx_RP.step (pc2 := 24) (ls2 := [(0, .ref 0), (1, .int (nI n)), (2, .int g), (3, .int 16)]) (st2 := [.int 16]) (w3 := w) rfl rfl ?_
  refine sx_RP.step (pc2 := 27) (ls2 := [(0, .ref 0), (1, .int (nI n)), (2, .int g), (3, .int 16)]) (st2 := []) (w3 := w) rfl rfl ?_
  refine sx_RP.step (pc2 := 28) (ls2 := [(0, .ref 0), (1, .int (nI n)), (2, .int g), (3, .int 16)]) (st2 := [.int g]) (w3 := w) rfl rfl ?_
  refine sx_RP.step (pc2 := 29) (ls2 := [(0, .ref 0), (1, .int (nI n)), (2, .int g), (3, .int 16)]) (st2 := [.int 16, .int g]) (w3 := w) rfl rfl ?_
  refine sx_RP.step (pc2 := 30) (ls2 := [(0, .ref 0), (1, .int (nI n)), (2, .int g), (3, .int 16)]) (st2 := [.int (g + 16)]) (w3 := w) rfl rfl ?_
  refine sx_RP.step (pc2 := 32) (ls2 := [(4, .int (g + 16)), (0, .ref 0), (1, .int (nI n)), (2, .int g), (3, .int 16)]) (st2 := []) (w3 := w) rfl rfl ?_
  refine sx_RP.step (pc2 := 34) (ls2 := [(4, .int (g + 16)), (0, .ref 0), (1, .int (nI n)), (2, .int g), (3, .int 16)]) (st2 := [.int (g + 16)]) (w3 := w) rfl rfl ?_
  refine sx_RP.step (pc2 := 36) (ls2 := [(4, .int (g + 16)), (0, .ref 0), (1, .int (nI n)), (2, .int g), (3, .int 16)]) (st2 := [.int 99, .int (g + 16)]) (w3 := w) rfl rfl ?_
  refine sx_RP.br (p1 := 55) (l1 := [(4, .int (g + 16)), (0, .ref 0), (1, .int (nI n)), (2, .int g), (3, .int 16)]) (s1 := []) (v1 := w) (p2 := 39) (l2 := [(4, .int (g + 16)), (0, .ref 0), (1, .int (nI n)), (2, .int g), (3, .int 16)]) (s2 := []) (v2 := w) rfl rfl (fun q1 => ?_) (fun q1 => ?_)
  · replace q1 := of_decide_eq_true q1
    refine sx_RP.step (pc2 := 56) (ls2 := [(4, .int (g + 16)), (0, .ref 0), (1, .int (nI n)), (2, .int g), (3, .int 16)]) (st2 := [.int 16]) (w3 := w) rfl rfl ?_
    refine sx_RP.step (pc2 := 57) (ls2 := [(4, .int (g + 16)), (0, .ref 0), (1, .int (nI n)), (2, .int g), (3, .int 16)]) (st2 := [.int 2, .int 16]) (w3 := w) rfl rfl ?_
    refine sx_RP.step (pc2 := 58) (ls2 := [(4, .int (g + 16)), (0, .ref 0), (1, .int (nI n)), (2, .int g), (3, .int 16)]) (st2 := [.int 8]) (w3 := w) rfl rfl ?_
    refine sx_RP.step (pc2 := 59) (ls2 := [(3, .int 8), (4, .int (g + 16)), (0, .ref 0), (1, .int (nI n)), (2, .int g)]) (st2 := []) (w3 := w) rfl rfl ?_
    refine sx_RP.step (pc2 := 23) (ls2 := [(3, .int 8), (4, .int (g + 16)), (0, .ref 0), (1, .int (nI n)), (2, .int g)]) (st2 := []) (w3 := w) rfl rfl ?_
    exact sx_RP.ls (sx_lr.cons rfl (sx_lr.cons rfl (sx_lr.cons rfl (sx_lr.cons rfl sx_lr.nil)))) (s86_8 hI hE g)
  · replace q1 := of_decide_eq_false q1
    refine sx_RP.step (pc2 := 40) (ls2 := [(4, .int (g + 16)), (0, .ref 0), (1, .int (nI n)), (2, .int g), (3, .int 16)]) (st2 := [.ref 0]) (w3 := w) rfl rfl ?_
    refine sx_RP.gf (v := .ref 1) rfl rfl hI.1.o0 rfl rfl (show _ = 43 from rfl) ?_
    refine sx_RP.step (pc2 := 45) (ls2 := [(4, .int (g + 16)), (0, .ref 0), (1, .int (nI n)), (2, .int g), (3, .int 16)]) (st2 := [.int (g + 16), .ref 1]) (w3 := w) rfl rfl ?_
    obtain ⟨v2, c3⟩ := p84 hI (Or.inl rfl) (g + 16)
    refine sx_RP.cu (as := [.ref 1, .int (g + 16)]) (rest2 := []) (st3 := [.int v2]) rfl rfl (sx_inv_v2 (mi := 86) (k := 276) (st := [.int (g + 16), .ref 1]) (w := w) rfl rfl (hI.1.oC (Or.inl rfl)) rfl rfl rfl) rfl rfl (c3) rfl ?_
    refine sx_RP.step (pc2 := 49) (ls2 := [(4, .int (g + 16)), (0, .ref 0), (1, .int (nI n)), (2, .int g), (3, .int 16)]) (st2 := [.int (nI n), .int v2]) (w3 := w) rfl rfl ?_
    refine sx_RP.br (p1 := 55) (l1 := [(4, .int (g + 16)), (0, .ref 0), (1, .int (nI n)), (2, .int g), (3, .int 16)]) (s1 := []) (v1 := w) (p2 := 52) (l2 := [(4, .int (g + 16)), (0, .ref 0), (1, .int (nI n)), (2, .int g), (3, .int 16)]) (s2 := []) (v2 := w) rfl rfl (fun q4 => ?_) (fun q4 => ?_)
    · replace q4 := of_decide_eq_true q4
      refine sx_RP.step (pc2 := 56) (ls2 := [(4, .int (g + 16)), (0, .ref 0), (1, .int (nI n)), (2, .int g), (3, .int 16)]) (st2 := [.int 16]) (w3 := w) rfl rfl ?_
      refine sx_RP.step (pc2 := 57) (ls2 := [(4, .int (g + 16)), (0, .ref 0), (1, .int (nI n)), (2, .int g), (3, .int 16)]) (st2 := [.int 2, .int 16]) (w3 := w) rfl rfl ?_
      refine sx_RP.step (pc2 := 58) (ls2 := [(4, .int (g + 16)), (0, .ref 0), (1, .int (nI n)), (2, .int g), (3, .int 16)]) (st2 := [.int 8]) (w3 := w) rfl rfl ?_
      refine sx_RP.step (pc2 := 59) (ls2 := [(3, .int 8), (4, .int (g + 16)), (0, .ref 0), (1, .int (nI n)), (2, .int g)]) (st2 := []) (w3 := w) rfl rfl ?_
      refine sx_RP.step (pc2 := 23) (ls2 := [(3, .int 8), (4, .int (g + 16)), (0, .ref 0), (1, .int (nI n)), (2, .int g)]) (st2 := []) (w3 := w) rfl rfl ?_
      exact sx_RP.ls (sx_lr.cons rfl (sx_lr.cons rfl (sx_lr.cons rfl (sx_lr.cons rfl sx_lr.nil)))) (s86_8 hI hE g)
    · replace q4 := of_decide_eq_false q4
      refine sx_RP.step (pc2 := 54) (ls2 := [(4, .int (g + 16)), (0, .ref 0), (1, .int (nI n)), (2, .int g), (3, .int 16)]) (st2 := [.int (g + 16)]) (w3 := w) rfl rfl ?_
      refine sx_RP.step (pc2 := 55) (ls2 := [(2, .int (g + 16)), (4, .int (g + 16)), (0, .ref 0), (1, .int (nI n)), (3, .int 16)]) (st2 := []) (w3 := w) rfl rfl ?_
      refine sx_RP.step (pc2 := 56) (ls2 := [(2, .int (g + 16)), (4, .int (g + 16)), (0, .ref 0), (1, .int (nI n)), (3, .int 16)]) (st2 := [.int 16]) (w3 := w) rfl rfl ?_
      refine sx_RP.step (pc2 := 57) (ls2 := [(2, .int (g + 16)), (4, .int (g + 16)), (0, .ref 0), (1, .int (nI n)), (3, .int 16)]) (st2 := [.int 2, .int 16]) (w3 := w) rfl rfl ?_
      refine sx_RP.step (pc2 := 58) (ls2 := [(2, .int (g + 16)), (4, .int (g + 16)), (0, .ref 0), (1, .int (nI n)), (3, .int 16)]) (st2 := [.int 8]) (w3 := w) rfl rfl ?_
      refine sx_RP.step (pc2 := 59) (ls2 := [(3, .int 8), (2, .int (g + 16)), (4, .int (g + 16)), (0, .ref 0), (1, .int (nI n))]) (st2 := []) (w3 := w) rfl rfl ?_
      refine sx_RP.step (pc2 := 23) (ls2 := [(3, .int 8), (2, .int (g + 16)), (4, .int (g + 16)), (0, .ref 0), (1, .int (nI n))]) (st2 := []) (w3 := w) rfl rfl ?_
      exact sx_RP.ls (sx_lr.cons rfl (sx_lr.cons rfl (sx_lr.cons rfl (sx_lr.cons rfl sx_lr.nil)))) (s86_8 hI hE (g + 16))
set_option maxRecDepth 20000 in
set_option maxHeartbeats 4000000 in
theorem s86_32 {xs : Option (List Int32)} {d n : Nat} {w w0 : List sx_C} (hI : WI w) (hE : EC w0 w) (g : Int32) : sx_RP xs (d + 7) 86 23 [(0, .ref 0), (1, .int (nI n)), (2, .int g), (3, .int 32)] [] w (fun r w2 => (∃ v : Int32, r = some (.int v)) ∧ WI w2 ∧ EC w0 w2) := by
  refine sx_RP.step (pc2 := 24) (ls2 := [(0, .ref 0), (1, .int (nI n)), (2, .int g), (3, .int 32)]) (st2 := [.int 32]) (w3 := w) rfl rfl ?_
  refine sx_RP.step (pc2 := 27) (ls2 := [(0, .ref 0), (1, .int (nI n)), (2, .int g), (3, .int 32)]) (st2 := []) (w3 := w) rfl rfl ?_
  refine sx_RP.step (pc2 := 28) (ls2 := [(0, .ref 0), (1, .int (nI n)), (2, .int g), (3, .int 32)]) (st2 := [.int g]) (w3 := w) rfl rfl ?_
  refine sx_RP.step (pc2 := 29) (ls2 := [(0, .ref 0), (1, .int (nI n)), (2, .int g), (3, .int 32)]) (st2 := [.int 32, .int g]) (w3 := w) rfl rfl ?_
  refine sx_RP.step (pc2 := 30) (ls2 := [(0, .ref 0), (1, .int (nI n)), (2, .int g), (3, .int 32)]) (st2 := [.int (g + 32)]) (w3 := w) rfl rfl ?_
  refine sx_RP.step (pc2 := 32) (ls2 := [(4, .int (g + 32)), (0, .ref 0), (1, .int (nI n)), (2, .int g), (3, .int 32)]) (st2 := []) (w3 := w) rfl rfl ?_
  refine sx_RP.step (pc2 := 34) (ls2 := [(4, .int (g + 32)), (0, .ref 0), (1, .int (nI n)), (2, .int g), (3, .int 32)]) (st2 := [.int (g + 32)]) (w3 := w) rfl rfl ?_
  refine sx_RP.step (pc2 := 36) (ls2 := [(4, .int (g + 32)), (0, .ref 0), (1, .int (nI n)), (2, .int g), (3, .int 32)]) (st2 := [.int 99, .int (g + 32)]) (w3 := w) rfl rfl ?_
  refine sx_RP.br (p1 := 55) (l1 := [(4, .int (g + 32)), (0, .ref 0), (1, .int (nI n)), (2, .int g), (3, .int 32)]) (s1 := []) (v1 := w) (p2 := 39) (l2 := [(4, .int (g + 32)), (0, .ref 0), (1, .int (nI n)), (2, .int g), (3, .int 32)]) (s2 := []) (v2 := w) rfl rfl (fun q1 => ?_) (fun q1 => ?_)
  · replace q1 := of_decide_eq_true q1
    refine sx_RP.step (pc2 := 56) (ls2 := [(4, .int (g + 32)), (0, .ref 0), (1, .int (nI n)), (2, .int g), (3, .int 32)]) (st2 := [.int 32]) (w3 := w) rfl rfl ?_
    refine sx_RP.step (pc2 := 57) (ls2 := [(4, .int (g + 32)), (0, .ref 0), (1, .int (nI n)), (2, .int g), (3, .int 32)]) (st2 := [.int 2, .int 32]) (w3 := w) rfl rfl ?_
    refine sx_RP.step (pc2 := 58) (ls2 := [(4, .int (g + 32)), (0, .ref 0), (1, .int (nI n)), (2, .int g), (3, .int 32)]) (st2 := [.int 16]) (w3 := w) rfl rfl ?_
    refine sx_RP.step (pc2 := 59) (ls2 := [(3, .int 16), (4, .int (g + 32)), (0, .ref 0), (1, .int (nI n)), (2, .int g)]) (st2 := []) (w3 := w) rfl rfl ?_
    refine sx_RP.step (pc2 := 23) (ls2 := [(3, .int 16), (4, .int (g + 32)), (0, .ref 0), (1, .int (nI n)), (2, .int g)]) (st2 := []) (w3 := w) rfl rfl ?_
    exact sx_RP.ls (sx_lr.cons rfl (sx_lr.cons rfl (sx_lr.cons rfl (sx_lr.cons rfl sx_lr.nil)))) (s86_16 hI hE g)
  · replace q1 := of_decide_eq_false q1
    refine sx_RP.step (pc2 := 40) (ls2 := [(4, .int (g + 32)), (0, .ref 0), (1, .int (nI n)), (2, .int g), (3, .int 32)]) (st2 := [.ref 0]) (w3 := w) rfl rfl ?_
    refine sx_RP.gf (v := .ref 1) rfl rfl hI.1.o0 rfl rfl (show _ = 43 from rfl) ?_
    refine sx_RP.step (pc2 := 45) (ls2 := [(4, .int (g + 32)), (0, .ref 0), (1, .int (nI n)), (2, .int g), (3, .int 32)]) (st2 := [.int (g + 32), .ref 1]) (w3 := w) rfl rfl ?_
    obtain ⟨v2, c3⟩ := p84 hI (Or.inl rfl) (g + 32)
    refine sx_RP.cu (as := [.ref 1, .int (g + 32)]) (rest2 := []) (st3 := [.int v2]) rfl rfl (sx_inv_v2 (mi := 86) (k := 276) (st := [.int (g + 32), .ref 1]) (w := w) rfl rfl (hI.1.oC (Or.inl rfl)) rfl rfl rfl) rfl rfl (c3) rfl ?_
    refine sx_RP.step (pc2 := 49) (ls2 := [(4, .int (g + 32)), (0, .ref 0), (1, .int (nI n)), (2, .int g), (3, .int 32)]) (st2 := [.int (nI n), .int v2]) (w3 := w) rfl rfl ?_
    refine sx_RP.br (p1 := 55) (l1 := [(4, .int (g + 32)), (0, .ref 0), (1, .int (nI n)), (2, .int g), (3, .int 32)]) (s1 := []) (v1 := w) (p2 := 52) (l2 := [(4, .int (g + 32)), (0, .ref 0), (1, .int (nI n)), (2, .int g), (3, .int 32)]) (s2 := []) (v2 := w) rfl rfl (fun q4 => ?_) (fun q4 => ?_)
    · replace q4 := of_decide_eq_true q4
      refine sx_RP.step (pc2 := 56) (ls2 := [(4, .int (g + 32)), (0, .ref 0), (1, .int (nI n)), (2, .int g), (3, .int 32)]) (st2 := [.int 32]) (w3 := w) rfl rfl ?_
      refine sx_RP.step (pc2 := 57) (ls2 := [(4, .int (g + 32)), (0, .ref 0), (1, .int (nI n)), (2, .int g), (3, .int 32)]) (st2 := [.int 2, .int 32]) (w3 := w) rfl rfl ?_
      refine sx_RP.step (pc2 := 58) (ls2 := [(4, .int (g + 32)), (0, .ref 0), (1, .int (nI n)), (2, .int g), (3, .int 32)]) (st2 := [.int 16]) (w3 := w) rfl rfl ?_
      refine sx_RP.step (pc2 := 59) (ls2 := [(3, .int 16), (4, .int (g + 32)), (0, .ref 0), (1, .int (nI n)), (2, .int g)]) (st2 := []) (w3 := w) rfl rfl ?_
      refine sx_RP.step (pc2 := 23) (ls2 := [(3, .int 16), (4, .int (g + 32)), (0, .ref 0), (1, .int (nI n)), (2, .int g)]) (st2 := []) (w3 := w) rfl rfl ?_
      exact sx_RP.ls (sx_lr.cons rfl (sx_lr.cons rfl (sx_lr.cons rfl (sx_lr.cons rfl sx_lr.nil)))) (s86_16 hI hE g)
    · replace q4 := of_decide_eq_false q4
      refine sx_RP.step (pc2 := 54) (ls2 := [(4, .int (g + 32)), (0, .ref 0), (1, .int (nI n)), (2, .int g), (3, .int 32)]) (st2 := [.int (g + 32)]) (w3 := w) rfl rfl ?_
      refine sx_RP.step (pc2 := 55) (ls2 := [(2, .int (g + 32)), (4, .int (g + 32)), (0, .ref 0), (1, .int (nI n)), (3, .int 32)]) (st2 := []) (w3 := w) rfl rfl ?_
      refine sx_RP.step (pc2 := 56) (ls2 := [(2, .int (g + 32)), (4, .int (g + 32)), (0, .ref 0), (1, .int (nI n)), (3, .int 32)]) (st2 := [.int 32]) (w3 := w) rfl rfl ?_
      refine sx_RP.step (pc2 := 57) (ls2 := [(2, .int (g + 32)), (4, .int (g + 32)), (0, .ref 0), (1, .int (nI n)), (3, .int 32)]) (st2 := [.int 2, .int 32]) (w3 := w) rfl rfl ?_
      refine sx_RP.step (pc2 := 58) (ls2 := [(2, .int (g + 32)), (4, .int (g + 32)), (0, .ref 0), (1, .int (nI n)), (3, .int 32)]) (st2 := [.int 16]) (w3 := w) rfl rfl ?_
      refine sx_RP.step (pc2 := 59) (ls2 := [(3, .int 16), (2, .int (g + 32)), (4, .int (g + 32)), (0, .ref 0), (1, .int (nI n))]) (st2 := []) (w3 := w) rfl rfl ?_
      refine sx_RP.step (pc2 := 23) (ls2 := [(3, .int 16), (2, .int (g + 32)), (4, .int (g + 32)), (0, .ref 0), (1, .int (nI n))]) (st2 := []) (w3 := w) rfl rfl ?_
      exact sx_RP.ls (sx_lr.cons rfl (sx_lr.cons rfl (sx_lr.cons rfl (sx_lr.cons rfl sx_lr.nil)))) (s86_16 hI hE (g + 32))
set_option maxRecDepth 20000 in
set_option maxHeartbeats 4000000 in
theorem s86_64 {xs : Option (List Int32)} {d n : Nat} {w w0 : List sx_C} (hI : WI w) (hE : EC w0 w) (g : Int32) : sx_RP xs (d + 7) 86 23 [(0, .ref 0), (1, .int (nI n)), (2, .int g), (3, .int 64)] [] w (fun r w2 => (∃ v : Int32, r = some (.int v)) ∧ WI w2 ∧ EC w0 w2) := by
  refine sx_RP.step (pc2 := 24) (ls2 := [(0, .ref 0), (1, .int (nI n)), (2, .int g), (3, .int 64)]) (st2 := [.int 64]) (w3 := w) rfl rfl ?_
  refine sx_RP.step (pc2 := 27) (ls2 := [(0, .ref 0), (1, .int (nI n)), (2, .int g), (3, .int 64)]) (st2 := []) (w3 := w) rfl rfl ?_
  refine sx_RP.step (pc2 := 28) (ls2 := [(0, .ref 0), (1, .int (nI n)), (2, .int g), (3, .int 64)]) (st2 := [.int g]) (w3 := w) rfl rfl ?_
  refine sx_RP.step (pc2 := 29) (ls2 := [(0, .ref 0), (1, .int (nI n)), (2, .int g), (3, .int 64)]) (st2 := [.int 64, .int g]) (w3 := w) rfl rfl ?_
  refine sx_RP.step (pc2 := 30) (ls2 := [(0, .ref 0), (1, .int (nI n)), (2, .int g), (3, .int 64)]) (st2 := [.int (g + 64)]) (w3 := w) rfl rfl ?_
  refine sx_RP.step (pc2 := 32) (ls2 := [(4, .int (g + 64)), (0, .ref 0), (1, .int (nI n)), (2, .int g), (3, .int 64)]) (st2 := []) (w3 := w) rfl rfl ?_
  refine sx_RP.step (pc2 := 34) (ls2 := [(4, .int (g + 64)), (0, .ref 0), (1, .int (nI n)), (2, .int g), (3, .int 64)]) (st2 := [.int (g + 64)]) (w3 := w) rfl rfl ?_
  refine sx_RP.step (pc2 := 36) (ls2 := [(4, .int (g + 64)), (0, .ref 0), (1, .int (nI n)), (2, .int g), (3, .int 64)]) (st2 := [.int 99, .int (g + 64)]) (w3 := w) rfl rfl ?_
  refine sx_RP.br (p1 := 55) (l1 := [(4, .int (g + 64)), (0, .ref 0), (1, .int (nI n)), (2, .int g), (3, .int 64)]) (s1 := []) (v1 := w) (p2 := 39) (l2 := [(4, .int (g + 64)), (0, .ref 0), (1, .int (nI n)), (2, .int g), (3, .int 64)]) (s2 := []) (v2 := w) rfl rfl (fun q1 => ?_) (fun q1 => ?_)
  · replace q1 := of_decide_eq_true q1
    refine sx_RP.step (pc2 := 56) (ls2 := [(4, .int (g + 64)), (0, .ref 0), (1, .int (nI n)), (2, .int g), (3, .int 64)]) (st2 := [.int 64]) (w3 := w) rfl rfl ?_
    refine sx_RP.step (pc2 := 57) (ls2 := [(4, .int (g + 64)), (0, .ref 0), (1, .int (nI n)), (2, .int g), (3, .int 64)]) (st2 := [.int 2, .int 64]) (w3 := w) rfl rfl ?_
    refine sx_RP.step (pc2 := 58) (ls2 := [(4, .int (g + 64)), (0, .ref 0), (1, .int (nI n)), (2, .int g), (3, .int 64)]) (st2 := [.int 32]) (w3 := w) rfl rfl ?_
    refine sx_RP.step (pc2 := 59) (ls2 := [(3, .int 32), (4, .int (g + 64)), (0, .ref 0), (1, .int (nI n)), (2, .int g)]) (st2 := []) (w3 := w) rfl rfl ?_
    refine sx_RP.step (pc2 := 23) (ls2 := [(3, .int 32), (4, .int (g + 64)), (0, .ref 0), (1, .int (nI n)), (2, .int g)]) (st2 := []) (w3 := w) rfl rfl ?_
    exact sx_RP.ls (sx_lr.cons rfl (sx_lr.cons rfl (sx_lr.cons rfl (sx_lr.cons rfl sx_lr.nil)))) (s86_32 hI hE g)
  · replace q1 := of_decide_eq_false q1
    refine sx_RP.step (pc2 := 40) (ls2 := [(4, .int (g + 64)), (0, .ref 0), (1, .int (nI n)), (2, .int g), (3, .int 64)]) (st2 := [.ref 0]) (w3 := w) rfl rfl ?_
    refine sx_RP.gf (v := .ref 1) rfl rfl hI.1.o0 rfl rfl (show _ = 43 from rfl) ?_
    refine sx_RP.step (pc2 := 45) (ls2 := [(4, .int (g + 64)), (0, .ref 0), (1, .int (nI n)), (2, .int g), (3, .int 64)]) (st2 := [.int (g + 64), .ref 1]) (w3 := w) rfl rfl ?_
    obtain ⟨v2, c3⟩ := p84 hI (Or.inl rfl) (g + 64)
    refine sx_RP.cu (as := [.ref 1, .int (g + 64)]) (rest2 := []) (st3 := [.int v2]) rfl rfl (sx_inv_v2 (mi := 86) (k := 276) (st := [.int (g + 64), .ref 1]) (w := w) rfl rfl (hI.1.oC (Or.inl rfl)) rfl rfl rfl) rfl rfl (c3) rfl ?_
    refine sx_RP.step (pc2 := 49) (ls2 := [(4, .int (g + 64)), (0, .ref 0), (1, .int (nI n)), (2, .int g), (3, .int 64)]) (st2 := [.int (nI n), .int v2]) (w3 := w) rfl rfl ?_
    refine sx_RP.br (p1 := 55) (l1 := [(4, .int (g + 64)), (0, .ref 0), (1, .int (nI n)), (2, .int g), (3, .int 64)]) (s1 := []) (v1 := w) (p2 := 52) (l2 := [(4, .int (g + 64)), (0, .ref 0), (1, .int (nI n)), (2, .int g), (3, .int 64)]) (s2 := []) (v2 := w) rfl rfl (fun q4 => ?_) (fun q4 => ?_)
    · replace q4 := of_decide_eq_true q4
      refine sx_RP.step (pc2 := 56) (ls2 := [(4, .int (g + 64)), (0, .ref 0), (1, .int (nI n)), (2, .int g), (3, .int 64)]) (st2 := [.int 64]) (w3 := w) rfl rfl ?_
      refine sx_RP.step (pc2 := 57) (ls2 := [(4, .int (g + 64)), (0, .ref 0), (1, .int (nI n)), (2, .int g), (3, .int 64)]) (st2 := [.int 2, .int 64]) (w3 := w) rfl rfl ?_
      refine sx_RP.step (pc2 := 58) (ls2 := [(4, .int (g + 64)), (0, .ref 0), (1, .int (nI n)), (2, .int g), (3, .int 64)]) (st2 := [.int 32]) (w3 := w) rfl rfl ?_
      refine sx_RP.step (pc2 := 59) (ls2 := [(3, .int 32), (4, .int (g + 64)), (0, .ref 0), (1, .int (nI n)), (2, .int g)]) (st2 := []) (w3 := w) rfl rfl ?_
      refine sx_RP.step (pc2 := 23) (ls2 := [(3, .int 32), (4, .int (g + 64)), (0, .ref 0), (1, .int (nI n)), (2, .int g)]) (st2 := []) (w3 := w) rfl rfl ?_
      exact sx_RP.ls (sx_lr.cons rfl (sx_lr.cons rfl (sx_lr.cons rfl (sx_lr.cons rfl sx_lr.nil)))) (s86_32 hI hE g)
    · replace q4 := of_decide_eq_false q4
      refine sx_RP.step (pc2 := 54) (ls2 := [(4, .int (g + 64)), (0, .ref 0), (1, .int (nI n)), (2, .int g), (3, .int 64)]) (st2 := [.int (g + 64)]) (w3 := w) rfl rfl ?_
      refine sx_RP.step (pc2 := 55) (ls2 := [(2, .int (g + 64)), (4, .int (g + 64)), (0, .ref 0), (1, .int (nI n)), (3, .int 64)]) (st2 := []) (w3 := w) rfl rfl ?_
      refine sx_RP.step (pc2 := 56) (ls2 := [(2, .int (g + 64)), (4, .int (g + 64)), (0, .ref 0), (1, .int (nI n)), (3, .int 64)]) (st2 := [.int 64]) (w3 := w) rfl rfl ?_
      refine sx_RP.step (pc2 := 57) (ls2 := [(2, .int (g + 64)), (4, .int (g + 64)), (0, .ref 0), (1, .int (nI n)), (3, .int 64)]) (st2 := [.int 2, .int 64]) (w3 := w) rfl rfl ?_
      refine sx_RP.step (pc2 := 58) (ls2 := [(2, .int (g + 64)), (4, .int (g + 64)), (0, .ref 0), (1, .int (nI n)), (3, .int 64)]) (st2 := [.int 32]) (w3 := w) rfl rfl ?_
      refine sx_RP.step (pc2 := 59) (ls2 := [(3, .int 32), (2, .int (g + 64)), (4, .int (g + 64)), (0, .ref 0), (1, .int (nI n))]) (st2 := []) (w3 := w) rfl rfl ?_
      refine sx_RP.step (pc2 := 23) (ls2 := [(3, .int 32), (2, .int (g + 64)), (4, .int (g + 64)), (0, .ref 0), (1, .int (nI n))]) (st2 := []) (w3 := w) rfl rfl ?_
      exact sx_RP.ls (sx_lr.cons rfl (sx_lr.cons rfl (sx_lr.cons rfl (sx_lr.cons rfl sx_lr.nil)))) (s86_32 hI hE (g + 64))
set_option maxRecDepth 20000 in
set_option maxHeartbeats 4000000 in
theorem s86 {xs : Option (List Int32)} {d : Nat} {w : List sx_C} (hI : WI w) (a1 : Int32) : sx_RP xs (d + 7) 86 0 (lv_args 0 [.ref 0, .int a1]) [] w (fun r w2 => (∃ v : Int32, r = some (.int v)) ∧ WI w2 ∧ EC w w2) := by
  have hE : EC w w := EC.rf
  refine sx_RP.step (pc2 := 1) (ls2 := [(0, .ref 0), (1, .int a1)]) (st2 := [.int a1]) (w3 := w) rfl rfl ?_
  refine sx_RP.step (pc2 := 2) (ls2 := [(0, .ref 0), (1, .int a1)]) (st2 := [.int 1, .int a1]) (w3 := w) rfl rfl ?_
  refine sx_RP.step (pc2 := 5) (ls2 := [(0, .ref 0), (1, .int a1)]) (st2 := [.int 999, .int 1, .int a1]) (w3 := w) rfl rfl ?_
  rcases in_cases a1 1 999 (m := 1) (n := 999) rfl rfl (by decide) (by decide) with q1 | ⟨x2, hx3, hx4, rfl⟩
  · refine sx_RP.cu (as := [.int a1, .int 1, .int 999]) (rest2 := []) (st3 := [.int 0]) rfl rfl rfl rfl rfl (cx_8n q1) rfl ?_
    refine sx_RP.step (pc2 := 11) (ls2 := [(0, .ref 0), (1, .int a1)]) (st2 := []) (w3 := w) rfl rfl ?_
    refine sx_RP.step (pc2 := 12) (ls2 := [(0, .ref 0), (1, .int a1)]) (st2 := [.ref 0]) (w3 := w) rfl rfl ?_
    refine sx_RP.step (pc2 := 14) (ls2 := [(0, .ref 0), (1, .int a1)]) (st2 := [.int (-1000000001), .ref 0]) (w3 := w) rfl rfl ?_
    refine sx_RP.callp (as2 := [.ref 0, .int (-1000000001)]) (rest2 := []) rfl rfl (sx_inv_v2 (mi := 86) (k := 78) (st := [.int (-1000000001), .ref 0]) (w := w) rfl rfl hI.1.o0 rfl rfl rfl) rfl rfl rfl (s9_0 hI) (show _ = 17 from rfl) ?_
    rintro r4 w6 ⟨rfl, hI7, hE9⟩
    have hE8 := hE.tr hE9
    show sx_RP _ _ _ _ _ [.int (-1000000001)] _ _
    refine sx_RP.ret (r := (some (.int (-1000000001)))) rfl rfl ?_
    exact ⟨⟨_, rfl⟩, hI7, hE8⟩
  · refine sx_RP.cu (as := [.int (nI x2), .int 1, .int 999]) (rest2 := []) (st3 := [.int 1]) rfl rfl rfl rfl rfl (cx_8p ⟨nI_le (a := 1) hx3 (by omega), nI_le (b := 999) hx4 (by decide)⟩) rfl ?_
    refine sx_RP.step (pc2 := 18) (ls2 := [(0, .ref 0), (1, .int (nI x2))]) (st2 := []) (w3 := w) rfl rfl ?_
    refine sx_RP.step (pc2 := 19) (ls2 := [(0, .ref 0), (1, .int (nI x2))]) (st2 := [.int 0]) (w3 := w) rfl rfl ?_
    refine sx_RP.step (pc2 := 20) (ls2 := [(2, .int 0), (0, .ref 0), (1, .int (nI x2))]) (st2 := []) (w3 := w) rfl rfl ?_
    refine sx_RP.step (pc2 := 22) (ls2 := [(2, .int 0), (0, .ref 0), (1, .int (nI x2))]) (st2 := [.int 64]) (w3 := w) rfl rfl ?_
    refine sx_RP.step (pc2 := 23) (ls2 := [(3, .int 64), (2, .int 0), (0, .ref 0), (1, .int (nI x2))]) (st2 := []) (w3 := w) rfl rfl ?_
    exact sx_RP.ls (sx_lr.cons rfl (sx_lr.cons rfl (sx_lr.cons rfl (sx_lr.cons rfl sx_lr.nil)))) (s86_64 (n := x2) hI hE 0)
set_option maxRecDepth 20000 in
set_option maxHeartbeats 4000000 in
theorem s120B {xs : Option (List Int32)} {d : Nat} {w w0 : List sx_C} {s c : Nat} (a1 : Int32) (hs : s < 4) (hc : c < 48) (hI : WI w) (hE : EC w0 w) {j : Nat} (hj : j ≤ 40) (m : Int32) (kk : ∀ (w4 : List sx_C) (um : Int32), WI w4 → EC w0 w4 → j + 1 ≤ 40 → sx_RP xs (d + 7) 120 56 [(0, .ref 0), (1, .int a1), (2, .int (nI c)), (3, .ref (103 + 2 * s)), (4, .int um), (5, .int (nI (j + 1)))] [] w4 (fun r w2 => (∃ v : Int32, r = some (.int v)) ∧ WI w2 ∧ EC w0 w2)) : sx_RP xs (d + 7) 120 56 [(0, .ref 0), (1, .int a1), (2, .int (nI c)), (3, .ref (103 + 2 * s)), (4, .int m), (5, .int (nI j))] [] w (fun r w2 => (∃ v : Int32, r = some (.int v)) ∧ WI w2 ∧ EC w0 w2) := by
  refine sx_RP.step (pc2 := 58) (ls2 := [(0, .ref 0), (1, .int a1), (2, .int (nI c)), (3, .ref (103 + 2 * s)), (4, .int m), (5, .int (nI j))]) (st2 := [.int (nI j)]) (w3 := w) rfl rfl ?_
  refine sx_RP.step (pc2 := 59) (ls2 := [(0, .ref 0), (1, .int a1), (2, .int (nI c)), (3, .ref (103 + 2 * s)), (4, .int m), (5, .int (nI j))]) (st2 := [.ref (103 + 2 * s), .int (nI j)]) (w3 := w) rfl rfl ?_
  refine sx_RP.gf (v := .int (fi w (103 + 2 * s) 2)) rfl rfl (hI.1.oS (show s < 4 by omega)) rfl rfl (show _ = 62 from rfl) ?_
  obtain ⟨x1, hx2, ex3⟩ : inR (fi w (103 + 2 * s) 2) 40 := hI.sh (show s < 4 by omega)
  rw [ex3]
  refine sx_RP.br (p1 := 123) (l1 := [(0, .ref 0), (1, .int a1), (2, .int (nI c)), (3, .ref (103 + 2 * s)), (4, .int m), (5, .int (nI j))]) (s1 := []) (v1 := w) (p2 := 65) (l2 := [(0, .ref 0), (1, .int a1), (2, .int (nI c)), (3, .ref (103 + 2 * s)), (4, .int m), (5, .int (nI j))]) (s2 := []) (v2 := w) rfl rfl (fun q4 => ?_) (fun q4 => ?_)
  · replace q4 := of_decide_eq_true q4
    replace q4 := (nI_leI (a := x1) (b := j) (by omega) (by omega)).mp q4
    refine sx_RP.step (pc2 := 125) (ls2 := [(0, .ref 0), (1, .int a1), (2, .int (nI c)), (3, .ref (103 + 2 * s)), (4, .int m), (5, .int (nI j))]) (st2 := [.int m]) (w3 := w) rfl rfl ?_
    refine sx_RP.ret (r := (some (.int m))) rfl rfl ?_
    exact ⟨⟨_, rfl⟩, hI, hE⟩
  · replace q4 := of_decide_eq_false q4
    replace q4 := mt (nI_leI (a := x1) (b := j) (by omega) (by omega)).mpr q4
    refine sx_RP.step (pc2 := 66) (ls2 := [(0, .ref 0), (1, .int a1), (2, .int (nI c)), (3, .ref (103 + 2 * s)), (4, .int m), (5, .int (nI j))]) (st2 := [.int (nI c)]) (w3 := w) rfl rfl ?_
    refine sx_RP.step (pc2 := 68) (ls2 := [(0, .ref 0), (1, .int a1), (2, .int (nI c)), (3, .ref (103 + 2 * s)), (4, .int m), (5, .int (nI j))]) (st2 := [.int (nI j), .int (nI c)]) (w3 := w) rfl rfl ?_
    refine sx_RP.step (pc2 := 69) (ls2 := [(0, .ref 0), (1, .int a1), (2, .int (nI c)), (3, .ref (103 + 2 * s)), (4, .int m), (5, .int (nI j))]) (st2 := [.int ((nI c) + (nI j))]) (w3 := w) rfl rfl ?_
    rw [show ((nI c) + (nI j) : Int32) = nI (c + j) from nI_add c j]
    refine sx_RP.step (pc2 := 71) (ls2 := [(0, .ref 0), (1, .int a1), (2, .int (nI c)), (3, .ref (103 + 2 * s)), (4, .int m), (5, .int (nI j))]) (st2 := [.int 48, .int (nI (c + j))]) (w3 := w) rfl rfl ?_
    refine sx_RP.br (p1 := 123) (l1 := [(0, .ref 0), (1, .int a1), (2, .int (nI c)), (3, .ref (103 + 2 * s)), (4, .int m), (5, .int (nI j))]) (s1 := []) (v1 := w) (p2 := 74) (l2 := [(0, .ref 0), (1, .int a1), (2, .int (nI c)), (3, .ref (103 + 2 * s)), (4, .int m), (5, .int (nI j))]) (s2 := []) (v2 := w) rfl rfl (fun q5 => ?_) (fun q5 => ?_)
    · replace q5 := of_decide_eq_true q5
      replace q5 := (nI_leI (a := 48) (b := (c + j)) (by omega) (by omega)).mp q5
      refine sx_RP.step (pc2 := 125) (ls2 := [(0, .ref 0), (1, .int a1), (2, .int (nI c)), (3, .ref (103 + 2 * s)), (4, .int m), (5, .int (nI j))]) (st2 := [.int m]) (w3 := w) rfl rfl ?_
      refine sx_RP.ret (r := (some (.int m))) rfl rfl ?_
      exact ⟨⟨_, rfl⟩, hI, hE⟩
    · replace q5 := of_decide_eq_false q5
      replace q5 := mt (nI_leI (a := 48) (b := (c + j)) (by omega) (by omega)).mpr q5
      refine sx_RP.step (pc2 := 75) (ls2 := [(0, .ref 0), (1, .int a1), (2, .int (nI c)), (3, .ref (103 + 2 * s)), (4, .int m), (5, .int (nI j))]) (st2 := [.ref (103 + 2 * s)]) (w3 := w) rfl rfl ?_
      refine sx_RP.gf (v := .ref (104 + 2 * s)) rfl rfl (hI.1.oS (show s < 4 by omega)) rfl rfl (show _ = 78 from rfl) ?_
      refine sx_RP.step (pc2 := 80) (ls2 := [(0, .ref 0), (1, .int a1), (2, .int (nI c)), (3, .ref (103 + 2 * s)), (4, .int m), (5, .int (nI j))]) (st2 := [.int (nI j), .ref (104 + 2 * s)]) (w3 := w) rfl rfl ?_
      refine sx_RP.lld (c := j) rfl (hI.1.aN (show s < 4 by omega)).1 (hI.1.aN (show s < 4 by omega)).2 (sx_in_nI (show j < 40 by omega) (by decide)) (show (nI j).toNatClampNeg = j from nI_clamp (by omega)) (show _ = 81 from rfl) ?_
      refine sx_RP.step (pc2 := 83) (ls2 := [(6, .long ((ja w (104 + 2 * s)).getD j 0)), (0, .ref 0), (1, .int a1), (2, .int (nI c)), (3, .ref (103 + 2 * s)), (4, .int m), (5, .int (nI j))]) (st2 := []) (w3 := w) rfl rfl ?_
      refine sx_RP.step (pc2 := 85) (ls2 := [(6, .long ((ja w (104 + 2 * s)).getD j 0)), (0, .ref 0), (1, .int a1), (2, .int (nI c)), (3, .ref (103 + 2 * s)), (4, .int m), (5, .int (nI j))]) (st2 := [.long ((ja w (104 + 2 * s)).getD j 0)]) (w3 := w) rfl rfl ?_
      refine sx_RP.step (pc2 := 86) (ls2 := [(6, .long ((ja w (104 + 2 * s)).getD j 0)), (0, .ref 0), (1, .int a1), (2, .int (nI c)), (3, .ref (103 + 2 * s)), (4, .int m), (5, .int (nI j))]) (st2 := [.long 0, .long ((ja w (104 + 2 * s)).getD j 0)]) (w3 := w) rfl rfl ?_
      refine sx_RP.step (pc2 := 87) (ls2 := [(6, .long ((ja w (104 + 2 * s)).getD j 0)), (0, .ref 0), (1, .int a1), (2, .int (nI c)), (3, .ref (103 + 2 * s)), (4, .int m), (5, .int (nI j))]) (st2 := [.int (lg_cmp ((ja w (104 + 2 * s)).getD j 0) 0)]) (w3 := w) rfl rfl ?_
      refine sx_RP.br (p1 := 117) (l1 := [(6, .long ((ja w (104 + 2 * s)).getD j 0)), (0, .ref 0), (1, .int a1), (2, .int (nI c)), (3, .ref (103 + 2 * s)), (4, .int m), (5, .int (nI j))]) (s1 := []) (v1 := w) (p2 := 90) (l2 := [(6, .long ((ja w (104 + 2 * s)).getD j 0)), (0, .ref 0), (1, .int a1), (2, .int (nI c)), (3, .ref (103 + 2 * s)), (4, .int m), (5, .int (nI j))]) (s2 := []) (v2 := w) rfl rfl (fun q6 => ?_) (fun q6 => ?_)
      · replace q6 := of_decide_eq_true q6
        refine sx_RP.step (pc2 := 120) (ls2 := [(5, .int ((nI j) + 1)), (6, .long ((ja w (104 + 2 * s)).getD j 0)), (0, .ref 0), (1, .int a1), (2, .int (nI c)), (3, .ref (103 + 2 * s)), (4, .int m)]) (st2 := []) (w3 := w) rfl rfl ?_
        rw [nI_1 j]
        refine sx_RP.step (pc2 := 56) (ls2 := [(5, .int (nI (j + 1))), (6, .long ((ja w (104 + 2 * s)).getD j 0)), (0, .ref 0), (1, .int a1), (2, .int (nI c)), (3, .ref (103 + 2 * s)), (4, .int m)]) (st2 := []) (w3 := w) rfl rfl ?_
        exact sx_RP.ls (sx_lr.cons rfl (sx_lr.cons rfl (sx_lr.cons rfl (sx_lr.cons rfl (sx_lr.cons rfl (sx_lr.cons rfl sx_lr.nil)))))) (kk w m hI hE (by omega))
      · replace q6 := of_decide_eq_false q6
        refine sx_RP.step (pc2 := 92) (ls2 := [(6, .long ((ja w (104 + 2 * s)).getD j 0)), (0, .ref 0), (1, .int a1), (2, .int (nI c)), (3, .ref (103 + 2 * s)), (4, .int m), (5, .int (nI j))]) (st2 := [.long ((ja w (104 + 2 * s)).getD j 0)]) (w3 := w) rfl rfl ?_
        refine sx_RP.step (pc2 := 95) (ls2 := [(6, .long ((ja w (104 + 2 * s)).getD j 0)), (0, .ref 0), (1, .int a1), (2, .int (nI c)), (3, .ref (103 + 2 * s)), (4, .int m), (5, .int (nI j))]) (st2 := [.long 3, .long ((ja w (104 + 2 * s)).getD j 0)]) (w3 := w) rfl rfl ?_
        refine sx_RP.step (pc2 := 96) (ls2 := [(6, .long ((ja w (104 + 2 * s)).getD j 0)), (0, .ref 0), (1, .int a1), (2, .int (nI c)), (3, .ref (103 + 2 * s)), (4, .int m), (5, .int (nI j))]) (st2 := [.int (lg_cmp ((ja w (104 + 2 * s)).getD j 0) 3)]) (w3 := w) rfl rfl ?_
        refine sx_RP.br (p1 := 117) (l1 := [(6, .long ((ja w (104 + 2 * s)).getD j 0)), (0, .ref 0), (1, .int a1), (2, .int (nI c)), (3, .ref (103 + 2 * s)), (4, .int m), (5, .int (nI j))]) (s1 := []) (v1 := w) (p2 := 99) (l2 := [(6, .long ((ja w (104 + 2 * s)).getD j 0)), (0, .ref 0), (1, .int a1), (2, .int (nI c)), (3, .ref (103 + 2 * s)), (4, .int m), (5, .int (nI j))]) (s2 := []) (v2 := w) rfl rfl (fun q7 => ?_) (fun q7 => ?_)
        · replace q7 := of_decide_eq_true q7
          refine sx_RP.step (pc2 := 120) (ls2 := [(5, .int ((nI j) + 1)), (6, .long ((ja w (104 + 2 * s)).getD j 0)), (0, .ref 0), (1, .int a1), (2, .int (nI c)), (3, .ref (103 + 2 * s)), (4, .int m)]) (st2 := []) (w3 := w) rfl rfl ?_
          rw [nI_1 j]
          refine sx_RP.step (pc2 := 56) (ls2 := [(5, .int (nI (j + 1))), (6, .long ((ja w (104 + 2 * s)).getD j 0)), (0, .ref 0), (1, .int a1), (2, .int (nI c)), (3, .ref (103 + 2 * s)), (4, .int m)]) (st2 := []) (w3 := w) rfl rfl ?_
          exact sx_RP.ls (sx_lr.cons rfl (sx_lr.cons rfl (sx_lr.cons rfl (sx_lr.cons rfl (sx_lr.cons rfl (sx_lr.cons rfl sx_lr.nil)))))) (kk w m hI hE (by omega))
        · replace q7 := of_decide_eq_false q7
          refine sx_RP.step (pc2 := 100) (ls2 := [(6, .long ((ja w (104 + 2 * s)).getD j 0)), (0, .ref 0), (1, .int a1), (2, .int (nI c)), (3, .ref (103 + 2 * s)), (4, .int m), (5, .int (nI j))]) (st2 := [.ref 0]) (w3 := w) rfl rfl ?_
          refine sx_RP.gf (v := .ref 1) rfl rfl hI.1.o0 rfl rfl (show _ = 103 from rfl) ?_
          refine sx_RP.gref (k := 0) (b := 2) hI (Or.inl rfl) rfl rfl (by omega) (show _ = 106 from rfl) ?_
          refine sx_RP.step (pc2 := 107) (ls2 := [(6, .long ((ja w (104 + 2 * s)).getD j 0)), (0, .ref 0), (1, .int a1), (2, .int (nI c)), (3, .ref (103 + 2 * s)), (4, .int m), (5, .int (nI j))]) (st2 := [.int (nI c), .ref 2]) (w3 := w) rfl rfl ?_
          refine sx_RP.step (pc2 := 109) (ls2 := [(6, .long ((ja w (104 + 2 * s)).getD j 0)), (0, .ref 0), (1, .int a1), (2, .int (nI c)), (3, .ref (103 + 2 * s)), (4, .int m), (5, .int (nI j))]) (st2 := [.int (nI j), .int (nI c), .ref 2]) (w3 := w) rfl rfl ?_
          refine sx_RP.step (pc2 := 110) (ls2 := [(6, .long ((ja w (104 + 2 * s)).getD j 0)), (0, .ref 0), (1, .int a1), (2, .int (nI c)), (3, .ref (103 + 2 * s)), (4, .int m), (5, .int (nI j))]) (st2 := [.int ((nI c) + (nI j)), .ref 2]) (w3 := w) rfl rfl ?_
          rw [show ((nI c) + (nI j) : Int32) = nI (c + j) from nI_add c j]
          refine sx_RP.step (pc2 := 112) (ls2 := [(6, .long ((ja w (104 + 2 * s)).getD j 0)), (0, .ref 0), (1, .int a1), (2, .int (nI c)), (3, .ref (103 + 2 * s)), (4, .int m), (5, .int (nI j))]) (st2 := [.long ((ja w (104 + 2 * s)).getD j 0), .int (nI (c + j)), .ref 2]) (w3 := w) rfl rfl ?_
          refine sx_RP.step (pc2 := 113) (ls2 := [(6, .long ((ja w (104 + 2 * s)).getD j 0)), (0, .ref 0), (1, .int a1), (2, .int (nI c)), (3, .ref (103 + 2 * s)), (4, .int m), (5, .int (nI j))]) (st2 := [.int (((ja w (104 + 2 * s)).getD j 0).toInt32), .int (nI (c + j)), .ref 2]) (w3 := w) rfl rfl ?_
          obtain ⟨x8, hx9, ex10⟩ := lay_rng q6 q7
          rw [ex10]
          refine sx_RP.stS hI hE (Or.inl rfl) rfl (sx_in_nI (show (c + j) < 48 by omega) (by decide)) (inR.n (show x8 ≤ 3 by omega)) (show _ = 114 from rfl) (fun w11 hI12 hE13 => ?_)
          refine sx_RP.step (pc2 := 117) (ls2 := [(4, .int (m + 1)), (6, .long ((ja w (104 + 2 * s)).getD j 0)), (0, .ref 0), (1, .int a1), (2, .int (nI c)), (3, .ref (103 + 2 * s)), (5, .int (nI j))]) (st2 := []) (w3 := w11) rfl rfl ?_
          refine sx_RP.step (pc2 := 120) (ls2 := [(5, .int ((nI j) + 1)), (4, .int (m + 1)), (6, .long ((ja w (104 + 2 * s)).getD j 0)), (0, .ref 0), (1, .int a1), (2, .int (nI c)), (3, .ref (103 + 2 * s))]) (st2 := []) (w3 := w11) rfl rfl ?_
          rw [nI_1 j]
          refine sx_RP.step (pc2 := 56) (ls2 := [(5, .int (nI (j + 1))), (4, .int (m + 1)), (6, .long ((ja w (104 + 2 * s)).getD j 0)), (0, .ref 0), (1, .int a1), (2, .int (nI c)), (3, .ref (103 + 2 * s))]) (st2 := []) (w3 := w11) rfl rfl ?_
          exact sx_RP.ls (sx_lr.cons rfl (sx_lr.cons rfl (sx_lr.cons rfl (sx_lr.cons rfl (sx_lr.cons rfl (sx_lr.cons rfl sx_lr.nil)))))) (kk w11 (m + 1) hI12 hE13 (by omega))
set_option maxRecDepth 20000 in
set_option maxHeartbeats 4000000 in
theorem s120L {xs : Option (List Int32)} {d : Nat} {w0 : List sx_C} {s c : Nat} (a1 : Int32) (hs : s < 4) (hc : c < 48) : ∀ (fz j : Nat) (w : List sx_C) (m : Int32) , 40 ≤ j + fz * 1 → j ≤ 40 → WI w → EC w0 w → sx_RP xs (d + 7) 120 56 [(0, .ref 0), (1, .int a1), (2, .int (nI c)), (3, .ref (103 + 2 * s)), (4, .int m), (5, .int (nI j))] [] w (fun r w2 => (∃ v : Int32, r = some (.int v)) ∧ WI w2 ∧ EC w0 w2)
  | 0, j, w, m, h, hj, hI, hE => s120B a1 hs hc hI hE hj m  (fun w4 um hI4 hE4 hlt  => absurd hlt (by omega)) 
  | fz + 1, j, w, m, h, hj, hI, hE => s120B a1 hs hc hI hE hj m  (fun w4 um hI4 hE4 hlt  => s120L a1 hs hc  fz (j + 1) w4 um (by omega) hlt hI4 hE4 ) 
set_option maxRecDepth 20000 in
set_option maxHeartbeats 4000000 in
theorem s120 {xs : Option (List Int32)} {d : Nat} {w : List sx_C} (hI : WI w) (a1 a2 : Int32) : sx_RP xs (d + 7) 120 0 (lv_args 0 [.ref 0, .int a1, .int a2]) [] w (fun r w2 => (∃ v : Int32, r = some (.int v)) ∧ WI w2 ∧ EC w w2) := by
  have hE : EC w w := EC.rf
  refine sx_RP.step (pc2 := 1) (ls2 := [(0, .ref 0), (1, .int a1), (2, .int a2)]) (st2 := [.int a1]) (w3 := w) rfl rfl ?_
  rcases in_cases a1 0 3 (m := 0) (n := 3) rfl rfl (by decide) (by decide) with q1 | ⟨x2, hx3, hx4, rfl⟩
  · refine sx_RP.cu (as := [.int a1]) (rest2 := []) (st3 := [.int 0]) rfl rfl rfl rfl rfl (cx_112n q1) rfl ?_
    refine sx_RP.step (pc2 := 7) (ls2 := [(0, .ref 0), (1, .int a1), (2, .int a2)]) (st2 := []) (w3 := w) rfl rfl ?_
    refine sx_RP.step (pc2 := 8) (ls2 := [(0, .ref 0), (1, .int a1), (2, .int a2)]) (st2 := [.ref 0]) (w3 := w) rfl rfl ?_
    refine sx_RP.step (pc2 := 10) (ls2 := [(0, .ref 0), (1, .int a1), (2, .int a2)]) (st2 := [.int (-1000000001), .ref 0]) (w3 := w) rfl rfl ?_
    refine sx_RP.callp (as2 := [.ref 0, .int (-1000000001)]) (rest2 := []) rfl rfl (sx_inv_v2 (mi := 120) (k := 78) (st := [.int (-1000000001), .ref 0]) (w := w) rfl rfl hI.1.o0 rfl rfl rfl) rfl rfl rfl (s9_0 hI) (show _ = 13 from rfl) ?_
    rintro r4 w6 ⟨rfl, hI7, hE9⟩
    have hE8 := hE.tr hE9
    show sx_RP _ _ _ _ _ [.int (-1000000001)] _ _
    refine sx_RP.ret (r := (some (.int (-1000000001)))) rfl rfl ?_
    exact ⟨⟨_, rfl⟩, hI7, hE8⟩
  · refine sx_RP.cu (as := [.int (nI x2)]) (rest2 := []) (st3 := [.int 1]) rfl rfl rfl rfl rfl (cx_112p ⟨nI_le (a := 0) hx3 (by omega), nI_le (b := 3) hx4 (by decide)⟩) rfl ?_
    refine sx_RP.step (pc2 := 14) (ls2 := [(0, .ref 0), (1, .int (nI x2)), (2, .int a2)]) (st2 := []) (w3 := w) rfl rfl ?_
    refine sx_RP.step (pc2 := 15) (ls2 := [(0, .ref 0), (1, .int (nI x2)), (2, .int a2)]) (st2 := [.ref 0]) (w3 := w) rfl rfl ?_
    refine sx_RP.gf (v := .ref 98) rfl rfl hI.1.o0 rfl rfl (show _ = 18 from rfl) ?_
    refine sx_RP.step (pc2 := 19) (ls2 := [(0, .ref 0), (1, .int (nI x2)), (2, .int a2)]) (st2 := [.int (nI x2), .ref 98]) (w3 := w) rfl rfl ?_
    refine sx_RP.ald (v := .ref (103 + 2 * x2)) rfl hI.1.a98 rfl (shA_at (show x2 < 4 by omega)) (show _ = 20 from rfl) ?_
    refine sx_RP.step (pc2 := 21) (ls2 := [(3, .ref (103 + 2 * x2)), (0, .ref 0), (1, .int (nI x2)), (2, .int a2)]) (st2 := []) (w3 := w) rfl rfl ?_
    refine sx_RP.step (pc2 := 22) (ls2 := [(3, .ref (103 + 2 * x2)), (0, .ref 0), (1, .int (nI x2)), (2, .int a2)]) (st2 := [.ref (103 + 2 * x2)]) (w3 := w) rfl rfl ?_
    obtain ⟨x10, hx11, c12⟩ := p116 hI (show x2 < 4 by omega)
    refine sx_RP.cu (as := [.ref (103 + 2 * x2)]) (rest2 := []) (st3 := [.int (nI x10)]) rfl rfl (sx_inv_v2 (mi := 120) (k := 310) (st := [.ref (103 + 2 * x2)]) (w := w) rfl rfl (hI.1.oS (show x2 < 4 by omega)) rfl rfl rfl) rfl rfl (c12) rfl ?_
    refine sx_RP.br (p1 := 36) (l1 := [(3, .ref (103 + 2 * x2)), (0, .ref 0), (1, .int (nI x2)), (2, .int a2)]) (s1 := []) (v1 := w) (p2 := 28) (l2 := [(3, .ref (103 + 2 * x2)), (0, .ref 0), (1, .int (nI x2)), (2, .int a2)]) (s2 := []) (v2 := w) rfl rfl (fun q13 => ?_) (fun q13 => ?_)
    · replace q13 := of_decide_eq_true q13
      replace q13 := (nI_eq (a := x10) (b := 0) (by omega) (by omega)).mp q13
      refine sx_RP.step (pc2 := 37) (ls2 := [(3, .ref (103 + 2 * x2)), (0, .ref 0), (1, .int (nI x2)), (2, .int a2)]) (st2 := [.int a2]) (w3 := w) rfl rfl ?_
      rcases in_cases a2 0 47 (m := 0) (n := 47) rfl rfl (by decide) (by decide) with q14 | ⟨x15, hx16, hx17, rfl⟩
      · refine sx_RP.cu (as := [.int a2]) (rest2 := []) (st3 := [.int 0]) rfl rfl rfl rfl rfl (cx_7n q14) rfl ?_
        refine sx_RP.step (pc2 := 43) (ls2 := [(3, .ref (103 + 2 * x2)), (0, .ref 0), (1, .int (nI x2)), (2, .int a2)]) (st2 := []) (w3 := w) rfl rfl ?_
        refine sx_RP.step (pc2 := 44) (ls2 := [(3, .ref (103 + 2 * x2)), (0, .ref 0), (1, .int (nI x2)), (2, .int a2)]) (st2 := [.ref 0]) (w3 := w) rfl rfl ?_
        refine sx_RP.step (pc2 := 46) (ls2 := [(3, .ref (103 + 2 * x2)), (0, .ref 0), (1, .int (nI x2)), (2, .int a2)]) (st2 := [.int (-1000000001), .ref 0]) (w3 := w) rfl rfl ?_
        refine sx_RP.callp (as2 := [.ref 0, .int (-1000000001)]) (rest2 := []) rfl rfl (sx_inv_v2 (mi := 120) (k := 78) (st := [.int (-1000000001), .ref 0]) (w := w) rfl rfl hI.1.o0 rfl rfl rfl) rfl rfl rfl (s9_0 hI) (show _ = 49 from rfl) ?_
        rintro r4 w19 ⟨rfl, hI20, hE22⟩
        have hE21 := hE.tr hE22
        show sx_RP _ _ _ _ _ [.int (-1000000001)] _ _
        refine sx_RP.ret (r := (some (.int (-1000000001)))) rfl rfl ?_
        exact ⟨⟨_, rfl⟩, hI20, hE21⟩
      · refine sx_RP.cu (as := [.int (nI x15)]) (rest2 := []) (st3 := [.int 1]) rfl rfl rfl rfl rfl (cx_7p ⟨nI_le (a := 0) hx16 (by omega), nI_le (b := 47) hx17 (by decide)⟩) rfl ?_
        refine sx_RP.step (pc2 := 50) (ls2 := [(3, .ref (103 + 2 * x2)), (0, .ref 0), (1, .int (nI x2)), (2, .int (nI x15))]) (st2 := []) (w3 := w) rfl rfl ?_
        refine sx_RP.step (pc2 := 51) (ls2 := [(3, .ref (103 + 2 * x2)), (0, .ref 0), (1, .int (nI x2)), (2, .int (nI x15))]) (st2 := [.int 0]) (w3 := w) rfl rfl ?_
        refine sx_RP.step (pc2 := 53) (ls2 := [(4, .int 0), (3, .ref (103 + 2 * x2)), (0, .ref 0), (1, .int (nI x2)), (2, .int (nI x15))]) (st2 := []) (w3 := w) rfl rfl ?_
        refine sx_RP.step (pc2 := 54) (ls2 := [(4, .int 0), (3, .ref (103 + 2 * x2)), (0, .ref 0), (1, .int (nI x2)), (2, .int (nI x15))]) (st2 := [.int 0]) (w3 := w) rfl rfl ?_
        refine sx_RP.step (pc2 := 56) (ls2 := [(5, .int 0), (4, .int 0), (3, .ref (103 + 2 * x2)), (0, .ref 0), (1, .int (nI x2)), (2, .int (nI x15))]) (st2 := []) (w3 := w) rfl rfl ?_
        exact sx_RP.ls (sx_lr.cons rfl (sx_lr.cons rfl (sx_lr.cons rfl (sx_lr.cons rfl (sx_lr.cons rfl (sx_lr.cons rfl sx_lr.nil)))))) (s120L (nI x2) (show x2 < 4 by omega) (show x15 < 48 by omega) 40 0 w 0 (by omega) (by omega) hI hE )
    · replace q13 := of_decide_eq_false q13
      replace q13 := mt (nI_eq (a := x10) (b := 0) (by omega) (by omega)).mpr q13
      refine sx_RP.step (pc2 := 29) (ls2 := [(3, .ref (103 + 2 * x2)), (0, .ref 0), (1, .int (nI x2)), (2, .int a2)]) (st2 := [.ref 0]) (w3 := w) rfl rfl ?_
      refine sx_RP.step (pc2 := 32) (ls2 := [(3, .ref (103 + 2 * x2)), (0, .ref 0), (1, .int (nI x2)), (2, .int a2)]) (st2 := [.int (-1000000006), .ref 0]) (w3 := w) rfl rfl ?_
      refine sx_RP.callp (as2 := [.ref 0, .int (-1000000006)]) (rest2 := []) rfl rfl (sx_inv_v2 (mi := 120) (k := 78) (st := [.int (-1000000006), .ref 0]) (w := w) rfl rfl hI.1.o0 rfl rfl rfl) rfl rfl rfl (s9_5 hI) (show _ = 35 from rfl) ?_
      rintro r4 w23 ⟨rfl, hI24, hE26⟩
      have hE25 := hE.tr hE26
      show sx_RP _ _ _ _ _ [.int (-1000000006)] _ _
      refine sx_RP.ret (r := (some (.int (-1000000006)))) rfl rfl ?_
      exact ⟨⟨_, rfl⟩, hI24, hE25⟩
set_option maxRecDepth 20000 in
set_option maxHeartbeats 4000000 in
theorem s121B {xs : Option (List Int32)} {d : Nat} {w w0 : List sx_C} {s n : Nat} (a1 : Int32) (hs : s < 4) (hn : n ≤ 9) (hI : WI w) (hE : EC w0 w) {j : Nat} (hj : j ≤ 9) (kk : ∀ (w4 : List sx_C), WI w4 → EC w0 w4 → j + 1 ≤ 9 → sx_RP xs (d + 7) 121 68 [(0, .ref 0), (1, .int a1), (2, .ref (103 + 2 * s)), (3, .int (nI n)), (4, .int (nI (j + 1)))] [] w4 (fun r w2 => (∃ v : Int32, r = some (.int v)) ∧ WI w2 ∧ EC w0 w2)) : sx_RP xs (d + 7) 121 68 [(0, .ref 0), (1, .int a1), (2, .ref (103 + 2 * s)), (3, .int (nI n)), (4, .int (nI j))] [] w (fun r w2 => (∃ v : Int32, r = some (.int v)) ∧ WI w2 ∧ EC w0 w2) := by
  refine sx_RP.step (pc2 := 70) (ls2 := [(0, .ref 0), (1, .int a1), (2, .ref (103 + 2 * s)), (3, .int (nI n)), (4, .int (nI j))]) (st2 := [.int (nI j)]) (w3 := w) rfl rfl ?_
  refine sx_RP.step (pc2 := 71) (ls2 := [(0, .ref 0), (1, .int a1), (2, .ref (103 + 2 * s)), (3, .int (nI n)), (4, .int (nI j))]) (st2 := [.int (nI n), .int (nI j)]) (w3 := w) rfl rfl ?_
  refine sx_RP.br (p1 := 105) (l1 := [(0, .ref 0), (1, .int a1), (2, .ref (103 + 2 * s)), (3, .int (nI n)), (4, .int (nI j))]) (s1 := []) (v1 := w) (p2 := 74) (l2 := [(0, .ref 0), (1, .int a1), (2, .ref (103 + 2 * s)), (3, .int (nI n)), (4, .int (nI j))]) (s2 := []) (v2 := w) rfl rfl (fun q1 => ?_) (fun q1 => ?_)
  · replace q1 := of_decide_eq_true q1
    replace q1 := (nI_leI (a := n) (b := j) (by omega) (by omega)).mp q1
    refine sx_RP.step (pc2 := 106) (ls2 := [(0, .ref 0), (1, .int a1), (2, .ref (103 + 2 * s)), (3, .int (nI n)), (4, .int (nI j))]) (st2 := [.int (nI n)]) (w3 := w) rfl rfl ?_
    refine sx_RP.ret (r := (some (.int (nI n)))) rfl rfl ?_
    exact ⟨⟨_, rfl⟩, hI, hE⟩
  · replace q1 := of_decide_eq_false q1
    replace q1 := mt (nI_leI (a := n) (b := j) (by omega) (by omega)).mpr q1
    refine sx_RP.step (pc2 := 75) (ls2 := [(0, .ref 0), (1, .int a1), (2, .ref (103 + 2 * s)), (3, .int (nI n)), (4, .int (nI j))]) (st2 := [.ref (103 + 2 * s)]) (w3 := w) rfl rfl ?_
    refine sx_RP.step (pc2 := 77) (ls2 := [(0, .ref 0), (1, .int a1), (2, .ref (103 + 2 * s)), (3, .int (nI n)), (4, .int (nI j))]) (st2 := [.int (nI j), .ref (103 + 2 * s)]) (w3 := w) rfl rfl ?_
    refine sx_RP.step (pc2 := 78) (ls2 := [(0, .ref 0), (1, .int a1), (2, .ref (103 + 2 * s)), (3, .int (nI n)), (4, .int (nI j))]) (st2 := [.ref 0, .int (nI j), .ref (103 + 2 * s)]) (w3 := w) rfl rfl ?_
    refine sx_RP.step (pc2 := 79) (ls2 := [(0, .ref 0), (1, .int a1), (2, .ref (103 + 2 * s)), (3, .int (nI n)), (4, .int (nI j))]) (st2 := [.ref 0, .ref 0, .int (nI j), .ref (103 + 2 * s)]) (w3 := w) rfl rfl ?_
    refine sx_RP.gf (v := .ref 1) rfl rfl hI.1.o0 rfl rfl (show _ = 82 from rfl) ?_
    refine sx_RP.step (pc2 := 83) (ls2 := [(0, .ref 0), (1, .int a1), (2, .ref (103 + 2 * s)), (3, .int (nI n)), (4, .int (nI j))]) (st2 := [.ref 0, .ref 1, .ref 0, .int (nI j), .ref (103 + 2 * s)]) (w3 := w) rfl rfl ?_
    refine sx_RP.gf (v := .ref 1) rfl rfl hI.1.o0 rfl rfl (show _ = 86 from rfl) ?_
    refine sx_RP.gref (k := 4) (b := 4) hI (Or.inl rfl) rfl rfl (by omega) (show _ = 89 from rfl) ?_
    refine sx_RP.step (pc2 := 91) (ls2 := [(0, .ref 0), (1, .int a1), (2, .ref (103 + 2 * s)), (3, .int (nI n)), (4, .int (nI j))]) (st2 := [.int (nI j), .ref 4, .ref 1, .ref 0, .int (nI j), .ref (103 + 2 * s)]) (w3 := w) rfl rfl ?_
    refine sx_RP.ild (c := j) rfl (hI.1.aD (Or.inl rfl)).1 (hI.1.aD (Or.inl rfl)).2 (sx_in_nI (show j < 9 by omega) (by decide)) (show (nI j).toNatClampNeg = j from nI_clamp (by omega)) (show _ = 92 from rfl) ?_
    obtain ⟨x2, hx3, ex4⟩ : inR ((ia w 4).getD j 0) 47 := hI.di (Or.inl rfl) (show j < 9 by omega)
    rw [ex4]
    refine sx_RP.callp (as2 := [.ref 0, .ref 1, .int (nI x2)]) (rest2 := [.int (nI j), .ref (103 + 2 * s)]) rfl rfl (sx_inv_v2 (mi := 121) (k := 231) (st := [.int (nI x2), .ref 1, .ref 0, .int (nI j), .ref (103 + 2 * s)]) (w := w) rfl rfl hI.1.o0 rfl rfl rfl) rfl rfl rfl (s68 hI (Or.inl rfl) (show x2 < 48 by omega)) (show _ = 95 from rfl) ?_
    rintro r4 w6 ⟨⟨v5, rfl⟩, hI7, hE9⟩
    have hE8 := hE.tr hE9
    show sx_RP _ _ _ _ _ [.int v5, .int (nI j), .ref (103 + 2 * s)] _ _
    refine sx_RP.step (pc2 := 96) (ls2 := [(0, .ref 0), (1, .int a1), (2, .ref (103 + 2 * s)), (3, .int (nI n)), (4, .int (nI j))]) (st2 := [.long v5.toInt64, .int (nI j), .ref (103 + 2 * s)]) (w3 := w6) rfl rfl ?_
    refine sx_RP.callp (as2 := [.ref (103 + 2 * s), .int (nI j), .long v5.toInt64]) (rest2 := []) rfl rfl (sx_inv_v2 (mi := 121) (k := 318) (st := [.long v5.toInt64, .int (nI j), .ref (103 + 2 * s)]) (w := w6) rfl rfl (hI7.1.oS (show s < 4 by omega)) rfl rfl rfl) rfl rfl rfl (s117 hI7 (show s < 4 by omega) (show j < 40 by omega) v5.toInt64) (show _ = 99 from rfl) ?_
    rintro r4 w10 ⟨rfl, hI11, hE13⟩
    have hE12 := hE8.tr hE13
    show sx_RP _ _ _ _ _ [] _ _
    refine sx_RP.step (pc2 := 102) (ls2 := [(4, .int ((nI j) + 1)), (0, .ref 0), (1, .int a1), (2, .ref (103 + 2 * s)), (3, .int (nI n))]) (st2 := []) (w3 := w10) rfl rfl ?_
    rw [nI_1 j]
    refine sx_RP.step (pc2 := 68) (ls2 := [(4, .int (nI (j + 1))), (0, .ref 0), (1, .int a1), (2, .ref (103 + 2 * s)), (3, .int (nI n))]) (st2 := []) (w3 := w10) rfl rfl ?_
    exact sx_RP.ls (sx_lr.cons rfl (sx_lr.cons rfl (sx_lr.cons rfl (sx_lr.cons rfl (sx_lr.cons rfl sx_lr.nil))))) (kk w10 hI11 hE12 (by omega))
set_option maxRecDepth 20000 in
set_option maxHeartbeats 4000000 in
theorem s121L {xs : Option (List Int32)} {d : Nat} {w0 : List sx_C} {s n : Nat} (a1 : Int32) (hs : s < 4) (hn : n ≤ 9) : ∀ (fz j : Nat) (w : List sx_C) , 9 ≤ j + fz * 1 → j ≤ 9 → WI w → EC w0 w → sx_RP xs (d + 7) 121 68 [(0, .ref 0), (1, .int a1), (2, .ref (103 + 2 * s)), (3, .int (nI n)), (4, .int (nI j))] [] w (fun r w2 => (∃ v : Int32, r = some (.int v)) ∧ WI w2 ∧ EC w0 w2)
  | 0, j, w, h, hj, hI, hE => s121B a1 hs hn hI hE hj   (fun w4  hI4 hE4 hlt  => absurd hlt (by omega)) 
  | fz + 1, j, w, h, hj, hI, hE => s121B a1 hs hn hI hE hj   (fun w4  hI4 hE4 hlt  => s121L a1 hs hn  fz (j + 1) w4  (by omega) hlt hI4 hE4 ) 
set_option maxRecDepth 20000 in
set_option maxHeartbeats 4000000 in
theorem s121 {xs : Option (List Int32)} {d : Nat} {w : List sx_C} (hI : WI w) (a1 : Int32) : sx_RP xs (d + 7) 121 0 (lv_args 0 [.ref 0, .int a1]) [] w (fun r w2 => (∃ v : Int32, r = some (.int v)) ∧ WI w2 ∧ EC w w2) := by
  have hE : EC w w := EC.rf
  refine sx_RP.step (pc2 := 1) (ls2 := [(0, .ref 0), (1, .int a1)]) (st2 := [.int a1]) (w3 := w) rfl rfl ?_
  rcases in_cases a1 0 3 (m := 0) (n := 3) rfl rfl (by decide) (by decide) with q1 | ⟨x2, hx3, hx4, rfl⟩
  · refine sx_RP.cu (as := [.int a1]) (rest2 := []) (st3 := [.int 0]) rfl rfl rfl rfl rfl (cx_112n q1) rfl ?_
    refine sx_RP.step (pc2 := 7) (ls2 := [(0, .ref 0), (1, .int a1)]) (st2 := []) (w3 := w) rfl rfl ?_
    refine sx_RP.step (pc2 := 8) (ls2 := [(0, .ref 0), (1, .int a1)]) (st2 := [.ref 0]) (w3 := w) rfl rfl ?_
    refine sx_RP.step (pc2 := 10) (ls2 := [(0, .ref 0), (1, .int a1)]) (st2 := [.int (-1000000001), .ref 0]) (w3 := w) rfl rfl ?_
    refine sx_RP.callp (as2 := [.ref 0, .int (-1000000001)]) (rest2 := []) rfl rfl (sx_inv_v2 (mi := 121) (k := 78) (st := [.int (-1000000001), .ref 0]) (w := w) rfl rfl hI.1.o0 rfl rfl rfl) rfl rfl rfl (s9_0 hI) (show _ = 13 from rfl) ?_
    rintro r4 w6 ⟨rfl, hI7, hE9⟩
    have hE8 := hE.tr hE9
    show sx_RP _ _ _ _ _ [.int (-1000000001)] _ _
    refine sx_RP.ret (r := (some (.int (-1000000001)))) rfl rfl ?_
    exact ⟨⟨_, rfl⟩, hI7, hE8⟩
  · refine sx_RP.cu (as := [.int (nI x2)]) (rest2 := []) (st3 := [.int 1]) rfl rfl rfl rfl rfl (cx_112p ⟨nI_le (a := 0) hx3 (by omega), nI_le (b := 3) hx4 (by decide)⟩) rfl ?_
    refine sx_RP.step (pc2 := 14) (ls2 := [(0, .ref 0), (1, .int (nI x2))]) (st2 := []) (w3 := w) rfl rfl ?_
    refine sx_RP.step (pc2 := 15) (ls2 := [(0, .ref 0), (1, .int (nI x2))]) (st2 := [.ref 0]) (w3 := w) rfl rfl ?_
    refine sx_RP.gf (v := .ref 98) rfl rfl hI.1.o0 rfl rfl (show _ = 18 from rfl) ?_
    refine sx_RP.step (pc2 := 19) (ls2 := [(0, .ref 0), (1, .int (nI x2))]) (st2 := [.int (nI x2), .ref 98]) (w3 := w) rfl rfl ?_
    refine sx_RP.ald (v := .ref (103 + 2 * x2)) rfl hI.1.a98 rfl (shA_at (show x2 < 4 by omega)) (show _ = 20 from rfl) ?_
    refine sx_RP.step (pc2 := 21) (ls2 := [(2, .ref (103 + 2 * x2)), (0, .ref 0), (1, .int (nI x2))]) (st2 := []) (w3 := w) rfl rfl ?_
    refine sx_RP.step (pc2 := 22) (ls2 := [(2, .ref (103 + 2 * x2)), (0, .ref 0), (1, .int (nI x2))]) (st2 := [.ref (103 + 2 * x2)]) (w3 := w) rfl rfl ?_
    obtain ⟨x10, hx11, c12⟩ := p116 hI (show x2 < 4 by omega)
    refine sx_RP.cu (as := [.ref (103 + 2 * x2)]) (rest2 := []) (st3 := [.int (nI x10)]) rfl rfl (sx_inv_v2 (mi := 121) (k := 310) (st := [.ref (103 + 2 * x2)]) (w := w) rfl rfl (hI.1.oS (show x2 < 4 by omega)) rfl rfl rfl) rfl rfl (c12) rfl ?_
    refine sx_RP.br (p1 := 36) (l1 := [(2, .ref (103 + 2 * x2)), (0, .ref 0), (1, .int (nI x2))]) (s1 := []) (v1 := w) (p2 := 28) (l2 := [(2, .ref (103 + 2 * x2)), (0, .ref 0), (1, .int (nI x2))]) (s2 := []) (v2 := w) rfl rfl (fun q13 => ?_) (fun q13 => ?_)
    · replace q13 := of_decide_eq_true q13
      replace q13 := (nI_eq (a := x10) (b := 0) (by omega) (by omega)).mp q13
      refine sx_RP.step (pc2 := 37) (ls2 := [(2, .ref (103 + 2 * x2)), (0, .ref 0), (1, .int (nI x2))]) (st2 := [.ref 0]) (w3 := w) rfl rfl ?_
      refine sx_RP.gf (v := .ref 44) rfl rfl hI.1.o0 rfl rfl (show _ = 40 from rfl) ?_
      refine sx_RP.step (pc2 := 41) (ls2 := [(2, .ref (103 + 2 * x2)), (0, .ref 0), (1, .int (nI x2))]) (st2 := [.ref 0, .ref 44]) (w3 := w) rfl rfl ?_
      refine sx_RP.gf (v := .ref 1) rfl rfl hI.1.o0 rfl rfl (show _ = 44 from rfl) ?_
      refine sx_RP.gref (k := 0) (b := 2) hI (Or.inl rfl) rfl rfl (by omega) (show _ = 47 from rfl) ?_
      refine sx_RP.callp (as2 := [.ref 44, .ref 2]) (rest2 := []) rfl rfl (sx_inv_v2 (mi := 121) (k := 95) (st := [.ref 2, .ref 44]) (w := w) rfl rfl hI.1.o44 rfl rfl rfl) rfl rfl rfl (s16 hI (Or.inl rfl)) (show _ = 50 from rfl) ?_
      rintro r4 w14 ⟨rfl, hI15, hE17⟩
      have hE16 := hE.tr hE17
      show sx_RP _ _ _ _ _ [] _ _
      refine sx_RP.step (pc2 := 51) (ls2 := [(2, .ref (103 + 2 * x2)), (0, .ref 0), (1, .int (nI x2))]) (st2 := [.ref (103 + 2 * x2)]) (w3 := w14) rfl rfl ?_
      refine sx_RP.gf (v := .int (fi w14 (103 + 2 * x2) 2)) rfl rfl (hI15.1.oS (show x2 < 4 by omega)) rfl rfl (show _ = 54 from rfl) ?_
      obtain ⟨x18, hx19, ex20⟩ : inR (fi w14 (103 + 2 * x2) 2) 40 := hI15.sh (show x2 < 4 by omega)
      rw [ex20]
      refine sx_RP.step (pc2 := 55) (ls2 := [(2, .ref (103 + 2 * x2)), (0, .ref 0), (1, .int (nI x2))]) (st2 := [.ref 0, .int (nI x18)]) (w3 := w14) rfl rfl ?_
      refine sx_RP.gf (v := .ref 1) rfl rfl hI15.1.o0 rfl rfl (show _ = 58 from rfl) ?_
      refine sx_RP.gc (k := 5) hI15 (Or.inl rfl) rfl rfl (by omega) (show _ = 61 from rfl) ?_
      obtain ⟨x21, hx22, ex23⟩ : inR (fi w14 1 5) 9 := (hI15.c (Or.inl rfl)).2
      rw [ex23]
      obtain ⟨x24, hx25, c26⟩ := p97 (a := x18) (b := x21) hI15 (by omega) (by omega)
      refine sx_RP.cu (as := [.int (nI x18), .int (nI x21)]) (rest2 := []) (st3 := [.int (nI x24)]) rfl rfl rfl rfl rfl (c26) rfl ?_
      refine sx_RP.step (pc2 := 65) (ls2 := [(3, .int (nI x24)), (2, .ref (103 + 2 * x2)), (0, .ref 0), (1, .int (nI x2))]) (st2 := []) (w3 := w14) rfl rfl ?_
      refine sx_RP.step (pc2 := 66) (ls2 := [(3, .int (nI x24)), (2, .ref (103 + 2 * x2)), (0, .ref 0), (1, .int (nI x2))]) (st2 := [.int 0]) (w3 := w14) rfl rfl ?_
      refine sx_RP.step (pc2 := 68) (ls2 := [(4, .int 0), (3, .int (nI x24)), (2, .ref (103 + 2 * x2)), (0, .ref 0), (1, .int (nI x2))]) (st2 := []) (w3 := w14) rfl rfl ?_
      exact sx_RP.ls (sx_lr.cons rfl (sx_lr.cons rfl (sx_lr.cons rfl (sx_lr.cons rfl (sx_lr.cons rfl sx_lr.nil))))) (s121L (nI x2) (show x2 < 4 by omega) (show x24 ≤ 9 by omega) 9 0 w14  (by omega) (by omega) hI15 hE16 )
    · replace q13 := of_decide_eq_false q13
      replace q13 := mt (nI_eq (a := x10) (b := 0) (by omega) (by omega)).mpr q13
      refine sx_RP.step (pc2 := 29) (ls2 := [(2, .ref (103 + 2 * x2)), (0, .ref 0), (1, .int (nI x2))]) (st2 := [.ref 0]) (w3 := w) rfl rfl ?_
      refine sx_RP.step (pc2 := 32) (ls2 := [(2, .ref (103 + 2 * x2)), (0, .ref 0), (1, .int (nI x2))]) (st2 := [.int (-1000000006), .ref 0]) (w3 := w) rfl rfl ?_
      refine sx_RP.callp (as2 := [.ref 0, .int (-1000000006)]) (rest2 := []) rfl rfl (sx_inv_v2 (mi := 121) (k := 78) (st := [.int (-1000000006), .ref 0]) (w := w) rfl rfl hI.1.o0 rfl rfl rfl) rfl rfl rfl (s9_5 hI) (show _ = 35 from rfl) ?_
      rintro r4 w27 ⟨rfl, hI28, hE30⟩
      have hE29 := hE.tr hE30
      show sx_RP _ _ _ _ _ [.int (-1000000006)] _ _
      refine sx_RP.ret (r := (some (.int (-1000000006)))) rfl rfl ?_
      exact ⟨⟨_, rfl⟩, hI28, hE29⟩
set_option maxRecDepth 20000 in
set_option maxHeartbeats 4000000 in
theorem s122B {xs : Option (List Int32)} {d : Nat} {w w0 : List sx_C} {s : Nat} (a1 : Int32) (hs : s < 4) (hI : WI w) (hE : EC w0 w) {j : Nat} (hj : j ≤ 61) (kk : ∀ (w4 : List sx_C), WI w4 → EC w0 w4 → j + 1 ≤ 61 → sx_RP xs (d + 7) 122 82 [(0, .ref 0), (1, .int a1), (2, .ref (103 + 2 * s)), (3, .int (nI (j + 1)))] [] w4 (fun r w2 => (∃ v : Int32, r = some (.int v)) ∧ WI w2 ∧ EC w0 w2)) : sx_RP xs (d + 7) 122 82 [(0, .ref 0), (1, .int a1), (2, .ref (103 + 2 * s)), (3, .int (nI j))] [] w (fun r w2 => (∃ v : Int32, r = some (.int v)) ∧ WI w2 ∧ EC w0 w2) := by
  refine sx_RP.step (pc2 := 83) (ls2 := [(0, .ref 0), (1, .int a1), (2, .ref (103 + 2 * s)), (3, .int (nI j))]) (st2 := [.int (nI j)]) (w3 := w) rfl rfl ?_
  refine sx_RP.step (pc2 := 85) (ls2 := [(0, .ref 0), (1, .int a1), (2, .ref (103 + 2 * s)), (3, .int (nI j))]) (st2 := [.int 60, .int (nI j)]) (w3 := w) rfl rfl ?_
  refine sx_RP.br (p1 := 120) (l1 := [(0, .ref 0), (1, .int a1), (2, .ref (103 + 2 * s)), (3, .int (nI j))]) (s1 := []) (v1 := w) (p2 := 88) (l2 := [(0, .ref 0), (1, .int a1), (2, .ref (103 + 2 * s)), (3, .int (nI j))]) (s2 := []) (v2 := w) rfl rfl (fun q1 => ?_) (fun q1 => ?_)
  · replace q1 := of_decide_eq_true q1
    replace q1 := (nI_ltI (a := 60) (b := j) (by omega) (by omega)).mp q1
    refine sx_RP.step (pc2 := 121) (ls2 := [(0, .ref 0), (1, .int a1), (2, .ref (103 + 2 * s)), (3, .int (nI j))]) (st2 := [.ref 0]) (w3 := w) rfl rfl ?_
    refine sx_RP.step (pc2 := 123) (ls2 := [(0, .ref 0), (1, .int a1), (2, .ref (103 + 2 * s)), (3, .int (nI j))]) (st2 := [.int (-1000000004), .ref 0]) (w3 := w) rfl rfl ?_
    refine sx_RP.callp (as2 := [.ref 0, .int (-1000000004)]) (rest2 := []) rfl rfl (sx_inv_v2 (mi := 122) (k := 78) (st := [.int (-1000000004), .ref 0]) (w := w) rfl rfl hI.1.o0 rfl rfl rfl) rfl rfl rfl (s9_3 hI) (show _ = 126 from rfl) ?_
    rintro r4 w2 ⟨rfl, hI3, hE5⟩
    have hE4 := hE.tr hE5
    show sx_RP _ _ _ _ _ [.int (-1000000004)] _ _
    refine sx_RP.ret (r := (some (.int (-1000000004)))) rfl rfl ?_
    exact ⟨⟨_, rfl⟩, hI3, hE4⟩
  · replace q1 := of_decide_eq_false q1
    replace q1 := mt (nI_ltI (a := 60) (b := j) (by omega) (by omega)).mpr q1
    refine sx_RP.step (pc2 := 89) (ls2 := [(0, .ref 0), (1, .int a1), (2, .ref (103 + 2 * s)), (3, .int (nI j))]) (st2 := [.int (nI j)]) (w3 := w) rfl rfl ?_
    refine sx_RP.br (p1 := 100) (l1 := [(0, .ref 0), (1, .int a1), (2, .ref (103 + 2 * s)), (3, .int (nI j))]) (s1 := []) (v1 := w) (p2 := 92) (l2 := [(0, .ref 0), (1, .int a1), (2, .ref (103 + 2 * s)), (3, .int (nI j))]) (s2 := []) (v2 := w) rfl rfl (fun q6 => ?_) (fun q6 => ?_)
    · replace q6 := of_decide_eq_true q6
      replace q6 := (nI_leI (a := j) (b := 0) (by omega) (by omega)).mp q6
      refine sx_RP.step (pc2 := 101) (ls2 := [(0, .ref 0), (1, .int a1), (2, .ref (103 + 2 * s)), (3, .int (nI j))]) (st2 := [.ref 0]) (w3 := w) rfl rfl ?_
      refine sx_RP.step (pc2 := 102) (ls2 := [(0, .ref 0), (1, .int a1), (2, .ref (103 + 2 * s)), (3, .int (nI j))]) (st2 := [.ref 0, .ref 0]) (w3 := w) rfl rfl ?_
      refine sx_RP.gf (v := .ref 29) rfl rfl hI.1.o0 rfl rfl (show _ = 105 from rfl) ?_
      refine sx_RP.step (pc2 := 106) (ls2 := [(0, .ref 0), (1, .int a1), (2, .ref (103 + 2 * s)), (3, .int (nI j))]) (st2 := [.ref (103 + 2 * s), .ref 29, .ref 0]) (w3 := w) rfl rfl ?_
      refine sx_RP.callp (as2 := [.ref 0, .ref 29, .ref (103 + 2 * s)]) (rest2 := []) rfl rfl (sx_inv_v2 (mi := 122) (k := 341) (st := [.ref (103 + 2 * s), .ref 29, .ref 0]) (w := w) rfl rfl hI.1.o0 rfl rfl rfl) rfl rfl rfl (s123 hI (Or.inr (Or.inr rfl)) (show s < 4 by omega)) (show _ = 109 from rfl) ?_
      rintro r4 w9 ⟨⟨x7, hx8, rfl⟩, hI10, hE12⟩
      have hE11 := hE.tr hE12
      show sx_RP _ _ _ _ _ [.int (nI x7)] _ _
      refine sx_RP.br (p1 := 114) (l1 := [(0, .ref 0), (1, .int a1), (2, .ref (103 + 2 * s)), (3, .int (nI j))]) (s1 := []) (v1 := w9) (p2 := 112) (l2 := [(0, .ref 0), (1, .int a1), (2, .ref (103 + 2 * s)), (3, .int (nI j))]) (s2 := []) (v2 := w9) rfl rfl (fun q13 => ?_) (fun q13 => ?_)
      · replace q13 := of_decide_eq_true q13
        replace q13 := (nI_eq (a := x7) (b := 0) (by omega) (by omega)).mp q13
        refine sx_RP.step (pc2 := 117) (ls2 := [(3, .int ((nI j) + 1)), (0, .ref 0), (1, .int a1), (2, .ref (103 + 2 * s))]) (st2 := []) (w3 := w9) rfl rfl ?_
        rw [nI_1 j]
        refine sx_RP.step (pc2 := 82) (ls2 := [(3, .int (nI (j + 1))), (0, .ref 0), (1, .int a1), (2, .ref (103 + 2 * s))]) (st2 := []) (w3 := w9) rfl rfl ?_
        exact sx_RP.ls (sx_lr.cons rfl (sx_lr.cons rfl (sx_lr.cons rfl (sx_lr.cons rfl sx_lr.nil)))) (kk w9 hI10 hE11 (by omega))
      · replace q13 := of_decide_eq_false q13
        replace q13 := mt (nI_eq (a := x7) (b := 0) (by omega) (by omega)).mpr q13
        refine sx_RP.step (pc2 := 113) (ls2 := [(0, .ref 0), (1, .int a1), (2, .ref (103 + 2 * s)), (3, .int (nI j))]) (st2 := [.int (nI j)]) (w3 := w9) rfl rfl ?_
        refine sx_RP.ret (r := (some (.int (nI j)))) rfl rfl ?_
        exact ⟨⟨_, rfl⟩, hI10, hE11⟩
    · replace q6 := of_decide_eq_false q6
      replace q6 := mt (nI_leI (a := j) (b := 0) (by omega) (by omega)).mpr q6
      refine sx_RP.step (pc2 := 93) (ls2 := [(0, .ref 0), (1, .int a1), (2, .ref (103 + 2 * s)), (3, .int (nI j))]) (st2 := [.ref 0]) (w3 := w) rfl rfl ?_
      refine sx_RP.gf (v := .ref 29) rfl rfl hI.1.o0 rfl rfl (show _ = 96 from rfl) ?_
      refine sx_RP.callp (as2 := [.ref 29]) (rest2 := []) rfl rfl (sx_inv_v2 (mi := 122) (k := 166) (st := [.ref 29]) (w := w) rfl rfl (hI.1.oC (Or.inr (Or.inr rfl))) rfl rfl rfl) rfl rfl rfl (s41 hI (Or.inr (Or.inr rfl))) (show _ = 99 from rfl) ?_
      rintro r4 w15 ⟨⟨v14, rfl⟩, hI16, hE18⟩
      have hE17 := hE.tr hE18
      show sx_RP _ _ _ _ _ [.int v14] _ _
      refine sx_RP.step (pc2 := 100) (ls2 := [(0, .ref 0), (1, .int a1), (2, .ref (103 + 2 * s)), (3, .int (nI j))]) (st2 := []) (w3 := w15) rfl rfl ?_
      refine sx_RP.step (pc2 := 101) (ls2 := [(0, .ref 0), (1, .int a1), (2, .ref (103 + 2 * s)), (3, .int (nI j))]) (st2 := [.ref 0]) (w3 := w15) rfl rfl ?_
      refine sx_RP.step (pc2 := 102) (ls2 := [(0, .ref 0), (1, .int a1), (2, .ref (103 + 2 * s)), (3, .int (nI j))]) (st2 := [.ref 0, .ref 0]) (w3 := w15) rfl rfl ?_
      refine sx_RP.gf (v := .ref 29) rfl rfl hI16.1.o0 rfl rfl (show _ = 105 from rfl) ?_
      refine sx_RP.step (pc2 := 106) (ls2 := [(0, .ref 0), (1, .int a1), (2, .ref (103 + 2 * s)), (3, .int (nI j))]) (st2 := [.ref (103 + 2 * s), .ref 29, .ref 0]) (w3 := w15) rfl rfl ?_
      refine sx_RP.callp (as2 := [.ref 0, .ref 29, .ref (103 + 2 * s)]) (rest2 := []) rfl rfl (sx_inv_v2 (mi := 122) (k := 341) (st := [.ref (103 + 2 * s), .ref 29, .ref 0]) (w := w15) rfl rfl hI16.1.o0 rfl rfl rfl) rfl rfl rfl (s123 hI16 (Or.inr (Or.inr rfl)) (show s < 4 by omega)) (show _ = 109 from rfl) ?_
      rintro r4 w21 ⟨⟨x19, hx20, rfl⟩, hI22, hE24⟩
      have hE23 := hE17.tr hE24
      show sx_RP _ _ _ _ _ [.int (nI x19)] _ _
      refine sx_RP.br (p1 := 114) (l1 := [(0, .ref 0), (1, .int a1), (2, .ref (103 + 2 * s)), (3, .int (nI j))]) (s1 := []) (v1 := w21) (p2 := 112) (l2 := [(0, .ref 0), (1, .int a1), (2, .ref (103 + 2 * s)), (3, .int (nI j))]) (s2 := []) (v2 := w21) rfl rfl (fun q25 => ?_) (fun q25 => ?_)
      · replace q25 := of_decide_eq_true q25
        replace q25 := (nI_eq (a := x19) (b := 0) (by omega) (by omega)).mp q25
        refine sx_RP.step (pc2 := 117) (ls2 := [(3, .int ((nI j) + 1)), (0, .ref 0), (1, .int a1), (2, .ref (103 + 2 * s))]) (st2 := []) (w3 := w21) rfl rfl ?_
        rw [nI_1 j]
        refine sx_RP.step (pc2 := 82) (ls2 := [(3, .int (nI (j + 1))), (0, .ref 0), (1, .int a1), (2, .ref (103 + 2 * s))]) (st2 := []) (w3 := w21) rfl rfl ?_
        exact sx_RP.ls (sx_lr.cons rfl (sx_lr.cons rfl (sx_lr.cons rfl (sx_lr.cons rfl sx_lr.nil)))) (kk w21 hI22 hE23 (by omega))
      · replace q25 := of_decide_eq_false q25
        replace q25 := mt (nI_eq (a := x19) (b := 0) (by omega) (by omega)).mpr q25
        refine sx_RP.step (pc2 := 113) (ls2 := [(0, .ref 0), (1, .int a1), (2, .ref (103 + 2 * s)), (3, .int (nI j))]) (st2 := [.int (nI j)]) (w3 := w21) rfl rfl ?_
        refine sx_RP.ret (r := (some (.int (nI j)))) rfl rfl ?_
        exact ⟨⟨_, rfl⟩, hI22, hE23⟩
set_option maxRecDepth 20000 in
set_option maxHeartbeats 4000000 in
theorem s122L {xs : Option (List Int32)} {d : Nat} {w0 : List sx_C} {s : Nat} (a1 : Int32) (hs : s < 4) : ∀ (fz j : Nat) (w : List sx_C) , 61 ≤ j + fz * 1 → j ≤ 61 → WI w → EC w0 w → sx_RP xs (d + 7) 122 82 [(0, .ref 0), (1, .int a1), (2, .ref (103 + 2 * s)), (3, .int (nI j))] [] w (fun r w2 => (∃ v : Int32, r = some (.int v)) ∧ WI w2 ∧ EC w0 w2)
  | 0, j, w, h, hj, hI, hE => s122B a1 hs hI hE hj   (fun w4  hI4 hE4 hlt  => absurd hlt (by omega)) 
  | fz + 1, j, w, h, hj, hI, hE => s122B a1 hs hI hE hj   (fun w4  hI4 hE4 hlt  => s122L a1 hs  fz (j + 1) w4  (by omega) hlt hI4 hE4 ) 
set_option maxRecDepth 20000 in
set_option maxHeartbeats 4000000 in
theorem s122 {xs : Option (List Int32)} {d : Nat} {w : List sx_C} (hI : WI w) (a1 : Int32) : sx_RP xs (d + 7) 122 0 (lv_args 0 [.ref 0, .int a1]) [] w (fun r w2 => (∃ v : Int32, r = some (.int v)) ∧ WI w2 ∧ EC w w2) := by
  have hE : EC w w := EC.rf
  refine sx_RP.step (pc2 := 1) (ls2 := [(0, .ref 0), (1, .int a1)]) (st2 := [.int a1]) (w3 := w) rfl rfl ?_
  rcases in_cases a1 0 3 (m := 0) (n := 3) rfl rfl (by decide) (by decide) with q1 | ⟨x2, hx3, hx4, rfl⟩
  · refine sx_RP.cu (as := [.int a1]) (rest2 := []) (st3 := [.int 0]) rfl rfl rfl rfl rfl (cx_112n q1) rfl ?_
    refine sx_RP.step (pc2 := 7) (ls2 := [(0, .ref 0), (1, .int a1)]) (st2 := []) (w3 := w) rfl rfl ?_
    refine sx_RP.step (pc2 := 8) (ls2 := [(0, .ref 0), (1, .int a1)]) (st2 := [.ref 0]) (w3 := w) rfl rfl ?_
    refine sx_RP.step (pc2 := 10) (ls2 := [(0, .ref 0), (1, .int a1)]) (st2 := [.int (-1000000001), .ref 0]) (w3 := w) rfl rfl ?_
    refine sx_RP.callp (as2 := [.ref 0, .int (-1000000001)]) (rest2 := []) rfl rfl (sx_inv_v2 (mi := 122) (k := 78) (st := [.int (-1000000001), .ref 0]) (w := w) rfl rfl hI.1.o0 rfl rfl rfl) rfl rfl rfl (s9_0 hI) (show _ = 13 from rfl) ?_
    rintro r4 w6 ⟨rfl, hI7, hE9⟩
    have hE8 := hE.tr hE9
    show sx_RP _ _ _ _ _ [.int (-1000000001)] _ _
    refine sx_RP.ret (r := (some (.int (-1000000001)))) rfl rfl ?_
    exact ⟨⟨_, rfl⟩, hI7, hE8⟩
  · refine sx_RP.cu (as := [.int (nI x2)]) (rest2 := []) (st3 := [.int 1]) rfl rfl rfl rfl rfl (cx_112p ⟨nI_le (a := 0) hx3 (by omega), nI_le (b := 3) hx4 (by decide)⟩) rfl ?_
    refine sx_RP.step (pc2 := 14) (ls2 := [(0, .ref 0), (1, .int (nI x2))]) (st2 := []) (w3 := w) rfl rfl ?_
    refine sx_RP.step (pc2 := 15) (ls2 := [(0, .ref 0), (1, .int (nI x2))]) (st2 := [.ref 0]) (w3 := w) rfl rfl ?_
    refine sx_RP.gf (v := .ref 98) rfl rfl hI.1.o0 rfl rfl (show _ = 18 from rfl) ?_
    refine sx_RP.step (pc2 := 19) (ls2 := [(0, .ref 0), (1, .int (nI x2))]) (st2 := [.int (nI x2), .ref 98]) (w3 := w) rfl rfl ?_
    refine sx_RP.ald (v := .ref (103 + 2 * x2)) rfl hI.1.a98 rfl (shA_at (show x2 < 4 by omega)) (show _ = 20 from rfl) ?_
    refine sx_RP.step (pc2 := 21) (ls2 := [(2, .ref (103 + 2 * x2)), (0, .ref 0), (1, .int (nI x2))]) (st2 := []) (w3 := w) rfl rfl ?_
    refine sx_RP.step (pc2 := 22) (ls2 := [(2, .ref (103 + 2 * x2)), (0, .ref 0), (1, .int (nI x2))]) (st2 := [.ref (103 + 2 * x2)]) (w3 := w) rfl rfl ?_
    obtain ⟨x10, hx11, c12⟩ := p116 hI (show x2 < 4 by omega)
    refine sx_RP.cu (as := [.ref (103 + 2 * x2)]) (rest2 := []) (st3 := [.int (nI x10)]) rfl rfl (sx_inv_v2 (mi := 122) (k := 310) (st := [.ref (103 + 2 * x2)]) (w := w) rfl rfl (hI.1.oS (show x2 < 4 by omega)) rfl rfl rfl) rfl rfl (c12) rfl ?_
    refine sx_RP.br (p1 := 36) (l1 := [(2, .ref (103 + 2 * x2)), (0, .ref 0), (1, .int (nI x2))]) (s1 := []) (v1 := w) (p2 := 28) (l2 := [(2, .ref (103 + 2 * x2)), (0, .ref 0), (1, .int (nI x2))]) (s2 := []) (v2 := w) rfl rfl (fun q13 => ?_) (fun q13 => ?_)
    · replace q13 := of_decide_eq_true q13
      replace q13 := (nI_eq (a := x10) (b := 0) (by omega) (by omega)).mp q13
      refine sx_RP.step (pc2 := 37) (ls2 := [(2, .ref (103 + 2 * x2)), (0, .ref 0), (1, .int (nI x2))]) (st2 := [.ref 0]) (w3 := w) rfl rfl ?_
      refine sx_RP.gf (v := .ref 1) rfl rfl hI.1.o0 rfl rfl (show _ = 40 from rfl) ?_
      refine sx_RP.step (pc2 := 42) (ls2 := [(2, .ref (103 + 2 * x2)), (0, .ref 0), (1, .int (nI x2))]) (st2 := [.int 60, .ref 1]) (w3 := w) rfl rfl ?_
      obtain ⟨x14, hx15, c16⟩ := p40 hI (Or.inl rfl) 60
      refine sx_RP.cu (as := [.ref 1, .int 60]) (rest2 := []) (st3 := [.int (nI x14)]) rfl rfl (sx_inv_v2 (mi := 122) (k := 163) (st := [.int 60, .ref 1]) (w := w) rfl rfl (hI.1.oC (Or.inl rfl)) rfl rfl rfl) rfl rfl (c16) rfl ?_
      refine sx_RP.br (p1 := 55) (l1 := [(2, .ref (103 + 2 * x2)), (0, .ref 0), (1, .int (nI x2))]) (s1 := []) (v1 := w) (p2 := 48) (l2 := [(2, .ref (103 + 2 * x2)), (0, .ref 0), (1, .int (nI x2))]) (s2 := []) (v2 := w) rfl rfl (fun q17 => ?_) (fun q17 => ?_)
      · replace q17 := of_decide_eq_true q17
        replace q17 := mt (nI_eq (a := x14) (b := 0) (by omega) (by omega)).mpr q17
        refine sx_RP.step (pc2 := 56) (ls2 := [(2, .ref (103 + 2 * x2)), (0, .ref 0), (1, .int (nI x2))]) (st2 := [.ref 0]) (w3 := w) rfl rfl ?_
        refine sx_RP.gf (v := .ref 44) rfl rfl hI.1.o0 rfl rfl (show _ = 59 from rfl) ?_
        refine sx_RP.step (pc2 := 60) (ls2 := [(2, .ref (103 + 2 * x2)), (0, .ref 0), (1, .int (nI x2))]) (st2 := [.ref 0, .ref 44]) (w3 := w) rfl rfl ?_
        refine sx_RP.gf (v := .ref 1) rfl rfl hI.1.o0 rfl rfl (show _ = 63 from rfl) ?_
        refine sx_RP.gref (k := 0) (b := 2) hI (Or.inl rfl) rfl rfl (by omega) (show _ = 66 from rfl) ?_
        refine sx_RP.callp (as2 := [.ref 44, .ref 2]) (rest2 := []) rfl rfl (sx_inv_v2 (mi := 122) (k := 95) (st := [.ref 2, .ref 44]) (w := w) rfl rfl hI.1.o44 rfl rfl rfl) rfl rfl rfl (s16 hI (Or.inl rfl)) (show _ = 69 from rfl) ?_
        rintro r4 w18 ⟨rfl, hI19, hE21⟩
        have hE20 := hE.tr hE21
        show sx_RP _ _ _ _ _ [] _ _
        refine sx_RP.step (pc2 := 70) (ls2 := [(2, .ref (103 + 2 * x2)), (0, .ref 0), (1, .int (nI x2))]) (st2 := [.ref 0]) (w3 := w18) rfl rfl ?_
        refine sx_RP.gf (v := .ref 29) rfl rfl hI19.1.o0 rfl rfl (show _ = 73 from rfl) ?_
        refine sx_RP.step (pc2 := 74) (ls2 := [(2, .ref (103 + 2 * x2)), (0, .ref 0), (1, .int (nI x2))]) (st2 := [.ref 0, .ref 29]) (w3 := w18) rfl rfl ?_
        refine sx_RP.gf (v := .ref 1) rfl rfl hI19.1.o0 rfl rfl (show _ = 77 from rfl) ?_
        refine sx_RP.callp (as2 := [.ref 29, .ref 1]) (rest2 := []) rfl rfl (sx_inv_v2 (mi := 122) (k := 179) (st := [.ref 1, .ref 29]) (w := w18) rfl rfl (hI19.1.oC (Or.inr (Or.inr rfl))) rfl rfl rfl) rfl rfl rfl (s50 hI19 (Or.inr (Or.inr rfl)) (Or.inl rfl)) (show _ = 80 from rfl) ?_
        rintro r4 w22 ⟨rfl, hI23, hE25⟩
        have hE24 := hE20.tr hE25
        show sx_RP _ _ _ _ _ [] _ _
        refine sx_RP.step (pc2 := 81) (ls2 := [(2, .ref (103 + 2 * x2)), (0, .ref 0), (1, .int (nI x2))]) (st2 := [.int 0]) (w3 := w22) rfl rfl ?_
        refine sx_RP.step (pc2 := 82) (ls2 := [(3, .int 0), (2, .ref (103 + 2 * x2)), (0, .ref 0), (1, .int (nI x2))]) (st2 := []) (w3 := w22) rfl rfl ?_
        exact sx_RP.ls (sx_lr.cons rfl (sx_lr.cons rfl (sx_lr.cons rfl (sx_lr.cons rfl sx_lr.nil)))) (s122L (nI x2) (show x2 < 4 by omega) 61 0 w22  (by omega) (by omega) hI23 hE24 )
      · replace q17 := Decidable.not_not.mp (of_decide_eq_false q17)
        replace q17 := (nI_eq (a := x14) (b := 0) (by omega) (by omega)).mp q17
        refine sx_RP.step (pc2 := 49) (ls2 := [(2, .ref (103 + 2 * x2)), (0, .ref 0), (1, .int (nI x2))]) (st2 := [.ref 0]) (w3 := w) rfl rfl ?_
        refine sx_RP.step (pc2 := 51) (ls2 := [(2, .ref (103 + 2 * x2)), (0, .ref 0), (1, .int (nI x2))]) (st2 := [.int (-1000000005), .ref 0]) (w3 := w) rfl rfl ?_
        refine sx_RP.callp (as2 := [.ref 0, .int (-1000000005)]) (rest2 := []) rfl rfl (sx_inv_v2 (mi := 122) (k := 78) (st := [.int (-1000000005), .ref 0]) (w := w) rfl rfl hI.1.o0 rfl rfl rfl) rfl rfl rfl (s9_4 hI) (show _ = 54 from rfl) ?_
        rintro r4 w26 ⟨rfl, hI27, hE29⟩
        have hE28 := hE.tr hE29
        show sx_RP _ _ _ _ _ [.int (-1000000005)] _ _
        refine sx_RP.ret (r := (some (.int (-1000000005)))) rfl rfl ?_
        exact ⟨⟨_, rfl⟩, hI27, hE28⟩
    · replace q13 := of_decide_eq_false q13
      replace q13 := mt (nI_eq (a := x10) (b := 0) (by omega) (by omega)).mpr q13
      refine sx_RP.step (pc2 := 29) (ls2 := [(2, .ref (103 + 2 * x2)), (0, .ref 0), (1, .int (nI x2))]) (st2 := [.ref 0]) (w3 := w) rfl rfl ?_
      refine sx_RP.step (pc2 := 32) (ls2 := [(2, .ref (103 + 2 * x2)), (0, .ref 0), (1, .int (nI x2))]) (st2 := [.int (-1000000006), .ref 0]) (w3 := w) rfl rfl ?_
      refine sx_RP.callp (as2 := [.ref 0, .int (-1000000006)]) (rest2 := []) rfl rfl (sx_inv_v2 (mi := 122) (k := 78) (st := [.int (-1000000006), .ref 0]) (w := w) rfl rfl hI.1.o0 rfl rfl rfl) rfl rfl rfl (s9_5 hI) (show _ = 35 from rfl) ?_
      rintro r4 w30 ⟨rfl, hI31, hE33⟩
      have hE32 := hE.tr hE33
      show sx_RP _ _ _ _ _ [.int (-1000000006)] _ _
      refine sx_RP.ret (r := (some (.int (-1000000006)))) rfl rfl ?_
      exact ⟨⟨_, rfl⟩, hI31, hE32⟩
set_option maxRecDepth 20000 in
set_option maxHeartbeats 4000000 in
theorem s128B {xs : Option (List Int32)} {d : Nat} {w w0 : List sx_C} (a1 : Int32) (hI : WI w) (hE : EC w0 w) {j : Nat} (hj : j ≤ 7) (m : Int32) (kk : ∀ (w4 : List sx_C) (um : Int32), WI w4 → EC w0 w4 → j + 1 ≤ 7 → sx_RP xs (d + 7) 128 32 [(0, .ref 0), (1, .int a1), (2, .int um), (3, .int (nI (j + 1)))] [] w4 (fun r w2 => (∃ v : Int32, r = some (.int v)) ∧ WI w2 ∧ EC w0 w2)) : sx_RP xs (d + 7) 128 32 [(0, .ref 0), (1, .int a1), (2, .int m), (3, .int (nI j))] [] w (fun r w2 => (∃ v : Int32, r = some (.int v)) ∧ WI w2 ∧ EC w0 w2) := by
  refine sx_RP.step (pc2 := 33) (ls2 := [(0, .ref 0), (1, .int a1), (2, .int m), (3, .int (nI j))]) (st2 := [.int (nI j)]) (w3 := w) rfl rfl ?_
  refine sx_RP.step (pc2 := 35) (ls2 := [(0, .ref 0), (1, .int a1), (2, .int m), (3, .int (nI j))]) (st2 := [.int 7, .int (nI j)]) (w3 := w) rfl rfl ?_
  refine sx_RP.br (p1 := 53) (l1 := [(0, .ref 0), (1, .int a1), (2, .int m), (3, .int (nI j))]) (s1 := []) (v1 := w) (p2 := 38) (l2 := [(0, .ref 0), (1, .int a1), (2, .int m), (3, .int (nI j))]) (s2 := []) (v2 := w) rfl rfl (fun q1 => ?_) (fun q1 => ?_)
  · replace q1 := of_decide_eq_true q1
    replace q1 := (nI_leI (a := 7) (b := j) (by omega) (by omega)).mp q1
    refine sx_RP.step (pc2 := 54) (ls2 := [(0, .ref 0), (1, .int a1), (2, .int m), (3, .int (nI j))]) (st2 := [.int m]) (w3 := w) rfl rfl ?_
    refine sx_RP.ret (r := (some (.int m))) rfl rfl ?_
    exact ⟨⟨_, rfl⟩, hI, hE⟩
  · replace q1 := of_decide_eq_false q1
    replace q1 := mt (nI_leI (a := 7) (b := j) (by omega) (by omega)).mpr q1
    refine sx_RP.step (pc2 := 39) (ls2 := [(0, .ref 0), (1, .int a1), (2, .int m), (3, .int (nI j))]) (st2 := [.int m]) (w3 := w) rfl rfl ?_
    refine sx_RP.step (pc2 := 40) (ls2 := [(0, .ref 0), (1, .int a1), (2, .int m), (3, .int (nI j))]) (st2 := [.ref 0, .int m]) (w3 := w) rfl rfl ?_
    refine sx_RP.gf (v := .ref 99) rfl rfl hI.1.o0 rfl rfl (show _ = 43 from rfl) ?_
    refine sx_RP.step (pc2 := 44) (ls2 := [(0, .ref 0), (1, .int a1), (2, .int m), (3, .int (nI j))]) (st2 := [.int (nI j), .ref 99, .int m]) (w3 := w) rfl rfl ?_
    refine sx_RP.ild (c := j) rfl hI.1.a99.1 hI.1.a99.2 (sx_in_nI (show j < 7 by omega) (by decide)) (show (nI j).toNatClampNeg = j from nI_clamp (by omega)) (show _ = 45 from rfl) ?_
    refine sx_RP.step (pc2 := 46) (ls2 := [(0, .ref 0), (1, .int a1), (2, .int m), (3, .int (nI j))]) (st2 := [.int (m + ((ia w 99).getD j 0))]) (w3 := w) rfl rfl ?_
    refine sx_RP.step (pc2 := 47) (ls2 := [(2, .int (m + ((ia w 99).getD j 0))), (0, .ref 0), (1, .int a1), (3, .int (nI j))]) (st2 := []) (w3 := w) rfl rfl ?_
    refine sx_RP.step (pc2 := 50) (ls2 := [(3, .int ((nI j) + 1)), (2, .int (m + ((ia w 99).getD j 0))), (0, .ref 0), (1, .int a1)]) (st2 := []) (w3 := w) rfl rfl ?_
    rw [nI_1 j]
    refine sx_RP.step (pc2 := 32) (ls2 := [(3, .int (nI (j + 1))), (2, .int (m + ((ia w 99).getD j 0))), (0, .ref 0), (1, .int a1)]) (st2 := []) (w3 := w) rfl rfl ?_
    exact sx_RP.ls (sx_lr.cons rfl (sx_lr.cons rfl (sx_lr.cons rfl (sx_lr.cons rfl sx_lr.nil)))) (kk w (m + ((ia w 99).getD j 0)) hI hE (by omega))
set_option maxRecDepth 20000 in
set_option maxHeartbeats 4000000 in
theorem s128L {xs : Option (List Int32)} {d : Nat} {w0 : List sx_C} (a1 : Int32) : ∀ (fz j : Nat) (w : List sx_C) (m : Int32) , 7 ≤ j + fz * 1 → j ≤ 7 → WI w → EC w0 w → sx_RP xs (d + 7) 128 32 [(0, .ref 0), (1, .int a1), (2, .int m), (3, .int (nI j))] [] w (fun r w2 => (∃ v : Int32, r = some (.int v)) ∧ WI w2 ∧ EC w0 w2)
  | 0, j, w, m, h, hj, hI, hE => s128B a1 hI hE hj m  (fun w4 um hI4 hE4 hlt  => absurd hlt (by omega)) 
  | fz + 1, j, w, m, h, hj, hI, hE => s128B a1 hI hE hj m  (fun w4 um hI4 hE4 hlt  => s128L a1  fz (j + 1) w4 um (by omega) hlt hI4 hE4 ) 
set_option maxRecDepth 20000 in
set_option maxHeartbeats 4000000 in
theorem s128 {xs : Option (List Int32)} {d : Nat} {w : List sx_C} (hI : WI w) (a1 : Int32) : sx_RP xs (d + 7) 128 0 (lv_args 0 [.ref 0, .int a1]) [] w (fun r w2 => (∃ v : Int32, r = some (.int v)) ∧ WI w2 ∧ EC w w2) := by
  have hE : EC w w := EC.rf
  refine sx_RP.step (pc2 := 1) (ls2 := [(0, .ref 0), (1, .int a1)]) (st2 := [.int a1]) (w3 := w) rfl rfl ?_
  refine sx_RP.step (pc2 := 2) (ls2 := [(0, .ref 0), (1, .int a1)]) (st2 := [.int (-1), .int a1]) (w3 := w) rfl rfl ?_
  refine sx_RP.step (pc2 := 4) (ls2 := [(0, .ref 0), (1, .int a1)]) (st2 := [.int 6, .int (-1), .int a1]) (w3 := w) rfl rfl ?_
  rcases in_casesM a1 (n := 6) (by decide) with q1 | rfl | ⟨x2, hx3, rfl⟩
  · refine sx_RP.cu (as := [.int a1, .int (-1), .int 6]) (rest2 := []) (st3 := [.int 0]) rfl rfl rfl rfl rfl (cx_8n q1) rfl ?_
    refine sx_RP.step (pc2 := 10) (ls2 := [(0, .ref 0), (1, .int a1)]) (st2 := []) (w3 := w) rfl rfl ?_
    refine sx_RP.step (pc2 := 11) (ls2 := [(0, .ref 0), (1, .int a1)]) (st2 := [.ref 0]) (w3 := w) rfl rfl ?_
    refine sx_RP.step (pc2 := 13) (ls2 := [(0, .ref 0), (1, .int a1)]) (st2 := [.int (-1000000001), .ref 0]) (w3 := w) rfl rfl ?_
    refine sx_RP.callp (as2 := [.ref 0, .int (-1000000001)]) (rest2 := []) rfl rfl (sx_inv_v2 (mi := 128) (k := 78) (st := [.int (-1000000001), .ref 0]) (w := w) rfl rfl hI.1.o0 rfl rfl rfl) rfl rfl rfl (s9_0 hI) (show _ = 16 from rfl) ?_
    rintro r4 w4 ⟨rfl, hI5, hE7⟩
    have hE6 := hE.tr hE7
    show sx_RP _ _ _ _ _ [.int (-1000000001)] _ _
    refine sx_RP.ret (r := (some (.int (-1000000001)))) rfl rfl ?_
    exact ⟨⟨_, rfl⟩, hI5, hE6⟩
  · refine sx_RP.cu (as := [.int (-1), .int (-1), .int 6]) (rest2 := []) (st3 := [.int 1]) rfl rfl rfl rfl rfl (cx_8p (by decide)) rfl ?_
    refine sx_RP.step (pc2 := 17) (ls2 := [(0, .ref 0), (1, .int (-1))]) (st2 := []) (w3 := w) rfl rfl ?_
    refine sx_RP.step (pc2 := 18) (ls2 := [(0, .ref 0), (1, .int (-1))]) (st2 := [.int (-1)]) (w3 := w) rfl rfl ?_
    refine sx_RP.step (pc2 := 28) (ls2 := [(0, .ref 0), (1, .int (-1))]) (st2 := []) (w3 := w) rfl rfl ?_
    refine sx_RP.step (pc2 := 29) (ls2 := [(0, .ref 0), (1, .int (-1))]) (st2 := [.int 0]) (w3 := w) rfl rfl ?_
    refine sx_RP.step (pc2 := 30) (ls2 := [(2, .int 0), (0, .ref 0), (1, .int (-1))]) (st2 := []) (w3 := w) rfl rfl ?_
    refine sx_RP.step (pc2 := 31) (ls2 := [(2, .int 0), (0, .ref 0), (1, .int (-1))]) (st2 := [.int 0]) (w3 := w) rfl rfl ?_
    refine sx_RP.step (pc2 := 32) (ls2 := [(3, .int 0), (2, .int 0), (0, .ref 0), (1, .int (-1))]) (st2 := []) (w3 := w) rfl rfl ?_
    exact sx_RP.ls (sx_lr.cons rfl (sx_lr.cons rfl (sx_lr.cons rfl (sx_lr.cons rfl sx_lr.nil)))) (s128L (-1) 7 0 w 0 (by omega) (by omega) hI hE )
  · refine sx_RP.cu (as := [.int (nI x2), .int (-1), .int 6]) (rest2 := []) (st3 := [.int 1]) rfl rfl rfl rfl rfl (cx_8p ⟨Int32.le_iff_toInt_le.mpr (by rw [nI_toInt (by omega)]; exact Int.le_trans (by decide) (Int.natCast_nonneg _)), nI_le (b := 6) hx3 (by decide)⟩) rfl ?_
    refine sx_RP.step (pc2 := 17) (ls2 := [(0, .ref 0), (1, .int (nI x2))]) (st2 := []) (w3 := w) rfl rfl ?_
    refine sx_RP.step (pc2 := 18) (ls2 := [(0, .ref 0), (1, .int (nI x2))]) (st2 := [.int (nI x2)]) (w3 := w) rfl rfl ?_
    refine sx_RP.br (p2 := 21) (l2 := [(0, .ref 0), (1, .int (nI x2))]) (s2 := []) (v2 := w) rfl rfl (fun q => absurd (of_decide_eq_true q) (nI_pos (by omega))) (fun _ => ?_)
    refine sx_RP.step (pc2 := 22) (ls2 := [(0, .ref 0), (1, .int (nI x2))]) (st2 := [.ref 0]) (w3 := w) rfl rfl ?_
    refine sx_RP.gf (v := .ref 99) rfl rfl hI.1.o0 rfl rfl (show _ = 25 from rfl) ?_
    refine sx_RP.step (pc2 := 26) (ls2 := [(0, .ref 0), (1, .int (nI x2))]) (st2 := [.int (nI x2), .ref 99]) (w3 := w) rfl rfl ?_
    refine sx_RP.ild (c := x2) rfl hI.1.a99.1 hI.1.a99.2 (sx_in_nI (show x2 < 7 by omega) (by decide)) (show (nI x2).toNatClampNeg = x2 from nI_clamp (by omega)) (show _ = 27 from rfl) ?_
    refine sx_RP.ret (r := (some (.int ((ia w 99).getD x2 0)))) rfl rfl ?_
    exact ⟨⟨_, rfl⟩, hI, hE⟩
set_option maxRecDepth 20000 in
set_option maxHeartbeats 4000000 in
theorem s125 {xs : Option (List Int32)} {d : Nat} {w : List sx_C} (hI : WI w) : sx_RP xs (d + 7) 125 0 (lv_args 0 [.ref 0]) [] w (fun r w2 => (∃ v : Int32, r = some (.int v)) ∧ WI w2 ∧ EC w w2) := by
  have hE : EC w w := EC.rf
  refine sx_RP.step (pc2 := 1) (ls2 := [(0, .ref 0)]) (st2 := [.ref 0]) (w3 := w) rfl rfl ?_
  refine sx_RP.gf (v := .int (fi w 0 3)) rfl rfl hI.1.o0 rfl rfl (show _ = 4 from rfl) ?_
  obtain ⟨x1, hx2, ex3⟩ : inR (fi w 0 3) 1 := hI.kp
  rw [ex3]
  refine sx_RP.br (p1 := 14) (l1 := [(0, .ref 0)]) (s1 := []) (v1 := w) (p2 := 7) (l2 := [(0, .ref 0)]) (s2 := []) (v2 := w) rfl rfl (fun q4 => ?_) (fun q4 => ?_)
  · replace q4 := of_decide_eq_true q4
    replace q4 := mt (nI_eq (a := x1) (b := 0) (by omega) (by omega)).mpr q4
    refine sx_RP.step (pc2 := 15) (ls2 := [(0, .ref 0)]) (st2 := [.ref 0]) (w3 := w) rfl rfl ?_
    refine sx_RP.gf (v := .ref 1) rfl rfl hI.1.o0 rfl rfl (show _ = 18 from rfl) ?_
    refine sx_RP.step (pc2 := 19) (ls2 := [(0, .ref 0)]) (st2 := [.ref 0, .ref 1]) (w3 := w) rfl rfl ?_
    refine sx_RP.gf (v := .ref 15) rfl rfl hI.1.o0 rfl rfl (show _ = 22 from rfl) ?_
    refine sx_RP.callp (as2 := [.ref 1, .ref 15]) (rest2 := []) rfl rfl (sx_inv_v2 (mi := 125) (k := 179) (st := [.ref 15, .ref 1]) (w := w) rfl rfl (hI.1.oC (Or.inl rfl)) rfl rfl rfl) rfl rfl rfl (s50 hI (Or.inl rfl) (Or.inr (Or.inl rfl))) (show _ = 25 from rfl) ?_
    rintro r4 w5 ⟨rfl, hI6, hE8⟩
    have hE7 := hE.tr hE8
    show sx_RP _ _ _ _ _ [] _ _
    refine sx_RP.step (pc2 := 26) (ls2 := [(0, .ref 0)]) (st2 := [.ref 0]) (w3 := w5) rfl rfl ?_
    refine sx_RP.gf (v := .ref 1) rfl rfl hI6.1.o0 rfl rfl (show _ = 29 from rfl) ?_
    refine sx_RP.gc (k := 3) hI6 (Or.inl rfl) rfl rfl (by omega) (show _ = 32 from rfl) ?_
    obtain ⟨x9, hx10, ex11⟩ : inR (fi w5 1 3) 10 := (hI6.c (Or.inl rfl)).1
    rw [ex11]
    refine sx_RP.ret (r := (some (.int (nI x9)))) rfl rfl ?_
    exact ⟨⟨_, rfl⟩, hI6, hE7⟩
  · replace q4 := Decidable.not_not.mp (of_decide_eq_false q4)
    replace q4 := (nI_eq (a := x1) (b := 0) (by omega) (by omega)).mp q4
    refine sx_RP.step (pc2 := 8) (ls2 := [(0, .ref 0)]) (st2 := [.ref 0]) (w3 := w) rfl rfl ?_
    refine sx_RP.step (pc2 := 10) (ls2 := [(0, .ref 0)]) (st2 := [.int (-1000000004), .ref 0]) (w3 := w) rfl rfl ?_
    refine sx_RP.callp (as2 := [.ref 0, .int (-1000000004)]) (rest2 := []) rfl rfl (sx_inv_v2 (mi := 125) (k := 78) (st := [.int (-1000000004), .ref 0]) (w := w) rfl rfl hI.1.o0 rfl rfl rfl) rfl rfl rfl (s9_3 hI) (show _ = 13 from rfl) ?_
    rintro r4 w12 ⟨rfl, hI13, hE15⟩
    have hE14 := hE.tr hE15
    show sx_RP _ _ _ _ _ [.int (-1000000004)] _ _
    refine sx_RP.ret (r := (some (.int (-1000000004)))) rfl rfl ?_
    exact ⟨⟨_, rfl⟩, hI13, hE14⟩
