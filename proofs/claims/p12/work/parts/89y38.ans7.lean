-- answers: does
def dosV (k s : Nat) (b a3 : Int32) : Int32 := if a3 = 0 then (if s = 3 then -1000000004 else tmV k s b) else (if a3 = 1 then ldV k s else (if a3 = 2 then b01 (fmB k s) else -1000000001))
def dosA (l : List Int32) (a1 a2 a3 : Int32) : Int32 := if (0 ≤ a1 ∧ a1 < l.getD 1 0) ∧ (0 ≤ a2 ∧ a2 ≤ 47) then dosV (iN (gF l (iN a1) 0)) (iN (l.getD (7 + iN a2) 0)) (l.getD (55 + iN a2) 0) a3 else -1000000001
theorem dosA_1 {l : List Int32} {a1 a2 a3 : Int32} {n : Nat} (en : l.getD 1 0 = nI n) (h : ¬ ((0 ≤ a1 ∧ a1 < nI n) ∧ (0 ≤ a2 ∧ a2 ≤ 47))) : dosA l a1 a2 a3 = -1000000001 := by
  unfold dosA
  rw [en, if_neg h]
theorem dosV_n {k s : Nat} {b a3 : Int32} (h : ¬ (0 ≤ a3 ∧ a3 ≤ 2)) : dosV k s b a3 = -1000000001 := by
  unfold dosV
  rw [if_neg (fun e => h (by rw [e]; decide)), if_neg (fun e => h (by rw [e]; decide)), if_neg (fun e => h (by rw [e]; decide))]
theorem dosA_2 {l : List Int32} {a1 a2 a3 : Int32} (h : ¬ (0 ≤ a3 ∧ a3 ≤ 2)) : dosA l a1 a2 a3 = -1000000001 := by
  unfold dosA
  rw [dosV_n h]
  split <;> rfl
theorem dosA_y {l : List Int32} {n x c k s : Nat} {a3 : Int32} (en : l.getD 1 0 = nI n) (hx : x < 2 ^ 31) (h : 0 ≤ nI x ∧ nI x < nI n) (hc : c < 48) (hk : k ≤ 5) (hs : s ≤ 3) (ek : gF l x 0 = nI k) (es : l.getD (7 + c) 0 = nI s) : dosA l (nI x) (nI c) a3 = dosV k s (l.getD (55 + c) 0) a3 := by
  unfold dosA
  rw [en, if_pos ⟨h, cel_in hc⟩, iN_n hx, iN_n (show c < 2 ^ 31 by omega), ek, es, iN_n (by omega), iN_n (by omega)]
theorem dosV_w {k s : Nat} {b : Int32} (h : s = 3) : dosV k s b (nI 0) = -1000000004 := by
  unfold dosV
  rw [if_pos (show nI 0 = 0 from rfl), if_pos h]
theorem dosV_0 {k s : Nat} {b : Int32} (h : ¬ s = 3) : dosV k s b (nI 0) = tmV k s b := by
  unfold dosV
  rw [if_pos (show nI 0 = 0 from rfl), if_neg h]
theorem dosV_1 {k s : Nat} {b : Int32} : dosV k s b (nI 1) = ldV k s := by
  unfold dosV
  rw [if_neg (show ¬ nI 1 = 0 by decide), if_pos (show nI 1 = 1 from rfl)]
theorem dosV_2 {k s : Nat} {b : Int32} : dosV k s b (nI 2) = b01 (fmB k s) := by
  unfold dosV
  rw [if_neg (show ¬ nI 2 = 0 by decide), if_neg (show ¬ nI 2 = 1 by decide), if_pos (show nI 2 = 2 from rfl)]
theorem tm_ge {k s : Nat} {l : List Int32} {c : Nat} (hk : k ≤ 5) (hs : s ≤ 3) (hW : WB l) (hc : c < 48) : ¬ tmV k s (l.getD (55 + c) 0) < 0 := by
  obtain ⟨b, hb, e⟩ := hW c hc
  rw [e]
  exact tmV_pos k (by omega) s (by omega) b hb
set_option maxRecDepth 20000 in
set_option maxHeartbeats 4000000 in
theorem A32 {xs : Option (List Int32)} {d : Nat} {w : List sx_C} (hI : WI w) (l : List Int32) (hR : rel w 1 l) (a1 a2 a3 : Int32) : sx_RP xs (d + 7) 32 0 (lv_args 0 [.ref 0, .int a1, .int a2, .int a3]) [] w (fun r w2 => r = some (.int (dosA l a1 a2 a3)) ∧ WI w2) := by
  obtain ⟨n, hn, en⟩ := hR.n10 hI (Or.inl rfl)
  have en0 := hR.many.trans en
  refine sx_RP.step (pc2 := 1) (ls2 := [(0, .ref 0), (1, .int a1), (2, .int a2), (3, .int a3)]) (st2 := [.ref 0]) (w3 := w) rfl rfl ?_
  refine sx_RP.gf (v := .ref 1) rfl rfl hI.1.o0 rfl rfl (show _ = 4 from rfl) ?_
  refine sx_RP.step (pc2 := 5) (ls2 := [(0, .ref 0), (1, .int a1), (2, .int a2), (3, .int a3)]) (st2 := [.int a1, .ref 1]) (w3 := w) rfl rfl ?_
  rcases Decidable.em (0 ≤ a1 ∧ a1 < nI n) with c1 | c1
  · obtain ⟨x2, hx3, rfl⟩ := idx_get c1 (by omega)
    refine sx_RP.cu (as := [.ref 1, .int (nI x2)]) (rest2 := []) (st3 := [.int 1]) rfl rfl (sx_inv_v2 (mi := 32) (k := 120) (st := [.int (nI x2), .ref 1]) (w := w) rfl rfl (hI.1.oC (Or.inl rfl)) rfl rfl rfl) rfl rfl (p27y hI (Or.inl rfl) en0 hn c1) rfl ?_
    refine sx_RP.step (pc2 := 11) (ls2 := [(0, .ref 0), (1, .int (nI x2)), (2, .int a2), (3, .int a3)]) (st2 := []) (w3 := w) rfl rfl ?_
    refine sx_RP.step (pc2 := 12) (ls2 := [(0, .ref 0), (1, .int (nI x2)), (2, .int a2), (3, .int a3)]) (st2 := [.int a2]) (w3 := w) rfl rfl ?_
    rcases in_cases a2 0 47 (m := 0) (n := 47) rfl rfl (by decide) (by decide) with q4 | ⟨x5, hx6, hx7, rfl⟩
    · refine sx_RP.cu (as := [.int a2]) (rest2 := []) (st3 := [.int 0]) rfl rfl rfl rfl rfl (cx_7n q4) rfl ?_
      refine sx_RP.step (pc2 := 18) (ls2 := [(0, .ref 0), (1, .int (nI x2)), (2, .int a2), (3, .int a3)]) (st2 := []) (w3 := w) rfl rfl ?_
      refine sx_RP.step (pc2 := 19) (ls2 := [(0, .ref 0), (1, .int (nI x2)), (2, .int a2), (3, .int a3)]) (st2 := [.ref 0]) (w3 := w) rfl rfl ?_
      refine sx_RP.step (pc2 := 21) (ls2 := [(0, .ref 0), (1, .int (nI x2)), (2, .int a2), (3, .int a3)]) (st2 := [.int (-1000000001), .ref 0]) (w3 := w) rfl rfl ?_
      refine sx_RP.callp (as2 := [.ref 0, .int (-1000000001)]) (rest2 := []) rfl rfl (sx_inv_v2 (mi := 32) (k := 78) (st := [.int (-1000000001), .ref 0]) (w := w) rfl rfl hI.1.o0 rfl rfl rfl) rfl rfl rfl (S9_0 hI) (show _ = 24 from rfl) ?_
      rintro r4 w10 ⟨rfl, hI11, hs9⟩
      show sx_RP _ _ _ _ _ [.int (-1000000001)] _ _
      refine sx_RP.ret (r := (some (.int (-1000000001)))) rfl rfl ?_
      exact ⟨by rw [dosA_1 en (fun z => q4 z.2)], hI11⟩
    · refine sx_RP.cu (as := [.int (nI x5)]) (rest2 := []) (st3 := [.int 1]) rfl rfl rfl rfl rfl (cx_7p ⟨nI_le (a := 0) hx6 (by omega), nI_le (b := 47) hx7 (by decide)⟩) rfl ?_
      refine sx_RP.step (pc2 := 25) (ls2 := [(0, .ref 0), (1, .int (nI x2)), (2, .int (nI x5)), (3, .int a3)]) (st2 := []) (w3 := w) rfl rfl ?_
      refine sx_RP.step (pc2 := 26) (ls2 := [(0, .ref 0), (1, .int (nI x2)), (2, .int (nI x5)), (3, .int a3)]) (st2 := [.ref 0]) (w3 := w) rfl rfl ?_
      refine sx_RP.gf (v := .ref 1) rfl rfl hI.1.o0 rfl rfl (show _ = 29 from rfl) ?_
      refine sx_RP.gref (k := 2) (b := 3) hI (Or.inl rfl) rfl rfl (by omega) (show _ = 32 from rfl) ?_
      refine sx_RP.step (pc2 := 33) (ls2 := [(0, .ref 0), (1, .int (nI x2)), (2, .int (nI x5)), (3, .int a3)]) (st2 := [.int (nI x2), .ref 3]) (w3 := w) rfl rfl ?_
      refine sx_RP.ald (v := .ref (1 + 4 + x2)) rfl (hI.1.aG (Or.inl rfl)) rfl (grA_at (show x2 < 10 by omega)) (show _ = 34 from rfl) ?_
      refine sx_RP.gg (k := 0) hI (gAd.of (Or.inl rfl) (show x2 < 10 by omega)) rfl rfl (by decide) (show _ = 37 from rfl) ?_
      obtain ⟨x12, hx13, ex14⟩ : inR (fi w (1 + 4 + x2) 0) 5 := hI.gk (k := 0) (gAd.of (Or.inl rfl) (show x2 < 10 by omega)) (by decide)
      rw [ex14]
      refine sx_RP.step (pc2 := 39) (ls2 := [(4, .int (nI x12)), (0, .ref 0), (1, .int (nI x2)), (2, .int (nI x5)), (3, .int a3)]) (st2 := []) (w3 := w) rfl rfl ?_
      refine sx_RP.step (pc2 := 40) (ls2 := [(4, .int (nI x12)), (0, .ref 0), (1, .int (nI x2)), (2, .int (nI x5)), (3, .int a3)]) (st2 := [.int a3]) (w3 := w) rfl rfl ?_
      rcases sw_cases (n := 2) (a3) with q15 | ⟨x16, hx17, ex18⟩
      · refine sx_RP.swo (t := 131) rfl q15 rfl ?_
        refine sx_RP.step (pc2 := 132) (ls2 := [(4, .int (nI x12)), (0, .ref 0), (1, .int (nI x2)), (2, .int (nI x5)), (3, .int a3)]) (st2 := [.ref 0]) (w3 := w) rfl rfl ?_
        refine sx_RP.step (pc2 := 134) (ls2 := [(4, .int (nI x12)), (0, .ref 0), (1, .int (nI x2)), (2, .int (nI x5)), (3, .int a3)]) (st2 := [.int (-1000000001), .ref 0]) (w3 := w) rfl rfl ?_
        refine sx_RP.callp (as2 := [.ref 0, .int (-1000000001)]) (rest2 := []) rfl rfl (sx_inv_v2 (mi := 32) (k := 78) (st := [.int (-1000000001), .ref 0]) (w := w) rfl rfl hI.1.o0 rfl rfl rfl) rfl rfl rfl (S9_0 hI) (show _ = 137 from rfl) ?_
        rintro r4 w20 ⟨rfl, hI21, hs19⟩
        show sx_RP _ _ _ _ _ [.int (-1000000001)] _ _
        refine sx_RP.ret (r := (some (.int (-1000000001)))) rfl rfl ?_
        exact ⟨by rw [dosA_2 (in2_n q15)], hI21⟩
      · rw [ex18]
        rcases (show x16 = 0 ∨ x16 = 1 ∨ x16 = 2 by omega) with rfl | rfl | rfl
        · refine sx_RP.step (pc2 := 68) (ls2 := [(4, .int (nI x12)), (0, .ref 0), (1, .int (nI x2)), (2, .int (nI x5)), (3, .int (nI 0))]) (st2 := []) (w3 := w) rfl rfl ?_
          refine sx_RP.step (pc2 := 69) (ls2 := [(4, .int (nI x12)), (0, .ref 0), (1, .int (nI x2)), (2, .int (nI x5)), (3, .int (nI 0))]) (st2 := [.ref 0]) (w3 := w) rfl rfl ?_
          refine sx_RP.gf (v := .ref 1) rfl rfl hI.1.o0 rfl rfl (show _ = 72 from rfl) ?_
          refine sx_RP.gref (k := 0) (b := 2) hI (Or.inl rfl) rfl rfl (by omega) (show _ = 75 from rfl) ?_
          refine sx_RP.step (pc2 := 76) (ls2 := [(4, .int (nI x12)), (0, .ref 0), (1, .int (nI x2)), (2, .int (nI x5)), (3, .int (nI 0))]) (st2 := [.int (nI x5), .ref 2]) (w3 := w) rfl rfl ?_
          refine sx_RP.ild (c := x5) rfl (hI.1.aS (Or.inl rfl)).1 (hI.1.aS (Or.inl rfl)).2 (sx_in_nI (show x5 < 48 by omega) (by decide)) (show (nI x5).toNatClampNeg = x5 from nI_clamp (by omega)) (show _ = 77 from rfl) ?_
          obtain ⟨x22, hx23, ex24⟩ : inR ((ia w 2).getD x5 0) 3 := hI.st (Or.inl rfl) (show x5 < 48 by omega)
          rw [ex24]
          refine sx_RP.step (pc2 := 78) (ls2 := [(4, .int (nI x12)), (0, .ref 0), (1, .int (nI x2)), (2, .int (nI x5)), (3, .int (nI 0))]) (st2 := [.int 3, .int (nI x22)]) (w3 := w) rfl rfl ?_
          refine sx_RP.br (p1 := 90) (l1 := [(4, .int (nI x12)), (0, .ref 0), (1, .int (nI x2)), (2, .int (nI x5)), (3, .int (nI 0))]) (s1 := []) (v1 := w) (p2 := 81) (l2 := [(4, .int (nI x12)), (0, .ref 0), (1, .int (nI x2)), (2, .int (nI x5)), (3, .int (nI 0))]) (s2 := []) (v2 := w) rfl rfl (fun q25 => ?_) (fun q25 => ?_)
          · replace q25 := of_decide_eq_true q25
            replace q25 := mt (nI_eq (a := x22) (b := 3) (by omega) (by omega)).mpr q25
            refine sx_RP.step (pc2 := 91) (ls2 := [(4, .int (nI x12)), (0, .ref 0), (1, .int (nI x2)), (2, .int (nI x5)), (3, .int (nI 0))]) (st2 := [.ref 0]) (w3 := w) rfl rfl ?_
            refine sx_RP.gf (v := .ref 1) rfl rfl hI.1.o0 rfl rfl (show _ = 94 from rfl) ?_
            refine sx_RP.step (pc2 := 96) (ls2 := [(4, .int (nI x12)), (0, .ref 0), (1, .int (nI x2)), (2, .int (nI x5)), (3, .int (nI 0))]) (st2 := [.int (nI x12), .ref 1]) (w3 := w) rfl rfl ?_
            refine sx_RP.step (pc2 := 97) (ls2 := [(4, .int (nI x12)), (0, .ref 0), (1, .int (nI x2)), (2, .int (nI x5)), (3, .int (nI 0))]) (st2 := [.int (nI x5), .int (nI x12), .ref 1]) (w3 := w) rfl rfl ?_
            refine sx_RP.cu (as := [.ref 1, .int (nI x12), .int (nI x5)]) (rest2 := []) (st3 := [.int (tmV x12 (iN ((ia w (1 + 1)).getD x5 0)) (b01 (bitL (fj w 1 1) x5)))]) rfl rfl (sx_inv_v2 (mi := 32) (k := 153) (st := [.int (nI x5), .int (nI x12), .ref 1]) (w := w) rfl rfl (hI.1.oC (Or.inl rfl)) rfl rfl rfl) rfl rfl (x33 hI (Or.inl rfl) (show x12 ≤ 5 by omega) (show x5 < 48 by omega)) rfl ?_
            refine sx_RP.ret (r := (some (.int (tmV x12 (iN ((ia w (1 + 1)).getD x5 0)) (b01 (bitL (fj w 1 1) x5)))))) rfl rfl ?_
            obtain ⟨s9, hs9, es9⟩ : inR ((ia w (1 + 1)).getD x5 0) 3 := hI.st (Or.inl rfl) (show x5 < 48 by omega)
            have e8 : dosA l (nI x2) (nI x5) (nI 0) = dosV x12 s9 (l.getD (55 + x5) 0) (nI 0) := dosA_y en (by omega) c1 (by omega) (by omega) (by omega) ((hR.ga (i := x2) (k := 0) (by rw [en, iN_n (by omega)]; omega) (by decide)).symm.trans ex14) ((hR.gr (by omega)).symm.trans es9)
            have e7 : x22 = s9 := (nI_eq (by omega) (by omega)).mp (ex24.symm.trans es9)
            exact ⟨by rw [e8, dosV_0 (by omega), es9, iN_n (by omega), hR.w48 (by omega)], hI⟩
          · replace q25 := Decidable.not_not.mp (of_decide_eq_false q25)
            replace q25 := (nI_eq (a := x22) (b := 3) (by omega) (by omega)).mp q25
            refine sx_RP.step (pc2 := 82) (ls2 := [(4, .int (nI x12)), (0, .ref 0), (1, .int (nI x2)), (2, .int (nI x5)), (3, .int (nI 0))]) (st2 := [.ref 0]) (w3 := w) rfl rfl ?_
            refine sx_RP.step (pc2 := 84) (ls2 := [(4, .int (nI x12)), (0, .ref 0), (1, .int (nI x2)), (2, .int (nI x5)), (3, .int (nI 0))]) (st2 := [.int (-1000000004), .ref 0]) (w3 := w) rfl rfl ?_
            refine sx_RP.callp (as2 := [.ref 0, .int (-1000000004)]) (rest2 := []) rfl rfl (sx_inv_v2 (mi := 32) (k := 78) (st := [.int (-1000000004), .ref 0]) (w := w) rfl rfl hI.1.o0 rfl rfl rfl) rfl rfl rfl (S9_3 hI) (show _ = 87 from rfl) ?_
            rintro r4 w27 ⟨rfl, hI28, hs26⟩
            show sx_RP _ _ _ _ _ [.int (-1000000004)] _ _
            refine sx_RP.step (pc2 := 100) (ls2 := [(4, .int (nI x12)), (0, .ref 0), (1, .int (nI x2)), (2, .int (nI x5)), (3, .int (nI 0))]) (st2 := [.int (-1000000004)]) (w3 := w27) rfl rfl ?_
            refine sx_RP.ret (r := (some (.int (-1000000004)))) rfl rfl ?_
            obtain ⟨s9, hs9, es9⟩ : inR ((ia w (1 + 1)).getD x5 0) 3 := hI.st (Or.inl rfl) (show x5 < 48 by omega)
            have e8 : dosA l (nI x2) (nI x5) (nI 0) = dosV x12 s9 (l.getD (55 + x5) 0) (nI 0) := dosA_y en (by omega) c1 (by omega) (by omega) (by omega) ((hR.ga (i := x2) (k := 0) (by rw [en, iN_n (by omega)]; omega) (by decide)).symm.trans ex14) ((hR.gr (by omega)).symm.trans es9)
            have e7 : x22 = s9 := (nI_eq (by omega) (by omega)).mp (ex24.symm.trans es9)
            exact ⟨by rw [e8, dosV_w (by omega)], hI28⟩
        · refine sx_RP.step (pc2 := 101) (ls2 := [(4, .int (nI x12)), (0, .ref 0), (1, .int (nI x2)), (2, .int (nI x5)), (3, .int (nI 1))]) (st2 := []) (w3 := w) rfl rfl ?_
          refine sx_RP.step (pc2 := 102) (ls2 := [(4, .int (nI x12)), (0, .ref 0), (1, .int (nI x2)), (2, .int (nI x5)), (3, .int (nI 1))]) (st2 := [.ref 0]) (w3 := w) rfl rfl ?_
          refine sx_RP.gf (v := .ref 1) rfl rfl hI.1.o0 rfl rfl (show _ = 105 from rfl) ?_
          refine sx_RP.step (pc2 := 107) (ls2 := [(4, .int (nI x12)), (0, .ref 0), (1, .int (nI x2)), (2, .int (nI x5)), (3, .int (nI 1))]) (st2 := [.int (nI x12), .ref 1]) (w3 := w) rfl rfl ?_
          refine sx_RP.step (pc2 := 108) (ls2 := [(4, .int (nI x12)), (0, .ref 0), (1, .int (nI x2)), (2, .int (nI x5)), (3, .int (nI 1))]) (st2 := [.int (nI x5), .int (nI x12), .ref 1]) (w3 := w) rfl rfl ?_
          refine sx_RP.cu (as := [.ref 1, .int (nI x12), .int (nI x5)]) (rest2 := []) (st3 := [.int (ldV x12 (iN ((ia w (1 + 1)).getD x5 0)))]) rfl rfl (sx_inv_v2 (mi := 32) (k := 157) (st := [.int (nI x5), .int (nI x12), .ref 1]) (w := w) rfl rfl (hI.1.oC (Or.inl rfl)) rfl rfl rfl) rfl rfl (x35 hI (Or.inl rfl) (show x12 ≤ 5 by omega) (show x5 < 48 by omega)) rfl ?_
          refine sx_RP.ret (r := (some (.int (ldV x12 (iN ((ia w (1 + 1)).getD x5 0)))))) rfl rfl ?_
          obtain ⟨s9, hs9, es9⟩ : inR ((ia w (1 + 1)).getD x5 0) 3 := hI.st (Or.inl rfl) (show x5 < 48 by omega)
          have e8 : dosA l (nI x2) (nI x5) (nI 1) = dosV x12 s9 (l.getD (55 + x5) 0) (nI 1) := dosA_y en (by omega) c1 (by omega) (by omega) (by omega) ((hR.ga (i := x2) (k := 0) (by rw [en, iN_n (by omega)]; omega) (by decide)).symm.trans ex14) ((hR.gr (by omega)).symm.trans es9)
          exact ⟨by rw [e8, dosV_1, es9, iN_n (by omega)], hI⟩
        · refine sx_RP.step (pc2 := 112) (ls2 := [(4, .int (nI x12)), (0, .ref 0), (1, .int (nI x2)), (2, .int (nI x5)), (3, .int (nI 2))]) (st2 := []) (w3 := w) rfl rfl ?_
          refine sx_RP.step (pc2 := 113) (ls2 := [(4, .int (nI x12)), (0, .ref 0), (1, .int (nI x2)), (2, .int (nI x5)), (3, .int (nI 2))]) (st2 := [.ref 0]) (w3 := w) rfl rfl ?_
          refine sx_RP.gf (v := .ref 1) rfl rfl hI.1.o0 rfl rfl (show _ = 116 from rfl) ?_
          refine sx_RP.step (pc2 := 118) (ls2 := [(4, .int (nI x12)), (0, .ref 0), (1, .int (nI x2)), (2, .int (nI x5)), (3, .int (nI 2))]) (st2 := [.int (nI x12), .ref 1]) (w3 := w) rfl rfl ?_
          refine sx_RP.step (pc2 := 119) (ls2 := [(4, .int (nI x12)), (0, .ref 0), (1, .int (nI x2)), (2, .int (nI x5)), (3, .int (nI 2))]) (st2 := [.int (nI x5), .int (nI x12), .ref 1]) (w3 := w) rfl rfl ?_
          rcases Bool.eq_false_or_eq_true (fmB x12 (iN ((ia w (1 + 1)).getD x5 0))) with hf | hf
          · refine sx_RP.cu (as := [.ref 1, .int (nI x12), .int (nI x5)]) (rest2 := []) (st3 := [.int 1]) rfl rfl (sx_inv_v2 (mi := 32) (k := 160) (st := [.int (nI x5), .int (nI x12), .ref 1]) (w := w) rfl rfl (hI.1.oC (Or.inl rfl)) rfl rfl rfl) rfl rfl ((by have z := x37 (xs := xs) (d := d + 4) hI (Or.inl rfl) (show x12 ≤ 5 by omega) (show x5 < 48 by omega); rw [hf] at z; exact z)) rfl ?_
            refine sx_RP.step (pc2 := 125) (ls2 := [(4, .int (nI x12)), (0, .ref 0), (1, .int (nI x2)), (2, .int (nI x5)), (3, .int (nI 2))]) (st2 := []) (w3 := w) rfl rfl ?_
            refine sx_RP.step (pc2 := 126) (ls2 := [(4, .int (nI x12)), (0, .ref 0), (1, .int (nI x2)), (2, .int (nI x5)), (3, .int (nI 2))]) (st2 := [.int 1]) (w3 := w) rfl rfl ?_
            refine sx_RP.step (pc2 := 130) (ls2 := [(4, .int (nI x12)), (0, .ref 0), (1, .int (nI x2)), (2, .int (nI x5)), (3, .int (nI 2))]) (st2 := [.int 1]) (w3 := w) rfl rfl ?_
            refine sx_RP.ret (r := (some (.int 1))) rfl rfl ?_
            obtain ⟨s9, hs9, es9⟩ : inR ((ia w (1 + 1)).getD x5 0) 3 := hI.st (Or.inl rfl) (show x5 < 48 by omega)
            have e8 : dosA l (nI x2) (nI x5) (nI 2) = dosV x12 s9 (l.getD (55 + x5) 0) (nI 2) := dosA_y en (by omega) c1 (by omega) (by omega) (by omega) ((hR.ga (i := x2) (k := 0) (by rw [en, iN_n (by omega)]; omega) (by decide)).symm.trans ex14) ((hR.gr (by omega)).symm.trans es9)
            have e9 : fmB x12 s9 = true := by have z := hf; rw [es9, iN_n (by omega)] at z; exact z
            exact ⟨by rw [e8, dosV_2, e9]; rfl, hI⟩
          · refine sx_RP.cu (as := [.ref 1, .int (nI x12), .int (nI x5)]) (rest2 := []) (st3 := [.int 0]) rfl rfl (sx_inv_v2 (mi := 32) (k := 160) (st := [.int (nI x5), .int (nI x12), .ref 1]) (w := w) rfl rfl (hI.1.oC (Or.inl rfl)) rfl rfl rfl) rfl rfl ((by have z := x37 (xs := xs) (d := d + 4) hI (Or.inl rfl) (show x12 ≤ 5 by omega) (show x5 < 48 by omega); rw [hf] at z; exact z)) rfl ?_
            refine sx_RP.step (pc2 := 129) (ls2 := [(4, .int (nI x12)), (0, .ref 0), (1, .int (nI x2)), (2, .int (nI x5)), (3, .int (nI 2))]) (st2 := []) (w3 := w) rfl rfl ?_
            refine sx_RP.step (pc2 := 130) (ls2 := [(4, .int (nI x12)), (0, .ref 0), (1, .int (nI x2)), (2, .int (nI x5)), (3, .int (nI 2))]) (st2 := [.int 0]) (w3 := w) rfl rfl ?_
            refine sx_RP.ret (r := (some (.int 0))) rfl rfl ?_
            obtain ⟨s9, hs9, es9⟩ : inR ((ia w (1 + 1)).getD x5 0) 3 := hI.st (Or.inl rfl) (show x5 < 48 by omega)
            have e8 : dosA l (nI x2) (nI x5) (nI 2) = dosV x12 s9 (l.getD (55 + x5) 0) (nI 2) := dosA_y en (by omega) c1 (by omega) (by omega) (by omega) ((hR.ga (i := x2) (k := 0) (by rw [en, iN_n (by omega)]; omega) (by decide)).symm.trans ex14) ((hR.gr (by omega)).symm.trans es9)
            have e9 : fmB x12 s9 = false := by have z := hf; rw [es9, iN_n (by omega)] at z; exact z
            exact ⟨by rw [e8, dosV_2, e9]; rfl, hI⟩
  · refine sx_RP.cu (as := [.ref 1, .int a1]) (rest2 := []) (st3 := [.int 0]) rfl rfl (sx_inv_v2 (mi := 32) (k := 120) (st := [.int a1, .ref 1]) (w := w) rfl rfl (hI.1.oC (Or.inl rfl)) rfl rfl rfl) rfl rfl (p27n hI (Or.inl rfl) en0 hn c1) rfl ?_
    refine sx_RP.step (pc2 := 18) (ls2 := [(0, .ref 0), (1, .int a1), (2, .int a2), (3, .int a3)]) (st2 := []) (w3 := w) rfl rfl ?_
    refine sx_RP.step (pc2 := 19) (ls2 := [(0, .ref 0), (1, .int a1), (2, .int a2), (3, .int a3)]) (st2 := [.ref 0]) (w3 := w) rfl rfl ?_
    refine sx_RP.step (pc2 := 21) (ls2 := [(0, .ref 0), (1, .int a1), (2, .int a2), (3, .int a3)]) (st2 := [.int (-1000000001), .ref 0]) (w3 := w) rfl rfl ?_
    refine sx_RP.callp (as2 := [.ref 0, .int (-1000000001)]) (rest2 := []) rfl rfl (sx_inv_v2 (mi := 32) (k := 78) (st := [.int (-1000000001), .ref 0]) (w := w) rfl rfl hI.1.o0 rfl rfl rfl) rfl rfl rfl (S9_0 hI) (show _ = 24 from rfl) ?_
    rintro r4 w30 ⟨rfl, hI31, hs29⟩
    show sx_RP _ _ _ _ _ [.int (-1000000001)] _ _
    refine sx_RP.ret (r := (some (.int (-1000000001)))) rfl rfl ?_
    exact ⟨by rw [dosA_1 en (fun z => c1 z.1)], hI31⟩
set_option maxRecDepth 20000 in
set_option maxHeartbeats 4000000 in
theorem A161 {xs : Option (List Int32)} {d : Nat} {w : List sx_C} (hI : WI w) (hW : WB (ia w 112)) (a1 a2 a3 : Int32) : sx_RP xs (d + 7) 161 0 (lv_args 0 [.ref 111, .int a1, .int a2, .int a3]) [] w (fun r w2 => r = some (.int (dosA (ia w 112) a1 a2 a3)) ∧ WI w2) := by
  obtain ⟨n, hn, en⟩ := (hI.sA (a := 112) (by decide) 1 (by decide)).1 rfl
  refine sx_RP.step (pc2 := 1) (ls2 := [(0, .ref 111), (1, .int a1), (2, .int a2), (3, .int a3)]) (st2 := [.ref 111]) (w3 := w) rfl rfl ?_
  refine sx_RP.step (pc2 := 2) (ls2 := [(0, .ref 111), (1, .int a1), (2, .int a2), (3, .int a3)]) (st2 := [.int a1, .ref 111]) (w3 := w) rfl rfl ?_
  rcases Decidable.em (0 ≤ a1 ∧ a1 < nI n) with c1 | c1
  · obtain ⟨x2, hx3, rfl⟩ := idx_get c1 (by omega)
    refine sx_RP.cu (as := [.ref 111, .int (nI x2)]) (rest2 := []) (st3 := [.int 1]) rfl rfl (sx_inv_v2 (mi := 161) (k := 124) (st := [.int (nI x2), .ref 111]) (w := w) rfl rfl hI.1.o111 rfl rfl rfl) rfl rfl (p156y hI en hn c1) rfl ?_
    refine sx_RP.step (pc2 := 8) (ls2 := [(0, .ref 111), (1, .int (nI x2)), (2, .int a2), (3, .int a3)]) (st2 := []) (w3 := w) rfl rfl ?_
    refine sx_RP.step (pc2 := 9) (ls2 := [(0, .ref 111), (1, .int (nI x2)), (2, .int a2), (3, .int a3)]) (st2 := [.int a2]) (w3 := w) rfl rfl ?_
    rcases in_cases a2 0 47 (m := 0) (n := 47) rfl rfl (by decide) (by decide) with q4 | ⟨x5, hx6, hx7, rfl⟩
    · refine sx_RP.cu (as := [.int a2]) (rest2 := []) (st3 := [.int 0]) rfl rfl rfl rfl rfl (cx_131n q4) rfl ?_
      refine sx_RP.step (pc2 := 24) (ls2 := [(0, .ref 111), (1, .int (nI x2)), (2, .int a2), (3, .int a3)]) (st2 := []) (w3 := w) rfl rfl ?_
      refine sx_RP.step (pc2 := 25) (ls2 := [(0, .ref 111), (1, .int (nI x2)), (2, .int a2), (3, .int a3)]) (st2 := [.ref 111]) (w3 := w) rfl rfl ?_
      refine sx_RP.step (pc2 := 26) (ls2 := [(0, .ref 111), (1, .int (nI x2)), (2, .int a2), (3, .int a3)]) (st2 := [.int 0, .ref 111]) (w3 := w) rfl rfl ?_
      refine sx_RP.callp (as2 := [.ref 111, .int 0]) (rest2 := []) rfl rfl (sx_inv_v2 (mi := 161) (k := 70) (st := [.int 0, .ref 111]) (w := w) rfl rfl hI.1.o111 rfl rfl rfl) rfl rfl rfl (S133_0 hI) (show _ = 29 from rfl) ?_
      rintro r4 w10 ⟨rfl, hI11, hs9⟩
      show sx_RP _ _ _ _ _ [.int (-1000000001)] _ _
      refine sx_RP.ret (r := (some (.int (-1000000001)))) rfl rfl ?_
      exact ⟨by rw [dosA_1 en (fun z => q4 z.2)], hI11⟩
    · refine sx_RP.cu (as := [.int (nI x5)]) (rest2 := []) (st3 := [.int 1]) rfl rfl rfl rfl rfl (cx_131p ⟨nI_le (a := 0) hx6 (by omega), nI_le (b := 47) hx7 (by decide)⟩) rfl ?_
      refine sx_RP.step (pc2 := 15) (ls2 := [(0, .ref 111), (1, .int (nI x2)), (2, .int (nI x5)), (3, .int a3)]) (st2 := []) (w3 := w) rfl rfl ?_
      refine sx_RP.step (pc2 := 16) (ls2 := [(0, .ref 111), (1, .int (nI x2)), (2, .int (nI x5)), (3, .int a3)]) (st2 := [.int a3]) (w3 := w) rfl rfl ?_
      refine sx_RP.step (pc2 := 17) (ls2 := [(0, .ref 111), (1, .int (nI x2)), (2, .int (nI x5)), (3, .int a3)]) (st2 := [.int 0, .int a3]) (w3 := w) rfl rfl ?_
      refine sx_RP.step (pc2 := 18) (ls2 := [(0, .ref 111), (1, .int (nI x2)), (2, .int (nI x5)), (3, .int a3)]) (st2 := [.int 2, .int 0, .int a3]) (w3 := w) rfl rfl ?_
      rcases in_cases a3 0 2 (m := 0) (n := 2) rfl rfl (by decide) (by decide) with q12 | ⟨x13, hx14, hx15, rfl⟩
      · refine sx_RP.cu (as := [.int a3, .int 0, .int 2]) (rest2 := []) (st3 := [.int 0]) rfl rfl rfl rfl rfl (cx_132o q12) rfl ?_
        refine sx_RP.step (pc2 := 24) (ls2 := [(0, .ref 111), (1, .int (nI x2)), (2, .int (nI x5)), (3, .int a3)]) (st2 := []) (w3 := w) rfl rfl ?_
        refine sx_RP.step (pc2 := 25) (ls2 := [(0, .ref 111), (1, .int (nI x2)), (2, .int (nI x5)), (3, .int a3)]) (st2 := [.ref 111]) (w3 := w) rfl rfl ?_
        refine sx_RP.step (pc2 := 26) (ls2 := [(0, .ref 111), (1, .int (nI x2)), (2, .int (nI x5)), (3, .int a3)]) (st2 := [.int 0, .ref 111]) (w3 := w) rfl rfl ?_
        refine sx_RP.callp (as2 := [.ref 111, .int 0]) (rest2 := []) rfl rfl (sx_inv_v2 (mi := 161) (k := 70) (st := [.int 0, .ref 111]) (w := w) rfl rfl hI.1.o111 rfl rfl rfl) rfl rfl rfl (S133_0 hI) (show _ = 29 from rfl) ?_
        rintro r4 w18 ⟨rfl, hI19, hs17⟩
        show sx_RP _ _ _ _ _ [.int (-1000000001)] _ _
        refine sx_RP.ret (r := (some (.int (-1000000001)))) rfl rfl ?_
        exact ⟨by rw [dosA_2 q12], hI19⟩
      · refine sx_RP.cu (as := [.int (nI x13), .int 0, .int 2]) (rest2 := []) (st3 := [.int 1]) rfl rfl rfl rfl rfl (cx_132p ⟨nI_le (a := 0) hx14 (by omega), nI_le (b := 2) hx15 (by decide)⟩) rfl ?_
        refine sx_RP.step (pc2 := 30) (ls2 := [(0, .ref 111), (1, .int (nI x2)), (2, .int (nI x5)), (3, .int (nI x13))]) (st2 := []) (w3 := w) rfl rfl ?_
        refine sx_RP.step (pc2 := 31) (ls2 := [(0, .ref 111), (1, .int (nI x2)), (2, .int (nI x5)), (3, .int (nI x13))]) (st2 := [.int (nI x13)]) (w3 := w) rfl rfl ?_
        refine sx_RP.step (pc2 := 32) (ls2 := [(0, .ref 111), (1, .int (nI x2)), (2, .int (nI x5)), (3, .int (nI x13))]) (st2 := [.int 1, .int (nI x13)]) (w3 := w) rfl rfl ?_
        refine sx_RP.br (p1 := 47) (l1 := [(0, .ref 111), (1, .int (nI x2)), (2, .int (nI x5)), (3, .int (nI x13))]) (s1 := []) (v1 := w) (p2 := 35) (l2 := [(0, .ref 111), (1, .int (nI x2)), (2, .int (nI x5)), (3, .int (nI x13))]) (s2 := []) (v2 := w) rfl rfl (fun q20 => ?_) (fun q20 => ?_)
        · replace q20 := of_decide_eq_true q20
          replace q20 := mt (nI_eq (a := x13) (b := 1) (by omega) (by omega)).mpr q20
          refine sx_RP.step (pc2 := 48) (ls2 := [(0, .ref 111), (1, .int (nI x2)), (2, .int (nI x5)), (3, .int (nI x13))]) (st2 := [.int (nI x13)]) (w3 := w) rfl rfl ?_
          refine sx_RP.step (pc2 := 49) (ls2 := [(0, .ref 111), (1, .int (nI x2)), (2, .int (nI x5)), (3, .int (nI x13))]) (st2 := [.int 2, .int (nI x13)]) (w3 := w) rfl rfl ?_
          refine sx_RP.br (p1 := 69) (l1 := [(0, .ref 111), (1, .int (nI x2)), (2, .int (nI x5)), (3, .int (nI x13))]) (s1 := []) (v1 := w) (p2 := 52) (l2 := [(0, .ref 111), (1, .int (nI x2)), (2, .int (nI x5)), (3, .int (nI x13))]) (s2 := []) (v2 := w) rfl rfl (fun q21 => ?_) (fun q21 => ?_)
          · replace q21 := of_decide_eq_true q21
            replace q21 := mt (nI_eq (a := x13) (b := 2) (by omega) (by omega)).mpr q21
            refine sx_RP.step (pc2 := 70) (ls2 := [(0, .ref 111), (1, .int (nI x2)), (2, .int (nI x5)), (3, .int (nI x13))]) (st2 := [.ref 111]) (w3 := w) rfl rfl ?_
            refine sx_RP.step (pc2 := 71) (ls2 := [(0, .ref 111), (1, .int (nI x2)), (2, .int (nI x5)), (3, .int (nI x13))]) (st2 := [.int (nI x2), .ref 111]) (w3 := w) rfl rfl ?_
            refine sx_RP.step (pc2 := 72) (ls2 := [(0, .ref 111), (1, .int (nI x2)), (2, .int (nI x5)), (3, .int (nI x13))]) (st2 := [.int (nI x5), .int (nI x2), .ref 111]) (w3 := w) rfl rfl ?_
            obtain ⟨k9, hk9, ek⟩ : inR ((ia w 112).getD (103 + 6 * x2 + 0) 0) 5 := (hI.s (103 + 6 * x2 + 0) (by omega)).2.2.2.1 (by omega)
            obtain ⟨s9, hs9, es⟩ : inR ((ia w 112).getD (7 + x5) 0) 3 := (hI.s (7 + x5) (by omega)).2.2.1 (by omega)
            rcases Decidable.em (s9 = 3) with h3 | h3
            · refine sx_RP.cu (as := [.ref 111, .int (nI x2), .int (nI x5)]) (rest2 := []) (st3 := [.int (-1)]) rfl rfl (sx_inv_v2 (mi := 161) (k := 87) (st := [.int (nI x5), .int (nI x2), .ref 111]) (w := w) rfl rfl hI.1.o111 rfl rfl rfl) rfl rfl ((by have z := x147 (xs := xs) (d := d + 5) hI (show x2 < 10 by omega) (show x5 < 48 by omega) (show k9 < 6 by omega) ek (show s9 < 4 by omega) es; rw [if_pos h3] at z; exact z)) rfl ?_
              refine sx_RP.step (pc2 := 77) (ls2 := [(4, .int (-1)), (0, .ref 111), (1, .int (nI x2)), (2, .int (nI x5)), (3, .int (nI x13))]) (st2 := []) (w3 := w) rfl rfl ?_
              refine sx_RP.step (pc2 := 79) (ls2 := [(4, .int (-1)), (0, .ref 111), (1, .int (nI x2)), (2, .int (nI x5)), (3, .int (nI x13))]) (st2 := [.int (-1)]) (w3 := w) rfl rfl ?_
              refine sx_RP.step (pc2 := 82) (ls2 := [(4, .int (-1)), (0, .ref 111), (1, .int (nI x2)), (2, .int (nI x5)), (3, .int (nI x13))]) (st2 := []) (w3 := w) rfl rfl ?_
              refine sx_RP.step (pc2 := 83) (ls2 := [(4, .int (-1)), (0, .ref 111), (1, .int (nI x2)), (2, .int (nI x5)), (3, .int (nI x13))]) (st2 := [.ref 111]) (w3 := w) rfl rfl ?_
              refine sx_RP.step (pc2 := 84) (ls2 := [(4, .int (-1)), (0, .ref 111), (1, .int (nI x2)), (2, .int (nI x5)), (3, .int (nI x13))]) (st2 := [.int 3, .ref 111]) (w3 := w) rfl rfl ?_
              refine sx_RP.callp (as2 := [.ref 111, .int 3]) (rest2 := []) rfl rfl (sx_inv_v2 (mi := 161) (k := 70) (st := [.int 3, .ref 111]) (w := w) rfl rfl hI.1.o111 rfl rfl rfl) rfl rfl rfl (S133_3 hI) (show _ = 87 from rfl) ?_
              rintro r4 w23 ⟨rfl, hI24, hs22⟩
              show sx_RP _ _ _ _ _ [.int (-1000000004)] _ _
              refine sx_RP.step (pc2 := 92) (ls2 := [(4, .int (-1)), (0, .ref 111), (1, .int (nI x2)), (2, .int (nI x5)), (3, .int (nI x13))]) (st2 := [.int (-1000000004)]) (w3 := w23) rfl rfl ?_
              refine sx_RP.ret (r := (some (.int (-1000000004)))) rfl rfl ?_
              obtain rfl : x13 = 0 := by omega
              exact ⟨by rw [dosA_y (k := k9) (s := s9) en (by omega) c1 (by omega) (by omega) (by omega) ek es, dosV_w h3], hI24⟩
            · refine sx_RP.cu (as := [.ref 111, .int (nI x2), .int (nI x5)]) (rest2 := []) (st3 := [.int (tmV k9 s9 ((ia w 112).getD (55 + x5) 0))]) rfl rfl (sx_inv_v2 (mi := 161) (k := 87) (st := [.int (nI x5), .int (nI x2), .ref 111]) (w := w) rfl rfl hI.1.o111 rfl rfl rfl) rfl rfl ((by have z := x147 (xs := xs) (d := d + 5) hI (show x2 < 10 by omega) (show x5 < 48 by omega) (show k9 < 6 by omega) ek (show s9 < 4 by omega) es; rw [if_neg h3] at z; exact z)) rfl ?_
              refine sx_RP.step (pc2 := 77) (ls2 := [(4, .int (tmV k9 s9 ((ia w 112).getD (55 + x5) 0))), (0, .ref 111), (1, .int (nI x2)), (2, .int (nI x5)), (3, .int (nI x13))]) (st2 := []) (w3 := w) rfl rfl ?_
              refine sx_RP.step (pc2 := 79) (ls2 := [(4, .int (tmV k9 s9 ((ia w 112).getD (55 + x5) 0))), (0, .ref 111), (1, .int (nI x2)), (2, .int (nI x5)), (3, .int (nI x13))]) (st2 := [.int (tmV k9 s9 ((ia w 112).getD (55 + x5) 0))]) (w3 := w) rfl rfl ?_
              refine sx_RP.br (p1 := 90) (l1 := [(4, .int (tmV k9 s9 ((ia w 112).getD (55 + x5) 0))), (0, .ref 111), (1, .int (nI x2)), (2, .int (nI x5)), (3, .int (nI x13))]) (s1 := []) (v1 := w) rfl rfl (fun _ => ?_) (fun q => absurd (Int32.not_lt.mp (tm_ge (by omega) (by omega) hW (by omega))) (of_decide_eq_false q))
              refine sx_RP.step (pc2 := 92) (ls2 := [(4, .int (tmV k9 s9 ((ia w 112).getD (55 + x5) 0))), (0, .ref 111), (1, .int (nI x2)), (2, .int (nI x5)), (3, .int (nI x13))]) (st2 := [.int (tmV k9 s9 ((ia w 112).getD (55 + x5) 0))]) (w3 := w) rfl rfl ?_
              refine sx_RP.ret (r := (some (.int (tmV k9 s9 ((ia w 112).getD (55 + x5) 0))))) rfl rfl ?_
              obtain rfl : x13 = 0 := by omega
              exact ⟨by rw [dosA_y (k := k9) (s := s9) en (by omega) c1 (by omega) (by omega) (by omega) ek es, dosV_0 h3], hI⟩
          · replace q21 := Decidable.not_not.mp (of_decide_eq_false q21)
            replace q21 := (nI_eq (a := x13) (b := 2) (by omega) (by omega)).mp q21
            refine sx_RP.step (pc2 := 53) (ls2 := [(0, .ref 111), (1, .int (nI x2)), (2, .int (nI x5)), (3, .int (nI x13))]) (st2 := [.ref 111]) (w3 := w) rfl rfl ?_
            refine sx_RP.step (pc2 := 54) (ls2 := [(0, .ref 111), (1, .int (nI x2)), (2, .int (nI x5)), (3, .int (nI x13))]) (st2 := [.int (nI x2), .ref 111]) (w3 := w) rfl rfl ?_
            refine sx_RP.step (pc2 := 55) (ls2 := [(0, .ref 111), (1, .int (nI x2)), (2, .int (nI x5)), (3, .int (nI x13))]) (st2 := [.int (nI x5), .int (nI x2), .ref 111]) (w3 := w) rfl rfl ?_
            obtain ⟨k9, hk9, ek⟩ : inR ((ia w 112).getD (103 + 6 * x2 + 0) 0) 5 := (hI.s (103 + 6 * x2 + 0) (by omega)).2.2.2.1 (by omega)
            obtain ⟨s9, hs9, es⟩ : inR ((ia w 112).getD (7 + x5) 0) 3 := (hI.s (7 + x5) (by omega)).2.2.1 (by omega)
            rcases Bool.eq_false_or_eq_true (fmB k9 s9) with hf | hf
            · refine sx_RP.cu (as := [.ref 111, .int (nI x2), .int (nI x5)]) (rest2 := []) (st3 := [.int 1]) rfl rfl (sx_inv_v2 (mi := 161) (k := 107) (st := [.int (nI x5), .int (nI x2), .ref 111]) (w := w) rfl rfl hI.1.o111 rfl rfl rfl) rfl rfl ((by have z := x144 (xs := xs) (d := d + 5) hI (show x2 < 10 by omega) (show x5 < 48 by omega) (show k9 < 6 by omega) ek (show s9 < 4 by omega) es; rw [hf] at z; exact z)) rfl ?_
              refine sx_RP.step (pc2 := 61) (ls2 := [(0, .ref 111), (1, .int (nI x2)), (2, .int (nI x5)), (3, .int (nI x13))]) (st2 := []) (w3 := w) rfl rfl ?_
              refine sx_RP.step (pc2 := 62) (ls2 := [(0, .ref 111), (1, .int (nI x2)), (2, .int (nI x5)), (3, .int (nI x13))]) (st2 := [.int 1]) (w3 := w) rfl rfl ?_
              refine sx_RP.step (pc2 := 75) (ls2 := [(0, .ref 111), (1, .int (nI x2)), (2, .int (nI x5)), (3, .int (nI x13))]) (st2 := [.int 1]) (w3 := w) rfl rfl ?_
              refine sx_RP.step (pc2 := 77) (ls2 := [(4, .int 1), (0, .ref 111), (1, .int (nI x2)), (2, .int (nI x5)), (3, .int (nI x13))]) (st2 := []) (w3 := w) rfl rfl ?_
              refine sx_RP.step (pc2 := 79) (ls2 := [(4, .int 1), (0, .ref 111), (1, .int (nI x2)), (2, .int (nI x5)), (3, .int (nI x13))]) (st2 := [.int 1]) (w3 := w) rfl rfl ?_
              refine sx_RP.step (pc2 := 90) (ls2 := [(4, .int 1), (0, .ref 111), (1, .int (nI x2)), (2, .int (nI x5)), (3, .int (nI x13))]) (st2 := []) (w3 := w) rfl rfl ?_
              refine sx_RP.step (pc2 := 92) (ls2 := [(4, .int 1), (0, .ref 111), (1, .int (nI x2)), (2, .int (nI x5)), (3, .int (nI x13))]) (st2 := [.int 1]) (w3 := w) rfl rfl ?_
              refine sx_RP.ret (r := (some (.int 1))) rfl rfl ?_
              obtain rfl : x13 = 2 := by omega
              exact ⟨by rw [dosA_y (k := k9) (s := s9) en (by omega) c1 (by omega) (by omega) (by omega) ek es, dosV_2, hf]; rfl, hI⟩
            · refine sx_RP.cu (as := [.ref 111, .int (nI x2), .int (nI x5)]) (rest2 := []) (st3 := [.int 0]) rfl rfl (sx_inv_v2 (mi := 161) (k := 107) (st := [.int (nI x5), .int (nI x2), .ref 111]) (w := w) rfl rfl hI.1.o111 rfl rfl rfl) rfl rfl ((by have z := x144 (xs := xs) (d := d + 5) hI (show x2 < 10 by omega) (show x5 < 48 by omega) (show k9 < 6 by omega) ek (show s9 < 4 by omega) es; rw [hf] at z; exact z)) rfl ?_
              refine sx_RP.step (pc2 := 65) (ls2 := [(0, .ref 111), (1, .int (nI x2)), (2, .int (nI x5)), (3, .int (nI x13))]) (st2 := []) (w3 := w) rfl rfl ?_
              refine sx_RP.step (pc2 := 66) (ls2 := [(0, .ref 111), (1, .int (nI x2)), (2, .int (nI x5)), (3, .int (nI x13))]) (st2 := [.int 0]) (w3 := w) rfl rfl ?_
              refine sx_RP.step (pc2 := 75) (ls2 := [(0, .ref 111), (1, .int (nI x2)), (2, .int (nI x5)), (3, .int (nI x13))]) (st2 := [.int 0]) (w3 := w) rfl rfl ?_
              refine sx_RP.step (pc2 := 77) (ls2 := [(4, .int 0), (0, .ref 111), (1, .int (nI x2)), (2, .int (nI x5)), (3, .int (nI x13))]) (st2 := []) (w3 := w) rfl rfl ?_
              refine sx_RP.step (pc2 := 79) (ls2 := [(4, .int 0), (0, .ref 111), (1, .int (nI x2)), (2, .int (nI x5)), (3, .int (nI x13))]) (st2 := [.int 0]) (w3 := w) rfl rfl ?_
              refine sx_RP.step (pc2 := 90) (ls2 := [(4, .int 0), (0, .ref 111), (1, .int (nI x2)), (2, .int (nI x5)), (3, .int (nI x13))]) (st2 := []) (w3 := w) rfl rfl ?_
              refine sx_RP.step (pc2 := 92) (ls2 := [(4, .int 0), (0, .ref 111), (1, .int (nI x2)), (2, .int (nI x5)), (3, .int (nI x13))]) (st2 := [.int 0]) (w3 := w) rfl rfl ?_
              refine sx_RP.ret (r := (some (.int 0))) rfl rfl ?_
              obtain rfl : x13 = 2 := by omega
              exact ⟨by rw [dosA_y (k := k9) (s := s9) en (by omega) c1 (by omega) (by omega) (by omega) ek es, dosV_2, hf]; rfl, hI⟩
        · replace q20 := Decidable.not_not.mp (of_decide_eq_false q20)
          replace q20 := (nI_eq (a := x13) (b := 1) (by omega) (by omega)).mp q20
          refine sx_RP.step (pc2 := 36) (ls2 := [(0, .ref 111), (1, .int (nI x2)), (2, .int (nI x5)), (3, .int (nI x13))]) (st2 := [.ref 111]) (w3 := w) rfl rfl ?_
          refine sx_RP.step (pc2 := 37) (ls2 := [(0, .ref 111), (1, .int (nI x2)), (2, .int (nI x5)), (3, .int (nI x13))]) (st2 := [.ref 111, .ref 111]) (w3 := w) rfl rfl ?_
          refine sx_RP.step (pc2 := 38) (ls2 := [(0, .ref 111), (1, .int (nI x2)), (2, .int (nI x5)), (3, .int (nI x13))]) (st2 := [.int (nI x2), .ref 111, .ref 111]) (w3 := w) rfl rfl ?_
          refine sx_RP.step (pc2 := 39) (ls2 := [(0, .ref 111), (1, .int (nI x2)), (2, .int (nI x5)), (3, .int (nI x13))]) (st2 := [.int 0, .int (nI x2), .ref 111, .ref 111]) (w3 := w) rfl rfl ?_
          obtain ⟨k9, hk9, ek⟩ : inR ((ia w 112).getD (103 + 6 * x2 + 0) 0) 5 := (hI.s (103 + 6 * x2 + 0) (by omega)).2.2.2.1 (by omega)
          obtain ⟨s9, hs9, es⟩ : inR ((ia w 112).getD (7 + x5) 0) 3 := (hI.s (7 + x5) (by omega)).2.2.1 (by omega)
          refine sx_RP.cu (as := [.ref 111, .int (nI x2), .int 0]) (rest2 := [.ref 111]) (st3 := [.int (nI k9), .ref 111]) rfl rfl (sx_inv_v2 (mi := 161) (k := 59) (st := [.int 0, .int (nI x2), .ref 111, .ref 111]) (w := w) rfl rfl hI.1.o111 rfl rfl rfl) rfl rfl (x138e hI (show x2 < 10 by omega) (show 0 < 6 by decide) ek) rfl ?_
          refine sx_RP.step (pc2 := 43) (ls2 := [(0, .ref 111), (1, .int (nI x2)), (2, .int (nI x5)), (3, .int (nI x13))]) (st2 := [.int (nI x5), .int (nI k9), .ref 111]) (w3 := w) rfl rfl ?_
          refine sx_RP.cu (as := [.ref 111, .int (nI k9), .int (nI x5)]) (rest2 := []) (st3 := [.int (ldV k9 s9)]) rfl rfl (sx_inv_v2 (mi := 161) (k := 130) (st := [.int (nI x5), .int (nI k9), .ref 111]) (w := w) rfl rfl hI.1.o111 rfl rfl rfl) rfl rfl (x162 hI (show x5 < 48 by omega) (show k9 < 6 by omega) (show s9 < 4 by omega) es) rfl ?_
          refine sx_RP.ret (r := (some (.int (ldV k9 s9)))) rfl rfl ?_
          obtain rfl : x13 = 1 := by omega
          exact ⟨by rw [dosA_y (k := k9) (s := s9) en (by omega) c1 (by omega) (by omega) (by omega) ek es, dosV_1], hI⟩
  · refine sx_RP.cu (as := [.ref 111, .int a1]) (rest2 := []) (st3 := [.int 0]) rfl rfl (sx_inv_v2 (mi := 161) (k := 124) (st := [.int a1, .ref 111]) (w := w) rfl rfl hI.1.o111 rfl rfl rfl) rfl rfl (p156n hI en hn c1) rfl ?_
    refine sx_RP.step (pc2 := 24) (ls2 := [(0, .ref 111), (1, .int a1), (2, .int a2), (3, .int a3)]) (st2 := []) (w3 := w) rfl rfl ?_
    refine sx_RP.step (pc2 := 25) (ls2 := [(0, .ref 111), (1, .int a1), (2, .int a2), (3, .int a3)]) (st2 := [.ref 111]) (w3 := w) rfl rfl ?_
    refine sx_RP.step (pc2 := 26) (ls2 := [(0, .ref 111), (1, .int a1), (2, .int a2), (3, .int a3)]) (st2 := [.int 0, .ref 111]) (w3 := w) rfl rfl ?_
    refine sx_RP.callp (as2 := [.ref 111, .int 0]) (rest2 := []) rfl rfl (sx_inv_v2 (mi := 161) (k := 70) (st := [.int 0, .ref 111]) (w := w) rfl rfl hI.1.o111 rfl rfl rfl) rfl rfl rfl (S133_0 hI) (show _ = 29 from rfl) ?_
    rintro r4 w26 ⟨rfl, hI27, hs25⟩
    show sx_RP _ _ _ _ _ [.int (-1000000001)] _ _
    refine sx_RP.ret (r := (some (.int (-1000000001)))) rfl rfl ?_
    exact ⟨by rw [dosA_1 en (fun z => c1 z.1)], hI27⟩
theorem a32 {xs : Option (List Int32)} {d : Nat} {w : List sx_C} {s : ST} (hI : WI w) (hC : CLS w s) (a1 a2 a3 : Int32) : sx_RP xs (d + 7) 32 0 (lv_args 0 [.ref 0, .int a1, .int a2, .int a3]) [] w (fun r w2 => r = some (.int (dosA s.1 a1 a2 a3)) ∧ WI w2 ∧ CLS w2 (s) ∧ ∀ a, 111 ≤ a → w2[a]? = w[a]?) :=
  ((c32 (xs := xs) (d := d) hI hC a1 a2 a3).and (A32 hI s.1 hC.1.1 a1 a2 a3)).mono9 (fun r w2 z => ⟨z.2.1, z.1.2.1, z.1.2.2.1, z.1.2.2.2⟩)
theorem a161 {xs : Option (List Int32)} {d : Nat} {w : List sx_C} {s : ST} (hI : WI w) (hR : REF w s) (hW : WB s.1) (a1 a2 a3 : Int32) : sx_RP xs (d + 7) 161 0 (lv_args 0 [.ref 111, .int a1, .int a2, .int a3]) [] w (fun r w2 => r = some (.int (dosA s.1 a1 a2 a3)) ∧ WI w2 ∧ REF w2 (s) ∧ ∀ a, a < 111 → w2[a]? = w[a]?) := by
  refine ((r161 (xs := xs) (d := d) hI hR a1 a2 a3).and (A161 hI (by rw [hR.1.1]; exact hW) a1 a2 a3)).mono9 (fun r w2 z => ⟨?_, z.1.2.1, z.1.2.2.1, z.1.2.2.2⟩)
  rw [z.2.1, hR.1.1]
