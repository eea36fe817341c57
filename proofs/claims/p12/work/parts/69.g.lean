-- 69.sheetM.lean.txt
section
-- safety: sheet of the reference
section SXSZ
variable {xs : Option (List Int32)} {d mi pc pc2 idx p : Nat} {ls : sx_L} {r : List Value} {w w0 : List sx_C} {P : Option Value → List sx_C → Prop}
theorem sz_of {x : Int32} (h0 : ¬ x < 0) (h1 : x ≤ 40) : inR x 40 := by
  obtain ⟨f, hf, rfl⟩ := nI_of h0
  refine ⟨f, ?_, rfl⟩
  have h := Int32.le_iff_toInt_le.mp h1
  rw [nI_toInt hf] at h
  have : (40 : Int32).toInt = 40 := by decide
  omega
theorem sx_RP.mSz {k : Nat} {x : Int32} (hI : WI w) (hE : EF w0 w) (hi : sx_ins mi pc = some (.iastore, 1)) (hk : k < 4) (hx : inR x 40) (hp : pc + 1 = pc2) (kk : ∀ w2, WI w2 → EF w0 w2 → sx_RP xs d mi pc2 ls r w2 P) : sx_RP xs d mi pc ls (.int x :: .int (nI k) :: .ref 123 :: r) w P := by
  have hw := hI.1.a123
  refine sx_RP.ist hi hw.1 hw.2 (sx_in_nI hk (by decide)) rfl rfl hp (kk _ (hI.set hw.1 sh_set (cOK.l (fun j hj => ?_))) (hE.set (by omega)))
  rw [nI_clamp (by omega)]
  show inR (((ia w 123).set k x).getD j 0) 40
  rw [gd_set (by rw [hw.2]; exact hk)]
  split
  · exact hx
  · exact hI.l hj
theorem sx_RP.mNF {a : Nat} {i : Int32} {x : Int64} {n : Nat} (hI : WI w) (hE : EF w0 w) (hi : sx_ins mi pc = some (.lastore, 1)) (hw : w[a]? = some (.inr (.inl (3, ja w a))) ∧ (ja w a).length = n) (hn : sx_in i n = true) (hf : a = 124 ∨ a = 125) (hp : pc + 1 = pc2) (kk : ∀ w2, WI w2 → EF w0 w2 → (∀ j, (ia w2 112).getD j 0 = (ia w 112).getD j 0) → sx_RP xs d mi pc2 ls r w2 P) : sx_RP xs d mi pc ls (.long x :: .int i :: .ref a :: r) w P :=
  sx_RP.mN hI EM.rf hi hw hn hf hp (fun w2 h1 h2 h3 => kk w2 h1 (hE.tr (h2.ef hI h1)) h3)
end SXSZ
set_option maxRecDepth 20000 in
set_option maxHeartbeats 4000000 in
theorem s230B {xs : Option (List Int32)} {d : Nat} {w w0 : List sx_C} {k : Nat} (hk : k < 4) (hI : WI w) (hE : EF w0 w) {j : Nat} (hj : j ≤ 40) (kk : ∀ (w4 : List sx_C), WI w4 → EF w0 w4 → j + 1 ≤ 40 → sx_RP xs (d + 7) 230 83 [(0, .ref 111), (1, .int (nI k)), (4, .int (nI (j + 1)))] [] w4 (fun r w2 => (∃ v : Int32, r = some (.int v)) ∧ WI w2 ∧ EF w0 w2)) : sx_RP xs (d + 7) 230 83 [(0, .ref 111), (1, .int (nI k)), (4, .int (nI j))] [] w (fun r w2 => (∃ v : Int32, r = some (.int v)) ∧ WI w2 ∧ EF w0 w2) := by
  refine sx_RP.step (pc2 := 85) (ls2 := [(0, .ref 111), (1, .int (nI k)), (4, .int (nI j))]) (st2 := [.int (nI j)]) (w3 := w) rfl rfl ?_
  refine sx_RP.step (pc2 := 87) (ls2 := [(0, .ref 111), (1, .int (nI k)), (4, .int (nI j))]) (st2 := [.int 40, .int (nI j)]) (w3 := w) rfl rfl ?_
  refine sx_RP.br (p1 := 109) (l1 := [(0, .ref 111), (1, .int (nI k)), (4, .int (nI j))]) (s1 := []) (v1 := w) (p2 := 90) (l2 := [(0, .ref 111), (1, .int (nI k)), (4, .int (nI j))]) (s2 := []) (v2 := w) rfl rfl (fun q1 => ?_) (fun q1 => ?_)
  · replace q1 := of_decide_eq_true q1
    replace q1 := (nI_leI (a := 40) (b := j) (by omega) (by omega)).mp q1
    refine sx_RP.step (pc2 := 110) (ls2 := [(0, .ref 111), (1, .int (nI k)), (4, .int (nI j))]) (st2 := [.ref 111]) (w3 := w) rfl rfl ?_
    refine sx_RP.gf (v := .ref 123) rfl rfl hI.1.o111 rfl rfl (show _ = 113 from rfl) ?_
    refine sx_RP.step (pc2 := 114) (ls2 := [(0, .ref 111), (1, .int (nI k)), (4, .int (nI j))]) (st2 := [.int (nI k), .ref 123]) (w3 := w) rfl rfl ?_
    refine sx_RP.ild (c := k) rfl hI.1.a123.1 hI.1.a123.2 (sx_in_nI (show k < 4 by omega) (by decide)) (show (nI k).toNatClampNeg = k from nI_clamp (by omega)) (show _ = 115 from rfl) ?_
    obtain ⟨x2, hx3, ex4⟩ : inR ((ia w 123).getD k 0) 40 := hI.l (show k < 4 by omega)
    rw [ex4]
    refine sx_RP.ret (r := (some (.int (nI x2)))) rfl rfl ?_
    exact ⟨⟨_, rfl⟩, hI, hE⟩
  · replace q1 := of_decide_eq_false q1
    replace q1 := mt (nI_leI (a := 40) (b := j) (by omega) (by omega)).mpr q1
    refine sx_RP.step (pc2 := 91) (ls2 := [(0, .ref 111), (1, .int (nI k)), (4, .int (nI j))]) (st2 := [.ref 111]) (w3 := w) rfl rfl ?_
    refine sx_RP.gf (v := .ref 124) rfl rfl hI.1.o111 rfl rfl (show _ = 94 from rfl) ?_
    refine sx_RP.step (pc2 := 96) (ls2 := [(0, .ref 111), (1, .int (nI k)), (4, .int (nI j))]) (st2 := [.int 40, .ref 124]) (w3 := w) rfl rfl ?_
    refine sx_RP.step (pc2 := 97) (ls2 := [(0, .ref 111), (1, .int (nI k)), (4, .int (nI j))]) (st2 := [.int (nI k), .int 40, .ref 124]) (w3 := w) rfl rfl ?_
    refine sx_RP.step (pc2 := 98) (ls2 := [(0, .ref 111), (1, .int (nI k)), (4, .int (nI j))]) (st2 := [.int (40 * (nI k)), .ref 124]) (w3 := w) rfl rfl ?_
    rw [show (40 * (nI k) : Int32) = nI (40 * k) from nI_mul 40 k]
    refine sx_RP.step (pc2 := 100) (ls2 := [(0, .ref 111), (1, .int (nI k)), (4, .int (nI j))]) (st2 := [.int (nI j), .int (nI (40 * k)), .ref 124]) (w3 := w) rfl rfl ?_
    refine sx_RP.step (pc2 := 101) (ls2 := [(0, .ref 111), (1, .int (nI k)), (4, .int (nI j))]) (st2 := [.int ((nI (40 * k)) + (nI j)), .ref 124]) (w3 := w) rfl rfl ?_
    rw [show ((nI (40 * k)) + (nI j) : Int32) = nI ((40 * k) + j) from nI_add (40 * k) j]
    refine sx_RP.step (pc2 := 102) (ls2 := [(0, .ref 111), (1, .int (nI k)), (4, .int (nI j))]) (st2 := [.long 0, .int (nI ((40 * k) + j)), .ref 124]) (w3 := w) rfl rfl ?_
    refine sx_RP.mNF hI hE rfl hI.1.a124 (sx_in_nI (show ((40 * k) + j) < 160 by omega) (by decide)) (by decide) (show _ = 103 from rfl) (fun w5 hI6 hE7 hk8 => ?_)
    refine sx_RP.step (pc2 := 106) (ls2 := [(4, .int ((nI j) + 1)), (0, .ref 111), (1, .int (nI k))]) (st2 := []) (w3 := w5) rfl rfl ?_
    rw [nI_1 j]
    refine sx_RP.step (pc2 := 83) (ls2 := [(4, .int (nI (j + 1))), (0, .ref 111), (1, .int (nI k))]) (st2 := []) (w3 := w5) rfl rfl ?_
    exact sx_RP.ls (sx_lr.cons rfl (sx_lr.cons rfl (sx_lr.cons rfl sx_lr.nil))) (kk w5 hI6 hE7 (by omega))
set_option maxRecDepth 20000 in
set_option maxHeartbeats 4000000 in
theorem s230L {xs : Option (List Int32)} {d : Nat} {w0 : List sx_C} {k : Nat} (hk : k < 4) : ∀ (fz j : Nat) (w : List sx_C) , 40 ≤ j + fz * 1 → j ≤ 40 → WI w → EF w0 w → sx_RP xs (d + 7) 230 83 [(0, .ref 111), (1, .int (nI k)), (4, .int (nI j))] [] w (fun r w2 => (∃ v : Int32, r = some (.int v)) ∧ WI w2 ∧ EF w0 w2)
  | 0, j, w, h, hj, hI, hE => s230B hk hI hE hj   (fun w4  hI4 hE4 hlt  => absurd hlt (by omega)) 
  | fz + 1, j, w, h, hj, hI, hE => s230B hk hI hE hj   (fun w4  hI4 hE4 hlt  => s230L hk  fz (j + 1) w4  (by omega) hlt hI4 hE4 ) 
set_option maxRecDepth 20000 in
set_option maxHeartbeats 4000000 in
theorem s230 {xs : Option (List Int32)} {d : Nat} {w : List sx_C} (hI : WI w) (a1 a2 a3 : Int32) : sx_RP xs (d + 7) 230 0 (lv_args 0 [.ref 111, .int a1, .int a2, .int a3]) [] w (fun r w2 => (∃ v : Int32, r = some (.int v)) ∧ WI w2 ∧ EF w w2) := by
  have hE : EF w w := EF.rf
  refine sx_RP.step (pc2 := 1) (ls2 := [(0, .ref 111), (1, .int a1), (2, .int a2), (3, .int a3)]) (st2 := [.int a1]) (w3 := w) rfl rfl ?_
  rcases in_cases a1 0 3 (m := 0) (n := 3) rfl rfl (by decide) (by decide) with q1 | ⟨x2, hx3, hx4, rfl⟩
  · refine sx_RP.cu (as := [.int a1]) (rest2 := []) (st3 := [.int 0]) rfl rfl rfl rfl rfl (cx_231n q1) rfl ?_
    refine sx_RP.step (pc2 := 29) (ls2 := [(0, .ref 111), (1, .int a1), (2, .int a2), (3, .int a3)]) (st2 := []) (w3 := w) rfl rfl ?_
    refine sx_RP.step (pc2 := 30) (ls2 := [(0, .ref 111), (1, .int a1), (2, .int a2), (3, .int a3)]) (st2 := [.ref 111]) (w3 := w) rfl rfl ?_
    refine sx_RP.step (pc2 := 31) (ls2 := [(0, .ref 111), (1, .int a1), (2, .int a2), (3, .int a3)]) (st2 := [.int 0, .ref 111]) (w3 := w) rfl rfl ?_
    refine sx_RP.callp (as2 := [.ref 111, .int 0]) (rest2 := []) rfl rfl (sx_inv_v2 (mi := 230) (k := 70) (st := [.int 0, .ref 111]) (w := w) rfl rfl hI.1.o111 rfl rfl rfl) rfl rfl rfl (s133_0 hI) (show _ = 34 from rfl) ?_
    rintro r4 w6 ⟨rfl, hI7, hE9⟩
    have hE8 := hE.tr (hE9.ef hI hI7)
    show sx_RP _ _ _ _ _ [.int (-1000000001)] _ _
    refine sx_RP.ret (r := (some (.int (-1000000001)))) rfl rfl ?_
    exact ⟨⟨_, rfl⟩, hI7, hE8⟩
  · refine sx_RP.cu (as := [.int (nI x2)]) (rest2 := []) (st3 := [.int 1]) rfl rfl rfl rfl rfl (cx_231p ⟨nI_le (a := 0) hx3 (by omega), nI_le (b := 3) hx4 (by decide)⟩) rfl ?_
    refine sx_RP.step (pc2 := 7) (ls2 := [(0, .ref 111), (1, .int (nI x2)), (2, .int a2), (3, .int a3)]) (st2 := []) (w3 := w) rfl rfl ?_
    refine sx_RP.step (pc2 := 8) (ls2 := [(0, .ref 111), (1, .int (nI x2)), (2, .int a2), (3, .int a3)]) (st2 := [.int a2]) (w3 := w) rfl rfl ?_
    refine sx_RP.br (p1 := 35) (l1 := [(0, .ref 111), (1, .int (nI x2)), (2, .int a2), (3, .int a3)]) (s1 := []) (v1 := w) (p2 := 11) (l2 := [(0, .ref 111), (1, .int (nI x2)), (2, .int a2), (3, .int a3)]) (s2 := []) (v2 := w) rfl rfl (fun q10 => ?_) (fun q10 => ?_)
    · replace q10 := of_decide_eq_true q10
      refine sx_RP.step (pc2 := 36) (ls2 := [(0, .ref 111), (1, .int (nI x2)), (2, .int a2), (3, .int a3)]) (st2 := [.int a3]) (w3 := w) rfl rfl ?_
      refine sx_RP.br (p1 := 46) (l1 := [(0, .ref 111), (1, .int (nI x2)), (2, .int a2), (3, .int a3)]) (s1 := []) (v1 := w) (p2 := 39) (l2 := [(0, .ref 111), (1, .int (nI x2)), (2, .int a2), (3, .int a3)]) (s2 := []) (v2 := w) rfl rfl (fun q11 => ?_) (fun q11 => ?_)
      · replace q11 := of_decide_eq_true q11
        refine sx_RP.step (pc2 := 47) (ls2 := [(0, .ref 111), (1, .int (nI x2)), (2, .int a2), (3, .int a3)]) (st2 := [.int a3]) (w3 := w) rfl rfl ?_
        refine sx_RP.step (pc2 := 49) (ls2 := [(0, .ref 111), (1, .int (nI x2)), (2, .int a2), (3, .int a3)]) (st2 := [.int 40, .int a3]) (w3 := w) rfl rfl ?_
        refine sx_RP.br (p1 := 58) (l1 := [(0, .ref 111), (1, .int (nI x2)), (2, .int a2), (3, .int a3)]) (s1 := []) (v1 := w) (p2 := 52) (l2 := [(0, .ref 111), (1, .int (nI x2)), (2, .int a2), (3, .int a3)]) (s2 := []) (v2 := w) rfl rfl (fun q12 => ?_) (fun q12 => ?_)
        · replace q12 := of_decide_eq_true q12
          refine sx_RP.step (pc2 := 59) (ls2 := [(0, .ref 111), (1, .int (nI x2)), (2, .int a2), (3, .int a3)]) (st2 := [.ref 111]) (w3 := w) rfl rfl ?_
          refine sx_RP.gf (v := .ref 122) rfl rfl hI.1.o111 rfl rfl (show _ = 62 from rfl) ?_
          refine sx_RP.step (pc2 := 63) (ls2 := [(0, .ref 111), (1, .int (nI x2)), (2, .int a2), (3, .int a3)]) (st2 := [.int (nI x2), .ref 122]) (w3 := w) rfl rfl ?_
          refine sx_RP.step (pc2 := 64) (ls2 := [(0, .ref 111), (1, .int (nI x2)), (2, .int a2), (3, .int a3)]) (st2 := [.int a2, .int (nI x2), .ref 122]) (w3 := w) rfl rfl ?_
          refine sx_RP.mFF (a := 122) hI hE rfl hI.1.a122 (sx_in_nI (show x2 < 4 by omega) (by decide)) (by decide) (show _ = 65 from rfl) (fun w13 hI14 hE15 _ => ?_)
          refine sx_RP.step (pc2 := 66) (ls2 := [(0, .ref 111), (1, .int (nI x2)), (2, .int a2), (3, .int a3)]) (st2 := [.ref 111]) (w3 := w13) rfl rfl ?_
          refine sx_RP.gf (v := .ref 123) rfl rfl hI14.1.o111 rfl rfl (show _ = 69 from rfl) ?_
          refine sx_RP.step (pc2 := 70) (ls2 := [(0, .ref 111), (1, .int (nI x2)), (2, .int a2), (3, .int a3)]) (st2 := [.int (nI x2), .ref 123]) (w3 := w13) rfl rfl ?_
          refine sx_RP.step (pc2 := 71) (ls2 := [(0, .ref 111), (1, .int (nI x2)), (2, .int a2), (3, .int a3)]) (st2 := [.int a2, .int (nI x2), .ref 123]) (w3 := w13) rfl rfl ?_
          refine sx_RP.br (p1 := 78) (l1 := [(0, .ref 111), (1, .int (nI x2)), (2, .int a2), (3, .int a3)]) (s1 := [.int (nI x2), .ref 123]) (v1 := w13) (p2 := 74) (l2 := [(0, .ref 111), (1, .int (nI x2)), (2, .int a2), (3, .int a3)]) (s2 := [.int (nI x2), .ref 123]) (v2 := w13) rfl rfl (fun q16 => ?_) (fun q16 => ?_)
          · replace q16 := of_decide_eq_true q16
            refine sx_RP.step (pc2 := 79) (ls2 := [(0, .ref 111), (1, .int (nI x2)), (2, .int a2), (3, .int a3)]) (st2 := [.int a3, .int (nI x2), .ref 123]) (w3 := w13) rfl rfl ?_
            refine sx_RP.mSz (k := x2) hI14 hE15 rfl (show x2 < 4 by omega) (sz_of (Int32.not_lt.mpr q11) q12) (show _ = 80 from rfl) (fun w17 hI18 hE19 => ?_)
            refine sx_RP.step (pc2 := 81) (ls2 := [(0, .ref 111), (1, .int (nI x2)), (2, .int a2), (3, .int a3)]) (st2 := [.int 0]) (w3 := w17) rfl rfl ?_
            refine sx_RP.step (pc2 := 83) (ls2 := [(4, .int 0), (0, .ref 111), (1, .int (nI x2)), (2, .int a2), (3, .int a3)]) (st2 := []) (w3 := w17) rfl rfl ?_
            exact sx_RP.ls (sx_lr.cons rfl (sx_lr.cons rfl (sx_lr.cons rfl sx_lr.nil))) (s230L (show x2 < 4 by omega) 40 0 w17  (by omega) (by omega) hI18 hE19 )
          · replace q16 := Decidable.not_not.mp (of_decide_eq_false q16)
            refine sx_RP.step (pc2 := 75) (ls2 := [(0, .ref 111), (1, .int (nI x2)), (2, .int a2), (3, .int a3)]) (st2 := [.int 0, .int (nI x2), .ref 123]) (w3 := w13) rfl rfl ?_
            refine sx_RP.step (pc2 := 79) (ls2 := [(0, .ref 111), (1, .int (nI x2)), (2, .int a2), (3, .int a3)]) (st2 := [.int 0, .int (nI x2), .ref 123]) (w3 := w13) rfl rfl ?_
            refine sx_RP.mSz (k := x2) hI14 hE15 rfl (show x2 < 4 by omega) ⟨0, by decide, rfl⟩ (show _ = 80 from rfl) (fun w20 hI21 hE22 => ?_)
            refine sx_RP.step (pc2 := 81) (ls2 := [(0, .ref 111), (1, .int (nI x2)), (2, .int a2), (3, .int a3)]) (st2 := [.int 0]) (w3 := w20) rfl rfl ?_
            refine sx_RP.step (pc2 := 83) (ls2 := [(4, .int 0), (0, .ref 111), (1, .int (nI x2)), (2, .int a2), (3, .int a3)]) (st2 := []) (w3 := w20) rfl rfl ?_
            exact sx_RP.ls (sx_lr.cons rfl (sx_lr.cons rfl (sx_lr.cons rfl sx_lr.nil))) (s230L (show x2 < 4 by omega) 40 0 w20  (by omega) (by omega) hI21 hE22 )
        · replace q12 := of_decide_eq_false q12
          refine sx_RP.step (pc2 := 53) (ls2 := [(0, .ref 111), (1, .int (nI x2)), (2, .int a2), (3, .int a3)]) (st2 := [.ref 111]) (w3 := w) rfl rfl ?_
          refine sx_RP.step (pc2 := 54) (ls2 := [(0, .ref 111), (1, .int (nI x2)), (2, .int a2), (3, .int a3)]) (st2 := [.int 0, .ref 111]) (w3 := w) rfl rfl ?_
          refine sx_RP.callp (as2 := [.ref 111, .int 0]) (rest2 := []) rfl rfl (sx_inv_v2 (mi := 230) (k := 70) (st := [.int 0, .ref 111]) (w := w) rfl rfl hI.1.o111 rfl rfl rfl) rfl rfl rfl (s133_0 hI) (show _ = 57 from rfl) ?_
          rintro r4 w23 ⟨rfl, hI24, hE26⟩
          have hE25 := hE.tr (hE26.ef hI hI24)
          show sx_RP _ _ _ _ _ [.int (-1000000001)] _ _
          refine sx_RP.ret (r := (some (.int (-1000000001)))) rfl rfl ?_
          exact ⟨⟨_, rfl⟩, hI24, hE25⟩
      · replace q11 := of_decide_eq_false q11
        refine sx_RP.step (pc2 := 40) (ls2 := [(0, .ref 111), (1, .int (nI x2)), (2, .int a2), (3, .int a3)]) (st2 := [.ref 111]) (w3 := w) rfl rfl ?_
        refine sx_RP.step (pc2 := 42) (ls2 := [(0, .ref 111), (1, .int (nI x2)), (2, .int a2), (3, .int a3)]) (st2 := [.int 6, .ref 111]) (w3 := w) rfl rfl ?_
        refine sx_RP.callp (as2 := [.ref 111, .int 6]) (rest2 := []) rfl rfl (sx_inv_v2 (mi := 230) (k := 70) (st := [.int 6, .ref 111]) (w := w) rfl rfl hI.1.o111 rfl rfl rfl) rfl rfl rfl (s133_6 hI) (show _ = 45 from rfl) ?_
        rintro r4 w27 ⟨rfl, hI28, hE30⟩
        have hE29 := hE.tr (hE30.ef hI hI28)
        show sx_RP _ _ _ _ _ [.int (-1000000007)] _ _
        refine sx_RP.ret (r := (some (.int (-1000000007)))) rfl rfl ?_
        exact ⟨⟨_, rfl⟩, hI28, hE29⟩
    · replace q10 := of_decide_eq_false q10
      refine sx_RP.step (pc2 := 12) (ls2 := [(0, .ref 111), (1, .int (nI x2)), (2, .int a2), (3, .int a3)]) (st2 := [.int a2]) (w3 := w) rfl rfl ?_
      refine sx_RP.step (pc2 := 14) (ls2 := [(0, .ref 111), (1, .int (nI x2)), (2, .int a2), (3, .int a3)]) (st2 := [.int 8, .int a2]) (w3 := w) rfl rfl ?_
      refine sx_RP.br (p1 := 35) (l1 := [(0, .ref 111), (1, .int (nI x2)), (2, .int a2), (3, .int a3)]) (s1 := []) (v1 := w) (p2 := 17) (l2 := [(0, .ref 111), (1, .int (nI x2)), (2, .int a2), (3, .int a3)]) (s2 := []) (v2 := w) rfl rfl (fun q31 => ?_) (fun q31 => ?_)
      · replace q31 := of_decide_eq_true q31
        refine sx_RP.step (pc2 := 36) (ls2 := [(0, .ref 111), (1, .int (nI x2)), (2, .int a2), (3, .int a3)]) (st2 := [.int a3]) (w3 := w) rfl rfl ?_
        refine sx_RP.br (p1 := 46) (l1 := [(0, .ref 111), (1, .int (nI x2)), (2, .int a2), (3, .int a3)]) (s1 := []) (v1 := w) (p2 := 39) (l2 := [(0, .ref 111), (1, .int (nI x2)), (2, .int a2), (3, .int a3)]) (s2 := []) (v2 := w) rfl rfl (fun q32 => ?_) (fun q32 => ?_)
        · replace q32 := of_decide_eq_true q32
          refine sx_RP.step (pc2 := 47) (ls2 := [(0, .ref 111), (1, .int (nI x2)), (2, .int a2), (3, .int a3)]) (st2 := [.int a3]) (w3 := w) rfl rfl ?_
          refine sx_RP.step (pc2 := 49) (ls2 := [(0, .ref 111), (1, .int (nI x2)), (2, .int a2), (3, .int a3)]) (st2 := [.int 40, .int a3]) (w3 := w) rfl rfl ?_
          refine sx_RP.br (p1 := 58) (l1 := [(0, .ref 111), (1, .int (nI x2)), (2, .int a2), (3, .int a3)]) (s1 := []) (v1 := w) (p2 := 52) (l2 := [(0, .ref 111), (1, .int (nI x2)), (2, .int a2), (3, .int a3)]) (s2 := []) (v2 := w) rfl rfl (fun q33 => ?_) (fun q33 => ?_)
          · replace q33 := of_decide_eq_true q33
            refine sx_RP.step (pc2 := 59) (ls2 := [(0, .ref 111), (1, .int (nI x2)), (2, .int a2), (3, .int a3)]) (st2 := [.ref 111]) (w3 := w) rfl rfl ?_
            refine sx_RP.gf (v := .ref 122) rfl rfl hI.1.o111 rfl rfl (show _ = 62 from rfl) ?_
            refine sx_RP.step (pc2 := 63) (ls2 := [(0, .ref 111), (1, .int (nI x2)), (2, .int a2), (3, .int a3)]) (st2 := [.int (nI x2), .ref 122]) (w3 := w) rfl rfl ?_
            refine sx_RP.step (pc2 := 64) (ls2 := [(0, .ref 111), (1, .int (nI x2)), (2, .int a2), (3, .int a3)]) (st2 := [.int a2, .int (nI x2), .ref 122]) (w3 := w) rfl rfl ?_
            refine sx_RP.mFF (a := 122) hI hE rfl hI.1.a122 (sx_in_nI (show x2 < 4 by omega) (by decide)) (by decide) (show _ = 65 from rfl) (fun w34 hI35 hE36 _ => ?_)
            refine sx_RP.step (pc2 := 66) (ls2 := [(0, .ref 111), (1, .int (nI x2)), (2, .int a2), (3, .int a3)]) (st2 := [.ref 111]) (w3 := w34) rfl rfl ?_
            refine sx_RP.gf (v := .ref 123) rfl rfl hI35.1.o111 rfl rfl (show _ = 69 from rfl) ?_
            refine sx_RP.step (pc2 := 70) (ls2 := [(0, .ref 111), (1, .int (nI x2)), (2, .int a2), (3, .int a3)]) (st2 := [.int (nI x2), .ref 123]) (w3 := w34) rfl rfl ?_
            refine sx_RP.step (pc2 := 71) (ls2 := [(0, .ref 111), (1, .int (nI x2)), (2, .int a2), (3, .int a3)]) (st2 := [.int a2, .int (nI x2), .ref 123]) (w3 := w34) rfl rfl ?_
            refine sx_RP.br (p1 := 78) (l1 := [(0, .ref 111), (1, .int (nI x2)), (2, .int a2), (3, .int a3)]) (s1 := [.int (nI x2), .ref 123]) (v1 := w34) (p2 := 74) (l2 := [(0, .ref 111), (1, .int (nI x2)), (2, .int a2), (3, .int a3)]) (s2 := [.int (nI x2), .ref 123]) (v2 := w34) rfl rfl (fun q37 => ?_) (fun q37 => ?_)
            · replace q37 := of_decide_eq_true q37
              refine sx_RP.step (pc2 := 79) (ls2 := [(0, .ref 111), (1, .int (nI x2)), (2, .int a2), (3, .int a3)]) (st2 := [.int a3, .int (nI x2), .ref 123]) (w3 := w34) rfl rfl ?_
              refine sx_RP.mSz (k := x2) hI35 hE36 rfl (show x2 < 4 by omega) (sz_of (Int32.not_lt.mpr q32) q33) (show _ = 80 from rfl) (fun w38 hI39 hE40 => ?_)
              refine sx_RP.step (pc2 := 81) (ls2 := [(0, .ref 111), (1, .int (nI x2)), (2, .int a2), (3, .int a3)]) (st2 := [.int 0]) (w3 := w38) rfl rfl ?_
              refine sx_RP.step (pc2 := 83) (ls2 := [(4, .int 0), (0, .ref 111), (1, .int (nI x2)), (2, .int a2), (3, .int a3)]) (st2 := []) (w3 := w38) rfl rfl ?_
              exact sx_RP.ls (sx_lr.cons rfl (sx_lr.cons rfl (sx_lr.cons rfl sx_lr.nil))) (s230L (show x2 < 4 by omega) 40 0 w38  (by omega) (by omega) hI39 hE40 )
            · replace q37 := Decidable.not_not.mp (of_decide_eq_false q37)
              refine sx_RP.step (pc2 := 75) (ls2 := [(0, .ref 111), (1, .int (nI x2)), (2, .int a2), (3, .int a3)]) (st2 := [.int 0, .int (nI x2), .ref 123]) (w3 := w34) rfl rfl ?_
              refine sx_RP.step (pc2 := 79) (ls2 := [(0, .ref 111), (1, .int (nI x2)), (2, .int a2), (3, .int a3)]) (st2 := [.int 0, .int (nI x2), .ref 123]) (w3 := w34) rfl rfl ?_
              refine sx_RP.mSz (k := x2) hI35 hE36 rfl (show x2 < 4 by omega) ⟨0, by decide, rfl⟩ (show _ = 80 from rfl) (fun w41 hI42 hE43 => ?_)
              refine sx_RP.step (pc2 := 81) (ls2 := [(0, .ref 111), (1, .int (nI x2)), (2, .int a2), (3, .int a3)]) (st2 := [.int 0]) (w3 := w41) rfl rfl ?_
              refine sx_RP.step (pc2 := 83) (ls2 := [(4, .int 0), (0, .ref 111), (1, .int (nI x2)), (2, .int a2), (3, .int a3)]) (st2 := []) (w3 := w41) rfl rfl ?_
              exact sx_RP.ls (sx_lr.cons rfl (sx_lr.cons rfl (sx_lr.cons rfl sx_lr.nil))) (s230L (show x2 < 4 by omega) 40 0 w41  (by omega) (by omega) hI42 hE43 )
          · replace q33 := of_decide_eq_false q33
            refine sx_RP.step (pc2 := 53) (ls2 := [(0, .ref 111), (1, .int (nI x2)), (2, .int a2), (3, .int a3)]) (st2 := [.ref 111]) (w3 := w) rfl rfl ?_
            refine sx_RP.step (pc2 := 54) (ls2 := [(0, .ref 111), (1, .int (nI x2)), (2, .int a2), (3, .int a3)]) (st2 := [.int 0, .ref 111]) (w3 := w) rfl rfl ?_
            refine sx_RP.callp (as2 := [.ref 111, .int 0]) (rest2 := []) rfl rfl (sx_inv_v2 (mi := 230) (k := 70) (st := [.int 0, .ref 111]) (w := w) rfl rfl hI.1.o111 rfl rfl rfl) rfl rfl rfl (s133_0 hI) (show _ = 57 from rfl) ?_
            rintro r4 w44 ⟨rfl, hI45, hE47⟩
            have hE46 := hE.tr (hE47.ef hI hI45)
            show sx_RP _ _ _ _ _ [.int (-1000000001)] _ _
            refine sx_RP.ret (r := (some (.int (-1000000001)))) rfl rfl ?_
            exact ⟨⟨_, rfl⟩, hI45, hE46⟩
        · replace q32 := of_decide_eq_false q32
          refine sx_RP.step (pc2 := 40) (ls2 := [(0, .ref 111), (1, .int (nI x2)), (2, .int a2), (3, .int a3)]) (st2 := [.ref 111]) (w3 := w) rfl rfl ?_
          refine sx_RP.step (pc2 := 42) (ls2 := [(0, .ref 111), (1, .int (nI x2)), (2, .int a2), (3, .int a3)]) (st2 := [.int 6, .ref 111]) (w3 := w) rfl rfl ?_
          refine sx_RP.callp (as2 := [.ref 111, .int 6]) (rest2 := []) rfl rfl (sx_inv_v2 (mi := 230) (k := 70) (st := [.int 6, .ref 111]) (w := w) rfl rfl hI.1.o111 rfl rfl rfl) rfl rfl rfl (s133_6 hI) (show _ = 45 from rfl) ?_
          rintro r4 w48 ⟨rfl, hI49, hE51⟩
          have hE50 := hE.tr (hE51.ef hI hI49)
          show sx_RP _ _ _ _ _ [.int (-1000000007)] _ _
          refine sx_RP.ret (r := (some (.int (-1000000007)))) rfl rfl ?_
          exact ⟨⟨_, rfl⟩, hI49, hE50⟩
      · replace q31 := of_decide_eq_false q31
        refine sx_RP.step (pc2 := 18) (ls2 := [(0, .ref 111), (1, .int (nI x2)), (2, .int a2), (3, .int a3)]) (st2 := [.int a2]) (w3 := w) rfl rfl ?_
        refine sx_RP.step (pc2 := 20) (ls2 := [(0, .ref 111), (1, .int (nI x2)), (2, .int a2), (3, .int a3)]) (st2 := [.int 16, .int a2]) (w3 := w) rfl rfl ?_
        refine sx_RP.br (p1 := 35) (l1 := [(0, .ref 111), (1, .int (nI x2)), (2, .int a2), (3, .int a3)]) (s1 := []) (v1 := w) (p2 := 23) (l2 := [(0, .ref 111), (1, .int (nI x2)), (2, .int a2), (3, .int a3)]) (s2 := []) (v2 := w) rfl rfl (fun q52 => ?_) (fun q52 => ?_)
        · replace q52 := of_decide_eq_true q52
          refine sx_RP.step (pc2 := 36) (ls2 := [(0, .ref 111), (1, .int (nI x2)), (2, .int a2), (3, .int a3)]) (st2 := [.int a3]) (w3 := w) rfl rfl ?_
          refine sx_RP.br (p1 := 46) (l1 := [(0, .ref 111), (1, .int (nI x2)), (2, .int a2), (3, .int a3)]) (s1 := []) (v1 := w) (p2 := 39) (l2 := [(0, .ref 111), (1, .int (nI x2)), (2, .int a2), (3, .int a3)]) (s2 := []) (v2 := w) rfl rfl (fun q53 => ?_) (fun q53 => ?_)
          · replace q53 := of_decide_eq_true q53
            refine sx_RP.step (pc2 := 47) (ls2 := [(0, .ref 111), (1, .int (nI x2)), (2, .int a2), (3, .int a3)]) (st2 := [.int a3]) (w3 := w) rfl rfl ?_
            refine sx_RP.step (pc2 := 49) (ls2 := [(0, .ref 111), (1, .int (nI x2)), (2, .int a2), (3, .int a3)]) (st2 := [.int 40, .int a3]) (w3 := w) rfl rfl ?_
            refine sx_RP.br (p1 := 58) (l1 := [(0, .ref 111), (1, .int (nI x2)), (2, .int a2), (3, .int a3)]) (s1 := []) (v1 := w) (p2 := 52) (l2 := [(0, .ref 111), (1, .int (nI x2)), (2, .int a2), (3, .int a3)]) (s2 := []) (v2 := w) rfl rfl (fun q54 => ?_) (fun q54 => ?_)
            · replace q54 := of_decide_eq_true q54
              refine sx_RP.step (pc2 := 59) (ls2 := [(0, .ref 111), (1, .int (nI x2)), (2, .int a2), (3, .int a3)]) (st2 := [.ref 111]) (w3 := w) rfl rfl ?_
              refine sx_RP.gf (v := .ref 122) rfl rfl hI.1.o111 rfl rfl (show _ = 62 from rfl) ?_
              refine sx_RP.step (pc2 := 63) (ls2 := [(0, .ref 111), (1, .int (nI x2)), (2, .int a2), (3, .int a3)]) (st2 := [.int (nI x2), .ref 122]) (w3 := w) rfl rfl ?_
              refine sx_RP.step (pc2 := 64) (ls2 := [(0, .ref 111), (1, .int (nI x2)), (2, .int a2), (3, .int a3)]) (st2 := [.int a2, .int (nI x2), .ref 122]) (w3 := w) rfl rfl ?_
              refine sx_RP.mFF (a := 122) hI hE rfl hI.1.a122 (sx_in_nI (show x2 < 4 by omega) (by decide)) (by decide) (show _ = 65 from rfl) (fun w55 hI56 hE57 _ => ?_)
              refine sx_RP.step (pc2 := 66) (ls2 := [(0, .ref 111), (1, .int (nI x2)), (2, .int a2), (3, .int a3)]) (st2 := [.ref 111]) (w3 := w55) rfl rfl ?_
              refine sx_RP.gf (v := .ref 123) rfl rfl hI56.1.o111 rfl rfl (show _ = 69 from rfl) ?_
              refine sx_RP.step (pc2 := 70) (ls2 := [(0, .ref 111), (1, .int (nI x2)), (2, .int a2), (3, .int a3)]) (st2 := [.int (nI x2), .ref 123]) (w3 := w55) rfl rfl ?_
              refine sx_RP.step (pc2 := 71) (ls2 := [(0, .ref 111), (1, .int (nI x2)), (2, .int a2), (3, .int a3)]) (st2 := [.int a2, .int (nI x2), .ref 123]) (w3 := w55) rfl rfl ?_
              refine sx_RP.br (p1 := 78) (l1 := [(0, .ref 111), (1, .int (nI x2)), (2, .int a2), (3, .int a3)]) (s1 := [.int (nI x2), .ref 123]) (v1 := w55) (p2 := 74) (l2 := [(0, .ref 111), (1, .int (nI x2)), (2, .int a2), (3, .int a3)]) (s2 := [.int (nI x2), .ref 123]) (v2 := w55) rfl rfl (fun q58 => ?_) (fun q58 => ?_)
              · replace q58 := of_decide_eq_true q58
                refine sx_RP.step (pc2 := 79) (ls2 := [(0, .ref 111), (1, .int (nI x2)), (2, .int a2), (3, .int a3)]) (st2 := [.int a3, .int (nI x2), .ref 123]) (w3 := w55) rfl rfl ?_
                refine sx_RP.mSz (k := x2) hI56 hE57 rfl (show x2 < 4 by omega) (sz_of (Int32.not_lt.mpr q53) q54) (show _ = 80 from rfl) (fun w59 hI60 hE61 => ?_)
                refine sx_RP.step (pc2 := 81) (ls2 := [(0, .ref 111), (1, .int (nI x2)), (2, .int a2), (3, .int a3)]) (st2 := [.int 0]) (w3 := w59) rfl rfl ?_
                refine sx_RP.step (pc2 := 83) (ls2 := [(4, .int 0), (0, .ref 111), (1, .int (nI x2)), (2, .int a2), (3, .int a3)]) (st2 := []) (w3 := w59) rfl rfl ?_
                exact sx_RP.ls (sx_lr.cons rfl (sx_lr.cons rfl (sx_lr.cons rfl sx_lr.nil))) (s230L (show x2 < 4 by omega) 40 0 w59  (by omega) (by omega) hI60 hE61 )
              · replace q58 := Decidable.not_not.mp (of_decide_eq_false q58)
                refine sx_RP.step (pc2 := 75) (ls2 := [(0, .ref 111), (1, .int (nI x2)), (2, .int a2), (3, .int a3)]) (st2 := [.int 0, .int (nI x2), .ref 123]) (w3 := w55) rfl rfl ?_
                refine sx_RP.step (pc2 := 79) (ls2 := [(0, .ref 111), (1, .int (nI x2)), (2, .int a2), (3, .int a3)]) (st2 := [.int 0, .int (nI x2), .ref 123]) (w3 := w55) rfl rfl ?_
                refine sx_RP.mSz (k := x2) hI56 hE57 rfl (show x2 < 4 by omega) ⟨0, by decide, rfl⟩ (show _ = 80 from rfl) (fun w62 hI63 hE64 => ?_)
                refine sx_RP.step (pc2 := 81) (ls2 := [(0, .ref 111), (1, .int (nI x2)), (2, .int a2), (3, .int a3)]) (st2 := [.int 0]) (w3 := w62) rfl rfl ?_
                refine sx_RP.step (pc2 := 83) (ls2 := [(4, .int 0), (0, .ref 111), (1, .int (nI x2)), (2, .int a2), (3, .int a3)]) (st2 := []) (w3 := w62) rfl rfl ?_
                exact sx_RP.ls (sx_lr.cons rfl (sx_lr.cons rfl (sx_lr.cons rfl sx_lr.nil))) (s230L (show x2 < 4 by omega) 40 0 w62  (by omega) (by omega) hI63 hE64 )
            · replace q54 := of_decide_eq_false q54
              refine sx_RP.step (pc2 := 53) (ls2 := [(0, .ref 111), (1, .int (nI x2)), (2, .int a2), (3, .int a3)]) (st2 := [.ref 111]) (w3 := w) rfl rfl ?_
              refine sx_RP.step (pc2 := 54) (ls2 := [(0, .ref 111), (1, .int (nI x2)), (2, .int a2), (3, .int a3)]) (st2 := [.int 0, .ref 111]) (w3 := w) rfl rfl ?_
              refine sx_RP.callp (as2 := [.ref 111, .int 0]) (rest2 := []) rfl rfl (sx_inv_v2 (mi := 230) (k := 70) (st := [.int 0, .ref 111]) (w := w) rfl rfl hI.1.o111 rfl rfl rfl) rfl rfl rfl (s133_0 hI) (show _ = 57 from rfl) ?_
              rintro r4 w65 ⟨rfl, hI66, hE68⟩
              have hE67 := hE.tr (hE68.ef hI hI66)
              show sx_RP _ _ _ _ _ [.int (-1000000001)] _ _
              refine sx_RP.ret (r := (some (.int (-1000000001)))) rfl rfl ?_
              exact ⟨⟨_, rfl⟩, hI66, hE67⟩
          · replace q53 := of_decide_eq_false q53
            refine sx_RP.step (pc2 := 40) (ls2 := [(0, .ref 111), (1, .int (nI x2)), (2, .int a2), (3, .int a3)]) (st2 := [.ref 111]) (w3 := w) rfl rfl ?_
            refine sx_RP.step (pc2 := 42) (ls2 := [(0, .ref 111), (1, .int (nI x2)), (2, .int a2), (3, .int a3)]) (st2 := [.int 6, .ref 111]) (w3 := w) rfl rfl ?_
            refine sx_RP.callp (as2 := [.ref 111, .int 6]) (rest2 := []) rfl rfl (sx_inv_v2 (mi := 230) (k := 70) (st := [.int 6, .ref 111]) (w := w) rfl rfl hI.1.o111 rfl rfl rfl) rfl rfl rfl (s133_6 hI) (show _ = 45 from rfl) ?_
            rintro r4 w69 ⟨rfl, hI70, hE72⟩
            have hE71 := hE.tr (hE72.ef hI hI70)
            show sx_RP _ _ _ _ _ [.int (-1000000007)] _ _
            refine sx_RP.ret (r := (some (.int (-1000000007)))) rfl rfl ?_
            exact ⟨⟨_, rfl⟩, hI70, hE71⟩
        · replace q52 := of_decide_eq_false q52
          refine sx_RP.step (pc2 := 24) (ls2 := [(0, .ref 111), (1, .int (nI x2)), (2, .int a2), (3, .int a3)]) (st2 := [.int a2]) (w3 := w) rfl rfl ?_
          refine sx_RP.step (pc2 := 26) (ls2 := [(0, .ref 111), (1, .int (nI x2)), (2, .int a2), (3, .int a3)]) (st2 := [.int 64, .int a2]) (w3 := w) rfl rfl ?_
          refine sx_RP.br (p1 := 35) (l1 := [(0, .ref 111), (1, .int (nI x2)), (2, .int a2), (3, .int a3)]) (s1 := []) (v1 := w) (p2 := 29) (l2 := [(0, .ref 111), (1, .int (nI x2)), (2, .int a2), (3, .int a3)]) (s2 := []) (v2 := w) rfl rfl (fun q73 => ?_) (fun q73 => ?_)
          · replace q73 := of_decide_eq_true q73
            refine sx_RP.step (pc2 := 36) (ls2 := [(0, .ref 111), (1, .int (nI x2)), (2, .int a2), (3, .int a3)]) (st2 := [.int a3]) (w3 := w) rfl rfl ?_
            refine sx_RP.br (p1 := 46) (l1 := [(0, .ref 111), (1, .int (nI x2)), (2, .int a2), (3, .int a3)]) (s1 := []) (v1 := w) (p2 := 39) (l2 := [(0, .ref 111), (1, .int (nI x2)), (2, .int a2), (3, .int a3)]) (s2 := []) (v2 := w) rfl rfl (fun q74 => ?_) (fun q74 => ?_)
            · replace q74 := of_decide_eq_true q74
              refine sx_RP.step (pc2 := 47) (ls2 := [(0, .ref 111), (1, .int (nI x2)), (2, .int a2), (3, .int a3)]) (st2 := [.int a3]) (w3 := w) rfl rfl ?_
              refine sx_RP.step (pc2 := 49) (ls2 := [(0, .ref 111), (1, .int (nI x2)), (2, .int a2), (3, .int a3)]) (st2 := [.int 40, .int a3]) (w3 := w) rfl rfl ?_
              refine sx_RP.br (p1 := 58) (l1 := [(0, .ref 111), (1, .int (nI x2)), (2, .int a2), (3, .int a3)]) (s1 := []) (v1 := w) (p2 := 52) (l2 := [(0, .ref 111), (1, .int (nI x2)), (2, .int a2), (3, .int a3)]) (s2 := []) (v2 := w) rfl rfl (fun q75 => ?_) (fun q75 => ?_)
              · replace q75 := of_decide_eq_true q75
                refine sx_RP.step (pc2 := 59) (ls2 := [(0, .ref 111), (1, .int (nI x2)), (2, .int a2), (3, .int a3)]) (st2 := [.ref 111]) (w3 := w) rfl rfl ?_
                refine sx_RP.gf (v := .ref 122) rfl rfl hI.1.o111 rfl rfl (show _ = 62 from rfl) ?_
                refine sx_RP.step (pc2 := 63) (ls2 := [(0, .ref 111), (1, .int (nI x2)), (2, .int a2), (3, .int a3)]) (st2 := [.int (nI x2), .ref 122]) (w3 := w) rfl rfl ?_
                refine sx_RP.step (pc2 := 64) (ls2 := [(0, .ref 111), (1, .int (nI x2)), (2, .int a2), (3, .int a3)]) (st2 := [.int a2, .int (nI x2), .ref 122]) (w3 := w) rfl rfl ?_
                refine sx_RP.mFF (a := 122) hI hE rfl hI.1.a122 (sx_in_nI (show x2 < 4 by omega) (by decide)) (by decide) (show _ = 65 from rfl) (fun w76 hI77 hE78 _ => ?_)
                refine sx_RP.step (pc2 := 66) (ls2 := [(0, .ref 111), (1, .int (nI x2)), (2, .int a2), (3, .int a3)]) (st2 := [.ref 111]) (w3 := w76) rfl rfl ?_
                refine sx_RP.gf (v := .ref 123) rfl rfl hI77.1.o111 rfl rfl (show _ = 69 from rfl) ?_
                refine sx_RP.step (pc2 := 70) (ls2 := [(0, .ref 111), (1, .int (nI x2)), (2, .int a2), (3, .int a3)]) (st2 := [.int (nI x2), .ref 123]) (w3 := w76) rfl rfl ?_
                refine sx_RP.step (pc2 := 71) (ls2 := [(0, .ref 111), (1, .int (nI x2)), (2, .int a2), (3, .int a3)]) (st2 := [.int a2, .int (nI x2), .ref 123]) (w3 := w76) rfl rfl ?_
                refine sx_RP.br (p1 := 78) (l1 := [(0, .ref 111), (1, .int (nI x2)), (2, .int a2), (3, .int a3)]) (s1 := [.int (nI x2), .ref 123]) (v1 := w76) (p2 := 74) (l2 := [(0, .ref 111), (1, .int (nI x2)), (2, .int a2), (3, .int a3)]) (s2 := [.int (nI x2), .ref 123]) (v2 := w76) rfl rfl (fun q79 => ?_) (fun q79 => ?_)
                · replace q79 := of_decide_eq_true q79
                  refine sx_RP.step (pc2 := 79) (ls2 := [(0, .ref 111), (1, .int (nI x2)), (2, .int a2), (3, .int a3)]) (st2 := [.int a3, .int (nI x2), .ref 123]) (w3 := w76) rfl rfl ?_
                  refine sx_RP.mSz (k := x2) hI77 hE78 rfl (show x2 < 4 by omega) (sz_of (Int32.not_lt.mpr q74) q75) (show _ = 80 from rfl) (fun w80 hI81 hE82 => ?_)
                  refine sx_RP.step (pc2 := 81) (ls2 := [(0, .ref 111), (1, .int (nI x2)), (2, .int a2), (3, .int a3)]) (st2 := [.int 0]) (w3 := w80) rfl rfl ?_
                  refine sx_RP.step (pc2 := 83) (ls2 := [(4, .int 0), (0, .ref 111), (1, .int (nI x2)), (2, .int a2), (3, .int a3)]) (st2 := []) (w3 := w80) rfl rfl ?_
                  exact sx_RP.ls (sx_lr.cons rfl (sx_lr.cons rfl (sx_lr.cons rfl sx_lr.nil))) (s230L (show x2 < 4 by omega) 40 0 w80  (by omega) (by omega) hI81 hE82 )
                · replace q79 := Decidable.not_not.mp (of_decide_eq_false q79)
                  refine sx_RP.step (pc2 := 75) (ls2 := [(0, .ref 111), (1, .int (nI x2)), (2, .int a2), (3, .int a3)]) (st2 := [.int 0, .int (nI x2), .ref 123]) (w3 := w76) rfl rfl ?_
                  refine sx_RP.step (pc2 := 79) (ls2 := [(0, .ref 111), (1, .int (nI x2)), (2, .int a2), (3, .int a3)]) (st2 := [.int 0, .int (nI x2), .ref 123]) (w3 := w76) rfl rfl ?_
                  refine sx_RP.mSz (k := x2) hI77 hE78 rfl (show x2 < 4 by omega) ⟨0, by decide, rfl⟩ (show _ = 80 from rfl) (fun w83 hI84 hE85 => ?_)
                  refine sx_RP.step (pc2 := 81) (ls2 := [(0, .ref 111), (1, .int (nI x2)), (2, .int a2), (3, .int a3)]) (st2 := [.int 0]) (w3 := w83) rfl rfl ?_
                  refine sx_RP.step (pc2 := 83) (ls2 := [(4, .int 0), (0, .ref 111), (1, .int (nI x2)), (2, .int a2), (3, .int a3)]) (st2 := []) (w3 := w83) rfl rfl ?_
                  exact sx_RP.ls (sx_lr.cons rfl (sx_lr.cons rfl (sx_lr.cons rfl sx_lr.nil))) (s230L (show x2 < 4 by omega) 40 0 w83  (by omega) (by omega) hI84 hE85 )
              · replace q75 := of_decide_eq_false q75
                refine sx_RP.step (pc2 := 53) (ls2 := [(0, .ref 111), (1, .int (nI x2)), (2, .int a2), (3, .int a3)]) (st2 := [.ref 111]) (w3 := w) rfl rfl ?_
                refine sx_RP.step (pc2 := 54) (ls2 := [(0, .ref 111), (1, .int (nI x2)), (2, .int a2), (3, .int a3)]) (st2 := [.int 0, .ref 111]) (w3 := w) rfl rfl ?_
                refine sx_RP.callp (as2 := [.ref 111, .int 0]) (rest2 := []) rfl rfl (sx_inv_v2 (mi := 230) (k := 70) (st := [.int 0, .ref 111]) (w := w) rfl rfl hI.1.o111 rfl rfl rfl) rfl rfl rfl (s133_0 hI) (show _ = 57 from rfl) ?_
                rintro r4 w86 ⟨rfl, hI87, hE89⟩
                have hE88 := hE.tr (hE89.ef hI hI87)
                show sx_RP _ _ _ _ _ [.int (-1000000001)] _ _
                refine sx_RP.ret (r := (some (.int (-1000000001)))) rfl rfl ?_
                exact ⟨⟨_, rfl⟩, hI87, hE88⟩
            · replace q74 := of_decide_eq_false q74
              refine sx_RP.step (pc2 := 40) (ls2 := [(0, .ref 111), (1, .int (nI x2)), (2, .int a2), (3, .int a3)]) (st2 := [.ref 111]) (w3 := w) rfl rfl ?_
              refine sx_RP.step (pc2 := 42) (ls2 := [(0, .ref 111), (1, .int (nI x2)), (2, .int a2), (3, .int a3)]) (st2 := [.int 6, .ref 111]) (w3 := w) rfl rfl ?_
              refine sx_RP.callp (as2 := [.ref 111, .int 6]) (rest2 := []) rfl rfl (sx_inv_v2 (mi := 230) (k := 70) (st := [.int 6, .ref 111]) (w := w) rfl rfl hI.1.o111 rfl rfl rfl) rfl rfl rfl (s133_6 hI) (show _ = 45 from rfl) ?_
              rintro r4 w90 ⟨rfl, hI91, hE93⟩
              have hE92 := hE.tr (hE93.ef hI hI91)
              show sx_RP _ _ _ _ _ [.int (-1000000007)] _ _
              refine sx_RP.ret (r := (some (.int (-1000000007)))) rfl rfl ?_
              exact ⟨⟨_, rfl⟩, hI91, hE92⟩
          · replace q73 := of_decide_eq_false q73
            refine sx_RP.step (pc2 := 30) (ls2 := [(0, .ref 111), (1, .int (nI x2)), (2, .int a2), (3, .int a3)]) (st2 := [.ref 111]) (w3 := w) rfl rfl ?_
            refine sx_RP.step (pc2 := 31) (ls2 := [(0, .ref 111), (1, .int (nI x2)), (2, .int a2), (3, .int a3)]) (st2 := [.int 0, .ref 111]) (w3 := w) rfl rfl ?_
            refine sx_RP.callp (as2 := [.ref 111, .int 0]) (rest2 := []) rfl rfl (sx_inv_v2 (mi := 230) (k := 70) (st := [.int 0, .ref 111]) (w := w) rfl rfl hI.1.o111 rfl rfl rfl) rfl rfl rfl (s133_0 hI) (show _ = 34 from rfl) ?_
            rintro r4 w94 ⟨rfl, hI95, hE97⟩
            have hE96 := hE.tr (hE97.ef hI hI95)
            show sx_RP _ _ _ _ _ [.int (-1000000001)] _ _
            refine sx_RP.ret (r := (some (.int (-1000000001)))) rfl rfl ?_
            exact ⟨⟨_, rfl⟩, hI95, hE96⟩
end
-- 70.byteM.lean.txt
section
-- safety: the text of the reference: bytes, blanks
/-- a run of the reference's reading: of cell 111 the fields 12, 13, 14 may change, and nothing else -/
def EH (w w2 : List sx_C) : Prop := (∀ a, a ≠ 111 → w2[a]? = w[a]?) ∧ (w2[111]?).map (kp 111) = (w[111]?).map (kp 111) ∧ (fi w 111 12).toInt ≤ (fi w2 111 12).toInt
theorem EH.rf {w : List sx_C} : EH w w := ⟨fun _ _ => rfl, rfl, Int.le_refl _⟩
theorem hr_le {w : List sx_C} {p q : Nat} (ep : fi w 111 12 = nI p) (hp : p < 2 ^ 31) (hq : q < 2 ^ 31) (h : p ≤ q) : (fi w 111 12).toInt ≤ (nI q).toInt := by
  rw [ep, nI_toInt hp, nI_toInt hq]
  omega
theorem EH.tr {w w1 w2 : List sx_C} (h : EH w w1) (h2 : EH w1 w2) : EH w w2 := ⟨fun a ha => (h2.1 a ha).trans (h.1 a ha), h2.2.1.trans h.2.1, Int.le_trans h.2.2 h2.2.2⟩
theorem EH.em {w w2 : List sx_C} (h : EH w w2) : EM w w2 := by
  intro a
  by_cases e : a = 111
  · subst e
    exact ⟨fun z => by omega, fun _ => h.2.1⟩
  · rw [h.1 a e]
    exact ⟨fun _ => rfl, fun _ => rfl⟩
theorem sx_RP.pmH {xs : Option (List Int32)} {d mi pc pc2 idx p : Nat} {ls : sx_L} {r : List Value} {w w0 : List sx_C} {P : Option Value → List sx_C → Prop} {k : Nat} {v : Int32} (hI : WI w) (hE : EH w0 w) (hi : sx_ins mi pc = some (.putfield idx, 3)) (hq : sx_lk (sx_fl (sx_own mi)) idx = some (6, k, p)) (hk : 12 ≤ k ∧ k < 15) (hf : sx_fin mi 6 k = true) (hv : mR k v) (hm : k = 12 → (fi w 111 12).toInt ≤ v.toInt) (hp : pc + 3 = pc2) (kk : ∀ w2, WI w2 → EH w0 w2 → fi w2 111 k = v → (∀ j, j ≠ k → fi w2 111 j = fi w 111 j) → (∀ a, a ≠ 111 → w2[a]? = w[a]?) → sx_RP xs d mi pc2 ls r w2 P) : sx_RP xs d mi pc ls (.int v :: .ref 111 :: r) w P :=
  sx_RP.pm hI EM.rf hi hq hk hf hv hp (fun w2 h1 h2 h3 h4 h5 => kk w2 h1 (hE.tr ⟨h5, (h2 111).2 (by decide), by
    by_cases e : k = 12
    · subst e
      rw [h3]
      exact hm rfl
    · rw [h4 12 (Ne.symm e)]
      exact Int.le_refl _⟩) h3 h4 h5)
set_option maxRecDepth 20000 in
set_option maxHeartbeats 4000000 in
theorem p216 {xs : Option (List Int32)} {d : Nat} {w : List sx_C} (hI : WI w) {a : Nat} (ha : a < 2 ^ 31) : sx_RU xs d 216 0 (lv_args 0 [.ref 111, .int (nI a)]) [] w (some (.int (-1))) w ∨ (a < 120 ∧ ∃ v : Int32, sx_RU xs d 216 0 (lv_args 0 [.ref 111, .int (nI a)]) [] w (some (.int v)) w) := by
  have h : sx_RP xs d 216 0 (lv_args 0 [.ref 111, .int (nI a)]) [] w (fun r w2 => (r = some (.int (-1)) ∨ (a < 120 ∧ ∃ v : Int32, r = some (.int v))) ∧ w2 = w) := by
    refine sx_RP.step (pc2 := 1) (ls2 := [(0, .ref 111), (1, .int (nI a))]) (st2 := [.int (nI a)]) (w3 := w) rfl rfl ?_
    refine sx_RP.step (pc2 := 2) (ls2 := [(0, .ref 111), (1, .int (nI a))]) (st2 := [.ref 111, .int (nI a)]) (w3 := w) rfl rfl ?_
    refine sx_RP.gf (v := .int (fi w 111 11)) rfl rfl hI.1.o111 rfl rfl (show _ = 5 from rfl) ?_
    obtain ⟨x1, hx2, ex3⟩ : inR (fi w 111 11) 120 := hI.m.2.1
    rw [ex3]
    refine sx_RP.br (p1 := 17) (l1 := [(0, .ref 111), (1, .int (nI a))]) (s1 := []) (v1 := w) (p2 := 8) (l2 := [(0, .ref 111), (1, .int (nI a))]) (s2 := []) (v2 := w) rfl rfl (fun q4 => ?_) (fun q4 => ?_)
    · replace q4 := of_decide_eq_true q4
      replace q4 := (nI_leI (a := x1) (b := a) (by omega) (by omega)).mp q4
      refine sx_RP.step (pc2 := 18) (ls2 := [(0, .ref 111), (1, .int (nI a))]) (st2 := [.int (-1)]) (w3 := w) rfl rfl ?_
      refine sx_RP.ret (r := (some (.int (-1)))) rfl rfl ?_
      exact ⟨Or.inl rfl, rfl⟩
    · replace q4 := of_decide_eq_false q4
      replace q4 := mt (nI_leI (a := x1) (b := a) (by omega) (by omega)).mpr q4
      refine sx_RP.step (pc2 := 9) (ls2 := [(0, .ref 111), (1, .int (nI a))]) (st2 := [.ref 111]) (w3 := w) rfl rfl ?_
      refine sx_RP.gf (v := .ref 121) rfl rfl hI.1.o111 rfl rfl (show _ = 12 from rfl) ?_
      refine sx_RP.step (pc2 := 13) (ls2 := [(0, .ref 111), (1, .int (nI a))]) (st2 := [.int (nI a), .ref 121]) (w3 := w) rfl rfl ?_
      refine sx_RP.ild (c := a) rfl hI.1.a121.1 hI.1.a121.2 (sx_in_nI (show a < 120 by omega) (by decide)) (show (nI a).toNatClampNeg = a from nI_clamp (by omega)) (show _ = 14 from rfl) ?_
      refine sx_RP.step (pc2 := 18) (ls2 := [(0, .ref 111), (1, .int (nI a))]) (st2 := [.int ((ia w 121).getD a 0)]) (w3 := w) rfl rfl ?_
      refine sx_RP.ret (r := (some (.int ((ia w 121).getD a 0)))) rfl rfl ?_
      exact ⟨Or.inr ⟨by omega, _, rfl⟩, rfl⟩
  obtain ⟨r, w2, h1, h2, rfl⟩ := h
  rcases h2 with rfl | ⟨ha2, v, rfl⟩
  · exact Or.inl h1
  · exact Or.inr ⟨ha2, v, h1⟩
set_option maxRecDepth 20000 in
set_option maxHeartbeats 4000000 in
theorem s215B {xs : Option (List Int32)} {d p : Nat} {w w0 : List sx_C} {P : Option Value → List sx_C → Prop} {v : Int32} (hI : WI w) (hE : EH w0 w) (hp : p ≤ 120) (ep : fi w 111 12 = nI p) (hc : sx_RU xs d 216 0 (lv_args 0 [.ref 111, .int (nI p)]) [] w (some (.int v)) w) (hv : v = -1 ∨ p < 120) (k1 : ¬ v = 32 → P none w) (kk : v = 32 → p < 120 → ∀ w2, WI w2 → EH w0 w2 → fi w2 111 12 = nI (p + 1) → sx_RP xs (d + 1) 215 0 [(0, .ref 111)] [] w2 P) : sx_RP xs (d + 1) 215 0 [(0, .ref 111)] [] w P := by
  refine sx_RP.step (pc2 := 1) (ls2 := [(0, .ref 111)]) (st2 := [.ref 111]) (w3 := w) rfl rfl ?_
  refine sx_RP.step (pc2 := 2) (ls2 := [(0, .ref 111)]) (st2 := [.ref 111, .ref 111]) (w3 := w) rfl rfl ?_
  refine sx_RP.gf (v := .int (fi w 111 12)) rfl rfl hI.1.o111 rfl rfl (show _ = 5 from rfl) ?_
  rw [ep]
  refine sx_RP.cu (as := [.ref 111, .int (nI p)]) (rest2 := []) (st3 := [.int v]) rfl rfl (sx_inv_v2 (mi := 215) (k := 215) (st := [.int (nI p), .ref 111]) (w := w) rfl rfl hI.1.o111 rfl rfl rfl) rfl rfl (hc) rfl ?_
  refine sx_RP.step (pc2 := 10) (ls2 := [(0, .ref 111)]) (st2 := [.int 32, .int v]) (w3 := w) rfl rfl ?_
  refine sx_RP.br (p1 := 26) (l1 := [(0, .ref 111)]) (s1 := []) (v1 := w) (p2 := 13) (l2 := [(0, .ref 111)]) (s2 := []) (v2 := w) rfl rfl (fun q1 => ?_) (fun q1 => ?_)
  · replace q1 := of_decide_eq_true q1
    refine sx_RP.ret (r := none) rfl rfl ?_
    exact k1 q1
  · replace q1 := Decidable.not_not.mp (of_decide_eq_false q1)
    refine sx_RP.step (pc2 := 14) (ls2 := [(0, .ref 111)]) (st2 := [.ref 111]) (w3 := w) rfl rfl ?_
    refine sx_RP.step (pc2 := 15) (ls2 := [(0, .ref 111)]) (st2 := [.ref 111, .ref 111]) (w3 := w) rfl rfl ?_
    refine sx_RP.gf (v := .int (fi w 111 12)) rfl rfl hI.1.o111 rfl rfl (show _ = 18 from rfl) ?_
    rw [ep]
    refine sx_RP.step (pc2 := 19) (ls2 := [(0, .ref 111)]) (st2 := [.int 1, .int (nI p), .ref 111]) (w3 := w) rfl rfl ?_
    refine sx_RP.step (pc2 := 20) (ls2 := [(0, .ref 111)]) (st2 := [.int ((nI p) + 1), .ref 111]) (w3 := w) rfl rfl ?_
    rw [show ((nI p) + 1 : Int32) = nI (p + 1) from nI_add p 1]
    have hp2 : p < 120 := hv.resolve_left (fun e => absurd (q1.symm.trans e) (by decide))
    refine sx_RP.pmH (k := 12) hI hE rfl rfl (by decide) rfl (inR.n (show (p + 1) ≤ 120 by omega)) (fun _ => hr_le ep (by omega) (by omega) (by omega)) (show _ = 23 from rfl) (fun w2 hI3 hE4 ht5 ht6 ht7 => ?_)
    refine sx_RP.step (pc2 := 0) (ls2 := [(0, .ref 111)]) (st2 := []) (w3 := w2) rfl rfl ?_
    exact sx_RP.ls (sx_lr.cons rfl sx_lr.nil) (kk q1 hp2 w2 hI3 hE4 ht5)
theorem s215c {xs : Option (List Int32)} {d p : Nat} {w : List sx_C} (hI : WI w) (hp : p ≤ 120) : ∃ v : Int32, sx_RU xs d 216 0 (lv_args 0 [.ref 111, .int (nI p)]) [] w (some (.int v)) w ∧ (v = -1 ∨ p < 120) := by
  rcases p216 (xs := xs) (d := d) (a := p) hI (by omega) with c | ⟨h, v, c⟩
  · exact ⟨-1, c, Or.inl rfl⟩
  · exact ⟨v, c, Or.inr h⟩
theorem s215L {xs : Option (List Int32)} {d : Nat} {w0 : List sx_C} : ∀ (fz p : Nat) (w : List sx_C), 120 ≤ p + fz → p ≤ 120 → fi w 111 12 = nI p → WI w → EH w0 w → sx_RP xs (d + 1) 215 0 [(0, .ref 111)] [] w (fun r w2 => (r = none ∧ sx_RU xs (d + 1) 215 0 (lv_args 0 [.ref 111]) [] w2 none w2) ∧ WI w2 ∧ EH w0 w2)
  | fz, p, w, h, hp, ep, hI, hE => by
    obtain ⟨v, hc, hv⟩ := s215c (xs := xs) (d := d) hI hp
    by_cases e : v = 32
    · refine s215B hI hE hp ep hc hv (fun z => absurd e z) (fun _ h2 w2 hI2 hE2 ep2 => ?_)
      match fz, h with
      | 0, h => exact absurd h2 (by omega)
      | fz + 1, h => exact s215L fz (p + 1) w2 (by omega) (by omega) ep2 hI2 hE2
    · refine s215B hI hE hp ep hc hv (fun _ => ⟨⟨rfl, ?_⟩, hI, hE⟩) (fun z => absurd z e)
      have k : sx_RP xs (d + 1) 215 0 [(0, .ref 111)] [] w (fun r w2 => r = none ∧ w2 = w) := s215B hI EH.rf hp ep hc hv (fun _ => ⟨rfl, rfl⟩) (fun z => absurd z e)
      obtain ⟨r, w2, h1, rfl, rfl⟩ := k
      exact h1
theorem s215 {xs : Option (List Int32)} {d : Nat} {w : List sx_C} (hI : WI w) : sx_RP xs (d + 1) 215 0 (lv_args 0 [.ref 111]) [] w (fun r w2 => (r = none ∧ sx_RU xs (d + 1) 215 0 (lv_args 0 [.ref 111]) [] w2 none w2) ∧ WI w2 ∧ EH w w2) := by
  obtain ⟨p, hp, ep⟩ := hI.m.2.2
  exact s215L 120 p w (by omega) hp ep hI EH.rf
end
-- 71.wordM.lean.txt
section
-- safety: the text of the reference: words
theorem bl01 {m : Nat} {r : Option Value} (h : m ≤ 120) (k : ∃ j, j ≤ 1 ∧ r = some (.int (nI j))) : r = some (.int 0) ∨ (m ≤ 120 ∧ r = some (.int 1)) := by
  obtain ⟨j, hj, e⟩ := k
  rcases (show j = 0 ∨ j = 1 by omega) with rfl | rfl
  · exact Or.inl e
  · exact Or.inr ⟨h, e⟩
set_option maxRecDepth 20000 in
set_option maxHeartbeats 4000000 in
theorem s222 {xs : Option (List Int32)} {d : Nat} {w : List sx_C} (hI : WI w) : sx_RP xs d 222 0 (lv_args 0 [.ref 111]) [] w (fun r w2 => (r = some (.int 0)) ∧ WI w2 ∧ EH w w2) := by
  have hE : EH w w := EH.rf
  refine sx_RP.step (pc2 := 1) (ls2 := [(0, .ref 111)]) (st2 := [.ref 111]) (w3 := w) rfl rfl ?_
  refine sx_RP.step (pc2 := 2) (ls2 := [(0, .ref 111)]) (st2 := [.ref 111, .ref 111]) (w3 := w) rfl rfl ?_
  refine sx_RP.gf (v := .int (fi w 111 13)) rfl rfl hI.1.o111 rfl rfl (show _ = 5 from rfl) ?_
  refine sx_RP.br (p1 := 15) (l1 := [(0, .ref 111)]) (s1 := [.ref 111]) (v1 := w) (p2 := 8) (l2 := [(0, .ref 111)]) (s2 := [.ref 111]) (v2 := w) rfl rfl (fun q1 => ?_) (fun q1 => ?_)
  · replace q1 := of_decide_eq_true q1
    refine sx_RP.step (pc2 := 16) (ls2 := [(0, .ref 111)]) (st2 := [.ref 111, .ref 111]) (w3 := w) rfl rfl ?_
    refine sx_RP.gf (v := .int (fi w 111 13)) rfl rfl hI.1.o111 rfl rfl (show _ = 19 from rfl) ?_
    refine sx_RP.pmH (k := 13) hI hE rfl rfl (by decide) rfl trivial (fun z => absurd z (by decide)) (show _ = 22 from rfl) (fun w2 hI3 hE4 ht5 ht6 ht7 => ?_)
    refine sx_RP.step (pc2 := 23) (ls2 := [(0, .ref 111)]) (st2 := [.int 0]) (w3 := w2) rfl rfl ?_
    refine sx_RP.ret (r := (some (.int 0))) rfl rfl ?_
    exact ⟨rfl, hI3, hE4⟩
  · replace q1 := of_decide_eq_false q1
    refine sx_RP.step (pc2 := 9) (ls2 := [(0, .ref 111)]) (st2 := [.ref 111, .ref 111]) (w3 := w) rfl rfl ?_
    refine sx_RP.gf (v := .int (fi w 111 12)) rfl rfl hI.1.o111 rfl rfl (show _ = 12 from rfl) ?_
    obtain ⟨x8, hx9, ex10⟩ : inR (fi w 111 12) 120 := hI.m.2.2
    rw [ex10]
    refine sx_RP.step (pc2 := 19) (ls2 := [(0, .ref 111)]) (st2 := [.int (nI x8), .ref 111]) (w3 := w) rfl rfl ?_
    refine sx_RP.pmH (k := 13) hI hE rfl rfl (by decide) rfl trivial (fun z => absurd z (by decide)) (show _ = 22 from rfl) (fun w11 hI12 hE13 ht14 ht15 ht16 => ?_)
    have ex17 := (ht15 12 (by decide)).trans ex10
    refine sx_RP.step (pc2 := 23) (ls2 := [(0, .ref 111)]) (st2 := [.int 0]) (w3 := w11) rfl rfl ?_
    refine sx_RP.ret (r := (some (.int 0))) rfl rfl ?_
    exact ⟨rfl, hI12, hE13⟩
set_option maxRecDepth 20000 in
set_option maxHeartbeats 4000000 in
theorem p217B {xs : Option (List Int32)} {d : Nat} {w : List sx_C} (hI : WI w) {j : Nat} (hj : j ≤ 120) (kk : j + 1 ≤ 120 → sx_RP xs (d + 2) 217 5 [(0, .ref 111), (1, .int (nI (j + 1)))] [] w (fun r w2 => (∃ j, j ≤ 120 ∧ r = some (.int (nI j))) ∧ w2 = w)) : sx_RP xs (d + 2) 217 5 [(0, .ref 111), (1, .int (nI j))] [] w (fun r w2 => (∃ j, j ≤ 120 ∧ r = some (.int (nI j))) ∧ w2 = w) := by
  refine sx_RP.step (pc2 := 6) (ls2 := [(0, .ref 111), (1, .int (nI j))]) (st2 := [.ref 111]) (w3 := w) rfl rfl ?_
  refine sx_RP.step (pc2 := 7) (ls2 := [(0, .ref 111), (1, .int (nI j))]) (st2 := [.int (nI j), .ref 111]) (w3 := w) rfl rfl ?_
  rcases p216 (xs := xs) (a := j) hI (by omega) with c1 | ⟨hx2, v3, c1⟩
  · refine sx_RP.cu (as := [.ref 111, .int (nI j)]) (rest2 := []) (st3 := [.int (-1)]) rfl rfl (sx_inv_v2 (mi := 217) (k := 215) (st := [.int (nI j), .ref 111]) (w := w) rfl rfl hI.1.o111 rfl rfl rfl) rfl rfl (c1) rfl ?_
    refine sx_RP.cu (as := [.int (-1)]) (rest2 := []) (st3 := [.int 0]) rfl rfl rfl rfl rfl (cx_218n (by decide)) rfl ?_
    refine sx_RP.step (pc2 := 22) (ls2 := [(0, .ref 111), (1, .int (nI j))]) (st2 := []) (w3 := w) rfl rfl ?_
    refine sx_RP.step (pc2 := 23) (ls2 := [(0, .ref 111), (1, .int (nI j))]) (st2 := [.int (nI j)]) (w3 := w) rfl rfl ?_
    refine sx_RP.ret (r := (some (.int (nI j)))) rfl rfl ?_
    exact ⟨⟨j, by omega, rfl⟩, rfl⟩
  · refine sx_RP.cu (as := [.ref 111, .int (nI j)]) (rest2 := []) (st3 := [.int v3]) rfl rfl (sx_inv_v2 (mi := 217) (k := 215) (st := [.int (nI j), .ref 111]) (w := w) rfl rfl hI.1.o111 rfl rfl rfl) rfl rfl (c1) rfl ?_
    rcases in_cases v3 97 122 (m := 97) (n := 122) rfl rfl (by decide) (by decide) with q4 | ⟨x5, hx6, hx7, rfl⟩
    · refine sx_RP.cu (as := [.int v3]) (rest2 := []) (st3 := [.int 0]) rfl rfl rfl rfl rfl (cx_218n q4) rfl ?_
      refine sx_RP.step (pc2 := 22) (ls2 := [(0, .ref 111), (1, .int (nI j))]) (st2 := []) (w3 := w) rfl rfl ?_
      refine sx_RP.step (pc2 := 23) (ls2 := [(0, .ref 111), (1, .int (nI j))]) (st2 := [.int (nI j)]) (w3 := w) rfl rfl ?_
      refine sx_RP.ret (r := (some (.int (nI j)))) rfl rfl ?_
      exact ⟨⟨j, by omega, rfl⟩, rfl⟩
    · refine sx_RP.cu (as := [.int (nI x5)]) (rest2 := []) (st3 := [.int 1]) rfl rfl rfl rfl rfl (cx_218p ⟨nI_le (a := 97) hx6 (by omega), nI_le (b := 122) hx7 (by decide)⟩) rfl ?_
      refine sx_RP.step (pc2 := 16) (ls2 := [(0, .ref 111), (1, .int (nI j))]) (st2 := []) (w3 := w) rfl rfl ?_
      refine sx_RP.step (pc2 := 19) (ls2 := [(1, .int ((nI j) + 1)), (0, .ref 111)]) (st2 := []) (w3 := w) rfl rfl ?_
      rw [nI_1 j]
      refine sx_RP.step (pc2 := 5) (ls2 := [(1, .int (nI (j + 1))), (0, .ref 111)]) (st2 := []) (w3 := w) rfl rfl ?_
      exact sx_RP.ls (sx_lr.cons rfl (sx_lr.cons rfl sx_lr.nil)) (kk (by omega))
set_option maxRecDepth 20000 in
set_option maxHeartbeats 4000000 in
theorem p217L {xs : Option (List Int32)} {d : Nat} {w : List sx_C} (hI : WI w) : ∀ (fz j : Nat) , 120 ≤ j + fz * 1 → j ≤ 120 → sx_RP xs (d + 2) 217 5 [(0, .ref 111), (1, .int (nI j))] [] w (fun r w2 => (∃ j, j ≤ 120 ∧ r = some (.int (nI j))) ∧ w2 = w)
  | 0, j, h, hj => p217B  hI hj   (fun   hlt  => absurd hlt (by omega)) 
  | fz + 1, j, h, hj => p217B  hI hj   (fun   hlt  => p217L  hI  fz (j + 1)  (by omega) hlt ) 
set_option maxRecDepth 20000 in
set_option maxHeartbeats 4000000 in
theorem p217 {xs : Option (List Int32)} {d : Nat} {w : List sx_C} (hI : WI w) : ∃ j, j ≤ 120 ∧ sx_RU xs (d + 2) 217 0 (lv_args 0 [.ref 111]) [] w (some (.int (nI j))) w := by
  have h : sx_RP xs (d + 2) 217 0 (lv_args 0 [.ref 111]) [] w (fun r w2 => (∃ j, j ≤ 120 ∧ r = some (.int (nI j))) ∧ w2 = w) := by
    refine sx_RP.step (pc2 := 1) (ls2 := [(0, .ref 111)]) (st2 := [.ref 111]) (w3 := w) rfl rfl ?_
    refine sx_RP.gf (v := .int (fi w 111 12)) rfl rfl hI.1.o111 rfl rfl (show _ = 4 from rfl) ?_
    obtain ⟨x1, hx2, ex3⟩ : inR (fi w 111 12) 120 := hI.m.2.2
    rw [ex3]
    refine sx_RP.step (pc2 := 5) (ls2 := [(1, .int (nI x1)), (0, .ref 111)]) (st2 := []) (w3 := w) rfl rfl ?_
    exact sx_RP.ls (sx_lr.cons rfl (sx_lr.cons rfl sx_lr.nil)) (p217L  hI 120 x1  (by omega) (by omega) )
  obtain ⟨r, w2, h1, ⟨j, hj, rfl⟩, rfl⟩ := h
  exact ⟨j, hj, h1⟩
set_option maxRecDepth 20000 in
set_option maxHeartbeats 4000000 in
theorem p214B {xs : Option (List Int32)} {d : Nat} {w : List sx_C} {k : UInt32} {n : Nat} (hk : 100 ≤ k.toNat ∧ k.toNat < 120) (en : sx_sn.getD (k.toNat - 100) 0 = n) (hn : n ≤ 7) (hI : WI w) {j : Nat} (hj : j ≤ 7) (i : Nat) (hi : i ≤ 1) (kk : ∀ (ui : Nat), j + 1 ≤ 7 → ui ≤ 1 → sx_RP xs (d + 3) 214 28 [(0, .ref 111), (1, .float k), (2, .int (nI ui)), (3, .int (nI (j + 1)))] [] w (fun r w2 => (∃ j, j ≤ 1 ∧ r = some (.int (nI j))) ∧ w2 = w)) : sx_RP xs (d + 3) 214 28 [(0, .ref 111), (1, .float k), (2, .int (nI i)), (3, .int (nI j))] [] w (fun r w2 => (∃ j, j ≤ 1 ∧ r = some (.int (nI j))) ∧ w2 = w) := by
  refine sx_RP.step (pc2 := 29) (ls2 := [(0, .ref 111), (1, .float k), (2, .int (nI i)), (3, .int (nI j))]) (st2 := [.int (nI j)]) (w3 := w) rfl rfl ?_
  refine sx_RP.step (pc2 := 30) (ls2 := [(0, .ref 111), (1, .float k), (2, .int (nI i)), (3, .int (nI j))]) (st2 := [.float k, .int (nI j)]) (w3 := w) rfl rfl ?_
  refine sx_RP.slen (n := n) hk en rfl rfl rfl (show _ = 33 from rfl) ?_
  refine sx_RP.br (p1 := 70) (l1 := [(0, .ref 111), (1, .float k), (2, .int (nI i)), (3, .int (nI j))]) (s1 := []) (v1 := w) (p2 := 36) (l2 := [(0, .ref 111), (1, .float k), (2, .int (nI i)), (3, .int (nI j))]) (s2 := []) (v2 := w) rfl rfl (fun q1 => ?_) (fun q1 => ?_)
  · replace q1 := of_decide_eq_true q1
    replace q1 := (nI_leI (a := n) (b := j) (by omega) (by omega)).mp q1
    refine sx_RP.step (pc2 := 71) (ls2 := [(0, .ref 111), (1, .float k), (2, .int (nI i)), (3, .int (nI j))]) (st2 := [.int (nI i)]) (w3 := w) rfl rfl ?_
    refine sx_RP.ret (r := (some (.int (nI i)))) rfl (bo_ret rfl (inR.n (show i ≤ 1 by omega))) ?_
    exact ⟨⟨i, by omega, rfl⟩, rfl⟩
  · replace q1 := of_decide_eq_false q1
    replace q1 := mt (nI_leI (a := n) (b := j) (by omega) (by omega)).mpr q1
    refine sx_RP.step (pc2 := 37) (ls2 := [(0, .ref 111), (1, .float k), (2, .int (nI i)), (3, .int (nI j))]) (st2 := [.int (nI i)]) (w3 := w) rfl rfl ?_
    refine sx_RP.br (p1 := 70) (l1 := [(0, .ref 111), (1, .float k), (2, .int (nI i)), (3, .int (nI j))]) (s1 := []) (v1 := w) (p2 := 40) (l2 := [(0, .ref 111), (1, .float k), (2, .int (nI i)), (3, .int (nI j))]) (s2 := []) (v2 := w) rfl rfl (fun q2 => ?_) (fun q2 => ?_)
    · replace q2 := of_decide_eq_true q2
      replace q2 := (nI_eq (a := i) (b := 0) (by omega) (by omega)).mp q2
      refine sx_RP.step (pc2 := 71) (ls2 := [(0, .ref 111), (1, .float k), (2, .int (nI i)), (3, .int (nI j))]) (st2 := [.int (nI i)]) (w3 := w) rfl rfl ?_
      refine sx_RP.ret (r := (some (.int (nI i)))) rfl (bo_ret rfl (inR.n (show i ≤ 1 by omega))) ?_
      exact ⟨⟨i, by omega, rfl⟩, rfl⟩
    · replace q2 := of_decide_eq_false q2
      replace q2 := mt (nI_eq (a := i) (b := 0) (by omega) (by omega)).mpr q2
      refine sx_RP.step (pc2 := 41) (ls2 := [(0, .ref 111), (1, .float k), (2, .int (nI i)), (3, .int (nI j))]) (st2 := [.ref 111]) (w3 := w) rfl rfl ?_
      refine sx_RP.step (pc2 := 42) (ls2 := [(0, .ref 111), (1, .float k), (2, .int (nI i)), (3, .int (nI j))]) (st2 := [.ref 111, .ref 111]) (w3 := w) rfl rfl ?_
      refine sx_RP.gf (v := .int (fi w 111 12)) rfl rfl hI.1.o111 rfl rfl (show _ = 45 from rfl) ?_
      obtain ⟨x3, hx4, ex5⟩ : inR (fi w 111 12) 120 := hI.m.2.2
      rw [ex5]
      refine sx_RP.step (pc2 := 46) (ls2 := [(0, .ref 111), (1, .float k), (2, .int (nI i)), (3, .int (nI j))]) (st2 := [.int (nI j), .int (nI x3), .ref 111]) (w3 := w) rfl rfl ?_
      refine sx_RP.step (pc2 := 47) (ls2 := [(0, .ref 111), (1, .float k), (2, .int (nI i)), (3, .int (nI j))]) (st2 := [.int ((nI x3) + (nI j)), .ref 111]) (w3 := w) rfl rfl ?_
      rw [show ((nI x3) + (nI j) : Int32) = nI (x3 + j) from nI_add x3 j]
      rcases p216 (xs := xs) (a := (x3 + j)) hI (by omega) with c6 | ⟨hx7, v8, c6⟩
      · refine sx_RP.cu (as := [.ref 111, .int (nI (x3 + j))]) (rest2 := []) (st3 := [.int (-1)]) rfl rfl (sx_inv_v2 (mi := 214) (k := 215) (st := [.int (nI (x3 + j)), .ref 111]) (w := w) rfl rfl hI.1.o111 rfl rfl rfl) rfl rfl (c6) rfl ?_
        refine sx_RP.step (pc2 := 51) (ls2 := [(0, .ref 111), (1, .float k), (2, .int (nI i)), (3, .int (nI j))]) (st2 := [.float k, .int (-1)]) (w3 := w) rfl rfl ?_
        refine sx_RP.step (pc2 := 52) (ls2 := [(0, .ref 111), (1, .float k), (2, .int (nI i)), (3, .int (nI j))]) (st2 := [.int (nI j), .float k, .int (-1)]) (w3 := w) rfl rfl ?_
        refine sx_RP.schr (n := n) (x := j) hk en hn (show j < n by omega) rfl rfl rfl (show _ = 55 from rfl) ?_
        refine sx_RP.br (p1 := 62) (l1 := [(0, .ref 111), (1, .float k), (2, .int (nI i)), (3, .int (nI j))]) (s1 := []) (v1 := w) (p2 := 58) (l2 := [(0, .ref 111), (1, .float k), (2, .int (nI i)), (3, .int (nI j))]) (s2 := []) (v2 := w) rfl rfl (fun q9 => ?_) (fun q9 => ?_)
        · replace q9 := of_decide_eq_true q9
          refine sx_RP.step (pc2 := 63) (ls2 := [(0, .ref 111), (1, .float k), (2, .int (nI i)), (3, .int (nI j))]) (st2 := [.int 0]) (w3 := w) rfl rfl ?_
          refine sx_RP.step (pc2 := 64) (ls2 := [(2, .int 0), (0, .ref 111), (1, .float k), (3, .int (nI j))]) (st2 := []) (w3 := w) rfl rfl ?_
          refine sx_RP.step (pc2 := 67) (ls2 := [(3, .int ((nI j) + 1)), (2, .int 0), (0, .ref 111), (1, .float k)]) (st2 := []) (w3 := w) rfl rfl ?_
          rw [nI_1 j]
          refine sx_RP.step (pc2 := 28) (ls2 := [(3, .int (nI (j + 1))), (2, .int 0), (0, .ref 111), (1, .float k)]) (st2 := []) (w3 := w) rfl rfl ?_
          exact sx_RP.ls (sx_lr.cons rfl (sx_lr.cons rfl (sx_lr.cons rfl (sx_lr.cons rfl sx_lr.nil)))) (kk 0 (by omega) (by omega))
        · replace q9 := Decidable.not_not.mp (of_decide_eq_false q9)
          refine sx_RP.step (pc2 := 59) (ls2 := [(0, .ref 111), (1, .float k), (2, .int (nI i)), (3, .int (nI j))]) (st2 := [.int 1]) (w3 := w) rfl rfl ?_
          refine sx_RP.step (pc2 := 63) (ls2 := [(0, .ref 111), (1, .float k), (2, .int (nI i)), (3, .int (nI j))]) (st2 := [.int 1]) (w3 := w) rfl rfl ?_
          refine sx_RP.step (pc2 := 64) (ls2 := [(2, .int 1), (0, .ref 111), (1, .float k), (3, .int (nI j))]) (st2 := []) (w3 := w) rfl rfl ?_
          refine sx_RP.step (pc2 := 67) (ls2 := [(3, .int ((nI j) + 1)), (2, .int 1), (0, .ref 111), (1, .float k)]) (st2 := []) (w3 := w) rfl rfl ?_
          rw [nI_1 j]
          refine sx_RP.step (pc2 := 28) (ls2 := [(3, .int (nI (j + 1))), (2, .int 1), (0, .ref 111), (1, .float k)]) (st2 := []) (w3 := w) rfl rfl ?_
          exact sx_RP.ls (sx_lr.cons rfl (sx_lr.cons rfl (sx_lr.cons rfl (sx_lr.cons rfl sx_lr.nil)))) (kk 1 (by omega) (by omega))
      · refine sx_RP.cu (as := [.ref 111, .int (nI (x3 + j))]) (rest2 := []) (st3 := [.int v8]) rfl rfl (sx_inv_v2 (mi := 214) (k := 215) (st := [.int (nI (x3 + j)), .ref 111]) (w := w) rfl rfl hI.1.o111 rfl rfl rfl) rfl rfl (c6) rfl ?_
        refine sx_RP.step (pc2 := 51) (ls2 := [(0, .ref 111), (1, .float k), (2, .int (nI i)), (3, .int (nI j))]) (st2 := [.float k, .int v8]) (w3 := w) rfl rfl ?_
        refine sx_RP.step (pc2 := 52) (ls2 := [(0, .ref 111), (1, .float k), (2, .int (nI i)), (3, .int (nI j))]) (st2 := [.int (nI j), .float k, .int v8]) (w3 := w) rfl rfl ?_
        refine sx_RP.schr (n := n) (x := j) hk en hn (show j < n by omega) rfl rfl rfl (show _ = 55 from rfl) ?_
        refine sx_RP.br (p1 := 62) (l1 := [(0, .ref 111), (1, .float k), (2, .int (nI i)), (3, .int (nI j))]) (s1 := []) (v1 := w) (p2 := 58) (l2 := [(0, .ref 111), (1, .float k), (2, .int (nI i)), (3, .int (nI j))]) (s2 := []) (v2 := w) rfl rfl (fun q10 => ?_) (fun q10 => ?_)
        · replace q10 := of_decide_eq_true q10
          refine sx_RP.step (pc2 := 63) (ls2 := [(0, .ref 111), (1, .float k), (2, .int (nI i)), (3, .int (nI j))]) (st2 := [.int 0]) (w3 := w) rfl rfl ?_
          refine sx_RP.step (pc2 := 64) (ls2 := [(2, .int 0), (0, .ref 111), (1, .float k), (3, .int (nI j))]) (st2 := []) (w3 := w) rfl rfl ?_
          refine sx_RP.step (pc2 := 67) (ls2 := [(3, .int ((nI j) + 1)), (2, .int 0), (0, .ref 111), (1, .float k)]) (st2 := []) (w3 := w) rfl rfl ?_
          rw [nI_1 j]
          refine sx_RP.step (pc2 := 28) (ls2 := [(3, .int (nI (j + 1))), (2, .int 0), (0, .ref 111), (1, .float k)]) (st2 := []) (w3 := w) rfl rfl ?_
          exact sx_RP.ls (sx_lr.cons rfl (sx_lr.cons rfl (sx_lr.cons rfl (sx_lr.cons rfl sx_lr.nil)))) (kk 0 (by omega) (by omega))
        · replace q10 := Decidable.not_not.mp (of_decide_eq_false q10)
          refine sx_RP.step (pc2 := 59) (ls2 := [(0, .ref 111), (1, .float k), (2, .int (nI i)), (3, .int (nI j))]) (st2 := [.int 1]) (w3 := w) rfl rfl ?_
          refine sx_RP.step (pc2 := 63) (ls2 := [(0, .ref 111), (1, .float k), (2, .int (nI i)), (3, .int (nI j))]) (st2 := [.int 1]) (w3 := w) rfl rfl ?_
          refine sx_RP.step (pc2 := 64) (ls2 := [(2, .int 1), (0, .ref 111), (1, .float k), (3, .int (nI j))]) (st2 := []) (w3 := w) rfl rfl ?_
          refine sx_RP.step (pc2 := 67) (ls2 := [(3, .int ((nI j) + 1)), (2, .int 1), (0, .ref 111), (1, .float k)]) (st2 := []) (w3 := w) rfl rfl ?_
          rw [nI_1 j]
          refine sx_RP.step (pc2 := 28) (ls2 := [(3, .int (nI (j + 1))), (2, .int 1), (0, .ref 111), (1, .float k)]) (st2 := []) (w3 := w) rfl rfl ?_
          exact sx_RP.ls (sx_lr.cons rfl (sx_lr.cons rfl (sx_lr.cons rfl (sx_lr.cons rfl sx_lr.nil)))) (kk 1 (by omega) (by omega))
set_option maxRecDepth 20000 in
set_option maxHeartbeats 4000000 in
theorem p214L {xs : Option (List Int32)} {d : Nat} {w : List sx_C} {k : UInt32} {n : Nat} (hk : 100 ≤ k.toNat ∧ k.toNat < 120) (en : sx_sn.getD (k.toNat - 100) 0 = n) (hn : n ≤ 7) (hI : WI w) : ∀ (fz j : Nat) (i : Nat) , 7 ≤ j + fz * 1 → j ≤ 7 → i ≤ 1 → sx_RP xs (d + 3) 214 28 [(0, .ref 111), (1, .float k), (2, .int (nI i)), (3, .int (nI j))] [] w (fun r w2 => (∃ j, j ≤ 1 ∧ r = some (.int (nI j))) ∧ w2 = w)
  | 0, j, i, h, hj, hi => p214B hk en hn hI hj i hi (fun ui  hlt hui => absurd hlt (by omega)) 
  | fz + 1, j, i, h, hj, hi => p214B hk en hn hI hj i hi (fun ui  hlt hui => p214L hk en hn hI  fz (j + 1) ui (by omega) hlt hui) 
set_option maxRecDepth 20000 in
set_option maxHeartbeats 4000000 in
theorem s214r {xs : Option (List Int32)} {d p : Nat} {w : List sx_C} (hI : WI w) (hp : p ≤ 120) (ep : fi w 111 12 = nI p) {k : UInt32} {n : Nat} (hk : 100 ≤ k.toNat ∧ k.toNat < 120) (en : sx_sn.getD (k.toNat - 100) 0 = n) (hn : n ≤ 7) : sx_RP xs (d + 3) 214 4 [(0, .ref 111), (1, .float k)] [] w (fun r w2 => (r = some (.int 0) ∨ (p + n ≤ 120 ∧ r = some (.int 1))) ∧ w2 = w) := by
  have hE : EM w w := EM.rf
  refine sx_RP.step (pc2 := 5) (ls2 := [(0, .ref 111), (1, .float k)]) (st2 := [.ref 111]) (w3 := w) rfl rfl ?_
  obtain ⟨x1, hx2, c3⟩ := p217 hI 
  refine sx_RP.cu (as := [.ref 111]) (rest2 := []) (st3 := [.int (nI x1)]) rfl rfl (sx_inv_v2 (mi := 214) (k := 227) (st := [.ref 111]) (w := w) rfl rfl hI.1.o111 rfl rfl rfl) rfl rfl (c3) rfl ?_
  refine sx_RP.step (pc2 := 9) (ls2 := [(0, .ref 111), (1, .float k)]) (st2 := [.ref 111, .int (nI x1)]) (w3 := w) rfl rfl ?_
  refine sx_RP.gf (v := .int (fi w 111 12)) rfl rfl hI.1.o111 rfl rfl (show _ = 12 from rfl) ?_
  rw [ep]
  refine sx_RP.step (pc2 := 13) (ls2 := [(0, .ref 111), (1, .float k)]) (st2 := [.int ((nI x1) - (nI p))]) (w3 := w) rfl rfl ?_
  refine sx_RP.step (pc2 := 14) (ls2 := [(0, .ref 111), (1, .float k)]) (st2 := [.float k, .int ((nI x1) - (nI p))]) (w3 := w) rfl rfl ?_
  refine sx_RP.slen (n := n) hk en rfl rfl rfl (show _ = 17 from rfl) ?_
  refine sx_RP.br (p1 := 24) (l1 := [(0, .ref 111), (1, .float k)]) (s1 := []) (v1 := w) (p2 := 20) (l2 := [(0, .ref 111), (1, .float k)]) (s2 := []) (v2 := w) rfl rfl (fun q4 => ?_) (fun q4 => ?_)
  · replace q4 := of_decide_eq_true q4
    refine sx_RP.step (pc2 := 25) (ls2 := [(0, .ref 111), (1, .float k)]) (st2 := [.int 0]) (w3 := w) rfl rfl ?_
    refine sx_RP.step (pc2 := 26) (ls2 := [(2, .int 0), (0, .ref 111), (1, .float k)]) (st2 := []) (w3 := w) rfl rfl ?_
    refine sx_RP.step (pc2 := 27) (ls2 := [(2, .int 0), (0, .ref 111), (1, .float k)]) (st2 := [.int 0]) (w3 := w) rfl rfl ?_
    refine sx_RP.step (pc2 := 28) (ls2 := [(3, .int 0), (2, .int 0), (0, .ref 111), (1, .float k)]) (st2 := []) (w3 := w) rfl rfl ?_
    refine sx_RP.step (pc2 := 29) (ls2 := [(3, .int 0), (2, .int 0), (0, .ref 111), (1, .float k)]) (st2 := [.int 0]) (w3 := w) rfl rfl ?_
    refine sx_RP.step (pc2 := 30) (ls2 := [(3, .int 0), (2, .int 0), (0, .ref 111), (1, .float k)]) (st2 := [.float k, .int 0]) (w3 := w) rfl rfl ?_
    refine sx_RP.slen (n := n) hk en rfl rfl rfl (show _ = 33 from rfl) ?_
    refine sx_RP.br (p1 := 70) (l1 := [(3, .int 0), (2, .int 0), (0, .ref 111), (1, .float k)]) (s1 := []) (v1 := w) (p2 := 36) (l2 := [(3, .int 0), (2, .int 0), (0, .ref 111), (1, .float k)]) (s2 := []) (v2 := w) rfl rfl (fun q5 => ?_) (fun q5 => ?_)
    · replace q5 := of_decide_eq_true q5
      replace q5 := (nI_leI (a := n) (b := 0) (by omega) (by omega)).mp q5
      refine sx_RP.step (pc2 := 71) (ls2 := [(3, .int 0), (2, .int 0), (0, .ref 111), (1, .float k)]) (st2 := [.int 0]) (w3 := w) rfl rfl ?_
      refine sx_RP.ret (r := (some (.int 0))) rfl rfl ?_
      exact ⟨Or.inl rfl, rfl⟩
    · replace q5 := of_decide_eq_false q5
      replace q5 := mt (nI_leI (a := n) (b := 0) (by omega) (by omega)).mpr q5
      refine sx_RP.step (pc2 := 37) (ls2 := [(3, .int 0), (2, .int 0), (0, .ref 111), (1, .float k)]) (st2 := [.int 0]) (w3 := w) rfl rfl ?_
      refine sx_RP.step (pc2 := 70) (ls2 := [(3, .int 0), (2, .int 0), (0, .ref 111), (1, .float k)]) (st2 := []) (w3 := w) rfl rfl ?_
      refine sx_RP.step (pc2 := 71) (ls2 := [(3, .int 0), (2, .int 0), (0, .ref 111), (1, .float k)]) (st2 := [.int 0]) (w3 := w) rfl rfl ?_
      refine sx_RP.ret (r := (some (.int 0))) rfl rfl ?_
      exact ⟨Or.inl rfl, rfl⟩
  · replace q4 := Decidable.not_not.mp (of_decide_eq_false q4)
    replace q4 := sub_eqN (a := x1) (b := p) (c := n) (by omega) (by omega) (by omega) q4
    refine sx_RP.step (pc2 := 21) (ls2 := [(0, .ref 111), (1, .float k)]) (st2 := [.int 1]) (w3 := w) rfl rfl ?_
    refine sx_RP.step (pc2 := 25) (ls2 := [(0, .ref 111), (1, .float k)]) (st2 := [.int 1]) (w3 := w) rfl rfl ?_
    refine sx_RP.step (pc2 := 26) (ls2 := [(2, .int 1), (0, .ref 111), (1, .float k)]) (st2 := []) (w3 := w) rfl rfl ?_
    refine sx_RP.step (pc2 := 27) (ls2 := [(2, .int 1), (0, .ref 111), (1, .float k)]) (st2 := [.int 0]) (w3 := w) rfl rfl ?_
    refine sx_RP.step (pc2 := 28) (ls2 := [(3, .int 0), (2, .int 1), (0, .ref 111), (1, .float k)]) (st2 := []) (w3 := w) rfl rfl ?_
    exact sx_RP.ls (sx_lr.cons rfl (sx_lr.cons rfl (sx_lr.cons rfl (sx_lr.cons rfl sx_lr.nil)))) ((p214L hk en hn hI 7 0 1 (by omega) (by omega) (by omega)).mono9 (fun r w2 h => ⟨bl01 (show p + n ≤ 120 by omega) h.1, h.2⟩))
set_option maxRecDepth 20000 in
set_option maxHeartbeats 4000000 in
theorem s214p {xs : Option (List Int32)} {d : Nat} {w w1 : List sx_C} {P : Option Value → List sx_C → Prop} {k : UInt32} (hI : WI w) (hb : sx_RU xs (d + 2) 215 0 (lv_args 0 [.ref 111]) [] w none w1) (kk : sx_RP xs (d + 3) 214 4 [(0, .ref 111), (1, .float k)] [] w1 P) : sx_RP xs (d + 3) 214 0 (lv_args 0 [.ref 111, .float k]) [] w P := by
  refine sx_RP.step (pc2 := 1) (ls2 := [(0, .ref 111), (1, .float k)]) (st2 := [.ref 111]) (w3 := w) rfl rfl ?_
  refine sx_RP.cu (as := [.ref 111]) (rest2 := []) (st3 := []) rfl rfl (sx_inv_v2 (mi := 214) (k := 224) (st := [.ref 111]) (w := w) rfl rfl hI.1.o111 rfl rfl rfl) rfl rfl (hb) rfl ?_
  exact kk
/-- isWord: its answer, and that it answers so once more -/
theorem s214 {xs : Option (List Int32)} {d : Nat} {w : List sx_C} {k : UInt32} {n : Nat} (hI : WI w) (hk : 100 ≤ k.toNat ∧ k.toNat < 120) (en : sx_sn.getD (k.toNat - 100) 0 = n) (hn : n ≤ 7) : sx_RP xs (d + 3) 214 0 (lv_args 0 [.ref 111, .float k]) [] w (fun r w2 => ((r = some (.int 0) ∨ ∃ p, (p + n ≤ 120 ∧ fi w2 111 12 = nI p) ∧ r = some (.int 1)) ∧ sx_RU xs (d + 3) 214 0 (lv_args 0 [.ref 111, .float k]) [] w2 r w2) ∧ WI w2 ∧ EH w w2) := by
  obtain ⟨r0, w1, h1, ⟨rfl, hb⟩, hI1, hE1⟩ := s215 (xs := xs) (d := d + 1) hI
  obtain ⟨p, hp, ep⟩ := hI1.m.2.2
  obtain ⟨r, w2, h2, hr, rfl⟩ := s214r (xs := xs) (d := d) hI1 hp ep hk en hn
  have hq : sx_RU xs (d + 3) 214 0 (lv_args 0 [.ref 111, .float k]) [] w2 r w2 := by
    obtain ⟨r3, w3, h3, rfl, rfl⟩ := s214p (P := fun r3 w3 => r3 = r ∧ w3 = w2) hI1 hb ⟨r, w2, h2, rfl, rfl⟩
    exact h3
  refine ⟨r, w2, ?_, ⟨?_, hq⟩, hI1, hE1⟩
  · obtain ⟨r3, w3, h3, rfl, rfl⟩ := s214p (P := fun r3 w3 => r3 = r ∧ w3 = w2) hI h1 ⟨r, w2, h2, rfl, rfl⟩
    exact h3
  · rcases hr with h | ⟨h, e⟩
    · exact Or.inl h
    · exact Or.inr ⟨p, ⟨h, ep⟩, e⟩
end
-- 72.mayM.lean.txt
section
-- safety: the text of the reference: may, must, number
theorem s214m {xs : Option (List Int32)} {d : Nat} {w : List sx_C} {k : UInt32} {n : Nat} (hI : WI w) (hk : 100 ≤ k.toNat ∧ k.toNat < 120) (en : sx_sn.getD (k.toNat - 100) 0 = n) (hn : n ≤ 7) : sx_RP xs (d + 3) 214 0 (lv_args 0 [.ref 111, .float k]) [] w (fun r w2 => (r = some (.int 0) ∨ ∃ p, (p + n ≤ 120 ∧ fi w2 111 12 = nI p) ∧ r = some (.int 1)) ∧ WI w2 ∧ EH w w2) := (s214 hI hk en hn).mono9 (fun _ _ h => ⟨h.1.1, h.2⟩)
set_option maxRecDepth 20000 in
set_option maxHeartbeats 4000000 in
theorem s213 {xs : Option (List Int32)} {d : Nat} {w : List sx_C} (hI : WI w) {k : UInt32} {n : Nat} (hk : 100 ≤ k.toNat ∧ k.toNat < 120) (en : sx_sn.getD (k.toNat - 100) 0 = n) (hn : n ≤ 7) : sx_RP xs (d + 4) 213 0 (lv_args 0 [.ref 111, .float k]) [] w (fun r w2 => (r = some (.int 0) ∨ r = some (.int 1)) ∧ WI w2 ∧ EH w w2) := by
  have hE : EH w w := EH.rf
  refine sx_RP.step (pc2 := 1) (ls2 := [(0, .ref 111), (1, .float k)]) (st2 := [.ref 111]) (w3 := w) rfl rfl ?_
  refine sx_RP.gf (v := .int (fi w 111 13)) rfl rfl hI.1.o111 rfl rfl (show _ = 4 from rfl) ?_
  refine sx_RP.br (p1 := 19) (l1 := [(0, .ref 111), (1, .float k)]) (s1 := []) (v1 := w) (p2 := 7) (l2 := [(0, .ref 111), (1, .float k)]) (s2 := []) (v2 := w) rfl rfl (fun q1 => ?_) (fun q1 => ?_)
  · replace q1 := of_decide_eq_true q1
    refine sx_RP.step (pc2 := 20) (ls2 := [(0, .ref 111), (1, .float k)]) (st2 := [.int 0]) (w3 := w) rfl rfl ?_
    refine sx_RP.step (pc2 := 21) (ls2 := [(2, .int 0), (0, .ref 111), (1, .float k)]) (st2 := []) (w3 := w) rfl rfl ?_
    refine sx_RP.step (pc2 := 22) (ls2 := [(2, .int 0), (0, .ref 111), (1, .float k)]) (st2 := [.ref 111]) (w3 := w) rfl rfl ?_
    refine sx_RP.step (pc2 := 23) (ls2 := [(2, .int 0), (0, .ref 111), (1, .float k)]) (st2 := [.ref 111, .ref 111]) (w3 := w) rfl rfl ?_
    refine sx_RP.gf (v := .int (fi w 111 12)) rfl rfl hI.1.o111 rfl rfl (show _ = 26 from rfl) ?_
    obtain ⟨x2, hx3, ex4⟩ : inR (fi w 111 12) 120 := hI.m.2.2
    rw [ex4]
    refine sx_RP.step (pc2 := 27) (ls2 := [(2, .int 0), (0, .ref 111), (1, .float k)]) (st2 := [.int 0, .int (nI x2), .ref 111]) (w3 := w) rfl rfl ?_
    refine sx_RP.step (pc2 := 37) (ls2 := [(2, .int 0), (0, .ref 111), (1, .float k)]) (st2 := [.int (nI x2), .ref 111]) (w3 := w) rfl rfl ?_
    refine sx_RP.step (pc2 := 38) (ls2 := [(2, .int 0), (0, .ref 111), (1, .float k)]) (st2 := [.int 0, .int (nI x2), .ref 111]) (w3 := w) rfl rfl ?_
    refine sx_RP.step (pc2 := 39) (ls2 := [(2, .int 0), (0, .ref 111), (1, .float k)]) (st2 := [.int ((nI x2) + 0), .ref 111]) (w3 := w) rfl rfl ?_
    rw [show ((nI x2) + 0 : Int32) = nI (x2 + 0) from nI_add x2 0]
    refine sx_RP.pmH (k := 12) hI hE rfl rfl (by decide) rfl (inR.n (show (x2 + 0) ≤ 120 by omega)) (fun _ => hr_le ex4 (by omega) (by omega) (by omega)) (show _ = 42 from rfl) (fun w5 hI6 hE7 ht8 ht9 ht10 => ?_)
    refine sx_RP.step (pc2 := 43) (ls2 := [(2, .int 0), (0, .ref 111), (1, .float k)]) (st2 := [.int 0]) (w3 := w5) rfl rfl ?_
    refine sx_RP.ret (r := (some (.int 0))) rfl rfl ?_
    exact ⟨Or.inl rfl, hI6, hE7⟩
  · replace q1 := of_decide_eq_false q1
    refine sx_RP.step (pc2 := 8) (ls2 := [(0, .ref 111), (1, .float k)]) (st2 := [.ref 111]) (w3 := w) rfl rfl ?_
    refine sx_RP.step (pc2 := 9) (ls2 := [(0, .ref 111), (1, .float k)]) (st2 := [.float k, .ref 111]) (w3 := w) rfl rfl ?_
    refine sx_RP.callp (as2 := [.ref 111, .float k]) (rest2 := []) rfl rfl (sx_inv_v2 (mi := 213) (k := 239) (st := [.float k, .ref 111]) (w := w) rfl rfl hI.1.o111 rfl rfl rfl) rfl rfl rfl (s214m hI hk en hn) (show _ = 12 from rfl) ?_
    rintro r4 w14 ⟨(rfl | ⟨x11, ⟨hx12, ex13⟩, rfl⟩), hI15, hE17⟩
    · have hE16 := hE.tr (hE17)
      show sx_RP _ _ _ _ _ [.int 0] _ _
      refine sx_RP.step (pc2 := 19) (ls2 := [(0, .ref 111), (1, .float k)]) (st2 := []) (w3 := w14) rfl rfl ?_
      refine sx_RP.step (pc2 := 20) (ls2 := [(0, .ref 111), (1, .float k)]) (st2 := [.int 0]) (w3 := w14) rfl rfl ?_
      refine sx_RP.step (pc2 := 21) (ls2 := [(2, .int 0), (0, .ref 111), (1, .float k)]) (st2 := []) (w3 := w14) rfl rfl ?_
      refine sx_RP.step (pc2 := 22) (ls2 := [(2, .int 0), (0, .ref 111), (1, .float k)]) (st2 := [.ref 111]) (w3 := w14) rfl rfl ?_
      refine sx_RP.step (pc2 := 23) (ls2 := [(2, .int 0), (0, .ref 111), (1, .float k)]) (st2 := [.ref 111, .ref 111]) (w3 := w14) rfl rfl ?_
      refine sx_RP.gf (v := .int (fi w14 111 12)) rfl rfl hI15.1.o111 rfl rfl (show _ = 26 from rfl) ?_
      obtain ⟨x18, hx19, ex20⟩ : inR (fi w14 111 12) 120 := hI15.m.2.2
      rw [ex20]
      refine sx_RP.step (pc2 := 27) (ls2 := [(2, .int 0), (0, .ref 111), (1, .float k)]) (st2 := [.int 0, .int (nI x18), .ref 111]) (w3 := w14) rfl rfl ?_
      refine sx_RP.step (pc2 := 37) (ls2 := [(2, .int 0), (0, .ref 111), (1, .float k)]) (st2 := [.int (nI x18), .ref 111]) (w3 := w14) rfl rfl ?_
      refine sx_RP.step (pc2 := 38) (ls2 := [(2, .int 0), (0, .ref 111), (1, .float k)]) (st2 := [.int 0, .int (nI x18), .ref 111]) (w3 := w14) rfl rfl ?_
      refine sx_RP.step (pc2 := 39) (ls2 := [(2, .int 0), (0, .ref 111), (1, .float k)]) (st2 := [.int ((nI x18) + 0), .ref 111]) (w3 := w14) rfl rfl ?_
      rw [show ((nI x18) + 0 : Int32) = nI (x18 + 0) from nI_add x18 0]
      refine sx_RP.pmH (k := 12) hI15 hE16 rfl rfl (by decide) rfl (inR.n (show (x18 + 0) ≤ 120 by omega)) (fun _ => hr_le ex20 (by omega) (by omega) (by omega)) (show _ = 42 from rfl) (fun w21 hI22 hE23 ht24 ht25 ht26 => ?_)
      refine sx_RP.step (pc2 := 43) (ls2 := [(2, .int 0), (0, .ref 111), (1, .float k)]) (st2 := [.int 0]) (w3 := w21) rfl rfl ?_
      refine sx_RP.ret (r := (some (.int 0))) rfl rfl ?_
      exact ⟨Or.inl rfl, hI22, hE23⟩
    · have hE16 := hE.tr (hE17)
      show sx_RP _ _ _ _ _ [.int 1] _ _
      refine sx_RP.step (pc2 := 15) (ls2 := [(0, .ref 111), (1, .float k)]) (st2 := []) (w3 := w14) rfl rfl ?_
      refine sx_RP.step (pc2 := 16) (ls2 := [(0, .ref 111), (1, .float k)]) (st2 := [.int 1]) (w3 := w14) rfl rfl ?_
      refine sx_RP.step (pc2 := 20) (ls2 := [(0, .ref 111), (1, .float k)]) (st2 := [.int 1]) (w3 := w14) rfl rfl ?_
      refine sx_RP.step (pc2 := 21) (ls2 := [(2, .int 1), (0, .ref 111), (1, .float k)]) (st2 := []) (w3 := w14) rfl rfl ?_
      refine sx_RP.step (pc2 := 22) (ls2 := [(2, .int 1), (0, .ref 111), (1, .float k)]) (st2 := [.ref 111]) (w3 := w14) rfl rfl ?_
      refine sx_RP.step (pc2 := 23) (ls2 := [(2, .int 1), (0, .ref 111), (1, .float k)]) (st2 := [.ref 111, .ref 111]) (w3 := w14) rfl rfl ?_
      refine sx_RP.gf (v := .int (fi w14 111 12)) rfl rfl hI15.1.o111 rfl rfl (show _ = 26 from rfl) ?_
      rw [ex13]
      refine sx_RP.step (pc2 := 27) (ls2 := [(2, .int 1), (0, .ref 111), (1, .float k)]) (st2 := [.int 1, .int (nI x11), .ref 111]) (w3 := w14) rfl rfl ?_
      refine sx_RP.step (pc2 := 30) (ls2 := [(2, .int 1), (0, .ref 111), (1, .float k)]) (st2 := [.int (nI x11), .ref 111]) (w3 := w14) rfl rfl ?_
      refine sx_RP.step (pc2 := 31) (ls2 := [(2, .int 1), (0, .ref 111), (1, .float k)]) (st2 := [.float k, .int (nI x11), .ref 111]) (w3 := w14) rfl rfl ?_
      refine sx_RP.slen (n := n) hk en rfl rfl rfl (show _ = 34 from rfl) ?_
      refine sx_RP.step (pc2 := 38) (ls2 := [(2, .int 1), (0, .ref 111), (1, .float k)]) (st2 := [.int (nI n), .int (nI x11), .ref 111]) (w3 := w14) rfl rfl ?_
      refine sx_RP.step (pc2 := 39) (ls2 := [(2, .int 1), (0, .ref 111), (1, .float k)]) (st2 := [.int ((nI x11) + (nI n)), .ref 111]) (w3 := w14) rfl rfl ?_
      rw [show ((nI x11) + (nI n) : Int32) = nI (x11 + n) from nI_add x11 n]
      refine sx_RP.pmH (k := 12) hI15 hE16 rfl rfl (by decide) rfl (inR.n (show (x11 + n) ≤ 120 by omega)) (fun _ => hr_le ex13 (by omega) (by omega) (by omega)) (show _ = 42 from rfl) (fun w27 hI28 hE29 ht30 ht31 ht32 => ?_)
      refine sx_RP.step (pc2 := 43) (ls2 := [(2, .int 1), (0, .ref 111), (1, .float k)]) (st2 := [.int 1]) (w3 := w27) rfl rfl ?_
      refine sx_RP.ret (r := (some (.int 1))) rfl rfl ?_
      exact ⟨Or.inr rfl, hI28, hE29⟩
set_option maxRecDepth 20000 in
set_option maxHeartbeats 4000000 in
theorem s213z {xs : Option (List Int32)} {d : Nat} {w : List sx_C} (hI : WI w) {k : UInt32} {n : Nat} (hk : 100 ≤ k.toNat ∧ k.toNat < 120) (en : sx_sn.getD (k.toNat - 100) 0 = n) (hn : n ≤ 7) (hc : sx_RU xs (d + 3) 214 0 (lv_args 0 [.ref 111, .float k]) [] w (some (.int 0)) w) : sx_RP xs (d + 4) 213 0 (lv_args 0 [.ref 111, .float k]) [] w (fun r w2 => (r = some (.int 0)) ∧ WI w2 ∧ EH w w2) := by
  have hE : EH w w := EH.rf
  refine sx_RP.step (pc2 := 1) (ls2 := [(0, .ref 111), (1, .float k)]) (st2 := [.ref 111]) (w3 := w) rfl rfl ?_
  refine sx_RP.gf (v := .int (fi w 111 13)) rfl rfl hI.1.o111 rfl rfl (show _ = 4 from rfl) ?_
  refine sx_RP.br (p1 := 19) (l1 := [(0, .ref 111), (1, .float k)]) (s1 := []) (v1 := w) (p2 := 7) (l2 := [(0, .ref 111), (1, .float k)]) (s2 := []) (v2 := w) rfl rfl (fun q1 => ?_) (fun q1 => ?_)
  · replace q1 := of_decide_eq_true q1
    refine sx_RP.step (pc2 := 20) (ls2 := [(0, .ref 111), (1, .float k)]) (st2 := [.int 0]) (w3 := w) rfl rfl ?_
    refine sx_RP.step (pc2 := 21) (ls2 := [(2, .int 0), (0, .ref 111), (1, .float k)]) (st2 := []) (w3 := w) rfl rfl ?_
    refine sx_RP.step (pc2 := 22) (ls2 := [(2, .int 0), (0, .ref 111), (1, .float k)]) (st2 := [.ref 111]) (w3 := w) rfl rfl ?_
    refine sx_RP.step (pc2 := 23) (ls2 := [(2, .int 0), (0, .ref 111), (1, .float k)]) (st2 := [.ref 111, .ref 111]) (w3 := w) rfl rfl ?_
    refine sx_RP.gf (v := .int (fi w 111 12)) rfl rfl hI.1.o111 rfl rfl (show _ = 26 from rfl) ?_
    obtain ⟨x2, hx3, ex4⟩ : inR (fi w 111 12) 120 := hI.m.2.2
    rw [ex4]
    refine sx_RP.step (pc2 := 27) (ls2 := [(2, .int 0), (0, .ref 111), (1, .float k)]) (st2 := [.int 0, .int (nI x2), .ref 111]) (w3 := w) rfl rfl ?_
    refine sx_RP.step (pc2 := 37) (ls2 := [(2, .int 0), (0, .ref 111), (1, .float k)]) (st2 := [.int (nI x2), .ref 111]) (w3 := w) rfl rfl ?_
    refine sx_RP.step (pc2 := 38) (ls2 := [(2, .int 0), (0, .ref 111), (1, .float k)]) (st2 := [.int 0, .int (nI x2), .ref 111]) (w3 := w) rfl rfl ?_
    refine sx_RP.step (pc2 := 39) (ls2 := [(2, .int 0), (0, .ref 111), (1, .float k)]) (st2 := [.int ((nI x2) + 0), .ref 111]) (w3 := w) rfl rfl ?_
    rw [show ((nI x2) + 0 : Int32) = nI (x2 + 0) from nI_add x2 0]
    refine sx_RP.pmH (k := 12) hI hE rfl rfl (by decide) rfl (inR.n (show (x2 + 0) ≤ 120 by omega)) (fun _ => hr_le ex4 (by omega) (by omega) (by omega)) (show _ = 42 from rfl) (fun w5 hI6 hE7 ht8 ht9 ht10 => ?_)
    refine sx_RP.step (pc2 := 43) (ls2 := [(2, .int 0), (0, .ref 111), (1, .float k)]) (st2 := [.int 0]) (w3 := w5) rfl rfl ?_
    refine sx_RP.ret (r := (some (.int 0))) rfl rfl ?_
    exact ⟨rfl, hI6, hE7⟩
  · replace q1 := of_decide_eq_false q1
    refine sx_RP.step (pc2 := 8) (ls2 := [(0, .ref 111), (1, .float k)]) (st2 := [.ref 111]) (w3 := w) rfl rfl ?_
    refine sx_RP.step (pc2 := 9) (ls2 := [(0, .ref 111), (1, .float k)]) (st2 := [.float k, .ref 111]) (w3 := w) rfl rfl ?_
    refine sx_RP.cu (as := [.ref 111, .float k]) (rest2 := []) (st3 := [.int 0]) rfl rfl (sx_inv_v2 (mi := 213) (k := 239) (st := [.float k, .ref 111]) (w := w) rfl rfl hI.1.o111 rfl rfl rfl) rfl rfl (hc) rfl ?_
    refine sx_RP.step (pc2 := 19) (ls2 := [(0, .ref 111), (1, .float k)]) (st2 := []) (w3 := w) rfl rfl ?_
    refine sx_RP.step (pc2 := 20) (ls2 := [(0, .ref 111), (1, .float k)]) (st2 := [.int 0]) (w3 := w) rfl rfl ?_
    refine sx_RP.step (pc2 := 21) (ls2 := [(2, .int 0), (0, .ref 111), (1, .float k)]) (st2 := []) (w3 := w) rfl rfl ?_
    refine sx_RP.step (pc2 := 22) (ls2 := [(2, .int 0), (0, .ref 111), (1, .float k)]) (st2 := [.ref 111]) (w3 := w) rfl rfl ?_
    refine sx_RP.step (pc2 := 23) (ls2 := [(2, .int 0), (0, .ref 111), (1, .float k)]) (st2 := [.ref 111, .ref 111]) (w3 := w) rfl rfl ?_
    refine sx_RP.gf (v := .int (fi w 111 12)) rfl rfl hI.1.o111 rfl rfl (show _ = 26 from rfl) ?_
    obtain ⟨x11, hx12, ex13⟩ : inR (fi w 111 12) 120 := hI.m.2.2
    rw [ex13]
    refine sx_RP.step (pc2 := 27) (ls2 := [(2, .int 0), (0, .ref 111), (1, .float k)]) (st2 := [.int 0, .int (nI x11), .ref 111]) (w3 := w) rfl rfl ?_
    refine sx_RP.step (pc2 := 37) (ls2 := [(2, .int 0), (0, .ref 111), (1, .float k)]) (st2 := [.int (nI x11), .ref 111]) (w3 := w) rfl rfl ?_
    refine sx_RP.step (pc2 := 38) (ls2 := [(2, .int 0), (0, .ref 111), (1, .float k)]) (st2 := [.int 0, .int (nI x11), .ref 111]) (w3 := w) rfl rfl ?_
    refine sx_RP.step (pc2 := 39) (ls2 := [(2, .int 0), (0, .ref 111), (1, .float k)]) (st2 := [.int ((nI x11) + 0), .ref 111]) (w3 := w) rfl rfl ?_
    rw [show ((nI x11) + 0 : Int32) = nI (x11 + 0) from nI_add x11 0]
    refine sx_RP.pmH (k := 12) hI hE rfl rfl (by decide) rfl (inR.n (show (x11 + 0) ≤ 120 by omega)) (fun _ => hr_le ex13 (by omega) (by omega) (by omega)) (show _ = 42 from rfl) (fun w14 hI15 hE16 ht17 ht18 ht19 => ?_)
    refine sx_RP.step (pc2 := 43) (ls2 := [(2, .int 0), (0, .ref 111), (1, .float k)]) (st2 := [.int 0]) (w3 := w14) rfl rfl ?_
    refine sx_RP.ret (r := (some (.int 0))) rfl rfl ?_
    exact ⟨rfl, hI15, hE16⟩
set_option maxRecDepth 20000 in
set_option maxHeartbeats 4000000 in
theorem s228 {xs : Option (List Int32)} {d : Nat} {w : List sx_C} (hI : WI w) {k : UInt32} {n : Nat} (hk : 100 ≤ k.toNat ∧ k.toNat < 120) (en : sx_sn.getD (k.toNat - 100) 0 = n) (hn : n ≤ 7) : sx_RP xs (d + 5) 228 0 (lv_args 0 [.ref 111, .float k]) [] w (fun r w2 => (r = some (.int 0) ∨ r = some (.int 1)) ∧ WI w2 ∧ EH w w2) := by
  have hE : EH w w := EH.rf
  refine sx_RP.step (pc2 := 1) (ls2 := [(0, .ref 111), (1, .float k)]) (st2 := [.ref 111]) (w3 := w) rfl rfl ?_
  refine sx_RP.step (pc2 := 2) (ls2 := [(0, .ref 111), (1, .float k)]) (st2 := [.float k, .ref 111]) (w3 := w) rfl rfl ?_
  refine sx_RP.callp (as2 := [.ref 111, .float k]) (rest2 := []) rfl rfl (sx_inv_v2 (mi := 228) (k := 243) (st := [.float k, .ref 111]) (w := w) rfl rfl hI.1.o111 rfl rfl rfl) rfl rfl rfl (s213 hI hk en hn) (show _ = 5 from rfl) ?_
  rintro r4 w1 ⟨(rfl | rfl), hI2, hE4⟩
  · have hE3 := hE.tr (hE4)
    show sx_RP _ _ _ _ _ [.int 0] _ _
    refine sx_RP.step (pc2 := 8) (ls2 := [(0, .ref 111), (1, .float k)]) (st2 := []) (w3 := w1) rfl rfl ?_
    refine sx_RP.step (pc2 := 9) (ls2 := [(0, .ref 111), (1, .float k)]) (st2 := [.ref 111]) (w3 := w1) rfl rfl ?_
    refine sx_RP.callp (as2 := [.ref 111]) (rest2 := []) rfl rfl (sx_inv_v2 (mi := 228) (k := 245) (st := [.ref 111]) (w := w1) rfl rfl hI2.1.o111 rfl rfl rfl) rfl rfl rfl (s222 hI2) (show _ = 12 from rfl) ?_
    rintro r4 w5 ⟨rfl, hI6, hE8⟩
    have hE7 := hE3.tr (hE8)
    show sx_RP _ _ _ _ _ [.int 0] _ _
    refine sx_RP.step (pc2 := 19) (ls2 := [(0, .ref 111), (1, .float k)]) (st2 := []) (w3 := w5) rfl rfl ?_
    refine sx_RP.step (pc2 := 20) (ls2 := [(0, .ref 111), (1, .float k)]) (st2 := [.int 0]) (w3 := w5) rfl rfl ?_
    refine sx_RP.ret (r := (some (.int 0))) rfl rfl ?_
    exact ⟨Or.inl rfl, hI6, hE7⟩
  · have hE3 := hE.tr (hE4)
    show sx_RP _ _ _ _ _ [.int 1] _ _
    refine sx_RP.step (pc2 := 15) (ls2 := [(0, .ref 111), (1, .float k)]) (st2 := []) (w3 := w1) rfl rfl ?_
    refine sx_RP.step (pc2 := 16) (ls2 := [(0, .ref 111), (1, .float k)]) (st2 := [.int 1]) (w3 := w1) rfl rfl ?_
    refine sx_RP.step (pc2 := 20) (ls2 := [(0, .ref 111), (1, .float k)]) (st2 := [.int 1]) (w3 := w1) rfl rfl ?_
    refine sx_RP.ret (r := (some (.int 1))) rfl rfl ?_
    exact ⟨Or.inr rfl, hI2, hE3⟩
set_option maxRecDepth 20000 in
set_option maxHeartbeats 4000000 in
theorem s225 {xs : Option (List Int32)} {d : Nat} {w : List sx_C} (hI : WI w) : sx_RP xs (d + 3) 225 0 (lv_args 0 [.ref 111]) [] w (fun r w2 => (r = some (.int 0) ∨ r = some (.int 1)) ∧ WI w2 ∧ EH w w2) := by
  have hE : EH w w := EH.rf
  refine sx_RP.step (pc2 := 1) (ls2 := [(0, .ref 111)]) (st2 := [.ref 111]) (w3 := w) rfl rfl ?_
  refine sx_RP.callp (as2 := [.ref 111]) (rest2 := []) rfl rfl (sx_inv_v2 (mi := 225) (k := 224) (st := [.ref 111]) (w := w) rfl rfl hI.1.o111 rfl rfl rfl) rfl rfl rfl (s215 hI) (show _ = 4 from rfl) ?_
  rintro r4 w1 ⟨⟨rfl, _⟩, hI2, hE4⟩
  have hE3 := hE.tr (hE4)
  show sx_RP _ _ _ _ _ [] _ _
  refine sx_RP.step (pc2 := 5) (ls2 := [(0, .ref 111)]) (st2 := [.ref 111]) (w3 := w1) rfl rfl ?_
  refine sx_RP.gf (v := .int (fi w1 111 13)) rfl rfl hI2.1.o111 rfl rfl (show _ = 8 from rfl) ?_
  refine sx_RP.br (p1 := 29) (l1 := [(0, .ref 111)]) (s1 := []) (v1 := w1) (p2 := 11) (l2 := [(0, .ref 111)]) (s2 := []) (v2 := w1) rfl rfl (fun q5 => ?_) (fun q5 => ?_)
  · replace q5 := of_decide_eq_true q5
    refine sx_RP.step (pc2 := 30) (ls2 := [(0, .ref 111)]) (st2 := [.int 0]) (w3 := w1) rfl rfl ?_
    refine sx_RP.ret (r := (some (.int 0))) rfl rfl ?_
    exact ⟨Or.inl rfl, hI2, hE3⟩
  · replace q5 := of_decide_eq_false q5
    refine sx_RP.step (pc2 := 12) (ls2 := [(0, .ref 111)]) (st2 := [.ref 111]) (w3 := w1) rfl rfl ?_
    refine sx_RP.step (pc2 := 13) (ls2 := [(0, .ref 111)]) (st2 := [.ref 111, .ref 111]) (w3 := w1) rfl rfl ?_
    refine sx_RP.gf (v := .int (fi w1 111 12)) rfl rfl hI2.1.o111 rfl rfl (show _ = 16 from rfl) ?_
    obtain ⟨x6, hx7, ex8⟩ : inR (fi w1 111 12) 120 := hI2.m.2.2
    rw [ex8]
    rcases p216 (xs := xs) (a := x6) hI2 (by omega) with c9 | ⟨hx10, v11, c9⟩
    · refine sx_RP.cu (as := [.ref 111, .int (nI x6)]) (rest2 := []) (st3 := [.int (-1)]) rfl rfl (sx_inv_v2 (mi := 225) (k := 215) (st := [.int (nI x6), .ref 111]) (w := w1) rfl rfl hI2.1.o111 rfl rfl rfl) rfl rfl (c9) rfl ?_
      refine sx_RP.cu (as := [.int (-1)]) (rest2 := []) (st3 := [.int 0]) rfl rfl rfl rfl rfl (cx_221n (by decide)) rfl ?_
      refine sx_RP.step (pc2 := 29) (ls2 := [(0, .ref 111)]) (st2 := []) (w3 := w1) rfl rfl ?_
      refine sx_RP.step (pc2 := 30) (ls2 := [(0, .ref 111)]) (st2 := [.int 0]) (w3 := w1) rfl rfl ?_
      refine sx_RP.ret (r := (some (.int 0))) rfl rfl ?_
      exact ⟨Or.inl rfl, hI2, hE3⟩
    · refine sx_RP.cu (as := [.ref 111, .int (nI x6)]) (rest2 := []) (st3 := [.int v11]) rfl rfl (sx_inv_v2 (mi := 225) (k := 215) (st := [.int (nI x6), .ref 111]) (w := w1) rfl rfl hI2.1.o111 rfl rfl rfl) rfl rfl (c9) rfl ?_
      rcases in_cases v11 48 57 (m := 48) (n := 57) rfl rfl (by decide) (by decide) with q12 | ⟨x13, hx14, hx15, rfl⟩
      · refine sx_RP.cu (as := [.int v11]) (rest2 := []) (st3 := [.int 0]) rfl rfl rfl rfl rfl (cx_221n q12) rfl ?_
        refine sx_RP.step (pc2 := 29) (ls2 := [(0, .ref 111)]) (st2 := []) (w3 := w1) rfl rfl ?_
        refine sx_RP.step (pc2 := 30) (ls2 := [(0, .ref 111)]) (st2 := [.int 0]) (w3 := w1) rfl rfl ?_
        refine sx_RP.ret (r := (some (.int 0))) rfl rfl ?_
        exact ⟨Or.inl rfl, hI2, hE3⟩
      · refine sx_RP.cu (as := [.int (nI x13)]) (rest2 := []) (st3 := [.int 1]) rfl rfl rfl rfl rfl (cx_221p ⟨nI_le (a := 48) hx14 (by omega), nI_le (b := 57) hx15 (by decide)⟩) rfl ?_
        refine sx_RP.step (pc2 := 25) (ls2 := [(0, .ref 111)]) (st2 := []) (w3 := w1) rfl rfl ?_
        refine sx_RP.step (pc2 := 26) (ls2 := [(0, .ref 111)]) (st2 := [.int 1]) (w3 := w1) rfl rfl ?_
        refine sx_RP.step (pc2 := 30) (ls2 := [(0, .ref 111)]) (st2 := [.int 1]) (w3 := w1) rfl rfl ?_
        refine sx_RP.ret (r := (some (.int 1))) rfl rfl ?_
        exact ⟨Or.inr rfl, hI2, hE3⟩
set_option maxRecDepth 20000 in
set_option maxHeartbeats 4000000 in
theorem s224 {xs : Option (List Int32)} {d : Nat} {w : List sx_C} (hI : WI w) {c k : Nat} (hc : c < 48) (hk : k ≤ 4) : sx_RP xs d 224 0 (lv_args 0 [.ref 111, .int (nI c), .int (nI k)]) [] w (fun r w2 => (r = none) ∧ WI w2 ∧ EM w w2) := by
  have hE : EM w w := EM.rf
  refine sx_RP.step (pc2 := 1) (ls2 := [(0, .ref 111), (1, .int (nI c)), (2, .int (nI k))]) (st2 := [.int (nI k)]) (w3 := w) rfl rfl ?_
  refine sx_RP.step (pc2 := 2) (ls2 := [(0, .ref 111), (1, .int (nI c)), (2, .int (nI k))]) (st2 := [.int 4, .int (nI k)]) (w3 := w) rfl rfl ?_
  refine sx_RP.br (p1 := 18) (l1 := [(0, .ref 111), (1, .int (nI c)), (2, .int (nI k))]) (s1 := []) (v1 := w) (p2 := 5) (l2 := [(0, .ref 111), (1, .int (nI c)), (2, .int (nI k))]) (s2 := []) (v2 := w) rfl rfl (fun q1 => ?_) (fun q1 => ?_)
  · replace q1 := of_decide_eq_true q1
    replace q1 := mt (nI_eq (a := k) (b := 4) (by omega) (by omega)).mpr q1
    refine sx_RP.step (pc2 := 19) (ls2 := [(0, .ref 111), (1, .int (nI c)), (2, .int (nI k))]) (st2 := [.ref 111]) (w3 := w) rfl rfl ?_
    refine sx_RP.gf (v := .ref 112) rfl rfl hI.1.o111 rfl rfl (show _ = 22 from rfl) ?_
    refine sx_RP.step (pc2 := 24) (ls2 := [(0, .ref 111), (1, .int (nI c)), (2, .int (nI k))]) (st2 := [.int 7, .ref 112]) (w3 := w) rfl rfl ?_
    refine sx_RP.step (pc2 := 25) (ls2 := [(0, .ref 111), (1, .int (nI c)), (2, .int (nI k))]) (st2 := [.int (nI c), .int 7, .ref 112]) (w3 := w) rfl rfl ?_
    refine sx_RP.step (pc2 := 26) (ls2 := [(0, .ref 111), (1, .int (nI c)), (2, .int (nI k))]) (st2 := [.int (7 + (nI c)), .ref 112]) (w3 := w) rfl rfl ?_
    rw [show (7 + (nI c) : Int32) = nI (7 + c) from nI_add 7 c]
    refine sx_RP.step (pc2 := 27) (ls2 := [(0, .ref 111), (1, .int (nI c)), (2, .int (nI k))]) (st2 := [.int (nI k), .int (nI (7 + c)), .ref 112]) (w3 := w) rfl rfl ?_
    refine sx_RP.mS (k := (7 + c)) hI hE (by decide) rfl rfl (by omega) (eOK_st (by omega) (inR.n (show k ≤ 3 by omega))) (show _ = 28 from rfl) (fun w2 hI3 hE4 hk5 => ?_)
    refine sx_RP.ret (r := none) rfl rfl ?_
    exact ⟨rfl, hI3, hE4⟩
  · replace q1 := Decidable.not_not.mp (of_decide_eq_false q1)
    replace q1 := (nI_eq (a := k) (b := 4) (by omega) (by omega)).mp q1
    refine sx_RP.step (pc2 := 6) (ls2 := [(0, .ref 111), (1, .int (nI c)), (2, .int (nI k))]) (st2 := [.ref 111]) (w3 := w) rfl rfl ?_
    refine sx_RP.gf (v := .ref 112) rfl rfl hI.1.o111 rfl rfl (show _ = 9 from rfl) ?_
    refine sx_RP.step (pc2 := 11) (ls2 := [(0, .ref 111), (1, .int (nI c)), (2, .int (nI k))]) (st2 := [.int 55, .ref 112]) (w3 := w) rfl rfl ?_
    refine sx_RP.step (pc2 := 12) (ls2 := [(0, .ref 111), (1, .int (nI c)), (2, .int (nI k))]) (st2 := [.int (nI c), .int 55, .ref 112]) (w3 := w) rfl rfl ?_
    refine sx_RP.step (pc2 := 13) (ls2 := [(0, .ref 111), (1, .int (nI c)), (2, .int (nI k))]) (st2 := [.int (55 + (nI c)), .ref 112]) (w3 := w) rfl rfl ?_
    rw [show (55 + (nI c) : Int32) = nI (55 + c) from nI_add 55 c]
    refine sx_RP.step (pc2 := 14) (ls2 := [(0, .ref 111), (1, .int (nI c)), (2, .int (nI k))]) (st2 := [.int 1, .int (nI (55 + c)), .ref 112]) (w3 := w) rfl rfl ?_
    refine sx_RP.mS (k := (55 + c)) hI hE (by decide) rfl rfl (by omega) (eOK_n (by omega)) (show _ = 15 from rfl) (fun w6 hI7 hE8 hk9 => ?_)
    refine sx_RP.step (pc2 := 28) (ls2 := [(0, .ref 111), (1, .int (nI c)), (2, .int (nI k))]) (st2 := []) (w3 := w6) rfl rfl ?_
    refine sx_RP.ret (r := none) rfl rfl ?_
    exact ⟨rfl, hI7, hE8⟩
end
-- 73.numM.lean.txt
section
-- safety: the text of the reference: number
theorem num_rng {v : Int64} {m n : Nat} (hm : m < 2 ^ 31) (hn : n < 2 ^ 31) (q1 : ¬ lg_cmp v (nI m).toInt64 < 0) (q2 : lg_cmp v (nI n).toInt64 ≤ 0) : ∃ x, (m ≤ x ∧ x ≤ n) ∧ v.toInt32 = nI x := by
  have em : (nI m).toInt64.toInt = (m : Int) := by rw [Int32.toInt_toInt64, nI_toInt hm]
  have en : (nI n).toInt64.toInt = (n : Int) := by rw [Int32.toInt_toInt64, nI_toInt hn]
  have h1 : ¬ v < (nI m).toInt64 := by
    intro z
    apply q1
    have a1 := Int64.lt_iff_toInt_lt.mp z
    have a : ¬ (nI m).toInt64 < v := fun y => by
      have := Int64.lt_iff_toInt_lt.mp y
      omega
    have b : ¬ v = (nI m).toInt64 := fun y => by
      rw [y] at a1
      omega
    unfold lg_cmp
    rw [if_neg a, if_neg b]
    decide
  have h2 : ¬ (nI n).toInt64 < v := by
    intro z
    apply Int32.not_lt.mpr q2
    unfold lg_cmp
    rw [if_pos z]
    decide
  rw [Int64.lt_iff_toInt_lt, em] at h1
  rw [Int64.lt_iff_toInt_lt, en] at h2
  refine ⟨v.toInt.toNat, by omega, ?_⟩
  apply Int32.toInt_inj.mp
  rw [Int64.toInt_toInt32, nI_toInt (by omega), Int.bmod_def]
  split <;> omega
set_option maxRecDepth 20000 in
set_option maxHeartbeats 4000000 in
theorem p223 {xs : Option (List Int32)} {d : Nat} {w : List sx_C} (hI : WI w) (x y : Int64) : ∃ v : Int64, sx_RU xs d 223 0 (lv_args 0 [.long x, .long y]) [] w (some (.long v)) w := by
  have h : sx_RP xs d 223 0 (lv_args 0 [.long x, .long y]) [] w (fun r w2 => (∃ v : Int64, r = some (.long v)) ∧ w2 = w) := by
    refine sx_RP.step (pc2 := 1) (ls2 := [(0, .long x), (2, .long y)]) (st2 := [.long x]) (w3 := w) rfl rfl ?_
    refine sx_RP.step (pc2 := 2) (ls2 := [(0, .long x), (2, .long y)]) (st2 := [.long y, .long x]) (w3 := w) rfl rfl ?_
    refine sx_RP.step (pc2 := 3) (ls2 := [(0, .long x), (2, .long y)]) (st2 := [.int (lg_cmp x y)]) (w3 := w) rfl rfl ?_
    refine sx_RP.br (p1 := 10) (l1 := [(0, .long x), (2, .long y)]) (s1 := []) (v1 := w) (p2 := 6) (l2 := [(0, .long x), (2, .long y)]) (s2 := []) (v2 := w) rfl rfl (fun q1 => ?_) (fun q1 => ?_)
    · replace q1 := of_decide_eq_true q1
      refine sx_RP.step (pc2 := 11) (ls2 := [(0, .long x), (2, .long y)]) (st2 := [.long y]) (w3 := w) rfl rfl ?_
      refine sx_RP.ret (r := (some (.long y))) rfl rfl ?_
      exact ⟨⟨_, rfl⟩, rfl⟩
    · replace q1 := of_decide_eq_false q1
      refine sx_RP.step (pc2 := 7) (ls2 := [(0, .long x), (2, .long y)]) (st2 := [.long x]) (w3 := w) rfl rfl ?_
      refine sx_RP.step (pc2 := 11) (ls2 := [(0, .long x), (2, .long y)]) (st2 := [.long x]) (w3 := w) rfl rfl ?_
      refine sx_RP.ret (r := (some (.long x))) rfl rfl ?_
      exact ⟨⟨_, rfl⟩, rfl⟩
  obtain ⟨r, w2, h1, ⟨v, rfl⟩, rfl⟩ := h
  exact ⟨v, h1⟩
set_option maxRecDepth 20000 in
set_option maxHeartbeats 4000000 in
theorem s220L {xs : Option (List Int32)} {d p : Nat} {w w0 : List sx_C} {m n : Nat} (hm : m < 2 ^ 31) (hn : n < 2 ^ 31) (hI : WI w) (hE : EH w0 w) (ep : fi w 111 12 = nI p) : ∀ (fz j : Nat) (l : Int64), 120 ≤ j + fz → j ≤ 120 → p ≤ j → sx_RP xs (d + 3) 220 38 [(0, .ref 111), (1, .int (nI m)), (2, .int (nI n)), (3, .long l), (5, .int (nI j))] [] w (fun r w2 => (r = some (.int 0) ∨ ∃ v, (m ≤ v ∧ v ≤ n ∧ fi w2 111 14 = nI v) ∧ r = some (.int 1)) ∧ WI w2 ∧ EH w0 w2)
  | fz, j, l, h, hj, hpj => by
    refine sx_RP.step (pc2 := 39) (ls2 := [(0, .ref 111), (1, .int (nI m)), (2, .int (nI n)), (3, .long l), (5, .int (nI j))]) (st2 := [.ref 111]) (w3 := w) rfl rfl ?_
    refine sx_RP.step (pc2 := 41) (ls2 := [(0, .ref 111), (1, .int (nI m)), (2, .int (nI n)), (3, .long l), (5, .int (nI j))]) (st2 := [.int (nI j), .ref 111]) (w3 := w) rfl rfl ?_
    rcases p216 (xs := xs) (a := j) hI (by omega) with c1 | ⟨hx2, v3, c1⟩
    · refine sx_RP.cu (as := [.ref 111, .int (nI j)]) (rest2 := []) (st3 := [.int (-1)]) rfl rfl (sx_inv_v2 (mi := 220) (k := 215) (st := [.int (nI j), .ref 111]) (w := w) rfl rfl hI.1.o111 rfl rfl rfl) rfl rfl (c1) rfl ?_
      refine sx_RP.cu (as := [.int (-1)]) (rest2 := []) (st3 := [.int 0]) rfl rfl rfl rfl rfl (cx_221n (by decide)) rfl ?_
      refine sx_RP.step (pc2 := 80) (ls2 := [(0, .ref 111), (1, .int (nI m)), (2, .int (nI n)), (3, .long l), (5, .int (nI j))]) (st2 := []) (w3 := w) rfl rfl ?_
      refine sx_RP.step (pc2 := 81) (ls2 := [(0, .ref 111), (1, .int (nI m)), (2, .int (nI n)), (3, .long l), (5, .int (nI j))]) (st2 := [.long l]) (w3 := w) rfl rfl ?_
      refine sx_RP.step (pc2 := 82) (ls2 := [(0, .ref 111), (1, .int (nI m)), (2, .int (nI n)), (3, .long l), (5, .int (nI j))]) (st2 := [.int (nI m), .long l]) (w3 := w) rfl rfl ?_
      refine sx_RP.step (pc2 := 83) (ls2 := [(0, .ref 111), (1, .int (nI m)), (2, .int (nI n)), (3, .long l), (5, .int (nI j))]) (st2 := [.long ((nI m).toInt64), .long l]) (w3 := w) rfl rfl ?_
      refine sx_RP.step (pc2 := 84) (ls2 := [(0, .ref 111), (1, .int (nI m)), (2, .int (nI n)), (3, .long l), (5, .int (nI j))]) (st2 := [.int (lg_cmp l ((nI m).toInt64))]) (w3 := w) rfl rfl ?_
      refine sx_RP.br (p1 := 94) (l1 := [(0, .ref 111), (1, .int (nI m)), (2, .int (nI n)), (3, .long l), (5, .int (nI j))]) (s1 := []) (v1 := w) (p2 := 87) (l2 := [(0, .ref 111), (1, .int (nI m)), (2, .int (nI n)), (3, .long l), (5, .int (nI j))]) (s2 := []) (v2 := w) rfl rfl (fun q4 => ?_) (fun q4 => ?_)
      · replace q4 := of_decide_eq_true q4
        refine sx_RP.step (pc2 := 95) (ls2 := [(0, .ref 111), (1, .int (nI m)), (2, .int (nI n)), (3, .long l), (5, .int (nI j))]) (st2 := [.ref 111]) (w3 := w) rfl rfl ?_
        refine sx_RP.callp (as2 := [.ref 111]) (rest2 := []) rfl rfl (sx_inv_v2 (mi := 220) (k := 245) (st := [.ref 111]) (w := w) rfl rfl hI.1.o111 rfl rfl rfl) rfl rfl rfl (s222 hI) (show _ = 98 from rfl) ?_
        rintro r4 w5 ⟨rfl, hI6, hE8⟩
        have hE7 := hE.tr (hE8)
        show sx_RP _ _ _ _ _ [.int 0] _ _
        refine sx_RP.ret (r := (some (.int 0))) rfl rfl ?_
        exact ⟨Or.inl rfl, hI6, hE7⟩
      · replace q4 := of_decide_eq_false q4
        refine sx_RP.step (pc2 := 88) (ls2 := [(0, .ref 111), (1, .int (nI m)), (2, .int (nI n)), (3, .long l), (5, .int (nI j))]) (st2 := [.long l]) (w3 := w) rfl rfl ?_
        refine sx_RP.step (pc2 := 89) (ls2 := [(0, .ref 111), (1, .int (nI m)), (2, .int (nI n)), (3, .long l), (5, .int (nI j))]) (st2 := [.int (nI n), .long l]) (w3 := w) rfl rfl ?_
        refine sx_RP.step (pc2 := 90) (ls2 := [(0, .ref 111), (1, .int (nI m)), (2, .int (nI n)), (3, .long l), (5, .int (nI j))]) (st2 := [.long ((nI n).toInt64), .long l]) (w3 := w) rfl rfl ?_
        refine sx_RP.step (pc2 := 91) (ls2 := [(0, .ref 111), (1, .int (nI m)), (2, .int (nI n)), (3, .long l), (5, .int (nI j))]) (st2 := [.int (lg_cmp l ((nI n).toInt64))]) (w3 := w) rfl rfl ?_
        refine sx_RP.br (p1 := 99) (l1 := [(0, .ref 111), (1, .int (nI m)), (2, .int (nI n)), (3, .long l), (5, .int (nI j))]) (s1 := []) (v1 := w) (p2 := 94) (l2 := [(0, .ref 111), (1, .int (nI m)), (2, .int (nI n)), (3, .long l), (5, .int (nI j))]) (s2 := []) (v2 := w) rfl rfl (fun q9 => ?_) (fun q9 => ?_)
        · replace q9 := of_decide_eq_true q9
          refine sx_RP.step (pc2 := 100) (ls2 := [(0, .ref 111), (1, .int (nI m)), (2, .int (nI n)), (3, .long l), (5, .int (nI j))]) (st2 := [.ref 111]) (w3 := w) rfl rfl ?_
          refine sx_RP.step (pc2 := 102) (ls2 := [(0, .ref 111), (1, .int (nI m)), (2, .int (nI n)), (3, .long l), (5, .int (nI j))]) (st2 := [.int (nI j), .ref 111]) (w3 := w) rfl rfl ?_
          refine sx_RP.pmH (k := 12) hI hE rfl rfl (by decide) rfl (inR.n (show j ≤ 120 by omega)) (fun _ => hr_le ep (by omega) (by omega) (by omega)) (show _ = 105 from rfl) (fun w10 hI11 hE12 ht13 ht14 ht15 => ?_)
          refine sx_RP.step (pc2 := 106) (ls2 := [(0, .ref 111), (1, .int (nI m)), (2, .int (nI n)), (3, .long l), (5, .int (nI j))]) (st2 := [.ref 111]) (w3 := w10) rfl rfl ?_
          refine sx_RP.step (pc2 := 107) (ls2 := [(0, .ref 111), (1, .int (nI m)), (2, .int (nI n)), (3, .long l), (5, .int (nI j))]) (st2 := [.long l, .ref 111]) (w3 := w10) rfl rfl ?_
          refine sx_RP.step (pc2 := 108) (ls2 := [(0, .ref 111), (1, .int (nI m)), (2, .int (nI n)), (3, .long l), (5, .int (nI j))]) (st2 := [.int l.toInt32, .ref 111]) (w3 := w10) rfl rfl ?_
          obtain ⟨x16, hx17, ex18⟩ := num_rng hm hn q4 q9
          rw [ex18]
          refine sx_RP.pmH (k := 14) hI11 hE12 rfl rfl (by decide) rfl trivial (fun z => absurd z (by decide)) (show _ = 111 from rfl) (fun w19 hI20 hE21 ht22 ht23 ht24 => ?_)
          have ex25 := (ht23 12 (by decide)).trans ht13
          refine sx_RP.step (pc2 := 112) (ls2 := [(0, .ref 111), (1, .int (nI m)), (2, .int (nI n)), (3, .long l), (5, .int (nI j))]) (st2 := [.int 1]) (w3 := w19) rfl rfl ?_
          refine sx_RP.ret (r := (some (.int 1))) rfl rfl ?_
          exact ⟨Or.inr ⟨x16, ⟨by omega, by omega, ht22⟩, rfl⟩, hI20, hE21⟩
        · replace q9 := of_decide_eq_false q9
          refine sx_RP.step (pc2 := 95) (ls2 := [(0, .ref 111), (1, .int (nI m)), (2, .int (nI n)), (3, .long l), (5, .int (nI j))]) (st2 := [.ref 111]) (w3 := w) rfl rfl ?_
          refine sx_RP.callp (as2 := [.ref 111]) (rest2 := []) rfl rfl (sx_inv_v2 (mi := 220) (k := 245) (st := [.ref 111]) (w := w) rfl rfl hI.1.o111 rfl rfl rfl) rfl rfl rfl (s222 hI) (show _ = 98 from rfl) ?_
          rintro r4 w26 ⟨rfl, hI27, hE29⟩
          have hE28 := hE.tr (hE29)
          show sx_RP _ _ _ _ _ [.int 0] _ _
          refine sx_RP.ret (r := (some (.int 0))) rfl rfl ?_
          exact ⟨Or.inl rfl, hI27, hE28⟩
    · refine sx_RP.cu (as := [.ref 111, .int (nI j)]) (rest2 := []) (st3 := [.int v3]) rfl rfl (sx_inv_v2 (mi := 220) (k := 215) (st := [.int (nI j), .ref 111]) (w := w) rfl rfl hI.1.o111 rfl rfl rfl) rfl rfl (c1) rfl ?_
      rcases in_cases v3 48 57 (m := 48) (n := 57) rfl rfl (by decide) (by decide) with q30 | ⟨x31, hx32, hx33, rfl⟩
      · refine sx_RP.cu (as := [.int v3]) (rest2 := []) (st3 := [.int 0]) rfl rfl rfl rfl rfl (cx_221n q30) rfl ?_
        refine sx_RP.step (pc2 := 80) (ls2 := [(0, .ref 111), (1, .int (nI m)), (2, .int (nI n)), (3, .long l), (5, .int (nI j))]) (st2 := []) (w3 := w) rfl rfl ?_
        refine sx_RP.step (pc2 := 81) (ls2 := [(0, .ref 111), (1, .int (nI m)), (2, .int (nI n)), (3, .long l), (5, .int (nI j))]) (st2 := [.long l]) (w3 := w) rfl rfl ?_
        refine sx_RP.step (pc2 := 82) (ls2 := [(0, .ref 111), (1, .int (nI m)), (2, .int (nI n)), (3, .long l), (5, .int (nI j))]) (st2 := [.int (nI m), .long l]) (w3 := w) rfl rfl ?_
        refine sx_RP.step (pc2 := 83) (ls2 := [(0, .ref 111), (1, .int (nI m)), (2, .int (nI n)), (3, .long l), (5, .int (nI j))]) (st2 := [.long ((nI m).toInt64), .long l]) (w3 := w) rfl rfl ?_
        refine sx_RP.step (pc2 := 84) (ls2 := [(0, .ref 111), (1, .int (nI m)), (2, .int (nI n)), (3, .long l), (5, .int (nI j))]) (st2 := [.int (lg_cmp l ((nI m).toInt64))]) (w3 := w) rfl rfl ?_
        refine sx_RP.br (p1 := 94) (l1 := [(0, .ref 111), (1, .int (nI m)), (2, .int (nI n)), (3, .long l), (5, .int (nI j))]) (s1 := []) (v1 := w) (p2 := 87) (l2 := [(0, .ref 111), (1, .int (nI m)), (2, .int (nI n)), (3, .long l), (5, .int (nI j))]) (s2 := []) (v2 := w) rfl rfl (fun q35 => ?_) (fun q35 => ?_)
        · replace q35 := of_decide_eq_true q35
          refine sx_RP.step (pc2 := 95) (ls2 := [(0, .ref 111), (1, .int (nI m)), (2, .int (nI n)), (3, .long l), (5, .int (nI j))]) (st2 := [.ref 111]) (w3 := w) rfl rfl ?_
          refine sx_RP.callp (as2 := [.ref 111]) (rest2 := []) rfl rfl (sx_inv_v2 (mi := 220) (k := 245) (st := [.ref 111]) (w := w) rfl rfl hI.1.o111 rfl rfl rfl) rfl rfl rfl (s222 hI) (show _ = 98 from rfl) ?_
          rintro r4 w36 ⟨rfl, hI37, hE39⟩
          have hE38 := hE.tr (hE39)
          show sx_RP _ _ _ _ _ [.int 0] _ _
          refine sx_RP.ret (r := (some (.int 0))) rfl rfl ?_
          exact ⟨Or.inl rfl, hI37, hE38⟩
        · replace q35 := of_decide_eq_false q35
          refine sx_RP.step (pc2 := 88) (ls2 := [(0, .ref 111), (1, .int (nI m)), (2, .int (nI n)), (3, .long l), (5, .int (nI j))]) (st2 := [.long l]) (w3 := w) rfl rfl ?_
          refine sx_RP.step (pc2 := 89) (ls2 := [(0, .ref 111), (1, .int (nI m)), (2, .int (nI n)), (3, .long l), (5, .int (nI j))]) (st2 := [.int (nI n), .long l]) (w3 := w) rfl rfl ?_
          refine sx_RP.step (pc2 := 90) (ls2 := [(0, .ref 111), (1, .int (nI m)), (2, .int (nI n)), (3, .long l), (5, .int (nI j))]) (st2 := [.long ((nI n).toInt64), .long l]) (w3 := w) rfl rfl ?_
          refine sx_RP.step (pc2 := 91) (ls2 := [(0, .ref 111), (1, .int (nI m)), (2, .int (nI n)), (3, .long l), (5, .int (nI j))]) (st2 := [.int (lg_cmp l ((nI n).toInt64))]) (w3 := w) rfl rfl ?_
          refine sx_RP.br (p1 := 99) (l1 := [(0, .ref 111), (1, .int (nI m)), (2, .int (nI n)), (3, .long l), (5, .int (nI j))]) (s1 := []) (v1 := w) (p2 := 94) (l2 := [(0, .ref 111), (1, .int (nI m)), (2, .int (nI n)), (3, .long l), (5, .int (nI j))]) (s2 := []) (v2 := w) rfl rfl (fun q40 => ?_) (fun q40 => ?_)
          · replace q40 := of_decide_eq_true q40
            refine sx_RP.step (pc2 := 100) (ls2 := [(0, .ref 111), (1, .int (nI m)), (2, .int (nI n)), (3, .long l), (5, .int (nI j))]) (st2 := [.ref 111]) (w3 := w) rfl rfl ?_
            refine sx_RP.step (pc2 := 102) (ls2 := [(0, .ref 111), (1, .int (nI m)), (2, .int (nI n)), (3, .long l), (5, .int (nI j))]) (st2 := [.int (nI j), .ref 111]) (w3 := w) rfl rfl ?_
            refine sx_RP.pmH (k := 12) hI hE rfl rfl (by decide) rfl (inR.n (show j ≤ 120 by omega)) (fun _ => hr_le ep (by omega) (by omega) (by omega)) (show _ = 105 from rfl) (fun w41 hI42 hE43 ht44 ht45 ht46 => ?_)
            refine sx_RP.step (pc2 := 106) (ls2 := [(0, .ref 111), (1, .int (nI m)), (2, .int (nI n)), (3, .long l), (5, .int (nI j))]) (st2 := [.ref 111]) (w3 := w41) rfl rfl ?_
            refine sx_RP.step (pc2 := 107) (ls2 := [(0, .ref 111), (1, .int (nI m)), (2, .int (nI n)), (3, .long l), (5, .int (nI j))]) (st2 := [.long l, .ref 111]) (w3 := w41) rfl rfl ?_
            refine sx_RP.step (pc2 := 108) (ls2 := [(0, .ref 111), (1, .int (nI m)), (2, .int (nI n)), (3, .long l), (5, .int (nI j))]) (st2 := [.int l.toInt32, .ref 111]) (w3 := w41) rfl rfl ?_
            obtain ⟨x47, hx48, ex49⟩ := num_rng hm hn q35 q40
            rw [ex49]
            refine sx_RP.pmH (k := 14) hI42 hE43 rfl rfl (by decide) rfl trivial (fun z => absurd z (by decide)) (show _ = 111 from rfl) (fun w50 hI51 hE52 ht53 ht54 ht55 => ?_)
            have ex56 := (ht54 12 (by decide)).trans ht44
            refine sx_RP.step (pc2 := 112) (ls2 := [(0, .ref 111), (1, .int (nI m)), (2, .int (nI n)), (3, .long l), (5, .int (nI j))]) (st2 := [.int 1]) (w3 := w50) rfl rfl ?_
            refine sx_RP.ret (r := (some (.int 1))) rfl rfl ?_
            exact ⟨Or.inr ⟨x47, ⟨by omega, by omega, ht53⟩, rfl⟩, hI51, hE52⟩
          · replace q40 := of_decide_eq_false q40
            refine sx_RP.step (pc2 := 95) (ls2 := [(0, .ref 111), (1, .int (nI m)), (2, .int (nI n)), (3, .long l), (5, .int (nI j))]) (st2 := [.ref 111]) (w3 := w) rfl rfl ?_
            refine sx_RP.callp (as2 := [.ref 111]) (rest2 := []) rfl rfl (sx_inv_v2 (mi := 220) (k := 245) (st := [.ref 111]) (w := w) rfl rfl hI.1.o111 rfl rfl rfl) rfl rfl rfl (s222 hI) (show _ = 98 from rfl) ?_
            rintro r4 w57 ⟨rfl, hI58, hE60⟩
            have hE59 := hE.tr (hE60)
            show sx_RP _ _ _ _ _ [.int 0] _ _
            refine sx_RP.ret (r := (some (.int 0))) rfl rfl ?_
            exact ⟨Or.inl rfl, hI58, hE59⟩
      · refine sx_RP.cu (as := [.int (nI x31)]) (rest2 := []) (st3 := [.int 1]) rfl rfl rfl rfl rfl (cx_221p ⟨nI_le (a := 48) hx32 (by omega), nI_le (b := 57) hx33 (by decide)⟩) rfl ?_
        refine sx_RP.step (pc2 := 50) (ls2 := [(0, .ref 111), (1, .int (nI m)), (2, .int (nI n)), (3, .long l), (5, .int (nI j))]) (st2 := []) (w3 := w) rfl rfl ?_
        refine sx_RP.step (pc2 := 53) (ls2 := [(0, .ref 111), (1, .int (nI m)), (2, .int (nI n)), (3, .long l), (5, .int (nI j))]) (st2 := [.long 9999999]) (w3 := w) rfl rfl ?_
        refine sx_RP.step (pc2 := 56) (ls2 := [(0, .ref 111), (1, .int (nI m)), (2, .int (nI n)), (3, .long l), (5, .int (nI j))]) (st2 := [.long 10, .long 9999999]) (w3 := w) rfl rfl ?_
        refine sx_RP.step (pc2 := 57) (ls2 := [(0, .ref 111), (1, .int (nI m)), (2, .int (nI n)), (3, .long l), (5, .int (nI j))]) (st2 := [.long l, .long 10, .long 9999999]) (w3 := w) rfl rfl ?_
        refine sx_RP.step (pc2 := 58) (ls2 := [(0, .ref 111), (1, .int (nI m)), (2, .int (nI n)), (3, .long l), (5, .int (nI j))]) (st2 := [.long (10 * l), .long 9999999]) (w3 := w) rfl rfl ?_
        refine sx_RP.step (pc2 := 59) (ls2 := [(0, .ref 111), (1, .int (nI m)), (2, .int (nI n)), (3, .long l), (5, .int (nI j))]) (st2 := [.ref 111, .long (10 * l), .long 9999999]) (w3 := w) rfl rfl ?_
        refine sx_RP.step (pc2 := 61) (ls2 := [(0, .ref 111), (1, .int (nI m)), (2, .int (nI n)), (3, .long l), (5, .int (nI j))]) (st2 := [.int (nI j), .ref 111, .long (10 * l), .long 9999999]) (w3 := w) rfl rfl ?_
        rcases p216 (xs := xs) (a := j) hI (by omega) with c61 | ⟨hx62, v63, c61⟩
        · refine sx_RP.cu (as := [.ref 111, .int (nI j)]) (rest2 := [.long (10 * l), .long 9999999]) (st3 := [.int (-1), .long (10 * l), .long 9999999]) rfl rfl (sx_inv_v2 (mi := 220) (k := 215) (st := [.int (nI j), .ref 111, .long (10 * l), .long 9999999]) (w := w) rfl rfl hI.1.o111 rfl rfl rfl) rfl rfl (c61) rfl ?_
          refine sx_RP.step (pc2 := 65) (ls2 := [(0, .ref 111), (1, .int (nI m)), (2, .int (nI n)), (3, .long l), (5, .int (nI j))]) (st2 := [.long (-1), .long (10 * l), .long 9999999]) (w3 := w) rfl rfl ?_
          refine sx_RP.step (pc2 := 66) (ls2 := [(0, .ref 111), (1, .int (nI m)), (2, .int (nI n)), (3, .long l), (5, .int (nI j))]) (st2 := [.long ((10 * l) + (-1)), .long 9999999]) (w3 := w) rfl rfl ?_
          refine sx_RP.step (pc2 := 69) (ls2 := [(0, .ref 111), (1, .int (nI m)), (2, .int (nI n)), (3, .long l), (5, .int (nI j))]) (st2 := [.long 48, .long ((10 * l) + (-1)), .long 9999999]) (w3 := w) rfl rfl ?_
          refine sx_RP.step (pc2 := 70) (ls2 := [(0, .ref 111), (1, .int (nI m)), (2, .int (nI n)), (3, .long l), (5, .int (nI j))]) (st2 := [.long (((10 * l) + (-1)) - 48), .long 9999999]) (w3 := w) rfl rfl ?_
          obtain ⟨v64, c65⟩ := p223 hI 9999999 (((10 * l) + (-1)) - 48)
          refine sx_RP.cu (as := [.long 9999999, .long (((10 * l) + (-1)) - 48)]) (rest2 := []) (st3 := [.long v64]) rfl rfl rfl rfl rfl (c65) rfl ?_
          refine sx_RP.step (pc2 := 74) (ls2 := [(3, .long v64), (0, .ref 111), (1, .int (nI m)), (2, .int (nI n)), (5, .int (nI j))]) (st2 := []) (w3 := w) rfl rfl ?_
          refine sx_RP.step (pc2 := 77) (ls2 := [(5, .int ((nI j) + 1)), (3, .long v64), (0, .ref 111), (1, .int (nI m)), (2, .int (nI n))]) (st2 := []) (w3 := w) rfl rfl ?_
          rw [nI_1 j]
          refine sx_RP.step (pc2 := 38) (ls2 := [(5, .int (nI (j + 1))), (3, .long v64), (0, .ref 111), (1, .int (nI m)), (2, .int (nI n))]) (st2 := []) (w3 := w) rfl rfl ?_
          match fz, h with
          | 0, h => exact absurd h (by omega)
          | fz + 1, h => exact sx_RP.ls (sx_lr.cons rfl (sx_lr.cons rfl (sx_lr.cons rfl (sx_lr.cons rfl (sx_lr.cons rfl sx_lr.nil))))) (s220L hm hn hI hE ep fz (j + 1) v64 (by omega) (by omega) (by omega))
        · refine sx_RP.cu (as := [.ref 111, .int (nI j)]) (rest2 := [.long (10 * l), .long 9999999]) (st3 := [.int v63, .long (10 * l), .long 9999999]) rfl rfl (sx_inv_v2 (mi := 220) (k := 215) (st := [.int (nI j), .ref 111, .long (10 * l), .long 9999999]) (w := w) rfl rfl hI.1.o111 rfl rfl rfl) rfl rfl (c61) rfl ?_
          refine sx_RP.step (pc2 := 65) (ls2 := [(0, .ref 111), (1, .int (nI m)), (2, .int (nI n)), (3, .long l), (5, .int (nI j))]) (st2 := [.long v63.toInt64, .long (10 * l), .long 9999999]) (w3 := w) rfl rfl ?_
          refine sx_RP.step (pc2 := 66) (ls2 := [(0, .ref 111), (1, .int (nI m)), (2, .int (nI n)), (3, .long l), (5, .int (nI j))]) (st2 := [.long ((10 * l) + v63.toInt64), .long 9999999]) (w3 := w) rfl rfl ?_
          refine sx_RP.step (pc2 := 69) (ls2 := [(0, .ref 111), (1, .int (nI m)), (2, .int (nI n)), (3, .long l), (5, .int (nI j))]) (st2 := [.long 48, .long ((10 * l) + v63.toInt64), .long 9999999]) (w3 := w) rfl rfl ?_
          refine sx_RP.step (pc2 := 70) (ls2 := [(0, .ref 111), (1, .int (nI m)), (2, .int (nI n)), (3, .long l), (5, .int (nI j))]) (st2 := [.long (((10 * l) + v63.toInt64) - 48), .long 9999999]) (w3 := w) rfl rfl ?_
          obtain ⟨v66, c67⟩ := p223 hI 9999999 (((10 * l) + v63.toInt64) - 48)
          refine sx_RP.cu (as := [.long 9999999, .long (((10 * l) + v63.toInt64) - 48)]) (rest2 := []) (st3 := [.long v66]) rfl rfl rfl rfl rfl (c67) rfl ?_
          refine sx_RP.step (pc2 := 74) (ls2 := [(3, .long v66), (0, .ref 111), (1, .int (nI m)), (2, .int (nI n)), (5, .int (nI j))]) (st2 := []) (w3 := w) rfl rfl ?_
          refine sx_RP.step (pc2 := 77) (ls2 := [(5, .int ((nI j) + 1)), (3, .long v66), (0, .ref 111), (1, .int (nI m)), (2, .int (nI n))]) (st2 := []) (w3 := w) rfl rfl ?_
          rw [nI_1 j]
          refine sx_RP.step (pc2 := 38) (ls2 := [(5, .int (nI (j + 1))), (3, .long v66), (0, .ref 111), (1, .int (nI m)), (2, .int (nI n))]) (st2 := []) (w3 := w) rfl rfl ?_
          match fz, h with
          | 0, h => exact absurd h (by omega)
          | fz + 1, h => exact sx_RP.ls (sx_lr.cons rfl (sx_lr.cons rfl (sx_lr.cons rfl (sx_lr.cons rfl (sx_lr.cons rfl sx_lr.nil))))) (s220L hm hn hI hE ep fz (j + 1) v66 (by omega) (by omega) (by omega))
set_option maxRecDepth 20000 in
set_option maxHeartbeats 4000000 in
theorem s220 {xs : Option (List Int32)} {d : Nat} {w : List sx_C} (hI : WI w) {m n : Nat} (hm : m < 2 ^ 31) (hn : n < 2 ^ 31) : sx_RP xs (d + 3) 220 0 (lv_args 0 [.ref 111, .int (nI m), .int (nI n)]) [] w (fun r w2 => (r = some (.int 0) ∨ ∃ v, (m ≤ v ∧ v ≤ n ∧ fi w2 111 14 = nI v) ∧ r = some (.int 1)) ∧ WI w2 ∧ EH w w2) := by
  have hE : EH w w := EH.rf
  refine sx_RP.step (pc2 := 1) (ls2 := [(0, .ref 111), (1, .int (nI m)), (2, .int (nI n))]) (st2 := [.ref 111]) (w3 := w) rfl rfl ?_
  refine sx_RP.callp (as2 := [.ref 111]) (rest2 := []) rfl rfl (sx_inv_v2 (mi := 220) (k := 224) (st := [.ref 111]) (w := w) rfl rfl hI.1.o111 rfl rfl rfl) rfl rfl rfl (s215 hI) (show _ = 4 from rfl) ?_
  rintro r4 w1 ⟨⟨rfl, _⟩, hI2, hE4⟩
  have hE3 := hE.tr (hE4)
  show sx_RP _ _ _ _ _ [] _ _
  refine sx_RP.step (pc2 := 5) (ls2 := [(0, .ref 111), (1, .int (nI m)), (2, .int (nI n))]) (st2 := [.ref 111]) (w3 := w1) rfl rfl ?_
  refine sx_RP.gf (v := .int (fi w1 111 13)) rfl rfl hI2.1.o111 rfl rfl (show _ = 8 from rfl) ?_
  refine sx_RP.br (p1 := 25) (l1 := [(0, .ref 111), (1, .int (nI m)), (2, .int (nI n))]) (s1 := []) (v1 := w1) (p2 := 11) (l2 := [(0, .ref 111), (1, .int (nI m)), (2, .int (nI n))]) (s2 := []) (v2 := w1) rfl rfl (fun q5 => ?_) (fun q5 => ?_)
  · replace q5 := of_decide_eq_true q5
    refine sx_RP.step (pc2 := 26) (ls2 := [(0, .ref 111), (1, .int (nI m)), (2, .int (nI n))]) (st2 := [.ref 111]) (w3 := w1) rfl rfl ?_
    refine sx_RP.callp (as2 := [.ref 111]) (rest2 := []) rfl rfl (sx_inv_v2 (mi := 220) (k := 245) (st := [.ref 111]) (w := w1) rfl rfl hI2.1.o111 rfl rfl rfl) rfl rfl rfl (s222 hI2) (show _ = 29 from rfl) ?_
    rintro r4 w6 ⟨rfl, hI7, hE9⟩
    have hE8 := hE3.tr (hE9)
    show sx_RP _ _ _ _ _ [.int 0] _ _
    refine sx_RP.ret (r := (some (.int 0))) rfl rfl ?_
    exact ⟨Or.inl rfl, hI7, hE8⟩
  · replace q5 := of_decide_eq_false q5
    refine sx_RP.step (pc2 := 12) (ls2 := [(0, .ref 111), (1, .int (nI m)), (2, .int (nI n))]) (st2 := [.ref 111]) (w3 := w1) rfl rfl ?_
    refine sx_RP.step (pc2 := 13) (ls2 := [(0, .ref 111), (1, .int (nI m)), (2, .int (nI n))]) (st2 := [.ref 111, .ref 111]) (w3 := w1) rfl rfl ?_
    refine sx_RP.gf (v := .int (fi w1 111 12)) rfl rfl hI2.1.o111 rfl rfl (show _ = 16 from rfl) ?_
    obtain ⟨x10, hx11, ex12⟩ : inR (fi w1 111 12) 120 := hI2.m.2.2
    rw [ex12]
    rcases p216 (xs := xs) (a := x10) hI2 (by omega) with c13 | ⟨hx14, v15, c13⟩
    · refine sx_RP.cu (as := [.ref 111, .int (nI x10)]) (rest2 := []) (st3 := [.int (-1)]) rfl rfl (sx_inv_v2 (mi := 220) (k := 215) (st := [.int (nI x10), .ref 111]) (w := w1) rfl rfl hI2.1.o111 rfl rfl rfl) rfl rfl (c13) rfl ?_
      refine sx_RP.cu (as := [.int (-1)]) (rest2 := []) (st3 := [.int 0]) rfl rfl rfl rfl rfl (cx_221n (by decide)) rfl ?_
      refine sx_RP.step (pc2 := 25) (ls2 := [(0, .ref 111), (1, .int (nI m)), (2, .int (nI n))]) (st2 := []) (w3 := w1) rfl rfl ?_
      refine sx_RP.step (pc2 := 26) (ls2 := [(0, .ref 111), (1, .int (nI m)), (2, .int (nI n))]) (st2 := [.ref 111]) (w3 := w1) rfl rfl ?_
      refine sx_RP.callp (as2 := [.ref 111]) (rest2 := []) rfl rfl (sx_inv_v2 (mi := 220) (k := 245) (st := [.ref 111]) (w := w1) rfl rfl hI2.1.o111 rfl rfl rfl) rfl rfl rfl (s222 hI2) (show _ = 29 from rfl) ?_
      rintro r4 w16 ⟨rfl, hI17, hE19⟩
      have hE18 := hE3.tr (hE19)
      show sx_RP _ _ _ _ _ [.int 0] _ _
      refine sx_RP.ret (r := (some (.int 0))) rfl rfl ?_
      exact ⟨Or.inl rfl, hI17, hE18⟩
    · refine sx_RP.cu (as := [.ref 111, .int (nI x10)]) (rest2 := []) (st3 := [.int v15]) rfl rfl (sx_inv_v2 (mi := 220) (k := 215) (st := [.int (nI x10), .ref 111]) (w := w1) rfl rfl hI2.1.o111 rfl rfl rfl) rfl rfl (c13) rfl ?_
      rcases in_cases v15 48 57 (m := 48) (n := 57) rfl rfl (by decide) (by decide) with q20 | ⟨x21, hx22, hx23, rfl⟩
      · refine sx_RP.cu (as := [.int v15]) (rest2 := []) (st3 := [.int 0]) rfl rfl rfl rfl rfl (cx_221n q20) rfl ?_
        refine sx_RP.step (pc2 := 25) (ls2 := [(0, .ref 111), (1, .int (nI m)), (2, .int (nI n))]) (st2 := []) (w3 := w1) rfl rfl ?_
        refine sx_RP.step (pc2 := 26) (ls2 := [(0, .ref 111), (1, .int (nI m)), (2, .int (nI n))]) (st2 := [.ref 111]) (w3 := w1) rfl rfl ?_
        refine sx_RP.callp (as2 := [.ref 111]) (rest2 := []) rfl rfl (sx_inv_v2 (mi := 220) (k := 245) (st := [.ref 111]) (w := w1) rfl rfl hI2.1.o111 rfl rfl rfl) rfl rfl rfl (s222 hI2) (show _ = 29 from rfl) ?_
        rintro r4 w25 ⟨rfl, hI26, hE28⟩
        have hE27 := hE3.tr (hE28)
        show sx_RP _ _ _ _ _ [.int 0] _ _
        refine sx_RP.ret (r := (some (.int 0))) rfl rfl ?_
        exact ⟨Or.inl rfl, hI26, hE27⟩
      · refine sx_RP.cu (as := [.int (nI x21)]) (rest2 := []) (st3 := [.int 1]) rfl rfl rfl rfl rfl (cx_221p ⟨nI_le (a := 48) hx22 (by omega), nI_le (b := 57) hx23 (by decide)⟩) rfl ?_
        refine sx_RP.step (pc2 := 30) (ls2 := [(0, .ref 111), (1, .int (nI m)), (2, .int (nI n))]) (st2 := []) (w3 := w1) rfl rfl ?_
        refine sx_RP.step (pc2 := 31) (ls2 := [(0, .ref 111), (1, .int (nI m)), (2, .int (nI n))]) (st2 := [.long 0]) (w3 := w1) rfl rfl ?_
        refine sx_RP.step (pc2 := 32) (ls2 := [(3, .long 0), (0, .ref 111), (1, .int (nI m)), (2, .int (nI n))]) (st2 := []) (w3 := w1) rfl rfl ?_
        refine sx_RP.step (pc2 := 33) (ls2 := [(3, .long 0), (0, .ref 111), (1, .int (nI m)), (2, .int (nI n))]) (st2 := [.ref 111]) (w3 := w1) rfl rfl ?_
        refine sx_RP.gf (v := .int (fi w1 111 12)) rfl rfl hI2.1.o111 rfl rfl (show _ = 36 from rfl) ?_
        rw [ex12]
        refine sx_RP.step (pc2 := 38) (ls2 := [(5, .int (nI x10)), (3, .long 0), (0, .ref 111), (1, .int (nI m)), (2, .int (nI n))]) (st2 := []) (w3 := w1) rfl rfl ?_
        exact sx_RP.ls (sx_lr.cons rfl (sx_lr.cons rfl (sx_lr.cons rfl (sx_lr.cons rfl (sx_lr.cons rfl sx_lr.nil))))) (s220L hm hn hI2 hE3 ex12 120 x10 0 (by omega) (by omega) (by omega))
end
-- 74.cellsM.lean.txt
section
-- safety: the text of the reference: cells
/-- as EM, and here not farther back -/
def EI (w w2 : List sx_C) : Prop := EM w w2 ∧ (fi w 111 12).toInt ≤ (fi w2 111 12).toInt
theorem EI.rf {w : List sx_C} : EI w w := ⟨EM.rf, Int.le_refl _⟩
theorem EI.tr {w w1 w2 : List sx_C} (h : EI w w1) (h2 : EI w1 w2) : EI w w2 := ⟨h.1.tr h2.1, Int.le_trans h.2 h2.2⟩
theorem EH.ei {w w2 : List sx_C} (h : EH w w2) : EI w w2 := ⟨h.em, h.2.2⟩
theorem EI.set {w0 w : List sx_C} {a : Nat} {c c2 : sx_C} (h : EI w0 w) (hw : w[a]? = some c) (ha : 112 ≤ a) (hk : kp a c2 = kp a c) : EI w0 (w.set a c2) := ⟨h.1.set hw (by omega) hk, by rw [fi_ne (by omega)]; exact h.2⟩
theorem sx_RP.mSI {xs : Option (List Int32)} {d mi pc pc2 a : Nat} {ls : sx_L} {r : List Value} {w w0 : List sx_C} {P : Option Value → List sx_C → Prop} {i x : Int32} {k : Nat} (hI : WI w) (hE : EI w0 w) (ha : 112 ≤ a ∧ a ≤ 115) (hi : sx_ins mi pc = some (.iastore, 1)) (hx : i = nI k) (hk : k < 172) (hv : eOK k x) (hp : pc + 1 = pc2) (kk : ∀ w2, WI w2 → EI w0 w2 → (∀ j, j < 172 → j ≠ k → (ia w2 112).getD j 0 = (ia w 112).getD j 0) → sx_RP xs d mi pc2 ls r w2 P) : sx_RP xs d mi pc ls (.int x :: .int i :: .ref a :: r) w P := by
  subst hx
  have hw := hI.1.aM ha
  refine sx_RP.ist (c := k) hi hw.1 hw.2 (sx_in_nI hk (by decide)) (nI_clamp (by omega)) rfl hp (kk _ (hI.set hw.1 sh_set (cOK.s ha ((hI.sA ha).set hw.2 hk hv))) (hE.set hw.1 (by omega) (kp_n (by omega))) ?_)
  intro j hj hne
  by_cases e : a = 112
  · subst e
    rw [ia_set hw.1, List.getD_eq_getElem?_getD, List.getElem?_set_ne (Ne.symm hne), ← List.getD_eq_getElem?_getD]
  · rw [ia_ne (Ne.symm e)]
theorem sx_RP.mSkI {xs : Option (List Int32)} {d mi pc pc2 : Nat} {ls : sx_L} {r : List Value} {w w0 : List sx_C} {P : Option Value → List sx_C → Prop} {i x : Int32} {k : Nat} (hI : WI w) (hE : EI w0 w) (hi : sx_ins mi pc = some (.iastore, 1)) (hx : i = nI k) (hk : k < 172) (hv : eOK k x) (hp : pc + 1 = pc2) (kk : ∀ w2, WI w2 → EI w0 w2 → fi w2 111 14 = fi w 111 14 → sx_RP xs d mi pc2 ls r w2 P) : sx_RP xs d mi pc ls (.int x :: .int i :: .ref 112 :: r) w P := by
  subst hx
  have ha : 112 ≤ 112 ∧ 112 ≤ 115 := by decide
  have hw := hI.1.aM ha
  exact sx_RP.ist (c := k) hi hw.1 hw.2 (sx_in_nI hk (by decide)) (nI_clamp (by omega)) rfl hp (kk _ (hI.set hw.1 sh_set (cOK.s ha ((hI.sA ha).set hw.2 hk hv))) (hE.set hw.1 (by omega) (kp_n (by omega))) (fi_ne (by decide)))
set_option maxRecDepth 20000 in
set_option maxHeartbeats 4000000 in
theorem s154i_0 {xs : Option (List Int32)} {d : Nat} {w : List sx_C} (hI : WI w) {g : Nat} (hg : g < 10) {v : Nat} (hv : v ≤ 5) : sx_RP xs (d + 1) 154 0 (lv_args 0 [.ref 111, .int (nI g), .int 0, .int (nI v)]) [] w (fun r w2 => (∃ v : Int32, r = some (.int v)) ∧ WI w2 ∧ EI w w2) := by
  have hE : EI w w := EI.rf
  refine sx_RP.step (pc2 := 1) (ls2 := [(0, .ref 111), (1, .int (nI g)), (2, .int 0), (3, .int (nI v))]) (st2 := [.ref 111]) (w3 := w) rfl rfl ?_
  refine sx_RP.step (pc2 := 2) (ls2 := [(0, .ref 111), (1, .int (nI g)), (2, .int 0), (3, .int (nI v))]) (st2 := [.int (nI g), .ref 111]) (w3 := w) rfl rfl ?_
  refine sx_RP.step (pc2 := 3) (ls2 := [(0, .ref 111), (1, .int (nI g)), (2, .int 0), (3, .int (nI v))]) (st2 := [.int 0, .int (nI g), .ref 111]) (w3 := w) rfl rfl ?_
  obtain ⟨x1, hx2, c3⟩ := p138_0 hI (show g < 10 by omega)
  refine sx_RP.cu (as := [.ref 111, .int (nI g), .int 0]) (rest2 := []) (st3 := [.int (nI x1)]) rfl rfl (sx_inv_v2 (mi := 154) (k := 59) (st := [.int 0, .int (nI g), .ref 111]) (w := w) rfl rfl hI.1.o111 rfl rfl rfl) rfl rfl (c3) rfl ?_
  refine sx_RP.step (pc2 := 8) (ls2 := [(4, .int (nI x1)), (0, .ref 111), (1, .int (nI g)), (2, .int 0), (3, .int (nI v))]) (st2 := []) (w3 := w) rfl rfl ?_
  refine sx_RP.step (pc2 := 9) (ls2 := [(4, .int (nI x1)), (0, .ref 111), (1, .int (nI g)), (2, .int 0), (3, .int (nI v))]) (st2 := [.ref 111]) (w3 := w) rfl rfl ?_
  refine sx_RP.gf (v := .ref 112) rfl rfl hI.1.o111 rfl rfl (show _ = 12 from rfl) ?_
  refine sx_RP.step (pc2 := 14) (ls2 := [(4, .int (nI x1)), (0, .ref 111), (1, .int (nI g)), (2, .int 0), (3, .int (nI v))]) (st2 := [.int 103, .ref 112]) (w3 := w) rfl rfl ?_
  refine sx_RP.step (pc2 := 16) (ls2 := [(4, .int (nI x1)), (0, .ref 111), (1, .int (nI g)), (2, .int 0), (3, .int (nI v))]) (st2 := [.int 6, .int 103, .ref 112]) (w3 := w) rfl rfl ?_
  refine sx_RP.step (pc2 := 17) (ls2 := [(4, .int (nI x1)), (0, .ref 111), (1, .int (nI g)), (2, .int 0), (3, .int (nI v))]) (st2 := [.int (nI g), .int 6, .int 103, .ref 112]) (w3 := w) rfl rfl ?_
  refine sx_RP.step (pc2 := 18) (ls2 := [(4, .int (nI x1)), (0, .ref 111), (1, .int (nI g)), (2, .int 0), (3, .int (nI v))]) (st2 := [.int (6 * (nI g)), .int 103, .ref 112]) (w3 := w) rfl rfl ?_
  rw [show (6 * (nI g) : Int32) = nI (6 * g) from nI_mul 6 g]
  refine sx_RP.step (pc2 := 19) (ls2 := [(4, .int (nI x1)), (0, .ref 111), (1, .int (nI g)), (2, .int 0), (3, .int (nI v))]) (st2 := [.int (103 + (nI (6 * g))), .ref 112]) (w3 := w) rfl rfl ?_
  rw [show (103 + (nI (6 * g)) : Int32) = nI (103 + (6 * g)) from nI_add 103 (6 * g)]
  refine sx_RP.step (pc2 := 20) (ls2 := [(4, .int (nI x1)), (0, .ref 111), (1, .int (nI g)), (2, .int 0), (3, .int (nI v))]) (st2 := [.int 0, .int (nI (103 + (6 * g))), .ref 112]) (w3 := w) rfl rfl ?_
  refine sx_RP.step (pc2 := 21) (ls2 := [(4, .int (nI x1)), (0, .ref 111), (1, .int (nI g)), (2, .int 0), (3, .int (nI v))]) (st2 := [.int ((nI (103 + (6 * g))) + 0), .ref 112]) (w3 := w) rfl rfl ?_
  rw [show ((nI (103 + (6 * g))) + 0 : Int32) = nI ((103 + (6 * g)) + 0) from nI_add (103 + (6 * g)) 0]
  refine sx_RP.step (pc2 := 22) (ls2 := [(4, .int (nI x1)), (0, .ref 111), (1, .int (nI g)), (2, .int 0), (3, .int (nI v))]) (st2 := [.int (nI v), .int (nI ((103 + (6 * g)) + 0)), .ref 112]) (w3 := w) rfl rfl ?_
  refine sx_RP.mSI (k := ((103 + (6 * g)) + 0)) hI hE (by decide) rfl rfl (by omega) (eOK_g (g := g) (c := 0) (by omega) (by decide) (inR.n (show v ≤ 5 by omega))) (show _ = 23 from rfl) (fun w4 hI5 hE6 hk7 => ?_)
  refine sx_RP.step (pc2 := 25) (ls2 := [(4, .int (nI x1)), (0, .ref 111), (1, .int (nI g)), (2, .int 0), (3, .int (nI v))]) (st2 := [.int (nI x1)]) (w3 := w4) rfl rfl ?_
  refine sx_RP.ret (r := (some (.int (nI x1)))) rfl rfl ?_
  exact ⟨⟨_, rfl⟩, hI5, hE6⟩
set_option maxRecDepth 20000 in
set_option maxHeartbeats 4000000 in
theorem s154i_1 {xs : Option (List Int32)} {d : Nat} {w : List sx_C} (hI : WI w) {g : Nat} (hg : g < 10) {v : Nat} (hv : v ≤ 1) : sx_RP xs (d + 1) 154 0 (lv_args 0 [.ref 111, .int (nI g), .int 1, .int (nI v)]) [] w (fun r w2 => (∃ v : Int32, r = some (.int v)) ∧ WI w2 ∧ EI w w2) := by
  have hE : EI w w := EI.rf
  refine sx_RP.step (pc2 := 1) (ls2 := [(0, .ref 111), (1, .int (nI g)), (2, .int 1), (3, .int (nI v))]) (st2 := [.ref 111]) (w3 := w) rfl rfl ?_
  refine sx_RP.step (pc2 := 2) (ls2 := [(0, .ref 111), (1, .int (nI g)), (2, .int 1), (3, .int (nI v))]) (st2 := [.int (nI g), .ref 111]) (w3 := w) rfl rfl ?_
  refine sx_RP.step (pc2 := 3) (ls2 := [(0, .ref 111), (1, .int (nI g)), (2, .int 1), (3, .int (nI v))]) (st2 := [.int 1, .int (nI g), .ref 111]) (w3 := w) rfl rfl ?_
  obtain ⟨x1, hx2, c3⟩ := p138_1 hI (show g < 10 by omega)
  refine sx_RP.cu (as := [.ref 111, .int (nI g), .int 1]) (rest2 := []) (st3 := [.int (nI x1)]) rfl rfl (sx_inv_v2 (mi := 154) (k := 59) (st := [.int 1, .int (nI g), .ref 111]) (w := w) rfl rfl hI.1.o111 rfl rfl rfl) rfl rfl (c3) rfl ?_
  refine sx_RP.step (pc2 := 8) (ls2 := [(4, .int (nI x1)), (0, .ref 111), (1, .int (nI g)), (2, .int 1), (3, .int (nI v))]) (st2 := []) (w3 := w) rfl rfl ?_
  refine sx_RP.step (pc2 := 9) (ls2 := [(4, .int (nI x1)), (0, .ref 111), (1, .int (nI g)), (2, .int 1), (3, .int (nI v))]) (st2 := [.ref 111]) (w3 := w) rfl rfl ?_
  refine sx_RP.gf (v := .ref 112) rfl rfl hI.1.o111 rfl rfl (show _ = 12 from rfl) ?_
  refine sx_RP.step (pc2 := 14) (ls2 := [(4, .int (nI x1)), (0, .ref 111), (1, .int (nI g)), (2, .int 1), (3, .int (nI v))]) (st2 := [.int 103, .ref 112]) (w3 := w) rfl rfl ?_
  refine sx_RP.step (pc2 := 16) (ls2 := [(4, .int (nI x1)), (0, .ref 111), (1, .int (nI g)), (2, .int 1), (3, .int (nI v))]) (st2 := [.int 6, .int 103, .ref 112]) (w3 := w) rfl rfl ?_
  refine sx_RP.step (pc2 := 17) (ls2 := [(4, .int (nI x1)), (0, .ref 111), (1, .int (nI g)), (2, .int 1), (3, .int (nI v))]) (st2 := [.int (nI g), .int 6, .int 103, .ref 112]) (w3 := w) rfl rfl ?_
  refine sx_RP.step (pc2 := 18) (ls2 := [(4, .int (nI x1)), (0, .ref 111), (1, .int (nI g)), (2, .int 1), (3, .int (nI v))]) (st2 := [.int (6 * (nI g)), .int 103, .ref 112]) (w3 := w) rfl rfl ?_
  rw [show (6 * (nI g) : Int32) = nI (6 * g) from nI_mul 6 g]
  refine sx_RP.step (pc2 := 19) (ls2 := [(4, .int (nI x1)), (0, .ref 111), (1, .int (nI g)), (2, .int 1), (3, .int (nI v))]) (st2 := [.int (103 + (nI (6 * g))), .ref 112]) (w3 := w) rfl rfl ?_
  rw [show (103 + (nI (6 * g)) : Int32) = nI (103 + (6 * g)) from nI_add 103 (6 * g)]
  refine sx_RP.step (pc2 := 20) (ls2 := [(4, .int (nI x1)), (0, .ref 111), (1, .int (nI g)), (2, .int 1), (3, .int (nI v))]) (st2 := [.int 1, .int (nI (103 + (6 * g))), .ref 112]) (w3 := w) rfl rfl ?_
  refine sx_RP.step (pc2 := 21) (ls2 := [(4, .int (nI x1)), (0, .ref 111), (1, .int (nI g)), (2, .int 1), (3, .int (nI v))]) (st2 := [.int ((nI (103 + (6 * g))) + 1), .ref 112]) (w3 := w) rfl rfl ?_
  rw [show ((nI (103 + (6 * g))) + 1 : Int32) = nI ((103 + (6 * g)) + 1) from nI_add (103 + (6 * g)) 1]
  refine sx_RP.step (pc2 := 22) (ls2 := [(4, .int (nI x1)), (0, .ref 111), (1, .int (nI g)), (2, .int 1), (3, .int (nI v))]) (st2 := [.int (nI v), .int (nI ((103 + (6 * g)) + 1)), .ref 112]) (w3 := w) rfl rfl ?_
  refine sx_RP.mSI (k := ((103 + (6 * g)) + 1)) hI hE (by decide) rfl rfl (by omega) (eOK_g (g := g) (c := 1) (by omega) (by decide) (inR.n (show v ≤ 1 by omega))) (show _ = 23 from rfl) (fun w4 hI5 hE6 hk7 => ?_)
  refine sx_RP.step (pc2 := 25) (ls2 := [(4, .int (nI x1)), (0, .ref 111), (1, .int (nI g)), (2, .int 1), (3, .int (nI v))]) (st2 := [.int (nI x1)]) (w3 := w4) rfl rfl ?_
  refine sx_RP.ret (r := (some (.int (nI x1)))) rfl rfl ?_
  exact ⟨⟨_, rfl⟩, hI5, hE6⟩
set_option maxRecDepth 20000 in
set_option maxHeartbeats 4000000 in
theorem s154i_2 {xs : Option (List Int32)} {d : Nat} {w : List sx_C} (hI : WI w) {g : Nat} (hg : g < 10) {v : Nat} (hv : v ≤ 47) : sx_RP xs (d + 1) 154 0 (lv_args 0 [.ref 111, .int (nI g), .int 2, .int (nI v)]) [] w (fun r w2 => (∃ v : Int32, r = some (.int v)) ∧ WI w2 ∧ EI w w2) := by
  have hE : EI w w := EI.rf
  refine sx_RP.step (pc2 := 1) (ls2 := [(0, .ref 111), (1, .int (nI g)), (2, .int 2), (3, .int (nI v))]) (st2 := [.ref 111]) (w3 := w) rfl rfl ?_
  refine sx_RP.step (pc2 := 2) (ls2 := [(0, .ref 111), (1, .int (nI g)), (2, .int 2), (3, .int (nI v))]) (st2 := [.int (nI g), .ref 111]) (w3 := w) rfl rfl ?_
  refine sx_RP.step (pc2 := 3) (ls2 := [(0, .ref 111), (1, .int (nI g)), (2, .int 2), (3, .int (nI v))]) (st2 := [.int 2, .int (nI g), .ref 111]) (w3 := w) rfl rfl ?_
  obtain ⟨x1, hx2, c3⟩ := p138_2 hI (show g < 10 by omega)
  refine sx_RP.cu (as := [.ref 111, .int (nI g), .int 2]) (rest2 := []) (st3 := [.int (nI x1)]) rfl rfl (sx_inv_v2 (mi := 154) (k := 59) (st := [.int 2, .int (nI g), .ref 111]) (w := w) rfl rfl hI.1.o111 rfl rfl rfl) rfl rfl (c3) rfl ?_
  refine sx_RP.step (pc2 := 8) (ls2 := [(4, .int (nI x1)), (0, .ref 111), (1, .int (nI g)), (2, .int 2), (3, .int (nI v))]) (st2 := []) (w3 := w) rfl rfl ?_
  refine sx_RP.step (pc2 := 9) (ls2 := [(4, .int (nI x1)), (0, .ref 111), (1, .int (nI g)), (2, .int 2), (3, .int (nI v))]) (st2 := [.ref 111]) (w3 := w) rfl rfl ?_
  refine sx_RP.gf (v := .ref 112) rfl rfl hI.1.o111 rfl rfl (show _ = 12 from rfl) ?_
  refine sx_RP.step (pc2 := 14) (ls2 := [(4, .int (nI x1)), (0, .ref 111), (1, .int (nI g)), (2, .int 2), (3, .int (nI v))]) (st2 := [.int 103, .ref 112]) (w3 := w) rfl rfl ?_
  refine sx_RP.step (pc2 := 16) (ls2 := [(4, .int (nI x1)), (0, .ref 111), (1, .int (nI g)), (2, .int 2), (3, .int (nI v))]) (st2 := [.int 6, .int 103, .ref 112]) (w3 := w) rfl rfl ?_
  refine sx_RP.step (pc2 := 17) (ls2 := [(4, .int (nI x1)), (0, .ref 111), (1, .int (nI g)), (2, .int 2), (3, .int (nI v))]) (st2 := [.int (nI g), .int 6, .int 103, .ref 112]) (w3 := w) rfl rfl ?_
  refine sx_RP.step (pc2 := 18) (ls2 := [(4, .int (nI x1)), (0, .ref 111), (1, .int (nI g)), (2, .int 2), (3, .int (nI v))]) (st2 := [.int (6 * (nI g)), .int 103, .ref 112]) (w3 := w) rfl rfl ?_
  rw [show (6 * (nI g) : Int32) = nI (6 * g) from nI_mul 6 g]
  refine sx_RP.step (pc2 := 19) (ls2 := [(4, .int (nI x1)), (0, .ref 111), (1, .int (nI g)), (2, .int 2), (3, .int (nI v))]) (st2 := [.int (103 + (nI (6 * g))), .ref 112]) (w3 := w) rfl rfl ?_
  rw [show (103 + (nI (6 * g)) : Int32) = nI (103 + (6 * g)) from nI_add 103 (6 * g)]
  refine sx_RP.step (pc2 := 20) (ls2 := [(4, .int (nI x1)), (0, .ref 111), (1, .int (nI g)), (2, .int 2), (3, .int (nI v))]) (st2 := [.int 2, .int (nI (103 + (6 * g))), .ref 112]) (w3 := w) rfl rfl ?_
  refine sx_RP.step (pc2 := 21) (ls2 := [(4, .int (nI x1)), (0, .ref 111), (1, .int (nI g)), (2, .int 2), (3, .int (nI v))]) (st2 := [.int ((nI (103 + (6 * g))) + 2), .ref 112]) (w3 := w) rfl rfl ?_
  rw [show ((nI (103 + (6 * g))) + 2 : Int32) = nI ((103 + (6 * g)) + 2) from nI_add (103 + (6 * g)) 2]
  refine sx_RP.step (pc2 := 22) (ls2 := [(4, .int (nI x1)), (0, .ref 111), (1, .int (nI g)), (2, .int 2), (3, .int (nI v))]) (st2 := [.int (nI v), .int (nI ((103 + (6 * g)) + 2)), .ref 112]) (w3 := w) rfl rfl ?_
  refine sx_RP.mSI (k := ((103 + (6 * g)) + 2)) hI hE (by decide) rfl rfl (by omega) (eOK_g (g := g) (c := 2) (by omega) (by decide) (inR.n (show v ≤ 47 by omega))) (show _ = 23 from rfl) (fun w4 hI5 hE6 hk7 => ?_)
  refine sx_RP.step (pc2 := 25) (ls2 := [(4, .int (nI x1)), (0, .ref 111), (1, .int (nI g)), (2, .int 2), (3, .int (nI v))]) (st2 := [.int (nI x1)]) (w3 := w4) rfl rfl ?_
  refine sx_RP.ret (r := (some (.int (nI x1)))) rfl rfl ?_
  exact ⟨⟨_, rfl⟩, hI5, hE6⟩
set_option maxRecDepth 20000 in
set_option maxHeartbeats 4000000 in
theorem s154i_3 {xs : Option (List Int32)} {d : Nat} {w : List sx_C} (hI : WI w) {g : Nat} (hg : g < 10) {v : Nat} (hv : v ≤ 3) : sx_RP xs (d + 1) 154 0 (lv_args 0 [.ref 111, .int (nI g), .int 3, .int (nI v)]) [] w (fun r w2 => (∃ v : Int32, r = some (.int v)) ∧ WI w2 ∧ EI w w2) := by
  have hE : EI w w := EI.rf
  refine sx_RP.step (pc2 := 1) (ls2 := [(0, .ref 111), (1, .int (nI g)), (2, .int 3), (3, .int (nI v))]) (st2 := [.ref 111]) (w3 := w) rfl rfl ?_
  refine sx_RP.step (pc2 := 2) (ls2 := [(0, .ref 111), (1, .int (nI g)), (2, .int 3), (3, .int (nI v))]) (st2 := [.int (nI g), .ref 111]) (w3 := w) rfl rfl ?_
  refine sx_RP.step (pc2 := 3) (ls2 := [(0, .ref 111), (1, .int (nI g)), (2, .int 3), (3, .int (nI v))]) (st2 := [.int 3, .int (nI g), .ref 111]) (w3 := w) rfl rfl ?_
  obtain ⟨x1, hx2, c3⟩ := p138_3 hI (show g < 10 by omega)
  refine sx_RP.cu (as := [.ref 111, .int (nI g), .int 3]) (rest2 := []) (st3 := [.int (nI x1)]) rfl rfl (sx_inv_v2 (mi := 154) (k := 59) (st := [.int 3, .int (nI g), .ref 111]) (w := w) rfl rfl hI.1.o111 rfl rfl rfl) rfl rfl (c3) rfl ?_
  refine sx_RP.step (pc2 := 8) (ls2 := [(4, .int (nI x1)), (0, .ref 111), (1, .int (nI g)), (2, .int 3), (3, .int (nI v))]) (st2 := []) (w3 := w) rfl rfl ?_
  refine sx_RP.step (pc2 := 9) (ls2 := [(4, .int (nI x1)), (0, .ref 111), (1, .int (nI g)), (2, .int 3), (3, .int (nI v))]) (st2 := [.ref 111]) (w3 := w) rfl rfl ?_
  refine sx_RP.gf (v := .ref 112) rfl rfl hI.1.o111 rfl rfl (show _ = 12 from rfl) ?_
  refine sx_RP.step (pc2 := 14) (ls2 := [(4, .int (nI x1)), (0, .ref 111), (1, .int (nI g)), (2, .int 3), (3, .int (nI v))]) (st2 := [.int 103, .ref 112]) (w3 := w) rfl rfl ?_
  refine sx_RP.step (pc2 := 16) (ls2 := [(4, .int (nI x1)), (0, .ref 111), (1, .int (nI g)), (2, .int 3), (3, .int (nI v))]) (st2 := [.int 6, .int 103, .ref 112]) (w3 := w) rfl rfl ?_
  refine sx_RP.step (pc2 := 17) (ls2 := [(4, .int (nI x1)), (0, .ref 111), (1, .int (nI g)), (2, .int 3), (3, .int (nI v))]) (st2 := [.int (nI g), .int 6, .int 103, .ref 112]) (w3 := w) rfl rfl ?_
  refine sx_RP.step (pc2 := 18) (ls2 := [(4, .int (nI x1)), (0, .ref 111), (1, .int (nI g)), (2, .int 3), (3, .int (nI v))]) (st2 := [.int (6 * (nI g)), .int 103, .ref 112]) (w3 := w) rfl rfl ?_
  rw [show (6 * (nI g) : Int32) = nI (6 * g) from nI_mul 6 g]
  refine sx_RP.step (pc2 := 19) (ls2 := [(4, .int (nI x1)), (0, .ref 111), (1, .int (nI g)), (2, .int 3), (3, .int (nI v))]) (st2 := [.int (103 + (nI (6 * g))), .ref 112]) (w3 := w) rfl rfl ?_
  rw [show (103 + (nI (6 * g)) : Int32) = nI (103 + (6 * g)) from nI_add 103 (6 * g)]
  refine sx_RP.step (pc2 := 20) (ls2 := [(4, .int (nI x1)), (0, .ref 111), (1, .int (nI g)), (2, .int 3), (3, .int (nI v))]) (st2 := [.int 3, .int (nI (103 + (6 * g))), .ref 112]) (w3 := w) rfl rfl ?_
  refine sx_RP.step (pc2 := 21) (ls2 := [(4, .int (nI x1)), (0, .ref 111), (1, .int (nI g)), (2, .int 3), (3, .int (nI v))]) (st2 := [.int ((nI (103 + (6 * g))) + 3), .ref 112]) (w3 := w) rfl rfl ?_
  rw [show ((nI (103 + (6 * g))) + 3 : Int32) = nI ((103 + (6 * g)) + 3) from nI_add (103 + (6 * g)) 3]
  refine sx_RP.step (pc2 := 22) (ls2 := [(4, .int (nI x1)), (0, .ref 111), (1, .int (nI g)), (2, .int 3), (3, .int (nI v))]) (st2 := [.int (nI v), .int (nI ((103 + (6 * g)) + 3)), .ref 112]) (w3 := w) rfl rfl ?_
  refine sx_RP.mSI (k := ((103 + (6 * g)) + 3)) hI hE (by decide) rfl rfl (by omega) (eOK_g (g := g) (c := 3) (by omega) (by decide) (inR.n (show v ≤ 3 by omega))) (show _ = 23 from rfl) (fun w4 hI5 hE6 hk7 => ?_)
  refine sx_RP.step (pc2 := 25) (ls2 := [(4, .int (nI x1)), (0, .ref 111), (1, .int (nI g)), (2, .int 3), (3, .int (nI v))]) (st2 := [.int (nI x1)]) (w3 := w4) rfl rfl ?_
  refine sx_RP.ret (r := (some (.int (nI x1)))) rfl rfl ?_
  exact ⟨⟨_, rfl⟩, hI5, hE6⟩
set_option maxRecDepth 20000 in
set_option maxHeartbeats 4000000 in
theorem s154i_4 {xs : Option (List Int32)} {d : Nat} {w : List sx_C} (hI : WI w) {g : Nat} (hg : g < 10) (v : Int32) : sx_RP xs (d + 1) 154 0 (lv_args 0 [.ref 111, .int (nI g), .int 4, .int v]) [] w (fun r w2 => (∃ v : Int32, r = some (.int v)) ∧ WI w2 ∧ EI w w2) := by
  have hE : EI w w := EI.rf
  refine sx_RP.step (pc2 := 1) (ls2 := [(0, .ref 111), (1, .int (nI g)), (2, .int 4), (3, .int v)]) (st2 := [.ref 111]) (w3 := w) rfl rfl ?_
  refine sx_RP.step (pc2 := 2) (ls2 := [(0, .ref 111), (1, .int (nI g)), (2, .int 4), (3, .int v)]) (st2 := [.int (nI g), .ref 111]) (w3 := w) rfl rfl ?_
  refine sx_RP.step (pc2 := 3) (ls2 := [(0, .ref 111), (1, .int (nI g)), (2, .int 4), (3, .int v)]) (st2 := [.int 4, .int (nI g), .ref 111]) (w3 := w) rfl rfl ?_
  obtain ⟨v1, c2⟩ := p138_4 hI (show g < 10 by omega)
  refine sx_RP.cu (as := [.ref 111, .int (nI g), .int 4]) (rest2 := []) (st3 := [.int v1]) rfl rfl (sx_inv_v2 (mi := 154) (k := 59) (st := [.int 4, .int (nI g), .ref 111]) (w := w) rfl rfl hI.1.o111 rfl rfl rfl) rfl rfl (c2) rfl ?_
  refine sx_RP.step (pc2 := 8) (ls2 := [(4, .int v1), (0, .ref 111), (1, .int (nI g)), (2, .int 4), (3, .int v)]) (st2 := []) (w3 := w) rfl rfl ?_
  refine sx_RP.step (pc2 := 9) (ls2 := [(4, .int v1), (0, .ref 111), (1, .int (nI g)), (2, .int 4), (3, .int v)]) (st2 := [.ref 111]) (w3 := w) rfl rfl ?_
  refine sx_RP.gf (v := .ref 112) rfl rfl hI.1.o111 rfl rfl (show _ = 12 from rfl) ?_
  refine sx_RP.step (pc2 := 14) (ls2 := [(4, .int v1), (0, .ref 111), (1, .int (nI g)), (2, .int 4), (3, .int v)]) (st2 := [.int 103, .ref 112]) (w3 := w) rfl rfl ?_
  refine sx_RP.step (pc2 := 16) (ls2 := [(4, .int v1), (0, .ref 111), (1, .int (nI g)), (2, .int 4), (3, .int v)]) (st2 := [.int 6, .int 103, .ref 112]) (w3 := w) rfl rfl ?_
  refine sx_RP.step (pc2 := 17) (ls2 := [(4, .int v1), (0, .ref 111), (1, .int (nI g)), (2, .int 4), (3, .int v)]) (st2 := [.int (nI g), .int 6, .int 103, .ref 112]) (w3 := w) rfl rfl ?_
  refine sx_RP.step (pc2 := 18) (ls2 := [(4, .int v1), (0, .ref 111), (1, .int (nI g)), (2, .int 4), (3, .int v)]) (st2 := [.int (6 * (nI g)), .int 103, .ref 112]) (w3 := w) rfl rfl ?_
  rw [show (6 * (nI g) : Int32) = nI (6 * g) from nI_mul 6 g]
  refine sx_RP.step (pc2 := 19) (ls2 := [(4, .int v1), (0, .ref 111), (1, .int (nI g)), (2, .int 4), (3, .int v)]) (st2 := [.int (103 + (nI (6 * g))), .ref 112]) (w3 := w) rfl rfl ?_
  rw [show (103 + (nI (6 * g)) : Int32) = nI (103 + (6 * g)) from nI_add 103 (6 * g)]
  refine sx_RP.step (pc2 := 20) (ls2 := [(4, .int v1), (0, .ref 111), (1, .int (nI g)), (2, .int 4), (3, .int v)]) (st2 := [.int 4, .int (nI (103 + (6 * g))), .ref 112]) (w3 := w) rfl rfl ?_
  refine sx_RP.step (pc2 := 21) (ls2 := [(4, .int v1), (0, .ref 111), (1, .int (nI g)), (2, .int 4), (3, .int v)]) (st2 := [.int ((nI (103 + (6 * g))) + 4), .ref 112]) (w3 := w) rfl rfl ?_
  rw [show ((nI (103 + (6 * g))) + 4 : Int32) = nI ((103 + (6 * g)) + 4) from nI_add (103 + (6 * g)) 4]
  refine sx_RP.step (pc2 := 22) (ls2 := [(4, .int v1), (0, .ref 111), (1, .int (nI g)), (2, .int 4), (3, .int v)]) (st2 := [.int v, .int (nI ((103 + (6 * g)) + 4)), .ref 112]) (w3 := w) rfl rfl ?_
  refine sx_RP.mSI (k := ((103 + (6 * g)) + 4)) hI hE (by decide) rfl rfl (by omega) (eOK_g (g := g) (c := 4) (by omega) (by decide) trivial) (show _ = 23 from rfl) (fun w3 hI4 hE5 hk6 => ?_)
  refine sx_RP.step (pc2 := 25) (ls2 := [(4, .int v1), (0, .ref 111), (1, .int (nI g)), (2, .int 4), (3, .int v)]) (st2 := [.int v1]) (w3 := w3) rfl rfl ?_
  refine sx_RP.ret (r := (some (.int v1))) rfl rfl ?_
  exact ⟨⟨_, rfl⟩, hI4, hE5⟩
set_option maxRecDepth 20000 in
set_option maxHeartbeats 4000000 in
theorem s154i_5 {xs : Option (List Int32)} {d : Nat} {w : List sx_C} (hI : WI w) {g : Nat} (hg : g < 10) {v : Nat} (hv : v ≤ 1) : sx_RP xs (d + 1) 154 0 (lv_args 0 [.ref 111, .int (nI g), .int 5, .int (nI v)]) [] w (fun r w2 => (∃ v : Int32, r = some (.int v)) ∧ WI w2 ∧ EI w w2) := by
  have hE : EI w w := EI.rf
  refine sx_RP.step (pc2 := 1) (ls2 := [(0, .ref 111), (1, .int (nI g)), (2, .int 5), (3, .int (nI v))]) (st2 := [.ref 111]) (w3 := w) rfl rfl ?_
  refine sx_RP.step (pc2 := 2) (ls2 := [(0, .ref 111), (1, .int (nI g)), (2, .int 5), (3, .int (nI v))]) (st2 := [.int (nI g), .ref 111]) (w3 := w) rfl rfl ?_
  refine sx_RP.step (pc2 := 3) (ls2 := [(0, .ref 111), (1, .int (nI g)), (2, .int 5), (3, .int (nI v))]) (st2 := [.int 5, .int (nI g), .ref 111]) (w3 := w) rfl rfl ?_
  obtain ⟨x1, hx2, c3⟩ := p138_5 hI (show g < 10 by omega)
  refine sx_RP.cu (as := [.ref 111, .int (nI g), .int 5]) (rest2 := []) (st3 := [.int (nI x1)]) rfl rfl (sx_inv_v2 (mi := 154) (k := 59) (st := [.int 5, .int (nI g), .ref 111]) (w := w) rfl rfl hI.1.o111 rfl rfl rfl) rfl rfl (c3) rfl ?_
  refine sx_RP.step (pc2 := 8) (ls2 := [(4, .int (nI x1)), (0, .ref 111), (1, .int (nI g)), (2, .int 5), (3, .int (nI v))]) (st2 := []) (w3 := w) rfl rfl ?_
  refine sx_RP.step (pc2 := 9) (ls2 := [(4, .int (nI x1)), (0, .ref 111), (1, .int (nI g)), (2, .int 5), (3, .int (nI v))]) (st2 := [.ref 111]) (w3 := w) rfl rfl ?_
  refine sx_RP.gf (v := .ref 112) rfl rfl hI.1.o111 rfl rfl (show _ = 12 from rfl) ?_
  refine sx_RP.step (pc2 := 14) (ls2 := [(4, .int (nI x1)), (0, .ref 111), (1, .int (nI g)), (2, .int 5), (3, .int (nI v))]) (st2 := [.int 103, .ref 112]) (w3 := w) rfl rfl ?_
  refine sx_RP.step (pc2 := 16) (ls2 := [(4, .int (nI x1)), (0, .ref 111), (1, .int (nI g)), (2, .int 5), (3, .int (nI v))]) (st2 := [.int 6, .int 103, .ref 112]) (w3 := w) rfl rfl ?_
  refine sx_RP.step (pc2 := 17) (ls2 := [(4, .int (nI x1)), (0, .ref 111), (1, .int (nI g)), (2, .int 5), (3, .int (nI v))]) (st2 := [.int (nI g), .int 6, .int 103, .ref 112]) (w3 := w) rfl rfl ?_
  refine sx_RP.step (pc2 := 18) (ls2 := [(4, .int (nI x1)), (0, .ref 111), (1, .int (nI g)), (2, .int 5), (3, .int (nI v))]) (st2 := [.int (6 * (nI g)), .int 103, .ref 112]) (w3 := w) rfl rfl ?_
  rw [show (6 * (nI g) : Int32) = nI (6 * g) from nI_mul 6 g]
  refine sx_RP.step (pc2 := 19) (ls2 := [(4, .int (nI x1)), (0, .ref 111), (1, .int (nI g)), (2, .int 5), (3, .int (nI v))]) (st2 := [.int (103 + (nI (6 * g))), .ref 112]) (w3 := w) rfl rfl ?_
  rw [show (103 + (nI (6 * g)) : Int32) = nI (103 + (6 * g)) from nI_add 103 (6 * g)]
  refine sx_RP.step (pc2 := 20) (ls2 := [(4, .int (nI x1)), (0, .ref 111), (1, .int (nI g)), (2, .int 5), (3, .int (nI v))]) (st2 := [.int 5, .int (nI (103 + (6 * g))), .ref 112]) (w3 := w) rfl rfl ?_
  refine sx_RP.step (pc2 := 21) (ls2 := [(4, .int (nI x1)), (0, .ref 111), (1, .int (nI g)), (2, .int 5), (3, .int (nI v))]) (st2 := [.int ((nI (103 + (6 * g))) + 5), .ref 112]) (w3 := w) rfl rfl ?_
  rw [show ((nI (103 + (6 * g))) + 5 : Int32) = nI ((103 + (6 * g)) + 5) from nI_add (103 + (6 * g)) 5]
  refine sx_RP.step (pc2 := 22) (ls2 := [(4, .int (nI x1)), (0, .ref 111), (1, .int (nI g)), (2, .int 5), (3, .int (nI v))]) (st2 := [.int (nI v), .int (nI ((103 + (6 * g)) + 5)), .ref 112]) (w3 := w) rfl rfl ?_
  refine sx_RP.mSI (k := ((103 + (6 * g)) + 5)) hI hE (by decide) rfl rfl (by omega) (eOK_g (g := g) (c := 5) (by omega) (by decide) (inR.n (show v ≤ 1 by omega))) (show _ = 23 from rfl) (fun w4 hI5 hE6 hk7 => ?_)
  refine sx_RP.step (pc2 := 25) (ls2 := [(4, .int (nI x1)), (0, .ref 111), (1, .int (nI g)), (2, .int 5), (3, .int (nI v))]) (st2 := [.int (nI x1)]) (w3 := w4) rfl rfl ?_
  refine sx_RP.ret (r := (some (.int (nI x1)))) rfl rfl ?_
  exact ⟨⟨_, rfl⟩, hI5, hE6⟩
set_option maxRecDepth 20000 in
set_option maxHeartbeats 4000000 in
theorem s153i {xs : Option (List Int32)} {d : Nat} {w : List sx_C} (hI : WI w) {n k s c y : Nat} (hn : n ≤ 9) (en : (ia w 112).getD 1 0 = nI n) (hk : k ≤ 5) (hs : s ≤ 1) (hc : c < 48) (hy : y ≤ 3) : sx_RP xs (d + 2) 153 0 (lv_args 0 [.ref 111, .int (nI k), .int (nI s), .int (nI c), .int (nI y)]) [] w (fun r w2 => (r = none) ∧ WI w2 ∧ EI w w2) := by
  have hE : EI w w := EI.rf
  refine sx_RP.step (pc2 := 1) (ls2 := [(0, .ref 111), (1, .int (nI k)), (2, .int (nI s)), (3, .int (nI c)), (4, .int (nI y))]) (st2 := [.ref 111]) (w3 := w) rfl rfl ?_
  refine sx_RP.gf (v := .ref 112) rfl rfl hI.1.o111 rfl rfl (show _ = 4 from rfl) ?_
  refine sx_RP.step (pc2 := 5) (ls2 := [(0, .ref 111), (1, .int (nI k)), (2, .int (nI s)), (3, .int (nI c)), (4, .int (nI y))]) (st2 := [.int 1, .ref 112]) (w3 := w) rfl rfl ?_
  refine sx_RP.ild (c := 1) rfl hI.1.a112.1 hI.1.a112.2 (sx_in_nI (show 1 < 172 by omega) (by decide)) (show (nI 1).toNatClampNeg = 1 from nI_clamp (by omega)) (show _ = 6 from rfl) ?_
  rw [en]
  refine sx_RP.step (pc2 := 8) (ls2 := [(5, .int (nI n)), (0, .ref 111), (1, .int (nI k)), (2, .int (nI s)), (3, .int (nI c)), (4, .int (nI y))]) (st2 := []) (w3 := w) rfl rfl ?_
  refine sx_RP.step (pc2 := 9) (ls2 := [(5, .int (nI n)), (0, .ref 111), (1, .int (nI k)), (2, .int (nI s)), (3, .int (nI c)), (4, .int (nI y))]) (st2 := [.ref 111]) (w3 := w) rfl rfl ?_
  refine sx_RP.gf (v := .ref 112) rfl rfl hI.1.o111 rfl rfl (show _ = 12 from rfl) ?_
  refine sx_RP.step (pc2 := 13) (ls2 := [(5, .int (nI n)), (0, .ref 111), (1, .int (nI k)), (2, .int (nI s)), (3, .int (nI c)), (4, .int (nI y))]) (st2 := [.int 1, .ref 112]) (w3 := w) rfl rfl ?_
  refine sx_RP.step (pc2 := 14) (ls2 := [(5, .int (nI n)), (0, .ref 111), (1, .int (nI k)), (2, .int (nI s)), (3, .int (nI c)), (4, .int (nI y))]) (st2 := [.int 1, .ref 112, .int 1, .ref 112]) (w3 := w) rfl rfl ?_
  refine sx_RP.ild (c := 1) rfl hI.1.a112.1 hI.1.a112.2 (sx_in_nI (show 1 < 172 by omega) (by decide)) (show (nI 1).toNatClampNeg = 1 from nI_clamp (by omega)) (show _ = 15 from rfl) ?_
  rw [en]
  refine sx_RP.step (pc2 := 16) (ls2 := [(5, .int (nI n)), (0, .ref 111), (1, .int (nI k)), (2, .int (nI s)), (3, .int (nI c)), (4, .int (nI y))]) (st2 := [.int 1, .int (nI n), .int 1, .ref 112]) (w3 := w) rfl rfl ?_
  refine sx_RP.step (pc2 := 17) (ls2 := [(5, .int (nI n)), (0, .ref 111), (1, .int (nI k)), (2, .int (nI s)), (3, .int (nI c)), (4, .int (nI y))]) (st2 := [.int ((nI n) + 1), .int 1, .ref 112]) (w3 := w) rfl rfl ?_
  rw [show ((nI n) + 1 : Int32) = nI (n + 1) from nI_add n 1]
  refine sx_RP.mSI (k := 1) hI hE (by decide) rfl rfl (by omega) (eOK_1 (inR.n (show (n + 1) ≤ 10 by omega))) (show _ = 18 from rfl) (fun w1 hI2 hE3 hk4 => ?_)
  refine sx_RP.step (pc2 := 19) (ls2 := [(5, .int (nI n)), (0, .ref 111), (1, .int (nI k)), (2, .int (nI s)), (3, .int (nI c)), (4, .int (nI y))]) (st2 := [.ref 111]) (w3 := w1) rfl rfl ?_
  refine sx_RP.step (pc2 := 21) (ls2 := [(5, .int (nI n)), (0, .ref 111), (1, .int (nI k)), (2, .int (nI s)), (3, .int (nI c)), (4, .int (nI y))]) (st2 := [.int (nI n), .ref 111]) (w3 := w1) rfl rfl ?_
  refine sx_RP.step (pc2 := 22) (ls2 := [(5, .int (nI n)), (0, .ref 111), (1, .int (nI k)), (2, .int (nI s)), (3, .int (nI c)), (4, .int (nI y))]) (st2 := [.int 0, .int (nI n), .ref 111]) (w3 := w1) rfl rfl ?_
  refine sx_RP.step (pc2 := 23) (ls2 := [(5, .int (nI n)), (0, .ref 111), (1, .int (nI k)), (2, .int (nI s)), (3, .int (nI c)), (4, .int (nI y))]) (st2 := [.int (nI k), .int 0, .int (nI n), .ref 111]) (w3 := w1) rfl rfl ?_
  refine sx_RP.callp (as2 := [.ref 111, .int (nI n), .int 0, .int (nI k)]) (rest2 := []) rfl rfl (sx_inv_v2 (mi := 153) (k := 110) (st := [.int (nI k), .int 0, .int (nI n), .ref 111]) (w := w1) rfl rfl hI2.1.o111 rfl rfl rfl) rfl rfl rfl (s154i_0 hI2 (show n < 10 by omega) (show k ≤ 5 by omega)) (show _ = 26 from rfl) ?_
  rintro r4 w6 ⟨⟨v5, rfl⟩, hI7, hE9⟩
  have hE8 := hE3.tr (hE9)
  show sx_RP _ _ _ _ _ [.int v5] _ _
  refine sx_RP.step (pc2 := 27) (ls2 := [(5, .int (nI n)), (0, .ref 111), (1, .int (nI k)), (2, .int (nI s)), (3, .int (nI c)), (4, .int (nI y))]) (st2 := []) (w3 := w6) rfl rfl ?_
  refine sx_RP.step (pc2 := 28) (ls2 := [(5, .int (nI n)), (0, .ref 111), (1, .int (nI k)), (2, .int (nI s)), (3, .int (nI c)), (4, .int (nI y))]) (st2 := [.ref 111]) (w3 := w6) rfl rfl ?_
  refine sx_RP.step (pc2 := 30) (ls2 := [(5, .int (nI n)), (0, .ref 111), (1, .int (nI k)), (2, .int (nI s)), (3, .int (nI c)), (4, .int (nI y))]) (st2 := [.int (nI n), .ref 111]) (w3 := w6) rfl rfl ?_
  refine sx_RP.step (pc2 := 31) (ls2 := [(5, .int (nI n)), (0, .ref 111), (1, .int (nI k)), (2, .int (nI s)), (3, .int (nI c)), (4, .int (nI y))]) (st2 := [.int 1, .int (nI n), .ref 111]) (w3 := w6) rfl rfl ?_
  refine sx_RP.step (pc2 := 32) (ls2 := [(5, .int (nI n)), (0, .ref 111), (1, .int (nI k)), (2, .int (nI s)), (3, .int (nI c)), (4, .int (nI y))]) (st2 := [.int (nI s), .int 1, .int (nI n), .ref 111]) (w3 := w6) rfl rfl ?_
  refine sx_RP.callp (as2 := [.ref 111, .int (nI n), .int 1, .int (nI s)]) (rest2 := []) rfl rfl (sx_inv_v2 (mi := 153) (k := 110) (st := [.int (nI s), .int 1, .int (nI n), .ref 111]) (w := w6) rfl rfl hI7.1.o111 rfl rfl rfl) rfl rfl rfl (s154i_1 hI7 (show n < 10 by omega) (show s ≤ 1 by omega)) (show _ = 35 from rfl) ?_
  rintro r4 w11 ⟨⟨v10, rfl⟩, hI12, hE14⟩
  have hE13 := hE8.tr (hE14)
  show sx_RP _ _ _ _ _ [.int v10] _ _
  refine sx_RP.step (pc2 := 36) (ls2 := [(5, .int (nI n)), (0, .ref 111), (1, .int (nI k)), (2, .int (nI s)), (3, .int (nI c)), (4, .int (nI y))]) (st2 := []) (w3 := w11) rfl rfl ?_
  refine sx_RP.step (pc2 := 37) (ls2 := [(5, .int (nI n)), (0, .ref 111), (1, .int (nI k)), (2, .int (nI s)), (3, .int (nI c)), (4, .int (nI y))]) (st2 := [.ref 111]) (w3 := w11) rfl rfl ?_
  refine sx_RP.step (pc2 := 39) (ls2 := [(5, .int (nI n)), (0, .ref 111), (1, .int (nI k)), (2, .int (nI s)), (3, .int (nI c)), (4, .int (nI y))]) (st2 := [.int (nI n), .ref 111]) (w3 := w11) rfl rfl ?_
  refine sx_RP.step (pc2 := 40) (ls2 := [(5, .int (nI n)), (0, .ref 111), (1, .int (nI k)), (2, .int (nI s)), (3, .int (nI c)), (4, .int (nI y))]) (st2 := [.int 2, .int (nI n), .ref 111]) (w3 := w11) rfl rfl ?_
  refine sx_RP.step (pc2 := 41) (ls2 := [(5, .int (nI n)), (0, .ref 111), (1, .int (nI k)), (2, .int (nI s)), (3, .int (nI c)), (4, .int (nI y))]) (st2 := [.int (nI c), .int 2, .int (nI n), .ref 111]) (w3 := w11) rfl rfl ?_
  refine sx_RP.callp (as2 := [.ref 111, .int (nI n), .int 2, .int (nI c)]) (rest2 := []) rfl rfl (sx_inv_v2 (mi := 153) (k := 110) (st := [.int (nI c), .int 2, .int (nI n), .ref 111]) (w := w11) rfl rfl hI12.1.o111 rfl rfl rfl) rfl rfl rfl (s154i_2 hI12 (show n < 10 by omega) (show c ≤ 47 by omega)) (show _ = 44 from rfl) ?_
  rintro r4 w16 ⟨⟨v15, rfl⟩, hI17, hE19⟩
  have hE18 := hE13.tr (hE19)
  show sx_RP _ _ _ _ _ [.int v15] _ _
  refine sx_RP.step (pc2 := 45) (ls2 := [(5, .int (nI n)), (0, .ref 111), (1, .int (nI k)), (2, .int (nI s)), (3, .int (nI c)), (4, .int (nI y))]) (st2 := []) (w3 := w16) rfl rfl ?_
  refine sx_RP.step (pc2 := 46) (ls2 := [(5, .int (nI n)), (0, .ref 111), (1, .int (nI k)), (2, .int (nI s)), (3, .int (nI c)), (4, .int (nI y))]) (st2 := [.ref 111]) (w3 := w16) rfl rfl ?_
  refine sx_RP.step (pc2 := 48) (ls2 := [(5, .int (nI n)), (0, .ref 111), (1, .int (nI k)), (2, .int (nI s)), (3, .int (nI c)), (4, .int (nI y))]) (st2 := [.int (nI n), .ref 111]) (w3 := w16) rfl rfl ?_
  refine sx_RP.step (pc2 := 49) (ls2 := [(5, .int (nI n)), (0, .ref 111), (1, .int (nI k)), (2, .int (nI s)), (3, .int (nI c)), (4, .int (nI y))]) (st2 := [.int 3, .int (nI n), .ref 111]) (w3 := w16) rfl rfl ?_
  refine sx_RP.step (pc2 := 51) (ls2 := [(5, .int (nI n)), (0, .ref 111), (1, .int (nI k)), (2, .int (nI s)), (3, .int (nI c)), (4, .int (nI y))]) (st2 := [.int (nI y), .int 3, .int (nI n), .ref 111]) (w3 := w16) rfl rfl ?_
  refine sx_RP.callp (as2 := [.ref 111, .int (nI n), .int 3, .int (nI y)]) (rest2 := []) rfl rfl (sx_inv_v2 (mi := 153) (k := 110) (st := [.int (nI y), .int 3, .int (nI n), .ref 111]) (w := w16) rfl rfl hI17.1.o111 rfl rfl rfl) rfl rfl rfl (s154i_3 hI17 (show n < 10 by omega) (show y ≤ 3 by omega)) (show _ = 54 from rfl) ?_
  rintro r4 w21 ⟨⟨v20, rfl⟩, hI22, hE24⟩
  have hE23 := hE18.tr (hE24)
  show sx_RP _ _ _ _ _ [.int v20] _ _
  refine sx_RP.step (pc2 := 55) (ls2 := [(5, .int (nI n)), (0, .ref 111), (1, .int (nI k)), (2, .int (nI s)), (3, .int (nI c)), (4, .int (nI y))]) (st2 := []) (w3 := w21) rfl rfl ?_
  refine sx_RP.step (pc2 := 56) (ls2 := [(5, .int (nI n)), (0, .ref 111), (1, .int (nI k)), (2, .int (nI s)), (3, .int (nI c)), (4, .int (nI y))]) (st2 := [.ref 111]) (w3 := w21) rfl rfl ?_
  refine sx_RP.step (pc2 := 58) (ls2 := [(5, .int (nI n)), (0, .ref 111), (1, .int (nI k)), (2, .int (nI s)), (3, .int (nI c)), (4, .int (nI y))]) (st2 := [.int (nI n), .ref 111]) (w3 := w21) rfl rfl ?_
  refine sx_RP.step (pc2 := 59) (ls2 := [(5, .int (nI n)), (0, .ref 111), (1, .int (nI k)), (2, .int (nI s)), (3, .int (nI c)), (4, .int (nI y))]) (st2 := [.int 4, .int (nI n), .ref 111]) (w3 := w21) rfl rfl ?_
  refine sx_RP.step (pc2 := 60) (ls2 := [(5, .int (nI n)), (0, .ref 111), (1, .int (nI k)), (2, .int (nI s)), (3, .int (nI c)), (4, .int (nI y))]) (st2 := [.int 0, .int 4, .int (nI n), .ref 111]) (w3 := w21) rfl rfl ?_
  refine sx_RP.callp (as2 := [.ref 111, .int (nI n), .int 4, .int 0]) (rest2 := []) rfl rfl (sx_inv_v2 (mi := 153) (k := 110) (st := [.int 0, .int 4, .int (nI n), .ref 111]) (w := w21) rfl rfl hI22.1.o111 rfl rfl rfl) rfl rfl rfl (s154i_4 hI22 (show n < 10 by omega) 0) (show _ = 63 from rfl) ?_
  rintro r4 w26 ⟨⟨v25, rfl⟩, hI27, hE29⟩
  have hE28 := hE23.tr (hE29)
  show sx_RP _ _ _ _ _ [.int v25] _ _
  refine sx_RP.step (pc2 := 64) (ls2 := [(5, .int (nI n)), (0, .ref 111), (1, .int (nI k)), (2, .int (nI s)), (3, .int (nI c)), (4, .int (nI y))]) (st2 := []) (w3 := w26) rfl rfl ?_
  refine sx_RP.step (pc2 := 65) (ls2 := [(5, .int (nI n)), (0, .ref 111), (1, .int (nI k)), (2, .int (nI s)), (3, .int (nI c)), (4, .int (nI y))]) (st2 := [.ref 111]) (w3 := w26) rfl rfl ?_
  refine sx_RP.step (pc2 := 67) (ls2 := [(5, .int (nI n)), (0, .ref 111), (1, .int (nI k)), (2, .int (nI s)), (3, .int (nI c)), (4, .int (nI y))]) (st2 := [.int (nI n), .ref 111]) (w3 := w26) rfl rfl ?_
  refine sx_RP.step (pc2 := 68) (ls2 := [(5, .int (nI n)), (0, .ref 111), (1, .int (nI k)), (2, .int (nI s)), (3, .int (nI c)), (4, .int (nI y))]) (st2 := [.int 5, .int (nI n), .ref 111]) (w3 := w26) rfl rfl ?_
  refine sx_RP.step (pc2 := 69) (ls2 := [(5, .int (nI n)), (0, .ref 111), (1, .int (nI k)), (2, .int (nI s)), (3, .int (nI c)), (4, .int (nI y))]) (st2 := [.int 0, .int 5, .int (nI n), .ref 111]) (w3 := w26) rfl rfl ?_
  refine sx_RP.callp (as2 := [.ref 111, .int (nI n), .int 5, .int 0]) (rest2 := []) rfl rfl (sx_inv_v2 (mi := 153) (k := 110) (st := [.int 0, .int 5, .int (nI n), .ref 111]) (w := w26) rfl rfl hI27.1.o111 rfl rfl rfl) rfl rfl rfl (s154i_5 hI27 (show n < 10 by omega) (show 0 ≤ 1 by omega)) (show _ = 72 from rfl) ?_
  rintro r4 w31 ⟨⟨v30, rfl⟩, hI32, hE34⟩
  have hE33 := hE28.tr (hE34)
  show sx_RP _ _ _ _ _ [.int v30] _ _
  refine sx_RP.step (pc2 := 73) (ls2 := [(5, .int (nI n)), (0, .ref 111), (1, .int (nI k)), (2, .int (nI s)), (3, .int (nI c)), (4, .int (nI y))]) (st2 := []) (w3 := w31) rfl rfl ?_
  refine sx_RP.ret (r := none) rfl rfl ?_
  exact ⟨rfl, hI32, hE33⟩
set_option maxRecDepth 20000 in
set_option maxHeartbeats 4000000 in
theorem s224k {xs : Option (List Int32)} {d : Nat} {w : List sx_C} (hI : WI w) {c k : Nat} (hc : c < 48) (hk : k ≤ 4) : sx_RP xs d 224 0 (lv_args 0 [.ref 111, .int (nI c), .int (nI k)]) [] w (fun r w2 => (r = none ∧ fi w2 111 14 = fi w 111 14) ∧ WI w2 ∧ EI w w2) := by
  have hE : EI w w := EI.rf
  refine sx_RP.step (pc2 := 1) (ls2 := [(0, .ref 111), (1, .int (nI c)), (2, .int (nI k))]) (st2 := [.int (nI k)]) (w3 := w) rfl rfl ?_
  refine sx_RP.step (pc2 := 2) (ls2 := [(0, .ref 111), (1, .int (nI c)), (2, .int (nI k))]) (st2 := [.int 4, .int (nI k)]) (w3 := w) rfl rfl ?_
  refine sx_RP.br (p1 := 18) (l1 := [(0, .ref 111), (1, .int (nI c)), (2, .int (nI k))]) (s1 := []) (v1 := w) (p2 := 5) (l2 := [(0, .ref 111), (1, .int (nI c)), (2, .int (nI k))]) (s2 := []) (v2 := w) rfl rfl (fun q1 => ?_) (fun q1 => ?_)
  · replace q1 := of_decide_eq_true q1
    replace q1 := mt (nI_eq (a := k) (b := 4) (by omega) (by omega)).mpr q1
    refine sx_RP.step (pc2 := 19) (ls2 := [(0, .ref 111), (1, .int (nI c)), (2, .int (nI k))]) (st2 := [.ref 111]) (w3 := w) rfl rfl ?_
    refine sx_RP.gf (v := .ref 112) rfl rfl hI.1.o111 rfl rfl (show _ = 22 from rfl) ?_
    refine sx_RP.step (pc2 := 24) (ls2 := [(0, .ref 111), (1, .int (nI c)), (2, .int (nI k))]) (st2 := [.int 7, .ref 112]) (w3 := w) rfl rfl ?_
    refine sx_RP.step (pc2 := 25) (ls2 := [(0, .ref 111), (1, .int (nI c)), (2, .int (nI k))]) (st2 := [.int (nI c), .int 7, .ref 112]) (w3 := w) rfl rfl ?_
    refine sx_RP.step (pc2 := 26) (ls2 := [(0, .ref 111), (1, .int (nI c)), (2, .int (nI k))]) (st2 := [.int (7 + (nI c)), .ref 112]) (w3 := w) rfl rfl ?_
    rw [show (7 + (nI c) : Int32) = nI (7 + c) from nI_add 7 c]
    refine sx_RP.step (pc2 := 27) (ls2 := [(0, .ref 111), (1, .int (nI c)), (2, .int (nI k))]) (st2 := [.int (nI k), .int (nI (7 + c)), .ref 112]) (w3 := w) rfl rfl ?_
    refine sx_RP.mSkI (k := (7 + c)) hI hE rfl rfl (by omega) (eOK_st (by omega) ⟨k, by omega, rfl⟩) (show _ = 28 from rfl) (fun w2 hI3 hE4 ht5 => ?_)
    refine sx_RP.ret (r := none) rfl rfl ?_
    exact ⟨⟨rfl, ht5⟩, hI3, hE4⟩
  · replace q1 := Decidable.not_not.mp (of_decide_eq_false q1)
    replace q1 := (nI_eq (a := k) (b := 4) (by omega) (by omega)).mp q1
    refine sx_RP.step (pc2 := 6) (ls2 := [(0, .ref 111), (1, .int (nI c)), (2, .int (nI k))]) (st2 := [.ref 111]) (w3 := w) rfl rfl ?_
    refine sx_RP.gf (v := .ref 112) rfl rfl hI.1.o111 rfl rfl (show _ = 9 from rfl) ?_
    refine sx_RP.step (pc2 := 11) (ls2 := [(0, .ref 111), (1, .int (nI c)), (2, .int (nI k))]) (st2 := [.int 55, .ref 112]) (w3 := w) rfl rfl ?_
    refine sx_RP.step (pc2 := 12) (ls2 := [(0, .ref 111), (1, .int (nI c)), (2, .int (nI k))]) (st2 := [.int (nI c), .int 55, .ref 112]) (w3 := w) rfl rfl ?_
    refine sx_RP.step (pc2 := 13) (ls2 := [(0, .ref 111), (1, .int (nI c)), (2, .int (nI k))]) (st2 := [.int (55 + (nI c)), .ref 112]) (w3 := w) rfl rfl ?_
    rw [show (55 + (nI c) : Int32) = nI (55 + c) from nI_add 55 c]
    refine sx_RP.step (pc2 := 14) (ls2 := [(0, .ref 111), (1, .int (nI c)), (2, .int (nI k))]) (st2 := [.int 1, .int (nI (55 + c)), .ref 112]) (w3 := w) rfl rfl ?_
    refine sx_RP.mSkI (k := (55 + c)) hI hE rfl rfl (by omega) (eOK_n (by omega)) (show _ = 15 from rfl) (fun w6 hI7 hE8 ht9 => ?_)
    refine sx_RP.step (pc2 := 28) (ls2 := [(0, .ref 111), (1, .int (nI c)), (2, .int (nI k))]) (st2 := []) (w3 := w6) rfl rfl ?_
    refine sx_RP.ret (r := none) rfl rfl ?_
    exact ⟨⟨rfl, ht9⟩, hI7, hE8⟩
set_option maxRecDepth 20000 in
set_option maxHeartbeats 4000000 in
theorem s219c {xs : Option (List Int32)} {d k v : Nat} {w0 : List sx_C} (hk : k ≤ 4) (hv : v ≤ 47) : ∀ (fz j : Nat) (w : List sx_C), v + 1 ≤ j + fz → j ≤ 48 → fi w 111 14 = nI v → WI w → EI w0 w → sx_RP xs (d + 5) 219 62 [(0, .ref 111), (1, .int (nI k)), (3, .int (nI j))] [] w (fun r w2 => (r = some (.int 0) ∨ r = some (.int 1)) ∧ WI w2 ∧ EI w0 w2)
  | fz, j, w, h, hj, ev, hI, hE => by
    refine sx_RP.step (pc2 := 63) (ls2 := [(0, .ref 111), (1, .int (nI k)), (3, .int (nI j))]) (st2 := [.int (nI j)]) (w3 := w) rfl rfl ?_
    refine sx_RP.step (pc2 := 64) (ls2 := [(0, .ref 111), (1, .int (nI k)), (3, .int (nI j))]) (st2 := [.ref 111, .int (nI j)]) (w3 := w) rfl rfl ?_
    refine sx_RP.gf (v := .int (fi w 111 14)) rfl rfl hI.1.o111 rfl rfl (show _ = 67 from rfl) ?_
    rw [ev]
    refine sx_RP.br (p1 := 82) (l1 := [(0, .ref 111), (1, .int (nI k)), (3, .int (nI j))]) (s1 := []) (v1 := w) (p2 := 70) (l2 := [(0, .ref 111), (1, .int (nI k)), (3, .int (nI j))]) (s2 := []) (v2 := w) rfl rfl (fun q1 => ?_) (fun q1 => ?_)
    · replace q1 := of_decide_eq_true q1
      replace q1 := (nI_ltI (a := v) (b := j) (by omega) (by omega)).mp q1
      refine sx_RP.step (pc2 := 83) (ls2 := [(0, .ref 111), (1, .int (nI k)), (3, .int (nI j))]) (st2 := [.int 1]) (w3 := w) rfl rfl ?_
      refine sx_RP.ret (r := (some (.int 1))) rfl rfl ?_
      exact ⟨Or.inr rfl, hI, hE⟩
    · replace q1 := of_decide_eq_false q1
      replace q1 := mt (nI_ltI (a := v) (b := j) (by omega) (by omega)).mpr q1
      refine sx_RP.step (pc2 := 71) (ls2 := [(0, .ref 111), (1, .int (nI k)), (3, .int (nI j))]) (st2 := [.ref 111]) (w3 := w) rfl rfl ?_
      refine sx_RP.step (pc2 := 72) (ls2 := [(0, .ref 111), (1, .int (nI k)), (3, .int (nI j))]) (st2 := [.int (nI j), .ref 111]) (w3 := w) rfl rfl ?_
      refine sx_RP.step (pc2 := 73) (ls2 := [(0, .ref 111), (1, .int (nI k)), (3, .int (nI j))]) (st2 := [.int (nI k), .int (nI j), .ref 111]) (w3 := w) rfl rfl ?_
      refine sx_RP.callp (as2 := [.ref 111, .int (nI j), .int (nI k)]) (rest2 := []) rfl rfl (sx_inv_v2 (mi := 219) (k := 270) (st := [.int (nI k), .int (nI j), .ref 111]) (w := w) rfl rfl hI.1.o111 rfl rfl rfl) rfl rfl rfl (s224k hI (show j < 48 by omega) (show k ≤ 4 by omega)) (show _ = 76 from rfl) ?_
      rintro r4 w3 ⟨⟨rfl, ht2⟩, hI4, hE6⟩
      have hE5 := hE.tr (hE6)
      have ex7 := ht2.trans ev
      show sx_RP _ _ _ _ _ [] _ _
      refine sx_RP.step (pc2 := 79) (ls2 := [(3, .int ((nI j) + 1)), (0, .ref 111), (1, .int (nI k))]) (st2 := []) (w3 := w3) rfl rfl ?_
      rw [nI_1 j]
      refine sx_RP.step (pc2 := 62) (ls2 := [(3, .int (nI (j + 1))), (0, .ref 111), (1, .int (nI k))]) (st2 := []) (w3 := w3) rfl rfl ?_
      match fz, h with
      | 0, h => exact absurd h (by omega)
      | fz + 1, h => exact sx_RP.ls (sx_lr.cons rfl (sx_lr.cons rfl (sx_lr.cons rfl sx_lr.nil))) (s219c hk hv fz (j + 1) w3 (by omega) (by omega) ex7 hI4 hE5)
set_option maxRecDepth 20000 in
set_option maxHeartbeats 4000000 in
theorem s219b {xs : Option (List Int32)} {d k : Nat} {w0 : List sx_C} (hk : k ≤ 4) : ∀ (fz j : Nat) (w : List sx_C), 48 ≤ j + fz → j ≤ 48 → WI w → EI w0 w → sx_RP xs (d + 5) 219 2 [(0, .ref 111), (1, .int (nI k)), (2, .int (nI j - 1))] [] w (fun r w2 => (r = some (.int 0) ∨ r = some (.int 1)) ∧ WI w2 ∧ EI w0 w2)
  | fz, j, w, h, hj, hI, hE => by
    refine sx_RP.step (pc2 := 3) (ls2 := [(0, .ref 111), (1, .int (nI k)), (2, .int (nI j - 1))]) (st2 := [.ref 111]) (w3 := w) rfl rfl ?_
    refine sx_RP.step (pc2 := 4) (ls2 := [(0, .ref 111), (1, .int (nI k)), (2, .int (nI j - 1))]) (st2 := [.int (nI j - 1), .ref 111]) (w3 := w) rfl rfl ?_
    refine sx_RP.step (pc2 := 5) (ls2 := [(0, .ref 111), (1, .int (nI k)), (2, .int (nI j - 1))]) (st2 := [.int 1, .int (nI j - 1), .ref 111]) (w3 := w) rfl rfl ?_
    refine sx_RP.step (pc2 := 6) (ls2 := [(0, .ref 111), (1, .int (nI k)), (2, .int (nI j - 1))]) (st2 := [.int (nI j - 1 + 1), .ref 111]) (w3 := w) rfl rfl ?_
    rw [show nI j - 1 + 1 = nI j from Int32.sub_add_cancel ..]
    refine sx_RP.step (pc2 := 8) (ls2 := [(0, .ref 111), (1, .int (nI k)), (2, .int (nI j - 1))]) (st2 := [.int 47, .int (nI j), .ref 111]) (w3 := w) rfl rfl ?_
    refine sx_RP.callp (as2 := [.ref 111, .int (nI j), .int 47]) (rest2 := []) rfl rfl (sx_inv_v2 (mi := 219) (k := 267) (st := [.int 47, .int (nI j), .ref 111]) (w := w) rfl rfl hI.1.o111 rfl rfl rfl) rfl rfl rfl (s220 (m := j) (n := 47) hI (by omega) (by omega)) (show _ = 11 from rfl) ?_
    rintro r4 w5 ⟨(rfl | ⟨x1, ⟨hx2, hx3, ex4⟩, rfl⟩), hI6, hE8⟩
    · have hE7 := hE.tr (hE8.ei)
      show sx_RP _ _ _ _ _ [.int 0] _ _
      refine sx_RP.step (pc2 := 14) (ls2 := [(0, .ref 111), (1, .int (nI k)), (2, .int (nI j - 1))]) (st2 := []) (w3 := w5) rfl rfl ?_
      refine sx_RP.step (pc2 := 15) (ls2 := [(0, .ref 111), (1, .int (nI k)), (2, .int (nI j - 1))]) (st2 := [.int 0]) (w3 := w5) rfl rfl ?_
      refine sx_RP.ret (r := (some (.int 0))) rfl rfl ?_
      exact ⟨Or.inl rfl, hI6, hE7⟩
    · have hE7 := hE.tr (hE8.ei)
      show sx_RP _ _ _ _ _ [.int 1] _ _
      refine sx_RP.step (pc2 := 16) (ls2 := [(0, .ref 111), (1, .int (nI k)), (2, .int (nI j - 1))]) (st2 := []) (w3 := w5) rfl rfl ?_
      refine sx_RP.step (pc2 := 17) (ls2 := [(0, .ref 111), (1, .int (nI k)), (2, .int (nI j - 1))]) (st2 := [.ref 111]) (w3 := w5) rfl rfl ?_
      refine sx_RP.gf (v := .int (fi w5 111 14)) rfl rfl hI6.1.o111 rfl rfl (show _ = 20 from rfl) ?_
      rw [ex4]
      refine sx_RP.step (pc2 := 21) (ls2 := [(2, .int (nI x1)), (0, .ref 111), (1, .int (nI k))]) (st2 := []) (w3 := w5) rfl rfl ?_
      refine sx_RP.step (pc2 := 22) (ls2 := [(2, .int (nI x1)), (0, .ref 111), (1, .int (nI k))]) (st2 := [.ref 111]) (w3 := w5) rfl rfl ?_
      refine sx_RP.step (pc2 := 23) (ls2 := [(2, .int (nI x1)), (0, .ref 111), (1, .int (nI k))]) (st2 := [.int (nI x1), .ref 111]) (w3 := w5) rfl rfl ?_
      refine sx_RP.step (pc2 := 24) (ls2 := [(2, .int (nI x1)), (0, .ref 111), (1, .int (nI k))]) (st2 := [.int (nI k), .int (nI x1), .ref 111]) (w3 := w5) rfl rfl ?_
      refine sx_RP.callp (as2 := [.ref 111, .int (nI x1), .int (nI k)]) (rest2 := []) rfl rfl (sx_inv_v2 (mi := 219) (k := 270) (st := [.int (nI k), .int (nI x1), .ref 111]) (w := w5) rfl rfl hI6.1.o111 rfl rfl rfl) rfl rfl rfl (s224k hI6 (show x1 < 48 by omega) (show k ≤ 4 by omega)) (show _ = 27 from rfl) ?_
      rintro r4 w10 ⟨⟨rfl, ht9⟩, hI11, hE13⟩
      have hE12 := hE7.tr (hE13)
      have ex14 := ht9.trans ex4
      show sx_RP _ _ _ _ _ [] _ _
      refine sx_RP.step (pc2 := 28) (ls2 := [(2, .int (nI x1)), (0, .ref 111), (1, .int (nI k))]) (st2 := [.ref 111]) (w3 := w10) rfl rfl ?_
      refine sx_RP.callp (as2 := [.ref 111]) (rest2 := []) rfl rfl (sx_inv_v2 (mi := 219) (k := 273) (st := [.ref 111]) (w := w10) rfl rfl hI11.1.o111 rfl rfl rfl) rfl rfl rfl (s225 hI11 ) (show _ = 31 from rfl) ?_
      rintro r4 w15 ⟨(rfl | rfl), hI16, hE18⟩
      · have hE17 := hE12.tr (hE18.ei)
        show sx_RP _ _ _ _ _ [.int 0] _ _
        refine sx_RP.step (pc2 := 34) (ls2 := [(2, .int (nI x1)), (0, .ref 111), (1, .int (nI k))]) (st2 := []) (w3 := w15) rfl rfl ?_
        refine sx_RP.step (pc2 := 35) (ls2 := [(2, .int (nI x1)), (0, .ref 111), (1, .int (nI k))]) (st2 := [.ref 111]) (w3 := w15) rfl rfl ?_
        refine sx_RP.step (pc2 := 38) (ls2 := [(2, .int (nI x1)), (0, .ref 111), (1, .int (nI k))]) (st2 := [.float 116, .ref 111]) (w3 := w15) rfl rfl ?_
        refine sx_RP.callp (as2 := [.ref 111, .float 116]) (rest2 := []) rfl rfl (sx_inv_v2 (mi := 219) (k := 243) (st := [.float 116, .ref 111]) (w := w15) rfl rfl hI16.1.o111 rfl rfl rfl) rfl rfl rfl (s213 (k := 116) hI16 (by decide) rfl (by decide)) (show _ = 41 from rfl) ?_
        rintro r4 w19 ⟨(rfl | rfl), hI20, hE22⟩
        · have hE21 := hE17.tr (hE22.ei)
          show sx_RP _ _ _ _ _ [.int 0] _ _
          refine sx_RP.step (pc2 := 44) (ls2 := [(2, .int (nI x1)), (0, .ref 111), (1, .int (nI k))]) (st2 := []) (w3 := w19) rfl rfl ?_
          refine sx_RP.step (pc2 := 45) (ls2 := [(2, .int (nI x1)), (0, .ref 111), (1, .int (nI k))]) (st2 := [.int 1]) (w3 := w19) rfl rfl ?_
          refine sx_RP.ret (r := (some (.int 1))) rfl rfl ?_
          exact ⟨Or.inr rfl, hI20, hE21⟩
        · have hE21 := hE17.tr (hE22.ei)
          show sx_RP _ _ _ _ _ [.int 1] _ _
          refine sx_RP.step (pc2 := 46) (ls2 := [(2, .int (nI x1)), (0, .ref 111), (1, .int (nI k))]) (st2 := []) (w3 := w19) rfl rfl ?_
          refine sx_RP.step (pc2 := 47) (ls2 := [(2, .int (nI x1)), (0, .ref 111), (1, .int (nI k))]) (st2 := [.ref 111]) (w3 := w19) rfl rfl ?_
          refine sx_RP.step (pc2 := 48) (ls2 := [(2, .int (nI x1)), (0, .ref 111), (1, .int (nI k))]) (st2 := [.int (nI x1), .ref 111]) (w3 := w19) rfl rfl ?_
          refine sx_RP.step (pc2 := 49) (ls2 := [(2, .int (nI x1)), (0, .ref 111), (1, .int (nI k))]) (st2 := [.int 1, .int (nI x1), .ref 111]) (w3 := w19) rfl rfl ?_
          refine sx_RP.step (pc2 := 50) (ls2 := [(2, .int (nI x1)), (0, .ref 111), (1, .int (nI k))]) (st2 := [.int ((nI x1) + 1), .ref 111]) (w3 := w19) rfl rfl ?_
          rw [show ((nI x1) + 1 : Int32) = nI (x1 + 1) from nI_add x1 1]
          refine sx_RP.step (pc2 := 52) (ls2 := [(2, .int (nI x1)), (0, .ref 111), (1, .int (nI k))]) (st2 := [.int 47, .int (nI (x1 + 1)), .ref 111]) (w3 := w19) rfl rfl ?_
          refine sx_RP.callp (as2 := [.ref 111, .int (nI (x1 + 1)), .int 47]) (rest2 := []) rfl rfl (sx_inv_v2 (mi := 219) (k := 267) (st := [.int 47, .int (nI (x1 + 1)), .ref 111]) (w := w19) rfl rfl hI20.1.o111 rfl rfl rfl) rfl rfl rfl (s220 (m := (x1 + 1)) (n := 47) hI20 (by omega) (by omega)) (show _ = 55 from rfl) ?_
          rintro r4 w27 ⟨(rfl | ⟨x23, ⟨hx24, hx25, ex26⟩, rfl⟩), hI28, hE30⟩
          · have hE29 := hE21.tr (hE30.ei)
            show sx_RP _ _ _ _ _ [.int 0] _ _
            refine sx_RP.step (pc2 := 58) (ls2 := [(2, .int (nI x1)), (0, .ref 111), (1, .int (nI k))]) (st2 := []) (w3 := w27) rfl rfl ?_
            refine sx_RP.step (pc2 := 59) (ls2 := [(2, .int (nI x1)), (0, .ref 111), (1, .int (nI k))]) (st2 := [.int 0]) (w3 := w27) rfl rfl ?_
            refine sx_RP.ret (r := (some (.int 0))) rfl rfl ?_
            exact ⟨Or.inl rfl, hI28, hE29⟩
          · have hE29 := hE21.tr (hE30.ei)
            show sx_RP _ _ _ _ _ [.int 1] _ _
            refine sx_RP.step (pc2 := 60) (ls2 := [(2, .int (nI x1)), (0, .ref 111), (1, .int (nI k))]) (st2 := []) (w3 := w27) rfl rfl ?_
            refine sx_RP.step (pc2 := 61) (ls2 := [(2, .int (nI x1)), (0, .ref 111), (1, .int (nI k))]) (st2 := [.int (nI x1)]) (w3 := w27) rfl rfl ?_
            refine sx_RP.step (pc2 := 62) (ls2 := [(3, .int (nI x1)), (2, .int (nI x1)), (0, .ref 111), (1, .int (nI k))]) (st2 := []) (w3 := w27) rfl rfl ?_
            exact sx_RP.ls (sx_lr.cons rfl (sx_lr.cons rfl (sx_lr.cons rfl sx_lr.nil))) (s219c hk (v := x23) (by omega) 48 x1 w27 (by omega) (by omega) ex26 hI28 hE29)
      · have hE17 := hE12.tr (hE18.ei)
        show sx_RP _ _ _ _ _ [.int 1] _ _
        refine sx_RP.step (pc2 := 2) (ls2 := [(2, .int (nI x1)), (0, .ref 111), (1, .int (nI k))]) (st2 := []) (w3 := w15) rfl rfl ?_
        match fz, h with
        | 0, h => exact absurd h (by omega)
        | fz + 1, h =>
          have IH := s219b (xs := xs) (d := d) hk fz (x1 + 1) w15 (by omega) (by omega) hI16 hE17
          rw [fd_s1] at IH
          exact sx_RP.ls (sx_lr.cons rfl (sx_lr.cons rfl (sx_lr.cons rfl sx_lr.nil))) IH
set_option maxRecDepth 20000 in
set_option maxHeartbeats 4000000 in
theorem s219 {xs : Option (List Int32)} {d : Nat} {w : List sx_C} (hI : WI w) {k : Nat} (hk : k ≤ 4) : sx_RP xs (d + 5) 219 0 (lv_args 0 [.ref 111, .int (nI k)]) [] w (fun r w2 => (r = some (.int 0) ∨ r = some (.int 1)) ∧ WI w2 ∧ EI w w2) := by
  have hE : EI w w := EI.rf
  refine sx_RP.step (pc2 := 1) (ls2 := [(0, .ref 111), (1, .int (nI k))]) (st2 := [.int (-1)]) (w3 := w) rfl rfl ?_
  refine sx_RP.step (pc2 := 2) (ls2 := [(2, .int (-1)), (0, .ref 111), (1, .int (nI k))]) (st2 := []) (w3 := w) rfl rfl ?_
  exact sx_RP.ls (sx_lr.cons rfl (sx_lr.cons rfl (sx_lr.cons rfl sx_lr.nil))) (s219b hk 48 0 w (by omega) (by omega) hI hE)
end
