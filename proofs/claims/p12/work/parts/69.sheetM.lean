-- safety: sheet of the reference
section SXSZ
variable {xs : Option (List Int32)} {d mi pc pc2 idx p : Nat} {ls : sx_L} {r : List Value} {w w0 : List sx_C} {P : Option Value → List sx_C → Prop}
theorem sz_of {x : Int32} (h0 : ¬ x < 0) (h1 : x ≤ 40) : inR x 40 := by
  obtain ⟨f, hf, rfl⟩ := nI_of h0
  refine ⟨f, ?_, rfl⟩
  have h := Int32.le_iff_toInt_le.mp h1
  rw [nI_toInt hf] at h
  have : (40 : Int32).toInt = 40 := by decide
  omega
theorem sx_RP.mSz {k : Nat} {x : Int32} (hI : WI w) (hE : EF w0 w) (hi : sx_ins mi pc = some (.iastore, 1)) (hk : k < 4) (hx : inR x 40) (hp : pc + 1 = pc2) (kk : ∀ w2, WI w2 → EF w0 w2 → sx_RP xs d mi pc2 ls r w2 P) : sx_RP xs d mi pc ls (.int x :: .int (nI k) :: .ref 123 :: r) w P := by
  have hw := hI.1.a123
  refine sx_RP.ist hi hw.1 hw.2 (sx_in_nI hk (by decide)) rfl rfl hp (kk _ (hI.set hw.1 sh_set (cOK.l (fun j hj => ?_))) (hE.set (by omega)))
  rw [nI_clamp (by omega)]
  show inR (((ia w 123).set k x).getD j 0) 40
  rw [gd_set (by rw [hw.2]; exact hk)]
  split
  · exact hx
  · exact hI.l hj
theorem sx_RP.mNF {a : Nat} {i : Int32} {x : Int64} {n : Nat} (hI : WI w) (hE : EF w0 w) (hi : sx_ins mi pc = some (.lastore, 1)) (hw : w[a]? = some (.inr (.inl (3, ja w a))) ∧ (ja w a).length = n) (hn : sx_in i n = true) (hf : a = 124 ∨ a = 125) (hp : pc + 1 = pc2) (kk : ∀ w2, WI w2 → EF w0 w2 → (∀ j, (ia w2 112).getD j 0 = (ia w 112).getD j 0) → sx_RP xs d mi pc2 ls r w2 P) : sx_RP xs d mi pc ls (.long x :: .int i :: .ref a :: r) w P :=
  sx_RP.mN hI EM.rf hi hw hn hf hp (fun w2 h1 h2 h3 => kk w2 h1 (hE.tr (h2.ef hI h1)) h3)
end SXSZ
set_option maxRecDepth 20000 in
set_option maxHeartbeats 4000000 in
theorem s230B {xs : Option (List Int32)} {d : Nat} {w w0 : List sx_C} {k : Nat} (hk : k < 4) (hI : WI w) (hE : EF w0 w) {j : Nat} (hj : j ≤ 40) (kk : ∀ (w4 : List sx_C), WI w4 → EF w0 w4 → j + 1 ≤ 40 → sx_RP xs (d + 7) 230 83 [(0, .ref 111), (1, .int (nI k)), (4, .int (nI (j + 1)))] [] w4 (fun r w2 => (∃ v : Int32, r = some (.int v)) ∧ WI w2 ∧ EF w0 w2)) : sx_RP xs (d + 7) 230 83 [(0, .ref 111), (1, .int (nI k)), (4, .int (nI j))] [] w (fun r w2 => (∃ v : Int32, r = some (.int v)) ∧ WI w2 ∧ EF w0 w2) := by
  refine sx_RP.step (pc2 := 85) (ls2 := [(0, .ref 111), (1, .int (nI k)), (4, .int (nI j))]) (st2 := [.int (nI j)]) (w3 := w) rfl rfl ?_
  refine sx_RP.step (pc2 := 87) (ls2 := [(0, .ref 111), (1, .int (nI k)), (4, .int (nI j))]) (st2 := [.int 40, .int (nI j)]) (w3 := w) rfl rfl ?_
  refine sx_RP.br (p1 := 109) (l1 := [(0, .ref 111), (1, .int (nI k)), (4, .int (nI j))]) (s1 := []) (v1 := w) (p2 := 90) (l2 := [(0, .ref 111), (1, .int (nI k)), (4, .int (nI j))]) (s2 := []) (v2 := w) rfl rfl (fun q1 => ?_) (fun q1 => ?_)
  · replace q1 := of_decide_eq_true q1
    replace q1 := (nI_leI (a := 40) (b := j) (by omega) (by omega)).mp q1
    refine sx_RP.step (pc2 := 110) (ls2 := [(0, .ref 111), (1, .int (nI k)), (4, .int (nI j))]) (st2 := [.ref 111]) (w3 := w) rfl rfl ?_
    refine sx_RP.gf (v := .ref 123) rfl rfl hI.1.o111 rfl rfl (show _ = 113 from rfl) ?_
    refine sx_RP.step (pc2 := 114) (ls2 := [(0, .ref 111), (1, .int (nI k)), (4, .int (nI j))]) (st2 := [.int (nI k), .ref 123]) (w3 := w) rfl rfl ?_
    refine sx_RP.ild (c := k) rfl hI.1.a123.1 hI.1.a123.2 (sx_in_nI (show k < 4 by omega) (by decide)) (show (nI k).toNatClampNeg = k from nI_clamp (by omega)) (show _ = 115 from rfl) ?_
    obtain ⟨x2, hx3, ex4⟩ : inR ((ia w 123).getD k 0) 40 := hI.l (show k < 4 by omega)
    rw [ex4]
    refine sx_RP.ret (r := (some (.int (nI x2)))) rfl rfl ?_
    exact ⟨⟨_, rfl⟩, hI, hE⟩
  · replace q1 := of_decide_eq_false q1
    replace q1 := mt (nI_leI (a := 40) (b := j) (by omega) (by omega)).mpr q1
    refine sx_RP.step (pc2 := 91) (ls2 := [(0, .ref 111), (1, .int (nI k)), (4, .int (nI j))]) (st2 := [.ref 111]) (w3 := w) rfl rfl ?_
    refine sx_RP.gf (v := .ref 124) rfl rfl hI.1.o111 rfl rfl (show _ = 94 from rfl) ?_
    refine sx_RP.step (pc2 := 96) (ls2 := [(0, .ref 111), (1, .int (nI k)), (4, .int (nI j))]) (st2 := [.int 40, .ref 124]) (w3 := w) rfl rfl ?_
    refine sx_RP.step (pc2 := 97) (ls2 := [(0, .ref 111), (1, .int (nI k)), (4, .int (nI j))]) (st2 := [.int (nI k), .int 40, .ref 124]) (w3 := w) rfl rfl ?_
    refine sx_RP.step (pc2 := 98) (ls2 := [(0, .ref 111), (1, .int (nI k)), (4, .int (nI j))]) (st2 := [.int (40 * (nI k)), .ref 124]) (w3 := w) rfl rfl ?_
    rw [show (40 * (nI k) : Int32) = nI (40 * k) from nI_mul 40 k]
    refine sx_RP.step (pc2 := 100) (ls2 := [(0, .ref 111), (1, .int (nI k)), (4, .int (nI j))]) (st2 := [.int (nI j), .int (nI (40 * k)), .ref 124]) (w3 := w) rfl rfl ?_
    refine sx_RP.step (pc2 := 101) (ls2 := [(0, .ref 111), (1, .int (nI k)), (4, .int (nI j))]) (st2 := [.int ((nI (40 * k)) + (nI j)), .ref 124]) (w3 := w) rfl rfl ?_
    rw [show ((nI (40 * k)) + (nI j) : Int32) = nI ((40 * k) + j) from nI_add (40 * k) j]
    refine sx_RP.step (pc2 := 102) (ls2 := [(0, .ref 111), (1, .int (nI k)), (4, .int (nI j))]) (st2 := [.long 0, .int (nI ((40 * k) + j)), .ref 124]) (w3 := w) rfl rfl ?_
    refine sx_RP.mNF hI hE rfl hI.1.a124 (sx_in_nI (show ((40 * k) + j) < 160 by omega) (by decide)) (by decide) (show _ = 103 from rfl) (fun w5 hI6 hE7 hk8 => ?_)
    refine sx_RP.step (pc2 := 106) (ls2 := [(4, .int ((nI j) + 1)), (0, .ref 111), (1, .int (nI k))]) (st2 := []) (w3 := w5) rfl rfl ?_
    rw [nI_1 j]
    refine sx_RP.step (pc2 := 83) (ls2 := [(4, .int (nI (j + 1))), (0, .ref 111), (1, .int (nI k))]) (st2 := []) (w3 := w5) rfl rfl ?_
    exact sx_RP.ls (sx_lr.cons rfl (sx_lr.cons rfl (sx_lr.cons rfl sx_lr.nil))) (kk w5 hI6 hE7 (by omega))
set_option maxRecDepth 20000 in
set_option maxHeartbeats 4000000 in
theorem s230L {xs : Option (List Int32)} {d : Nat} {w0 : List sx_C} {k : Nat} (hk : k < 4) : ∀ (fz j : Nat) (w : List sx_C) , 40 ≤ j + fz * 1 → j ≤ 40 → WI w → EF w0 w → sx_RP xs (d + 7) 230 83 [(0, .ref 111), (1, .int (nI k)), (4, .int (nI j))] [] w (fun r w2 => (∃ v : Int32, r = some (.int v)) ∧ WI w2 ∧ EF w0 w2)
  | 0, j, w, h, hj, hI, hE => s230B hk hI hE hj   (fun w4  hI4 hE4 hlt  => absurd hlt (by omega)) 
  | fz + 1, j, w, h, hj, hI, hE => s230B hk hI hE hj   (fun w4  hI4 hE4 hlt  => s230L hk  fz (j + 1) w4  (by omega) hlt hI4 hE4 ) 
set_option maxRecDepth 20000 in
set_option maxHeartbeats 4000000 in
theorem s230 {xs : Option (List Int32)} {d : Nat} {w : List sx_C} (hI : WI w) (a1 a2 a3 : Int32) : sx_RP xs (d + 7) 230 0 (lv_args 0 [.ref 111, .int a1, .int a2, .int a3]) [] w (fun r w2 => (∃ v : Int32, r = some (.int v)) ∧ WI w2 ∧ EF w w2) := by
  have hE : EF w w := EF.rf
  refine sx_RP.step (pc2 := 1) (ls2 := [(0, .ref 111), (1, .int a1), (2, .int a2), (3, .int a3)]) (st2 := [.int a1]) (w3 := w) rfl rfl ?_
  rcases in_cases a1 0 3 (m := 0) (n := 3) rfl rfl (by decide) (by decide) with q1 | ⟨x2, hx3, hx4, rfl⟩
  · refine sx_RP.cu (as := [.int a1]) (rest2 := []) (st3 := [.int 0]) rfl rfl rfl rfl rfl (cx_231n q1) rfl ?_
    refine sx_RP.step (pc2 := 29) (ls2 := [(0, .ref 111), (1, .int a1), (2, .int a2), (3, .int a3)]) (st2 := []) (w3 := w) rfl rfl ?_
    refine sx_RP.step (pc2 := 30) (ls2 := [(0, .ref 111), (1, .int a1), (2, .int a2), (3, .int a3)]) (st2 := [.ref 111]) (w3 := w) rfl rfl ?_
    refine sx_RP.step (pc2 := 31) (ls2 := [(0, .ref 111), (1, .int a1), (2, .int a2), (3, .int a3)]) (st2 := [.int 0, .ref 111]) (w3 := w) rfl rfl ?_
    refine sx_RP.callp (as2 := [.ref 111, .int 0]) (rest2 := []) rfl rfl (sx_inv_v2 (mi := 230) (k := 70) (st := [.int 0, .ref 111]) (w := w) rfl rfl hI.1.o111 rfl rfl rfl) rfl rfl rfl (s133_0 hI) (show _ = 34 from rfl) ?_
    rintro r4 w6 ⟨rfl, hI7, hE9⟩
    have hE8 := hE.tr (hE9.ef hI hI7)
    show sx_RP _ _ _ _ _ [.int (-1000000001)] _ _
    refine sx_RP.ret (r := (some (.int (-1000000001)))) rfl rfl ?_
    exact ⟨⟨_, rfl⟩, hI7, hE8⟩
  · refine sx_RP.cu (as := [.int (nI x2)]) (rest2 := []) (st3 := [.int 1]) rfl rfl rfl rfl rfl (cx_231p ⟨nI_le (a := 0) hx3 (by omega), nI_le (b := 3) hx4 (by decide)⟩) rfl ?_
    refine sx_RP.step (pc2 := 7) (ls2 := [(0, .ref 111), (1, .int (nI x2)), (2, .int a2), (3, .int a3)]) (st2 := []) (w3 := w) rfl rfl ?_
    refine sx_RP.step (pc2 := 8) (ls2 := [(0, .ref 111), (1, .int (nI x2)), (2, .int a2), (3, .int a3)]) (st2 := [.int a2]) (w3 := w) rfl rfl ?_
    refine sx_RP.br (p1 := 35) (l1 := [(0, .ref 111), (1, .int (nI x2)), (2, .int a2), (3, .int a3)]) (s1 := []) (v1 := w) (p2 := 11) (l2 := [(0, .ref 111), (1, .int (nI x2)), (2, .int a2), (3, .int a3)]) (s2 := []) (v2 := w) rfl rfl (fun q10 => ?_) (fun q10 => ?_)
    · replace q10 := of_decide_eq_true q10
      refine sx_RP.step (pc2 := 36) (ls2 := [(0, .ref 111), (1, .int (nI x2)), (2, .int a2), (3, .int a3)]) (st2 := [.int a3]) (w3 := w) rfl rfl ?_
      refine sx_RP.br (p1 := 46) (l1 := [(0, .ref 111), (1, .int (nI x2)), (2, .int a2), (3, .int a3)]) (s1 := []) (v1 := w) (p2 := 39) (l2 := [(0, .ref 111), (1, .int (nI x2)), (2, .int a2), (3, .int a3)]) (s2 := []) (v2 := w) rfl rfl (fun q11 => ?_) (fun q11 => ?_)
      · replace q11 := of_decide_eq_true q11
        refine sx_RP.step (pc2 := 47) (ls2 := [(0, .ref 111), (1, .int (nI x2)), (2, .int a2), (3, .int a3)]) (st2 := [.int a3]) (w3 := w) rfl rfl ?_
        refine sx_RP.step (pc2 := 49) (ls2 := [(0, .ref 111), (1, .int (nI x2)), (2, .int a2), (3, .int a3)]) (st2 := [.int 40, .int a3]) (w3 := w) rfl rfl ?_
        refine sx_RP.br (p1 := 58) (l1 := [(0, .ref 111), (1, .int (nI x2)), (2, .int a2), (3, .int a3)]) (s1 := []) (v1 := w) (p2 := 52) (l2 := [(0, .ref 111), (1, .int (nI x2)), (2, .int a2), (3, .int a3)]) (s2 := []) (v2 := w) rfl rfl (fun q12 => ?_) (fun q12 => ?_)
        · replace q12 := of_decide_eq_true q12
          refine sx_RP.step (pc2 := 59) (ls2 := [(0, .ref 111), (1, .int (nI x2)), (2, .int a2), (3, .int a3)]) (st2 := [.ref 111]) (w3 := w) rfl rfl ?_
          refine sx_RP.gf (v := .ref 122) rfl rfl hI.1.o111 rfl rfl (show _ = 62 from rfl) ?_
          refine sx_RP.step (pc2 := 63) (ls2 := [(0, .ref 111), (1, .int (nI x2)), (2, .int a2), (3, .int a3)]) (st2 := [.int (nI x2), .ref 122]) (w3 := w) rfl rfl ?_
          refine sx_RP.step (pc2 := 64) (ls2 := [(0, .ref 111), (1, .int (nI x2)), (2, .int a2), (3, .int a3)]) (st2 := [.int a2, .int (nI x2), .ref 122]) (w3 := w) rfl rfl ?_
          refine sx_RP.mFF (a := 122) hI hE rfl hI.1.a122 (sx_in_nI (show x2 < 4 by omega) (by decide)) (by decide) (show _ = 65 from rfl) (fun w13 hI14 hE15 _ => ?_)
          refine sx_RP.step (pc2 := 66) (ls2 := [(0, .ref 111), (1, .int (nI x2)), (2, .int a2), (3, .int a3)]) (st2 := [.ref 111]) (w3 := w13) rfl rfl ?_
          refine sx_RP.gf (v := .ref 123) rfl rfl hI14.1.o111 rfl rfl (show _ = 69 from rfl) ?_
          refine sx_RP.step (pc2 := 70) (ls2 := [(0, .ref 111), (1, .int (nI x2)), (2, .int a2), (3, .int a3)]) (st2 := [.int (nI x2), .ref 123]) (w3 := w13) rfl rfl ?_
          refine sx_RP.step (pc2 := 71) (ls2 := [(0, .ref 111), (1, .int (nI x2)), (2, .int a2), (3, .int a3)]) (st2 := [.int a2, .int (nI x2), .ref 123]) (w3 := w13) rfl rfl ?_
          refine sx_RP.br (p1 := 78) (l1 := [(0, .ref 111), (1, .int (nI x2)), (2, .int a2), (3, .int a3)]) (s1 := [.int (nI x2), .ref 123]) (v1 := w13) (p2 := 74) (l2 := [(0, .ref 111), (1, .int (nI x2)), (2, .int a2), (3, .int a3)]) (s2 := [.int (nI x2), .ref 123]) (v2 := w13) rfl rfl (fun q16 => ?_) (fun q16 => ?_)
          · replace q16 := of_decide_eq_true q16
            refine sx_RP.step (pc2 := 79) (ls2 := [(0, .ref 111), (1, .int (nI x2)), (2, .int a2), (3, .int a3)]) (st2 := [.int a3, .int (nI x2), .ref 123]) (w3 := w13) rfl rfl ?_
            refine sx_RP.mSz (k := x2) hI14 hE15 rfl (show x2 < 4 by omega) (sz_of (Int32.not_lt.mpr q11) q12) (show _ = 80 from rfl) (fun w17 hI18 hE19 => ?_)
            refine sx_RP.step (pc2 := 81) (ls2 := [(0, .ref 111), (1, .int (nI x2)), (2, .int a2), (3, .int a3)]) (st2 := [.int 0]) (w3 := w17) rfl rfl ?_
            refine sx_RP.step (pc2 := 83) (ls2 := [(4, .int 0), (0, .ref 111), (1, .int (nI x2)), (2, .int a2), (3, .int a3)]) (st2 := []) (w3 := w17) rfl rfl ?_
            exact sx_RP.ls (sx_lr.cons rfl (sx_lr.cons rfl (sx_lr.cons rfl sx_lr.nil))) (s230L (show x2 < 4 by omega) 40 0 w17  (by omega) (by omega) hI18 hE19 )
          · replace q16 := Decidable.not_not.mp (of_decide_eq_false q16)
            refine sx_RP.step (pc2 := 75) (ls2 := [(0, .ref 111), (1, .int (nI x2)), (2, .int a2), (3, .int a3)]) (st2 := [.int 0, .int (nI x2), .ref 123]) (w3 := w13) rfl rfl ?_
            refine sx_RP.step (pc2 := 79) (ls2 := [(0, .ref 111), (1, .int (nI x2)), (2, .int a2), (3, .int a3)]) (st2 := [.int 0, .int (nI x2), .ref 123]) (w3 := w13) rfl rfl ?_
            refine sx_RP.mSz (k := x2) hI14 hE15 rfl (show x2 < 4 by omega) ⟨0, by decide, rfl⟩ (show _ = 80 from rfl) (fun w20 hI21 hE22 => ?_)
            refine sx_RP.step (pc2 := 81) (ls2 := [(0, .ref 111), (1, .int (nI x2)), (2, .int a2), (3, .int a3)]) (st2 := [.int 0]) (w3 := w20) rfl rfl ?_
            refine sx_RP.step (pc2 := 83) (ls2 := [(4, .int 0), (0, .ref 111), (1, .int (nI x2)), (2, .int a2), (3, .int a3)]) (st2 := []) (w3 := w20) rfl rfl ?_
            exact sx_RP.ls (sx_lr.cons rfl (sx_lr.cons rfl (sx_lr.cons rfl sx_lr.nil))) (s230L (show x2 < 4 by omega) 40 0 w20  (by omega) (by omega) hI21 hE22 )
        · replace q12 := of_decide_eq_false q12
          refine sx_RP.step (pc2 := 53) (ls2 := [(0, .ref 111), (1, .int (nI x2)), (2, .int a2), (3, .int a3)]) (st2 := [.ref 111]) (w3 := w) rfl rfl ?_
          refine sx_RP.step (pc2 := 54) (ls2 := [(0, .ref 111), (1, .int (nI x2)), (2, .int a2), (3, .int a3)]) (st2 := [.int 0, .ref 111]) (w3 := w) rfl rfl ?_
          refine sx_RP.callp (as2 := [.ref 111, .int 0]) (rest2 := []) rfl rfl (sx_inv_v2 (mi := 230) (k := 70) (st := [.int 0, .ref 111]) (w := w) rfl rfl hI.1.o111 rfl rfl rfl) rfl rfl rfl (s133_0 hI) (show _ = 57 from rfl) ?_
          rintro r4 w23 ⟨rfl, hI24, hE26⟩
          have hE25 := hE.tr (hE26.ef hI hI24)
          show sx_RP _ _ _ _ _ [.int (-1000000001)] _ _
          refine sx_RP.ret (r := (some (.int (-1000000001)))) rfl rfl ?_
          exact ⟨⟨_, rfl⟩, hI24, hE25⟩
      · replace q11 := of_decide_eq_false q11
        refine sx_RP.step (pc2 := 40) (ls2 := [(0, .ref 111), (1, .int (nI x2)), (2, .int a2), (3, .int a3)]) (st2 := [.ref 111]) (w3 := w) rfl rfl ?_
        refine sx_RP.step (pc2 := 42) (ls2 := [(0, .ref 111), (1, .int (nI x2)), (2, .int a2), (3, .int a3)]) (st2 := [.int 6, .ref 111]) (w3 := w) rfl rfl ?_
        refine sx_RP.callp (as2 := [.ref 111, .int 6]) (rest2 := []) rfl rfl (sx_inv_v2 (mi := 230) (k := 70) (st := [.int 6, .ref 111]) (w := w) rfl rfl hI.1.o111 rfl rfl rfl) rfl rfl rfl (s133_6 hI) (show _ = 45 from rfl) ?_
        rintro r4 w27 ⟨rfl, hI28, hE30⟩
        have hE29 := hE.tr (hE30.ef hI hI28)
        show sx_RP _ _ _ _ _ [.int (-1000000007)] _ _
        refine sx_RP.ret (r := (some (.int (-1000000007)))) rfl rfl ?_
        exact ⟨⟨_, rfl⟩, hI28, hE29⟩
    · replace q10 := of_decide_eq_false q10
      refine sx_RP.step (pc2 := 12) (ls2 := [(0, .ref 111), (1, .int (nI x2)), (2, .int a2), (3, .int a3)]) (st2 := [.int a2]) (w3 := w) rfl rfl ?_
      refine sx_RP.step (pc2 := 14) (ls2 := [(0, .ref 111), (1, .int (nI x2)), (2, .int a2), (3, .int a3)]) (st2 := [.int 8, .int a2]) (w3 := w) rfl rfl ?_
      refine sx_RP.br (p1 := 35) (l1 := [(0, .ref 111), (1, .int (nI x2)), (2, .int a2), (3, .int a3)]) (s1 := []) (v1 := w) (p2 := 17) (l2 := [(0, .ref 111), (1, .int (nI x2)), (2, .int a2), (3, .int a3)]) (s2 := []) (v2 := w) rfl rfl (fun q31 => ?_) (fun q31 => ?_)
      · replace q31 := of_decide_eq_true q31
        refine sx_RP.step (pc2 := 36) (ls2 := [(0, .ref 111), (1, .int (nI x2)), (2, .int a2), (3, .int a3)]) (st2 := [.int a3]) (w3 := w) rfl rfl ?_
        refine sx_RP.br (p1 := 46) (l1 := [(0, .ref 111), (1, .int (nI x2)), (2, .int a2), (3, .int a3)]) (s1 := []) (v1 := w) (p2 := 39) (l2 := [(0, .ref 111), (1, .int (nI x2)), (2, .int a2), (3, .int a3)]) (s2 := []) (v2 := w) rfl rfl (fun q32 => ?_) (fun q32 => ?_)
        · replace q32 := of_decide_eq_true q32
          refine sx_RP.step (pc2 := 47) (ls2 := [(0, .ref 111), (1, .int (nI x2)), (2, .int a2), (3, .int a3)]) (st2 := [.int a3]) (w3 := w) rfl rfl ?_
          refine sx_RP.step (pc2 := 49) (ls2 := [(0, .ref 111), (1, .int (nI x2)), (2, .int a2), (3, .int a3)]) (st2 := [.int 40, .int a3]) (w3 := w) rfl rfl ?_
          refine sx_RP.br (p1 := 58) (l1 := [(0, .ref 111), (1, .int (nI x2)), (2, .int a2), (3, .int a3)]) (s1 := []) (v1 := w) (p2 := 52) (l2 := [(0, .ref 111), (1, .int (nI x2)), (2, .int a2), (3, .int a3)]) (s2 := []) (v2 := w) rfl rfl (fun q33 => ?_) (fun q33 => ?_)
          · replace q33 := of_decide_eq_true q33
            refine sx_RP.step (pc2 := 59) (ls2 := [(0, .ref 111), (1, .int (nI x2)), (2, .int a2), (3, .int a3)]) (st2 := [.ref 111]) (w3 := w) rfl rfl ?_
            refine sx_RP.gf (v := .ref 122) rfl rfl hI.1.o111 rfl rfl (show _ = 62 from rfl) ?_
            refine sx_RP.step (pc2 := 63) (ls2 := [(0, .ref 111), (1, .int (nI x2)), (2, .int a2), (3, .int a3)]) (st2 := [.int (nI x2), .ref 122]) (w3 := w) rfl rfl ?_
            refine sx_RP.step (pc2 := 64) (ls2 := [(0, .ref 111), (1, .int (nI x2)), (2, .int a2), (3, .int a3)]) (st2 := [.int a2, .int (nI x2), .ref 122]) (w3 := w) rfl rfl ?_
            refine sx_RP.mFF (a := 122) hI hE rfl hI.1.a122 (sx_in_nI (show x2 < 4 by omega) (by decide)) (by decide) (show _ = 65 from rfl) (fun w34 hI35 hE36 _ => ?_)
            refine sx_RP.step (pc2 := 66) (ls2 := [(0, .ref 111), (1, .int (nI x2)), (2, .int a2), (3, .int a3)]) (st2 := [.ref 111]) (w3 := w34) rfl rfl ?_
            refine sx_RP.gf (v := .ref 123) rfl rfl hI35.1.o111 rfl rfl (show _ = 69 from rfl) ?_
            refine sx_RP.step (pc2 := 70) (ls2 := [(0, .ref 111), (1, .int (nI x2)), (2, .int a2), (3, .int a3)]) (st2 := [.int (nI x2), .ref 123]) (w3 := w34) rfl rfl ?_
            refine sx_RP.step (pc2 := 71) (ls2 := [(0, .ref 111), (1, .int (nI x2)), (2, .int a2), (3, .int a3)]) (st2 := [.int a2, .int (nI x2), .ref 123]) (w3 := w34) rfl rfl ?_
            refine sx_RP.br (p1 := 78) (l1 := [(0, .ref 111), (1, .int (nI x2)), (2, .int a2), (3, .int a3)]) (s1 := [.int (nI x2), .ref 123]) (v1 := w34) (p2 := 74) (l2 := [(0, .ref 111), (1, .int (nI x2)), (2, .int a2), (3, .int a3)]) (s2 := [.int (nI x2), .ref 123]) (v2 := w34) rfl rfl (fun q37 => ?_) (fun q37 => ?_)
            · replace q37 := of_decide_eq_true q37
              refine sx_RP.step (pc2 := 79) (ls2 := [(0, .ref 111), (1, .int (nI x2)), (2, .int a2), (3, .int a3)]) (st2 := [.int a3, .int (nI x2), .ref 123]) (w3 := w34) rfl rfl ?_
              refine sx_RP.mSz (k := x2) hI35 hE36 rfl (show x2 < 4 by omega) (sz_of (Int32.not_lt.mpr q32) q33) (show _ = 80 from rfl) (fun w38 hI39 hE40 => ?_)
              refine sx_RP.step (pc2 := 81) (ls2 := [(0, .ref 111), (1, .int (nI x2)), (2, .int a2), (3, .int a3)]) (st2 := [.int 0]) (w3 := w38) rfl rfl ?_
              refine sx_RP.step (pc2 := 83) (ls2 := [(4, .int 0), (0, .ref 111), (1, .int (nI x2)), (2, .int a2), (3, .int a3)]) (st2 := []) (w3 := w38) rfl rfl ?_
              exact sx_RP.ls (sx_lr.cons rfl (sx_lr.cons rfl (sx_lr.cons rfl sx_lr.nil))) (s230L (show x2 < 4 by omega) 40 0 w38  (by omega) (by omega) hI39 hE40 )
            · replace q37 := Decidable.not_not.mp (of_decide_eq_false q37)
              refine sx_RP.step (pc2 := 75) (ls2 := [(0, .ref 111), (1, .int (nI x2)), (2, .int a2), (3, .int a3)]) (st2 := [.int 0, .int (nI x2), .ref 123]) (w3 := w34) rfl rfl ?_
              refine sx_RP.step (pc2 := 79) (ls2 := [(0, .ref 111), (1, .int (nI x2)), (2, .int a2), (3, .int a3)]) (st2 := [.int 0, .int (nI x2), .ref 123]) (w3 := w34) rfl rfl ?_
              refine sx_RP.mSz (k := x2) hI35 hE36 rfl (show x2 < 4 by omega) ⟨0, by decide, rfl⟩ (show _ = 80 from rfl) (fun w41 hI42 hE43 => ?_)
              refine sx_RP.step (pc2 := 81) (ls2 := [(0, .ref 111), (1, .int (nI x2)), (2, .int a2), (3, .int a3)]) (st2 := [.int 0]) (w3 := w41) rfl rfl ?_
              refine sx_RP.step (pc2 := 83) (ls2 := [(4, .int 0), (0, .ref 111), (1, .int (nI x2)), (2, .int a2), (3, .int a3)]) (st2 := []) (w3 := w41) rfl rfl ?_
              exact sx_RP.ls (sx_lr.cons rfl (sx_lr.cons rfl (sx_lr.cons rfl sx_lr.nil))) (s230L (show x2 < 4 by omega) 40 0 w41  (by omega) (by omega) hI42 hE43 )
          · replace q33 := of_decide_eq_false q33
            refine sx_RP.step (pc2 := 53) (ls2 := [(0, .ref 111), (1, .int (nI x2)), (2, .int a2), (3, .int a3)]) (st2 := [.ref 111]) (w3 := w) rfl rfl ?_
            refine sx_RP.step (pc2 := 54) (ls2 := [(0, .ref 111), (1, .int (nI x2)), (2, .int a2), (3, .int a3)]) (st2 := [.int 0, .ref 111]) (w3 := w) rfl rfl ?_
            refine sx_RP.callp (as2 := [.ref 111, .int 0]) (rest2 := []) rfl rfl (sx_inv_v2 (mi := 230) (k := 70) (st := [.int 0, .ref 111]) (w := w) rfl rfl hI.1.o111 rfl rfl rfl) rfl rfl rfl (s133_0 hI) (show _ = 57 from rfl) ?_
            rintro r4 w44 ⟨rfl, hI45, hE47⟩
            have hE46 := hE.tr (hE47.ef hI hI45)
            show sx_RP _ _ _ _ _ [.int (-1000000001)] _ _
            refine sx_RP.ret (r := (some (.int (-1000000001)))) rfl rfl ?_
            exact ⟨⟨_, rfl⟩, hI45, hE46⟩
        · replace q32 := of_decide_eq_false q32
          refine sx_RP.step (pc2 := 40) (ls2 := [(0, .ref 111), (1, .int (nI x2)), (2, .int a2), (3, .int a3)]) (st2 := [.ref 111]) (w3 := w) rfl rfl ?_
          refine sx_RP.step (pc2 := 42) (ls2 := [(0, .ref 111), (1, .int (nI x2)), (2, .int a2), (3, .int a3)]) (st2 := [.int 6, .ref 111]) (w3 := w) rfl rfl ?_
          refine sx_RP.callp (as2 := [.ref 111, .int 6]) (rest2 := []) rfl rfl (sx_inv_v2 (mi := 230) (k := 70) (st := [.int 6, .ref 111]) (w := w) rfl rfl hI.1.o111 rfl rfl rfl) rfl rfl rfl (s133_6 hI) (show _ = 45 from rfl) ?_
          rintro r4 w48 ⟨rfl, hI49, hE51⟩
          have hE50 := hE.tr (hE51.ef hI hI49)
          show sx_RP _ _ _ _ _ [.int (-1000000007)] _ _
          refine sx_RP.ret (r := (some (.int (-1000000007)))) rfl rfl ?_
          exact ⟨⟨_, rfl⟩, hI49, hE50⟩
      · replace q31 := of_decide_eq_false q31
        refine sx_RP.step (pc2 := 18) (ls2 := [(0, .ref 111), (1, .int (nI x2)), (2, .int a2), (3, .int a3)]) (st2 := [.int a2]) (w3 := w) rfl rfl ?_
        refine sx_RP.step (pc2 := 20) (ls2 := [(0, .ref 111), (1, .int (nI x2)), (2, .int a2), (3, .int a3)]) (st2 := [.int 16, .int a2]) (w3 := w) rfl rfl ?_
        refine sx_RP.br (p1 := 35) (l1 := [(0, .ref 111), (1, .int (nI x2)), (2, .int a2), (3, .int a3)]) (s1 := []) (v1 := w) (p2 := 23) (l2 := [(0, .ref 111), (1, .int (nI x2)), (2, .int a2), (3, .int a3)]) (s2 := []) (v2 := w) rfl rfl (fun q52 => ?_) (fun q52 => ?_)
        · replace q52 := of_decide_eq_true q52
          refine sx_RP.step (pc2 := 36) (ls2 := [(0, .ref 111), (1, .int (nI x2)), (2, .int a2), (3, .int a3)]) (st2 := [.int a3]) (w3 := w) rfl rfl ?_
          refine sx_RP.br (p1 := 46) (l1 := [(0, .ref 111), (1, .int (nI x2)), (2, .int a2), (3, .int a3)]) (s1 := []) (v1 := w) (p2 := 39) (l2 := [(0, .ref 111), (1, .int (nI x2)), (2, .int a2), (3, .int a3)]) (s2 := []) (v2 := w) rfl rfl (fun q53 => ?_) (fun q53 => ?_)
          · replace q53 := of_decide_eq_true q53
            refine sx_RP.step (pc2 := 47) (ls2 := [(0, .ref 111), (1, .int (nI x2)), (2, .int a2), (3, .int a3)]) (st2 := [.int a3]) (w3 := w) rfl rfl ?_
            refine sx_RP.step (pc2 := 49) (ls2 := [(0, .ref 111), (1, .int (nI x2)), (2, .int a2), (3, .int a3)]) (st2 := [.int 40, .int a3]) (w3 := w) rfl rfl ?_
            refine sx_RP.br (p1 := 58) (l1 := [(0, .ref 111), (1, .int (nI x2)), (2, .int a2), (3, .int a3)]) (s1 := []) (v1 := w) (p2 := 52) (l2 := [(0, .ref 111), (1, .int (nI x2)), (2, .int a2), (3, .int a3)]) (s2 := []) (v2 := w) rfl rfl (fun q54 => ?_) (fun q54 => ?_)
            · replace q54 := of_decide_eq_true q54
              refine sx_RP.step (pc2 := 59) (ls2 := [(0, .ref 111), (1, .int (nI x2)), (2, .int a2), (3, .int a3)]) (st2 := [.ref 111]) (w3 := w) rfl rfl ?_
              refine sx_RP.gf (v := .ref 122) rfl rfl hI.1.o111 rfl rfl (show _ = 62 from rfl) ?_
              refine sx_RP.step (pc2 := 63) (ls2 := [(0, .ref 111), (1, .int (nI x2)), (2, .int a2), (3, .int a3)]) (st2 := [.int (nI x2), .ref 122]) (w3 := w) rfl rfl ?_
              refine sx_RP.step (pc2 := 64) (ls2 := [(0, .ref 111), (1, .int (nI x2)), (2, .int a2), (3, .int a3)]) (st2 := [.int a2, .int (nI x2), .ref 122]) (w3 := w) rfl rfl ?_
              refine sx_RP.mFF (a := 122) hI hE rfl hI.1.a122 (sx_in_nI (show x2 < 4 by omega) (by decide)) (by decide) (show _ = 65 from rfl) (fun w55 hI56 hE57 _ => ?_)
              refine sx_RP.step (pc2 := 66) (ls2 := [(0, .ref 111), (1, .int (nI x2)), (2, .int a2), (3, .int a3)]) (st2 := [.ref 111]) (w3 := w55) rfl rfl ?_
              refine sx_RP.gf (v := .ref 123) rfl rfl hI56.1.o111 rfl rfl (show _ = 69 from rfl) ?_
              refine sx_RP.step (pc2 := 70) (ls2 := [(0, .ref 111), (1, .int (nI x2)), (2, .int a2), (3, .int a3)]) (st2 := [.int (nI x2), .ref 123]) (w3 := w55) rfl rfl ?_
              refine sx_RP.step (pc2 := 71) (ls2 := [(0, .ref 111), (1, .int (nI x2)), (2, .int a2), (3, .int a3)]) (st2 := [.int a2, .int (nI x2), .ref 123]) (w3 := w55) rfl rfl ?_
              refine sx_RP.br (p1 := 78) (l1 := [(0, .ref 111), (1, .int (nI x2)), (2, .int a2), (3, .int a3)]) (s1 := [.int (nI x2), .ref 123]) (v1 := w55) (p2 := 74) (l2 := [(0, .ref 111), (1, .int (nI x2)), (2, .int a2), (3, .int a3)]) (s2 := [.int (nI x2), .ref 123]) (v2 := w55) rfl rfl (fun q58 => ?_) (fun q58 => ?_)
              · replace q58 := of_decide_eq_true q58
                refine sx_RP.step (pc2 := 79) (ls2 := [(0, .ref 111), (1, .int (nI x2)), (2, .int a2), (3, .int a3)]) (st2 := [.int a3, .int (nI x2), .ref 123]) (w3 := w55) rfl rfl ?_
                refine sx_RP.mSz (k := x2) hI56 hE57 rfl (show x2 < 4 by omega) (sz_of (Int32.not_lt.mpr q53) q54) (show _ = 80 from rfl) (fun w59 hI60 hE61 => ?_)
                refine sx_RP.step (pc2 := 81) (ls2 := [(0, .ref 111), (1, .int (nI x2)), (2, .int a2), (3, .int a3)]) (st2 := [.int 0]) (w3 := w59) rfl rfl ?_
                refine sx_RP.step (pc2 := 83) (ls2 := [(4, .int 0), (0, .ref 111), (1, .int (nI x2)), (2, .int a2), (3, .int a3)]) (st2 := []) (w3 := w59) rfl rfl ?_
                exact sx_RP.ls (sx_lr.cons rfl (sx_lr.cons rfl (sx_lr.cons rfl sx_lr.nil))) (s230L (show x2 < 4 by omega) 40 0 w59  (by omega) (by omega) hI60 hE61 )
              · replace q58 := Decidable.not_not.mp (of_decide_eq_false q58)
                refine sx_RP.step (pc2 := 75) (ls2 := [(0, .ref 111), (1, .int (nI x2)), (2, .int a2), (3, .int a3)]) (st2 := [.int 0, .int (nI x2), .ref 123]) (w3 := w55) rfl rfl ?_
                refine sx_RP.step (pc2 := 79) (ls2 := [(0, .ref 111), (1, .int (nI x2)), (2, .int a2), (3, .int a3)]) (st2 := [.int 0, .int (nI x2), .ref 123]) (w3 := w55) rfl rfl ?_
                refine sx_RP.mSz (k := x2) hI56 hE57 rfl (show x2 < 4 by omega) ⟨0, by decide, rfl⟩ (show _ = 80 from rfl) (fun w62 hI63 hE64 => ?_)
                refine sx_RP.step (pc2 := 81) (ls2 := [(0, .ref 111), (1, .int (nI x2)), (2, .int a2), (3, .int a3)]) (st2 := [.int 0]) (w3 := w62) rfl rfl ?_
                refine sx_RP.step (pc2 := 83) (ls2 := [(4, .int 0), (0, .ref 111), (1, .int (nI x2)), (2, .int a2), (3, .int a3)]) (st2 := []) (w3 := w62) rfl rfl ?_
                exact sx_RP.ls (sx_lr.cons rfl (sx_lr.cons rfl (sx_lr.cons rfl sx_lr.nil))) (s230L (show x2 < 4 by omega) 40 0 w62  (by omega) (by omega) hI63 hE64 )
            · replace q54 := of_decide_eq_false q54
              refine sx_RP.step (pc2 := 53) (ls2 := [(0, .ref 111), (1, .int (nI x2)), (2, .int a2), (3, .int a3)]) (st2 := [.ref 111]) (w3 := w) rfl rfl ?_
              refine sx_RP.step (pc2 := 54) (ls2 := [(0, .ref 111), (1, .int (nI x2)), (2, .int a2), (3, .int a3)]) (st2 := [.int 0, .ref 111]) (w3 := w) rfl rfl ?_
              refine sx_RP.callp (as2 := [.ref 111, .int 0]) (rest2 := []) rfl rfl (sx_inv_v2 (mi := 230) (k := 70) (st := [.int 0, .ref 111]) (w := w) rfl rfl hI.1.o111 rfl rfl rfl) rfl rfl rfl (s133_0 hI) (show _ = 57 from rfl) ?_
              rintro r4 w65 ⟨rfl, hI66, hE68⟩
              have hE67 := hE.tr (hE68.ef hI hI66)
              show sx_RP _ _ _ _ _ [.int (-1000000001)] _ _
              refine sx_RP.ret (r := (some (.int (-1000000001)))) rfl rfl ?_
              exact ⟨⟨_, rfl⟩, hI66, hE67⟩
          · replace q53 := of_decide_eq_false q53
            refine sx_RP.step (pc2 := 40) (ls2 := [(0, .ref 111), (1, .int (nI x2)), (2, .int a2), (3, .int a3)]) (st2 := [.ref 111]) (w3 := w) rfl rfl ?_
            refine sx_RP.step (pc2 := 42) (ls2 := [(0, .ref 111), (1, .int (nI x2)), (2, .int a2), (3, .int a3)]) (st2 := [.int 6, .ref 111]) (w3 := w) rfl rfl ?_
            refine sx_RP.callp (as2 := [.ref 111, .int 6]) (rest2 := []) rfl rfl (sx_inv_v2 (mi := 230) (k := 70) (st := [.int 6, .ref 111]) (w := w) rfl rfl hI.1.o111 rfl rfl rfl) rfl rfl rfl (s133_6 hI) (show _ = 45 from rfl) ?_
            rintro r4 w69 ⟨rfl, hI70, hE72⟩
            have hE71 := hE.tr (hE72.ef hI hI70)
            show sx_RP _ _ _ _ _ [.int (-1000000007)] _ _
            refine sx_RP.ret (r := (some (.int (-1000000007)))) rfl rfl ?_
            exact ⟨⟨_, rfl⟩, hI70, hE71⟩
        · replace q52 := of_decide_eq_false q52
          refine sx_RP.step (pc2 := 24) (ls2 := [(0, .ref 111), (1, .int (nI x2)), (2, .int a2), (3, .int a3)]) (st2 := [.int a2]) (w3 := w) rfl rfl ?_
          refine sx_RP.step (pc2 := 26) (ls2 := [(0, .ref 111), (1, .int (nI x2)), (2, .int a2), (3, .int a3)]) (st2 := [.int 64, .int a2]) (w3 := w) rfl rfl ?_
          refine sx_RP.br (p1 := 35) (l1 := [(0, .ref 111), (1, .int (nI x2)), (2, .int a2), (3, .int a3)]) (s1 := []) (v1 := w) (p2 := 29) (l2 := [(0, .ref 111), (1, .int (nI x2)), (2, .int a2), (3, .int a3)]) (s2 := []) (v2 := w) rfl rfl (fun q73 => ?_) (fun q73 => ?_)
          · replace q73 := of_decide_eq_true q73
            refine sx_RP.step (pc2 := 36) (ls2 := [(0, .ref 111), (1, .int (nI x2)), (2, .int a2), (3, .int a3)]) (st2 := [.int a3]) (w3 := w) rfl rfl ?_
            refine sx_RP.br (p1 := 46) (l1 := [(0, .ref 111), (1, .int (nI x2)), (2, .int a2), (3, .int a3)]) (s1 := []) (v1 := w) (p2 := 39) (l2 := [(0, .ref 111), (1, .int (nI x2)), (2, .int a2), (3, .int a3)]) (s2 := []) (v2 := w) rfl rfl (fun q74 => ?_) (fun q74 => ?_)
            · replace q74 := of_decide_eq_true q74
              refine sx_RP.step (pc2 := 47) (ls2 := [(0, .ref 111), (1, .int (nI x2)), (2, .int a2), (3, .int a3)]) (st2 := [.int a3]) (w3 := w) rfl rfl ?_
              refine sx_RP.step (pc2 := 49) (ls2 := [(0, .ref 111), (1, .int (nI x2)), (2, .int a2), (3, .int a3)]) (st2 := [.int 40, .int a3]) (w3 := w) rfl rfl ?_
              refine sx_RP.br (p1 := 58) (l1 := [(0, .ref 111), (1, .int (nI x2)), (2, .int a2), (3, .int a3)]) (s1 := []) (v1 := w) (p2 := 52) (l2 := [(0, .ref 111), (1, .int (nI x2)), (2, .int a2), (3, .int a3)]) (s2 := []) (v2 := w) rfl rfl (fun q75 => ?_) (fun q75 => ?_)
              · replace q75 := of_decide_eq_true q75
                refine sx_RP.step (pc2 := 59) (ls2 := [(0, .ref 111), (1, .int (nI x2)), (2, .int a2), (3, .int a3)]) (st2 := [.ref 111]) (w3 := w) rfl rfl ?_
                refine sx_RP.gf (v := .ref 122) rfl rfl hI.1.o111 rfl rfl (show _ = 62 from rfl) ?_
                refine sx_RP.step (pc2 := 63) (ls2 := [(0, .ref 111), (1, .int (nI x2)), (2, .int a2), (3, .int a3)]) (st2 := [.int (nI x2), .ref 122]) (w3 := w) rfl rfl ?_
                refine sx_RP.step (pc2 := 64) (ls2 := [(0, .ref 111), (1, .int (nI x2)), (2, .int a2), (3, .int a3)]) (st2 := [.int a2, .int (nI x2), .ref 122]) (w3 := w) rfl rfl ?_
                refine sx_RP.mFF (a := 122) hI hE rfl hI.1.a122 (sx_in_nI (show x2 < 4 by omega) (by decide)) (by decide) (show _ = 65 from rfl) (fun w76 hI77 hE78 _ => ?_)
                refine sx_RP.step (pc2 := 66) (ls2 := [(0, .ref 111), (1, .int (nI x2)), (2, .int a2), (3, .int a3)]) (st2 := [.ref 111]) (w3 := w76) rfl rfl ?_
                refine sx_RP.gf (v := .ref 123) rfl rfl hI77.1.o111 rfl rfl (show _ = 69 from rfl) ?_
                refine sx_RP.step (pc2 := 70) (ls2 := [(0, .ref 111), (1, .int (nI x2)), (2, .int a2), (3, .int a3)]) (st2 := [.int (nI x2), .ref 123]) (w3 := w76) rfl rfl ?_
                refine sx_RP.step (pc2 := 71) (ls2 := [(0, .ref 111), (1, .int (nI x2)), (2, .int a2), (3, .int a3)]) (st2 := [.int a2, .int (nI x2), .ref 123]) (w3 := w76) rfl rfl ?_
                refine sx_RP.br (p1 := 78) (l1 := [(0, .ref 111), (1, .int (nI x2)), (2, .int a2), (3, .int a3)]) (s1 := [.int (nI x2), .ref 123]) (v1 := w76) (p2 := 74) (l2 := [(0, .ref 111), (1, .int (nI x2)), (2, .int a2), (3, .int a3)]) (s2 := [.int (nI x2), .ref 123]) (v2 := w76) rfl rfl (fun q79 => ?_) (fun q79 => ?_)
                · replace q79 := of_decide_eq_true q79
                  refine sx_RP.step (pc2 := 79) (ls2 := [(0, .ref 111), (1, .int (nI x2)), (2, .int a2), (3, .int a3)]) (st2 := [.int a3, .int (nI x2), .ref 123]) (w3 := w76) rfl rfl ?_
                  refine sx_RP.mSz (k := x2) hI77 hE78 rfl (show x2 < 4 by omega) (sz_of (Int32.not_lt.mpr q74) q75) (show _ = 80 from rfl) (fun w80 hI81 hE82 => ?_)
                  refine sx_RP.step (pc2 := 81) (ls2 := [(0, .ref 111), (1, .int (nI x2)), (2, .int a2), (3, .int a3)]) (st2 := [.int 0]) (w3 := w80) rfl rfl ?_
                  refine sx_RP.step (pc2 := 83) (ls2 := [(4, .int 0), (0, .ref 111), (1, .int (nI x2)), (2, .int a2), (3, .int a3)]) (st2 := []) (w3 := w80) rfl rfl ?_
                  exact sx_RP.ls (sx_lr.cons rfl (sx_lr.cons rfl (sx_lr.cons rfl sx_lr.nil))) (s230L (show x2 < 4 by omega) 40 0 w80  (by omega) (by omega) hI81 hE82 )
                · replace q79 := Decidable.not_not.mp (of_decide_eq_false q79)
                  refine sx_RP.step (pc2 := 75) (ls2 := [(0, .ref 111), (1, .int (nI x2)), (2, .int a2), (3, .int a3)]) (st2 := [.int 0, .int (nI x2), .ref 123]) (w3 := w76) rfl rfl ?_
                  refine sx_RP.step (pc2 := 79) (ls2 := [(0, .ref 111), (1, .int (nI x2)), (2, .int a2), (3, .int a3)]) (st2 := [.int 0, .int (nI x2), .ref 123]) (w3 := w76) rfl rfl ?_
                  refine sx_RP.mSz (k := x2) hI77 hE78 rfl (show x2 < 4 by omega) ⟨0, by decide, rfl⟩ (show _ = 80 from rfl) (fun w83 hI84 hE85 => ?_)
                  refine sx_RP.step (pc2 := 81) (ls2 := [(0, .ref 111), (1, .int (nI x2)), (2, .int a2), (3, .int a3)]) (st2 := [.int 0]) (w3 := w83) rfl rfl ?_
                  refine sx_RP.step (pc2 := 83) (ls2 := [(4, .int 0), (0, .ref 111), (1, .int (nI x2)), (2, .int a2), (3, .int a3)]) (st2 := []) (w3 := w83) rfl rfl ?_
                  exact sx_RP.ls (sx_lr.cons rfl (sx_lr.cons rfl (sx_lr.cons rfl sx_lr.nil))) (s230L (show x2 < 4 by omega) 40 0 w83  (by omega) (by omega) hI84 hE85 )
              · replace q75 := of_decide_eq_false q75
                refine sx_RP.step (pc2 := 53) (ls2 := [(0, .ref 111), (1, .int (nI x2)), (2, .int a2), (3, .int a3)]) (st2 := [.ref 111]) (w3 := w) rfl rfl ?_
                refine sx_RP.step (pc2 := 54) (ls2 := [(0, .ref 111), (1, .int (nI x2)), (2, .int a2), (3, .int a3)]) (st2 := [.int 0, .ref 111]) (w3 := w) rfl rfl ?_
                refine sx_RP.callp (as2 := [.ref 111, .int 0]) (rest2 := []) rfl rfl (sx_inv_v2 (mi := 230) (k := 70) (st := [.int 0, .ref 111]) (w := w) rfl rfl hI.1.o111 rfl rfl rfl) rfl rfl rfl (s133_0 hI) (show _ = 57 from rfl) ?_
                rintro r4 w86 ⟨rfl, hI87, hE89⟩
                have hE88 := hE.tr (hE89.ef hI hI87)
                show sx_RP _ _ _ _ _ [.int (-1000000001)] _ _
                refine sx_RP.ret (r := (some (.int (-1000000001)))) rfl rfl ?_
                exact ⟨⟨_, rfl⟩, hI87, hE88⟩
            · replace q74 := of_decide_eq_false q74
              refine sx_RP.step (pc2 := 40) (ls2 := [(0, .ref 111), (1, .int (nI x2)), (2, .int a2), (3, .int a3)]) (st2 := [.ref 111]) (w3 := w) rfl rfl ?_
              refine sx_RP.step (pc2 := 42) (ls2 := [(0, .ref 111), (1, .int (nI x2)), (2, .int a2), (3, .int a3)]) (st2 := [.int 6, .ref 111]) (w3 := w) rfl rfl ?_
              refine sx_RP.callp (as2 := [.ref 111, .int 6]) (rest2 := []) rfl rfl (sx_inv_v2 (mi := 230) (k := 70) (st := [.int 6, .ref 111]) (w := w) rfl rfl hI.1.o111 rfl rfl rfl) rfl rfl rfl (s133_6 hI) (show _ = 45 from rfl) ?_
              rintro r4 w90 ⟨rfl, hI91, hE93⟩
              have hE92 := hE.tr (hE93.ef hI hI91)
              show sx_RP _ _ _ _ _ [.int (-1000000007)] _ _
              refine sx_RP.ret (r := (some (.int (-1000000007)))) rfl rfl ?_
              exact ⟨⟨_, rfl⟩, hI91, hE92⟩
          · replace q73 := of_decide_eq_false q73
            refine sx_RP.step (pc2 := 30) (ls2 := [(0, .ref 111), (1, .int (nI x2)), (2, .int a2), (3, .int a3)]) (st2 := [.ref 111]) (w3 := w) rfl rfl ?_
            refine sx_RP.step (pc2 := 31) (ls2 := [(0, .ref 111), (1, .int (nI x2)), (2, .int a2), (3, .int a3)]) (st2 := [.int 0, .ref 111]) (w3 := w) rfl rfl ?_
            refine sx_RP.callp (as2 := [.ref 111, .int 0]) (rest2 := []) rfl rfl (sx_inv_v2 (mi := 230) (k := 70) (st := [.int 0, .ref 111]) (w := w) rfl rfl hI.1.o111 rfl rfl rfl) rfl rfl rfl (s133_0 hI) (show _ = 34 from rfl) ?_
            rintro r4 w94 ⟨rfl, hI95, hE97⟩
            have hE96 := hE.tr (hE97.ef hI hI95)
            show sx_RP _ _ _ _ _ [.int (-1000000001)] _ _
            refine sx_RP.ret (r := (some (.int (-1000000001)))) rfl rfl ?_
            exact ⟨⟨_, rfl⟩, hI95, hE96⟩
