-- safety: the text of the reference: cells
theorem sx_RP.mSk {xs : Option (List Int32)} {d mi pc pc2 : Nat} {ls : sx_L} {r : List Value} {w w0 : List sx_C} {P : Option Value → List sx_C → Prop} {i x : Int32} {k : Nat} (hI : WI w) (hE : EM w0 w) (hi : sx_ins mi pc = some (.iastore, 1)) (hx : i = nI k) (hk : k < 172) (hv : eOK k x) (hp : pc + 1 = pc2) (kk : ∀ w2, WI w2 → EM w0 w2 → fi w2 111 14 = fi w 111 14 → sx_RP xs d mi pc2 ls r w2 P) : sx_RP xs d mi pc ls (.int x :: .int i :: .ref 112 :: r) w P := by
  subst hx
  have ha : 112 ≤ 112 ∧ 112 ≤ 115 := by decide
  have hw := hI.1.aM ha
  exact sx_RP.ist (c := k) hi hw.1 hw.2 (sx_in_nI hk (by decide)) (nI_clamp (by omega)) rfl hp (kk _ (hI.set hw.1 sh_set (cOK.s ha ((hI.sA ha).set hw.2 hk hv))) (hE.set hw.1 (by omega) (kp_n (by omega))) (fi_ne (by decide)))
set_option maxRecDepth 20000 in
set_option maxHeartbeats 4000000 in
theorem s224k {xs : Option (List Int32)} {d : Nat} {w : List sx_C} (hI : WI w) {c k : Nat} (hc : c < 48) (hk : k ≤ 4) : sx_RP xs d 224 0 (lv_args 0 [.ref 111, .int (nI c), .int (nI k)]) [] w (fun r w2 => (r = none ∧ fi w2 111 14 = fi w 111 14) ∧ WI w2 ∧ EM w w2) := by
  have hE : EM w w := EM.rf
  refine sx_RP.step (pc2 := 1) (ls2 := [(0, .ref 111), (1, .int (nI c)), (2, .int (nI k))]) (st2 := [.int (nI k)]) (w3 := w) rfl rfl ?_
  refine sx_RP.step (pc2 := 2) (ls2 := [(0, .ref 111), (1, .int (nI c)), (2, .int (nI k))]) (st2 := [.int 4, .int (nI k)]) (w3 := w) rfl rfl ?_
  refine sx_RP.br (p1 := 18) (l1 := [(0, .ref 111), (1, .int (nI c)), (2, .int (nI k))]) (s1 := []) (v1 := w) (p2 := 5) (l2 := [(0, .ref 111), (1, .int (nI c)), (2, .int (nI k))]) (s2 := []) (v2 := w) rfl rfl (fun q1 => ?_) (fun q1 => ?_)
  · replace q1 := of_decide_eq_true q1
    replace q1 := mt (nI_eq (a := k) (b := 4) (by omega) (by omega)).mpr q1
    refine sx_RP.step (pc2 := 19) (ls2 := [(0, .ref 111), (1, .int (nI c)), (2, .int (nI k))]) (st2 := [.ref 111]) (w3 := w) rfl rfl ?_
    refine sx_RP.gf (v := .ref 112) rfl rfl hI.1.o111 rfl rfl (show _ = 22 from rfl) ?_
    refine sx_RP.step (pc2 := 24) (ls2 := [(0, .ref 111), (1, .int (nI c)), (2, .int (nI k))]) (st2 := [.int 7, .ref 112]) (w3 := w) rfl rfl ?_
    refine sx_RP.step (pc2 := 25) (ls2 := [(0, .ref 111), (1, .int (nI c)), (2, .int (nI k))]) (st2 := [.int (nI c), .int 7, .ref 112]) (w3 := w) rfl rfl ?_
    refine sx_RP.step (pc2 := 26) (ls2 := [(0, .ref 111), (1, .int (nI c)), (2, .int (nI k))]) (st2 := [.int (7 + (nI c)), .ref 112]) (w3 := w) rfl rfl ?_
    rw [show (7 + (nI c) : Int32) = nI (7 + c) from nI_add 7 c]
    refine sx_RP.step (pc2 := 27) (ls2 := [(0, .ref 111), (1, .int (nI c)), (2, .int (nI k))]) (st2 := [.int (nI k), .int (nI (7 + c)), .ref 112]) (w3 := w) rfl rfl ?_
    refine sx_RP.mSk (k := (7 + c)) hI hE rfl rfl (by omega) (eOK_st (by omega) ⟨k, by omega, rfl⟩) (show _ = 28 from rfl) (fun w2 hI3 hE4 ht5 => ?_)
    refine sx_RP.ret (r := none) rfl rfl ?_
    exact ⟨⟨rfl, ht5⟩, hI3, hE4⟩
  · replace q1 := Decidable.not_not.mp (of_decide_eq_false q1)
    replace q1 := (nI_eq (a := k) (b := 4) (by omega) (by omega)).mp q1
    refine sx_RP.step (pc2 := 6) (ls2 := [(0, .ref 111), (1, .int (nI c)), (2, .int (nI k))]) (st2 := [.ref 111]) (w3 := w) rfl rfl ?_
    refine sx_RP.gf (v := .ref 112) rfl rfl hI.1.o111 rfl rfl (show _ = 9 from rfl) ?_
    refine sx_RP.step (pc2 := 11) (ls2 := [(0, .ref 111), (1, .int (nI c)), (2, .int (nI k))]) (st2 := [.int 55, .ref 112]) (w3 := w) rfl rfl ?_
    refine sx_RP.step (pc2 := 12) (ls2 := [(0, .ref 111), (1, .int (nI c)), (2, .int (nI k))]) (st2 := [.int (nI c), .int 55, .ref 112]) (w3 := w) rfl rfl ?_
    refine sx_RP.step (pc2 := 13) (ls2 := [(0, .ref 111), (1, .int (nI c)), (2, .int (nI k))]) (st2 := [.int (55 + (nI c)), .ref 112]) (w3 := w) rfl rfl ?_
    rw [show (55 + (nI c) : Int32) = nI (55 + c) from nI_add 55 c]
    refine sx_RP.step (pc2 := 14) (ls2 := [(0, .ref 111), (1, .int (nI c)), (2, .int (nI k))]) (st2 := [.int 1, .int (nI (55 + c)), .ref 112]) (w3 := w) rfl rfl ?_
    refine sx_RP.mSk (k := (55 + c)) hI hE rfl rfl (by omega) (eOK_n (by omega)) (show _ = 15 from rfl) (fun w6 hI7 hE8 ht9 => ?_)
    refine sx_RP.step (pc2 := 28) (ls2 := [(0, .ref 111), (1, .int (nI c)), (2, .int (nI k))]) (st2 := []) (w3 := w6) rfl rfl ?_
    refine sx_RP.ret (r := none) rfl rfl ?_
    exact ⟨⟨rfl, ht9⟩, hI7, hE8⟩
set_option maxRecDepth 20000 in
set_option maxHeartbeats 4000000 in
theorem s219c {xs : Option (List Int32)} {d k v : Nat} {w0 : List sx_C} (hk : k ≤ 4) (hv : v ≤ 47) : ∀ (fz j : Nat) (w : List sx_C), v + 1 ≤ j + fz → j ≤ 48 → fi w 111 14 = nI v → WI w → EM w0 w → sx_RP xs (d + 5) 219 62 [(0, .ref 111), (1, .int (nI k)), (3, .int (nI j))] [] w (fun r w2 => (r = some (.int 0) ∨ r = some (.int 1)) ∧ WI w2 ∧ EM w0 w2)
  | fz, j, w, h, hj, ev, hI, hE => by
    refine sx_RP.step (pc2 := 63) (ls2 := [(0, .ref 111), (1, .int (nI k)), (3, .int (nI j))]) (st2 := [.int (nI j)]) (w3 := w) rfl rfl ?_
    refine sx_RP.step (pc2 := 64) (ls2 := [(0, .ref 111), (1, .int (nI k)), (3, .int (nI j))]) (st2 := [.ref 111, .int (nI j)]) (w3 := w) rfl rfl ?_
    refine sx_RP.gf (v := .int (fi w 111 14)) rfl rfl hI.1.o111 rfl rfl (show _ = 67 from rfl) ?_
    rw [ev]
    refine sx_RP.br (p1 := 82) (l1 := [(0, .ref 111), (1, .int (nI k)), (3, .int (nI j))]) (s1 := []) (v1 := w) (p2 := 70) (l2 := [(0, .ref 111), (1, .int (nI k)), (3, .int (nI j))]) (s2 := []) (v2 := w) rfl rfl (fun q1 => ?_) (fun q1 => ?_)
    · replace q1 := of_decide_eq_true q1
      replace q1 := (nI_ltI (a := v) (b := j) (by omega) (by omega)).mp q1
      refine sx_RP.step (pc2 := 83) (ls2 := [(0, .ref 111), (1, .int (nI k)), (3, .int (nI j))]) (st2 := [.int 1]) (w3 := w) rfl rfl ?_
      refine sx_RP.ret (r := (some (.int 1))) rfl rfl ?_
      exact ⟨Or.inr rfl, hI, hE⟩
    · replace q1 := of_decide_eq_false q1
      replace q1 := mt (nI_ltI (a := v) (b := j) (by omega) (by omega)).mpr q1
      refine sx_RP.step (pc2 := 71) (ls2 := [(0, .ref 111), (1, .int (nI k)), (3, .int (nI j))]) (st2 := [.ref 111]) (w3 := w) rfl rfl ?_
      refine sx_RP.step (pc2 := 72) (ls2 := [(0, .ref 111), (1, .int (nI k)), (3, .int (nI j))]) (st2 := [.int (nI j), .ref 111]) (w3 := w) rfl rfl ?_
      refine sx_RP.step (pc2 := 73) (ls2 := [(0, .ref 111), (1, .int (nI k)), (3, .int (nI j))]) (st2 := [.int (nI k), .int (nI j), .ref 111]) (w3 := w) rfl rfl ?_
      refine sx_RP.callp (as2 := [.ref 111, .int (nI j), .int (nI k)]) (rest2 := []) rfl rfl (sx_inv_v2 (mi := 219) (k := 270) (st := [.int (nI k), .int (nI j), .ref 111]) (w := w) rfl rfl hI.1.o111 rfl rfl rfl) rfl rfl rfl (s224k hI (show j < 48 by omega) (show k ≤ 4 by omega)) (show _ = 76 from rfl) ?_
      rintro r4 w3 ⟨⟨rfl, ht2⟩, hI4, hE6⟩
      have hE5 := hE.tr (hE6)
      have ex7 := ht2.trans ev
      show sx_RP _ _ _ _ _ [] _ _
      refine sx_RP.step (pc2 := 79) (ls2 := [(3, .int ((nI j) + 1)), (0, .ref 111), (1, .int (nI k))]) (st2 := []) (w3 := w3) rfl rfl ?_
      rw [nI_1 j]
      refine sx_RP.step (pc2 := 62) (ls2 := [(3, .int (nI (j + 1))), (0, .ref 111), (1, .int (nI k))]) (st2 := []) (w3 := w3) rfl rfl ?_
      match fz, h with
      | 0, h => exact absurd h (by omega)
      | fz + 1, h => exact sx_RP.ls (sx_lr.cons rfl (sx_lr.cons rfl (sx_lr.cons rfl sx_lr.nil))) (s219c hk hv fz (j + 1) w3 (by omega) (by omega) ex7 hI4 hE5)
set_option maxRecDepth 20000 in
set_option maxHeartbeats 4000000 in
theorem s219b {xs : Option (List Int32)} {d k : Nat} {w0 : List sx_C} (hk : k ≤ 4) : ∀ (fz j : Nat) (w : List sx_C), 48 ≤ j + fz → j ≤ 48 → WI w → EM w0 w → sx_RP xs (d + 5) 219 2 [(0, .ref 111), (1, .int (nI k)), (2, .int (nI j - 1))] [] w (fun r w2 => (r = some (.int 0) ∨ r = some (.int 1)) ∧ WI w2 ∧ EM w0 w2)
  | fz, j, w, h, hj, hI, hE => by
    refine sx_RP.step (pc2 := 3) (ls2 := [(0, .ref 111), (1, .int (nI k)), (2, .int (nI j - 1))]) (st2 := [.ref 111]) (w3 := w) rfl rfl ?_
    refine sx_RP.step (pc2 := 4) (ls2 := [(0, .ref 111), (1, .int (nI k)), (2, .int (nI j - 1))]) (st2 := [.int (nI j - 1), .ref 111]) (w3 := w) rfl rfl ?_
    refine sx_RP.step (pc2 := 5) (ls2 := [(0, .ref 111), (1, .int (nI k)), (2, .int (nI j - 1))]) (st2 := [.int 1, .int (nI j - 1), .ref 111]) (w3 := w) rfl rfl ?_
    refine sx_RP.step (pc2 := 6) (ls2 := [(0, .ref 111), (1, .int (nI k)), (2, .int (nI j - 1))]) (st2 := [.int (nI j - 1 + 1), .ref 111]) (w3 := w) rfl rfl ?_
    rw [show nI j - 1 + 1 = nI j from Int32.sub_add_cancel ..]
    refine sx_RP.step (pc2 := 8) (ls2 := [(0, .ref 111), (1, .int (nI k)), (2, .int (nI j - 1))]) (st2 := [.int 47, .int (nI j), .ref 111]) (w3 := w) rfl rfl ?_
    refine sx_RP.callp (as2 := [.ref 111, .int (nI j), .int 47]) (rest2 := []) rfl rfl (sx_inv_v2 (mi := 219) (k := 267) (st := [.int 47, .int (nI j), .ref 111]) (w := w) rfl rfl hI.1.o111 rfl rfl rfl) rfl rfl rfl (s220 (m := j) (n := 47) hI (by omega) (by omega)) (show _ = 11 from rfl) ?_
    rintro r4 w5 ⟨(rfl | ⟨x1, ⟨hx2, hx3, ex4⟩, rfl⟩), hI6, hE8⟩
    · have hE7 := hE.tr (hE8.em)
      show sx_RP _ _ _ _ _ [.int 0] _ _
      refine sx_RP.step (pc2 := 14) (ls2 := [(0, .ref 111), (1, .int (nI k)), (2, .int (nI j - 1))]) (st2 := []) (w3 := w5) rfl rfl ?_
      refine sx_RP.step (pc2 := 15) (ls2 := [(0, .ref 111), (1, .int (nI k)), (2, .int (nI j - 1))]) (st2 := [.int 0]) (w3 := w5) rfl rfl ?_
      refine sx_RP.ret (r := (some (.int 0))) rfl rfl ?_
      exact ⟨Or.inl rfl, hI6, hE7⟩
    · have hE7 := hE.tr (hE8.em)
      show sx_RP _ _ _ _ _ [.int 1] _ _
      refine sx_RP.step (pc2 := 16) (ls2 := [(0, .ref 111), (1, .int (nI k)), (2, .int (nI j - 1))]) (st2 := []) (w3 := w5) rfl rfl ?_
      refine sx_RP.step (pc2 := 17) (ls2 := [(0, .ref 111), (1, .int (nI k)), (2, .int (nI j - 1))]) (st2 := [.ref 111]) (w3 := w5) rfl rfl ?_
      refine sx_RP.gf (v := .int (fi w5 111 14)) rfl rfl hI6.1.o111 rfl rfl (show _ = 20 from rfl) ?_
      rw [ex4]
      refine sx_RP.step (pc2 := 21) (ls2 := [(2, .int (nI x1)), (0, .ref 111), (1, .int (nI k))]) (st2 := []) (w3 := w5) rfl rfl ?_
      refine sx_RP.step (pc2 := 22) (ls2 := [(2, .int (nI x1)), (0, .ref 111), (1, .int (nI k))]) (st2 := [.ref 111]) (w3 := w5) rfl rfl ?_
      refine sx_RP.step (pc2 := 23) (ls2 := [(2, .int (nI x1)), (0, .ref 111), (1, .int (nI k))]) (st2 := [.int (nI x1), .ref 111]) (w3 := w5) rfl rfl ?_
      refine sx_RP.step (pc2 := 24) (ls2 := [(2, .int (nI x1)), (0, .ref 111), (1, .int (nI k))]) (st2 := [.int (nI k), .int (nI x1), .ref 111]) (w3 := w5) rfl rfl ?_
      refine sx_RP.callp (as2 := [.ref 111, .int (nI x1), .int (nI k)]) (rest2 := []) rfl rfl (sx_inv_v2 (mi := 219) (k := 270) (st := [.int (nI k), .int (nI x1), .ref 111]) (w := w5) rfl rfl hI6.1.o111 rfl rfl rfl) rfl rfl rfl (s224k hI6 (show x1 < 48 by omega) (show k ≤ 4 by omega)) (show _ = 27 from rfl) ?_
      rintro r4 w10 ⟨⟨rfl, ht9⟩, hI11, hE13⟩
      have hE12 := hE7.tr (hE13)
      have ex14 := ht9.trans ex4
      show sx_RP _ _ _ _ _ [] _ _
      refine sx_RP.step (pc2 := 28) (ls2 := [(2, .int (nI x1)), (0, .ref 111), (1, .int (nI k))]) (st2 := [.ref 111]) (w3 := w10) rfl rfl ?_
      refine sx_RP.callp (as2 := [.ref 111]) (rest2 := []) rfl rfl (sx_inv_v2 (mi := 219) (k := 273) (st := [.ref 111]) (w := w10) rfl rfl hI11.1.o111 rfl rfl rfl) rfl rfl rfl (s225 hI11 ) (show _ = 31 from rfl) ?_
      rintro r4 w15 ⟨(rfl | rfl), hI16, hE18⟩
      · have hE17 := hE12.tr (hE18.em)
        show sx_RP _ _ _ _ _ [.int 0] _ _
        refine sx_RP.step (pc2 := 34) (ls2 := [(2, .int (nI x1)), (0, .ref 111), (1, .int (nI k))]) (st2 := []) (w3 := w15) rfl rfl ?_
        refine sx_RP.step (pc2 := 35) (ls2 := [(2, .int (nI x1)), (0, .ref 111), (1, .int (nI k))]) (st2 := [.ref 111]) (w3 := w15) rfl rfl ?_
        refine sx_RP.step (pc2 := 38) (ls2 := [(2, .int (nI x1)), (0, .ref 111), (1, .int (nI k))]) (st2 := [.float 116, .ref 111]) (w3 := w15) rfl rfl ?_
        refine sx_RP.callp (as2 := [.ref 111, .float 116]) (rest2 := []) rfl rfl (sx_inv_v2 (mi := 219) (k := 243) (st := [.float 116, .ref 111]) (w := w15) rfl rfl hI16.1.o111 rfl rfl rfl) rfl rfl rfl (s213 (k := 116) hI16 (by decide) rfl (by decide)) (show _ = 41 from rfl) ?_
        rintro r4 w19 ⟨(rfl | rfl), hI20, hE22⟩
        · have hE21 := hE17.tr (hE22.em)
          show sx_RP _ _ _ _ _ [.int 0] _ _
          refine sx_RP.step (pc2 := 44) (ls2 := [(2, .int (nI x1)), (0, .ref 111), (1, .int (nI k))]) (st2 := []) (w3 := w19) rfl rfl ?_
          refine sx_RP.step (pc2 := 45) (ls2 := [(2, .int (nI x1)), (0, .ref 111), (1, .int (nI k))]) (st2 := [.int 1]) (w3 := w19) rfl rfl ?_
          refine sx_RP.ret (r := (some (.int 1))) rfl rfl ?_
          exact ⟨Or.inr rfl, hI20, hE21⟩
        · have hE21 := hE17.tr (hE22.em)
          show sx_RP _ _ _ _ _ [.int 1] _ _
          refine sx_RP.step (pc2 := 46) (ls2 := [(2, .int (nI x1)), (0, .ref 111), (1, .int (nI k))]) (st2 := []) (w3 := w19) rfl rfl ?_
          refine sx_RP.step (pc2 := 47) (ls2 := [(2, .int (nI x1)), (0, .ref 111), (1, .int (nI k))]) (st2 := [.ref 111]) (w3 := w19) rfl rfl ?_
          refine sx_RP.step (pc2 := 48) (ls2 := [(2, .int (nI x1)), (0, .ref 111), (1, .int (nI k))]) (st2 := [.int (nI x1), .ref 111]) (w3 := w19) rfl rfl ?_
          refine sx_RP.step (pc2 := 49) (ls2 := [(2, .int (nI x1)), (0, .ref 111), (1, .int (nI k))]) (st2 := [.int 1, .int (nI x1), .ref 111]) (w3 := w19) rfl rfl ?_
          refine sx_RP.step (pc2 := 50) (ls2 := [(2, .int (nI x1)), (0, .ref 111), (1, .int (nI k))]) (st2 := [.int ((nI x1) + 1), .ref 111]) (w3 := w19) rfl rfl ?_
          rw [show ((nI x1) + 1 : Int32) = nI (x1 + 1) from nI_add x1 1]
          refine sx_RP.step (pc2 := 52) (ls2 := [(2, .int (nI x1)), (0, .ref 111), (1, .int (nI k))]) (st2 := [.int 47, .int (nI (x1 + 1)), .ref 111]) (w3 := w19) rfl rfl ?_
          refine sx_RP.callp (as2 := [.ref 111, .int (nI (x1 + 1)), .int 47]) (rest2 := []) rfl rfl (sx_inv_v2 (mi := 219) (k := 267) (st := [.int 47, .int (nI (x1 + 1)), .ref 111]) (w := w19) rfl rfl hI20.1.o111 rfl rfl rfl) rfl rfl rfl (s220 (m := (x1 + 1)) (n := 47) hI20 (by omega) (by omega)) (show _ = 55 from rfl) ?_
          rintro r4 w27 ⟨(rfl | ⟨x23, ⟨hx24, hx25, ex26⟩, rfl⟩), hI28, hE30⟩
          · have hE29 := hE21.tr (hE30.em)
            show sx_RP _ _ _ _ _ [.int 0] _ _
            refine sx_RP.step (pc2 := 58) (ls2 := [(2, .int (nI x1)), (0, .ref 111), (1, .int (nI k))]) (st2 := []) (w3 := w27) rfl rfl ?_
            refine sx_RP.step (pc2 := 59) (ls2 := [(2, .int (nI x1)), (0, .ref 111), (1, .int (nI k))]) (st2 := [.int 0]) (w3 := w27) rfl rfl ?_
            refine sx_RP.ret (r := (some (.int 0))) rfl rfl ?_
            exact ⟨Or.inl rfl, hI28, hE29⟩
          · have hE29 := hE21.tr (hE30.em)
            show sx_RP _ _ _ _ _ [.int 1] _ _
            refine sx_RP.step (pc2 := 60) (ls2 := [(2, .int (nI x1)), (0, .ref 111), (1, .int (nI k))]) (st2 := []) (w3 := w27) rfl rfl ?_
            refine sx_RP.step (pc2 := 61) (ls2 := [(2, .int (nI x1)), (0, .ref 111), (1, .int (nI k))]) (st2 := [.int (nI x1)]) (w3 := w27) rfl rfl ?_
            refine sx_RP.step (pc2 := 62) (ls2 := [(3, .int (nI x1)), (2, .int (nI x1)), (0, .ref 111), (1, .int (nI k))]) (st2 := []) (w3 := w27) rfl rfl ?_
            exact sx_RP.ls (sx_lr.cons rfl (sx_lr.cons rfl (sx_lr.cons rfl sx_lr.nil))) (s219c hk (v := x23) (by omega) 48 x1 w27 (by omega) (by omega) ex26 hI28 hE29)
      · have hE17 := hE12.tr (hE18.em)
        show sx_RP _ _ _ _ _ [.int 1] _ _
        refine sx_RP.step (pc2 := 2) (ls2 := [(2, .int (nI x1)), (0, .ref 111), (1, .int (nI k))]) (st2 := []) (w3 := w15) rfl rfl ?_
        match fz, h with
        | 0, h => exact absurd h (by omega)
        | fz + 1, h =>
          have IH := s219b (xs := xs) (d := d) hk fz (x1 + 1) w15 (by omega) (by omega) hI16 hE17
          rw [fd_s1] at IH
          exact sx_RP.ls (sx_lr.cons rfl (sx_lr.cons rfl (sx_lr.cons rfl sx_lr.nil))) IH
set_option maxRecDepth 20000 in
set_option maxHeartbeats 4000000 in
theorem s219 {xs : Option (List Int32)} {d : Nat} {w : List sx_C} (hI : WI w) {k : Nat} (hk : k ≤ 4) : sx_RP xs (d + 5) 219 0 (lv_args 0 [.ref 111, .int (nI k)]) [] w (fun r w2 => (r = some (.int 0) ∨ r = some (.int 1)) ∧ WI w2 ∧ EM w w2) := by
  have hE : EM w w := EM.rf
  refine sx_RP.step (pc2 := 1) (ls2 := [(0, .ref 111), (1, .int (nI k))]) (st2 := [.int (-1)]) (w3 := w) rfl rfl ?_
  refine sx_RP.step (pc2 := 2) (ls2 := [(2, .int (-1)), (0, .ref 111), (1, .int (nI k))]) (st2 := []) (w3 := w) rfl rfl ?_
  exact sx_RP.ls (sx_lr.cons rfl (sx_lr.cons rfl (sx_lr.cons rfl sx_lr.nil))) (s219b hk 48 0 w (by omega) (by omega) hI hE)
