-- safety: siege of the reference
theorem sx_RP.pmF {xs : Option (List Int32)} {d mi pc pc2 idx p : Nat} {ls : sx_L} {r : List Value} {w w0 : List sx_C} {P : Option Value → List sx_C → Prop} {k : Nat} {v : Int32} (hI : WI w) (hE : EF w0 w) (hi : sx_ins mi pc = some (.putfield idx, 3)) (hq : sx_lk (sx_fl (sx_own mi)) idx = some (6, k, p)) (hk : 12 ≤ k ∧ k < 15) (hf : sx_fin mi 6 k = true) (hv : mR k v) (hp : pc + 3 = pc2) (kk : ∀ w2, WI w2 → EF w0 w2 → fi w2 111 k = v → (∀ j, j ≠ k → fi w2 111 j = fi w 111 j) → (∀ a, a ≠ 111 → w2[a]? = w[a]?) → sx_RP xs d mi pc2 ls r w2 P) : sx_RP xs d mi pc ls (.int v :: .ref 111 :: r) w P :=
  sx_RP.pm hI EM.rf hi hq hk hf hv hp (fun w2 h1 h2 h3 h4 h5 => kk w2 h1 (hE.tr (h2.ef hI h1)) h3 h4 h5)
theorem hr_n {w w2 : List sx_C} {p x : Nat} (ep : fi w 111 12 = nI p) (ex : fi w2 111 12 = nI x) (hp : p < 2 ^ 31) (hx : x < 2 ^ 31) (h : (fi w 111 12).toInt ≤ (fi w2 111 12).toInt) : p ≤ x := by
  rw [ep, ex, nI_toInt hp, nI_toInt hx] at h
  omega
set_option maxRecDepth 20000 in
set_option maxHeartbeats 4000000 in
theorem s210e {xs : Option (List Int32)} {d : Nat} {w w0 : List sx_C} (l : Int32) (hI : WI w) (hE : EF w0 w) : sx_RP xs (d + 8) 210 83 [(0, .ref 111), (1, .int l)] [] w (fun r w2 => (∃ v : Int32, r = some (.int v)) ∧ WI w2 ∧ EF w0 w2) := by
  refine sx_RP.step (pc2 := 84) (ls2 := [(0, .ref 111), (1, .int l)]) (st2 := [.ref 111]) (w3 := w) rfl rfl ?_
  refine sx_RP.gf (v := .int (fi w 111 13)) rfl rfl hI.1.o111 rfl rfl (show _ = 87 from rfl) ?_
  refine sx_RP.br (p1 := 106) (l1 := [(0, .ref 111), (1, .int l)]) (s1 := []) (v1 := w) (p2 := 90) (l2 := [(0, .ref 111), (1, .int l)]) (s2 := []) (v2 := w) rfl rfl (fun q1 => ?_) (fun q1 => ?_)
  · replace q1 := of_decide_eq_true q1
    refine sx_RP.step (pc2 := 107) (ls2 := [(0, .ref 111), (1, .int l)]) (st2 := [.ref 111]) (w3 := w) rfl rfl ?_
    refine sx_RP.step (pc2 := 108) (ls2 := [(0, .ref 111), (1, .int l)]) (st2 := [.int 0, .ref 111]) (w3 := w) rfl rfl ?_
    refine sx_RP.pmtF hI hE rfl rfl rfl ⟨0, by decide, rfl⟩ (show _ = 111 from rfl) (fun w2 hI3 hE4 ht5 => ?_)
    refine sx_RP.step (pc2 := 112) (ls2 := [(0, .ref 111), (1, .int l)]) (st2 := [.ref 111]) (w3 := w2) rfl rfl ?_
    refine sx_RP.gf (v := .int (fi w2 111 13)) rfl rfl hI3.1.o111 rfl rfl (show _ = 115 from rfl) ?_
    refine sx_RP.br (p1 := 136) (l1 := [(0, .ref 111), (1, .int l)]) (s1 := []) (v1 := w2) (p2 := 118) (l2 := [(0, .ref 111), (1, .int l)]) (s2 := []) (v2 := w2) rfl rfl (fun q6 => ?_) (fun q6 => ?_)
    · replace q6 := of_decide_eq_true q6
      refine sx_RP.step (pc2 := 137) (ls2 := [(0, .ref 111), (1, .int l)]) (st2 := [.int l]) (w3 := w2) rfl rfl ?_
      refine sx_RP.ret (r := (some (.int l))) rfl rfl ?_
      exact ⟨⟨_, rfl⟩, hI3, hE4⟩
    · replace q6 := of_decide_eq_false q6
      refine sx_RP.step (pc2 := 119) (ls2 := [(0, .ref 111), (1, .int l)]) (st2 := [.ref 111]) (w3 := w2) rfl rfl ?_
      refine sx_RP.gf (v := .ref 115) rfl rfl hI3.1.o111 rfl rfl (show _ = 122 from rfl) ?_
      refine sx_RP.step (pc2 := 123) (ls2 := [(0, .ref 111), (1, .int l)]) (st2 := [.ref 111, .ref 115]) (w3 := w2) rfl rfl ?_
      refine sx_RP.gf (v := .ref 112) rfl rfl hI3.1.o111 rfl rfl (show _ = 126 from rfl) ?_
      refine sx_RP.callp (as2 := [.ref 115, .ref 112]) (rest2 := []) rfl rfl rfl rfl rfl rfl (s175 hI3 (a := 115) (b := 112) (by decide) (by decide)) (show _ = 129 from rfl) ?_
      rintro r4 w7 ⟨rfl, hI8, hE10⟩
      have hE9 := hE4.tr (hE10.ef hI3 hI8)
      show sx_RP _ _ _ _ _ [] _ _
      refine sx_RP.step (pc2 := 130) (ls2 := [(0, .ref 111), (1, .int l)]) (st2 := [.int (-1)]) (w3 := w7) rfl rfl ?_
      refine sx_RP.step (pc2 := 131) (ls2 := [(0, .ref 111), (1, .int l)]) (st2 := [.ref 111, .int (-1)]) (w3 := w7) rfl rfl ?_
      refine sx_RP.gf (v := .int (fi w7 111 13)) rfl rfl hI8.1.o111 rfl rfl (show _ = 134 from rfl) ?_
      refine sx_RP.step (pc2 := 135) (ls2 := [(0, .ref 111), (1, .int l)]) (st2 := [.int ((-1) - (fi w7 111 13))]) (w3 := w7) rfl rfl ?_
      refine sx_RP.ret (r := (some (.int ((-1) - (fi w7 111 13))))) rfl rfl ?_
      exact ⟨⟨_, rfl⟩, hI8, hE9⟩
  · replace q1 := of_decide_eq_false q1
    refine sx_RP.step (pc2 := 91) (ls2 := [(0, .ref 111), (1, .int l)]) (st2 := [.ref 111]) (w3 := w) rfl rfl ?_
    refine sx_RP.gf (v := .int (fi w 111 12)) rfl rfl hI.1.o111 rfl rfl (show _ = 94 from rfl) ?_
    obtain ⟨x11, hx12, ex13⟩ : inR (fi w 111 12) 120 := hI.m.2.2
    rw [ex13]
    refine sx_RP.step (pc2 := 95) (ls2 := [(0, .ref 111), (1, .int l)]) (st2 := [.ref 111, .int (nI x11)]) (w3 := w) rfl rfl ?_
    refine sx_RP.gf (v := .int (fi w 111 11)) rfl rfl hI.1.o111 rfl rfl (show _ = 98 from rfl) ?_
    obtain ⟨x14, hx15, ex16⟩ : inR (fi w 111 11) 120 := hI.m.2.1
    rw [ex16]
    refine sx_RP.br (p1 := 106) (l1 := [(0, .ref 111), (1, .int l)]) (s1 := []) (v1 := w) (p2 := 101) (l2 := [(0, .ref 111), (1, .int l)]) (s2 := []) (v2 := w) rfl rfl (fun q17 => ?_) (fun q17 => ?_)
    · replace q17 := of_decide_eq_true q17
      replace q17 := (nI_leI (a := x14) (b := x11) (by omega) (by omega)).mp q17
      refine sx_RP.step (pc2 := 107) (ls2 := [(0, .ref 111), (1, .int l)]) (st2 := [.ref 111]) (w3 := w) rfl rfl ?_
      refine sx_RP.step (pc2 := 108) (ls2 := [(0, .ref 111), (1, .int l)]) (st2 := [.int 0, .ref 111]) (w3 := w) rfl rfl ?_
      refine sx_RP.pmtF hI hE rfl rfl rfl ⟨0, by decide, rfl⟩ (show _ = 111 from rfl) (fun w18 hI19 hE20 ht21 => ?_)
      refine sx_RP.step (pc2 := 112) (ls2 := [(0, .ref 111), (1, .int l)]) (st2 := [.ref 111]) (w3 := w18) rfl rfl ?_
      refine sx_RP.gf (v := .int (fi w18 111 13)) rfl rfl hI19.1.o111 rfl rfl (show _ = 115 from rfl) ?_
      refine sx_RP.br (p1 := 136) (l1 := [(0, .ref 111), (1, .int l)]) (s1 := []) (v1 := w18) (p2 := 118) (l2 := [(0, .ref 111), (1, .int l)]) (s2 := []) (v2 := w18) rfl rfl (fun q22 => ?_) (fun q22 => ?_)
      · replace q22 := of_decide_eq_true q22
        refine sx_RP.step (pc2 := 137) (ls2 := [(0, .ref 111), (1, .int l)]) (st2 := [.int l]) (w3 := w18) rfl rfl ?_
        refine sx_RP.ret (r := (some (.int l))) rfl rfl ?_
        exact ⟨⟨_, rfl⟩, hI19, hE20⟩
      · replace q22 := of_decide_eq_false q22
        refine sx_RP.step (pc2 := 119) (ls2 := [(0, .ref 111), (1, .int l)]) (st2 := [.ref 111]) (w3 := w18) rfl rfl ?_
        refine sx_RP.gf (v := .ref 115) rfl rfl hI19.1.o111 rfl rfl (show _ = 122 from rfl) ?_
        refine sx_RP.step (pc2 := 123) (ls2 := [(0, .ref 111), (1, .int l)]) (st2 := [.ref 111, .ref 115]) (w3 := w18) rfl rfl ?_
        refine sx_RP.gf (v := .ref 112) rfl rfl hI19.1.o111 rfl rfl (show _ = 126 from rfl) ?_
        refine sx_RP.callp (as2 := [.ref 115, .ref 112]) (rest2 := []) rfl rfl rfl rfl rfl rfl (s175 hI19 (a := 115) (b := 112) (by decide) (by decide)) (show _ = 129 from rfl) ?_
        rintro r4 w23 ⟨rfl, hI24, hE26⟩
        have hE25 := hE20.tr (hE26.ef hI19 hI24)
        show sx_RP _ _ _ _ _ [] _ _
        refine sx_RP.step (pc2 := 130) (ls2 := [(0, .ref 111), (1, .int l)]) (st2 := [.int (-1)]) (w3 := w23) rfl rfl ?_
        refine sx_RP.step (pc2 := 131) (ls2 := [(0, .ref 111), (1, .int l)]) (st2 := [.ref 111, .int (-1)]) (w3 := w23) rfl rfl ?_
        refine sx_RP.gf (v := .int (fi w23 111 13)) rfl rfl hI24.1.o111 rfl rfl (show _ = 134 from rfl) ?_
        refine sx_RP.step (pc2 := 135) (ls2 := [(0, .ref 111), (1, .int l)]) (st2 := [.int ((-1) - (fi w23 111 13))]) (w3 := w23) rfl rfl ?_
        refine sx_RP.ret (r := (some (.int ((-1) - (fi w23 111 13))))) rfl rfl ?_
        exact ⟨⟨_, rfl⟩, hI24, hE25⟩
    · replace q17 := of_decide_eq_false q17
      replace q17 := mt (nI_leI (a := x14) (b := x11) (by omega) (by omega)).mpr q17
      refine sx_RP.step (pc2 := 102) (ls2 := [(0, .ref 111), (1, .int l)]) (st2 := [.ref 111]) (w3 := w) rfl rfl ?_
      refine sx_RP.callp (as2 := [.ref 111]) (rest2 := []) rfl rfl (sx_inv_v2 (mi := 210) (k := 245) (st := [.ref 111]) (w := w) rfl rfl hI.1.o111 rfl rfl rfl) rfl rfl rfl (s222 hI) (show _ = 105 from rfl) ?_
      rintro r4 w27 ⟨rfl, hI28, hE30⟩
      have hE29 := hE.tr (hE30.em.ef hI hI28)
      show sx_RP _ _ _ _ _ [.int 0] _ _
      refine sx_RP.step (pc2 := 106) (ls2 := [(0, .ref 111), (1, .int l)]) (st2 := []) (w3 := w27) rfl rfl ?_
      refine sx_RP.step (pc2 := 107) (ls2 := [(0, .ref 111), (1, .int l)]) (st2 := [.ref 111]) (w3 := w27) rfl rfl ?_
      refine sx_RP.step (pc2 := 108) (ls2 := [(0, .ref 111), (1, .int l)]) (st2 := [.int 0, .ref 111]) (w3 := w27) rfl rfl ?_
      refine sx_RP.pmtF hI28 hE29 rfl rfl rfl ⟨0, by decide, rfl⟩ (show _ = 111 from rfl) (fun w31 hI32 hE33 ht34 => ?_)
      refine sx_RP.step (pc2 := 112) (ls2 := [(0, .ref 111), (1, .int l)]) (st2 := [.ref 111]) (w3 := w31) rfl rfl ?_
      refine sx_RP.gf (v := .int (fi w31 111 13)) rfl rfl hI32.1.o111 rfl rfl (show _ = 115 from rfl) ?_
      refine sx_RP.br (p1 := 136) (l1 := [(0, .ref 111), (1, .int l)]) (s1 := []) (v1 := w31) (p2 := 118) (l2 := [(0, .ref 111), (1, .int l)]) (s2 := []) (v2 := w31) rfl rfl (fun q35 => ?_) (fun q35 => ?_)
      · replace q35 := of_decide_eq_true q35
        refine sx_RP.step (pc2 := 137) (ls2 := [(0, .ref 111), (1, .int l)]) (st2 := [.int l]) (w3 := w31) rfl rfl ?_
        refine sx_RP.ret (r := (some (.int l))) rfl rfl ?_
        exact ⟨⟨_, rfl⟩, hI32, hE33⟩
      · replace q35 := of_decide_eq_false q35
        refine sx_RP.step (pc2 := 119) (ls2 := [(0, .ref 111), (1, .int l)]) (st2 := [.ref 111]) (w3 := w31) rfl rfl ?_
        refine sx_RP.gf (v := .ref 115) rfl rfl hI32.1.o111 rfl rfl (show _ = 122 from rfl) ?_
        refine sx_RP.step (pc2 := 123) (ls2 := [(0, .ref 111), (1, .int l)]) (st2 := [.ref 111, .ref 115]) (w3 := w31) rfl rfl ?_
        refine sx_RP.gf (v := .ref 112) rfl rfl hI32.1.o111 rfl rfl (show _ = 126 from rfl) ?_
        refine sx_RP.callp (as2 := [.ref 115, .ref 112]) (rest2 := []) rfl rfl rfl rfl rfl rfl (s175 hI32 (a := 115) (b := 112) (by decide) (by decide)) (show _ = 129 from rfl) ?_
        rintro r4 w36 ⟨rfl, hI37, hE39⟩
        have hE38 := hE33.tr (hE39.ef hI32 hI37)
        show sx_RP _ _ _ _ _ [] _ _
        refine sx_RP.step (pc2 := 130) (ls2 := [(0, .ref 111), (1, .int l)]) (st2 := [.int (-1)]) (w3 := w36) rfl rfl ?_
        refine sx_RP.step (pc2 := 131) (ls2 := [(0, .ref 111), (1, .int l)]) (st2 := [.ref 111, .int (-1)]) (w3 := w36) rfl rfl ?_
        refine sx_RP.gf (v := .int (fi w36 111 13)) rfl rfl hI37.1.o111 rfl rfl (show _ = 134 from rfl) ?_
        refine sx_RP.step (pc2 := 135) (ls2 := [(0, .ref 111), (1, .int l)]) (st2 := [.int ((-1) - (fi w36 111 13))]) (w3 := w36) rfl rfl ?_
        refine sx_RP.ret (r := (some (.int ((-1) - (fi w36 111 13))))) rfl rfl ?_
        exact ⟨⟨_, rfl⟩, hI37, hE38⟩
set_option maxRecDepth 20000 in
set_option maxHeartbeats 4000000 in
theorem s210L {xs : Option (List Int32)} {d : Nat} {w0 : List sx_C} : ∀ (fz p : Nat) (l : Int32) (w : List sx_C), 121 ≤ p + fz → p ≤ 120 → fi w 111 12 = nI p → WI w → EF w0 w → sx_RP xs (d + 8) 210 25 [(0, .ref 111), (1, .int l), (2, .int 1)] [] w (fun r w2 => (∃ v : Int32, r = some (.int v)) ∧ WI w2 ∧ EF w0 w2)
  | fz, p, l, w, h, hp, ep, hI, hE => by
    refine sx_RP.step (pc2 := 26) (ls2 := [(0, .ref 111), (1, .int l), (2, .int 1)]) (st2 := [.int 1]) (w3 := w) rfl rfl ?_
    refine sx_RP.step (pc2 := 29) (ls2 := [(0, .ref 111), (1, .int l), (2, .int 1)]) (st2 := []) (w3 := w) rfl rfl ?_
    refine sx_RP.step (pc2 := 30) (ls2 := [(0, .ref 111), (1, .int l), (2, .int 1)]) (st2 := [.ref 111]) (w3 := w) rfl rfl ?_
    refine sx_RP.callp (as2 := [.ref 111]) (rest2 := []) rfl rfl (sx_inv_v2 (mi := 210) (k := 333) (st := [.ref 111]) (w := w) rfl rfl hI.1.o111 rfl rfl rfl) rfl rfl rfl (s211 hI ) (show _ = 33 from rfl) ?_
    rintro r4 w1 ⟨(rfl | rfl), hI2, hE4⟩
    · have hE3 := hE.tr (hE4.1.ef hI hI2)
      show sx_RP _ _ _ _ _ [.int 0] _ _
      refine sx_RP.step (pc2 := 83) (ls2 := [(0, .ref 111), (1, .int l), (2, .int 1)]) (st2 := []) (w3 := w1) rfl rfl ?_
      exact sx_RP.ls (sx_lr.cons rfl (sx_lr.cons rfl sx_lr.nil)) (s210e _ hI2 hE3)
    · have hE3 := hE.tr (hE4.1.ef hI hI2)
      show sx_RP _ _ _ _ _ [.int 1] _ _
      refine sx_RP.step (pc2 := 36) (ls2 := [(0, .ref 111), (1, .int l), (2, .int 1)]) (st2 := []) (w3 := w1) rfl rfl ?_
      refine sx_RP.step (pc2 := 39) (ls2 := [(1, .int (l + 1)), (0, .ref 111), (2, .int 1)]) (st2 := []) (w3 := w1) rfl rfl ?_
      refine sx_RP.step (pc2 := 40) (ls2 := [(1, .int (l + 1)), (0, .ref 111), (2, .int 1)]) (st2 := [.ref 111]) (w3 := w1) rfl rfl ?_
      refine sx_RP.callp (as2 := [.ref 111]) (rest2 := []) rfl rfl (sx_inv_v2 (mi := 210) (k := 224) (st := [.ref 111]) (w := w1) rfl rfl hI2.1.o111 rfl rfl rfl) rfl rfl rfl (s215 hI2) (show _ = 43 from rfl) ?_
      rintro r4 w5 ⟨⟨rfl, _⟩, hI6, hE8⟩
      have hE7 := hE3.tr (hE8.em.ef hI2 hI6)
      show sx_RP _ _ _ _ _ [] _ _
      refine sx_RP.step (pc2 := 44) (ls2 := [(1, .int (l + 1)), (0, .ref 111), (2, .int 1)]) (st2 := [.ref 111]) (w3 := w5) rfl rfl ?_
      refine sx_RP.step (pc2 := 45) (ls2 := [(1, .int (l + 1)), (0, .ref 111), (2, .int 1)]) (st2 := [.ref 111, .ref 111]) (w3 := w5) rfl rfl ?_
      refine sx_RP.gf (v := .int (fi w5 111 12)) rfl rfl hI6.1.o111 rfl rfl (show _ = 48 from rfl) ?_
      obtain ⟨x9, hx10, ex11⟩ : inR (fi w5 111 12) 120 := hI6.m.2.2
      rw [ex11]
      rcases p216 (xs := xs) (a := x9) hI6 (by omega) with c12 | ⟨hx13, v14, c12⟩
      · refine sx_RP.cu (as := [.ref 111, .int (nI x9)]) (rest2 := []) (st3 := [.int (-1)]) rfl rfl (sx_inv_v2 (mi := 210) (k := 215) (st := [.int (nI x9), .ref 111]) (w := w5) rfl rfl hI6.1.o111 rfl rfl rfl) rfl rfl (c12) rfl ?_
        refine sx_RP.step (pc2 := 53) (ls2 := [(1, .int (l + 1)), (0, .ref 111), (2, .int 1)]) (st2 := [.int 59, .int (-1)]) (w3 := w5) rfl rfl ?_
        refine sx_RP.step (pc2 := 60) (ls2 := [(1, .int (l + 1)), (0, .ref 111), (2, .int 1)]) (st2 := []) (w3 := w5) rfl rfl ?_
        refine sx_RP.step (pc2 := 61) (ls2 := [(1, .int (l + 1)), (0, .ref 111), (2, .int 1)]) (st2 := [.int 0]) (w3 := w5) rfl rfl ?_
        refine sx_RP.step (pc2 := 62) (ls2 := [(2, .int 0), (1, .int (l + 1)), (0, .ref 111)]) (st2 := []) (w3 := w5) rfl rfl ?_
        refine sx_RP.step (pc2 := 63) (ls2 := [(2, .int 0), (1, .int (l + 1)), (0, .ref 111)]) (st2 := [.ref 111]) (w3 := w5) rfl rfl ?_
        refine sx_RP.step (pc2 := 64) (ls2 := [(2, .int 0), (1, .int (l + 1)), (0, .ref 111)]) (st2 := [.ref 111, .ref 111]) (w3 := w5) rfl rfl ?_
        refine sx_RP.gf (v := .int (fi w5 111 12)) rfl rfl hI6.1.o111 rfl rfl (show _ = 67 from rfl) ?_
        rw [ex11]
        refine sx_RP.step (pc2 := 68) (ls2 := [(2, .int 0), (1, .int (l + 1)), (0, .ref 111)]) (st2 := [.int 0, .int (nI x9), .ref 111]) (w3 := w5) rfl rfl ?_
        refine sx_RP.step (pc2 := 75) (ls2 := [(2, .int 0), (1, .int (l + 1)), (0, .ref 111)]) (st2 := [.int (nI x9), .ref 111]) (w3 := w5) rfl rfl ?_
        refine sx_RP.step (pc2 := 76) (ls2 := [(2, .int 0), (1, .int (l + 1)), (0, .ref 111)]) (st2 := [.int 0, .int (nI x9), .ref 111]) (w3 := w5) rfl rfl ?_
        refine sx_RP.step (pc2 := 77) (ls2 := [(2, .int 0), (1, .int (l + 1)), (0, .ref 111)]) (st2 := [.int ((nI x9) + 0), .ref 111]) (w3 := w5) rfl rfl ?_
        rw [show ((nI x9) + 0 : Int32) = nI (x9 + 0) from nI_add x9 0]
        have hpx := hr_n ep ex11 (by omega) (by omega) (Int.le_trans hE4.2 hE8.2.2)
        refine sx_RP.pmF (k := 12) hI6 hE7 rfl rfl (by decide) rfl (inR.n (show (x9 + 0) ≤ 120 by omega)) (show _ = 80 from rfl) (fun w15 hI16 hE17 ht18 ht19 ht20 => ?_)
        refine sx_RP.step (pc2 := 25) (ls2 := [(2, .int 0), (1, .int (l + 1)), (0, .ref 111)]) (st2 := []) (w3 := w15) rfl rfl ?_
        refine sx_RP.step (pc2 := 26) (ls2 := [(2, .int 0), (1, .int (l + 1)), (0, .ref 111)]) (st2 := [.int 0]) (w3 := w15) rfl rfl ?_
        refine sx_RP.step (pc2 := 83) (ls2 := [(2, .int 0), (1, .int (l + 1)), (0, .ref 111)]) (st2 := []) (w3 := w15) rfl rfl ?_
        exact sx_RP.ls (sx_lr.cons rfl (sx_lr.cons rfl sx_lr.nil)) (s210e _ hI16 hE17)
      · refine sx_RP.cu (as := [.ref 111, .int (nI x9)]) (rest2 := []) (st3 := [.int v14]) rfl rfl (sx_inv_v2 (mi := 210) (k := 215) (st := [.int (nI x9), .ref 111]) (w := w5) rfl rfl hI6.1.o111 rfl rfl rfl) rfl rfl (c12) rfl ?_
        refine sx_RP.step (pc2 := 53) (ls2 := [(1, .int (l + 1)), (0, .ref 111), (2, .int 1)]) (st2 := [.int 59, .int v14]) (w3 := w5) rfl rfl ?_
        refine sx_RP.br (p1 := 60) (l1 := [(1, .int (l + 1)), (0, .ref 111), (2, .int 1)]) (s1 := []) (v1 := w5) (p2 := 56) (l2 := [(1, .int (l + 1)), (0, .ref 111), (2, .int 1)]) (s2 := []) (v2 := w5) rfl rfl (fun q21 => ?_) (fun q21 => ?_)
        · replace q21 := of_decide_eq_true q21
          refine sx_RP.step (pc2 := 61) (ls2 := [(1, .int (l + 1)), (0, .ref 111), (2, .int 1)]) (st2 := [.int 0]) (w3 := w5) rfl rfl ?_
          refine sx_RP.step (pc2 := 62) (ls2 := [(2, .int 0), (1, .int (l + 1)), (0, .ref 111)]) (st2 := []) (w3 := w5) rfl rfl ?_
          refine sx_RP.step (pc2 := 63) (ls2 := [(2, .int 0), (1, .int (l + 1)), (0, .ref 111)]) (st2 := [.ref 111]) (w3 := w5) rfl rfl ?_
          refine sx_RP.step (pc2 := 64) (ls2 := [(2, .int 0), (1, .int (l + 1)), (0, .ref 111)]) (st2 := [.ref 111, .ref 111]) (w3 := w5) rfl rfl ?_
          refine sx_RP.gf (v := .int (fi w5 111 12)) rfl rfl hI6.1.o111 rfl rfl (show _ = 67 from rfl) ?_
          rw [ex11]
          refine sx_RP.step (pc2 := 68) (ls2 := [(2, .int 0), (1, .int (l + 1)), (0, .ref 111)]) (st2 := [.int 0, .int (nI x9), .ref 111]) (w3 := w5) rfl rfl ?_
          refine sx_RP.step (pc2 := 75) (ls2 := [(2, .int 0), (1, .int (l + 1)), (0, .ref 111)]) (st2 := [.int (nI x9), .ref 111]) (w3 := w5) rfl rfl ?_
          refine sx_RP.step (pc2 := 76) (ls2 := [(2, .int 0), (1, .int (l + 1)), (0, .ref 111)]) (st2 := [.int 0, .int (nI x9), .ref 111]) (w3 := w5) rfl rfl ?_
          refine sx_RP.step (pc2 := 77) (ls2 := [(2, .int 0), (1, .int (l + 1)), (0, .ref 111)]) (st2 := [.int ((nI x9) + 0), .ref 111]) (w3 := w5) rfl rfl ?_
          rw [show ((nI x9) + 0 : Int32) = nI (x9 + 0) from nI_add x9 0]
          have hpx := hr_n ep ex11 (by omega) (by omega) (Int.le_trans hE4.2 hE8.2.2)
          refine sx_RP.pmF (k := 12) hI6 hE7 rfl rfl (by decide) rfl (inR.n (show (x9 + 0) ≤ 120 by omega)) (show _ = 80 from rfl) (fun w22 hI23 hE24 ht25 ht26 ht27 => ?_)
          refine sx_RP.step (pc2 := 25) (ls2 := [(2, .int 0), (1, .int (l + 1)), (0, .ref 111)]) (st2 := []) (w3 := w22) rfl rfl ?_
          refine sx_RP.step (pc2 := 26) (ls2 := [(2, .int 0), (1, .int (l + 1)), (0, .ref 111)]) (st2 := [.int 0]) (w3 := w22) rfl rfl ?_
          refine sx_RP.step (pc2 := 83) (ls2 := [(2, .int 0), (1, .int (l + 1)), (0, .ref 111)]) (st2 := []) (w3 := w22) rfl rfl ?_
          exact sx_RP.ls (sx_lr.cons rfl (sx_lr.cons rfl sx_lr.nil)) (s210e _ hI23 hE24)
        · replace q21 := Decidable.not_not.mp (of_decide_eq_false q21)
          refine sx_RP.step (pc2 := 57) (ls2 := [(1, .int (l + 1)), (0, .ref 111), (2, .int 1)]) (st2 := [.int 1]) (w3 := w5) rfl rfl ?_
          refine sx_RP.step (pc2 := 61) (ls2 := [(1, .int (l + 1)), (0, .ref 111), (2, .int 1)]) (st2 := [.int 1]) (w3 := w5) rfl rfl ?_
          refine sx_RP.step (pc2 := 62) (ls2 := [(2, .int 1), (1, .int (l + 1)), (0, .ref 111)]) (st2 := []) (w3 := w5) rfl rfl ?_
          refine sx_RP.step (pc2 := 63) (ls2 := [(2, .int 1), (1, .int (l + 1)), (0, .ref 111)]) (st2 := [.ref 111]) (w3 := w5) rfl rfl ?_
          refine sx_RP.step (pc2 := 64) (ls2 := [(2, .int 1), (1, .int (l + 1)), (0, .ref 111)]) (st2 := [.ref 111, .ref 111]) (w3 := w5) rfl rfl ?_
          refine sx_RP.gf (v := .int (fi w5 111 12)) rfl rfl hI6.1.o111 rfl rfl (show _ = 67 from rfl) ?_
          rw [ex11]
          refine sx_RP.step (pc2 := 68) (ls2 := [(2, .int 1), (1, .int (l + 1)), (0, .ref 111)]) (st2 := [.int 1, .int (nI x9), .ref 111]) (w3 := w5) rfl rfl ?_
          refine sx_RP.step (pc2 := 71) (ls2 := [(2, .int 1), (1, .int (l + 1)), (0, .ref 111)]) (st2 := [.int (nI x9), .ref 111]) (w3 := w5) rfl rfl ?_
          refine sx_RP.step (pc2 := 72) (ls2 := [(2, .int 1), (1, .int (l + 1)), (0, .ref 111)]) (st2 := [.int 1, .int (nI x9), .ref 111]) (w3 := w5) rfl rfl ?_
          refine sx_RP.step (pc2 := 76) (ls2 := [(2, .int 1), (1, .int (l + 1)), (0, .ref 111)]) (st2 := [.int 1, .int (nI x9), .ref 111]) (w3 := w5) rfl rfl ?_
          refine sx_RP.step (pc2 := 77) (ls2 := [(2, .int 1), (1, .int (l + 1)), (0, .ref 111)]) (st2 := [.int ((nI x9) + 1), .ref 111]) (w3 := w5) rfl rfl ?_
          rw [show ((nI x9) + 1 : Int32) = nI (x9 + 1) from nI_add x9 1]
          have hpx := hr_n ep ex11 (by omega) (by omega) (Int.le_trans hE4.2 hE8.2.2)
          refine sx_RP.pmF (k := 12) hI6 hE7 rfl rfl (by decide) rfl (inR.n (show (x9 + 1) ≤ 120 by omega)) (show _ = 80 from rfl) (fun w28 hI29 hE30 ht31 ht32 ht33 => ?_)
          refine sx_RP.step (pc2 := 25) (ls2 := [(2, .int 1), (1, .int (l + 1)), (0, .ref 111)]) (st2 := []) (w3 := w28) rfl rfl ?_
          match fz, h with
          | 0, h => exact absurd h (by omega)
          | fz + 1, h => exact sx_RP.ls (sx_lr.cons rfl (sx_lr.cons rfl (sx_lr.cons rfl sx_lr.nil))) (s210L fz ((x9 + 1)) _ _ (by omega) (by omega) ht31 hI29 hE30)
set_option maxRecDepth 20000 in
set_option maxHeartbeats 4000000 in
theorem s210 {xs : Option (List Int32)} {d : Nat} {w : List sx_C} (hI : WI w) : sx_RP xs (d + 8) 210 0 (lv_args 0 [.ref 111]) [] w (fun r w2 => (∃ v : Int32, r = some (.int v)) ∧ WI w2 ∧ EF w w2) := by
  have hE : EF w w := EF.rf
  refine sx_RP.step (pc2 := 1) (ls2 := [(0, .ref 111)]) (st2 := [.ref 111]) (w3 := w) rfl rfl ?_
  refine sx_RP.step (pc2 := 2) (ls2 := [(0, .ref 111)]) (st2 := [.int 0, .ref 111]) (w3 := w) rfl rfl ?_
  refine sx_RP.pmF (k := 12) hI hE rfl rfl (by decide) rfl (show inR 0 120 from ⟨0, by decide, rfl⟩) (show _ = 5 from rfl) (fun w1 hI2 hE3 ht4 ht5 ht6 => ?_)
  refine sx_RP.step (pc2 := 6) (ls2 := [(0, .ref 111)]) (st2 := [.ref 111]) (w3 := w1) rfl rfl ?_
  refine sx_RP.step (pc2 := 7) (ls2 := [(0, .ref 111)]) (st2 := [.int (-1), .ref 111]) (w3 := w1) rfl rfl ?_
  refine sx_RP.pmF (k := 13) hI2 hE3 rfl rfl (by decide) rfl trivial (show _ = 10 from rfl) (fun w7 hI8 hE9 ht10 ht11 ht12 => ?_)
  have ex13 := (ht11 12 (by decide)).trans ht4
  refine sx_RP.step (pc2 := 11) (ls2 := [(0, .ref 111)]) (st2 := [.ref 111]) (w3 := w7) rfl rfl ?_
  refine sx_RP.gf (v := .ref 112) rfl rfl hI8.1.o111 rfl rfl (show _ = 14 from rfl) ?_
  refine sx_RP.step (pc2 := 15) (ls2 := [(0, .ref 111)]) (st2 := [.ref 111, .ref 112]) (w3 := w7) rfl rfl ?_
  refine sx_RP.gf (v := .ref 115) rfl rfl hI8.1.o111 rfl rfl (show _ = 18 from rfl) ?_
  refine sx_RP.callp (as2 := [.ref 112, .ref 115]) (rest2 := []) rfl rfl rfl rfl rfl rfl (s175 hI8 (a := 112) (b := 115) (by decide) (by decide)) (show _ = 21 from rfl) ?_
  rintro r4 w14 ⟨rfl, hI15, hE17⟩
  have hE16 := hE9.tr (hE17.ef hI8 hI15)
  show sx_RP _ _ _ _ _ [] _ _
  refine sx_RP.step (pc2 := 22) (ls2 := [(0, .ref 111)]) (st2 := [.int 0]) (w3 := w14) rfl rfl ?_
  refine sx_RP.step (pc2 := 23) (ls2 := [(1, .int 0), (0, .ref 111)]) (st2 := []) (w3 := w14) rfl rfl ?_
  refine sx_RP.step (pc2 := 24) (ls2 := [(1, .int 0), (0, .ref 111)]) (st2 := [.int 1]) (w3 := w14) rfl rfl ?_
  refine sx_RP.step (pc2 := 25) (ls2 := [(2, .int 1), (1, .int 0), (0, .ref 111)]) (st2 := []) (w3 := w14) rfl rfl ?_
  obtain ⟨pz, hpz, epz⟩ := hI15.m.2.2
  exact sx_RP.ls (sx_lr.cons rfl (sx_lr.cons rfl (sx_lr.cons rfl sx_lr.nil))) (s210L 121 pz _ _ (by omega) hpz epz hI15 hE16)
