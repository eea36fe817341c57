-- answers: now, hears
theorem nowA_0 {l : List Int32} : nowA l (nI 0) = l.getD 0 0 := rfl
theorem nowA_1 {l : List Int32} {n : Nat} (en : l.getD 1 0 = nI n) (hn : n ≤ 10) : nowA l (nI 1) = lfF l 0 n := by
  unfold nowA
  rw [if_neg (show ¬ nI 1 = 0 by decide), if_pos (show nI 1 = 1 by decide), en, iN_n (by omega)]
theorem nowA_2 {l : List Int32} {n : Nat} (en : l.getD 1 0 = nI n) (hn : n ≤ 10) : nowA l (nI 2) = lfF l 1 n := by
  unfold nowA
  rw [if_neg (show ¬ nI 2 = 0 by decide), if_neg (show ¬ nI 2 = 1 by decide), if_pos (show nI 2 = 2 by decide), en, iN_n (by omega)]
theorem nowA_3 {l : List Int32} : nowA l (nI 3) = l.getD 3 0 := by
  unfold nowA
  rw [if_neg (show ¬ nI 3 = 0 by decide), if_neg (show ¬ nI 3 = 1 by decide), if_neg (show ¬ nI 3 = 2 by decide), if_pos (show nI 3 = 3 by decide)]
theorem nowA_n {l : List Int32} {a1 : Int32} (h : a1.toInt < 0 ∨ ((3 : Nat) : Int) < a1.toInt) : nowA l a1 = -1000000001 := by
  unfold nowA
  rw [if_neg (fun e => by rw [e] at h; exact absurd h (by decide)), if_neg (fun e => by rw [e] at h; exact absurd h (by decide)), if_neg (fun e => by rw [e] at h; exact absurd h (by decide)), if_neg (fun e => by rw [e] at h; exact absurd h (by decide))]
set_option maxRecDepth 20000 in
set_option maxHeartbeats 4000000 in
theorem A48 {xs : Option (List Int32)} {d : Nat} {w : List sx_C} (hI : WI w) (l : List Int32) (hR : rel w 1 l) (a1 : Int32) : sx_RP xs (d + 7) 48 0 (lv_args 0 [.ref 0, .int a1]) [] w (fun r w2 => r = some (.int (nowA l a1)) ∧ WI w2) := by
  obtain ⟨n, hn, en⟩ := hR.n10 hI (Or.inl rfl)
  have en0 := hR.many.trans en
  refine sx_RP.step (pc2 := 1) (ls2 := [(0, .ref 0), (1, .int a1)]) (st2 := [.int a1]) (w3 := w) rfl rfl ?_
  rcases sw_cases (n := 3) (a1) with q1 | ⟨x2, hx3, ex4⟩
  · refine sx_RP.swo (t := 66) rfl q1 rfl ?_
    refine sx_RP.step (pc2 := 67) (ls2 := [(0, .ref 0), (1, .int a1)]) (st2 := [.ref 0]) (w3 := w) rfl rfl ?_
    refine sx_RP.step (pc2 := 69) (ls2 := [(0, .ref 0), (1, .int a1)]) (st2 := [.int (-1000000001), .ref 0]) (w3 := w) rfl rfl ?_
    refine sx_RP.callp (as2 := [.ref 0, .int (-1000000001)]) (rest2 := []) rfl rfl (sx_inv_v2 (mi := 48) (k := 78) (st := [.int (-1000000001), .ref 0]) (w := w) rfl rfl hI.1.o0 rfl rfl rfl) rfl rfl rfl (S9_0 hI) (show _ = 72 from rfl) ?_
    rintro r4 w6 ⟨rfl, hI7, hs5⟩
    show sx_RP _ _ _ _ _ [.int (-1000000001)] _ _
    refine sx_RP.ret (r := (some (.int (-1000000001)))) rfl rfl ?_
    exact ⟨by rw [nowA_n q1], hI7⟩
  · rw [ex4]
    rcases (show x2 = 0 ∨ x2 = 1 ∨ x2 = 2 ∨ x2 = 3 by omega) with rfl | rfl | rfl | rfl
    · refine sx_RP.step (pc2 := 32) (ls2 := [(0, .ref 0), (1, .int (nI 0))]) (st2 := []) (w3 := w) rfl rfl ?_
      refine sx_RP.step (pc2 := 33) (ls2 := [(0, .ref 0), (1, .int (nI 0))]) (st2 := [.ref 0]) (w3 := w) rfl rfl ?_
      refine sx_RP.gf (v := .ref 1) rfl rfl hI.1.o0 rfl rfl (show _ = 36 from rfl) ?_
      refine sx_RP.gc (k := 6) hI (Or.inl rfl) rfl rfl (by omega) (show _ = 39 from rfl) ?_
      refine sx_RP.ret (r := (some (.int (fi w 1 6)))) rfl rfl ?_
      exact ⟨by rw [nowA_0, hR.night], hI⟩
    · refine sx_RP.step (pc2 := 40) (ls2 := [(0, .ref 0), (1, .int (nI 1))]) (st2 := []) (w3 := w) rfl rfl ?_
      refine sx_RP.step (pc2 := 41) (ls2 := [(0, .ref 0), (1, .int (nI 1))]) (st2 := [.ref 0]) (w3 := w) rfl rfl ?_
      refine sx_RP.gf (v := .ref 1) rfl rfl hI.1.o0 rfl rfl (show _ = 44 from rfl) ?_
      refine sx_RP.step (pc2 := 45) (ls2 := [(0, .ref 0), (1, .int (nI 1))]) (st2 := [.int 0, .ref 1]) (w3 := w) rfl rfl ?_
      refine sx_RP.cu (as := [.ref 1, .int 0]) (rest2 := []) (st3 := [.int (lfF l 0 n)]) rfl rfl (sx_inv_v2 (mi := 48) (k := 173) (st := [.int 0, .ref 1]) (w := w) rfl rfl (hI.1.oC (Or.inl rfl)) rfl rfl rfl) rfl rfl (x42 hI (Or.inl rfl) hR hn en 0) rfl ?_
      refine sx_RP.ret (r := (some (.int (lfF l 0 n)))) rfl rfl ?_
      exact ⟨by rw [nowA_1 en hn], hI⟩
    · refine sx_RP.step (pc2 := 49) (ls2 := [(0, .ref 0), (1, .int (nI 2))]) (st2 := []) (w3 := w) rfl rfl ?_
      refine sx_RP.step (pc2 := 50) (ls2 := [(0, .ref 0), (1, .int (nI 2))]) (st2 := [.ref 0]) (w3 := w) rfl rfl ?_
      refine sx_RP.gf (v := .ref 1) rfl rfl hI.1.o0 rfl rfl (show _ = 53 from rfl) ?_
      refine sx_RP.step (pc2 := 54) (ls2 := [(0, .ref 0), (1, .int (nI 2))]) (st2 := [.int 1, .ref 1]) (w3 := w) rfl rfl ?_
      refine sx_RP.cu (as := [.ref 1, .int 1]) (rest2 := []) (st3 := [.int (lfF l 1 n)]) rfl rfl (sx_inv_v2 (mi := 48) (k := 173) (st := [.int 1, .ref 1]) (w := w) rfl rfl (hI.1.oC (Or.inl rfl)) rfl rfl rfl) rfl rfl (x42 hI (Or.inl rfl) hR hn en 1) rfl ?_
      refine sx_RP.ret (r := (some (.int (lfF l 1 n)))) rfl rfl ?_
      exact ⟨by rw [nowA_2 en hn], hI⟩
    · refine sx_RP.step (pc2 := 58) (ls2 := [(0, .ref 0), (1, .int (nI 3))]) (st2 := []) (w3 := w) rfl rfl ?_
      refine sx_RP.step (pc2 := 59) (ls2 := [(0, .ref 0), (1, .int (nI 3))]) (st2 := [.ref 0]) (w3 := w) rfl rfl ?_
      refine sx_RP.gf (v := .ref 1) rfl rfl hI.1.o0 rfl rfl (show _ = 62 from rfl) ?_
      refine sx_RP.gc (k := 7) hI (Or.inl rfl) rfl rfl (by omega) (show _ = 65 from rfl) ?_
      refine sx_RP.ret (r := (some (.int (fi w 1 7)))) rfl rfl ?_
      exact ⟨by rw [nowA_3, hR.met], hI⟩
set_option maxRecDepth 20000 in
set_option maxHeartbeats 4000000 in
theorem A173 {xs : Option (List Int32)} {d : Nat} {w : List sx_C} (hI : WI w) (a1 : Int32) : sx_RP xs (d + 7) 173 0 (lv_args 0 [.ref 111, .int a1]) [] w (fun r w2 => r = some (.int (nowA (ia w 112) a1)) ∧ WI w2) := by
  obtain ⟨n, hn, en⟩ := (hI.sA (a := 112) (by decide) 1 (by decide)).1 rfl
  refine sx_RP.step (pc2 := 1) (ls2 := [(0, .ref 111), (1, .int a1)]) (st2 := [.int a1]) (w3 := w) rfl rfl ?_
  rcases sw_cases (n := 3) (a1) with q1 | ⟨x2, hx3, ex4⟩
  · refine sx_RP.swo (t := 58) rfl q1 rfl ?_
    refine sx_RP.step (pc2 := 59) (ls2 := [(0, .ref 111), (1, .int a1)]) (st2 := [.ref 111]) (w3 := w) rfl rfl ?_
    refine sx_RP.step (pc2 := 60) (ls2 := [(0, .ref 111), (1, .int a1)]) (st2 := [.int 0, .ref 111]) (w3 := w) rfl rfl ?_
    refine sx_RP.callp (as2 := [.ref 111, .int 0]) (rest2 := []) rfl rfl (sx_inv_v2 (mi := 173) (k := 70) (st := [.int 0, .ref 111]) (w := w) rfl rfl hI.1.o111 rfl rfl rfl) rfl rfl rfl (S133_0 hI) (show _ = 63 from rfl) ?_
    rintro r4 w6 ⟨rfl, hI7, hs5⟩
    show sx_RP _ _ _ _ _ [.int (-1000000001)] _ _
    refine sx_RP.ret (r := (some (.int (-1000000001)))) rfl rfl ?_
    exact ⟨by rw [nowA_n q1], hI7⟩
  · rw [ex4]
    rcases (show x2 = 0 ∨ x2 = 1 ∨ x2 = 2 ∨ x2 = 3 by omega) with rfl | rfl | rfl | rfl
    · refine sx_RP.step (pc2 := 32) (ls2 := [(0, .ref 111), (1, .int (nI 0))]) (st2 := []) (w3 := w) rfl rfl ?_
      refine sx_RP.step (pc2 := 33) (ls2 := [(0, .ref 111), (1, .int (nI 0))]) (st2 := [.ref 111]) (w3 := w) rfl rfl ?_
      refine sx_RP.gf (v := .ref 112) rfl rfl hI.1.o111 rfl rfl (show _ = 36 from rfl) ?_
      refine sx_RP.step (pc2 := 37) (ls2 := [(0, .ref 111), (1, .int (nI 0))]) (st2 := [.int 0, .ref 112]) (w3 := w) rfl rfl ?_
      refine sx_RP.ild (c := 0) rfl hI.1.a112.1 hI.1.a112.2 (sx_in_nI (show 0 < 172 by omega) (by decide)) (show (nI 0).toNatClampNeg = 0 from nI_clamp (by omega)) (show _ = 38 from rfl) ?_
      refine sx_RP.ret (r := (some (.int ((ia w 112).getD 0 0)))) rfl rfl ?_
      exact ⟨by rw [nowA_0], hI⟩
    · refine sx_RP.step (pc2 := 39) (ls2 := [(0, .ref 111), (1, .int (nI 1))]) (st2 := []) (w3 := w) rfl rfl ?_
      refine sx_RP.step (pc2 := 40) (ls2 := [(0, .ref 111), (1, .int (nI 1))]) (st2 := [.ref 111]) (w3 := w) rfl rfl ?_
      refine sx_RP.step (pc2 := 41) (ls2 := [(0, .ref 111), (1, .int (nI 1))]) (st2 := [.int 0, .ref 111]) (w3 := w) rfl rfl ?_
      refine sx_RP.cu (as := [.ref 111, .int 0]) (rest2 := []) (st3 := [.int (lfF (ia w 112) 0 n)]) rfl rfl (sx_inv_v2 (mi := 173) (k := 146) (st := [.int 0, .ref 111]) (w := w) rfl rfl hI.1.o111 rfl rfl rfl) rfl rfl (x167 hI hn en 0) rfl ?_
      refine sx_RP.ret (r := (some (.int (lfF (ia w 112) 0 n)))) rfl rfl ?_
      exact ⟨by rw [nowA_1 en hn], hI⟩
    · refine sx_RP.step (pc2 := 45) (ls2 := [(0, .ref 111), (1, .int (nI 2))]) (st2 := []) (w3 := w) rfl rfl ?_
      refine sx_RP.step (pc2 := 46) (ls2 := [(0, .ref 111), (1, .int (nI 2))]) (st2 := [.ref 111]) (w3 := w) rfl rfl ?_
      refine sx_RP.step (pc2 := 47) (ls2 := [(0, .ref 111), (1, .int (nI 2))]) (st2 := [.int 1, .ref 111]) (w3 := w) rfl rfl ?_
      refine sx_RP.cu (as := [.ref 111, .int 1]) (rest2 := []) (st3 := [.int (lfF (ia w 112) 1 n)]) rfl rfl (sx_inv_v2 (mi := 173) (k := 146) (st := [.int 1, .ref 111]) (w := w) rfl rfl hI.1.o111 rfl rfl rfl) rfl rfl (x167 hI hn en 1) rfl ?_
      refine sx_RP.ret (r := (some (.int (lfF (ia w 112) 1 n)))) rfl rfl ?_
      exact ⟨by rw [nowA_2 en hn], hI⟩
    · refine sx_RP.step (pc2 := 51) (ls2 := [(0, .ref 111), (1, .int (nI 3))]) (st2 := []) (w3 := w) rfl rfl ?_
      refine sx_RP.step (pc2 := 52) (ls2 := [(0, .ref 111), (1, .int (nI 3))]) (st2 := [.ref 111]) (w3 := w) rfl rfl ?_
      refine sx_RP.gf (v := .ref 112) rfl rfl hI.1.o111 rfl rfl (show _ = 55 from rfl) ?_
      refine sx_RP.step (pc2 := 56) (ls2 := [(0, .ref 111), (1, .int (nI 3))]) (st2 := [.int 3, .ref 112]) (w3 := w) rfl rfl ?_
      refine sx_RP.ild (c := 3) rfl hI.1.a112.1 hI.1.a112.2 (sx_in_nI (show 3 < 172 by omega) (by decide)) (show (nI 3).toNatClampNeg = 3 from nI_clamp (by omega)) (show _ = 57 from rfl) ?_
      refine sx_RP.ret (r := (some (.int ((ia w 112).getD 3 0)))) rfl rfl ?_
      exact ⟨by rw [nowA_3], hI⟩
theorem a48 {xs : Option (List Int32)} {d : Nat} {w : List sx_C} {s : ST} (hI : WI w) (hC : CLS w s) (a1 : Int32) : sx_RP xs (d + 7) 48 0 (lv_args 0 [.ref 0, .int a1]) [] w (fun r w2 => r = some (.int (nowA s.1 a1)) ∧ WI w2 ∧ CLS w2 (s) ∧ ∀ a, 111 ≤ a → w2[a]? = w[a]?) :=
  ((c48 (xs := xs) (d := d) hI hC a1).and (A48 hI s.1 hC.1.1 a1)).mono9 (fun r w2 z => ⟨z.2.1, z.1.2.1, z.1.2.2.1, z.1.2.2.2⟩)
theorem a173 {xs : Option (List Int32)} {d : Nat} {w : List sx_C} {s : ST} (hI : WI w) (hR : REF w s) (a1 : Int32) : sx_RP xs (d + 7) 173 0 (lv_args 0 [.ref 111, .int a1]) [] w (fun r w2 => r = some (.int (nowA s.1 a1)) ∧ WI w2 ∧ REF w2 (s) ∧ ∀ a, a < 111 → w2[a]? = w[a]?) := by
  refine ((r173 (xs := xs) (d := d) hI hR a1).and (A173 hI a1)).mono9 (fun r w2 z => ⟨?_, z.1.2.1, z.1.2.2.1, z.1.2.2.2⟩)
  rw [z.2.1, hR.1.1]
