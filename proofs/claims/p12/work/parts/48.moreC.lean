-- safety: galleries, powder, dishes, sheets of the class
set_option maxRecDepth 20000 in
set_option maxHeartbeats 4000000 in
theorem p97 {xs : Option (List Int32)} {d : Nat} {w : List sx_C} (hI : WI w) {a b : Nat} (ha : a < 2 ^ 31) (hb : b < 2 ^ 31) : ∃ j, (j ≤ a ∧ j ≤ b) ∧ sx_RU xs d 97 0 (lv_args 0 [.int (nI a), .int (nI b)]) [] w (some (.int (nI j))) w := by
  have h : sx_RP xs d 97 0 (lv_args 0 [.int (nI a), .int (nI b)]) [] w (fun r w2 => (∃ j, (j ≤ a ∧ j ≤ b) ∧ r = some (.int (nI j))) ∧ w2 = w) := by
    refine sx_RP.step (pc2 := 1) (ls2 := [(0, .int (nI a)), (1, .int (nI b))]) (st2 := [.int (nI a)]) (w3 := w) rfl rfl ?_
    refine sx_RP.step (pc2 := 2) (ls2 := [(0, .int (nI a)), (1, .int (nI b))]) (st2 := [.int (nI b), .int (nI a)]) (w3 := w) rfl rfl ?_
    refine sx_RP.br (p1 := 9) (l1 := [(0, .int (nI a)), (1, .int (nI b))]) (s1 := []) (v1 := w) (p2 := 5) (l2 := [(0, .int (nI a)), (1, .int (nI b))]) (s2 := []) (v2 := w) rfl rfl (fun q1 => ?_) (fun q1 => ?_)
    · replace q1 := of_decide_eq_true q1
      replace q1 := (nI_ltI (a := b) (b := a) (by omega) (by omega)).mp q1
      refine sx_RP.step (pc2 := 10) (ls2 := [(0, .int (nI a)), (1, .int (nI b))]) (st2 := [.int (nI b)]) (w3 := w) rfl rfl ?_
      refine sx_RP.ret (r := (some (.int (nI b)))) rfl rfl ?_
      exact ⟨⟨b, by omega, rfl⟩, rfl⟩
    · replace q1 := of_decide_eq_false q1
      replace q1 := mt (nI_ltI (a := b) (b := a) (by omega) (by omega)).mpr q1
      refine sx_RP.step (pc2 := 6) (ls2 := [(0, .int (nI a)), (1, .int (nI b))]) (st2 := [.int (nI a)]) (w3 := w) rfl rfl ?_
      refine sx_RP.step (pc2 := 10) (ls2 := [(0, .int (nI a)), (1, .int (nI b))]) (st2 := [.int (nI a)]) (w3 := w) rfl rfl ?_
      refine sx_RP.ret (r := (some (.int (nI a)))) rfl rfl ?_
      exact ⟨⟨a, by omega, rfl⟩, rfl⟩
  obtain ⟨r, w2, h1, ⟨j, hj, rfl⟩, rfl⟩ := h
  exact ⟨j, hj, h1⟩
set_option maxRecDepth 20000 in
set_option maxHeartbeats 4000000 in
theorem s25 {xs : Option (List Int32)} {d : Nat} {w : List sx_C} (hI : WI w) {A : Nat} (hA : isA A) {n k s c y : Nat} (hn : n ≤ 9) (en : fi w A 3 = nI n) (hk : k ≤ 5) (hs : s ≤ 1) (hc : c < 48) (hy : y ≤ 3) : sx_RP xs d 25 0 (lv_args 0 [.ref A, .int (nI k), .int (nI s), .int (nI c), .int (nI y)]) [] w (fun r w2 => (∃ v : Int32, r = some (.int v)) ∧ WI w2 ∧ EC w w2) := by
  have hE : EC w w := EC.rf
  refine sx_RP.step (pc2 := 1) (ls2 := [(0, .ref A), (1, .int (nI k)), (2, .int (nI s)), (3, .int (nI c)), (4, .int (nI y))]) (st2 := [.ref A]) (w3 := w) rfl rfl ?_
  refine sx_RP.gref (k := 2) (b := A + 2) hI hA rfl rfl (by omega) (show _ = 4 from rfl) ?_
  refine sx_RP.step (pc2 := 5) (ls2 := [(0, .ref A), (1, .int (nI k)), (2, .int (nI s)), (3, .int (nI c)), (4, .int (nI y))]) (st2 := [.ref A, .ref (A + 2)]) (w3 := w) rfl rfl ?_
  refine sx_RP.gc (k := 3) hI hA rfl rfl (by omega) (show _ = 8 from rfl) ?_
  rw [en]
  refine sx_RP.ald (v := .ref (A + 4 + n)) rfl (hI.1.aG hA) rfl (grA_at (show n < 10 by omega)) (show _ = 9 from rfl) ?_
  refine sx_RP.step (pc2 := 11) (ls2 := [(5, .ref (A + 4 + n)), (0, .ref A), (1, .int (nI k)), (2, .int (nI s)), (3, .int (nI c)), (4, .int (nI y))]) (st2 := []) (w3 := w) rfl rfl ?_
  refine sx_RP.step (pc2 := 13) (ls2 := [(5, .ref (A + 4 + n)), (0, .ref A), (1, .int (nI k)), (2, .int (nI s)), (3, .int (nI c)), (4, .int (nI y))]) (st2 := [.ref (A + 4 + n)]) (w3 := w) rfl rfl ?_
  refine sx_RP.step (pc2 := 14) (ls2 := [(5, .ref (A + 4 + n)), (0, .ref A), (1, .int (nI k)), (2, .int (nI s)), (3, .int (nI c)), (4, .int (nI y))]) (st2 := [.int (nI k), .ref (A + 4 + n)]) (w3 := w) rfl rfl ?_
  refine sx_RP.pg (k := 0) hI hE (gAd.of hA (show n < 10 by omega)) rfl rfl (by decide) rfl (inR.n (show k ≤ 5 by omega)) (show _ = 17 from rfl) (fun w1 hI2 hE3 hk4 => ?_)
  have ex5 := (hk4 A 3 hA).trans en
  refine sx_RP.step (pc2 := 19) (ls2 := [(5, .ref (A + 4 + n)), (0, .ref A), (1, .int (nI k)), (2, .int (nI s)), (3, .int (nI c)), (4, .int (nI y))]) (st2 := [.ref (A + 4 + n)]) (w3 := w1) rfl rfl ?_
  refine sx_RP.step (pc2 := 20) (ls2 := [(5, .ref (A + 4 + n)), (0, .ref A), (1, .int (nI k)), (2, .int (nI s)), (3, .int (nI c)), (4, .int (nI y))]) (st2 := [.int (nI s), .ref (A + 4 + n)]) (w3 := w1) rfl rfl ?_
  refine sx_RP.pg (k := 1) hI2 hE3 (gAd.of hA (show n < 10 by omega)) rfl rfl (by decide) rfl (inR.n (show s ≤ 1 by omega)) (show _ = 23 from rfl) (fun w6 hI7 hE8 hk9 => ?_)
  have ex10 := (hk9 A 3 hA).trans ex5
  refine sx_RP.step (pc2 := 25) (ls2 := [(5, .ref (A + 4 + n)), (0, .ref A), (1, .int (nI k)), (2, .int (nI s)), (3, .int (nI c)), (4, .int (nI y))]) (st2 := [.ref (A + 4 + n)]) (w3 := w6) rfl rfl ?_
  refine sx_RP.step (pc2 := 26) (ls2 := [(5, .ref (A + 4 + n)), (0, .ref A), (1, .int (nI k)), (2, .int (nI s)), (3, .int (nI c)), (4, .int (nI y))]) (st2 := [.int (nI c), .ref (A + 4 + n)]) (w3 := w6) rfl rfl ?_
  refine sx_RP.pg (k := 2) hI7 hE8 (gAd.of hA (show n < 10 by omega)) rfl rfl (by decide) rfl (inR.n (show c ≤ 47 by omega)) (show _ = 29 from rfl) (fun w11 hI12 hE13 hk14 => ?_)
  have ex15 := (hk14 A 3 hA).trans ex10
  refine sx_RP.step (pc2 := 31) (ls2 := [(5, .ref (A + 4 + n)), (0, .ref A), (1, .int (nI k)), (2, .int (nI s)), (3, .int (nI c)), (4, .int (nI y))]) (st2 := [.ref (A + 4 + n)]) (w3 := w11) rfl rfl ?_
  refine sx_RP.step (pc2 := 33) (ls2 := [(5, .ref (A + 4 + n)), (0, .ref A), (1, .int (nI k)), (2, .int (nI s)), (3, .int (nI c)), (4, .int (nI y))]) (st2 := [.int (nI y), .ref (A + 4 + n)]) (w3 := w11) rfl rfl ?_
  refine sx_RP.pg (k := 3) hI12 hE13 (gAd.of hA (show n < 10 by omega)) rfl rfl (by decide) rfl (inR.n (show y ≤ 3 by omega)) (show _ = 36 from rfl) (fun w16 hI17 hE18 hk19 => ?_)
  have ex20 := (hk19 A 3 hA).trans ex15
  refine sx_RP.step (pc2 := 38) (ls2 := [(5, .ref (A + 4 + n)), (0, .ref A), (1, .int (nI k)), (2, .int (nI s)), (3, .int (nI c)), (4, .int (nI y))]) (st2 := [.ref (A + 4 + n)]) (w3 := w16) rfl rfl ?_
  refine sx_RP.step (pc2 := 39) (ls2 := [(5, .ref (A + 4 + n)), (0, .ref A), (1, .int (nI k)), (2, .int (nI s)), (3, .int (nI c)), (4, .int (nI y))]) (st2 := [.int 0, .ref (A + 4 + n)]) (w3 := w16) rfl rfl ?_
  refine sx_RP.pg (k := 4) hI17 hE18 (gAd.of hA (show n < 10 by omega)) rfl rfl (by decide) rfl trivial (show _ = 42 from rfl) (fun w21 hI22 hE23 hk24 => ?_)
  have ex25 := (hk24 A 3 hA).trans ex20
  refine sx_RP.step (pc2 := 44) (ls2 := [(5, .ref (A + 4 + n)), (0, .ref A), (1, .int (nI k)), (2, .int (nI s)), (3, .int (nI c)), (4, .int (nI y))]) (st2 := [.ref (A + 4 + n)]) (w3 := w21) rfl rfl ?_
  refine sx_RP.step (pc2 := 45) (ls2 := [(5, .ref (A + 4 + n)), (0, .ref A), (1, .int (nI k)), (2, .int (nI s)), (3, .int (nI c)), (4, .int (nI y))]) (st2 := [.int 0, .ref (A + 4 + n)]) (w3 := w21) rfl rfl ?_
  refine sx_RP.pg (k := 5) hI22 hE23 (gAd.of hA (show n < 10 by omega)) rfl rfl (by decide) rfl (show inR 0 1 from ⟨0, by decide, rfl⟩) (show _ = 48 from rfl) (fun w26 hI27 hE28 hk29 => ?_)
  have ex30 := (hk29 A 3 hA).trans ex25
  refine sx_RP.step (pc2 := 49) (ls2 := [(5, .ref (A + 4 + n)), (0, .ref A), (1, .int (nI k)), (2, .int (nI s)), (3, .int (nI c)), (4, .int (nI y))]) (st2 := [.ref A]) (w3 := w26) rfl rfl ?_
  refine sx_RP.step (pc2 := 50) (ls2 := [(5, .ref (A + 4 + n)), (0, .ref A), (1, .int (nI k)), (2, .int (nI s)), (3, .int (nI c)), (4, .int (nI y))]) (st2 := [.ref A, .ref A]) (w3 := w26) rfl rfl ?_
  refine sx_RP.gc (k := 3) hI27 hA rfl rfl (by omega) (show _ = 53 from rfl) ?_
  rw [ex30]
  refine sx_RP.step (pc2 := 54) (ls2 := [(5, .ref (A + 4 + n)), (0, .ref A), (1, .int (nI k)), (2, .int (nI s)), (3, .int (nI c)), (4, .int (nI y))]) (st2 := [.int 1, .int (nI n), .ref A]) (w3 := w26) rfl rfl ?_
  refine sx_RP.step (pc2 := 55) (ls2 := [(5, .ref (A + 4 + n)), (0, .ref A), (1, .int (nI k)), (2, .int (nI s)), (3, .int (nI c)), (4, .int (nI y))]) (st2 := [.int ((nI n) + 1), .ref A]) (w3 := w26) rfl rfl ?_
  rw [show ((nI n) + 1 : Int32) = nI (n + 1) from nI_add n 1]
  refine sx_RP.putc (k := 3) hI27 hE28 hA rfl rfl (by omega) rfl (inR.n (show (n + 1) ≤ 10 by omega)) (show _ = 58 from rfl) (fun w31 hI32 hE33 => ?_)
  refine sx_RP.step (pc2 := 59) (ls2 := [(5, .ref (A + 4 + n)), (0, .ref A), (1, .int (nI k)), (2, .int (nI s)), (3, .int (nI c)), (4, .int (nI y))]) (st2 := [.ref A]) (w3 := w31) rfl rfl ?_
  refine sx_RP.gc (k := 3) hI32 hA rfl rfl (by omega) (show _ = 62 from rfl) ?_
  obtain ⟨x34, hx35, ex36⟩ : inR (fi w31 A 3) 10 := (hI32.c hA).1
  rw [ex36]
  refine sx_RP.step (pc2 := 63) (ls2 := [(5, .ref (A + 4 + n)), (0, .ref A), (1, .int (nI k)), (2, .int (nI s)), (3, .int (nI c)), (4, .int (nI y))]) (st2 := [.int 1, .int (nI x34)]) (w3 := w31) rfl rfl ?_
  refine sx_RP.step (pc2 := 64) (ls2 := [(5, .ref (A + 4 + n)), (0, .ref A), (1, .int (nI k)), (2, .int (nI s)), (3, .int (nI c)), (4, .int (nI y))]) (st2 := [.int ((nI x34) - 1)]) (w3 := w31) rfl rfl ?_
  refine sx_RP.ret (r := (some (.int ((nI x34) - 1)))) rfl rfl ?_
  exact ⟨⟨_, rfl⟩, hI32, hE33⟩
set_option maxRecDepth 20000 in
set_option maxHeartbeats 4000000 in
theorem s64 {xs : Option (List Int32)} {d : Nat} {w : List sx_C} (hI : WI w) {A : Nat} (hA : isA A) {n c : Nat} (hn : n ≤ 8) (en : fi w A 5 = nI n) (hc : c < 48) : sx_RP xs d 64 0 (lv_args 0 [.ref A, .int (nI c)]) [] w (fun r w2 => (∃ v : Int32, r = some (.int v)) ∧ WI w2 ∧ EC w w2) := by
  have hE : EC w w := EC.rf
  refine sx_RP.step (pc2 := 1) (ls2 := [(0, .ref A), (1, .int (nI c))]) (st2 := [.ref A]) (w3 := w) rfl rfl ?_
  refine sx_RP.gref (k := 4) (b := A + 3) hI hA rfl rfl (by omega) (show _ = 4 from rfl) ?_
  refine sx_RP.step (pc2 := 5) (ls2 := [(0, .ref A), (1, .int (nI c))]) (st2 := [.ref A, .ref (A + 3)]) (w3 := w) rfl rfl ?_
  refine sx_RP.gc (k := 5) hI hA rfl rfl (by omega) (show _ = 8 from rfl) ?_
  rw [en]
  refine sx_RP.step (pc2 := 9) (ls2 := [(0, .ref A), (1, .int (nI c))]) (st2 := [.int (nI c), .int (nI n), .ref (A + 3)]) (w3 := w) rfl rfl ?_
  refine sx_RP.stD hI hE hA rfl (sx_in_nI (show n < 9 by omega) (by decide)) (inR.n (show c ≤ 47 by omega)) (show _ = 10 from rfl) (fun w1 hI2 hE3 hk4 => ?_)
  have ex5 := (hk4 A 5 hA).trans en
  refine sx_RP.step (pc2 := 11) (ls2 := [(0, .ref A), (1, .int (nI c))]) (st2 := [.ref A]) (w3 := w1) rfl rfl ?_
  refine sx_RP.step (pc2 := 12) (ls2 := [(0, .ref A), (1, .int (nI c))]) (st2 := [.ref A, .ref A]) (w3 := w1) rfl rfl ?_
  refine sx_RP.gc (k := 5) hI2 hA rfl rfl (by omega) (show _ = 15 from rfl) ?_
  rw [ex5]
  refine sx_RP.step (pc2 := 16) (ls2 := [(0, .ref A), (1, .int (nI c))]) (st2 := [.int 1, .int (nI n), .ref A]) (w3 := w1) rfl rfl ?_
  refine sx_RP.step (pc2 := 17) (ls2 := [(0, .ref A), (1, .int (nI c))]) (st2 := [.int ((nI n) + 1), .ref A]) (w3 := w1) rfl rfl ?_
  rw [show ((nI n) + 1 : Int32) = nI (n + 1) from nI_add n 1]
  refine sx_RP.putc (k := 5) hI2 hE3 hA rfl rfl (by omega) rfl (inR.n (show (n + 1) ≤ 9 by omega)) (show _ = 20 from rfl) (fun w6 hI7 hE8 => ?_)
  refine sx_RP.step (pc2 := 21) (ls2 := [(0, .ref A), (1, .int (nI c))]) (st2 := [.ref A]) (w3 := w6) rfl rfl ?_
  refine sx_RP.gc (k := 5) hI7 hA rfl rfl (by omega) (show _ = 24 from rfl) ?_
  obtain ⟨x9, hx10, ex11⟩ : inR (fi w6 A 5) 9 := (hI7.c hA).2
  rw [ex11]
  refine sx_RP.step (pc2 := 25) (ls2 := [(0, .ref A), (1, .int (nI c))]) (st2 := [.int 1, .int (nI x9)]) (w3 := w6) rfl rfl ?_
  refine sx_RP.step (pc2 := 26) (ls2 := [(0, .ref A), (1, .int (nI c))]) (st2 := [.int ((nI x9) - 1)]) (w3 := w6) rfl rfl ?_
  refine sx_RP.ret (r := (some (.int ((nI x9) - 1)))) rfl rfl ?_
  exact ⟨⟨_, rfl⟩, hI7, hE8⟩
set_option maxRecDepth 20000 in
set_option maxHeartbeats 4000000 in
theorem s80bB {xs : Option (List Int32)} {d : Nat} {w w0 : List sx_C} {A : Nat} (hA : isA A) (x : Int64) (hI : WI w) (hE : EC w0 w) {j : Nat} (hj : j ≤ 48) (l : Int32) (kk : ∀ (w4 : List sx_C) (ul : Int32), WI w4 → EC w0 w4 → j + 1 ≤ 48 → sx_RP xs d 80 77 [(0, .ref A), (1, .long x), (3, .int ul), (4, .int (nI (j + 1)))] [] w4 (fun r w2 => (∃ v : Int32, r = some (.int v)) ∧ WI w2 ∧ EC w0 w2)) : sx_RP xs d 80 77 [(0, .ref A), (1, .long x), (3, .int l), (4, .int (nI j))] [] w (fun r w2 => (∃ v : Int32, r = some (.int v)) ∧ WI w2 ∧ EC w0 w2) := by
  refine sx_RP.step (pc2 := 79) (ls2 := [(0, .ref A), (1, .long x), (3, .int l), (4, .int (nI j))]) (st2 := [.int (nI j)]) (w3 := w) rfl rfl ?_
  refine sx_RP.step (pc2 := 81) (ls2 := [(0, .ref A), (1, .long x), (3, .int l), (4, .int (nI j))]) (st2 := [.int 48, .int (nI j)]) (w3 := w) rfl rfl ?_
  refine sx_RP.br (p1 := 120) (l1 := [(0, .ref A), (1, .long x), (3, .int l), (4, .int (nI j))]) (s1 := []) (v1 := w) (p2 := 84) (l2 := [(0, .ref A), (1, .long x), (3, .int l), (4, .int (nI j))]) (s2 := []) (v2 := w) rfl rfl (fun q1 => ?_) (fun q1 => ?_)
  · replace q1 := of_decide_eq_true q1
    replace q1 := (nI_leI (a := 48) (b := j) (by omega) (by omega)).mp q1
    refine sx_RP.step (pc2 := 121) (ls2 := [(0, .ref A), (1, .long x), (3, .int l), (4, .int (nI j))]) (st2 := [.int l]) (w3 := w) rfl rfl ?_
    refine sx_RP.ret (r := (some (.int l))) rfl rfl ?_
    exact ⟨⟨_, rfl⟩, hI, hE⟩
  · replace q1 := of_decide_eq_false q1
    replace q1 := mt (nI_leI (a := 48) (b := j) (by omega) (by omega)).mpr q1
    refine sx_RP.step (pc2 := 85) (ls2 := [(0, .ref A), (1, .long x), (3, .int l), (4, .int (nI j))]) (st2 := [.ref A]) (w3 := w) rfl rfl ?_
    refine sx_RP.gref (k := 0) (b := A + 1) hI hA rfl rfl (by omega) (show _ = 88 from rfl) ?_
    refine sx_RP.step (pc2 := 90) (ls2 := [(0, .ref A), (1, .long x), (3, .int l), (4, .int (nI j))]) (st2 := [.int (nI j), .ref (A + 1)]) (w3 := w) rfl rfl ?_
    refine sx_RP.ild (c := j) rfl (hI.1.aS hA).1 (hI.1.aS hA).2 (sx_in_nI (show j < 48 by omega) (by decide)) (show (nI j).toNatClampNeg = j from nI_clamp (by omega)) (show _ = 91 from rfl) ?_
    obtain ⟨x2, hx3, ex4⟩ : inR ((ia w (A + 1)).getD j 0) 3 := hI.st hA (show j < 48 by omega)
    rw [ex4]
    refine sx_RP.step (pc2 := 92) (ls2 := [(0, .ref A), (1, .long x), (3, .int l), (4, .int (nI j))]) (st2 := [.int 2, .int (nI x2)]) (w3 := w) rfl rfl ?_
    refine sx_RP.br (p1 := 114) (l1 := [(0, .ref A), (1, .long x), (3, .int l), (4, .int (nI j))]) (s1 := []) (v1 := w) (p2 := 95) (l2 := [(0, .ref A), (1, .long x), (3, .int l), (4, .int (nI j))]) (s2 := []) (v2 := w) rfl rfl (fun q5 => ?_) (fun q5 => ?_)
    · replace q5 := of_decide_eq_true q5
      replace q5 := mt (nI_eq (a := x2) (b := 2) (by omega) (by omega)).mpr q5
      refine sx_RP.step (pc2 := 117) (ls2 := [(4, .int ((nI j) + 1)), (0, .ref A), (1, .long x), (3, .int l)]) (st2 := []) (w3 := w) rfl rfl ?_
      rw [nI_1 j]
      refine sx_RP.step (pc2 := 77) (ls2 := [(4, .int (nI (j + 1))), (0, .ref A), (1, .long x), (3, .int l)]) (st2 := []) (w3 := w) rfl rfl ?_
      exact sx_RP.ls (sx_lr.cons rfl (sx_lr.cons rfl (sx_lr.cons rfl (sx_lr.cons rfl sx_lr.nil)))) (kk w l hI hE (by omega))
    · replace q5 := Decidable.not_not.mp (of_decide_eq_false q5)
      replace q5 := (nI_eq (a := x2) (b := 2) (by omega) (by omega)).mp q5
      refine sx_RP.step (pc2 := 96) (ls2 := [(0, .ref A), (1, .long x), (3, .int l), (4, .int (nI j))]) (st2 := [.long x]) (w3 := w) rfl rfl ?_
      refine sx_RP.step (pc2 := 98) (ls2 := [(0, .ref A), (1, .long x), (3, .int l), (4, .int (nI j))]) (st2 := [.int (nI j), .long x]) (w3 := w) rfl rfl ?_
      refine sx_RP.step (pc2 := 99) (ls2 := [(0, .ref A), (1, .long x), (3, .int l), (4, .int (nI j))]) (st2 := [.long ((x.toUInt64 >>> ((nI j).toInt64.toUInt64 &&& Int64.toUInt64 63)).toInt64)]) (w3 := w) rfl rfl ?_
      refine sx_RP.step (pc2 := 100) (ls2 := [(0, .ref A), (1, .long x), (3, .int l), (4, .int (nI j))]) (st2 := [.long 1, .long ((x.toUInt64 >>> ((nI j).toInt64.toUInt64 &&& Int64.toUInt64 63)).toInt64)]) (w3 := w) rfl rfl ?_
      refine sx_RP.step (pc2 := 101) (ls2 := [(0, .ref A), (1, .long x), (3, .int l), (4, .int (nI j))]) (st2 := [.long (((x.toUInt64 >>> ((nI j).toInt64.toUInt64 &&& Int64.toUInt64 63)).toInt64) &&& 1)]) (w3 := w) rfl rfl ?_
      refine sx_RP.step (pc2 := 102) (ls2 := [(0, .ref A), (1, .long x), (3, .int l), (4, .int (nI j))]) (st2 := [.long 1, .long (((x.toUInt64 >>> ((nI j).toInt64.toUInt64 &&& Int64.toUInt64 63)).toInt64) &&& 1)]) (w3 := w) rfl rfl ?_
      refine sx_RP.step (pc2 := 103) (ls2 := [(0, .ref A), (1, .long x), (3, .int l), (4, .int (nI j))]) (st2 := [.int (lg_cmp (((x.toUInt64 >>> ((nI j).toInt64.toUInt64 &&& Int64.toUInt64 63)).toInt64) &&& 1) 1)]) (w3 := w) rfl rfl ?_
      refine sx_RP.br (p1 := 114) (l1 := [(0, .ref A), (1, .long x), (3, .int l), (4, .int (nI j))]) (s1 := []) (v1 := w) (p2 := 106) (l2 := [(0, .ref A), (1, .long x), (3, .int l), (4, .int (nI j))]) (s2 := []) (v2 := w) rfl rfl (fun q6 => ?_) (fun q6 => ?_)
      · replace q6 := of_decide_eq_true q6
        refine sx_RP.step (pc2 := 117) (ls2 := [(4, .int ((nI j) + 1)), (0, .ref A), (1, .long x), (3, .int l)]) (st2 := []) (w3 := w) rfl rfl ?_
        rw [nI_1 j]
        refine sx_RP.step (pc2 := 77) (ls2 := [(4, .int (nI (j + 1))), (0, .ref A), (1, .long x), (3, .int l)]) (st2 := []) (w3 := w) rfl rfl ?_
        exact sx_RP.ls (sx_lr.cons rfl (sx_lr.cons rfl (sx_lr.cons rfl (sx_lr.cons rfl sx_lr.nil)))) (kk w l hI hE (by omega))
      · replace q6 := Decidable.not_not.mp (of_decide_eq_false q6)
        refine sx_RP.step (pc2 := 107) (ls2 := [(0, .ref A), (1, .long x), (3, .int l), (4, .int (nI j))]) (st2 := [.ref A]) (w3 := w) rfl rfl ?_
        refine sx_RP.gref (k := 0) (b := A + 1) hI hA rfl rfl (by omega) (show _ = 110 from rfl) ?_
        refine sx_RP.step (pc2 := 112) (ls2 := [(0, .ref A), (1, .long x), (3, .int l), (4, .int (nI j))]) (st2 := [.int (nI j), .ref (A + 1)]) (w3 := w) rfl rfl ?_
        refine sx_RP.step (pc2 := 113) (ls2 := [(0, .ref A), (1, .long x), (3, .int l), (4, .int (nI j))]) (st2 := [.int 0, .int (nI j), .ref (A + 1)]) (w3 := w) rfl rfl ?_
        refine sx_RP.stS hI hE hA rfl (sx_in_nI (show j < 48 by omega) (by decide)) (show inR 0 3 from ⟨0, by decide, rfl⟩) (show _ = 114 from rfl) (fun w7 hI8 hE9 => ?_)
        refine sx_RP.step (pc2 := 117) (ls2 := [(4, .int ((nI j) + 1)), (0, .ref A), (1, .long x), (3, .int l)]) (st2 := []) (w3 := w7) rfl rfl ?_
        rw [nI_1 j]
        refine sx_RP.step (pc2 := 77) (ls2 := [(4, .int (nI (j + 1))), (0, .ref A), (1, .long x), (3, .int l)]) (st2 := []) (w3 := w7) rfl rfl ?_
        exact sx_RP.ls (sx_lr.cons rfl (sx_lr.cons rfl (sx_lr.cons rfl (sx_lr.cons rfl sx_lr.nil)))) (kk w7 l hI8 hE9 (by omega))
set_option maxRecDepth 20000 in
set_option maxHeartbeats 4000000 in
theorem s80bL {xs : Option (List Int32)} {d : Nat} {w0 : List sx_C} {A : Nat} (hA : isA A) (x : Int64) : ∀ (fz j : Nat) (w : List sx_C) (l : Int32) , 48 ≤ j + fz * 1 → j ≤ 48 → WI w → EC w0 w → sx_RP xs d 80 77 [(0, .ref A), (1, .long x), (3, .int l), (4, .int (nI j))] [] w (fun r w2 => (∃ v : Int32, r = some (.int v)) ∧ WI w2 ∧ EC w0 w2)
  | 0, j, w, l, h, hj, hI, hE => s80bB hA x hI hE hj l  (fun w4 ul hI4 hE4 hlt  => absurd hlt (by omega)) 
  | fz + 1, j, w, l, h, hj, hI, hE => s80bB hA x hI hE hj l  (fun w4 ul hI4 hE4 hlt  => s80bL hA x  fz (j + 1) w4 ul (by omega) hlt hI4 hE4 ) 
set_option maxRecDepth 20000 in
set_option maxHeartbeats 4000000 in
theorem s80aB {xs : Option (List Int32)} {d : Nat} {w w0 : List sx_C} {A : Nat} (hA : isA A) (x : Int64) (hI : WI w) (hE : EC w0 w) {j : Nat} (hj : j ≤ 10) (l : Int32) (kk : ∀ (w4 : List sx_C) (ul : Int32), WI w4 → EC w0 w4 → j + 1 ≤ 10 → sx_RP xs d 80 19 [(0, .ref A), (1, .long x), (3, .int ul), (4, .int (nI (j + 1)))] [] w4 (fun r w2 => (∃ v : Int32, r = some (.int v)) ∧ WI w2 ∧ EC w0 w2)) (kx74 : ∀ (w4 : List sx_C) (ul : Int32), WI w4 → EC w0 w4 → sx_RP xs d 80 74 [(0, .ref A), (1, .long x), (3, .int ul)] [] w4 (fun r w2 => (∃ v : Int32, r = some (.int v)) ∧ WI w2 ∧ EC w0 w2)) : sx_RP xs d 80 19 [(0, .ref A), (1, .long x), (3, .int l), (4, .int (nI j))] [] w (fun r w2 => (∃ v : Int32, r = some (.int v)) ∧ WI w2 ∧ EC w0 w2) := by
  refine sx_RP.step (pc2 := 21) (ls2 := [(0, .ref A), (1, .long x), (3, .int l), (4, .int (nI j))]) (st2 := [.int (nI j)]) (w3 := w) rfl rfl ?_
  refine sx_RP.step (pc2 := 22) (ls2 := [(0, .ref A), (1, .long x), (3, .int l), (4, .int (nI j))]) (st2 := [.ref A, .int (nI j)]) (w3 := w) rfl rfl ?_
  refine sx_RP.gc (k := 3) hI hA rfl rfl (by omega) (show _ = 25 from rfl) ?_
  obtain ⟨x1, hx2, ex3⟩ : inR (fi w A 3) 10 := (hI.c hA).1
  rw [ex3]
  refine sx_RP.br (p1 := 74) (l1 := [(0, .ref A), (1, .long x), (3, .int l), (4, .int (nI j))]) (s1 := []) (v1 := w) (p2 := 28) (l2 := [(0, .ref A), (1, .long x), (3, .int l), (4, .int (nI j))]) (s2 := []) (v2 := w) rfl rfl (fun q4 => ?_) (fun q4 => ?_)
  · replace q4 := of_decide_eq_true q4
    replace q4 := (nI_leI (a := x1) (b := j) (by omega) (by omega)).mp q4
    exact sx_RP.ls (sx_lr.cons rfl (sx_lr.cons rfl (sx_lr.cons rfl sx_lr.nil))) (kx74 w l hI hE)
  · replace q4 := of_decide_eq_false q4
    replace q4 := mt (nI_leI (a := x1) (b := j) (by omega) (by omega)).mpr q4
    refine sx_RP.step (pc2 := 29) (ls2 := [(0, .ref A), (1, .long x), (3, .int l), (4, .int (nI j))]) (st2 := [.ref A]) (w3 := w) rfl rfl ?_
    refine sx_RP.gref (k := 2) (b := A + 2) hI hA rfl rfl (by omega) (show _ = 32 from rfl) ?_
    refine sx_RP.step (pc2 := 34) (ls2 := [(0, .ref A), (1, .long x), (3, .int l), (4, .int (nI j))]) (st2 := [.int (nI j), .ref (A + 2)]) (w3 := w) rfl rfl ?_
    refine sx_RP.ald (v := .ref (A + 4 + j)) rfl (hI.1.aG hA) rfl (grA_at (show j < 10 by omega)) (show _ = 35 from rfl) ?_
    refine sx_RP.step (pc2 := 37) (ls2 := [(5, .ref (A + 4 + j)), (0, .ref A), (1, .long x), (3, .int l), (4, .int (nI j))]) (st2 := []) (w3 := w) rfl rfl ?_
    refine sx_RP.step (pc2 := 39) (ls2 := [(5, .ref (A + 4 + j)), (0, .ref A), (1, .long x), (3, .int l), (4, .int (nI j))]) (st2 := [.ref (A + 4 + j)]) (w3 := w) rfl rfl ?_
    refine sx_RP.gg (k := 5) hI (gAd.of hA (show j < 10 by omega)) rfl rfl (by decide) (show _ = 42 from rfl) ?_
    obtain ⟨x5, hx6, ex7⟩ : inR (fi w (A + 4 + j) 5) 1 := hI.gk (k := 5) (gAd.of hA (show j < 10 by omega)) (by decide)
    rw [ex7]
    refine sx_RP.br (p1 := 68) (l1 := [(5, .ref (A + 4 + j)), (0, .ref A), (1, .long x), (3, .int l), (4, .int (nI j))]) (s1 := []) (v1 := w) (p2 := 45) (l2 := [(5, .ref (A + 4 + j)), (0, .ref A), (1, .long x), (3, .int l), (4, .int (nI j))]) (s2 := []) (v2 := w) rfl rfl (fun q8 => ?_) (fun q8 => ?_)
    · replace q8 := of_decide_eq_true q8
      replace q8 := mt (nI_eq (a := x5) (b := 0) (by omega) (by omega)).mpr q8
      refine sx_RP.step (pc2 := 71) (ls2 := [(4, .int ((nI j) + 1)), (5, .ref (A + 4 + j)), (0, .ref A), (1, .long x), (3, .int l)]) (st2 := []) (w3 := w) rfl rfl ?_
      rw [nI_1 j]
      refine sx_RP.step (pc2 := 19) (ls2 := [(4, .int (nI (j + 1))), (5, .ref (A + 4 + j)), (0, .ref A), (1, .long x), (3, .int l)]) (st2 := []) (w3 := w) rfl rfl ?_
      exact sx_RP.ls (sx_lr.cons rfl (sx_lr.cons rfl (sx_lr.cons rfl (sx_lr.cons rfl sx_lr.nil)))) (kk w l hI hE (by omega))
    · replace q8 := Decidable.not_not.mp (of_decide_eq_false q8)
      replace q8 := (nI_eq (a := x5) (b := 0) (by omega) (by omega)).mp q8
      refine sx_RP.step (pc2 := 46) (ls2 := [(5, .ref (A + 4 + j)), (0, .ref A), (1, .long x), (3, .int l), (4, .int (nI j))]) (st2 := [.long x]) (w3 := w) rfl rfl ?_
      refine sx_RP.step (pc2 := 48) (ls2 := [(5, .ref (A + 4 + j)), (0, .ref A), (1, .long x), (3, .int l), (4, .int (nI j))]) (st2 := [.ref (A + 4 + j), .long x]) (w3 := w) rfl rfl ?_
      refine sx_RP.gg (k := 2) hI (gAd.of hA (show j < 10 by omega)) rfl rfl (by decide) (show _ = 51 from rfl) ?_
      obtain ⟨x9, hx10, ex11⟩ : inR (fi w (A + 4 + j) 2) 47 := hI.gk (k := 2) (gAd.of hA (show j < 10 by omega)) (by decide)
      rw [ex11]
      refine sx_RP.step (pc2 := 52) (ls2 := [(5, .ref (A + 4 + j)), (0, .ref A), (1, .long x), (3, .int l), (4, .int (nI j))]) (st2 := [.long ((x.toUInt64 >>> ((nI x9).toInt64.toUInt64 &&& Int64.toUInt64 63)).toInt64)]) (w3 := w) rfl rfl ?_
      refine sx_RP.step (pc2 := 53) (ls2 := [(5, .ref (A + 4 + j)), (0, .ref A), (1, .long x), (3, .int l), (4, .int (nI j))]) (st2 := [.long 1, .long ((x.toUInt64 >>> ((nI x9).toInt64.toUInt64 &&& Int64.toUInt64 63)).toInt64)]) (w3 := w) rfl rfl ?_
      refine sx_RP.step (pc2 := 54) (ls2 := [(5, .ref (A + 4 + j)), (0, .ref A), (1, .long x), (3, .int l), (4, .int (nI j))]) (st2 := [.long (((x.toUInt64 >>> ((nI x9).toInt64.toUInt64 &&& Int64.toUInt64 63)).toInt64) &&& 1)]) (w3 := w) rfl rfl ?_
      refine sx_RP.step (pc2 := 55) (ls2 := [(5, .ref (A + 4 + j)), (0, .ref A), (1, .long x), (3, .int l), (4, .int (nI j))]) (st2 := [.long 1, .long (((x.toUInt64 >>> ((nI x9).toInt64.toUInt64 &&& Int64.toUInt64 63)).toInt64) &&& 1)]) (w3 := w) rfl rfl ?_
      refine sx_RP.step (pc2 := 56) (ls2 := [(5, .ref (A + 4 + j)), (0, .ref A), (1, .long x), (3, .int l), (4, .int (nI j))]) (st2 := [.int (lg_cmp (((x.toUInt64 >>> ((nI x9).toInt64.toUInt64 &&& Int64.toUInt64 63)).toInt64) &&& 1) 1)]) (w3 := w) rfl rfl ?_
      refine sx_RP.br (p1 := 68) (l1 := [(5, .ref (A + 4 + j)), (0, .ref A), (1, .long x), (3, .int l), (4, .int (nI j))]) (s1 := []) (v1 := w) (p2 := 59) (l2 := [(5, .ref (A + 4 + j)), (0, .ref A), (1, .long x), (3, .int l), (4, .int (nI j))]) (s2 := []) (v2 := w) rfl rfl (fun q12 => ?_) (fun q12 => ?_)
      · replace q12 := of_decide_eq_true q12
        refine sx_RP.step (pc2 := 71) (ls2 := [(4, .int ((nI j) + 1)), (5, .ref (A + 4 + j)), (0, .ref A), (1, .long x), (3, .int l)]) (st2 := []) (w3 := w) rfl rfl ?_
        rw [nI_1 j]
        refine sx_RP.step (pc2 := 19) (ls2 := [(4, .int (nI (j + 1))), (5, .ref (A + 4 + j)), (0, .ref A), (1, .long x), (3, .int l)]) (st2 := []) (w3 := w) rfl rfl ?_
        exact sx_RP.ls (sx_lr.cons rfl (sx_lr.cons rfl (sx_lr.cons rfl (sx_lr.cons rfl sx_lr.nil)))) (kk w l hI hE (by omega))
      · replace q12 := Decidable.not_not.mp (of_decide_eq_false q12)
        refine sx_RP.step (pc2 := 61) (ls2 := [(5, .ref (A + 4 + j)), (0, .ref A), (1, .long x), (3, .int l), (4, .int (nI j))]) (st2 := [.ref (A + 4 + j)]) (w3 := w) rfl rfl ?_
        refine sx_RP.step (pc2 := 62) (ls2 := [(5, .ref (A + 4 + j)), (0, .ref A), (1, .long x), (3, .int l), (4, .int (nI j))]) (st2 := [.int 1, .ref (A + 4 + j)]) (w3 := w) rfl rfl ?_
        refine sx_RP.pg (k := 5) hI hE (gAd.of hA (show j < 10 by omega)) rfl rfl (by decide) rfl (show inR 1 1 from ⟨1, by decide, rfl⟩) (show _ = 65 from rfl) (fun w13 hI14 hE15 hk16 => ?_)
        have ex17 := (hk16 A 3 hA).trans ex3
        refine sx_RP.step (pc2 := 68) (ls2 := [(3, .int (l + 1)), (5, .ref (A + 4 + j)), (0, .ref A), (1, .long x), (4, .int (nI j))]) (st2 := []) (w3 := w13) rfl rfl ?_
        refine sx_RP.step (pc2 := 71) (ls2 := [(4, .int ((nI j) + 1)), (3, .int (l + 1)), (5, .ref (A + 4 + j)), (0, .ref A), (1, .long x)]) (st2 := []) (w3 := w13) rfl rfl ?_
        rw [nI_1 j]
        refine sx_RP.step (pc2 := 19) (ls2 := [(4, .int (nI (j + 1))), (3, .int (l + 1)), (5, .ref (A + 4 + j)), (0, .ref A), (1, .long x)]) (st2 := []) (w3 := w13) rfl rfl ?_
        exact sx_RP.ls (sx_lr.cons rfl (sx_lr.cons rfl (sx_lr.cons rfl (sx_lr.cons rfl sx_lr.nil)))) (kk w13 (l + 1) hI14 hE15 (by omega))
set_option maxRecDepth 20000 in
set_option maxHeartbeats 4000000 in
theorem s80aL {xs : Option (List Int32)} {d : Nat} {w0 : List sx_C} {A : Nat} (hA : isA A) (x : Int64) (kx74 : ∀ (w4 : List sx_C) (ul : Int32), WI w4 → EC w0 w4 → sx_RP xs d 80 74 [(0, .ref A), (1, .long x), (3, .int ul)] [] w4 (fun r w2 => (∃ v : Int32, r = some (.int v)) ∧ WI w2 ∧ EC w0 w2)) : ∀ (fz j : Nat) (w : List sx_C) (l : Int32) , 10 ≤ j + fz * 1 → j ≤ 10 → WI w → EC w0 w → sx_RP xs d 80 19 [(0, .ref A), (1, .long x), (3, .int l), (4, .int (nI j))] [] w (fun r w2 => (∃ v : Int32, r = some (.int v)) ∧ WI w2 ∧ EC w0 w2)
  | 0, j, w, l, h, hj, hI, hE => s80aB hA x hI hE hj l  (fun w4 ul hI4 hE4 hlt  => absurd hlt (by omega)) kx74
  | fz + 1, j, w, l, h, hj, hI, hE => s80aB hA x hI hE hj l  (fun w4 ul hI4 hE4 hlt  => s80aL hA x kx74 fz (j + 1) w4 ul (by omega) hlt hI4 hE4 ) kx74
set_option maxRecDepth 20000 in
set_option maxHeartbeats 4000000 in
theorem s80 {xs : Option (List Int32)} {d : Nat} {w : List sx_C} (hI : WI w) {A : Nat} (hA : isA A) (x : Int64) : sx_RP xs d 80 0 (lv_args 0 [.ref A, .long x]) [] w (fun r w2 => (∃ v : Int32, r = some (.int v)) ∧ WI w2 ∧ EC w w2) := by
  have hE : EC w w := EC.rf
  refine sx_RP.step (pc2 := 1) (ls2 := [(0, .ref A), (1, .long x)]) (st2 := [.ref A]) (w3 := w) rfl rfl ?_
  refine sx_RP.step (pc2 := 2) (ls2 := [(0, .ref A), (1, .long x)]) (st2 := [.ref A, .ref A]) (w3 := w) rfl rfl ?_
  refine sx_RP.gw hI hA rfl rfl (show _ = 5 from rfl) ?_
  refine sx_RP.step (pc2 := 6) (ls2 := [(0, .ref A), (1, .long x)]) (st2 := [.long x, .long (fj w A 1), .ref A]) (w3 := w) rfl rfl ?_
  refine sx_RP.step (pc2 := 9) (ls2 := [(0, .ref A), (1, .long x)]) (st2 := [.long (-1), .long x, .long (fj w A 1), .ref A]) (w3 := w) rfl rfl ?_
  refine sx_RP.step (pc2 := 10) (ls2 := [(0, .ref A), (1, .long x)]) (st2 := [.long (x ^^^ (-1)), .long (fj w A 1), .ref A]) (w3 := w) rfl rfl ?_
  refine sx_RP.step (pc2 := 11) (ls2 := [(0, .ref A), (1, .long x)]) (st2 := [.long ((fj w A 1) &&& (x ^^^ (-1))), .ref A]) (w3 := w) rfl rfl ?_
  refine sx_RP.pw hI hE hA rfl rfl rfl (show _ = 14 from rfl) (fun w1 hI2 hE3 => ?_)
  refine sx_RP.step (pc2 := 15) (ls2 := [(0, .ref A), (1, .long x)]) (st2 := [.int 0]) (w3 := w1) rfl rfl ?_
  refine sx_RP.step (pc2 := 16) (ls2 := [(3, .int 0), (0, .ref A), (1, .long x)]) (st2 := []) (w3 := w1) rfl rfl ?_
  refine sx_RP.step (pc2 := 17) (ls2 := [(3, .int 0), (0, .ref A), (1, .long x)]) (st2 := [.int 0]) (w3 := w1) rfl rfl ?_
  refine sx_RP.step (pc2 := 19) (ls2 := [(4, .int 0), (3, .int 0), (0, .ref A), (1, .long x)]) (st2 := []) (w3 := w1) rfl rfl ?_
  refine sx_RP.ls (sx_lr.cons rfl (sx_lr.cons rfl (sx_lr.cons rfl (sx_lr.cons rfl sx_lr.nil)))) (s80aL hA x (fun w4 u7 hI5 hE6 => ?_) 10 0 w1 0 (by omega) (by omega) hI2 hE3 )
  refine sx_RP.step (pc2 := 75) (ls2 := [(0, .ref A), (1, .long x), (3, .int u7)]) (st2 := [.int 0]) (w3 := w4) rfl rfl ?_
  refine sx_RP.step (pc2 := 77) (ls2 := [(4, .int 0), (0, .ref A), (1, .long x), (3, .int u7)]) (st2 := []) (w3 := w4) rfl rfl ?_
  exact sx_RP.ls (sx_lr.cons rfl (sx_lr.cons rfl (sx_lr.cons rfl (sx_lr.cons rfl sx_lr.nil)))) (s80bL hA x 48 0 w4 u7 (by omega) (by omega) hI5 hE6 )
set_option maxRecDepth 20000 in
set_option maxHeartbeats 4000000 in
theorem s104B {xs : Option (List Int32)} {d : Nat} {w w0 : List sx_C} {A : Nat} (hA : isA A) {u t : Nat} (x : Int32) (hu : u ≤ 4) (ht : t ≤ 47) (hI : WI w) (hE : EC w0 w) {j : Nat} (hj : j ≤ 48) (kk : ∀ (w4 : List sx_C), WI w4 → EC w0 w4 → j + 1 ≤ 48 → sx_RP xs d 104 3 [(0, .ref A), (1, .int (nI u)), (2, .int x), (3, .int (nI t)), (4, .int (nI (j + 1)))] [] w4 (fun r w2 => (r = none) ∧ WI w2 ∧ EC w0 w2)) : sx_RP xs d 104 3 [(0, .ref A), (1, .int (nI u)), (2, .int x), (3, .int (nI t)), (4, .int (nI j))] [] w (fun r w2 => (r = none) ∧ WI w2 ∧ EC w0 w2) := by
  refine sx_RP.step (pc2 := 5) (ls2 := [(0, .ref A), (1, .int (nI u)), (2, .int x), (3, .int (nI t)), (4, .int (nI j))]) (st2 := [.int (nI j)]) (w3 := w) rfl rfl ?_
  refine sx_RP.step (pc2 := 6) (ls2 := [(0, .ref A), (1, .int (nI u)), (2, .int x), (3, .int (nI t)), (4, .int (nI j))]) (st2 := [.int (nI t), .int (nI j)]) (w3 := w) rfl rfl ?_
  refine sx_RP.br (p1 := 44) (l1 := [(0, .ref A), (1, .int (nI u)), (2, .int x), (3, .int (nI t)), (4, .int (nI j))]) (s1 := []) (v1 := w) (p2 := 9) (l2 := [(0, .ref A), (1, .int (nI u)), (2, .int x), (3, .int (nI t)), (4, .int (nI j))]) (s2 := []) (v2 := w) rfl rfl (fun q1 => ?_) (fun q1 => ?_)
  · replace q1 := of_decide_eq_true q1
    replace q1 := (nI_ltI (a := t) (b := j) (by omega) (by omega)).mp q1
    refine sx_RP.ret (r := none) rfl rfl ?_
    exact ⟨rfl, hI, hE⟩
  · replace q1 := of_decide_eq_false q1
    replace q1 := mt (nI_ltI (a := t) (b := j) (by omega) (by omega)).mpr q1
    refine sx_RP.step (pc2 := 10) (ls2 := [(0, .ref A), (1, .int (nI u)), (2, .int x), (3, .int (nI t)), (4, .int (nI j))]) (st2 := [.int (nI u)]) (w3 := w) rfl rfl ?_
    refine sx_RP.step (pc2 := 11) (ls2 := [(0, .ref A), (1, .int (nI u)), (2, .int x), (3, .int (nI t)), (4, .int (nI j))]) (st2 := [.int 4, .int (nI u)]) (w3 := w) rfl rfl ?_
    refine sx_RP.br (p1 := 30) (l1 := [(0, .ref A), (1, .int (nI u)), (2, .int x), (3, .int (nI t)), (4, .int (nI j))]) (s1 := []) (v1 := w) (p2 := 14) (l2 := [(0, .ref A), (1, .int (nI u)), (2, .int x), (3, .int (nI t)), (4, .int (nI j))]) (s2 := []) (v2 := w) rfl rfl (fun q2 => ?_) (fun q2 => ?_)
    · replace q2 := of_decide_eq_true q2
      replace q2 := mt (nI_eq (a := u) (b := 4) (by omega) (by omega)).mpr q2
      refine sx_RP.step (pc2 := 31) (ls2 := [(0, .ref A), (1, .int (nI u)), (2, .int x), (3, .int (nI t)), (4, .int (nI j))]) (st2 := [.ref A]) (w3 := w) rfl rfl ?_
      refine sx_RP.gref (k := 0) (b := A + 1) hI hA rfl rfl (by omega) (show _ = 34 from rfl) ?_
      refine sx_RP.step (pc2 := 36) (ls2 := [(0, .ref A), (1, .int (nI u)), (2, .int x), (3, .int (nI t)), (4, .int (nI j))]) (st2 := [.int (nI j), .ref (A + 1)]) (w3 := w) rfl rfl ?_
      refine sx_RP.step (pc2 := 37) (ls2 := [(0, .ref A), (1, .int (nI u)), (2, .int x), (3, .int (nI t)), (4, .int (nI j))]) (st2 := [.int (nI u), .int (nI j), .ref (A + 1)]) (w3 := w) rfl rfl ?_
      refine sx_RP.stS hI hE hA rfl (sx_in_nI (show j < 48 by omega) (by decide)) (inR.n (show u ≤ 3 by omega)) (show _ = 38 from rfl) (fun w3 hI4 hE5 => ?_)
      refine sx_RP.step (pc2 := 41) (ls2 := [(4, .int ((nI j) + 1)), (0, .ref A), (1, .int (nI u)), (2, .int x), (3, .int (nI t))]) (st2 := []) (w3 := w3) rfl rfl ?_
      rw [nI_1 j]
      refine sx_RP.step (pc2 := 3) (ls2 := [(4, .int (nI (j + 1))), (0, .ref A), (1, .int (nI u)), (2, .int x), (3, .int (nI t))]) (st2 := []) (w3 := w3) rfl rfl ?_
      exact sx_RP.ls (sx_lr.cons rfl (sx_lr.cons rfl (sx_lr.cons rfl (sx_lr.cons rfl (sx_lr.cons rfl sx_lr.nil))))) (kk w3 hI4 hE5 (by omega))
    · replace q2 := Decidable.not_not.mp (of_decide_eq_false q2)
      replace q2 := (nI_eq (a := u) (b := 4) (by omega) (by omega)).mp q2
      refine sx_RP.step (pc2 := 15) (ls2 := [(0, .ref A), (1, .int (nI u)), (2, .int x), (3, .int (nI t)), (4, .int (nI j))]) (st2 := [.ref A]) (w3 := w) rfl rfl ?_
      refine sx_RP.step (pc2 := 16) (ls2 := [(0, .ref A), (1, .int (nI u)), (2, .int x), (3, .int (nI t)), (4, .int (nI j))]) (st2 := [.ref A, .ref A]) (w3 := w) rfl rfl ?_
      refine sx_RP.gw hI hA rfl rfl (show _ = 19 from rfl) ?_
      refine sx_RP.step (pc2 := 20) (ls2 := [(0, .ref A), (1, .int (nI u)), (2, .int x), (3, .int (nI t)), (4, .int (nI j))]) (st2 := [.long 1, .long (fj w A 1), .ref A]) (w3 := w) rfl rfl ?_
      refine sx_RP.step (pc2 := 22) (ls2 := [(0, .ref A), (1, .int (nI u)), (2, .int x), (3, .int (nI t)), (4, .int (nI j))]) (st2 := [.int (nI j), .long 1, .long (fj w A 1), .ref A]) (w3 := w) rfl rfl ?_
      refine sx_RP.step (pc2 := 23) (ls2 := [(0, .ref A), (1, .int (nI u)), (2, .int x), (3, .int (nI t)), (4, .int (nI j))]) (st2 := [.long ((1 : Int64) <<< ((nI j).toInt64 &&& 63)), .long (fj w A 1), .ref A]) (w3 := w) rfl rfl ?_
      refine sx_RP.step (pc2 := 24) (ls2 := [(0, .ref A), (1, .int (nI u)), (2, .int x), (3, .int (nI t)), (4, .int (nI j))]) (st2 := [.long ((fj w A 1) ||| ((1 : Int64) <<< ((nI j).toInt64 &&& 63))), .ref A]) (w3 := w) rfl rfl ?_
      refine sx_RP.pw hI hE hA rfl rfl rfl (show _ = 27 from rfl) (fun w6 hI7 hE8 => ?_)
      refine sx_RP.step (pc2 := 38) (ls2 := [(0, .ref A), (1, .int (nI u)), (2, .int x), (3, .int (nI t)), (4, .int (nI j))]) (st2 := []) (w3 := w6) rfl rfl ?_
      refine sx_RP.step (pc2 := 41) (ls2 := [(4, .int ((nI j) + 1)), (0, .ref A), (1, .int (nI u)), (2, .int x), (3, .int (nI t))]) (st2 := []) (w3 := w6) rfl rfl ?_
      rw [nI_1 j]
      refine sx_RP.step (pc2 := 3) (ls2 := [(4, .int (nI (j + 1))), (0, .ref A), (1, .int (nI u)), (2, .int x), (3, .int (nI t))]) (st2 := []) (w3 := w6) rfl rfl ?_
      exact sx_RP.ls (sx_lr.cons rfl (sx_lr.cons rfl (sx_lr.cons rfl (sx_lr.cons rfl (sx_lr.cons rfl sx_lr.nil))))) (kk w6 hI7 hE8 (by omega))
set_option maxRecDepth 20000 in
set_option maxHeartbeats 4000000 in
theorem s104L {xs : Option (List Int32)} {d : Nat} {w0 : List sx_C} {A : Nat} (hA : isA A) {u t : Nat} (x : Int32) (hu : u ≤ 4) (ht : t ≤ 47) : ∀ (fz j : Nat) (w : List sx_C) , 48 ≤ j + fz * 1 → j ≤ 48 → WI w → EC w0 w → sx_RP xs d 104 3 [(0, .ref A), (1, .int (nI u)), (2, .int x), (3, .int (nI t)), (4, .int (nI j))] [] w (fun r w2 => (r = none) ∧ WI w2 ∧ EC w0 w2)
  | 0, j, w, h, hj, hI, hE => s104B hA x hu ht hI hE hj   (fun w4  hI4 hE4 hlt  => absurd hlt (by omega)) 
  | fz + 1, j, w, h, hj, hI, hE => s104B hA x hu ht hI hE hj   (fun w4  hI4 hE4 hlt  => s104L hA x hu ht  fz (j + 1) w4  (by omega) hlt hI4 hE4 ) 
set_option maxRecDepth 20000 in
set_option maxHeartbeats 4000000 in
theorem s104 {xs : Option (List Int32)} {d : Nat} {w : List sx_C} (hI : WI w) {A : Nat} (hA : isA A) {u f t : Nat} (hu : u ≤ 4) (hf : f ≤ 48) (ht : t ≤ 47) : sx_RP xs d 104 0 (lv_args 0 [.ref A, .int (nI u), .int (nI f), .int (nI t)]) [] w (fun r w2 => (r = none) ∧ WI w2 ∧ EC w w2) := by
  have hE : EC w w := EC.rf
  refine sx_RP.step (pc2 := 1) (ls2 := [(0, .ref A), (1, .int (nI u)), (2, .int (nI f)), (3, .int (nI t))]) (st2 := [.int (nI f)]) (w3 := w) rfl rfl ?_
  refine sx_RP.step (pc2 := 3) (ls2 := [(4, .int (nI f)), (0, .ref A), (1, .int (nI u)), (2, .int (nI f)), (3, .int (nI t))]) (st2 := []) (w3 := w) rfl rfl ?_
  exact sx_RP.ls (sx_lr.cons rfl (sx_lr.cons rfl (sx_lr.cons rfl (sx_lr.cons rfl (sx_lr.cons rfl sx_lr.nil))))) (s104L hA (nI f) hu ht 48 f w  (by omega) (by omega) hI hE )
set_option maxRecDepth 20000 in
set_option maxHeartbeats 4000000 in
theorem s56B {xs : Option (List Int32)} {d : Nat} {w w0 : List sx_C} {ga : Nat} (hg : gAd ga) (hI : WI w) (hE : EC w0 w) {j : Nat} (hj : j ≤ 48) (kk : ∀ (w4 : List sx_C), WI w4 → EC w0 w4 → j + 1 ≤ 48 → sx_RP xs (d + 4) 56 2 [(0, .ref 0), (1, .ref ga), (2, .int (nI (j + 1)))] [] w4 (fun r w2 => (r = none) ∧ WI w2 ∧ EC w0 w2)) : sx_RP xs (d + 4) 56 2 [(0, .ref 0), (1, .ref ga), (2, .int (nI j))] [] w (fun r w2 => (r = none) ∧ WI w2 ∧ EC w0 w2) := by
  refine sx_RP.step (pc2 := 3) (ls2 := [(0, .ref 0), (1, .ref ga), (2, .int (nI j))]) (st2 := [.int (nI j)]) (w3 := w) rfl rfl ?_
  refine sx_RP.step (pc2 := 5) (ls2 := [(0, .ref 0), (1, .ref ga), (2, .int (nI j))]) (st2 := [.int 48, .int (nI j)]) (w3 := w) rfl rfl ?_
  refine sx_RP.br (p1 := 51) (l1 := [(0, .ref 0), (1, .ref ga), (2, .int (nI j))]) (s1 := []) (v1 := w) (p2 := 8) (l2 := [(0, .ref 0), (1, .ref ga), (2, .int (nI j))]) (s2 := []) (v2 := w) rfl rfl (fun q1 => ?_) (fun q1 => ?_)
  · replace q1 := of_decide_eq_true q1
    replace q1 := (nI_leI (a := 48) (b := j) (by omega) (by omega)).mp q1
    refine sx_RP.step (pc2 := 52) (ls2 := [(0, .ref 0), (1, .ref ga), (2, .int (nI j))]) (st2 := [.ref ga]) (w3 := w) rfl rfl ?_
    refine sx_RP.gg (k := 2) hI hg rfl rfl (by decide) (show _ = 55 from rfl) ?_
    obtain ⟨x2, hx3, ex4⟩ : inR (fi w ga 2) 47 := hI.gk (k := 2) hg (by decide)
    rw [ex4]
    refine sx_RP.step (pc2 := 56) (ls2 := [(0, .ref 0), (1, .ref ga), (2, .int (nI j))]) (st2 := [.ref 0, .int (nI x2)]) (w3 := w) rfl rfl ?_
    refine sx_RP.gf (v := .ref 100) rfl rfl hI.1.o0 rfl rfl (show _ = 59 from rfl) ?_
    refine sx_RP.step (pc2 := 60) (ls2 := [(0, .ref 0), (1, .ref ga), (2, .int (nI j))]) (st2 := [.ref 0, .ref 100, .int (nI x2)]) (w3 := w) rfl rfl ?_
    refine sx_RP.gf (v := .ref 101) rfl rfl hI.1.o0 rfl rfl (show _ = 63 from rfl) ?_
    refine sx_RP.callp (as2 := [.int (nI x2), .ref 100, .ref 101]) (rest2 := []) rfl rfl rfl rfl rfl rfl (s18 hI (show x2 < 48 by omega)) (show _ = 66 from rfl) ?_
    rintro r4 w5 ⟨rfl, hI6, hE8⟩
    have hE7 := hE.tr hE8
    show sx_RP _ _ _ _ _ [] _ _
    refine sx_RP.ret (r := none) rfl rfl ?_
    exact ⟨rfl, hI6, hE7⟩
  · replace q1 := of_decide_eq_false q1
    replace q1 := mt (nI_leI (a := 48) (b := j) (by omega) (by omega)).mpr q1
    refine sx_RP.step (pc2 := 9) (ls2 := [(0, .ref 0), (1, .ref ga), (2, .int (nI j))]) (st2 := [.ref 0]) (w3 := w) rfl rfl ?_
    refine sx_RP.gf (v := .ref 100) rfl rfl hI.1.o0 rfl rfl (show _ = 12 from rfl) ?_
    refine sx_RP.step (pc2 := 13) (ls2 := [(0, .ref 0), (1, .ref ga), (2, .int (nI j))]) (st2 := [.int (nI j), .ref 100]) (w3 := w) rfl rfl ?_
    refine sx_RP.step (pc2 := 14) (ls2 := [(0, .ref 0), (1, .ref ga), (2, .int (nI j))]) (st2 := [.ref 0, .int (nI j), .ref 100]) (w3 := w) rfl rfl ?_
    refine sx_RP.gf (v := .ref 1) rfl rfl hI.1.o0 rfl rfl (show _ = 17 from rfl) ?_
    refine sx_RP.step (pc2 := 18) (ls2 := [(0, .ref 0), (1, .ref ga), (2, .int (nI j))]) (st2 := [.ref ga, .ref 1, .int (nI j), .ref 100]) (w3 := w) rfl rfl ?_
    refine sx_RP.gg (k := 0) hI hg rfl rfl (by decide) (show _ = 21 from rfl) ?_
    obtain ⟨x9, hx10, ex11⟩ : inR (fi w ga 0) 5 := hI.gk (k := 0) hg (by decide)
    rw [ex11]
    refine sx_RP.step (pc2 := 22) (ls2 := [(0, .ref 0), (1, .ref ga), (2, .int (nI j))]) (st2 := [.int (nI j), .int (nI x9), .ref 1, .int (nI j), .ref 100]) (w3 := w) rfl rfl ?_
    obtain ⟨x12, hx13, c14⟩ := p57 hI (Or.inl rfl) (show x9 ≤ 5 by omega) (show j < 48 by omega)
    refine sx_RP.cu (as := [.ref 1, .int (nI x9), .int (nI j)]) (rest2 := [.int (nI j), .ref 100]) (st3 := [.int (nI x12), .int (nI j), .ref 100]) rfl rfl (sx_inv_v2 (mi := 56) (k := 201) (st := [.int (nI j), .int (nI x9), .ref 1, .int (nI j), .ref 100]) (w := w) rfl rfl (hI.1.oC (Or.inl rfl)) rfl rfl rfl) rfl rfl (c14) rfl ?_
    refine sx_RP.br (p1 := 43) (l1 := [(0, .ref 0), (1, .ref ga), (2, .int (nI j))]) (s1 := [.int (nI j), .ref 100]) (v1 := w) (p2 := 28) (l2 := [(0, .ref 0), (1, .ref ga), (2, .int (nI j))]) (s2 := [.int (nI j), .ref 100]) (v2 := w) rfl rfl (fun q15 => ?_) (fun q15 => ?_)
    · replace q15 := of_decide_eq_true q15
      replace q15 := (nI_eq (a := x12) (b := 0) (by omega) (by omega)).mp q15
      refine sx_RP.step (pc2 := 44) (ls2 := [(0, .ref 0), (1, .ref ga), (2, .int (nI j))]) (st2 := [.int (-1), .int (nI j), .ref 100]) (w3 := w) rfl rfl ?_
      refine sx_RP.stF hI hE rfl hI.1.a100 (sx_in_nI (show j < 48 by omega) (by decide)) (by omega) (show _ = 45 from rfl) (fun w16 hI17 hE18 => ?_)
      refine sx_RP.step (pc2 := 48) (ls2 := [(2, .int ((nI j) + 1)), (0, .ref 0), (1, .ref ga)]) (st2 := []) (w3 := w16) rfl rfl ?_
      rw [nI_1 j]
      refine sx_RP.step (pc2 := 2) (ls2 := [(2, .int (nI (j + 1))), (0, .ref 0), (1, .ref ga)]) (st2 := []) (w3 := w16) rfl rfl ?_
      exact sx_RP.ls (sx_lr.cons rfl (sx_lr.cons rfl (sx_lr.cons rfl sx_lr.nil))) (kk w16 hI17 hE18 (by omega))
    · replace q15 := of_decide_eq_false q15
      replace q15 := mt (nI_eq (a := x12) (b := 0) (by omega) (by omega)).mpr q15
      refine sx_RP.step (pc2 := 29) (ls2 := [(0, .ref 0), (1, .ref ga), (2, .int (nI j))]) (st2 := [.ref 0, .int (nI j), .ref 100]) (w3 := w) rfl rfl ?_
      refine sx_RP.gf (v := .ref 1) rfl rfl hI.1.o0 rfl rfl (show _ = 32 from rfl) ?_
      refine sx_RP.step (pc2 := 33) (ls2 := [(0, .ref 0), (1, .ref ga), (2, .int (nI j))]) (st2 := [.ref ga, .ref 1, .int (nI j), .ref 100]) (w3 := w) rfl rfl ?_
      refine sx_RP.gg (k := 0) hI hg rfl rfl (by decide) (show _ = 36 from rfl) ?_
      rw [ex11]
      refine sx_RP.step (pc2 := 37) (ls2 := [(0, .ref 0), (1, .ref ga), (2, .int (nI j))]) (st2 := [.int (nI j), .int (nI x9), .ref 1, .int (nI j), .ref 100]) (w3 := w) rfl rfl ?_
      obtain ⟨v19, c20⟩ := p33 hI (Or.inl rfl) (show x9 ≤ 5 by omega) (show j < 48 by omega)
      refine sx_RP.cu (as := [.ref 1, .int (nI x9), .int (nI j)]) (rest2 := [.int (nI j), .ref 100]) (st3 := [.int v19, .int (nI j), .ref 100]) rfl rfl (sx_inv_v2 (mi := 56) (k := 153) (st := [.int (nI j), .int (nI x9), .ref 1, .int (nI j), .ref 100]) (w := w) rfl rfl (hI.1.oC (Or.inl rfl)) rfl rfl rfl) rfl rfl (c20) rfl ?_
      refine sx_RP.step (pc2 := 44) (ls2 := [(0, .ref 0), (1, .ref ga), (2, .int (nI j))]) (st2 := [.int v19, .int (nI j), .ref 100]) (w3 := w) rfl rfl ?_
      refine sx_RP.stF hI hE rfl hI.1.a100 (sx_in_nI (show j < 48 by omega) (by decide)) (by omega) (show _ = 45 from rfl) (fun w21 hI22 hE23 => ?_)
      refine sx_RP.step (pc2 := 48) (ls2 := [(2, .int ((nI j) + 1)), (0, .ref 0), (1, .ref ga)]) (st2 := []) (w3 := w21) rfl rfl ?_
      rw [nI_1 j]
      refine sx_RP.step (pc2 := 2) (ls2 := [(2, .int (nI (j + 1))), (0, .ref 0), (1, .ref ga)]) (st2 := []) (w3 := w21) rfl rfl ?_
      exact sx_RP.ls (sx_lr.cons rfl (sx_lr.cons rfl (sx_lr.cons rfl sx_lr.nil))) (kk w21 hI22 hE23 (by omega))
set_option maxRecDepth 20000 in
set_option maxHeartbeats 4000000 in
theorem s56L {xs : Option (List Int32)} {d : Nat} {w0 : List sx_C} {ga : Nat} (hg : gAd ga) : ∀ (fz j : Nat) (w : List sx_C) , 48 ≤ j + fz * 1 → j ≤ 48 → WI w → EC w0 w → sx_RP xs (d + 4) 56 2 [(0, .ref 0), (1, .ref ga), (2, .int (nI j))] [] w (fun r w2 => (r = none) ∧ WI w2 ∧ EC w0 w2)
  | 0, j, w, h, hj, hI, hE => s56B hg hI hE hj   (fun w4  hI4 hE4 hlt  => absurd hlt (by omega)) 
  | fz + 1, j, w, h, hj, hI, hE => s56B hg hI hE hj   (fun w4  hI4 hE4 hlt  => s56L hg  fz (j + 1) w4  (by omega) hlt hI4 hE4 ) 
set_option maxRecDepth 20000 in
set_option maxHeartbeats 4000000 in
theorem s56 {xs : Option (List Int32)} {d : Nat} {w : List sx_C} (hI : WI w) {ga : Nat} (hg : gAd ga) : sx_RP xs (d + 4) 56 0 (lv_args 0 [.ref 0, .ref ga]) [] w (fun r w2 => (r = none) ∧ WI w2 ∧ EC w w2) := by
  have hE : EC w w := EC.rf
  refine sx_RP.step (pc2 := 1) (ls2 := [(0, .ref 0), (1, .ref ga)]) (st2 := [.int 0]) (w3 := w) rfl rfl ?_
  refine sx_RP.step (pc2 := 2) (ls2 := [(2, .int 0), (0, .ref 0), (1, .ref ga)]) (st2 := []) (w3 := w) rfl rfl ?_
  exact sx_RP.ls (sx_lr.cons rfl (sx_lr.cons rfl (sx_lr.cons rfl sx_lr.nil))) (s56L hg 48 0 w  (by omega) (by omega) hI hE )
set_option maxRecDepth 20000 in
set_option maxHeartbeats 4000000 in
theorem p60B {xs : Option (List Int32)} {d : Nat} {w : List sx_C} {c : Nat} (hc : c < 48) (x : Int32) (hI : WI w) {j : Nat} (hj : j ≤ 4) (kk : j + 1 ≤ 4 → sx_RP xs (d + 1) 60 14 [(0, .ref 0), (1, .int (nI c)), (2, .int x), (3, .int (nI (j + 1)))] [] w (fun r w2 => (∃ j, j ≤ 1 ∧ r = some (.int (nI j))) ∧ w2 = w)) : sx_RP xs (d + 1) 60 14 [(0, .ref 0), (1, .int (nI c)), (2, .int x), (3, .int (nI j))] [] w (fun r w2 => (∃ j, j ≤ 1 ∧ r = some (.int (nI j))) ∧ w2 = w) := by
  refine sx_RP.step (pc2 := 15) (ls2 := [(0, .ref 0), (1, .int (nI c)), (2, .int x), (3, .int (nI j))]) (st2 := [.int (nI j)]) (w3 := w) rfl rfl ?_
  refine sx_RP.step (pc2 := 16) (ls2 := [(0, .ref 0), (1, .int (nI c)), (2, .int x), (3, .int (nI j))]) (st2 := [.int 4, .int (nI j)]) (w3 := w) rfl rfl ?_
  refine sx_RP.br (p1 := 51) (l1 := [(0, .ref 0), (1, .int (nI c)), (2, .int x), (3, .int (nI j))]) (s1 := []) (v1 := w) (p2 := 19) (l2 := [(0, .ref 0), (1, .int (nI c)), (2, .int x), (3, .int (nI j))]) (s2 := []) (v2 := w) rfl rfl (fun q1 => ?_) (fun q1 => ?_)
  · replace q1 := of_decide_eq_true q1
    replace q1 := (nI_leI (a := 4) (b := j) (by omega) (by omega)).mp q1
    refine sx_RP.step (pc2 := 52) (ls2 := [(0, .ref 0), (1, .int (nI c)), (2, .int x), (3, .int (nI j))]) (st2 := [.int 0]) (w3 := w) rfl rfl ?_
    refine sx_RP.ret (r := (some (.int 0))) rfl rfl ?_
    exact ⟨⟨0, by decide, rfl⟩, rfl⟩
  · replace q1 := of_decide_eq_false q1
    replace q1 := mt (nI_leI (a := 4) (b := j) (by omega) (by omega)).mpr q1
    refine sx_RP.step (pc2 := 20) (ls2 := [(0, .ref 0), (1, .int (nI c)), (2, .int x), (3, .int (nI j))]) (st2 := [.int (nI c)]) (w3 := w) rfl rfl ?_
    refine sx_RP.step (pc2 := 21) (ls2 := [(0, .ref 0), (1, .int (nI c)), (2, .int x), (3, .int (nI j))]) (st2 := [.int (nI j), .int (nI c)]) (w3 := w) rfl rfl ?_
    rcases bes_cases (c := c) (j := j) (by omega) (by omega) with q2 | ⟨x3, hx4, q2⟩
    · refine sx_RP.cu (as := [.int (nI c), .int (nI j)]) (rest2 := []) (st3 := [.int (-1)]) rfl rfl rfl rfl rfl (cb_20e (by omega) (by omega) q2) rfl ?_
      refine sx_RP.step (pc2 := 26) (ls2 := [(4, .int (-1)), (0, .ref 0), (1, .int (nI c)), (2, .int x), (3, .int (nI j))]) (st2 := []) (w3 := w) rfl rfl ?_
      refine sx_RP.step (pc2 := 28) (ls2 := [(4, .int (-1)), (0, .ref 0), (1, .int (nI c)), (2, .int x), (3, .int (nI j))]) (st2 := [.int (-1)]) (w3 := w) rfl rfl ?_
      refine sx_RP.step (pc2 := 29) (ls2 := [(4, .int (-1)), (0, .ref 0), (1, .int (nI c)), (2, .int x), (3, .int (nI j))]) (st2 := [.int (-1), .int (-1)]) (w3 := w) rfl rfl ?_
      refine sx_RP.step (pc2 := 45) (ls2 := [(4, .int (-1)), (0, .ref 0), (1, .int (nI c)), (2, .int x), (3, .int (nI j))]) (st2 := []) (w3 := w) rfl rfl ?_
      refine sx_RP.step (pc2 := 48) (ls2 := [(3, .int ((nI j) + 1)), (4, .int (-1)), (0, .ref 0), (1, .int (nI c)), (2, .int x)]) (st2 := []) (w3 := w) rfl rfl ?_
      rw [nI_1 j]
      refine sx_RP.step (pc2 := 14) (ls2 := [(3, .int (nI (j + 1))), (4, .int (-1)), (0, .ref 0), (1, .int (nI c)), (2, .int x)]) (st2 := []) (w3 := w) rfl rfl ?_
      exact sx_RP.ls (sx_lr.cons rfl (sx_lr.cons rfl (sx_lr.cons rfl (sx_lr.cons rfl sx_lr.nil)))) (kk (by omega))
    · refine sx_RP.cu (as := [.int (nI c), .int (nI j)]) (rest2 := []) (st3 := [.int (nI x3)]) rfl rfl rfl rfl rfl (cb_20e (by omega) (by omega) q2) rfl ?_
      refine sx_RP.step (pc2 := 26) (ls2 := [(4, .int (nI x3)), (0, .ref 0), (1, .int (nI c)), (2, .int x), (3, .int (nI j))]) (st2 := []) (w3 := w) rfl rfl ?_
      refine sx_RP.step (pc2 := 28) (ls2 := [(4, .int (nI x3)), (0, .ref 0), (1, .int (nI c)), (2, .int x), (3, .int (nI j))]) (st2 := [.int (nI x3)]) (w3 := w) rfl rfl ?_
      refine sx_RP.step (pc2 := 29) (ls2 := [(4, .int (nI x3)), (0, .ref 0), (1, .int (nI c)), (2, .int x), (3, .int (nI j))]) (st2 := [.int (-1), .int (nI x3)]) (w3 := w) rfl rfl ?_
      refine sx_RP.br (p2 := 32) (l2 := [(4, .int (nI x3)), (0, .ref 0), (1, .int (nI c)), (2, .int x), (3, .int (nI j))]) (s2 := []) (v2 := w) rfl rfl (fun q => absurd (of_decide_eq_true q) (nI_ne1 (by omega))) (fun _ => ?_)
      refine sx_RP.step (pc2 := 33) (ls2 := [(4, .int (nI x3)), (0, .ref 0), (1, .int (nI c)), (2, .int x), (3, .int (nI j))]) (st2 := [.ref 0]) (w3 := w) rfl rfl ?_
      refine sx_RP.gf (v := .ref 101) rfl rfl hI.1.o0 rfl rfl (show _ = 36 from rfl) ?_
      refine sx_RP.step (pc2 := 38) (ls2 := [(4, .int (nI x3)), (0, .ref 0), (1, .int (nI c)), (2, .int x), (3, .int (nI j))]) (st2 := [.int (nI x3), .ref 101]) (w3 := w) rfl rfl ?_
      refine sx_RP.ild (c := x3) rfl hI.1.a101.1 hI.1.a101.2 (sx_in_nI (show x3 < 48 by omega) (by decide)) (show (nI x3).toNatClampNeg = x3 from nI_clamp (by omega)) (show _ = 39 from rfl) ?_
      refine sx_RP.step (pc2 := 40) (ls2 := [(4, .int (nI x3)), (0, .ref 0), (1, .int (nI c)), (2, .int x), (3, .int (nI j))]) (st2 := [.int x, .int ((ia w 101).getD x3 0)]) (w3 := w) rfl rfl ?_
      refine sx_RP.br (p1 := 45) (l1 := [(4, .int (nI x3)), (0, .ref 0), (1, .int (nI c)), (2, .int x), (3, .int (nI j))]) (s1 := []) (v1 := w) (p2 := 43) (l2 := [(4, .int (nI x3)), (0, .ref 0), (1, .int (nI c)), (2, .int x), (3, .int (nI j))]) (s2 := []) (v2 := w) rfl rfl (fun q5 => ?_) (fun q5 => ?_)
      · replace q5 := of_decide_eq_true q5
        refine sx_RP.step (pc2 := 48) (ls2 := [(3, .int ((nI j) + 1)), (4, .int (nI x3)), (0, .ref 0), (1, .int (nI c)), (2, .int x)]) (st2 := []) (w3 := w) rfl rfl ?_
        rw [nI_1 j]
        refine sx_RP.step (pc2 := 14) (ls2 := [(3, .int (nI (j + 1))), (4, .int (nI x3)), (0, .ref 0), (1, .int (nI c)), (2, .int x)]) (st2 := []) (w3 := w) rfl rfl ?_
        exact sx_RP.ls (sx_lr.cons rfl (sx_lr.cons rfl (sx_lr.cons rfl (sx_lr.cons rfl sx_lr.nil)))) (kk (by omega))
      · replace q5 := of_decide_eq_false q5
        refine sx_RP.step (pc2 := 44) (ls2 := [(4, .int (nI x3)), (0, .ref 0), (1, .int (nI c)), (2, .int x), (3, .int (nI j))]) (st2 := [.int 1]) (w3 := w) rfl rfl ?_
        refine sx_RP.ret (r := (some (.int 1))) rfl rfl ?_
        exact ⟨⟨1, by decide, rfl⟩, rfl⟩
set_option maxRecDepth 20000 in
set_option maxHeartbeats 4000000 in
theorem p60L {xs : Option (List Int32)} {d : Nat} {w : List sx_C} {c : Nat} (hc : c < 48) (x : Int32) (hI : WI w) : ∀ (fz j : Nat) , 4 ≤ j + fz * 1 → j ≤ 4 → sx_RP xs (d + 1) 60 14 [(0, .ref 0), (1, .int (nI c)), (2, .int x), (3, .int (nI j))] [] w (fun r w2 => (∃ j, j ≤ 1 ∧ r = some (.int (nI j))) ∧ w2 = w)
  | 0, j, h, hj => p60B hc x hI hj   (fun   hlt  => absurd hlt (by omega)) 
  | fz + 1, j, h, hj => p60B hc x hI hj   (fun   hlt  => p60L hc x hI  fz (j + 1)  (by omega) hlt ) 
set_option maxRecDepth 20000 in
set_option maxHeartbeats 4000000 in
theorem p60 {xs : Option (List Int32)} {d : Nat} {w : List sx_C} (hI : WI w) {c : Nat} (hc : c < 48) (x : Int32) : ∃ j, j ≤ 1 ∧ sx_RU xs (d + 1) 60 0 (lv_args 0 [.ref 0, .int (nI c), .int x]) [] w (some (.int (nI j))) w := by
  have h : sx_RP xs (d + 1) 60 0 (lv_args 0 [.ref 0, .int (nI c), .int x]) [] w (fun r w2 => (∃ j, j ≤ 1 ∧ r = some (.int (nI j))) ∧ w2 = w) := by
    refine sx_RP.step (pc2 := 1) (ls2 := [(0, .ref 0), (1, .int (nI c)), (2, .int x)]) (st2 := [.ref 0]) (w3 := w) rfl rfl ?_
    refine sx_RP.gf (v := .ref 101) rfl rfl hI.1.o0 rfl rfl (show _ = 4 from rfl) ?_
    refine sx_RP.step (pc2 := 5) (ls2 := [(0, .ref 0), (1, .int (nI c)), (2, .int x)]) (st2 := [.int (nI c), .ref 101]) (w3 := w) rfl rfl ?_
    refine sx_RP.ild (c := c) rfl hI.1.a101.1 hI.1.a101.2 (sx_in_nI (show c < 48 by omega) (by decide)) (show (nI c).toNatClampNeg = c from nI_clamp (by omega)) (show _ = 6 from rfl) ?_
    refine sx_RP.step (pc2 := 7) (ls2 := [(0, .ref 0), (1, .int (nI c)), (2, .int x)]) (st2 := [.int x, .int ((ia w 101).getD c 0)]) (w3 := w) rfl rfl ?_
    refine sx_RP.br (p1 := 12) (l1 := [(0, .ref 0), (1, .int (nI c)), (2, .int x)]) (s1 := []) (v1 := w) (p2 := 10) (l2 := [(0, .ref 0), (1, .int (nI c)), (2, .int x)]) (s2 := []) (v2 := w) rfl rfl (fun q1 => ?_) (fun q1 => ?_)
    · replace q1 := of_decide_eq_true q1
      refine sx_RP.step (pc2 := 13) (ls2 := [(0, .ref 0), (1, .int (nI c)), (2, .int x)]) (st2 := [.int 0]) (w3 := w) rfl rfl ?_
      refine sx_RP.step (pc2 := 14) (ls2 := [(3, .int 0), (0, .ref 0), (1, .int (nI c)), (2, .int x)]) (st2 := []) (w3 := w) rfl rfl ?_
      exact sx_RP.ls (sx_lr.cons rfl (sx_lr.cons rfl (sx_lr.cons rfl (sx_lr.cons rfl sx_lr.nil)))) (p60L hc x hI 4 0 (by omega) (by omega))
    · replace q1 := of_decide_eq_false q1
      refine sx_RP.step (pc2 := 11) (ls2 := [(0, .ref 0), (1, .int (nI c)), (2, .int x)]) (st2 := [.int 1]) (w3 := w) rfl rfl ?_
      refine sx_RP.ret (r := (some (.int 1))) rfl rfl ?_
      exact ⟨⟨1, by decide, rfl⟩, rfl⟩
  obtain ⟨r, w2, h1, ⟨j, hj, rfl⟩, rfl⟩ := h
  exact ⟨j, hj, h1⟩
set_option maxRecDepth 20000 in
set_option maxHeartbeats 4000000 in
theorem s59B {xs : Option (List Int32)} {d : Nat} {w w0 : List sx_C} {ga gb : Nat} (hg : gAd ga) (hb : gAd gb) (hI : WI w) (hE : EC w0 w) {j : Nat} (hj : j ≤ 61) (kk : ∀ (w4 : List sx_C), WI w4 → EC w0 w4 → j + 1 ≤ 61 → sx_RP xs (d + 5) 59 15 [(0, .ref 0), (1, .ref ga), (2, .ref gb), (3, .int (nI (j + 1)))] [] w4 (fun r w2 => (∃ v : Int32, r = some (.int v)) ∧ WI w2 ∧ EC w0 w2)) : sx_RP xs (d + 5) 59 15 [(0, .ref 0), (1, .ref ga), (2, .ref gb), (3, .int (nI j))] [] w (fun r w2 => (∃ v : Int32, r = some (.int v)) ∧ WI w2 ∧ EC w0 w2) := by
  refine sx_RP.step (pc2 := 16) (ls2 := [(0, .ref 0), (1, .ref ga), (2, .ref gb), (3, .int (nI j))]) (st2 := [.int (nI j)]) (w3 := w) rfl rfl ?_
  refine sx_RP.step (pc2 := 18) (ls2 := [(0, .ref 0), (1, .ref ga), (2, .ref gb), (3, .int (nI j))]) (st2 := [.int 60, .int (nI j)]) (w3 := w) rfl rfl ?_
  refine sx_RP.br (p1 := 65) (l1 := [(0, .ref 0), (1, .ref ga), (2, .ref gb), (3, .int (nI j))]) (s1 := []) (v1 := w) (p2 := 21) (l2 := [(0, .ref 0), (1, .ref ga), (2, .ref gb), (3, .int (nI j))]) (s2 := []) (v2 := w) rfl rfl (fun q1 => ?_) (fun q1 => ?_)
  · replace q1 := of_decide_eq_true q1
    replace q1 := (nI_ltI (a := 60) (b := j) (by omega) (by omega)).mp q1
    refine sx_RP.step (pc2 := 66) (ls2 := [(0, .ref 0), (1, .ref ga), (2, .ref gb), (3, .int (nI j))]) (st2 := [.int (-1)]) (w3 := w) rfl rfl ?_
    refine sx_RP.ret (r := (some (.int (-1)))) rfl rfl ?_
    exact ⟨⟨_, rfl⟩, hI, hE⟩
  · replace q1 := of_decide_eq_false q1
    replace q1 := mt (nI_ltI (a := 60) (b := j) (by omega) (by omega)).mpr q1
    refine sx_RP.step (pc2 := 22) (ls2 := [(0, .ref 0), (1, .ref ga), (2, .ref gb), (3, .int (nI j))]) (st2 := [.ref 0]) (w3 := w) rfl rfl ?_
    refine sx_RP.gf (v := .ref 43) rfl rfl hI.1.o0 rfl rfl (show _ = 25 from rfl) ?_
    refine sx_RP.gg (k := 5) hI gAd.t rfl rfl (by decide) (show _ = 28 from rfl) ?_
    obtain ⟨x2, hx3, ex4⟩ : inR (fi w 43 5) 1 := hI.gk (k := 5) gAd.t (by decide)
    rw [ex4]
    refine sx_RP.br (p1 := 65) (l1 := [(0, .ref 0), (1, .ref ga), (2, .ref gb), (3, .int (nI j))]) (s1 := []) (v1 := w) (p2 := 31) (l2 := [(0, .ref 0), (1, .ref ga), (2, .ref gb), (3, .int (nI j))]) (s2 := []) (v2 := w) rfl rfl (fun q5 => ?_) (fun q5 => ?_)
    · replace q5 := of_decide_eq_true q5
      replace q5 := mt (nI_eq (a := x2) (b := 0) (by omega) (by omega)).mpr q5
      refine sx_RP.step (pc2 := 66) (ls2 := [(0, .ref 0), (1, .ref ga), (2, .ref gb), (3, .int (nI j))]) (st2 := [.int (-1)]) (w3 := w) rfl rfl ?_
      refine sx_RP.ret (r := (some (.int (-1)))) rfl rfl ?_
      exact ⟨⟨_, rfl⟩, hI, hE⟩
    · replace q5 := Decidable.not_not.mp (of_decide_eq_false q5)
      replace q5 := (nI_eq (a := x2) (b := 0) (by omega) (by omega)).mp q5
      refine sx_RP.step (pc2 := 32) (ls2 := [(0, .ref 0), (1, .ref ga), (2, .ref gb), (3, .int (nI j))]) (st2 := [.ref 0]) (w3 := w) rfl rfl ?_
      refine sx_RP.step (pc2 := 33) (ls2 := [(0, .ref 0), (1, .ref ga), (2, .ref gb), (3, .int (nI j))]) (st2 := [.ref 0, .ref 0]) (w3 := w) rfl rfl ?_
      refine sx_RP.gf (v := .ref 43) rfl rfl hI.1.o0 rfl rfl (show _ = 36 from rfl) ?_
      refine sx_RP.gg (k := 2) hI gAd.t rfl rfl (by decide) (show _ = 39 from rfl) ?_
      obtain ⟨x6, hx7, ex8⟩ : inR (fi w 43 2) 47 := hI.gk (k := 2) gAd.t (by decide)
      rw [ex8]
      refine sx_RP.step (pc2 := 40) (ls2 := [(0, .ref 0), (1, .ref ga), (2, .ref gb), (3, .int (nI j))]) (st2 := [.int (nI j), .int (nI x6), .ref 0]) (w3 := w) rfl rfl ?_
      obtain ⟨x9, hx10, c11⟩ := p60 hI (show x6 < 48 by omega) (nI j)
      refine sx_RP.cu (as := [.ref 0, .int (nI x6), .int (nI j)]) (rest2 := []) (st3 := [.int (nI x9)]) rfl rfl (sx_inv_v2 (mi := 59) (k := 210) (st := [.int (nI j), .int (nI x6), .ref 0]) (w := w) rfl rfl hI.1.o0 rfl rfl rfl) rfl rfl (c11) rfl ?_
      refine sx_RP.br (p1 := 48) (l1 := [(0, .ref 0), (1, .ref ga), (2, .ref gb), (3, .int (nI j))]) (s1 := []) (v1 := w) (p2 := 46) (l2 := [(0, .ref 0), (1, .ref ga), (2, .ref gb), (3, .int (nI j))]) (s2 := []) (v2 := w) rfl rfl (fun q12 => ?_) (fun q12 => ?_)
      · replace q12 := of_decide_eq_true q12
        replace q12 := (nI_eq (a := x9) (b := 0) (by omega) (by omega)).mp q12
        refine sx_RP.step (pc2 := 49) (ls2 := [(0, .ref 0), (1, .ref ga), (2, .ref gb), (3, .int (nI j))]) (st2 := [.ref 0]) (w3 := w) rfl rfl ?_
        refine sx_RP.gf (v := .ref 1) rfl rfl hI.1.o0 rfl rfl (show _ = 52 from rfl) ?_
        refine sx_RP.step (pc2 := 53) (ls2 := [(0, .ref 0), (1, .ref ga), (2, .ref gb), (3, .int (nI j))]) (st2 := [.ref 0, .ref 1]) (w3 := w) rfl rfl ?_
        refine sx_RP.gf (v := .ref 43) rfl rfl hI.1.o0 rfl rfl (show _ = 56 from rfl) ?_
        refine sx_RP.callp (as2 := [.ref 1, .ref 43]) (rest2 := []) rfl rfl (sx_inv_v2 (mi := 59) (k := 213) (st := [.ref 43, .ref 1]) (w := w) rfl rfl (hI.1.oC (Or.inl rfl)) rfl rfl rfl) rfl rfl rfl (s44 hI (Or.inl rfl) gAd.t) (show _ = 59 from rfl) ?_
        rintro r4 w13 ⟨rfl, hI14, hE16⟩
        have hE15 := hE.tr hE16
        show sx_RP _ _ _ _ _ [] _ _
        refine sx_RP.step (pc2 := 62) (ls2 := [(3, .int ((nI j) + 1)), (0, .ref 0), (1, .ref ga), (2, .ref gb)]) (st2 := []) (w3 := w13) rfl rfl ?_
        rw [nI_1 j]
        refine sx_RP.step (pc2 := 15) (ls2 := [(3, .int (nI (j + 1))), (0, .ref 0), (1, .ref ga), (2, .ref gb)]) (st2 := []) (w3 := w13) rfl rfl ?_
        exact sx_RP.ls (sx_lr.cons rfl (sx_lr.cons rfl (sx_lr.cons rfl (sx_lr.cons rfl sx_lr.nil)))) (kk w13 hI14 hE15 (by omega))
      · replace q12 := of_decide_eq_false q12
        replace q12 := mt (nI_eq (a := x9) (b := 0) (by omega) (by omega)).mpr q12
        refine sx_RP.step (pc2 := 47) (ls2 := [(0, .ref 0), (1, .ref ga), (2, .ref gb), (3, .int (nI j))]) (st2 := [.int (nI j)]) (w3 := w) rfl rfl ?_
        refine sx_RP.ret (r := (some (.int (nI j)))) rfl rfl ?_
        exact ⟨⟨_, rfl⟩, hI, hE⟩
set_option maxRecDepth 20000 in
set_option maxHeartbeats 4000000 in
theorem s59L {xs : Option (List Int32)} {d : Nat} {w0 : List sx_C} {ga gb : Nat} (hg : gAd ga) (hb : gAd gb) : ∀ (fz j : Nat) (w : List sx_C) , 61 ≤ j + fz * 1 → j ≤ 61 → WI w → EC w0 w → sx_RP xs (d + 5) 59 15 [(0, .ref 0), (1, .ref ga), (2, .ref gb), (3, .int (nI j))] [] w (fun r w2 => (∃ v : Int32, r = some (.int v)) ∧ WI w2 ∧ EC w0 w2)
  | 0, j, w, h, hj, hI, hE => s59B hg hb hI hE hj   (fun w4  hI4 hE4 hlt  => absurd hlt (by omega)) 
  | fz + 1, j, w, h, hj, hI, hE => s59B hg hb hI hE hj   (fun w4  hI4 hE4 hlt  => s59L hg hb  fz (j + 1) w4  (by omega) hlt hI4 hE4 ) 
set_option maxRecDepth 20000 in
set_option maxHeartbeats 4000000 in
theorem s59 {xs : Option (List Int32)} {d : Nat} {w : List sx_C} (hI : WI w) {ga gb : Nat} (hg : gAd ga) (hb : gAd gb) : sx_RP xs (d + 5) 59 0 (lv_args 0 [.ref 0, .ref ga, .ref gb]) [] w (fun r w2 => (∃ v : Int32, r = some (.int v)) ∧ WI w2 ∧ EC w w2) := by
  have hE : EC w w := EC.rf
  refine sx_RP.step (pc2 := 1) (ls2 := [(0, .ref 0), (1, .ref ga), (2, .ref gb)]) (st2 := [.ref 0]) (w3 := w) rfl rfl ?_
  refine sx_RP.step (pc2 := 2) (ls2 := [(0, .ref 0), (1, .ref ga), (2, .ref gb)]) (st2 := [.ref ga, .ref 0]) (w3 := w) rfl rfl ?_
  refine sx_RP.callp (as2 := [.ref 0, .ref ga]) (rest2 := []) rfl rfl (sx_inv_v2 (mi := 59) (k := 189) (st := [.ref ga, .ref 0]) (w := w) rfl rfl hI.1.o0 rfl rfl rfl) rfl rfl rfl (s56 hI hg) (show _ = 5 from rfl) ?_
  rintro r4 w1 ⟨rfl, hI2, hE4⟩
  have hE3 := hE.tr hE4
  show sx_RP _ _ _ _ _ [] _ _
  refine sx_RP.step (pc2 := 6) (ls2 := [(0, .ref 0), (1, .ref ga), (2, .ref gb)]) (st2 := [.ref 0]) (w3 := w1) rfl rfl ?_
  refine sx_RP.gf (v := .ref 43) rfl rfl hI2.1.o0 rfl rfl (show _ = 9 from rfl) ?_
  refine sx_RP.step (pc2 := 10) (ls2 := [(0, .ref 0), (1, .ref ga), (2, .ref gb)]) (st2 := [.ref gb, .ref 43]) (w3 := w1) rfl rfl ?_
  refine sx_RP.callp (as2 := [.ref 43, .ref gb]) (rest2 := []) rfl rfl (sx_inv_v2 (mi := 59) (k := 208) (st := [.ref gb, .ref 43]) (w := w1) rfl rfl (hI2.1.oG gAd.t) rfl rfl rfl) rfl rfl rfl (s51 hI2 gAd.t hb) (show _ = 13 from rfl) ?_
  rintro r4 w5 ⟨rfl, hI6, hE8⟩
  have hE7 := hE3.tr hE8
  show sx_RP _ _ _ _ _ [] _ _
  refine sx_RP.step (pc2 := 14) (ls2 := [(0, .ref 0), (1, .ref ga), (2, .ref gb)]) (st2 := [.int 0]) (w3 := w5) rfl rfl ?_
  refine sx_RP.step (pc2 := 15) (ls2 := [(3, .int 0), (0, .ref 0), (1, .ref ga), (2, .ref gb)]) (st2 := []) (w3 := w5) rfl rfl ?_
  exact sx_RP.ls (sx_lr.cons rfl (sx_lr.cons rfl (sx_lr.cons rfl (sx_lr.cons rfl sx_lr.nil)))) (s59L hg hb 61 0 w5  (by omega) (by omega) hI6 hE7 )
set_option maxRecDepth 20000 in
set_option maxHeartbeats 4000000 in
theorem p69 {xs : Option (List Int32)} {d : Nat} {w : List sx_C} (hI : WI w) {k c t : Nat} (hk : k ≤ 5) (hc : c < 48) (ht : t < 48) : ∃ v : Int32, sx_RU xs (d + 2) 69 0 (lv_args 0 [.ref 0, .int (nI k), .int (nI c), .ref (47 + t)]) [] w (some (.int v)) w := by
  have h : sx_RP xs (d + 2) 69 0 (lv_args 0 [.ref 0, .int (nI k), .int (nI c), .ref (47 + t)]) [] w (fun r w2 => (∃ v : Int32, r = some (.int v)) ∧ w2 = w) := by
    refine sx_RP.step (pc2 := 1) (ls2 := [(0, .ref 0), (1, .int (nI k)), (2, .int (nI c)), (3, .ref (47 + t))]) (st2 := [.int 1]) (w3 := w) rfl rfl ?_
    refine sx_RP.step (pc2 := 2) (ls2 := [(0, .ref 0), (1, .int (nI k)), (2, .int (nI c)), (3, .ref (47 + t))]) (st2 := [.ref (47 + t), .int 1]) (w3 := w) rfl rfl ?_
    refine sx_RP.step (pc2 := 3) (ls2 := [(0, .ref 0), (1, .int (nI k)), (2, .int (nI c)), (3, .ref (47 + t))]) (st2 := [.int (nI c), .ref (47 + t), .int 1]) (w3 := w) rfl rfl ?_
    refine sx_RP.ild (c := c) rfl (hI.1.aR (show t < 48 by omega)).1 (hI.1.aR (show t < 48 by omega)).2 (sx_in_nI (show c < 48 by omega) (by decide)) (show (nI c).toNatClampNeg = c from nI_clamp (by omega)) (show _ = 4 from rfl) ?_
    refine sx_RP.step (pc2 := 5) (ls2 := [(0, .ref 0), (1, .int (nI k)), (2, .int (nI c)), (3, .ref (47 + t))]) (st2 := [.int (1 + ((ia w (47 + t)).getD c 0))]) (w3 := w) rfl rfl ?_
    refine sx_RP.step (pc2 := 7) (ls2 := [(4, .int (1 + ((ia w (47 + t)).getD c 0))), (0, .ref 0), (1, .int (nI k)), (2, .int (nI c)), (3, .ref (47 + t))]) (st2 := []) (w3 := w) rfl rfl ?_
    refine sx_RP.step (pc2 := 9) (ls2 := [(4, .int (1 + ((ia w (47 + t)).getD c 0))), (0, .ref 0), (1, .int (nI k)), (2, .int (nI c)), (3, .ref (47 + t))]) (st2 := [.int (1 + ((ia w (47 + t)).getD c 0))]) (w3 := w) rfl rfl ?_
    refine sx_RP.step (pc2 := 10) (ls2 := [(4, .int (1 + ((ia w (47 + t)).getD c 0))), (0, .ref 0), (1, .int (nI k)), (2, .int (nI c)), (3, .ref (47 + t))]) (st2 := [.int 1, .int (1 + ((ia w (47 + t)).getD c 0))]) (w3 := w) rfl rfl ?_
    refine sx_RP.br (p1 := 17) (l1 := [(4, .int (1 + ((ia w (47 + t)).getD c 0))), (0, .ref 0), (1, .int (nI k)), (2, .int (nI c)), (3, .ref (47 + t))]) (s1 := []) (v1 := w) (p2 := 13) (l2 := [(4, .int (1 + ((ia w (47 + t)).getD c 0))), (0, .ref 0), (1, .int (nI k)), (2, .int (nI c)), (3, .ref (47 + t))]) (s2 := []) (v2 := w) rfl rfl (fun q1 => ?_) (fun q1 => ?_)
    · replace q1 := of_decide_eq_true q1
      refine sx_RP.step (pc2 := 18) (ls2 := [(4, .int (1 + ((ia w (47 + t)).getD c 0))), (0, .ref 0), (1, .int (nI k)), (2, .int (nI c)), (3, .ref (47 + t))]) (st2 := [.ref 0]) (w3 := w) rfl rfl ?_
      refine sx_RP.gf (v := .ref 1) rfl rfl hI.1.o0 rfl rfl (show _ = 21 from rfl) ?_
      refine sx_RP.step (pc2 := 22) (ls2 := [(4, .int (1 + ((ia w (47 + t)).getD c 0))), (0, .ref 0), (1, .int (nI k)), (2, .int (nI c)), (3, .ref (47 + t))]) (st2 := [.int (nI k), .ref 1]) (w3 := w) rfl rfl ?_
      refine sx_RP.step (pc2 := 23) (ls2 := [(4, .int (1 + ((ia w (47 + t)).getD c 0))), (0, .ref 0), (1, .int (nI k)), (2, .int (nI c)), (3, .ref (47 + t))]) (st2 := [.int (nI c), .int (nI k), .ref 1]) (w3 := w) rfl rfl ?_
      obtain ⟨v2, c3⟩ := p35 hI (Or.inl rfl) (show k ≤ 5 by omega) (show c < 48 by omega)
      refine sx_RP.cu (as := [.ref 1, .int (nI k), .int (nI c)]) (rest2 := []) (st3 := [.int v2]) rfl rfl (sx_inv_v2 (mi := 69) (k := 157) (st := [.int (nI c), .int (nI k), .ref 1]) (w := w) rfl rfl (hI.1.oC (Or.inl rfl)) rfl rfl rfl) rfl rfl (c3) rfl ?_
      refine sx_RP.step (pc2 := 28) (ls2 := [(4, .int (1 + ((ia w (47 + t)).getD c 0))), (0, .ref 0), (1, .int (nI k)), (2, .int (nI c)), (3, .ref (47 + t))]) (st2 := [.int (1 + ((ia w (47 + t)).getD c 0)), .int v2]) (w3 := w) rfl rfl ?_
      refine sx_RP.idiv (pc2 := 29) rfl (fun z => absurd q1 (by rw [z]; decide)) rfl ?_
      refine sx_RP.ret (r := (some (.int (v2 / (1 + ((ia w (47 + t)).getD c 0)))))) rfl rfl ?_
      exact ⟨⟨_, rfl⟩, rfl⟩
    · replace q1 := of_decide_eq_false q1
      refine sx_RP.step (pc2 := 14) (ls2 := [(4, .int (1 + ((ia w (47 + t)).getD c 0))), (0, .ref 0), (1, .int (nI k)), (2, .int (nI c)), (3, .ref (47 + t))]) (st2 := [.int 0]) (w3 := w) rfl rfl ?_
      refine sx_RP.step (pc2 := 29) (ls2 := [(4, .int (1 + ((ia w (47 + t)).getD c 0))), (0, .ref 0), (1, .int (nI k)), (2, .int (nI c)), (3, .ref (47 + t))]) (st2 := [.int 0]) (w3 := w) rfl rfl ?_
      refine sx_RP.ret (r := (some (.int 0))) rfl rfl ?_
      exact ⟨⟨_, rfl⟩, rfl⟩
  obtain ⟨r, w2, h1, ⟨v, rfl⟩, rfl⟩ := h
  exact ⟨v, h1⟩
set_option maxRecDepth 20000 in
set_option maxHeartbeats 4000000 in
theorem s68B {xs : Option (List Int32)} {d : Nat} {w w0 : List sx_C} {A : Nat} (hA : isA A) {c : Nat} (hc : c < 48) (hI : WI w) (hE : EC w0 w) {j : Nat} (hj : j ≤ 10) (s : Int32) (kk : ∀ (w4 : List sx_C) (us : Int32), WI w4 → EC w0 w4 → j + 1 ≤ 10 → sx_RP xs (d + 4) 68 15 [(0, .ref 0), (1, .ref A), (2, .int (nI c)), (3, .ref (47 + c)), (4, .int us), (5, .int (nI (j + 1)))] [] w4 (fun r w2 => (∃ v : Int32, r = some (.int v)) ∧ WI w2 ∧ EC w0 w2)) : sx_RP xs (d + 4) 68 15 [(0, .ref 0), (1, .ref A), (2, .int (nI c)), (3, .ref (47 + c)), (4, .int s), (5, .int (nI j))] [] w (fun r w2 => (∃ v : Int32, r = some (.int v)) ∧ WI w2 ∧ EC w0 w2) := by
  refine sx_RP.step (pc2 := 17) (ls2 := [(0, .ref 0), (1, .ref A), (2, .int (nI c)), (3, .ref (47 + c)), (4, .int s), (5, .int (nI j))]) (st2 := [.int (nI j)]) (w3 := w) rfl rfl ?_
  refine sx_RP.step (pc2 := 18) (ls2 := [(0, .ref 0), (1, .ref A), (2, .int (nI c)), (3, .ref (47 + c)), (4, .int s), (5, .int (nI j))]) (st2 := [.ref A, .int (nI j)]) (w3 := w) rfl rfl ?_
  refine sx_RP.gc (k := 3) hI hA rfl rfl (by omega) (show _ = 21 from rfl) ?_
  obtain ⟨x1, hx2, ex3⟩ : inR (fi w A 3) 10 := (hI.c hA).1
  rw [ex3]
  refine sx_RP.br (p1 := 68) (l1 := [(0, .ref 0), (1, .ref A), (2, .int (nI c)), (3, .ref (47 + c)), (4, .int s), (5, .int (nI j))]) (s1 := []) (v1 := w) (p2 := 24) (l2 := [(0, .ref 0), (1, .ref A), (2, .int (nI c)), (3, .ref (47 + c)), (4, .int s), (5, .int (nI j))]) (s2 := []) (v2 := w) rfl rfl (fun q4 => ?_) (fun q4 => ?_)
  · replace q4 := of_decide_eq_true q4
    replace q4 := (nI_leI (a := x1) (b := j) (by omega) (by omega)).mp q4
    refine sx_RP.step (pc2 := 70) (ls2 := [(0, .ref 0), (1, .ref A), (2, .int (nI c)), (3, .ref (47 + c)), (4, .int s), (5, .int (nI j))]) (st2 := [.int s]) (w3 := w) rfl rfl ?_
    refine sx_RP.ret (r := (some (.int s))) rfl rfl ?_
    exact ⟨⟨_, rfl⟩, hI, hE⟩
  · replace q4 := of_decide_eq_false q4
    replace q4 := mt (nI_leI (a := x1) (b := j) (by omega) (by omega)).mpr q4
    refine sx_RP.step (pc2 := 25) (ls2 := [(0, .ref 0), (1, .ref A), (2, .int (nI c)), (3, .ref (47 + c)), (4, .int s), (5, .int (nI j))]) (st2 := [.ref A]) (w3 := w) rfl rfl ?_
    refine sx_RP.gref (k := 2) (b := A + 2) hI hA rfl rfl (by omega) (show _ = 28 from rfl) ?_
    refine sx_RP.step (pc2 := 30) (ls2 := [(0, .ref 0), (1, .ref A), (2, .int (nI c)), (3, .ref (47 + c)), (4, .int s), (5, .int (nI j))]) (st2 := [.int (nI j), .ref (A + 2)]) (w3 := w) rfl rfl ?_
    refine sx_RP.ald (v := .ref (A + 4 + j)) rfl (hI.1.aG hA) rfl (grA_at (show j < 10 by omega)) (show _ = 31 from rfl) ?_
    refine sx_RP.step (pc2 := 33) (ls2 := [(6, .ref (A + 4 + j)), (0, .ref 0), (1, .ref A), (2, .int (nI c)), (3, .ref (47 + c)), (4, .int s), (5, .int (nI j))]) (st2 := []) (w3 := w) rfl rfl ?_
    refine sx_RP.step (pc2 := 35) (ls2 := [(6, .ref (A + 4 + j)), (0, .ref 0), (1, .ref A), (2, .int (nI c)), (3, .ref (47 + c)), (4, .int s), (5, .int (nI j))]) (st2 := [.ref (A + 4 + j)]) (w3 := w) rfl rfl ?_
    refine sx_RP.step (pc2 := 36) (ls2 := [(6, .ref (A + 4 + j)), (0, .ref 0), (1, .ref A), (2, .int (nI c)), (3, .ref (47 + c)), (4, .int s), (5, .int (nI j))]) (st2 := [.int 0, .ref (A + 4 + j)]) (w3 := w) rfl rfl ?_
    obtain ⟨x5, hx6, c7⟩ := p43 hI (gAd.of hA (show j < 10 by omega)) 0
    refine sx_RP.cu (as := [.ref (A + 4 + j), .int 0]) (rest2 := []) (st3 := [.int (nI x5)]) rfl rfl (sx_inv_v2 (mi := 68) (k := 186) (st := [.int 0, .ref (A + 4 + j)]) (w := w) rfl rfl (hI.1.oG (gAd.of hA (show j < 10 by omega))) rfl rfl rfl) rfl rfl (c7) rfl ?_
    refine sx_RP.br (p1 := 62) (l1 := [(6, .ref (A + 4 + j)), (0, .ref 0), (1, .ref A), (2, .int (nI c)), (3, .ref (47 + c)), (4, .int s), (5, .int (nI j))]) (s1 := []) (v1 := w) (p2 := 42) (l2 := [(6, .ref (A + 4 + j)), (0, .ref 0), (1, .ref A), (2, .int (nI c)), (3, .ref (47 + c)), (4, .int s), (5, .int (nI j))]) (s2 := []) (v2 := w) rfl rfl (fun q8 => ?_) (fun q8 => ?_)
    · replace q8 := of_decide_eq_true q8
      replace q8 := (nI_eq (a := x5) (b := 0) (by omega) (by omega)).mp q8
      refine sx_RP.step (pc2 := 65) (ls2 := [(5, .int ((nI j) + 1)), (6, .ref (A + 4 + j)), (0, .ref 0), (1, .ref A), (2, .int (nI c)), (3, .ref (47 + c)), (4, .int s)]) (st2 := []) (w3 := w) rfl rfl ?_
      rw [nI_1 j]
      refine sx_RP.step (pc2 := 15) (ls2 := [(5, .int (nI (j + 1))), (6, .ref (A + 4 + j)), (0, .ref 0), (1, .ref A), (2, .int (nI c)), (3, .ref (47 + c)), (4, .int s)]) (st2 := []) (w3 := w) rfl rfl ?_
      exact sx_RP.ls (sx_lr.cons rfl (sx_lr.cons rfl (sx_lr.cons rfl (sx_lr.cons rfl (sx_lr.cons rfl (sx_lr.cons rfl sx_lr.nil)))))) (kk w s hI hE (by omega))
    · replace q8 := of_decide_eq_false q8
      replace q8 := mt (nI_eq (a := x5) (b := 0) (by omega) (by omega)).mpr q8
      refine sx_RP.step (pc2 := 44) (ls2 := [(6, .ref (A + 4 + j)), (0, .ref 0), (1, .ref A), (2, .int (nI c)), (3, .ref (47 + c)), (4, .int s), (5, .int (nI j))]) (st2 := [.int s]) (w3 := w) rfl rfl ?_
      refine sx_RP.step (pc2 := 45) (ls2 := [(6, .ref (A + 4 + j)), (0, .ref 0), (1, .ref A), (2, .int (nI c)), (3, .ref (47 + c)), (4, .int s), (5, .int (nI j))]) (st2 := [.ref 0, .int s]) (w3 := w) rfl rfl ?_
      refine sx_RP.step (pc2 := 47) (ls2 := [(6, .ref (A + 4 + j)), (0, .ref 0), (1, .ref A), (2, .int (nI c)), (3, .ref (47 + c)), (4, .int s), (5, .int (nI j))]) (st2 := [.ref (A + 4 + j), .ref 0, .int s]) (w3 := w) rfl rfl ?_
      refine sx_RP.gg (k := 0) hI (gAd.of hA (show j < 10 by omega)) rfl rfl (by decide) (show _ = 50 from rfl) ?_
      obtain ⟨x9, hx10, ex11⟩ : inR (fi w (A + 4 + j) 0) 5 := hI.gk (k := 0) (gAd.of hA (show j < 10 by omega)) (by decide)
      rw [ex11]
      refine sx_RP.step (pc2 := 52) (ls2 := [(6, .ref (A + 4 + j)), (0, .ref 0), (1, .ref A), (2, .int (nI c)), (3, .ref (47 + c)), (4, .int s), (5, .int (nI j))]) (st2 := [.ref (A + 4 + j), .int (nI x9), .ref 0, .int s]) (w3 := w) rfl rfl ?_
      refine sx_RP.gg (k := 2) hI (gAd.of hA (show j < 10 by omega)) rfl rfl (by decide) (show _ = 55 from rfl) ?_
      obtain ⟨x12, hx13, ex14⟩ : inR (fi w (A + 4 + j) 2) 47 := hI.gk (k := 2) (gAd.of hA (show j < 10 by omega)) (by decide)
      rw [ex14]
      refine sx_RP.step (pc2 := 56) (ls2 := [(6, .ref (A + 4 + j)), (0, .ref 0), (1, .ref A), (2, .int (nI c)), (3, .ref (47 + c)), (4, .int s), (5, .int (nI j))]) (st2 := [.ref (47 + c), .int (nI x12), .int (nI x9), .ref 0, .int s]) (w3 := w) rfl rfl ?_
      obtain ⟨v15, c16⟩ := p69 hI (show x9 ≤ 5 by omega) (show x12 < 48 by omega) (show c < 48 by omega)
      refine sx_RP.cu (as := [.ref 0, .int (nI x9), .int (nI x12), .ref (47 + c)]) (rest2 := [.int s]) (st3 := [.int v15, .int s]) rfl rfl (sx_inv_v2 (mi := 68) (k := 235) (st := [.ref (47 + c), .int (nI x12), .int (nI x9), .ref 0, .int s]) (w := w) rfl rfl hI.1.o0 rfl rfl rfl) rfl rfl (c16) rfl ?_
      refine sx_RP.step (pc2 := 60) (ls2 := [(6, .ref (A + 4 + j)), (0, .ref 0), (1, .ref A), (2, .int (nI c)), (3, .ref (47 + c)), (4, .int s), (5, .int (nI j))]) (st2 := [.int (s + v15)]) (w3 := w) rfl rfl ?_
      refine sx_RP.step (pc2 := 62) (ls2 := [(4, .int (s + v15)), (6, .ref (A + 4 + j)), (0, .ref 0), (1, .ref A), (2, .int (nI c)), (3, .ref (47 + c)), (5, .int (nI j))]) (st2 := []) (w3 := w) rfl rfl ?_
      refine sx_RP.step (pc2 := 65) (ls2 := [(5, .int ((nI j) + 1)), (4, .int (s + v15)), (6, .ref (A + 4 + j)), (0, .ref 0), (1, .ref A), (2, .int (nI c)), (3, .ref (47 + c))]) (st2 := []) (w3 := w) rfl rfl ?_
      rw [nI_1 j]
      refine sx_RP.step (pc2 := 15) (ls2 := [(5, .int (nI (j + 1))), (4, .int (s + v15)), (6, .ref (A + 4 + j)), (0, .ref 0), (1, .ref A), (2, .int (nI c)), (3, .ref (47 + c))]) (st2 := []) (w3 := w) rfl rfl ?_
      exact sx_RP.ls (sx_lr.cons rfl (sx_lr.cons rfl (sx_lr.cons rfl (sx_lr.cons rfl (sx_lr.cons rfl (sx_lr.cons rfl sx_lr.nil)))))) (kk w (s + v15) hI hE (by omega))
set_option maxRecDepth 20000 in
set_option maxHeartbeats 4000000 in
theorem s68L {xs : Option (List Int32)} {d : Nat} {w0 : List sx_C} {A : Nat} (hA : isA A) {c : Nat} (hc : c < 48) : ∀ (fz j : Nat) (w : List sx_C) (s : Int32) , 10 ≤ j + fz * 1 → j ≤ 10 → WI w → EC w0 w → sx_RP xs (d + 4) 68 15 [(0, .ref 0), (1, .ref A), (2, .int (nI c)), (3, .ref (47 + c)), (4, .int s), (5, .int (nI j))] [] w (fun r w2 => (∃ v : Int32, r = some (.int v)) ∧ WI w2 ∧ EC w0 w2)
  | 0, j, w, s, h, hj, hI, hE => s68B hA hc hI hE hj s  (fun w4 us hI4 hE4 hlt  => absurd hlt (by omega)) 
  | fz + 1, j, w, s, h, hj, hI, hE => s68B hA hc hI hE hj s  (fun w4 us hI4 hE4 hlt  => s68L hA hc  fz (j + 1) w4 us (by omega) hlt hI4 hE4 ) 
set_option maxRecDepth 20000 in
set_option maxHeartbeats 4000000 in
theorem s68 {xs : Option (List Int32)} {d : Nat} {w : List sx_C} (hI : WI w) {A : Nat} (hA : isA A) {c : Nat} (hc : c < 48) : sx_RP xs (d + 4) 68 0 (lv_args 0 [.ref 0, .ref A, .int (nI c)]) [] w (fun r w2 => (∃ v : Int32, r = some (.int v)) ∧ WI w2 ∧ EC w w2) := by
  have hE : EC w w := EC.rf
  refine sx_RP.step (pc2 := 1) (ls2 := [(0, .ref 0), (1, .ref A), (2, .int (nI c))]) (st2 := [.ref 0]) (w3 := w) rfl rfl ?_
  refine sx_RP.gf (v := .ref 44) rfl rfl hI.1.o0 rfl rfl (show _ = 4 from rfl) ?_
  refine sx_RP.step (pc2 := 5) (ls2 := [(0, .ref 0), (1, .ref A), (2, .int (nI c))]) (st2 := [.int (nI c), .ref 44]) (w3 := w) rfl rfl ?_
  refine sx_RP.callp (as2 := [.ref 44, .int (nI c)]) (rest2 := []) rfl rfl (sx_inv_v2 (mi := 68) (k := 99) (st := [.int (nI c), .ref 44]) (w := w) rfl rfl hI.1.o44 rfl rfl rfl) rfl rfl rfl (s17 hI (show c < 48 by omega)) (show _ = 8 from rfl) ?_
  rintro r4 w1 ⟨rfl, hI2, hE4⟩
  have hE3 := hE.tr hE4
  show sx_RP _ _ _ _ _ [.ref (47 + c)] _ _
  refine sx_RP.step (pc2 := 9) (ls2 := [(3, .ref (47 + c)), (0, .ref 0), (1, .ref A), (2, .int (nI c))]) (st2 := []) (w3 := w1) rfl rfl ?_
  refine sx_RP.step (pc2 := 10) (ls2 := [(3, .ref (47 + c)), (0, .ref 0), (1, .ref A), (2, .int (nI c))]) (st2 := [.int 0]) (w3 := w1) rfl rfl ?_
  refine sx_RP.step (pc2 := 12) (ls2 := [(4, .int 0), (3, .ref (47 + c)), (0, .ref 0), (1, .ref A), (2, .int (nI c))]) (st2 := []) (w3 := w1) rfl rfl ?_
  refine sx_RP.step (pc2 := 13) (ls2 := [(4, .int 0), (3, .ref (47 + c)), (0, .ref 0), (1, .ref A), (2, .int (nI c))]) (st2 := [.int 0]) (w3 := w1) rfl rfl ?_
  refine sx_RP.step (pc2 := 15) (ls2 := [(5, .int 0), (4, .int 0), (3, .ref (47 + c)), (0, .ref 0), (1, .ref A), (2, .int (nI c))]) (st2 := []) (w3 := w1) rfl rfl ?_
  exact sx_RP.ls (sx_lr.cons rfl (sx_lr.cons rfl (sx_lr.cons rfl (sx_lr.cons rfl (sx_lr.cons rfl (sx_lr.cons rfl sx_lr.nil)))))) (s68L hA hc 10 0 w1 0 (by omega) (by omega) hI2 hE3 )
set_option maxRecDepth 20000 in
set_option maxHeartbeats 4000000 in
theorem s73B {xs : Option (List Int32)} {d : Nat} {w w0 : List sx_C} {k c : Nat} (hk : k ≤ 5) (hc : c < 48) (hI : WI w) (hE : EC w0 w) {j : Nat} (hj : j ≤ 9) (kk : ∀ (w4 : List sx_C), WI w4 → EC w0 w4 → j + 1 ≤ 9 → sx_RP xs (d + 4) 73 2 [(0, .ref 0), (1, .int (nI k)), (2, .int (nI c)), (3, .int (nI (j + 1)))] [] w4 (fun r w2 => (∃ j, j ≤ 1 ∧ r = some (.int (nI j))) ∧ WI w2 ∧ EC w0 w2)) : sx_RP xs (d + 4) 73 2 [(0, .ref 0), (1, .int (nI k)), (2, .int (nI c)), (3, .int (nI j))] [] w (fun r w2 => (∃ j, j ≤ 1 ∧ r = some (.int (nI j))) ∧ WI w2 ∧ EC w0 w2) := by
  refine sx_RP.step (pc2 := 3) (ls2 := [(0, .ref 0), (1, .int (nI k)), (2, .int (nI c)), (3, .int (nI j))]) (st2 := [.int (nI j)]) (w3 := w) rfl rfl ?_
  refine sx_RP.step (pc2 := 4) (ls2 := [(0, .ref 0), (1, .int (nI k)), (2, .int (nI c)), (3, .int (nI j))]) (st2 := [.ref 0, .int (nI j)]) (w3 := w) rfl rfl ?_
  refine sx_RP.gf (v := .ref 1) rfl rfl hI.1.o0 rfl rfl (show _ = 7 from rfl) ?_
  refine sx_RP.gc (k := 5) hI (Or.inl rfl) rfl rfl (by omega) (show _ = 10 from rfl) ?_
  obtain ⟨x1, hx2, ex3⟩ : inR (fi w 1 5) 9 := (hI.c (Or.inl rfl)).2
  rw [ex3]
  refine sx_RP.br (p1 := 52) (l1 := [(0, .ref 0), (1, .int (nI k)), (2, .int (nI c)), (3, .int (nI j))]) (s1 := []) (v1 := w) (p2 := 13) (l2 := [(0, .ref 0), (1, .int (nI k)), (2, .int (nI c)), (3, .int (nI j))]) (s2 := []) (v2 := w) rfl rfl (fun q4 => ?_) (fun q4 => ?_)
  · replace q4 := of_decide_eq_true q4
    replace q4 := (nI_leI (a := x1) (b := j) (by omega) (by omega)).mp q4
    refine sx_RP.step (pc2 := 53) (ls2 := [(0, .ref 0), (1, .int (nI k)), (2, .int (nI c)), (3, .int (nI j))]) (st2 := [.int 1]) (w3 := w) rfl rfl ?_
    refine sx_RP.ret (r := (some (.int 1))) rfl rfl ?_
    exact ⟨⟨1, by decide, rfl⟩, hI, hE⟩
  · replace q4 := of_decide_eq_false q4
    replace q4 := mt (nI_leI (a := x1) (b := j) (by omega) (by omega)).mpr q4
    refine sx_RP.step (pc2 := 14) (ls2 := [(0, .ref 0), (1, .int (nI k)), (2, .int (nI c)), (3, .int (nI j))]) (st2 := [.ref 0]) (w3 := w) rfl rfl ?_
    refine sx_RP.step (pc2 := 15) (ls2 := [(0, .ref 0), (1, .int (nI k)), (2, .int (nI c)), (3, .int (nI j))]) (st2 := [.int (nI k), .ref 0]) (w3 := w) rfl rfl ?_
    refine sx_RP.step (pc2 := 16) (ls2 := [(0, .ref 0), (1, .int (nI k)), (2, .int (nI c)), (3, .int (nI j))]) (st2 := [.int (nI c), .int (nI k), .ref 0]) (w3 := w) rfl rfl ?_
    refine sx_RP.step (pc2 := 17) (ls2 := [(0, .ref 0), (1, .int (nI k)), (2, .int (nI c)), (3, .int (nI j))]) (st2 := [.ref 0, .int (nI c), .int (nI k), .ref 0]) (w3 := w) rfl rfl ?_
    refine sx_RP.gf (v := .ref 44) rfl rfl hI.1.o0 rfl rfl (show _ = 20 from rfl) ?_
    refine sx_RP.step (pc2 := 21) (ls2 := [(0, .ref 0), (1, .int (nI k)), (2, .int (nI c)), (3, .int (nI j))]) (st2 := [.ref 0, .ref 44, .int (nI c), .int (nI k), .ref 0]) (w3 := w) rfl rfl ?_
    refine sx_RP.gf (v := .ref 1) rfl rfl hI.1.o0 rfl rfl (show _ = 24 from rfl) ?_
    refine sx_RP.gref (k := 4) (b := 4) hI (Or.inl rfl) rfl rfl (by omega) (show _ = 27 from rfl) ?_
    refine sx_RP.step (pc2 := 28) (ls2 := [(0, .ref 0), (1, .int (nI k)), (2, .int (nI c)), (3, .int (nI j))]) (st2 := [.int (nI j), .ref 4, .ref 44, .int (nI c), .int (nI k), .ref 0]) (w3 := w) rfl rfl ?_
    refine sx_RP.ild (c := j) rfl (hI.1.aD (Or.inl rfl)).1 (hI.1.aD (Or.inl rfl)).2 (sx_in_nI (show j < 9 by omega) (by decide)) (show (nI j).toNatClampNeg = j from nI_clamp (by omega)) (show _ = 29 from rfl) ?_
    obtain ⟨x5, hx6, ex7⟩ : inR ((ia w 4).getD j 0) 47 := hI.di (Or.inl rfl) (show j < 9 by omega)
    rw [ex7]
    refine sx_RP.callp (as2 := [.ref 44, .int (nI x5)]) (rest2 := [.int (nI c), .int (nI k), .ref 0]) rfl rfl (sx_inv_v2 (mi := 73) (k := 99) (st := [.int (nI x5), .ref 44, .int (nI c), .int (nI k), .ref 0]) (w := w) rfl rfl hI.1.o44 rfl rfl rfl) rfl rfl rfl (s17 hI (show x5 < 48 by omega)) (show _ = 32 from rfl) ?_
    rintro r4 w8 ⟨rfl, hI9, hE11⟩
    have hE10 := hE.tr hE11
    show sx_RP _ _ _ _ _ [.ref (47 + x5), .int (nI c), .int (nI k), .ref 0] _ _
    obtain ⟨v12, c13⟩ := p69 hI9 (show k ≤ 5 by omega) (show c < 48 by omega) (show x5 < 48 by omega)
    refine sx_RP.cu (as := [.ref 0, .int (nI k), .int (nI c), .ref (47 + x5)]) (rest2 := []) (st3 := [.int v12]) rfl rfl (sx_inv_v2 (mi := 73) (k := 235) (st := [.ref (47 + x5), .int (nI c), .int (nI k), .ref 0]) (w := w8) rfl rfl hI9.1.o0 rfl rfl rfl) rfl rfl (c13) rfl ?_
    refine sx_RP.step (pc2 := 36) (ls2 := [(0, .ref 0), (1, .int (nI k)), (2, .int (nI c)), (3, .int (nI j))]) (st2 := [.ref 0, .int v12]) (w3 := w8) rfl rfl ?_
    refine sx_RP.gf (v := .ref 102) rfl rfl hI9.1.o0 rfl rfl (show _ = 39 from rfl) ?_
    refine sx_RP.step (pc2 := 40) (ls2 := [(0, .ref 0), (1, .int (nI k)), (2, .int (nI c)), (3, .int (nI j))]) (st2 := [.int (nI j), .ref 102, .int v12]) (w3 := w8) rfl rfl ?_
    refine sx_RP.ild (c := j) rfl hI9.1.a102.1 hI9.1.a102.2 (sx_in_nI (show j < 9 by omega) (by decide)) (show (nI j).toNatClampNeg = j from nI_clamp (by omega)) (show _ = 41 from rfl) ?_
    refine sx_RP.br (p1 := 46) (l1 := [(0, .ref 0), (1, .int (nI k)), (2, .int (nI c)), (3, .int (nI j))]) (s1 := []) (v1 := w8) (p2 := 44) (l2 := [(0, .ref 0), (1, .int (nI k)), (2, .int (nI c)), (3, .int (nI j))]) (s2 := []) (v2 := w8) rfl rfl (fun q14 => ?_) (fun q14 => ?_)
    · replace q14 := of_decide_eq_true q14
      refine sx_RP.step (pc2 := 49) (ls2 := [(3, .int ((nI j) + 1)), (0, .ref 0), (1, .int (nI k)), (2, .int (nI c))]) (st2 := []) (w3 := w8) rfl rfl ?_
      rw [nI_1 j]
      refine sx_RP.step (pc2 := 2) (ls2 := [(3, .int (nI (j + 1))), (0, .ref 0), (1, .int (nI k)), (2, .int (nI c))]) (st2 := []) (w3 := w8) rfl rfl ?_
      exact sx_RP.ls (sx_lr.cons rfl (sx_lr.cons rfl (sx_lr.cons rfl (sx_lr.cons rfl sx_lr.nil)))) (kk w8 hI9 hE10 (by omega))
    · replace q14 := of_decide_eq_false q14
      refine sx_RP.step (pc2 := 45) (ls2 := [(0, .ref 0), (1, .int (nI k)), (2, .int (nI c)), (3, .int (nI j))]) (st2 := [.int 0]) (w3 := w8) rfl rfl ?_
      refine sx_RP.ret (r := (some (.int 0))) rfl rfl ?_
      exact ⟨⟨0, by decide, rfl⟩, hI9, hE10⟩
set_option maxRecDepth 20000 in
set_option maxHeartbeats 4000000 in
theorem s73L {xs : Option (List Int32)} {d : Nat} {w0 : List sx_C} {k c : Nat} (hk : k ≤ 5) (hc : c < 48) : ∀ (fz j : Nat) (w : List sx_C) , 9 ≤ j + fz * 1 → j ≤ 9 → WI w → EC w0 w → sx_RP xs (d + 4) 73 2 [(0, .ref 0), (1, .int (nI k)), (2, .int (nI c)), (3, .int (nI j))] [] w (fun r w2 => (∃ j, j ≤ 1 ∧ r = some (.int (nI j))) ∧ WI w2 ∧ EC w0 w2)
  | 0, j, w, h, hj, hI, hE => s73B hk hc hI hE hj   (fun w4  hI4 hE4 hlt  => absurd hlt (by omega)) 
  | fz + 1, j, w, h, hj, hI, hE => s73B hk hc hI hE hj   (fun w4  hI4 hE4 hlt  => s73L hk hc  fz (j + 1) w4  (by omega) hlt hI4 hE4 ) 
set_option maxRecDepth 20000 in
set_option maxHeartbeats 4000000 in
theorem s73 {xs : Option (List Int32)} {d : Nat} {w : List sx_C} (hI : WI w) {k c : Nat} (hk : k ≤ 5) (hc : c < 48) : sx_RP xs (d + 4) 73 0 (lv_args 0 [.ref 0, .int (nI k), .int (nI c)]) [] w (fun r w2 => (∃ j, j ≤ 1 ∧ r = some (.int (nI j))) ∧ WI w2 ∧ EC w w2) := by
  have hE : EC w w := EC.rf
  refine sx_RP.step (pc2 := 1) (ls2 := [(0, .ref 0), (1, .int (nI k)), (2, .int (nI c))]) (st2 := [.int 0]) (w3 := w) rfl rfl ?_
  refine sx_RP.step (pc2 := 2) (ls2 := [(3, .int 0), (0, .ref 0), (1, .int (nI k)), (2, .int (nI c))]) (st2 := []) (w3 := w) rfl rfl ?_
  exact sx_RP.ls (sx_lr.cons rfl (sx_lr.cons rfl (sx_lr.cons rfl (sx_lr.cons rfl sx_lr.nil)))) (s73L hk hc 9 0 w  (by omega) (by omega) hI hE )
