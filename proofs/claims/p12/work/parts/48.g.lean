-- 48.moreC.lean.txt
section
-- safety: galleries, powder, dishes, sheets of the class
set_option maxRecDepth 20000 in
set_option maxHeartbeats 4000000 in
theorem p97 {xs : Option (List Int32)} {d : Nat} {w : List sx_C} (hI : WI w) {a b : Nat} (ha : a < 2 ^ 31) (hb : b < 2 ^ 31) : ∃ j, (j ≤ a ∧ j ≤ b) ∧ sx_RU xs d 97 0 (lv_args 0 [.int (nI a), .int (nI b)]) [] w (some (.int (nI j))) w := by
  have h : sx_RP xs d 97 0 (lv_args 0 [.int (nI a), .int (nI b)]) [] w (fun r w2 => (∃ j, (j ≤ a ∧ j ≤ b) ∧ r = some (.int (nI j))) ∧ w2 = w) := by
    refine sx_RP.step (pc2 := 1) (ls2 := [(0, .int (nI a)), (1, .int (nI b))]) (st2 := [.int (nI a)]) (w3 := w) rfl rfl ?_
    refine sx_RP.step (pc2 := 2) (ls2 := [(0, .int (nI a)), (1, .int (nI b))]) (st2 := [.int (nI b), .int (nI a)]) (w3 := w) rfl rfl ?_
    refine sx_RP.br (p1 := 9) (l1 := [(0, .int (nI a)), (1, .int (nI b))]) (s1 := []) (v1 := w) (p2 := 5) (l2 := [(0, .int (nI a)), (1, .int (nI b))]) (s2 := []) (v2 := w) rfl rfl (fun q1 => ?_) (fun q1 => ?_)
    · replace q1 := of_decide_eq_true q1
      replace q1 := (nI_ltI (a := b) (b := a) (by omega) (by omega)).mp q1
      refine sx_RP.step (pc2 := 10) (ls2 := [(0, .int (nI a)), (1, .int (nI b))]) (st2 := [.int (nI b)]) (w3 := w) rfl rfl ?_
      refine sx_RP.ret (r := (some (.int (nI b)))) rfl rfl ?_
      exact ⟨⟨b, by omega, rfl⟩, rfl⟩
    · replace q1 := of_decide_eq_false q1
      replace q1 := mt (nI_ltI (a := b) (b := a) (by omega) (by omega)).mpr q1
      refine sx_RP.step (pc2 := 6) (ls2 := [(0, .int (nI a)), (1, .int (nI b))]) (st2 := [.int (nI a)]) (w3 := w) rfl rfl ?_
      refine sx_RP.step (pc2 := 10) (ls2 := [(0, .int (nI a)), (1, .int (nI b))]) (st2 := [.int (nI a)]) (w3 := w) rfl rfl ?_
      refine sx_RP.ret (r := (some (.int (nI a)))) rfl rfl ?_
      exact ⟨⟨a, by omega, rfl⟩, rfl⟩
  obtain ⟨r, w2, h1, ⟨j, hj, rfl⟩, rfl⟩ := h
  exact ⟨j, hj, h1⟩
set_option maxRecDepth 20000 in
set_option maxHeartbeats 4000000 in
theorem s25 {xs : Option (List Int32)} {d : Nat} {w : List sx_C} (hI : WI w) {A : Nat} (hA : isA A) {n k s c y : Nat} (hn : n ≤ 9) (en : fi w A 3 = nI n) (hk : k ≤ 5) (hs : s ≤ 1) (hc : c < 48) (hy : y ≤ 3) : sx_RP xs d 25 0 (lv_args 0 [.ref A, .int (nI k), .int (nI s), .int (nI c), .int (nI y)]) [] w (fun r w2 => (∃ v : Int32, r = some (.int v)) ∧ WI w2 ∧ EC w w2) := by
  have hE : EC w w := EC.rf
  refine sx_RP.step (pc2 := 1) (ls2 := [(0, .ref A), (1, .int (nI k)), (2, .int (nI s)), (3, .int (nI c)), (4, .int (nI y))]) (st2 := [.ref A]) (w3 := w) rfl rfl ?_
  refine sx_RP.gref (k := 2) (b := A + 2) hI hA rfl rfl (by omega) (show _ = 4 from rfl) ?_
  refine sx_RP.step (pc2 := 5) (ls2 := [(0, .ref A), (1, .int (nI k)), (2, .int (nI s)), (3, .int (nI c)), (4, .int (nI y))]) (st2 := [.ref A, .ref (A + 2)]) (w3 := w) rfl rfl ?_
  refine sx_RP.gc (k := 3) hI hA rfl rfl (by omega) (show _ = 8 from rfl) ?_
  rw [en]
  refine sx_RP.ald (v := .ref (A + 4 + n)) rfl (hI.1.aG hA) rfl (grA_at (show n < 10 by omega)) (show _ = 9 from rfl) ?_
  refine sx_RP.step (pc2 := 11) (ls2 := [(5, .ref (A + 4 + n)), (0, .ref A), (1, .int (nI k)), (2, .int (nI s)), (3, .int (nI c)), (4, .int (nI y))]) (st2 := []) (w3 := w) rfl rfl ?_
  refine sx_RP.step (pc2 := 13) (ls2 := [(5, .ref (A + 4 + n)), (0, .ref A), (1, .int (nI k)), (2, .int (nI s)), (3, .int (nI c)), (4, .int (nI y))]) (st2 := [.ref (A + 4 + n)]) (w3 := w) rfl rfl ?_
  refine sx_RP.step (pc2 := 14) (ls2 := [(5, .ref (A + 4 + n)), (0, .ref A), (1, .int (nI k)), (2, .int (nI s)), (3, .int (nI c)), (4, .int (nI y))]) (st2 := [.int (nI k), .ref (A + 4 + n)]) (w3 := w) rfl rfl ?_
  refine sx_RP.pg (k := 0) hI hE (gAd.of hA (show n < 10 by omega)) rfl rfl (by decide) rfl (inR.n (show k ≤ 5 by omega)) (show _ = 17 from rfl) (fun w1 hI2 hE3 hk4 => ?_)
  have ex5 := (hk4 A 3 hA).trans en
  refine sx_RP.step (pc2 := 19) (ls2 := [(5, .ref (A + 4 + n)), (0, .ref A), (1, .int (nI k)), (2, .int (nI s)), (3, .int (nI c)), (4, .int (nI y))]) (st2 := [.ref (A + 4 + n)]) (w3 := w1) rfl rfl ?_
  refine sx_RP.step (pc2 := 20) (ls2 := [(5, .ref (A + 4 + n)), (0, .ref A), (1, .int (nI k)), (2, .int (nI s)), (3, .int (nI c)), (4, .int (nI y))]) (st2 := [.int (nI s), .ref (A + 4 + n)]) (w3 := w1) rfl rfl ?_
  refine sx_RP.pg (k := 1) hI2 hE3 (gAd.of hA (show n < 10 by omega)) rfl rfl (by decide) rfl (inR.n (show s ≤ 1 by omega)) (show _ = 23 from rfl) (fun w6 hI7 hE8 hk9 => ?_)
  have ex10 := (hk9 A 3 hA).trans ex5
  refine sx_RP.step (pc2 := 25) (ls2 := [(5, .ref (A + 4 + n)), (0, .ref A), (1, .int (nI k)), (2, .int (nI s)), (3, .int (nI c)), (4, .int (nI y))]) (st2 := [.ref (A + 4 + n)]) (w3 := w6) rfl rfl ?_
  refine sx_RP.step (pc2 := 26) (ls2 := [(5, .ref (A + 4 + n)), (0, .ref A), (1, .int (nI k)), (2, .int (nI s)), (3, .int (nI c)), (4, .int (nI y))]) (st2 := [.int (nI c), .ref (A + 4 + n)]) (w3 := w6) rfl rfl ?_
  refine sx_RP.pg (k := 2) hI7 hE8 (gAd.of hA (show n < 10 by omega)) rfl rfl (by decide) rfl (inR.n (show c ≤ 47 by omega)) (show _ = 29 from rfl) (fun w11 hI12 hE13 hk14 => ?_)
  have ex15 := (hk14 A 3 hA).trans ex10
  refine sx_RP.step (pc2 := 31) (ls2 := [(5, .ref (A + 4 + n)), (0, .ref A), (1, .int (nI k)), (2, .int (nI s)), (3, .int (nI c)), (4, .int (nI y))]) (st2 := [.ref (A + 4 + n)]) (w3 := w11) rfl rfl ?_
  refine sx_RP.step (pc2 := 33) (ls2 := [(5, .ref (A + 4 + n)), (0, .ref A), (1, .int (nI k)), (2, .int (nI s)), (3, .int (nI c)), (4, .int (nI y))]) (st2 := [.int (nI y), .ref (A + 4 + n)]) (w3 := w11) rfl rfl ?_
  refine sx_RP.pg (k := 3) hI12 hE13 (gAd.of hA (show n < 10 by omega)) rfl rfl (by decide) rfl (inR.n (show y ≤ 3 by omega)) (show _ = 36 from rfl) (fun w16 hI17 hE18 hk19 => ?_)
  have ex20 := (hk19 A 3 hA).trans ex15
  refine sx_RP.step (pc2 := 38) (ls2 := [(5, .ref (A + 4 + n)), (0, .ref A), (1, .int (nI k)), (2, .int (nI s)), (3, .int (nI c)), (4, .int (nI y))]) (st2 := [.ref (A + 4 + n)]) (w3 := w16) rfl rfl ?_
  refine sx_RP.step (pc2 := 39) (ls2 := [(5, .ref (A + 4 + n)), (0, .ref A), (1, .int (nI k)), (2, .int (nI s)), (3, .int (nI c)), (4, .int (nI y))]) (st2 := [.int 0, .ref (A + 4 + n)]) (w3 := w16) rfl rfl ?_
  refine sx_RP.pg (k := 4) hI17 hE18 (gAd.of hA (show n < 10 by omega)) rfl rfl (by decide) rfl trivial (show _ = 42 from rfl) (fun w21 hI22 hE23 hk24 => ?_)
  have ex25 := (hk24 A 3 hA).trans ex20
  refine sx_RP.step (pc2 := 44) (ls2 := [(5, .ref (A + 4 + n)), (0, .ref A), (1, .int (nI k)), (2, .int (nI s)), (3, .int (nI c)), (4, .int (nI y))]) (st2 := [.ref (A + 4 + n)]) (w3 := w21) rfl rfl ?_
  refine sx_RP.step (pc2 := 45) (ls2 := [(5, .ref (A + 4 + n)), (0, .ref A), (1, .int (nI k)), (2, .int (nI s)), (3, .int (nI c)), (4, .int (nI y))]) (st2 := [.int 0, .ref (A + 4 + n)]) (w3 := w21) rfl rfl ?_
  refine sx_RP.pg (k := 5) hI22 hE23 (gAd.of hA (show n < 10 by omega)) rfl rfl (by decide) rfl (show inR 0 1 from ⟨0, by decide, rfl⟩) (show _ = 48 from rfl) (fun w26 hI27 hE28 hk29 => ?_)
  have ex30 := (hk29 A 3 hA).trans ex25
  refine sx_RP.step (pc2 := 49) (ls2 := [(5, .ref (A + 4 + n)), (0, .ref A), (1, .int (nI k)), (2, .int (nI s)), (3, .int (nI c)), (4, .int (nI y))]) (st2 := [.ref A]) (w3 := w26) rfl rfl ?_
  refine sx_RP.step (pc2 := 50) (ls2 := [(5, .ref (A + 4 + n)), (0, .ref A), (1, .int (nI k)), (2, .int (nI s)), (3, .int (nI c)), (4, .int (nI y))]) (st2 := [.ref A, .ref A]) (w3 := w26) rfl rfl ?_
  refine sx_RP.gc (k := 3) hI27 hA rfl rfl (by omega) (show _ = 53 from rfl) ?_
  rw [ex30]
  refine sx_RP.step (pc2 := 54) (ls2 := [(5, .ref (A + 4 + n)), (0, .ref A), (1, .int (nI k)), (2, .int (nI s)), (3, .int (nI c)), (4, .int (nI y))]) (st2 := [.int 1, .int (nI n), .ref A]) (w3 := w26) rfl rfl ?_
  refine sx_RP.step (pc2 := 55) (ls2 := [(5, .ref (A + 4 + n)), (0, .ref A), (1, .int (nI k)), (2, .int (nI s)), (3, .int (nI c)), (4, .int (nI y))]) (st2 := [.int ((nI n) + 1), .ref A]) (w3 := w26) rfl rfl ?_
  rw [show ((nI n) + 1 : Int32) = nI (n + 1) from nI_add n 1]
  refine sx_RP.putc (k := 3) hI27 hE28 hA rfl rfl (by omega) rfl (inR.n (show (n + 1) ≤ 10 by omega)) (show _ = 58 from rfl) (fun w31 hI32 hE33 => ?_)
  refine sx_RP.step (pc2 := 59) (ls2 := [(5, .ref (A + 4 + n)), (0, .ref A), (1, .int (nI k)), (2, .int (nI s)), (3, .int (nI c)), (4, .int (nI y))]) (st2 := [.ref A]) (w3 := w31) rfl rfl ?_
  refine sx_RP.gc (k := 3) hI32 hA rfl rfl (by omega) (show _ = 62 from rfl) ?_
  obtain ⟨x34, hx35, ex36⟩ : inR (fi w31 A 3) 10 := (hI32.c hA).1
  rw [ex36]
  refine sx_RP.step (pc2 := 63) (ls2 := [(5, .ref (A + 4 + n)), (0, .ref A), (1, .int (nI k)), (2, .int (nI s)), (3, .int (nI c)), (4, .int (nI y))]) (st2 := [.int 1, .int (nI x34)]) (w3 := w31) rfl rfl ?_
  refine sx_RP.step (pc2 := 64) (ls2 := [(5, .ref (A + 4 + n)), (0, .ref A), (1, .int (nI k)), (2, .int (nI s)), (3, .int (nI c)), (4, .int (nI y))]) (st2 := [.int ((nI x34) - 1)]) (w3 := w31) rfl rfl ?_
  refine sx_RP.ret (r := (some (.int ((nI x34) - 1)))) rfl rfl ?_
  exact ⟨⟨_, rfl⟩, hI32, hE33⟩
set_option maxRecDepth 20000 in
set_option maxHeartbeats 4000000 in
theorem s64 {xs : Option (List Int32)} {d : Nat} {w : List sx_C} (hI : WI w) {A : Nat} (hA : isA A) {n c : Nat} (hn : n ≤ 8) (en : fi w A 5 = nI n) (hc : c < 48) : sx_RP xs d 64 0 (lv_args 0 [.ref A, .int (nI c)]) [] w (fun r w2 => (∃ v : Int32, r = some (.int v)) ∧ WI w2 ∧ EC w w2) := by
  have hE : EC w w := EC.rf
  refine sx_RP.step (pc2 := 1) (ls2 := [(0, .ref A), (1, .int (nI c))]) (st2 := [.ref A]) (w3 := w) rfl rfl ?_
  refine sx_RP.gref (k := 4) (b := A + 3) hI hA rfl rfl (by omega) (show _ = 4 from rfl) ?_
  refine sx_RP.step (pc2 := 5) (ls2 := [(0, .ref A), (1, .int (nI c))]) (st2 := [.ref A, .ref (A + 3)]) (w3 := w) rfl rfl ?_
  refine sx_RP.gc (k := 5) hI hA rfl rfl (by omega) (show _ = 8 from rfl) ?_
  rw [en]
  refine sx_RP.step (pc2 := 9) (ls2 := [(0, .ref A), (1, .int (nI c))]) (st2 := [.int (nI c), .int (nI n), .ref (A + 3)]) (w3 := w) rfl rfl ?_
  refine sx_RP.stD hI hE hA rfl (sx_in_nI (show n < 9 by omega) (by decide)) (inR.n (show c ≤ 47 by omega)) (show _ = 10 from rfl) (fun w1 hI2 hE3 hk4 => ?_)
  have ex5 := (hk4 A 5 hA).trans en
  refine sx_RP.step (pc2 := 11) (ls2 := [(0, .ref A), (1, .int (nI c))]) (st2 := [.ref A]) (w3 := w1) rfl rfl ?_
  refine sx_RP.step (pc2 := 12) (ls2 := [(0, .ref A), (1, .int (nI c))]) (st2 := [.ref A, .ref A]) (w3 := w1) rfl rfl ?_
  refine sx_RP.gc (k := 5) hI2 hA rfl rfl (by omega) (show _ = 15 from rfl) ?_
  rw [ex5]
  refine sx_RP.step (pc2 := 16) (ls2 := [(0, .ref A), (1, .int (nI c))]) (st2 := [.int 1, .int (nI n), .ref A]) (w3 := w1) rfl rfl ?_
  refine sx_RP.step (pc2 := 17) (ls2 := [(0, .ref A), (1, .int (nI c))]) (st2 := [.int ((nI n) + 1), .ref A]) (w3 := w1) rfl rfl ?_
  rw [show ((nI n) + 1 : Int32) = nI (n + 1) from nI_add n 1]
  refine sx_RP.putc (k := 5) hI2 hE3 hA rfl rfl (by omega) rfl (inR.n (show (n + 1) ≤ 9 by omega)) (show _ = 20 from rfl) (fun w6 hI7 hE8 => ?_)
  refine sx_RP.step (pc2 := 21) (ls2 := [(0, .ref A), (1, .int (nI c))]) (st2 := [.ref A]) (w3 := w6) rfl rfl ?_
  refine sx_RP.gc (k := 5) hI7 hA rfl rfl (by omega) (show _ = 24 from rfl) ?_
  obtain ⟨x9, hx10, ex11⟩ : inR (fi w6 A 5) 9 := (hI7.c hA).2
  rw [ex11]
  refine sx_RP.step (pc2 := 25) (ls2 := [(0, .ref A), (1, .int (nI c))]) (st2 := [.int 1, .int (nI x9)]) (w3 := w6) rfl rfl ?_
  refine sx_RP.step (pc2 := 26) (ls2 := [(0, .ref A), (1, .int (nI c))]) (st2 := [.int ((nI x9) - 1)]) (w3 := w6) rfl rfl ?_
  refine sx_RP.ret (r := (some (.int ((nI x9) - 1)))) rfl rfl ?_
  exact ⟨⟨_, rfl⟩, hI7, hE8⟩
set_option maxRecDepth 20000 in
set_option maxHeartbeats 4000000 in
theorem s80bB {xs : Option (List Int32)} {d : Nat} {w w0 : List sx_C} {A : Nat} (hA : isA A) (x : Int64) (hI : WI w) (hE : EC w0 w) {j : Nat} (hj : j ≤ 48) (l : Int32) (kk : ∀ (w4 : List sx_C) (ul : Int32), WI w4 → EC w0 w4 → j + 1 ≤ 48 → sx_RP xs d 80 77 [(0, .ref A), (1, .long x), (3, .int ul), (4, .int (nI (j + 1)))] [] w4 (fun r w2 => (∃ v : Int32, r = some (.int v)) ∧ WI w2 ∧ EC w0 w2)) : sx_RP xs d 80 77 [(0, .ref A), (1, .long x), (3, .int l), (4, .int (nI j))] [] w (fun r w2 => (∃ v : Int32, r = some (.int v)) ∧ WI w2 ∧ EC w0 w2) := by
  refine sx_RP.step (pc2 := 79) (ls2 := [(0, .ref A), (1, .long x), (3, .int l), (4, .int (nI j))]) (st2 := [.int (nI j)]) (w3 := w) rfl rfl ?_
  refine sx_RP.step (pc2 := 81) (ls2 := [(0, .ref A), (1, .long x), (3, .int l), (4, .int (nI j))]) (st2 := [.int 48, .int (nI j)]) (w3 := w) rfl rfl ?_
  refine sx_RP.br (p1 := 120) (l1 := [(0, .ref A), (1, .long x), (3, .int l), (4, .int (nI j))]) (s1 := []) (v1 := w) (p2 := 84) (l2 := [(0, .ref A), (1, .long x), (3, .int l), (4, .int (nI j))]) (s2 := []) (v2 := w) rfl rfl (fun q1 => ?_) (fun q1 => ?_)
  · replace q1 := of_decide_eq_true q1
    replace q1 := (nI_leI (a := 48) (b := j) (by omega) (by omega)).mp q1
    refine sx_RP.step (pc2 := 121) (ls2 := [(0, .ref A), (1, .long x), (3, .int l), (4, .int (nI j))]) (st2 := [.int l]) (w3 := w) rfl rfl ?_
    refine sx_RP.ret (r := (some (.int l))) rfl rfl ?_
    exact ⟨⟨_, rfl⟩, hI, hE⟩
  · replace q1 := of_decide_eq_false q1
    replace q1 := mt (nI_leI (a := 48) (b := j) (by omega) (by omega)).mpr q1
    refine sx_RP.step (pc2 := 85) (ls2 := [(0, .ref A), (1, .long x), (3, .int l), (4, .int (nI j))]) (st2 := [.ref A]) (w3 := w) rfl rfl ?_
    refine sx_RP.gref (k := 0) (b := A + 1) hI hA rfl rfl (by omega) (show _ = 88 from rfl) ?_
    refine sx_RP.step (pc2 := 90) (ls2 := [(0, .ref A), (1, .long x), (3, .int l), (4, .int (nI j))]) (st2 := [.int (nI j), .ref (A + 1)]) (w3 := w) rfl rfl ?_
    refine sx_RP.ild (c := j) rfl (hI.1.aS hA).1 (hI.1.aS hA).2 (sx_in_nI (show j < 48 by omega) (by decide)) (show (nI j).toNatClampNeg = j from nI_clamp (by omega)) (show _ = 91 from rfl) ?_
    obtain ⟨x2, hx3, ex4⟩ : inR ((ia w (A + 1)).getD j 0) 3 := hI.st hA (show j < 48 by omega)
    rw [ex4]
    refine sx_RP.step (pc2 := 92) (ls2 := [(0, .ref A), (1, .long x), (3, .int l), (4, .int (nI j))]) (st2 := [.int 2, .int (nI x2)]) (w3 := w) rfl rfl ?_
    refine sx_RP.br (p1 := 114) (l1 := [(0, .ref A), (1, .long x), (3, .int l), (4, .int (nI j))]) (s1 := []) (v1 := w) (p2 := 95) (l2 := [(0, .ref A), (1, .long x), (3, .int l), (4, .int (nI j))]) (s2 := []) (v2 := w) rfl rfl (fun q5 => ?_) (fun q5 => ?_)
    · replace q5 := of_decide_eq_true q5
      replace q5 := mt (nI_eq (a := x2) (b := 2) (by omega) (by omega)).mpr q5
      refine sx_RP.step (pc2 := 117) (ls2 := [(4, .int ((nI j) + 1)), (0, .ref A), (1, .long x), (3, .int l)]) (st2 := []) (w3 := w) rfl rfl ?_
      rw [nI_1 j]
      refine sx_RP.step (pc2 := 77) (ls2 := [(4, .int (nI (j + 1))), (0, .ref A), (1, .long x), (3, .int l)]) (st2 := []) (w3 := w) rfl rfl ?_
      exact sx_RP.ls (sx_lr.cons rfl (sx_lr.cons rfl (sx_lr.cons rfl (sx_lr.cons rfl sx_lr.nil)))) (kk w l hI hE (by omega))
    · replace q5 := Decidable.not_not.mp (of_decide_eq_false q5)
      replace q5 := (nI_eq (a := x2) (b := 2) (by omega) (by omega)).mp q5
      refine sx_RP.step (pc2 := 96) (ls2 := [(0, .ref A), (1, .long x), (3, .int l), (4, .int (nI j))]) (st2 := [.long x]) (w3 := w) rfl rfl ?_
      refine sx_RP.step (pc2 := 98) (ls2 := [(0, .ref A), (1, .long x), (3, .int l), (4, .int (nI j))]) (st2 := [.int (nI j), .long x]) (w3 := w) rfl rfl ?_
      refine sx_RP.step (pc2 := 99) (ls2 := [(0, .ref A), (1, .long x), (3, .int l), (4, .int (nI j))]) (st2 := [.long ((x.toUInt64 >>> ((nI j).toInt64.toUInt64 &&& Int64.toUInt64 63)).toInt64)]) (w3 := w) rfl rfl ?_
      refine sx_RP.step (pc2 := 100) (ls2 := [(0, .ref A), (1, .long x), (3, .int l), (4, .int (nI j))]) (st2 := [.long 1, .long ((x.toUInt64 >>> ((nI j).toInt64.toUInt64 &&& Int64.toUInt64 63)).toInt64)]) (w3 := w) rfl rfl ?_
      refine sx_RP.step (pc2 := 101) (ls2 := [(0, .ref A), (1, .long x), (3, .int l), (4, .int (nI j))]) (st2 := [.long (((x.toUInt64 >>> ((nI j).toInt64.toUInt64 &&& Int64.toUInt64 63)).toInt64) &&& 1)]) (w3 := w) rfl rfl ?_
      refine sx_RP.step (pc2 := 102) (ls2 := [(0, .ref A), (1, .long x), (3, .int l), (4, .int (nI j))]) (st2 := [.long 1, .long (((x.toUInt64 >>> ((nI j).toInt64.toUInt64 &&& Int64.toUInt64 63)).toInt64) &&& 1)]) (w3 := w) rfl rfl ?_
      refine sx_RP.step (pc2 := 103) (ls2 := [(0, .ref A), (1, .long x), (3, .int l), (4, .int (nI j))]) (st2 := [.int (lg_cmp (((x.toUInt64 >>> ((nI j).toInt64.toUInt64 &&& Int64.toUInt64 63)).toInt64) &&& 1) 1)]) (w3 := w) rfl rfl ?_
      refine sx_RP.br (p1 := 114) (l1 := [(0, .ref A), (1, .long x), (3, .int l), (4, .int (nI j))]) (s1 := []) (v1 := w) (p2 := 106) (l2 := [(0, .ref A), (1, .long x), (3, .int l), (4, .int (nI j))]) (s2 := []) (v2 := w) rfl rfl (fun q6 => ?_) (fun q6 => ?_)
      · replace q6 := of_decide_eq_true q6
        refine sx_RP.step (pc2 := 117) (ls2 := [(4, .int ((nI j) + 1)), (0, .ref A), (1, .long x), (3, .int l)]) (st2 := []) (w3 := w) rfl rfl ?_
        rw [nI_1 j]
        refine sx_RP.step (pc2 := 77) (ls2 := [(4, .int (nI (j + 1))), (0, .ref A), (1, .long x), (3, .int l)]) (st2 := []) (w3 := w) rfl rfl ?_
        exact sx_RP.ls (sx_lr.cons rfl (sx_lr.cons rfl (sx_lr.cons rfl (sx_lr.cons rfl sx_lr.nil)))) (kk w l hI hE (by omega))
      · replace q6 := Decidable.not_not.mp (of_decide_eq_false q6)
        refine sx_RP.step (pc2 := 107) (ls2 := [(0, .ref A), (1, .long x), (3, .int l), (4, .int (nI j))]) (st2 := [.ref A]) (w3 := w) rfl rfl ?_
        refine sx_RP.gref (k := 0) (b := A + 1) hI hA rfl rfl (by omega) (show _ = 110 from rfl) ?_
        refine sx_RP.step (pc2 := 112) (ls2 := [(0, .ref A), (1, .long x), (3, .int l), (4, .int (nI j))]) (st2 := [.int (nI j), .ref (A + 1)]) (w3 := w) rfl rfl ?_
        refine sx_RP.step (pc2 := 113) (ls2 := [(0, .ref A), (1, .long x), (3, .int l), (4, .int (nI j))]) (st2 := [.int 0, .int (nI j), .ref (A + 1)]) (w3 := w) rfl rfl ?_
        refine sx_RP.stS hI hE hA rfl (sx_in_nI (show j < 48 by omega) (by decide)) (show inR 0 3 from ⟨0, by decide, rfl⟩) (show _ = 114 from rfl) (fun w7 hI8 hE9 => ?_)
        refine sx_RP.step (pc2 := 117) (ls2 := [(4, .int ((nI j) + 1)), (0, .ref A), (1, .long x), (3, .int l)]) (st2 := []) (w3 := w7) rfl rfl ?_
        rw [nI_1 j]
        refine sx_RP.step (pc2 := 77) (ls2 := [(4, .int (nI (j + 1))), (0, .ref A), (1, .long x), (3, .int l)]) (st2 := []) (w3 := w7) rfl rfl ?_
        exact sx_RP.ls (sx_lr.cons rfl (sx_lr.cons rfl (sx_lr.cons rfl (sx_lr.cons rfl sx_lr.nil)))) (kk w7 l hI8 hE9 (by omega))
set_option maxRecDepth 20000 in
set_option maxHeartbeats 4000000 in
theorem s80bL {xs : Option (List Int32)} {d : Nat} {w0 : List sx_C} {A : Nat} (hA : isA A) (x : Int64) : ∀ (fz j : Nat) (w : List sx_C) (l : Int32) , 48 ≤ j + fz * 1 → j ≤ 48 → WI w → EC w0 w → sx_RP xs d 80 77 [(0, .ref A), (1, .long x), (3, .int l), (4, .int (nI j))] [] w (fun r w2 => (∃ v : Int32, r = some (.int v)) ∧ WI w2 ∧ EC w0 w2)
  | 0, j, w, l, h, hj, hI, hE => s80bB hA x hI hE hj l  (fun w4 ul hI4 hE4 hlt  => absurd hlt (by omega)) 
  | fz + 1, j, w, l, h, hj, hI, hE => s80bB hA x hI hE hj l  (fun w4 ul hI4 hE4 hlt  => s80bL hA x  fz (j + 1) w4 ul (by omega) hlt hI4 hE4 ) 
set_option maxRecDepth 20000 in
set_option maxHeartbeats 4000000 in
theorem s80aB {xs : Option (List Int32)} {d : Nat} {w w0 : List sx_C} {A : Nat} (hA : isA A) (x : Int64) (hI : WI w) (hE : EC w0 w) {j : Nat} (hj : j ≤ 10) (l : Int32) (kk : ∀ (w4 : List sx_C) (ul : Int32), WI w4 → EC w0 w4 → j + 1 ≤ 10 → sx_RP xs d 80 19 [(0, .ref A), (1, .long x), (3, .int ul), (4, .int (nI (j + 1)))] [] w4 (fun r w2 => (∃ v : Int32, r = some (.int v)) ∧ WI w2 ∧ EC w0 w2)) (kx74 : ∀ (w4 : List sx_C) (ul : Int32), WI w4 → EC w0 w4 → sx_RP xs d 80 74 [(0, .ref A), (1, .long x), (3, .int ul)] [] w4 (fun r w2 => (∃ v : Int32, r = some (.int v)) ∧ WI w2 ∧ EC w0 w2)) : sx_RP xs d 80 19 [(0, .ref A), (1, .long x), (3, .int l), (4, .int (nI j))] [] w (fun r w2 => (∃ v : Int32, r = some (.int v)) ∧ WI w2 ∧ EC w0 w2) := by
  refine sx_RP.step (pc2 := 21) (ls2 := [(0, .ref A), (1, .long x), (3, .int l), (4, .int (nI j))]) (st2 := [.int (nI j)]) (w3 := w) rfl rfl ?_
  refine sx_RP.step (pc2 := 22) (ls2 := [(0, .ref A), (1, .long x), (3, .int l), (4, .int (nI j))]) (st2 := [.ref A, .int (nI j)]) (w3 := w) rfl rfl ?_
  refine sx_RP.gc (k := 3) hI hA rfl rfl (by omega) (show _ = 25 from rfl) ?_
  obtain ⟨x1, hx2, ex3⟩ : inR (fi w A 3) 10 := (hI.c hA).1
  rw [ex3]
  refine sx_RP.br (p1 := 74) (l1 := [(0, .ref A), (1, .long x), (3, .int l), (4, .int (nI j))]) (s1 := []) (v1 := w) (p2 := 28) (l2 := [(0, .ref A), (1, .long x), (3, .int l), (4, .int (nI j))]) (s2 := []) (v2 := w) rfl rfl (fun q4 => ?_) (fun q4 => ?_)
  · replace q4 := of_decide_eq_true q4
    replace q4 := (nI_leI (a := x1) (b := j) (by omega) (by omega)).mp q4
    exact sx_RP.ls (sx_lr.cons rfl (sx_lr.cons rfl (sx_lr.cons rfl sx_lr.nil))) (kx74 w l hI hE)
  · replace q4 := of_decide_eq_false q4
    replace q4 := mt (nI_leI (a := x1) (b := j) (by omega) (by omega)).mpr q4
    refine sx_RP.step (pc2 := 29) (ls2 := [(0, .ref A), (1, .long x), (3, .int l), (4, .int (nI j))]) (st2 := [.ref A]) (w3 := w) rfl rfl ?_
    refine sx_RP.gref (k := 2) (b := A + 2) hI hA rfl rfl (by omega) (show _ = 32 from rfl) ?_
    refine sx_RP.step (pc2 := 34) (ls2 := [(0, .ref A), (1, .long x), (3, .int l), (4, .int (nI j))]) (st2 := [.int (nI j), .ref (A + 2)]) (w3 := w) rfl rfl ?_
    refine sx_RP.ald (v := .ref (A + 4 + j)) rfl (hI.1.aG hA) rfl (grA_at (show j < 10 by omega)) (show _ = 35 from rfl) ?_
    refine sx_RP.step (pc2 := 37) (ls2 := [(5, .ref (A + 4 + j)), (0, .ref A), (1, .long x), (3, .int l), (4, .int (nI j))]) (st2 := []) (w3 := w) rfl rfl ?_
    refine sx_RP.step (pc2 := 39) (ls2 := [(5, .ref (A + 4 + j)), (0, .ref A), (1, .long x), (3, .int l), (4, .int (nI j))]) (st2 := [.ref (A + 4 + j)]) (w3 := w) rfl rfl ?_
    refine sx_RP.gg (k := 5) hI (gAd.of hA (show j < 10 by omega)) rfl rfl (by decide) (show _ = 42 from rfl) ?_
    obtain ⟨x5, hx6, ex7⟩ : inR (fi w (A + 4 + j) 5) 1 := hI.gk (k := 5) (gAd.of hA (show j < 10 by omega)) (by decide)
    rw [ex7]
    refine sx_RP.br (p1 := 68) (l1 := [(5, .ref (A + 4 + j)), (0, .ref A), (1, .long x), (3, .int l), (4, .int (nI j))]) (s1 := []) (v1 := w) (p2 := 45) (l2 := [(5, .ref (A + 4 + j)), (0, .ref A), (1, .long x), (3, .int l), (4, .int (nI j))]) (s2 := []) (v2 := w) rfl rfl (fun q8 => ?_) (fun q8 => ?_)
    · replace q8 := of_decide_eq_true q8
      replace q8 := mt (nI_eq (a := x5) (b := 0) (by omega) (by omega)).mpr q8
      refine sx_RP.step (pc2 := 71) (ls2 := [(4, .int ((nI j) + 1)), (5, .ref (A + 4 + j)), (0, .ref A), (1, .long x), (3, .int l)]) (st2 := []) (w3 := w) rfl rfl ?_
      rw [nI_1 j]
      refine sx_RP.step (pc2 := 19) (ls2 := [(4, .int (nI (j + 1))), (5, .ref (A + 4 + j)), (0, .ref A), (1, .long x), (3, .int l)]) (st2 := []) (w3 := w) rfl rfl ?_
      exact sx_RP.ls (sx_lr.cons rfl (sx_lr.cons rfl (sx_lr.cons rfl (sx_lr.cons rfl sx_lr.nil)))) (kk w l hI hE (by omega))
    · replace q8 := Decidable.not_not.mp (of_decide_eq_false q8)
      replace q8 := (nI_eq (a := x5) (b := 0) (by omega) (by omega)).mp q8
      refine sx_RP.step (pc2 := 46) (ls2 := [(5, .ref (A + 4 + j)), (0, .ref A), (1, .long x), (3, .int l), (4, .int (nI j))]) (st2 := [.long x]) (w3 := w) rfl rfl ?_
      refine sx_RP.step (pc2 := 48) (ls2 := [(5, .ref (A + 4 + j)), (0, .ref A), (1, .long x), (3, .int l), (4, .int (nI j))]) (st2 := [.ref (A + 4 + j), .long x]) (w3 := w) rfl rfl ?_
      refine sx_RP.gg (k := 2) hI (gAd.of hA (show j < 10 by omega)) rfl rfl (by decide) (show _ = 51 from rfl) ?_
      obtain ⟨x9, hx10, ex11⟩ : inR (fi w (A + 4 + j) 2) 47 := hI.gk (k := 2) (gAd.of hA (show j < 10 by omega)) (by decide)
      rw [ex11]
      refine sx_RP.step (pc2 := 52) (ls2 := [(5, .ref (A + 4 + j)), (0, .ref A), (1, .long x), (3, .int l), (4, .int (nI j))]) (st2 := [.long ((x.toUInt64 >>> ((nI x9).toInt64.toUInt64 &&& Int64.toUInt64 63)).toInt64)]) (w3 := w) rfl rfl ?_
      refine sx_RP.step (pc2 := 53) (ls2 := [(5, .ref (A + 4 + j)), (0, .ref A), (1, .long x), (3, .int l), (4, .int (nI j))]) (st2 := [.long 1, .long ((x.toUInt64 >>> ((nI x9).toInt64.toUInt64 &&& Int64.toUInt64 63)).toInt64)]) (w3 := w) rfl rfl ?_
      refine sx_RP.step (pc2 := 54) (ls2 := [(5, .ref (A + 4 + j)), (0, .ref A), (1, .long x), (3, .int l), (4, .int (nI j))]) (st2 := [.long (((x.toUInt64 >>> ((nI x9).toInt64.toUInt64 &&& Int64.toUInt64 63)).toInt64) &&& 1)]) (w3 := w) rfl rfl ?_
      refine sx_RP.step (pc2 := 55) (ls2 := [(5, .ref (A + 4 + j)), (0, .ref A), (1, .long x), (3, .int l), (4, .int (nI j))]) (st2 := [.long 1, .long (((x.toUInt64 >>> ((nI x9).toInt64.toUInt64 &&& Int64.toUInt64 63)).toInt64) &&& 1)]) (w3 := w) rfl rfl ?_
      refine sx_RP.step (pc2 := 56) (ls2 := [(5, .ref (A + 4 + j)), (0, .ref A), (1, .long x), (3, .int l), (4, .int (nI j))]) (st2 := [.int (lg_cmp (((x.toUInt64 >>> ((nI x9).toInt64.toUInt64 &&& Int64.toUInt64 63)).toInt64) &&& 1) 1)]) (w3 := w) rfl rfl ?_
      refine sx_RP.br (p1 := 68) (l1 := [(5, .ref (A + 4 + j)), (0, .ref A), (1, .long x), (3, .int l), (4, .int (nI j))]) (s1 := []) (v1 := w) (p2 := 59) (l2 := [(5, .ref (A + 4 + j)), (0, .ref A), (1, .long x), (3, .int l), (4, .int (nI j))]) (s2 := []) (v2 := w) rfl rfl (fun q12 => ?_) (fun q12 => ?_)
      · replace q12 := of_decide_eq_true q12
        refine sx_RP.step (pc2 := 71) (ls2 := [(4, .int ((nI j) + 1)), (5, .ref (A + 4 + j)), (0, .ref A), (1, .long x), (3, .int l)]) (st2 := []) (w3 := w) rfl rfl ?_
        rw [nI_1 j]
        refine sx_RP.step (pc2 := 19) (ls2 := [(4, .int (nI (j + 1))), (5, .ref (A + 4 + j)), (0, .ref A), (1, .long x), (3, .int l)]) (st2 := []) (w3 := w) rfl rfl ?_
        exact sx_RP.ls (sx_lr.cons rfl (sx_lr.cons rfl (sx_lr.cons rfl (sx_lr.cons rfl sx_lr.nil)))) (kk w l hI hE (by omega))
      · replace q12 := Decidable.not_not.mp (of_decide_eq_false q12)
        refine sx_RP.step (pc2 := 61) (ls2 := [(5, .ref (A + 4 + j)), (0, .ref A), (1, .long x), (3, .int l), (4, .int (nI j))]) (st2 := [.ref (A + 4 + j)]) (w3 := w) rfl rfl ?_
        refine sx_RP.step (pc2 := 62) (ls2 := [(5, .ref (A + 4 + j)), (0, .ref A), (1, .long x), (3, .int l), (4, .int (nI j))]) (st2 := [.int 1, .ref (A + 4 + j)]) (w3 := w) rfl rfl ?_
        refine sx_RP.pg (k := 5) hI hE (gAd.of hA (show j < 10 by omega)) rfl rfl (by decide) rfl (show inR 1 1 from ⟨1, by decide, rfl⟩) (show _ = 65 from rfl) (fun w13 hI14 hE15 hk16 => ?_)
        have ex17 := (hk16 A 3 hA).trans ex3
        refine sx_RP.step (pc2 := 68) (ls2 := [(3, .int (l + 1)), (5, .ref (A + 4 + j)), (0, .ref A), (1, .long x), (4, .int (nI j))]) (st2 := []) (w3 := w13) rfl rfl ?_
        refine sx_RP.step (pc2 := 71) (ls2 := [(4, .int ((nI j) + 1)), (3, .int (l + 1)), (5, .ref (A + 4 + j)), (0, .ref A), (1, .long x)]) (st2 := []) (w3 := w13) rfl rfl ?_
        rw [nI_1 j]
        refine sx_RP.step (pc2 := 19) (ls2 := [(4, .int (nI (j + 1))), (3, .int (l + 1)), (5, .ref (A + 4 + j)), (0, .ref A), (1, .long x)]) (st2 := []) (w3 := w13) rfl rfl ?_
        exact sx_RP.ls (sx_lr.cons rfl (sx_lr.cons rfl (sx_lr.cons rfl (sx_lr.cons rfl sx_lr.nil)))) (kk w13 (l + 1) hI14 hE15 (by omega))
set_option maxRecDepth 20000 in
set_option maxHeartbeats 4000000 in
theorem s80aL {xs : Option (List Int32)} {d : Nat} {w0 : List sx_C} {A : Nat} (hA : isA A) (x : Int64) (kx74 : ∀ (w4 : List sx_C) (ul : Int32), WI w4 → EC w0 w4 → sx_RP xs d 80 74 [(0, .ref A), (1, .long x), (3, .int ul)] [] w4 (fun r w2 => (∃ v : Int32, r = some (.int v)) ∧ WI w2 ∧ EC w0 w2)) : ∀ (fz j : Nat) (w : List sx_C) (l : Int32) , 10 ≤ j + fz * 1 → j ≤ 10 → WI w → EC w0 w → sx_RP xs d 80 19 [(0, .ref A), (1, .long x), (3, .int l), (4, .int (nI j))] [] w (fun r w2 => (∃ v : Int32, r = some (.int v)) ∧ WI w2 ∧ EC w0 w2)
  | 0, j, w, l, h, hj, hI, hE => s80aB hA x hI hE hj l  (fun w4 ul hI4 hE4 hlt  => absurd hlt (by omega)) kx74
  | fz + 1, j, w, l, h, hj, hI, hE => s80aB hA x hI hE hj l  (fun w4 ul hI4 hE4 hlt  => s80aL hA x kx74 fz (j + 1) w4 ul (by omega) hlt hI4 hE4 ) kx74
set_option maxRecDepth 20000 in
set_option maxHeartbeats 4000000 in
theorem s80 {xs : Option (List Int32)} {d : Nat} {w : List sx_C} (hI : WI w) {A : Nat} (hA : isA A) (x : Int64) : sx_RP xs d 80 0 (lv_args 0 [.ref A, .long x]) [] w (fun r w2 => (∃ v : Int32, r = some (.int v)) ∧ WI w2 ∧ EC w w2) := by
  have hE : EC w w := EC.rf
  refine sx_RP.step (pc2 := 1) (ls2 := [(0, .ref A), (1, .long x)]) (st2 := [.ref A]) (w3 := w) rfl rfl ?_
  refine sx_RP.step (pc2 := 2) (ls2 := [(0, .ref A), (1, .long x)]) (st2 := [.ref A, .ref A]) (w3 := w) rfl rfl ?_
  refine sx_RP.gw hI hA rfl rfl (show _ = 5 from rfl) ?_
  refine sx_RP.step (pc2 := 6) (ls2 := [(0, .ref A), (1, .long x)]) (st2 := [.long x, .long (fj w A 1), .ref A]) (w3 := w) rfl rfl ?_
  refine sx_RP.step (pc2 := 9) (ls2 := [(0, .ref A), (1, .long x)]) (st2 := [.long (-1), .long x, .long (fj w A 1), .ref A]) (w3 := w) rfl rfl ?_
  refine sx_RP.step (pc2 := 10) (ls2 := [(0, .ref A), (1, .long x)]) (st2 := [.long (x ^^^ (-1)), .long (fj w A 1), .ref A]) (w3 := w) rfl rfl ?_
  refine sx_RP.step (pc2 := 11) (ls2 := [(0, .ref A), (1, .long x)]) (st2 := [.long ((fj w A 1) &&& (x ^^^ (-1))), .ref A]) (w3 := w) rfl rfl ?_
  refine sx_RP.pw hI hE hA rfl rfl rfl (show _ = 14 from rfl) (fun w1 hI2 hE3 => ?_)
  refine sx_RP.step (pc2 := 15) (ls2 := [(0, .ref A), (1, .long x)]) (st2 := [.int 0]) (w3 := w1) rfl rfl ?_
  refine sx_RP.step (pc2 := 16) (ls2 := [(3, .int 0), (0, .ref A), (1, .long x)]) (st2 := []) (w3 := w1) rfl rfl ?_
  refine sx_RP.step (pc2 := 17) (ls2 := [(3, .int 0), (0, .ref A), (1, .long x)]) (st2 := [.int 0]) (w3 := w1) rfl rfl ?_
  refine sx_RP.step (pc2 := 19) (ls2 := [(4, .int 0), (3, .int 0), (0, .ref A), (1, .long x)]) (st2 := []) (w3 := w1) rfl rfl ?_
  refine sx_RP.ls (sx_lr.cons rfl (sx_lr.cons rfl (sx_lr.cons rfl (sx_lr.cons rfl sx_lr.nil)))) (s80aL hA x (fun w4 u7 hI5 hE6 => ?_) 10 0 w1 0 (by omega) (by omega) hI2 hE3 )
  refine sx_RP.step (pc2 := 75) (ls2 := [(0, .ref A), (1, .long x), (3, .int u7)]) (st2 := [.int 0]) (w3 := w4) rfl rfl ?_
  refine sx_RP.step (pc2 := 77) (ls2 := [(4, .int 0), (0, .ref A), (1, .long x), (3, .int u7)]) (st2 := []) (w3 := w4) rfl rfl ?_
  exact sx_RP.ls (sx_lr.cons rfl (sx_lr.cons rfl (sx_lr.cons rfl (sx_lr.cons rfl sx_lr.nil)))) (s80bL hA x 48 0 w4 u7 (by omega) (by omega) hI5 hE6 )
set_option maxRecDepth 20000 in
set_option maxHeartbeats 4000000 in
theorem s104B {xs : Option (List Int32)} {d : Nat} {w w0 : List sx_C} {A : Nat} (hA : isA A) {u t : Nat} (x : Int32) (hu : u ≤ 4) (ht : t ≤ 47) (hI : WI w) (hE : EC w0 w) {j : Nat} (hj : j ≤ 48) (kk : ∀ (w4 : List sx_C), WI w4 → EC w0 w4 → j + 1 ≤ 48 → sx_RP xs d 104 3 [(0, .ref A), (1, .int (nI u)), (2, .int x), (3, .int (nI t)), (4, .int (nI (j + 1)))] [] w4 (fun r w2 => (r = none) ∧ WI w2 ∧ EC w0 w2)) : sx_RP xs d 104 3 [(0, .ref A), (1, .int (nI u)), (2, .int x), (3, .int (nI t)), (4, .int (nI j))] [] w (fun r w2 => (r = none) ∧ WI w2 ∧ EC w0 w2) := by
  refine sx_RP.step (pc2 := 5) (ls2 := [(0, .ref A), (1, .int (nI u)), (2, .int x), (3, .int (nI t)), (4, .int (nI j))]) (st2 := [.int (nI j)]) (w3 := w) rfl rfl ?_
  refine sx_RP.step (pc2 := 6) (ls2 := [(0, .ref A), (1, .int (nI u)), (2, .int x), (3, .int (nI t)), (4, .int (nI j))]) (st2 := [.int (nI t), .int (nI j)]) (w3 := w) rfl rfl ?_
  refine sx_RP.br (p1 := 44) (l1 := [(0, .ref A), (1, .int (nI u)), (2, .int x), (3, .int (nI t)), (4, .int (nI j))]) (s1 := []) (v1 := w) (p2 := 9) (l2 := [(0, .ref A), (1, .int (nI u)), (2, .int x), (3, .int (nI t)), (4, .int (nI j))]) (s2 := []) (v2 := w) rfl rfl (fun q1 => ?_) (fun q1 => ?_)
  · replace q1 := of_decide_eq_true q1
    replace q1 := (nI_ltI (a := t) (b := j) (by omega) (by omega)).mp q1
    refine sx_RP.ret (r := none) rfl rfl ?_
    exact ⟨rfl, hI, hE⟩
  · replace q1 := of_decide_eq_false q1
    replace q1 := mt (nI_ltI (a := t) (b := j) (by omega) (by omega)).mpr q1
    refine sx_RP.step (pc2 := 10) (ls2 := [(0, .ref A), (1, .int (nI u)), (2, .int x), (3, .int (nI t)), (4, .int (nI j))]) (st2 := [.int (nI u)]) (w3 := w) rfl rfl ?_
    refine sx_RP.step (pc2 := 11) (ls2 := [(0, .ref A), (1, .int (nI u)), (2, .int x), (3, .int (nI t)), (4, .int (nI j))]) (st2 := [.int 4, .int (nI u)]) (w3 := w) rfl rfl ?_
    refine sx_RP.br (p1 := 30) (l1 := [(0, .ref A), (1, .int (nI u)), (2, .int x), (3, .int (nI t)), (4, .int (nI j))]) (s1 := []) (v1 := w) (p2 := 14) (l2 := [(0, .ref A), (1, .int (nI u)), (2, .int x), (3, .int (nI t)), (4, .int (nI j))]) (s2 := []) (v2 := w) rfl rfl (fun q2 => ?_) (fun q2 => ?_)
    · replace q2 := of_decide_eq_true q2
      replace q2 := mt (nI_eq (a := u) (b := 4) (by omega) (by omega)).mpr q2
      refine sx_RP.step (pc2 := 31) (ls2 := [(0, .ref A), (1, .int (nI u)), (2, .int x), (3, .int (nI t)), (4, .int (nI j))]) (st2 := [.ref A]) (w3 := w) rfl rfl ?_
      refine sx_RP.gref (k := 0) (b := A + 1) hI hA rfl rfl (by omega) (show _ = 34 from rfl) ?_
      refine sx_RP.step (pc2 := 36) (ls2 := [(0, .ref A), (1, .int (nI u)), (2, .int x), (3, .int (nI t)), (4, .int (nI j))]) (st2 := [.int (nI j), .ref (A + 1)]) (w3 := w) rfl rfl ?_
      refine sx_RP.step (pc2 := 37) (ls2 := [(0, .ref A), (1, .int (nI u)), (2, .int x), (3, .int (nI t)), (4, .int (nI j))]) (st2 := [.int (nI u), .int (nI j), .ref (A + 1)]) (w3 := w) rfl rfl ?_
      refine sx_RP.stS hI hE hA rfl (sx_in_nI (show j < 48 by omega) (by decide)) (inR.n (show u ≤ 3 by omega)) (show _ = 38 from rfl) (fun w3 hI4 hE5 => ?_)
      refine sx_RP.step (pc2 := 41) (ls2 := [(4, .int ((nI j) + 1)), (0, .ref A), (1, .int (nI u)), (2, .int x), (3, .int (nI t))]) (st2 := []) (w3 := w3) rfl rfl ?_
      rw [nI_1 j]
      refine sx_RP.step (pc2 := 3) (ls2 := [(4, .int (nI (j + 1))), (0, .ref A), (1, .int (nI u)), (2, .int x), (3, .int (nI t))]) (st2 := []) (w3 := w3) rfl rfl ?_
      exact sx_RP.ls (sx_lr.cons rfl (sx_lr.cons rfl (sx_lr.cons rfl (sx_lr.cons rfl (sx_lr.cons rfl sx_lr.nil))))) (kk w3 hI4 hE5 (by omega))
    · replace q2 := Decidable.not_not.mp (of_decide_eq_false q2)
      replace q2 := (nI_eq (a := u) (b := 4) (by omega) (by omega)).mp q2
      refine sx_RP.step (pc2 := 15) (ls2 := [(0, .ref A), (1, .int (nI u)), (2, .int x), (3, .int (nI t)), (4, .int (nI j))]) (st2 := [.ref A]) (w3 := w) rfl rfl ?_
      refine sx_RP.step (pc2 := 16) (ls2 := [(0, .ref A), (1, .int (nI u)), (2, .int x), (3, .int (nI t)), (4, .int (nI j))]) (st2 := [.ref A, .ref A]) (w3 := w) rfl rfl ?_
      refine sx_RP.gw hI hA rfl rfl (show _ = 19 from rfl) ?_
      refine sx_RP.step (pc2 := 20) (ls2 := [(0, .ref A), (1, .int (nI u)), (2, .int x), (3, .int (nI t)), (4, .int (nI j))]) (st2 := [.long 1, .long (fj w A 1), .ref A]) (w3 := w) rfl rfl ?_
      refine sx_RP.step (pc2 := 22) (ls2 := [(0, .ref A), (1, .int (nI u)), (2, .int x), (3, .int (nI t)), (4, .int (nI j))]) (st2 := [.int (nI j), .long 1, .long (fj w A 1), .ref A]) (w3 := w) rfl rfl ?_
      refine sx_RP.step (pc2 := 23) (ls2 := [(0, .ref A), (1, .int (nI u)), (2, .int x), (3, .int (nI t)), (4, .int (nI j))]) (st2 := [.long ((1 : Int64) <<< ((nI j).toInt64 &&& 63)), .long (fj w A 1), .ref A]) (w3 := w) rfl rfl ?_
      refine sx_RP.step (pc2 := 24) (ls2 := [(0, .ref A), (1, .int (nI u)), (2, .int x), (3, .int (nI t)), (4, .int (nI j))]) (st2 := [.long ((fj w A 1) ||| ((1 : Int64) <<< ((nI j).toInt64 &&& 63))), .ref A]) (w3 := w) rfl rfl ?_
      refine sx_RP.pw hI hE hA rfl rfl rfl (show _ = 27 from rfl) (fun w6 hI7 hE8 => ?_)
      refine sx_RP.step (pc2 := 38) (ls2 := [(0, .ref A), (1, .int (nI u)), (2, .int x), (3, .int (nI t)), (4, .int (nI j))]) (st2 := []) (w3 := w6) rfl rfl ?_
      refine sx_RP.step (pc2 := 41) (ls2 := [(4, .int ((nI j) + 1)), (0, .ref A), (1, .int (nI u)), (2, .int x), (3, .int (nI t))]) (st2 := []) (w3 := w6) rfl rfl ?_
      rw [nI_1 j]
      refine sx_RP.step (pc2 := 3) (ls2 := [(4, .int (nI (j + 1))), (0, .ref A), (1, .int (nI u)), (2, .int x), (3, .int (nI t))]) (st2 := []) (w3 := w6) rfl rfl ?_
      exact sx_RP.ls (sx_lr.cons rfl (sx_lr.cons rfl (sx_lr.cons rfl (sx_lr.cons rfl (sx_lr.cons rfl sx_lr.nil))))) (kk w6 hI7 hE8 (by omega))
set_option maxRecDepth 20000 in
set_option maxHeartbeats 4000000 in
theorem s104L {xs : Option (List Int32)} {d : Nat} {w0 : List sx_C} {A : Nat} (hA : isA A) {u t : Nat} (x : Int32) (hu : u ≤ 4) (ht : t ≤ 47) : ∀ (fz j : Nat) (w : List sx_C) , 48 ≤ j + fz * 1 → j ≤ 48 → WI w → EC w0 w → sx_RP xs d 104 3 [(0, .ref A), (1, .int (nI u)), (2, .int x), (3, .int (nI t)), (4, .int (nI j))] [] w (fun r w2 => (r = none) ∧ WI w2 ∧ EC w0 w2)
  | 0, j, w, h, hj, hI, hE => s104B hA x hu ht hI hE hj   (fun w4  hI4 hE4 hlt  => absurd hlt (by omega)) 
  | fz + 1, j, w, h, hj, hI, hE => s104B hA x hu ht hI hE hj   (fun w4  hI4 hE4 hlt  => s104L hA x hu ht  fz (j + 1) w4  (by omega) hlt hI4 hE4 ) 
set_option maxRecDepth 20000 in
set_option maxHeartbeats 4000000 in
theorem s104 {xs : Option (List Int32)} {d : Nat} {w : List sx_C} (hI : WI w) {A : Nat} (hA : isA A) {u f t : Nat} (hu : u ≤ 4) (hf : f ≤ 48) (ht : t ≤ 47) : sx_RP xs d 104 0 (lv_args 0 [.ref A, .int (nI u), .int (nI f), .int (nI t)]) [] w (fun r w2 => (r = none) ∧ WI w2 ∧ EC w w2) := by
  have hE : EC w w := EC.rf
  refine sx_RP.step (pc2 := 1) (ls2 := [(0, .ref A), (1, .int (nI u)), (2, .int (nI f)), (3, .int (nI t))]) (st2 := [.int (nI f)]) (w3 := w) rfl rfl ?_
  refine sx_RP.step (pc2 := 3) (ls2 := [(4, .int (nI f)), (0, .ref A), (1, .int (nI u)), (2, .int (nI f)), (3, .int (nI t))]) (st2 := []) (w3 := w) rfl rfl ?_
  exact sx_RP.ls (sx_lr.cons rfl (sx_lr.cons rfl (sx_lr.cons rfl (sx_lr.cons rfl (sx_lr.cons rfl sx_lr.nil))))) (s104L hA (nI f) hu ht 48 f w  (by omega) (by omega) hI hE )
set_option maxRecDepth 20000 in
set_option maxHeartbeats 4000000 in
theorem s56B {xs : Option (List Int32)} {d : Nat} {w w0 : List sx_C} {ga : Nat} (hg : gAd ga) (hI : WI w) (hE : EC w0 w) {j : Nat} (hj : j ≤ 48) (kk : ∀ (w4 : List sx_C), WI w4 → EC w0 w4 → j + 1 ≤ 48 → sx_RP xs (d + 4) 56 2 [(0, .ref 0), (1, .ref ga), (2, .int (nI (j + 1)))] [] w4 (fun r w2 => (r = none) ∧ WI w2 ∧ EC w0 w2)) : sx_RP xs (d + 4) 56 2 [(0, .ref 0), (1, .ref ga), (2, .int (nI j))] [] w (fun r w2 => (r = none) ∧ WI w2 ∧ EC w0 w2) := by
  refine sx_RP.step (pc2 := 3) (ls2 := [(0, .ref 0), (1, .ref ga), (2, .int (nI j))]) (st2 := [.int (nI j)]) (w3 := w) rfl rfl ?_
  refine sx_RP.step (pc2 := 5) (ls2 := [(0, .ref 0), (1, .ref ga), (2, .int (nI j))]) (st2 := [.int 48, .int (nI j)]) (w3 := w) rfl rfl ?_
  refine sx_RP.br (p1 := 51) (l1 := [(0, .ref 0), (1, .ref ga), (2, .int (nI j))]) (s1 := []) (v1 := w) (p2 := 8) (l2 := [(0, .ref 0), (1, .ref ga), (2, .int (nI j))]) (s2 := []) (v2 := w) rfl rfl (fun q1 => ?_) (fun q1 => ?_)
  · replace q1 := of_decide_eq_true q1
    replace q1 := (nI_leI (a := 48) (b := j) (by omega) (by omega)).mp q1
    refine sx_RP.step (pc2 := 52) (ls2 := [(0, .ref 0), (1, .ref ga), (2, .int (nI j))]) (st2 := [.ref ga]) (w3 := w) rfl rfl ?_
    refine sx_RP.gg (k := 2) hI hg rfl rfl (by decide) (show _ = 55 from rfl) ?_
    obtain ⟨x2, hx3, ex4⟩ : inR (fi w ga 2) 47 := hI.gk (k := 2) hg (by decide)
    rw [ex4]
    refine sx_RP.step (pc2 := 56) (ls2 := [(0, .ref 0), (1, .ref ga), (2, .int (nI j))]) (st2 := [.ref 0, .int (nI x2)]) (w3 := w) rfl rfl ?_
    refine sx_RP.gf (v := .ref 100) rfl rfl hI.1.o0 rfl rfl (show _ = 59 from rfl) ?_
    refine sx_RP.step (pc2 := 60) (ls2 := [(0, .ref 0), (1, .ref ga), (2, .int (nI j))]) (st2 := [.ref 0, .ref 100, .int (nI x2)]) (w3 := w) rfl rfl ?_
    refine sx_RP.gf (v := .ref 101) rfl rfl hI.1.o0 rfl rfl (show _ = 63 from rfl) ?_
    refine sx_RP.callp (as2 := [.int (nI x2), .ref 100, .ref 101]) (rest2 := []) rfl rfl rfl rfl rfl rfl (s18 hI (show x2 < 48 by omega)) (show _ = 66 from rfl) ?_
    rintro r4 w5 ⟨rfl, hI6, hE8⟩
    have hE7 := hE.tr hE8
    show sx_RP _ _ _ _ _ [] _ _
    refine sx_RP.ret (r := none) rfl rfl ?_
    exact ⟨rfl, hI6, hE7⟩
  · replace q1 := of_decide_eq_false q1
    replace q1 := mt (nI_leI (a := 48) (b := j) (by omega) (by omega)).mpr q1
    refine sx_RP.step (pc2 := 9) (ls2 := [(0, .ref 0), (1, .ref ga), (2, .int (nI j))]) (st2 := [.ref 0]) (w3 := w) rfl rfl ?_
    refine sx_RP.gf (v := .ref 100) rfl rfl hI.1.o0 rfl rfl (show _ = 12 from rfl) ?_
    refine sx_RP.step (pc2 := 13) (ls2 := [(0, .ref 0), (1, .ref ga), (2, .int (nI j))]) (st2 := [.int (nI j), .ref 100]) (w3 := w) rfl rfl ?_
    refine sx_RP.step (pc2 := 14) (ls2 := [(0, .ref 0), (1, .ref ga), (2, .int (nI j))]) (st2 := [.ref 0, .int (nI j), .ref 100]) (w3 := w) rfl rfl ?_
    refine sx_RP.gf (v := .ref 1) rfl rfl hI.1.o0 rfl rfl (show _ = 17 from rfl) ?_
    refine sx_RP.step (pc2 := 18) (ls2 := [(0, .ref 0), (1, .ref ga), (2, .int (nI j))]) (st2 := [.ref ga, .ref 1, .int (nI j), .ref 100]) (w3 := w) rfl rfl ?_
    refine sx_RP.gg (k := 0) hI hg rfl rfl (by decide) (show _ = 21 from rfl) ?_
    obtain ⟨x9, hx10, ex11⟩ : inR (fi w ga 0) 5 := hI.gk (k := 0) hg (by decide)
    rw [ex11]
    refine sx_RP.step (pc2 := 22) (ls2 := [(0, .ref 0), (1, .ref ga), (2, .int (nI j))]) (st2 := [.int (nI j), .int (nI x9), .ref 1, .int (nI j), .ref 100]) (w3 := w) rfl rfl ?_
    obtain ⟨x12, hx13, c14⟩ := p57 hI (Or.inl rfl) (show x9 ≤ 5 by omega) (show j < 48 by omega)
    refine sx_RP.cu (as := [.ref 1, .int (nI x9), .int (nI j)]) (rest2 := [.int (nI j), .ref 100]) (st3 := [.int (nI x12), .int (nI j), .ref 100]) rfl rfl (sx_inv_v2 (mi := 56) (k := 201) (st := [.int (nI j), .int (nI x9), .ref 1, .int (nI j), .ref 100]) (w := w) rfl rfl (hI.1.oC (Or.inl rfl)) rfl rfl rfl) rfl rfl (c14) rfl ?_
    refine sx_RP.br (p1 := 43) (l1 := [(0, .ref 0), (1, .ref ga), (2, .int (nI j))]) (s1 := [.int (nI j), .ref 100]) (v1 := w) (p2 := 28) (l2 := [(0, .ref 0), (1, .ref ga), (2, .int (nI j))]) (s2 := [.int (nI j), .ref 100]) (v2 := w) rfl rfl (fun q15 => ?_) (fun q15 => ?_)
    · replace q15 := of_decide_eq_true q15
      replace q15 := (nI_eq (a := x12) (b := 0) (by omega) (by omega)).mp q15
      refine sx_RP.step (pc2 := 44) (ls2 := [(0, .ref 0), (1, .ref ga), (2, .int (nI j))]) (st2 := [.int (-1), .int (nI j), .ref 100]) (w3 := w) rfl rfl ?_
      refine sx_RP.stF hI hE rfl hI.1.a100 (sx_in_nI (show j < 48 by omega) (by decide)) (by omega) (show _ = 45 from rfl) (fun w16 hI17 hE18 => ?_)
      refine sx_RP.step (pc2 := 48) (ls2 := [(2, .int ((nI j) + 1)), (0, .ref 0), (1, .ref ga)]) (st2 := []) (w3 := w16) rfl rfl ?_
      rw [nI_1 j]
      refine sx_RP.step (pc2 := 2) (ls2 := [(2, .int (nI (j + 1))), (0, .ref 0), (1, .ref ga)]) (st2 := []) (w3 := w16) rfl rfl ?_
      exact sx_RP.ls (sx_lr.cons rfl (sx_lr.cons rfl (sx_lr.cons rfl sx_lr.nil))) (kk w16 hI17 hE18 (by omega))
    · replace q15 := of_decide_eq_false q15
      replace q15 := mt (nI_eq (a := x12) (b := 0) (by omega) (by omega)).mpr q15
      refine sx_RP.step (pc2 := 29) (ls2 := [(0, .ref 0), (1, .ref ga), (2, .int (nI j))]) (st2 := [.ref 0, .int (nI j), .ref 100]) (w3 := w) rfl rfl ?_
      refine sx_RP.gf (v := .ref 1) rfl rfl hI.1.o0 rfl rfl (show _ = 32 from rfl) ?_
      refine sx_RP.step (pc2 := 33) (ls2 := [(0, .ref 0), (1, .ref ga), (2, .int (nI j))]) (st2 := [.ref ga, .ref 1, .int (nI j), .ref 100]) (w3 := w) rfl rfl ?_
      refine sx_RP.gg (k := 0) hI hg rfl rfl (by decide) (show _ = 36 from rfl) ?_
      rw [ex11]
      refine sx_RP.step (pc2 := 37) (ls2 := [(0, .ref 0), (1, .ref ga), (2, .int (nI j))]) (st2 := [.int (nI j), .int (nI x9), .ref 1, .int (nI j), .ref 100]) (w3 := w) rfl rfl ?_
      obtain ⟨v19, c20⟩ := p33 hI (Or.inl rfl) (show x9 ≤ 5 by omega) (show j < 48 by omega)
      refine sx_RP.cu (as := [.ref 1, .int (nI x9), .int (nI j)]) (rest2 := [.int (nI j), .ref 100]) (st3 := [.int v19, .int (nI j), .ref 100]) rfl rfl (sx_inv_v2 (mi := 56) (k := 153) (st := [.int (nI j), .int (nI x9), .ref 1, .int (nI j), .ref 100]) (w := w) rfl rfl (hI.1.oC (Or.inl rfl)) rfl rfl rfl) rfl rfl (c20) rfl ?_
      refine sx_RP.step (pc2 := 44) (ls2 := [(0, .ref 0), (1, .ref ga), (2, .int (nI j))]) (st2 := [.int v19, .int (nI j), .ref 100]) (w3 := w) rfl rfl ?_
      refine sx_RP.stF hI hE rfl hI.1.a100 (sx_in_nI (show j < 48 by omega) (by decide)) (by omega) (show _ = 45 from rfl) (fun w21 hI22 hE23 => ?_)
      refine sx_RP.step (pc2 := 48) (ls2 := [(2, .int ((nI j) + 1)), (0, .ref 0), (1, .ref ga)]) (st2 := []) (w3 := w21) rfl rfl ?_
      rw [nI_1 j]
      refine sx_RP.step (pc2 := 2) (ls2 := [(2, .int (nI (j + 1))), (0, .ref 0), (1, .ref ga)]) (st2 := []) (w3 := w21) rfl rfl ?_
      exact sx_RP.ls (sx_lr.cons rfl (sx_lr.cons rfl (sx_lr.cons rfl sx_lr.nil))) (kk w21 hI22 hE23 (by omega))
set_option maxRecDepth 20000 in
set_option maxHeartbeats 4000000 in
theorem s56L {xs : Option (List Int32)} {d : Nat} {w0 : List sx_C} {ga : Nat} (hg : gAd ga) : ∀ (fz j : Nat) (w : List sx_C) , 48 ≤ j + fz * 1 → j ≤ 48 → WI w → EC w0 w → sx_RP xs (d + 4) 56 2 [(0, .ref 0), (1, .ref ga), (2, .int (nI j))] [] w (fun r w2 => (r = none) ∧ WI w2 ∧ EC w0 w2)
  | 0, j, w, h, hj, hI, hE => s56B hg hI hE hj   (fun w4  hI4 hE4 hlt  => absurd hlt (by omega)) 
  | fz + 1, j, w, h, hj, hI, hE => s56B hg hI hE hj   (fun w4  hI4 hE4 hlt  => s56L hg  fz (j + 1) w4  (by omega) hlt hI4 hE4 ) 
set_option maxRecDepth 20000 in
set_option maxHeartbeats 4000000 in
theorem s56 {xs : Option (List Int32)} {d : Nat} {w : List sx_C} (hI : WI w) {ga : Nat} (hg : gAd ga) : sx_RP xs (d + 4) 56 0 (lv_args 0 [.ref 0, .ref ga]) [] w (fun r w2 => (r = none) ∧ WI w2 ∧ EC w w2) := by
  have hE : EC w w := EC.rf
  refine sx_RP.step (pc2 := 1) (ls2 := [(0, .ref 0), (1, .ref ga)]) (st2 := [.int 0]) (w3 := w) rfl rfl ?_
  refine sx_RP.step (pc2 := 2) (ls2 := [(2, .int 0), (0, .ref 0), (1, .ref ga)]) (st2 := []) (w3 := w) rfl rfl ?_
  exact sx_RP.ls (sx_lr.cons rfl (sx_lr.cons rfl (sx_lr.cons rfl sx_lr.nil))) (s56L hg 48 0 w  (by omega) (by omega) hI hE )
set_option maxRecDepth 20000 in
set_option maxHeartbeats 4000000 in
theorem p60B {xs : Option (List Int32)} {d : Nat} {w : List sx_C} {c : Nat} (hc : c < 48) (x : Int32) (hI : WI w) {j : Nat} (hj : j ≤ 4) (kk : j + 1 ≤ 4 → sx_RP xs (d + 1) 60 14 [(0, .ref 0), (1, .int (nI c)), (2, .int x), (3, .int (nI (j + 1)))] [] w (fun r w2 => (∃ j, j ≤ 1 ∧ r = some (.int (nI j))) ∧ w2 = w)) : sx_RP xs (d + 1) 60 14 [(0, .ref 0), (1, .int (nI c)), (2, .int x), (3, .int (nI j))] [] w (fun r w2 => (∃ j, j ≤ 1 ∧ r = some (.int (nI j))) ∧ w2 = w) := by
  refine sx_RP.step (pc2 := 15) (ls2 := [(0, .ref 0), (1, .int (nI c)), (2, .int x), (3, .int (nI j))]) (st2 := [.int (nI j)]) (w3 := w) rfl rfl ?_
  refine sx_RP.step (pc2 := 16) (ls2 := [(0, .ref 0), (1, .int (nI c)), (2, .int x), (3, .int (nI j))]) (st2 := [.int 4, .int (nI j)]) (w3 := w) rfl rfl ?_
  refine sx_RP.br (p1 := 51) (l1 := [(0, .ref 0), (1, .int (nI c)), (2, .int x), (3, .int (nI j))]) (s1 := []) (v1 := w) (p2 := 19) (l2 := [(0, .ref 0), (1, .int (nI c)), (2, .int x), (3, .int (nI j))]) (s2 := []) (v2 := w) rfl rfl (fun q1 => ?_) (fun q1 => ?_)
  · replace q1 := of_decide_eq_true q1
    replace q1 := (nI_leI (a := 4) (b := j) (by omega) (by omega)).mp q1
    refine sx_RP.step (pc2 := 52) (ls2 := [(0, .ref 0), (1, .int (nI c)), (2, .int x), (3, .int (nI j))]) (st2 := [.int 0]) (w3 := w) rfl rfl ?_
    refine sx_RP.ret (r := (some (.int 0))) rfl rfl ?_
    exact ⟨⟨0, by decide, rfl⟩, rfl⟩
  · replace q1 := of_decide_eq_false q1
    replace q1 := mt (nI_leI (a := 4) (b := j) (by omega) (by omega)).mpr q1
    refine sx_RP.step (pc2 := 20) (ls2 := [(0, .ref 0), (1, .int (nI c)), (2, .int x), (3, .int (nI j))]) (st2 := [.int (nI c)]) (w3 := w) rfl rfl ?_
    refine sx_RP.step (pc2 := 21) (ls2 := [(0, .ref 0), (1, .int (nI c)), (2, .int x), (3, .int (nI j))]) (st2 := [.int (nI j), .int (nI c)]) (w3 := w) rfl rfl ?_
    rcases bes_cases (c := c) (j := j) (by omega) (by omega) with q2 | ⟨x3, hx4, q2⟩
    · refine sx_RP.cu (as := [.int (nI c), .int (nI j)]) (rest2 := []) (st3 := [.int (-1)]) rfl rfl rfl rfl rfl (cb_20e (by omega) (by omega) q2) rfl ?_
      refine sx_RP.step (pc2 := 26) (ls2 := [(4, .int (-1)), (0, .ref 0), (1, .int (nI c)), (2, .int x), (3, .int (nI j))]) (st2 := []) (w3 := w) rfl rfl ?_
      refine sx_RP.step (pc2 := 28) (ls2 := [(4, .int (-1)), (0, .ref 0), (1, .int (nI c)), (2, .int x), (3, .int (nI j))]) (st2 := [.int (-1)]) (w3 := w) rfl rfl ?_
      refine sx_RP.step (pc2 := 29) (ls2 := [(4, .int (-1)), (0, .ref 0), (1, .int (nI c)), (2, .int x), (3, .int (nI j))]) (st2 := [.int (-1), .int (-1)]) (w3 := w) rfl rfl ?_
      refine sx_RP.step (pc2 := 45) (ls2 := [(4, .int (-1)), (0, .ref 0), (1, .int (nI c)), (2, .int x), (3, .int (nI j))]) (st2 := []) (w3 := w) rfl rfl ?_
      refine sx_RP.step (pc2 := 48) (ls2 := [(3, .int ((nI j) + 1)), (4, .int (-1)), (0, .ref 0), (1, .int (nI c)), (2, .int x)]) (st2 := []) (w3 := w) rfl rfl ?_
      rw [nI_1 j]
      refine sx_RP.step (pc2 := 14) (ls2 := [(3, .int (nI (j + 1))), (4, .int (-1)), (0, .ref 0), (1, .int (nI c)), (2, .int x)]) (st2 := []) (w3 := w) rfl rfl ?_
      exact sx_RP.ls (sx_lr.cons rfl (sx_lr.cons rfl (sx_lr.cons rfl (sx_lr.cons rfl sx_lr.nil)))) (kk (by omega))
    · refine sx_RP.cu (as := [.int (nI c), .int (nI j)]) (rest2 := []) (st3 := [.int (nI x3)]) rfl rfl rfl rfl rfl (cb_20e (by omega) (by omega) q2) rfl ?_
      refine sx_RP.step (pc2 := 26) (ls2 := [(4, .int (nI x3)), (0, .ref 0), (1, .int (nI c)), (2, .int x), (3, .int (nI j))]) (st2 := []) (w3 := w) rfl rfl ?_
      refine sx_RP.step (pc2 := 28) (ls2 := [(4, .int (nI x3)), (0, .ref 0), (1, .int (nI c)), (2, .int x), (3, .int (nI j))]) (st2 := [.int (nI x3)]) (w3 := w) rfl rfl ?_
      refine sx_RP.step (pc2 := 29) (ls2 := [(4, .int (nI x3)), (0, .ref 0), (1, .int (nI c)), (2, .int x), (3, .int (nI j))]) (st2 := [.int (-1), .int (nI x3)]) (w3 := w) rfl rfl ?_
      refine sx_RP.br (p2 := 32) (l2 := [(4, .int (nI x3)), (0, .ref 0), (1, .int (nI c)), (2, .int x), (3, .int (nI j))]) (s2 := []) (v2 := w) rfl rfl (fun q => absurd (of_decide_eq_true q) (nI_ne1 (by omega))) (fun _ => ?_)
      refine sx_RP.step (pc2 := 33) (ls2 := [(4, .int (nI x3)), (0, .ref 0), (1, .int (nI c)), (2, .int x), (3, .int (nI j))]) (st2 := [.ref 0]) (w3 := w) rfl rfl ?_
      refine sx_RP.gf (v := .ref 101) rfl rfl hI.1.o0 rfl rfl (show _ = 36 from rfl) ?_
      refine sx_RP.step (pc2 := 38) (ls2 := [(4, .int (nI x3)), (0, .ref 0), (1, .int (nI c)), (2, .int x), (3, .int (nI j))]) (st2 := [.int (nI x3), .ref 101]) (w3 := w) rfl rfl ?_
      refine sx_RP.ild (c := x3) rfl hI.1.a101.1 hI.1.a101.2 (sx_in_nI (show x3 < 48 by omega) (by decide)) (show (nI x3).toNatClampNeg = x3 from nI_clamp (by omega)) (show _ = 39 from rfl) ?_
      refine sx_RP.step (pc2 := 40) (ls2 := [(4, .int (nI x3)), (0, .ref 0), (1, .int (nI c)), (2, .int x), (3, .int (nI j))]) (st2 := [.int x, .int ((ia w 101).getD x3 0)]) (w3 := w) rfl rfl ?_
      refine sx_RP.br (p1 := 45) (l1 := [(4, .int (nI x3)), (0, .ref 0), (1, .int (nI c)), (2, .int x), (3, .int (nI j))]) (s1 := []) (v1 := w) (p2 := 43) (l2 := [(4, .int (nI x3)), (0, .ref 0), (1, .int (nI c)), (2, .int x), (3, .int (nI j))]) (s2 := []) (v2 := w) rfl rfl (fun q5 => ?_) (fun q5 => ?_)
      · replace q5 := of_decide_eq_true q5
        refine sx_RP.step (pc2 := 48) (ls2 := [(3, .int ((nI j) + 1)), (4, .int (nI x3)), (0, .ref 0), (1, .int (nI c)), (2, .int x)]) (st2 := []) (w3 := w) rfl rfl ?_
        rw [nI_1 j]
        refine sx_RP.step (pc2 := 14) (ls2 := [(3, .int (nI (j + 1))), (4, .int (nI x3)), (0, .ref 0), (1, .int (nI c)), (2, .int x)]) (st2 := []) (w3 := w) rfl rfl ?_
        exact sx_RP.ls (sx_lr.cons rfl (sx_lr.cons rfl (sx_lr.cons rfl (sx_lr.cons rfl sx_lr.nil)))) (kk (by omega))
      · replace q5 := of_decide_eq_false q5
        refine sx_RP.step (pc2 := 44) (ls2 := [(4, .int (nI x3)), (0, .ref 0), (1, .int (nI c)), (2, .int x), (3, .int (nI j))]) (st2 := [.int 1]) (w3 := w) rfl rfl ?_
        refine sx_RP.ret (r := (some (.int 1))) rfl rfl ?_
        exact ⟨⟨1, by decide, rfl⟩, rfl⟩
set_option maxRecDepth 20000 in
set_option maxHeartbeats 4000000 in
theorem p60L {xs : Option (List Int32)} {d : Nat} {w : List sx_C} {c : Nat} (hc : c < 48) (x : Int32) (hI : WI w) : ∀ (fz j : Nat) , 4 ≤ j + fz * 1 → j ≤ 4 → sx_RP xs (d + 1) 60 14 [(0, .ref 0), (1, .int (nI c)), (2, .int x), (3, .int (nI j))] [] w (fun r w2 => (∃ j, j ≤ 1 ∧ r = some (.int (nI j))) ∧ w2 = w)
  | 0, j, h, hj => p60B hc x hI hj   (fun   hlt  => absurd hlt (by omega)) 
  | fz + 1, j, h, hj => p60B hc x hI hj   (fun   hlt  => p60L hc x hI  fz (j + 1)  (by omega) hlt ) 
set_option maxRecDepth 20000 in
set_option maxHeartbeats 4000000 in
theorem p60 {xs : Option (List Int32)} {d : Nat} {w : List sx_C} (hI : WI w) {c : Nat} (hc : c < 48) (x : Int32) : ∃ j, j ≤ 1 ∧ sx_RU xs (d + 1) 60 0 (lv_args 0 [.ref 0, .int (nI c), .int x]) [] w (some (.int (nI j))) w := by
  have h : sx_RP xs (d + 1) 60 0 (lv_args 0 [.ref 0, .int (nI c), .int x]) [] w (fun r w2 => (∃ j, j ≤ 1 ∧ r = some (.int (nI j))) ∧ w2 = w) := by
    refine sx_RP.step (pc2 := 1) (ls2 := [(0, .ref 0), (1, .int (nI c)), (2, .int x)]) (st2 := [.ref 0]) (w3 := w) rfl rfl ?_
    refine sx_RP.gf (v := .ref 101) rfl rfl hI.1.o0 rfl rfl (show _ = 4 from rfl) ?_
    refine sx_RP.step (pc2 := 5) (ls2 := [(0, .ref 0), (1, .int (nI c)), (2, .int x)]) (st2 := [.int (nI c), .ref 101]) (w3 := w) rfl rfl ?_
    refine sx_RP.ild (c := c) rfl hI.1.a101.1 hI.1.a101.2 (sx_in_nI (show c < 48 by omega) (by decide)) (show (nI c).toNatClampNeg = c from nI_clamp (by omega)) (show _ = 6 from rfl) ?_
    refine sx_RP.step (pc2 := 7) (ls2 := [(0, .ref 0), (1, .int (nI c)), (2, .int x)]) (st2 := [.int x, .int ((ia w 101).getD c 0)]) (w3 := w) rfl rfl ?_
    refine sx_RP.br (p1 := 12) (l1 := [(0, .ref 0), (1, .int (nI c)), (2, .int x)]) (s1 := []) (v1 := w) (p2 := 10) (l2 := [(0, .ref 0), (1, .int (nI c)), (2, .int x)]) (s2 := []) (v2 := w) rfl rfl (fun q1 => ?_) (fun q1 => ?_)
    · replace q1 := of_decide_eq_true q1
      refine sx_RP.step (pc2 := 13) (ls2 := [(0, .ref 0), (1, .int (nI c)), (2, .int x)]) (st2 := [.int 0]) (w3 := w) rfl rfl ?_
      refine sx_RP.step (pc2 := 14) (ls2 := [(3, .int 0), (0, .ref 0), (1, .int (nI c)), (2, .int x)]) (st2 := []) (w3 := w) rfl rfl ?_
      exact sx_RP.ls (sx_lr.cons rfl (sx_lr.cons rfl (sx_lr.cons rfl (sx_lr.cons rfl sx_lr.nil)))) (p60L hc x hI 4 0 (by omega) (by omega))
    · replace q1 := of_decide_eq_false q1
      refine sx_RP.step (pc2 := 11) (ls2 := [(0, .ref 0), (1, .int (nI c)), (2, .int x)]) (st2 := [.int 1]) (w3 := w) rfl rfl ?_
      refine sx_RP.ret (r := (some (.int 1))) rfl rfl ?_
      exact ⟨⟨1, by decide, rfl⟩, rfl⟩
  obtain ⟨r, w2, h1, ⟨j, hj, rfl⟩, rfl⟩ := h
  exact ⟨j, hj, h1⟩
set_option maxRecDepth 20000 in
set_option maxHeartbeats 4000000 in
theorem s59B {xs : Option (List Int32)} {d : Nat} {w w0 : List sx_C} {ga gb : Nat} (hg : gAd ga) (hb : gAd gb) (hI : WI w) (hE : EC w0 w) {j : Nat} (hj : j ≤ 61) (kk : ∀ (w4 : List sx_C), WI w4 → EC w0 w4 → j + 1 ≤ 61 → sx_RP xs (d + 5) 59 15 [(0, .ref 0), (1, .ref ga), (2, .ref gb), (3, .int (nI (j + 1)))] [] w4 (fun r w2 => (∃ v : Int32, r = some (.int v)) ∧ WI w2 ∧ EC w0 w2)) : sx_RP xs (d + 5) 59 15 [(0, .ref 0), (1, .ref ga), (2, .ref gb), (3, .int (nI j))] [] w (fun r w2 => (∃ v : Int32, r = some (.int v)) ∧ WI w2 ∧ EC w0 w2) := by
  refine sx_RP.step (pc2 := 16) (ls2 := [(0, .ref 0), (1, .ref ga), (2, .ref gb), (3, .int (nI j))]) (st2 := [.int (nI j)]) (w3 := w) rfl rfl ?_
  refine sx_RP.step (pc2 := 18) (ls2 := [(0, .ref 0), (1, .ref ga), (2, .ref gb), (3, .int (nI j))]) (st2 := [.int 60, .int (nI j)]) (w3 := w) rfl rfl ?_
  refine sx_RP.br (p1 := 65) (l1 := [(0, .ref 0), (1, .ref ga), (2, .ref gb), (3, .int (nI j))]) (s1 := []) (v1 := w) (p2 := 21) (l2 := [(0, .ref 0), (1, .ref ga), (2, .ref gb), (3, .int (nI j))]) (s2 := []) (v2 := w) rfl rfl (fun q1 => ?_) (fun q1 => ?_)
  · replace q1 := of_decide_eq_true q1
    replace q1 := (nI_ltI (a := 60) (b := j) (by omega) (by omega)).mp q1
    refine sx_RP.step (pc2 := 66) (ls2 := [(0, .ref 0), (1, .ref ga), (2, .ref gb), (3, .int (nI j))]) (st2 := [.int (-1)]) (w3 := w) rfl rfl ?_
    refine sx_RP.ret (r := (some (.int (-1)))) rfl rfl ?_
    exact ⟨⟨_, rfl⟩, hI, hE⟩
  · replace q1 := of_decide_eq_false q1
    replace q1 := mt (nI_ltI (a := 60) (b := j) (by omega) (by omega)).mpr q1
    refine sx_RP.step (pc2 := 22) (ls2 := [(0, .ref 0), (1, .ref ga), (2, .ref gb), (3, .int (nI j))]) (st2 := [.ref 0]) (w3 := w) rfl rfl ?_
    refine sx_RP.gf (v := .ref 43) rfl rfl hI.1.o0 rfl rfl (show _ = 25 from rfl) ?_
    refine sx_RP.gg (k := 5) hI gAd.t rfl rfl (by decide) (show _ = 28 from rfl) ?_
    obtain ⟨x2, hx3, ex4⟩ : inR (fi w 43 5) 1 := hI.gk (k := 5) gAd.t (by decide)
    rw [ex4]
    refine sx_RP.br (p1 := 65) (l1 := [(0, .ref 0), (1, .ref ga), (2, .ref gb), (3, .int (nI j))]) (s1 := []) (v1 := w) (p2 := 31) (l2 := [(0, .ref 0), (1, .ref ga), (2, .ref gb), (3, .int (nI j))]) (s2 := []) (v2 := w) rfl rfl (fun q5 => ?_) (fun q5 => ?_)
    · replace q5 := of_decide_eq_true q5
      replace q5 := mt (nI_eq (a := x2) (b := 0) (by omega) (by omega)).mpr q5
      refine sx_RP.step (pc2 := 66) (ls2 := [(0, .ref 0), (1, .ref ga), (2, .ref gb), (3, .int (nI j))]) (st2 := [.int (-1)]) (w3 := w) rfl rfl ?_
      refine sx_RP.ret (r := (some (.int (-1)))) rfl rfl ?_
      exact ⟨⟨_, rfl⟩, hI, hE⟩
    · replace q5 := Decidable.not_not.mp (of_decide_eq_false q5)
      replace q5 := (nI_eq (a := x2) (b := 0) (by omega) (by omega)).mp q5
      refine sx_RP.step (pc2 := 32) (ls2 := [(0, .ref 0), (1, .ref ga), (2, .ref gb), (3, .int (nI j))]) (st2 := [.ref 0]) (w3 := w) rfl rfl ?_
      refine sx_RP.step (pc2 := 33) (ls2 := [(0, .ref 0), (1, .ref ga), (2, .ref gb), (3, .int (nI j))]) (st2 := [.ref 0, .ref 0]) (w3 := w) rfl rfl ?_
      refine sx_RP.gf (v := .ref 43) rfl rfl hI.1.o0 rfl rfl (show _ = 36 from rfl) ?_
      refine sx_RP.gg (k := 2) hI gAd.t rfl rfl (by decide) (show _ = 39 from rfl) ?_
      obtain ⟨x6, hx7, ex8⟩ : inR (fi w 43 2) 47 := hI.gk (k := 2) gAd.t (by decide)
      rw [ex8]
      refine sx_RP.step (pc2 := 40) (ls2 := [(0, .ref 0), (1, .ref ga), (2, .ref gb), (3, .int (nI j))]) (st2 := [.int (nI j), .int (nI x6), .ref 0]) (w3 := w) rfl rfl ?_
      obtain ⟨x9, hx10, c11⟩ := p60 hI (show x6 < 48 by omega) (nI j)
      refine sx_RP.cu (as := [.ref 0, .int (nI x6), .int (nI j)]) (rest2 := []) (st3 := [.int (nI x9)]) rfl rfl (sx_inv_v2 (mi := 59) (k := 210) (st := [.int (nI j), .int (nI x6), .ref 0]) (w := w) rfl rfl hI.1.o0 rfl rfl rfl) rfl rfl (c11) rfl ?_
      refine sx_RP.br (p1 := 48) (l1 := [(0, .ref 0), (1, .ref ga), (2, .ref gb), (3, .int (nI j))]) (s1 := []) (v1 := w) (p2 := 46) (l2 := [(0, .ref 0), (1, .ref ga), (2, .ref gb), (3, .int (nI j))]) (s2 := []) (v2 := w) rfl rfl (fun q12 => ?_) (fun q12 => ?_)
      · replace q12 := of_decide_eq_true q12
        replace q12 := (nI_eq (a := x9) (b := 0) (by omega) (by omega)).mp q12
        refine sx_RP.step (pc2 := 49) (ls2 := [(0, .ref 0), (1, .ref ga), (2, .ref gb), (3, .int (nI j))]) (st2 := [.ref 0]) (w3 := w) rfl rfl ?_
        refine sx_RP.gf (v := .ref 1) rfl rfl hI.1.o0 rfl rfl (show _ = 52 from rfl) ?_
        refine sx_RP.step (pc2 := 53) (ls2 := [(0, .ref 0), (1, .ref ga), (2, .ref gb), (3, .int (nI j))]) (st2 := [.ref 0, .ref 1]) (w3 := w) rfl rfl ?_
        refine sx_RP.gf (v := .ref 43) rfl rfl hI.1.o0 rfl rfl (show _ = 56 from rfl) ?_
        refine sx_RP.callp (as2 := [.ref 1, .ref 43]) (rest2 := []) rfl rfl (sx_inv_v2 (mi := 59) (k := 213) (st := [.ref 43, .ref 1]) (w := w) rfl rfl (hI.1.oC (Or.inl rfl)) rfl rfl rfl) rfl rfl rfl (s44 hI (Or.inl rfl) gAd.t) (show _ = 59 from rfl) ?_
        rintro r4 w13 ⟨rfl, hI14, hE16⟩
        have hE15 := hE.tr hE16
        show sx_RP _ _ _ _ _ [] _ _
        refine sx_RP.step (pc2 := 62) (ls2 := [(3, .int ((nI j) + 1)), (0, .ref 0), (1, .ref ga), (2, .ref gb)]) (st2 := []) (w3 := w13) rfl rfl ?_
        rw [nI_1 j]
        refine sx_RP.step (pc2 := 15) (ls2 := [(3, .int (nI (j + 1))), (0, .ref 0), (1, .ref ga), (2, .ref gb)]) (st2 := []) (w3 := w13) rfl rfl ?_
        exact sx_RP.ls (sx_lr.cons rfl (sx_lr.cons rfl (sx_lr.cons rfl (sx_lr.cons rfl sx_lr.nil)))) (kk w13 hI14 hE15 (by omega))
      · replace q12 := of_decide_eq_false q12
        replace q12 := mt (nI_eq (a := x9) (b := 0) (by omega) (by omega)).mpr q12
        refine sx_RP.step (pc2 := 47) (ls2 := [(0, .ref 0), (1, .ref ga), (2, .ref gb), (3, .int (nI j))]) (st2 := [.int (nI j)]) (w3 := w) rfl rfl ?_
        refine sx_RP.ret (r := (some (.int (nI j)))) rfl rfl ?_
        exact ⟨⟨_, rfl⟩, hI, hE⟩
set_option maxRecDepth 20000 in
set_option maxHeartbeats 4000000 in
theorem s59L {xs : Option (List Int32)} {d : Nat} {w0 : List sx_C} {ga gb : Nat} (hg : gAd ga) (hb : gAd gb) : ∀ (fz j : Nat) (w : List sx_C) , 61 ≤ j + fz * 1 → j ≤ 61 → WI w → EC w0 w → sx_RP xs (d + 5) 59 15 [(0, .ref 0), (1, .ref ga), (2, .ref gb), (3, .int (nI j))] [] w (fun r w2 => (∃ v : Int32, r = some (.int v)) ∧ WI w2 ∧ EC w0 w2)
  | 0, j, w, h, hj, hI, hE => s59B hg hb hI hE hj   (fun w4  hI4 hE4 hlt  => absurd hlt (by omega)) 
  | fz + 1, j, w, h, hj, hI, hE => s59B hg hb hI hE hj   (fun w4  hI4 hE4 hlt  => s59L hg hb  fz (j + 1) w4  (by omega) hlt hI4 hE4 ) 
set_option maxRecDepth 20000 in
set_option maxHeartbeats 4000000 in
theorem s59 {xs : Option (List Int32)} {d : Nat} {w : List sx_C} (hI : WI w) {ga gb : Nat} (hg : gAd ga) (hb : gAd gb) : sx_RP xs (d + 5) 59 0 (lv_args 0 [.ref 0, .ref ga, .ref gb]) [] w (fun r w2 => (∃ v : Int32, r = some (.int v)) ∧ WI w2 ∧ EC w w2) := by
  have hE : EC w w := EC.rf
  refine sx_RP.step (pc2 := 1) (ls2 := [(0, .ref 0), (1, .ref ga), (2, .ref gb)]) (st2 := [.ref 0]) (w3 := w) rfl rfl ?_
  refine sx_RP.step (pc2 := 2) (ls2 := [(0, .ref 0), (1, .ref ga), (2, .ref gb)]) (st2 := [.ref ga, .ref 0]) (w3 := w) rfl rfl ?_
  refine sx_RP.callp (as2 := [.ref 0, .ref ga]) (rest2 := []) rfl rfl (sx_inv_v2 (mi := 59) (k := 189) (st := [.ref ga, .ref 0]) (w := w) rfl rfl hI.1.o0 rfl rfl rfl) rfl rfl rfl (s56 hI hg) (show _ = 5 from rfl) ?_
  rintro r4 w1 ⟨rfl, hI2, hE4⟩
  have hE3 := hE.tr hE4
  show sx_RP _ _ _ _ _ [] _ _
  refine sx_RP.step (pc2 := 6) (ls2 := [(0, .ref 0), (1, .ref ga), (2, .ref gb)]) (st2 := [.ref 0]) (w3 := w1) rfl rfl ?_
  refine sx_RP.gf (v := .ref 43) rfl rfl hI2.1.o0 rfl rfl (show _ = 9 from rfl) ?_
  refine sx_RP.step (pc2 := 10) (ls2 := [(0, .ref 0), (1, .ref ga), (2, .ref gb)]) (st2 := [.ref gb, .ref 43]) (w3 := w1) rfl rfl ?_
  refine sx_RP.callp (as2 := [.ref 43, .ref gb]) (rest2 := []) rfl rfl (sx_inv_v2 (mi := 59) (k := 208) (st := [.ref gb, .ref 43]) (w := w1) rfl rfl (hI2.1.oG gAd.t) rfl rfl rfl) rfl rfl rfl (s51 hI2 gAd.t hb) (show _ = 13 from rfl) ?_
  rintro r4 w5 ⟨rfl, hI6, hE8⟩
  have hE7 := hE3.tr hE8
  show sx_RP _ _ _ _ _ [] _ _
  refine sx_RP.step (pc2 := 14) (ls2 := [(0, .ref 0), (1, .ref ga), (2, .ref gb)]) (st2 := [.int 0]) (w3 := w5) rfl rfl ?_
  refine sx_RP.step (pc2 := 15) (ls2 := [(3, .int 0), (0, .ref 0), (1, .ref ga), (2, .ref gb)]) (st2 := []) (w3 := w5) rfl rfl ?_
  exact sx_RP.ls (sx_lr.cons rfl (sx_lr.cons rfl (sx_lr.cons rfl (sx_lr.cons rfl sx_lr.nil)))) (s59L hg hb 61 0 w5  (by omega) (by omega) hI6 hE7 )
set_option maxRecDepth 20000 in
set_option maxHeartbeats 4000000 in
theorem p69 {xs : Option (List Int32)} {d : Nat} {w : List sx_C} (hI : WI w) {k c t : Nat} (hk : k ≤ 5) (hc : c < 48) (ht : t < 48) : ∃ v : Int32, sx_RU xs (d + 2) 69 0 (lv_args 0 [.ref 0, .int (nI k), .int (nI c), .ref (47 + t)]) [] w (some (.int v)) w := by
  have h : sx_RP xs (d + 2) 69 0 (lv_args 0 [.ref 0, .int (nI k), .int (nI c), .ref (47 + t)]) [] w (fun r w2 => (∃ v : Int32, r = some (.int v)) ∧ w2 = w) := by
    refine sx_RP.step (pc2 := 1) (ls2 := [(0, .ref 0), (1, .int (nI k)), (2, .int (nI c)), (3, .ref (47 + t))]) (st2 := [.int 1]) (w3 := w) rfl rfl ?_
    refine sx_RP.step (pc2 := 2) (ls2 := [(0, .ref 0), (1, .int (nI k)), (2, .int (nI c)), (3, .ref (47 + t))]) (st2 := [.ref (47 + t), .int 1]) (w3 := w) rfl rfl ?_
    refine sx_RP.step (pc2 := 3) (ls2 := [(0, .ref 0), (1, .int (nI k)), (2, .int (nI c)), (3, .ref (47 + t))]) (st2 := [.int (nI c), .ref (47 + t), .int 1]) (w3 := w) rfl rfl ?_
    refine sx_RP.ild (c := c) rfl (hI.1.aR (show t < 48 by omega)).1 (hI.1.aR (show t < 48 by omega)).2 (sx_in_nI (show c < 48 by omega) (by decide)) (show (nI c).toNatClampNeg = c from nI_clamp (by omega)) (show _ = 4 from rfl) ?_
    refine sx_RP.step (pc2 := 5) (ls2 := [(0, .ref 0), (1, .int (nI k)), (2, .int (nI c)), (3, .ref (47 + t))]) (st2 := [.int (1 + ((ia w (47 + t)).getD c 0))]) (w3 := w) rfl rfl ?_
    refine sx_RP.step (pc2 := 7) (ls2 := [(4, .int (1 + ((ia w (47 + t)).getD c 0))), (0, .ref 0), (1, .int (nI k)), (2, .int (nI c)), (3, .ref (47 + t))]) (st2 := []) (w3 := w) rfl rfl ?_
    refine sx_RP.step (pc2 := 9) (ls2 := [(4, .int (1 + ((ia w (47 + t)).getD c 0))), (0, .ref 0), (1, .int (nI k)), (2, .int (nI c)), (3, .ref (47 + t))]) (st2 := [.int (1 + ((ia w (47 + t)).getD c 0))]) (w3 := w) rfl rfl ?_
    refine sx_RP.step (pc2 := 10) (ls2 := [(4, .int (1 + ((ia w (47 + t)).getD c 0))), (0, .ref 0), (1, .int (nI k)), (2, .int (nI c)), (3, .ref (47 + t))]) (st2 := [.int 1, .int (1 + ((ia w (47 + t)).getD c 0))]) (w3 := w) rfl rfl ?_
    refine sx_RP.br (p1 := 17) (l1 := [(4, .int (1 + ((ia w (47 + t)).getD c 0))), (0, .ref 0), (1, .int (nI k)), (2, .int (nI c)), (3, .ref (47 + t))]) (s1 := []) (v1 := w) (p2 := 13) (l2 := [(4, .int (1 + ((ia w (47 + t)).getD c 0))), (0, .ref 0), (1, .int (nI k)), (2, .int (nI c)), (3, .ref (47 + t))]) (s2 := []) (v2 := w) rfl rfl (fun q1 => ?_) (fun q1 => ?_)
    · replace q1 := of_decide_eq_true q1
      refine sx_RP.step (pc2 := 18) (ls2 := [(4, .int (1 + ((ia w (47 + t)).getD c 0))), (0, .ref 0), (1, .int (nI k)), (2, .int (nI c)), (3, .ref (47 + t))]) (st2 := [.ref 0]) (w3 := w) rfl rfl ?_
      refine sx_RP.gf (v := .ref 1) rfl rfl hI.1.o0 rfl rfl (show _ = 21 from rfl) ?_
      refine sx_RP.step (pc2 := 22) (ls2 := [(4, .int (1 + ((ia w (47 + t)).getD c 0))), (0, .ref 0), (1, .int (nI k)), (2, .int (nI c)), (3, .ref (47 + t))]) (st2 := [.int (nI k), .ref 1]) (w3 := w) rfl rfl ?_
      refine sx_RP.step (pc2 := 23) (ls2 := [(4, .int (1 + ((ia w (47 + t)).getD c 0))), (0, .ref 0), (1, .int (nI k)), (2, .int (nI c)), (3, .ref (47 + t))]) (st2 := [.int (nI c), .int (nI k), .ref 1]) (w3 := w) rfl rfl ?_
      obtain ⟨v2, c3⟩ := p35 hI (Or.inl rfl) (show k ≤ 5 by omega) (show c < 48 by omega)
      refine sx_RP.cu (as := [.ref 1, .int (nI k), .int (nI c)]) (rest2 := []) (st3 := [.int v2]) rfl rfl (sx_inv_v2 (mi := 69) (k := 157) (st := [.int (nI c), .int (nI k), .ref 1]) (w := w) rfl rfl (hI.1.oC (Or.inl rfl)) rfl rfl rfl) rfl rfl (c3) rfl ?_
      refine sx_RP.step (pc2 := 28) (ls2 := [(4, .int (1 + ((ia w (47 + t)).getD c 0))), (0, .ref 0), (1, .int (nI k)), (2, .int (nI c)), (3, .ref (47 + t))]) (st2 := [.int (1 + ((ia w (47 + t)).getD c 0)), .int v2]) (w3 := w) rfl rfl ?_
      refine sx_RP.idiv (pc2 := 29) rfl (fun z => absurd q1 (by rw [z]; decide)) rfl ?_
      refine sx_RP.ret (r := (some (.int (v2 / (1 + ((ia w (47 + t)).getD c 0)))))) rfl rfl ?_
      exact ⟨⟨_, rfl⟩, rfl⟩
    · replace q1 := of_decide_eq_false q1
      refine sx_RP.step (pc2 := 14) (ls2 := [(4, .int (1 + ((ia w (47 + t)).getD c 0))), (0, .ref 0), (1, .int (nI k)), (2, .int (nI c)), (3, .ref (47 + t))]) (st2 := [.int 0]) (w3 := w) rfl rfl ?_
      refine sx_RP.step (pc2 := 29) (ls2 := [(4, .int (1 + ((ia w (47 + t)).getD c 0))), (0, .ref 0), (1, .int (nI k)), (2, .int (nI c)), (3, .ref (47 + t))]) (st2 := [.int 0]) (w3 := w) rfl rfl ?_
      refine sx_RP.ret (r := (some (.int 0))) rfl rfl ?_
      exact ⟨⟨_, rfl⟩, rfl⟩
  obtain ⟨r, w2, h1, ⟨v, rfl⟩, rfl⟩ := h
  exact ⟨v, h1⟩
set_option maxRecDepth 20000 in
set_option maxHeartbeats 4000000 in
theorem s68B {xs : Option (List Int32)} {d : Nat} {w w0 : List sx_C} {A : Nat} (hA : isA A) {c : Nat} (hc : c < 48) (hI : WI w) (hE : EC w0 w) {j : Nat} (hj : j ≤ 10) (s : Int32) (kk : ∀ (w4 : List sx_C) (us : Int32), WI w4 → EC w0 w4 → j + 1 ≤ 10 → sx_RP xs (d + 4) 68 15 [(0, .ref 0), (1, .ref A), (2, .int (nI c)), (3, .ref (47 + c)), (4, .int us), (5, .int (nI (j + 1)))] [] w4 (fun r w2 => (∃ v : Int32, r = some (.int v)) ∧ WI w2 ∧ EC w0 w2)) : sx_RP xs (d + 4) 68 15 [(0, .ref 0), (1, .ref A), (2, .int (nI c)), (3, .ref (47 + c)), (4, .int s), (5, .int (nI j))] [] w (fun r w2 => (∃ v : Int32, r = some (.int v)) ∧ WI w2 ∧ EC w0 w2) := by
  refine sx_RP.step (pc2 := 17) (ls2 := [(0, .ref 0), (1, .ref A), (2, .int (nI c)), (3, .ref (47 + c)), (4, .int s), (5, .int (nI j))]) (st2 := [.int (nI j)]) (w3 := w) rfl rfl ?_
  refine sx_RP.step (pc2 := 18) (ls2 := [(0, .ref 0), (1, .ref A), (2, .int (nI c)), (3, .ref (47 + c)), (4, .int s), (5, .int (nI j))]) (st2 := [.ref A, .int (nI j)]) (w3 := w) rfl rfl ?_
  refine sx_RP.gc (k := 3) hI hA rfl rfl (by omega) (show _ = 21 from rfl) ?_
  obtain ⟨x1, hx2, ex3⟩ : inR (fi w A 3) 10 := (hI.c hA).1
  rw [ex3]
  refine sx_RP.br (p1 := 68) (l1 := [(0, .ref 0), (1, .ref A), (2, .int (nI c)), (3, .ref (47 + c)), (4, .int s), (5, .int (nI j))]) (s1 := []) (v1 := w) (p2 := 24) (l2 := [(0, .ref 0), (1, .ref A), (2, .int (nI c)), (3, .ref (47 + c)), (4, .int s), (5, .int (nI j))]) (s2 := []) (v2 := w) rfl rfl (fun q4 => ?_) (fun q4 => ?_)
  · replace q4 := of_decide_eq_true q4
    replace q4 := (nI_leI (a := x1) (b := j) (by omega) (by omega)).mp q4
    refine sx_RP.step (pc2 := 70) (ls2 := [(0, .ref 0), (1, .ref A), (2, .int (nI c)), (3, .ref (47 + c)), (4, .int s), (5, .int (nI j))]) (st2 := [.int s]) (w3 := w) rfl rfl ?_
    refine sx_RP.ret (r := (some (.int s))) rfl rfl ?_
    exact ⟨⟨_, rfl⟩, hI, hE⟩
  · replace q4 := of_decide_eq_false q4
    replace q4 := mt (nI_leI (a := x1) (b := j) (by omega) (by omega)).mpr q4
    refine sx_RP.step (pc2 := 25) (ls2 := [(0, .ref 0), (1, .ref A), (2, .int (nI c)), (3, .ref (47 + c)), (4, .int s), (5, .int (nI j))]) (st2 := [.ref A]) (w3 := w) rfl rfl ?_
    refine sx_RP.gref (k := 2) (b := A + 2) hI hA rfl rfl (by omega) (show _ = 28 from rfl) ?_
    refine sx_RP.step (pc2 := 30) (ls2 := [(0, .ref 0), (1, .ref A), (2, .int (nI c)), (3, .ref (47 + c)), (4, .int s), (5, .int (nI j))]) (st2 := [.int (nI j), .ref (A + 2)]) (w3 := w) rfl rfl ?_
    refine sx_RP.ald (v := .ref (A + 4 + j)) rfl (hI.1.aG hA) rfl (grA_at (show j < 10 by omega)) (show _ = 31 from rfl) ?_
    refine sx_RP.step (pc2 := 33) (ls2 := [(6, .ref (A + 4 + j)), (0, .ref 0), (1, .ref A), (2, .int (nI c)), (3, .ref (47 + c)), (4, .int s), (5, .int (nI j))]) (st2 := []) (w3 := w) rfl rfl ?_
    refine sx_RP.step (pc2 := 35) (ls2 := [(6, .ref (A + 4 + j)), (0, .ref 0), (1, .ref A), (2, .int (nI c)), (3, .ref (47 + c)), (4, .int s), (5, .int (nI j))]) (st2 := [.ref (A + 4 + j)]) (w3 := w) rfl rfl ?_
    refine sx_RP.step (pc2 := 36) (ls2 := [(6, .ref (A + 4 + j)), (0, .ref 0), (1, .ref A), (2, .int (nI c)), (3, .ref (47 + c)), (4, .int s), (5, .int (nI j))]) (st2 := [.int 0, .ref (A + 4 + j)]) (w3 := w) rfl rfl ?_
    obtain ⟨x5, hx6, c7⟩ := p43 hI (gAd.of hA (show j < 10 by omega)) 0
    refine sx_RP.cu (as := [.ref (A + 4 + j), .int 0]) (rest2 := []) (st3 := [.int (nI x5)]) rfl rfl (sx_inv_v2 (mi := 68) (k := 186) (st := [.int 0, .ref (A + 4 + j)]) (w := w) rfl rfl (hI.1.oG (gAd.of hA (show j < 10 by omega))) rfl rfl rfl) rfl rfl (c7) rfl ?_
    refine sx_RP.br (p1 := 62) (l1 := [(6, .ref (A + 4 + j)), (0, .ref 0), (1, .ref A), (2, .int (nI c)), (3, .ref (47 + c)), (4, .int s), (5, .int (nI j))]) (s1 := []) (v1 := w) (p2 := 42) (l2 := [(6, .ref (A + 4 + j)), (0, .ref 0), (1, .ref A), (2, .int (nI c)), (3, .ref (47 + c)), (4, .int s), (5, .int (nI j))]) (s2 := []) (v2 := w) rfl rfl (fun q8 => ?_) (fun q8 => ?_)
    · replace q8 := of_decide_eq_true q8
      replace q8 := (nI_eq (a := x5) (b := 0) (by omega) (by omega)).mp q8
      refine sx_RP.step (pc2 := 65) (ls2 := [(5, .int ((nI j) + 1)), (6, .ref (A + 4 + j)), (0, .ref 0), (1, .ref A), (2, .int (nI c)), (3, .ref (47 + c)), (4, .int s)]) (st2 := []) (w3 := w) rfl rfl ?_
      rw [nI_1 j]
      refine sx_RP.step (pc2 := 15) (ls2 := [(5, .int (nI (j + 1))), (6, .ref (A + 4 + j)), (0, .ref 0), (1, .ref A), (2, .int (nI c)), (3, .ref (47 + c)), (4, .int s)]) (st2 := []) (w3 := w) rfl rfl ?_
      exact sx_RP.ls (sx_lr.cons rfl (sx_lr.cons rfl (sx_lr.cons rfl (sx_lr.cons rfl (sx_lr.cons rfl (sx_lr.cons rfl sx_lr.nil)))))) (kk w s hI hE (by omega))
    · replace q8 := of_decide_eq_false q8
      replace q8 := mt (nI_eq (a := x5) (b := 0) (by omega) (by omega)).mpr q8
      refine sx_RP.step (pc2 := 44) (ls2 := [(6, .ref (A + 4 + j)), (0, .ref 0), (1, .ref A), (2, .int (nI c)), (3, .ref (47 + c)), (4, .int s), (5, .int (nI j))]) (st2 := [.int s]) (w3 := w) rfl rfl ?_
      refine sx_RP.step (pc2 := 45) (ls2 := [(6, .ref (A + 4 + j)), (0, .ref 0), (1, .ref A), (2, .int (nI c)), (3, .ref (47 + c)), (4, .int s), (5, .int (nI j))]) (st2 := [.ref 0, .int s]) (w3 := w) rfl rfl ?_
      refine sx_RP.step (pc2 := 47) (ls2 := [(6, .ref (A + 4 + j)), (0, .ref 0), (1, .ref A), (2, .int (nI c)), (3, .ref (47 + c)), (4, .int s), (5, .int (nI j))]) (st2 := [.ref (A + 4 + j), .ref 0, .int s]) (w3 := w) rfl rfl ?_
      refine sx_RP.gg (k := 0) hI (gAd.of hA (show j < 10 by omega)) rfl rfl (by decide) (show _ = 50 from rfl) ?_
      obtain ⟨x9, hx10, ex11⟩ : inR (fi w (A + 4 + j) 0) 5 := hI.gk (k := 0) (gAd.of hA (show j < 10 by omega)) (by decide)
      rw [ex11]
      refine sx_RP.step (pc2 := 52) (ls2 := [(6, .ref (A + 4 + j)), (0, .ref 0), (1, .ref A), (2, .int (nI c)), (3, .ref (47 + c)), (4, .int s), (5, .int (nI j))]) (st2 := [.ref (A + 4 + j), .int (nI x9), .ref 0, .int s]) (w3 := w) rfl rfl ?_
      refine sx_RP.gg (k := 2) hI (gAd.of hA (show j < 10 by omega)) rfl rfl (by decide) (show _ = 55 from rfl) ?_
      obtain ⟨x12, hx13, ex14⟩ : inR (fi w (A + 4 + j) 2) 47 := hI.gk (k := 2) (gAd.of hA (show j < 10 by omega)) (by decide)
      rw [ex14]
      refine sx_RP.step (pc2 := 56) (ls2 := [(6, .ref (A + 4 + j)), (0, .ref 0), (1, .ref A), (2, .int (nI c)), (3, .ref (47 + c)), (4, .int s), (5, .int (nI j))]) (st2 := [.ref (47 + c), .int (nI x12), .int (nI x9), .ref 0, .int s]) (w3 := w) rfl rfl ?_
      obtain ⟨v15, c16⟩ := p69 hI (show x9 ≤ 5 by omega) (show x12 < 48 by omega) (show c < 48 by omega)
      refine sx_RP.cu (as := [.ref 0, .int (nI x9), .int (nI x12), .ref (47 + c)]) (rest2 := [.int s]) (st3 := [.int v15, .int s]) rfl rfl (sx_inv_v2 (mi := 68) (k := 235) (st := [.ref (47 + c), .int (nI x12), .int (nI x9), .ref 0, .int s]) (w := w) rfl rfl hI.1.o0 rfl rfl rfl) rfl rfl (c16) rfl ?_
      refine sx_RP.step (pc2 := 60) (ls2 := [(6, .ref (A + 4 + j)), (0, .ref 0), (1, .ref A), (2, .int (nI c)), (3, .ref (47 + c)), (4, .int s), (5, .int (nI j))]) (st2 := [.int (s + v15)]) (w3 := w) rfl rfl ?_
      refine sx_RP.step (pc2 := 62) (ls2 := [(4, .int (s + v15)), (6, .ref (A + 4 + j)), (0, .ref 0), (1, .ref A), (2, .int (nI c)), (3, .ref (47 + c)), (5, .int (nI j))]) (st2 := []) (w3 := w) rfl rfl ?_
      refine sx_RP.step (pc2 := 65) (ls2 := [(5, .int ((nI j) + 1)), (4, .int (s + v15)), (6, .ref (A + 4 + j)), (0, .ref 0), (1, .ref A), (2, .int (nI c)), (3, .ref (47 + c))]) (st2 := []) (w3 := w) rfl rfl ?_
      rw [nI_1 j]
      refine sx_RP.step (pc2 := 15) (ls2 := [(5, .int (nI (j + 1))), (4, .int (s + v15)), (6, .ref (A + 4 + j)), (0, .ref 0), (1, .ref A), (2, .int (nI c)), (3, .ref (47 + c))]) (st2 := []) (w3 := w) rfl rfl ?_
      exact sx_RP.ls (sx_lr.cons rfl (sx_lr.cons rfl (sx_lr.cons rfl (sx_lr.cons rfl (sx_lr.cons rfl (sx_lr.cons rfl sx_lr.nil)))))) (kk w (s + v15) hI hE (by omega))
set_option maxRecDepth 20000 in
set_option maxHeartbeats 4000000 in
theorem s68L {xs : Option (List Int32)} {d : Nat} {w0 : List sx_C} {A : Nat} (hA : isA A) {c : Nat} (hc : c < 48) : ∀ (fz j : Nat) (w : List sx_C) (s : Int32) , 10 ≤ j + fz * 1 → j ≤ 10 → WI w → EC w0 w → sx_RP xs (d + 4) 68 15 [(0, .ref 0), (1, .ref A), (2, .int (nI c)), (3, .ref (47 + c)), (4, .int s), (5, .int (nI j))] [] w (fun r w2 => (∃ v : Int32, r = some (.int v)) ∧ WI w2 ∧ EC w0 w2)
  | 0, j, w, s, h, hj, hI, hE => s68B hA hc hI hE hj s  (fun w4 us hI4 hE4 hlt  => absurd hlt (by omega)) 
  | fz + 1, j, w, s, h, hj, hI, hE => s68B hA hc hI hE hj s  (fun w4 us hI4 hE4 hlt  => s68L hA hc  fz (j + 1) w4 us (by omega) hlt hI4 hE4 ) 
set_option maxRecDepth 20000 in
set_option maxHeartbeats 4000000 in
theorem s68 {xs : Option (List Int32)} {d : Nat} {w : List sx_C} (hI : WI w) {A : Nat} (hA : isA A) {c : Nat} (hc : c < 48) : sx_RP xs (d + 4) 68 0 (lv_args 0 [.ref 0, .ref A, .int (nI c)]) [] w (fun r w2 => (∃ v : Int32, r = some (.int v)) ∧ WI w2 ∧ EC w w2) := by
  have hE : EC w w := EC.rf
  refine sx_RP.step (pc2 := 1) (ls2 := [(0, .ref 0), (1, .ref A), (2, .int (nI c))]) (st2 := [.ref 0]) (w3 := w) rfl rfl ?_
  refine sx_RP.gf (v := .ref 44) rfl rfl hI.1.o0 rfl rfl (show _ = 4 from rfl) ?_
  refine sx_RP.step (pc2 := 5) (ls2 := [(0, .ref 0), (1, .ref A), (2, .int (nI c))]) (st2 := [.int (nI c), .ref 44]) (w3 := w) rfl rfl ?_
  refine sx_RP.callp (as2 := [.ref 44, .int (nI c)]) (rest2 := []) rfl rfl (sx_inv_v2 (mi := 68) (k := 99) (st := [.int (nI c), .ref 44]) (w := w) rfl rfl hI.1.o44 rfl rfl rfl) rfl rfl rfl (s17 hI (show c < 48 by omega)) (show _ = 8 from rfl) ?_
  rintro r4 w1 ⟨rfl, hI2, hE4⟩
  have hE3 := hE.tr hE4
  show sx_RP _ _ _ _ _ [.ref (47 + c)] _ _
  refine sx_RP.step (pc2 := 9) (ls2 := [(3, .ref (47 + c)), (0, .ref 0), (1, .ref A), (2, .int (nI c))]) (st2 := []) (w3 := w1) rfl rfl ?_
  refine sx_RP.step (pc2 := 10) (ls2 := [(3, .ref (47 + c)), (0, .ref 0), (1, .ref A), (2, .int (nI c))]) (st2 := [.int 0]) (w3 := w1) rfl rfl ?_
  refine sx_RP.step (pc2 := 12) (ls2 := [(4, .int 0), (3, .ref (47 + c)), (0, .ref 0), (1, .ref A), (2, .int (nI c))]) (st2 := []) (w3 := w1) rfl rfl ?_
  refine sx_RP.step (pc2 := 13) (ls2 := [(4, .int 0), (3, .ref (47 + c)), (0, .ref 0), (1, .ref A), (2, .int (nI c))]) (st2 := [.int 0]) (w3 := w1) rfl rfl ?_
  refine sx_RP.step (pc2 := 15) (ls2 := [(5, .int 0), (4, .int 0), (3, .ref (47 + c)), (0, .ref 0), (1, .ref A), (2, .int (nI c))]) (st2 := []) (w3 := w1) rfl rfl ?_
  exact sx_RP.ls (sx_lr.cons rfl (sx_lr.cons rfl (sx_lr.cons rfl (sx_lr.cons rfl (sx_lr.cons rfl (sx_lr.cons rfl sx_lr.nil)))))) (s68L hA hc 10 0 w1 0 (by omega) (by omega) hI2 hE3 )
set_option maxRecDepth 20000 in
set_option maxHeartbeats 4000000 in
theorem s73B {xs : Option (List Int32)} {d : Nat} {w w0 : List sx_C} {k c : Nat} (hk : k ≤ 5) (hc : c < 48) (hI : WI w) (hE : EC w0 w) {j : Nat} (hj : j ≤ 9) (kk : ∀ (w4 : List sx_C), WI w4 → EC w0 w4 → j + 1 ≤ 9 → sx_RP xs (d + 4) 73 2 [(0, .ref 0), (1, .int (nI k)), (2, .int (nI c)), (3, .int (nI (j + 1)))] [] w4 (fun r w2 => (∃ j, j ≤ 1 ∧ r = some (.int (nI j))) ∧ WI w2 ∧ EC w0 w2)) : sx_RP xs (d + 4) 73 2 [(0, .ref 0), (1, .int (nI k)), (2, .int (nI c)), (3, .int (nI j))] [] w (fun r w2 => (∃ j, j ≤ 1 ∧ r = some (.int (nI j))) ∧ WI w2 ∧ EC w0 w2) := by
  refine sx_RP.step (pc2 := 3) (ls2 := [(0, .ref 0), (1, .int (nI k)), (2, .int (nI c)), (3, .int (nI j))]) (st2 := [.int (nI j)]) (w3 := w) rfl rfl ?_
  refine sx_RP.step (pc2 := 4) (ls2 := [(0, .ref 0), (1, .int (nI k)), (2, .int (nI c)), (3, .int (nI j))]) (st2 := [.ref 0, .int (nI j)]) (w3 := w) rfl rfl ?_
  refine sx_RP.gf (v := .ref 1) rfl rfl hI.1.o0 rfl rfl (show _ = 7 from rfl) ?_
  refine sx_RP.gc (k := 5) hI (Or.inl rfl) rfl rfl (by omega) (show _ = 10 from rfl) ?_
  obtain ⟨x1, hx2, ex3⟩ : inR (fi w 1 5) 9 := (hI.c (Or.inl rfl)).2
  rw [ex3]
  refine sx_RP.br (p1 := 52) (l1 := [(0, .ref 0), (1, .int (nI k)), (2, .int (nI c)), (3, .int (nI j))]) (s1 := []) (v1 := w) (p2 := 13) (l2 := [(0, .ref 0), (1, .int (nI k)), (2, .int (nI c)), (3, .int (nI j))]) (s2 := []) (v2 := w) rfl rfl (fun q4 => ?_) (fun q4 => ?_)
  · replace q4 := of_decide_eq_true q4
    replace q4 := (nI_leI (a := x1) (b := j) (by omega) (by omega)).mp q4
    refine sx_RP.step (pc2 := 53) (ls2 := [(0, .ref 0), (1, .int (nI k)), (2, .int (nI c)), (3, .int (nI j))]) (st2 := [.int 1]) (w3 := w) rfl rfl ?_
    refine sx_RP.ret (r := (some (.int 1))) rfl rfl ?_
    exact ⟨⟨1, by decide, rfl⟩, hI, hE⟩
  · replace q4 := of_decide_eq_false q4
    replace q4 := mt (nI_leI (a := x1) (b := j) (by omega) (by omega)).mpr q4
    refine sx_RP.step (pc2 := 14) (ls2 := [(0, .ref 0), (1, .int (nI k)), (2, .int (nI c)), (3, .int (nI j))]) (st2 := [.ref 0]) (w3 := w) rfl rfl ?_
    refine sx_RP.step (pc2 := 15) (ls2 := [(0, .ref 0), (1, .int (nI k)), (2, .int (nI c)), (3, .int (nI j))]) (st2 := [.int (nI k), .ref 0]) (w3 := w) rfl rfl ?_
    refine sx_RP.step (pc2 := 16) (ls2 := [(0, .ref 0), (1, .int (nI k)), (2, .int (nI c)), (3, .int (nI j))]) (st2 := [.int (nI c), .int (nI k), .ref 0]) (w3 := w) rfl rfl ?_
    refine sx_RP.step (pc2 := 17) (ls2 := [(0, .ref 0), (1, .int (nI k)), (2, .int (nI c)), (3, .int (nI j))]) (st2 := [.ref 0, .int (nI c), .int (nI k), .ref 0]) (w3 := w) rfl rfl ?_
    refine sx_RP.gf (v := .ref 44) rfl rfl hI.1.o0 rfl rfl (show _ = 20 from rfl) ?_
    refine sx_RP.step (pc2 := 21) (ls2 := [(0, .ref 0), (1, .int (nI k)), (2, .int (nI c)), (3, .int (nI j))]) (st2 := [.ref 0, .ref 44, .int (nI c), .int (nI k), .ref 0]) (w3 := w) rfl rfl ?_
    refine sx_RP.gf (v := .ref 1) rfl rfl hI.1.o0 rfl rfl (show _ = 24 from rfl) ?_
    refine sx_RP.gref (k := 4) (b := 4) hI (Or.inl rfl) rfl rfl (by omega) (show _ = 27 from rfl) ?_
    refine sx_RP.step (pc2 := 28) (ls2 := [(0, .ref 0), (1, .int (nI k)), (2, .int (nI c)), (3, .int (nI j))]) (st2 := [.int (nI j), .ref 4, .ref 44, .int (nI c), .int (nI k), .ref 0]) (w3 := w) rfl rfl ?_
    refine sx_RP.ild (c := j) rfl (hI.1.aD (Or.inl rfl)).1 (hI.1.aD (Or.inl rfl)).2 (sx_in_nI (show j < 9 by omega) (by decide)) (show (nI j).toNatClampNeg = j from nI_clamp (by omega)) (show _ = 29 from rfl) ?_
    obtain ⟨x5, hx6, ex7⟩ : inR ((ia w 4).getD j 0) 47 := hI.di (Or.inl rfl) (show j < 9 by omega)
    rw [ex7]
    refine sx_RP.callp (as2 := [.ref 44, .int (nI x5)]) (rest2 := [.int (nI c), .int (nI k), .ref 0]) rfl rfl (sx_inv_v2 (mi := 73) (k := 99) (st := [.int (nI x5), .ref 44, .int (nI c), .int (nI k), .ref 0]) (w := w) rfl rfl hI.1.o44 rfl rfl rfl) rfl rfl rfl (s17 hI (show x5 < 48 by omega)) (show _ = 32 from rfl) ?_
    rintro r4 w8 ⟨rfl, hI9, hE11⟩
    have hE10 := hE.tr hE11
    show sx_RP _ _ _ _ _ [.ref (47 + x5), .int (nI c), .int (nI k), .ref 0] _ _
    obtain ⟨v12, c13⟩ := p69 hI9 (show k ≤ 5 by omega) (show c < 48 by omega) (show x5 < 48 by omega)
    refine sx_RP.cu (as := [.ref 0, .int (nI k), .int (nI c), .ref (47 + x5)]) (rest2 := []) (st3 := [.int v12]) rfl rfl (sx_inv_v2 (mi := 73) (k := 235) (st := [.ref (47 + x5), .int (nI c), .int (nI k), .ref 0]) (w := w8) rfl rfl hI9.1.o0 rfl rfl rfl) rfl rfl (c13) rfl ?_
    refine sx_RP.step (pc2 := 36) (ls2 := [(0, .ref 0), (1, .int (nI k)), (2, .int (nI c)), (3, .int (nI j))]) (st2 := [.ref 0, .int v12]) (w3 := w8) rfl rfl ?_
    refine sx_RP.gf (v := .ref 102) rfl rfl hI9.1.o0 rfl rfl (show _ = 39 from rfl) ?_
    refine sx_RP.step (pc2 := 40) (ls2 := [(0, .ref 0), (1, .int (nI k)), (2, .int (nI c)), (3, .int (nI j))]) (st2 := [.int (nI j), .ref 102, .int v12]) (w3 := w8) rfl rfl ?_
    refine sx_RP.ild (c := j) rfl hI9.1.a102.1 hI9.1.a102.2 (sx_in_nI (show j < 9 by omega) (by decide)) (show (nI j).toNatClampNeg = j from nI_clamp (by omega)) (show _ = 41 from rfl) ?_
    refine sx_RP.br (p1 := 46) (l1 := [(0, .ref 0), (1, .int (nI k)), (2, .int (nI c)), (3, .int (nI j))]) (s1 := []) (v1 := w8) (p2 := 44) (l2 := [(0, .ref 0), (1, .int (nI k)), (2, .int (nI c)), (3, .int (nI j))]) (s2 := []) (v2 := w8) rfl rfl (fun q14 => ?_) (fun q14 => ?_)
    · replace q14 := of_decide_eq_true q14
      refine sx_RP.step (pc2 := 49) (ls2 := [(3, .int ((nI j) + 1)), (0, .ref 0), (1, .int (nI k)), (2, .int (nI c))]) (st2 := []) (w3 := w8) rfl rfl ?_
      rw [nI_1 j]
      refine sx_RP.step (pc2 := 2) (ls2 := [(3, .int (nI (j + 1))), (0, .ref 0), (1, .int (nI k)), (2, .int (nI c))]) (st2 := []) (w3 := w8) rfl rfl ?_
      exact sx_RP.ls (sx_lr.cons rfl (sx_lr.cons rfl (sx_lr.cons rfl (sx_lr.cons rfl sx_lr.nil)))) (kk w8 hI9 hE10 (by omega))
    · replace q14 := of_decide_eq_false q14
      refine sx_RP.step (pc2 := 45) (ls2 := [(0, .ref 0), (1, .int (nI k)), (2, .int (nI c)), (3, .int (nI j))]) (st2 := [.int 0]) (w3 := w8) rfl rfl ?_
      refine sx_RP.ret (r := (some (.int 0))) rfl rfl ?_
      exact ⟨⟨0, by decide, rfl⟩, hI9, hE10⟩
set_option maxRecDepth 20000 in
set_option maxHeartbeats 4000000 in
theorem s73L {xs : Option (List Int32)} {d : Nat} {w0 : List sx_C} {k c : Nat} (hk : k ≤ 5) (hc : c < 48) : ∀ (fz j : Nat) (w : List sx_C) , 9 ≤ j + fz * 1 → j ≤ 9 → WI w → EC w0 w → sx_RP xs (d + 4) 73 2 [(0, .ref 0), (1, .int (nI k)), (2, .int (nI c)), (3, .int (nI j))] [] w (fun r w2 => (∃ j, j ≤ 1 ∧ r = some (.int (nI j))) ∧ WI w2 ∧ EC w0 w2)
  | 0, j, w, h, hj, hI, hE => s73B hk hc hI hE hj   (fun w4  hI4 hE4 hlt  => absurd hlt (by omega)) 
  | fz + 1, j, w, h, hj, hI, hE => s73B hk hc hI hE hj   (fun w4  hI4 hE4 hlt  => s73L hk hc  fz (j + 1) w4  (by omega) hlt hI4 hE4 ) 
set_option maxRecDepth 20000 in
set_option maxHeartbeats 4000000 in
theorem s73 {xs : Option (List Int32)} {d : Nat} {w : List sx_C} (hI : WI w) {k c : Nat} (hk : k ≤ 5) (hc : c < 48) : sx_RP xs (d + 4) 73 0 (lv_args 0 [.ref 0, .int (nI k), .int (nI c)]) [] w (fun r w2 => (∃ j, j ≤ 1 ∧ r = some (.int (nI j))) ∧ WI w2 ∧ EC w w2) := by
  have hE : EC w w := EC.rf
  refine sx_RP.step (pc2 := 1) (ls2 := [(0, .ref 0), (1, .int (nI k)), (2, .int (nI c))]) (st2 := [.int 0]) (w3 := w) rfl rfl ?_
  refine sx_RP.step (pc2 := 2) (ls2 := [(3, .int 0), (0, .ref 0), (1, .int (nI k)), (2, .int (nI c))]) (st2 := []) (w3 := w) rfl rfl ?_
  exact sx_RP.ls (sx_lr.cons rfl (sx_lr.cons rfl (sx_lr.cons rfl (sx_lr.cons rfl sx_lr.nil)))) (s73L hk hc 9 0 w  (by omega) (by omega) hI hE )
end
-- 48z.tests.lean.txt
section
theorem in_casesM (x : Int32) {n : Nat} (hn : n < 2 ^ 31) : ¬ ((-1) ≤ x ∧ x ≤ nI n) ∨ x = -1 ∨ ∃ j, j ≤ n ∧ x = nI j := by
  by_cases h : (-1) ≤ x ∧ x ≤ nI n
  · right
    by_cases h1 : x = -1
    · exact Or.inl h1
    · right
      have a1 := Int32.le_iff_toInt_le.mp h.1
      have e1 : (-1 : Int32).toInt = -1 := rfl
      have e0 : (0 : Int32).toInt = 0 := rfl
      have h2 : ¬ x.toInt = -1 := fun z => h1 (Int32.toInt_inj.mp (by rw [z, e1]))
      obtain ⟨j, hj, rfl⟩ := nI_of2 (M := nI n) (n := n) (x := x) (nI_toInt hn) (fun z => by
        have h3 := Int32.lt_iff_toInt_lt.mp z
        omega) h.2
      exact ⟨j, hj, rfl⟩
  · exact Or.inl h
theorem in_casesS (x : Int32) {n : Nat} (hn : n < 2 ^ 31) : ¬ (0 ≤ x ∧ x ≤ nI n - 1) ∨ ((0 ≤ x ∧ x ≤ nI n - 1) ∧ ∃ j, j < n ∧ x = nI j) := by
  by_cases h : 0 ≤ x ∧ x ≤ nI n - 1
  · right
    refine ⟨h, ?_⟩
    have h0 : ¬ x < 0 := Int32.not_lt.mpr h.1
    obtain ⟨j, hj, rfl⟩ := nI_of h0
    refine ⟨j, ?_, rfl⟩
    have a1 := Int32.le_iff_toInt_le.mp h.2
    rw [nI_toInt hj] at a1
    cases n with
    | zero =>
      have e : (nI 0 - 1 : Int32).toInt = -1 := by decide
      omega
    | succ n =>
      rw [nI_pred, nI_toInt (by omega)] at a1
      omega
  · exact Or.inl h
theorem lay_rng {v : Int64} (q1 : ¬ lg_cmp v 0 < 0) (q2 : ¬ 0 < lg_cmp v 3) : inR v.toInt32 3 := by
  have h1 : ¬ v < 0 := by
    intro z
    apply q1
    have a1 := Int64.lt_iff_toInt_lt.mp z
    have z0 : (0 : Int64).toInt = 0 := rfl
    have a : ¬ 0 < v := fun y => by
      have := Int64.lt_iff_toInt_lt.mp y
      omega
    have b : ¬ v = 0 := fun y => by
      rw [y, z0] at a1
      omega
    unfold lg_cmp
    rw [if_neg a, if_neg b]
    decide
  have h2 : ¬ 3 < v := by
    intro z
    apply q2
    unfold lg_cmp
    rw [if_pos z]
    decide
  rw [Int64.lt_iff_toInt_lt] at h1 h2
  have e0 : (0 : Int64).toInt = 0 := rfl
  have e3 : (3 : Int64).toInt = 3 := rfl
  rw [e0] at h1
  rw [e3] at h2
  rcases (show v.toInt = 0 ∨ v.toInt = 1 ∨ v.toInt = 2 ∨ v.toInt = 3 by omega) with h | h | h | h
  · have : v = 0 := Int64.toInt_inj.mp h
    subst this
    exact ⟨0, by decide, rfl⟩
  · have : v = 1 := Int64.toInt_inj.mp h
    subst this
    exact ⟨1, by decide, rfl⟩
  · have : v = 2 := Int64.toInt_inj.mp h
    subst this
    exact ⟨2, by decide, rfl⟩
  · have : v = 3 := Int64.toInt_inj.mp h
    subst this
    exact ⟨3, by decide, rfl⟩
end
-- 49.placesC.lean.txt
section
-- safety: places, sheets
set_option maxRecDepth 20000 in
set_option maxHeartbeats 4000000 in
theorem s72bB {xs : Option (List Int32)} {d : Nat} {w w0 : List sx_C} {k : Nat} (hk : k ≤ 5) (hI : WI w) (hE : EC w0 w) {j : Nat} (hj : j ≤ 48) (l : Int64) (kk : ∀ (w4 : List sx_C) (ul : Int64), WI w4 → EC w0 w4 → j + 1 ≤ 48 → sx_RP xs (d + 5) 72 47 [(0, .ref 0), (1, .int (nI k)), (2, .long ul), (4, .int (nI (j + 1)))] [] w4 (fun r w2 => (∃ v : Int64, r = some (.long v)) ∧ WI w2 ∧ EC w0 w2)) : sx_RP xs (d + 5) 72 47 [(0, .ref 0), (1, .int (nI k)), (2, .long l), (4, .int (nI j))] [] w (fun r w2 => (∃ v : Int64, r = some (.long v)) ∧ WI w2 ∧ EC w0 w2) := by
  refine sx_RP.step (pc2 := 49) (ls2 := [(0, .ref 0), (1, .int (nI k)), (2, .long l), (4, .int (nI j))]) (st2 := [.int (nI j)]) (w3 := w) rfl rfl ?_
  refine sx_RP.step (pc2 := 51) (ls2 := [(0, .ref 0), (1, .int (nI k)), (2, .long l), (4, .int (nI j))]) (st2 := [.int 48, .int (nI j)]) (w3 := w) rfl rfl ?_
  refine sx_RP.br (p1 := 77) (l1 := [(0, .ref 0), (1, .int (nI k)), (2, .long l), (4, .int (nI j))]) (s1 := []) (v1 := w) (p2 := 54) (l2 := [(0, .ref 0), (1, .int (nI k)), (2, .long l), (4, .int (nI j))]) (s2 := []) (v2 := w) rfl rfl (fun q1 => ?_) (fun q1 => ?_)
  · replace q1 := of_decide_eq_true q1
    replace q1 := (nI_leI (a := 48) (b := j) (by omega) (by omega)).mp q1
    refine sx_RP.step (pc2 := 78) (ls2 := [(0, .ref 0), (1, .int (nI k)), (2, .long l), (4, .int (nI j))]) (st2 := [.long l]) (w3 := w) rfl rfl ?_
    refine sx_RP.ret (r := (some (.long l))) rfl rfl ?_
    exact ⟨⟨_, rfl⟩, hI, hE⟩
  · replace q1 := of_decide_eq_false q1
    replace q1 := mt (nI_leI (a := 48) (b := j) (by omega) (by omega)).mpr q1
    refine sx_RP.step (pc2 := 55) (ls2 := [(0, .ref 0), (1, .int (nI k)), (2, .long l), (4, .int (nI j))]) (st2 := [.ref 0]) (w3 := w) rfl rfl ?_
    refine sx_RP.step (pc2 := 56) (ls2 := [(0, .ref 0), (1, .int (nI k)), (2, .long l), (4, .int (nI j))]) (st2 := [.int (nI k), .ref 0]) (w3 := w) rfl rfl ?_
    refine sx_RP.step (pc2 := 58) (ls2 := [(0, .ref 0), (1, .int (nI k)), (2, .long l), (4, .int (nI j))]) (st2 := [.int (nI j), .int (nI k), .ref 0]) (w3 := w) rfl rfl ?_
    refine sx_RP.callp (as2 := [.ref 0, .int (nI k), .int (nI j)]) (rest2 := []) rfl rfl (sx_inv_v2 (mi := 72) (k := 250) (st := [.int (nI j), .int (nI k), .ref 0]) (w := w) rfl rfl hI.1.o0 rfl rfl rfl) rfl rfl rfl (s73 hI (show k ≤ 5 by omega) (show j < 48 by omega)) (show _ = 61 from rfl) ?_
    rintro r4 w4 ⟨⟨x2, hx3, rfl⟩, hI5, hE7⟩
    have hE6 := hE.tr hE7
    show sx_RP _ _ _ _ _ [.int (nI x2)] _ _
    refine sx_RP.br (p1 := 71) (l1 := [(0, .ref 0), (1, .int (nI k)), (2, .long l), (4, .int (nI j))]) (s1 := []) (v1 := w4) (p2 := 64) (l2 := [(0, .ref 0), (1, .int (nI k)), (2, .long l), (4, .int (nI j))]) (s2 := []) (v2 := w4) rfl rfl (fun q8 => ?_) (fun q8 => ?_)
    · replace q8 := of_decide_eq_true q8
      replace q8 := (nI_eq (a := x2) (b := 0) (by omega) (by omega)).mp q8
      refine sx_RP.step (pc2 := 74) (ls2 := [(4, .int ((nI j) + 1)), (0, .ref 0), (1, .int (nI k)), (2, .long l)]) (st2 := []) (w3 := w4) rfl rfl ?_
      rw [nI_1 j]
      refine sx_RP.step (pc2 := 47) (ls2 := [(4, .int (nI (j + 1))), (0, .ref 0), (1, .int (nI k)), (2, .long l)]) (st2 := []) (w3 := w4) rfl rfl ?_
      exact sx_RP.ls (sx_lr.cons rfl (sx_lr.cons rfl (sx_lr.cons rfl (sx_lr.cons rfl sx_lr.nil)))) (kk w4 l hI5 hE6 (by omega))
    · replace q8 := of_decide_eq_false q8
      replace q8 := mt (nI_eq (a := x2) (b := 0) (by omega) (by omega)).mpr q8
      refine sx_RP.step (pc2 := 65) (ls2 := [(0, .ref 0), (1, .int (nI k)), (2, .long l), (4, .int (nI j))]) (st2 := [.long l]) (w3 := w4) rfl rfl ?_
      refine sx_RP.step (pc2 := 66) (ls2 := [(0, .ref 0), (1, .int (nI k)), (2, .long l), (4, .int (nI j))]) (st2 := [.long 1, .long l]) (w3 := w4) rfl rfl ?_
      refine sx_RP.step (pc2 := 68) (ls2 := [(0, .ref 0), (1, .int (nI k)), (2, .long l), (4, .int (nI j))]) (st2 := [.int (nI j), .long 1, .long l]) (w3 := w4) rfl rfl ?_
      refine sx_RP.step (pc2 := 69) (ls2 := [(0, .ref 0), (1, .int (nI k)), (2, .long l), (4, .int (nI j))]) (st2 := [.long ((1 : Int64) <<< ((nI j).toInt64 &&& 63)), .long l]) (w3 := w4) rfl rfl ?_
      refine sx_RP.step (pc2 := 70) (ls2 := [(0, .ref 0), (1, .int (nI k)), (2, .long l), (4, .int (nI j))]) (st2 := [.long (l ||| ((1 : Int64) <<< ((nI j).toInt64 &&& 63)))]) (w3 := w4) rfl rfl ?_
      refine sx_RP.step (pc2 := 71) (ls2 := [(2, .long (l ||| ((1 : Int64) <<< ((nI j).toInt64 &&& 63)))), (0, .ref 0), (1, .int (nI k)), (4, .int (nI j))]) (st2 := []) (w3 := w4) rfl rfl ?_
      refine sx_RP.step (pc2 := 74) (ls2 := [(4, .int ((nI j) + 1)), (2, .long (l ||| ((1 : Int64) <<< ((nI j).toInt64 &&& 63)))), (0, .ref 0), (1, .int (nI k))]) (st2 := []) (w3 := w4) rfl rfl ?_
      rw [nI_1 j]
      refine sx_RP.step (pc2 := 47) (ls2 := [(4, .int (nI (j + 1))), (2, .long (l ||| ((1 : Int64) <<< ((nI j).toInt64 &&& 63)))), (0, .ref 0), (1, .int (nI k))]) (st2 := []) (w3 := w4) rfl rfl ?_
      exact sx_RP.ls (sx_lr.cons rfl (sx_lr.cons rfl (sx_lr.cons rfl (sx_lr.cons rfl sx_lr.nil)))) (kk w4 (l ||| ((1 : Int64) <<< ((nI j).toInt64 &&& 63))) hI5 hE6 (by omega))
set_option maxRecDepth 20000 in
set_option maxHeartbeats 4000000 in
theorem s72bL {xs : Option (List Int32)} {d : Nat} {w0 : List sx_C} {k : Nat} (hk : k ≤ 5) : ∀ (fz j : Nat) (w : List sx_C) (l : Int64) , 48 ≤ j + fz * 1 → j ≤ 48 → WI w → EC w0 w → sx_RP xs (d + 5) 72 47 [(0, .ref 0), (1, .int (nI k)), (2, .long l), (4, .int (nI j))] [] w (fun r w2 => (∃ v : Int64, r = some (.long v)) ∧ WI w2 ∧ EC w0 w2)
  | 0, j, w, l, h, hj, hI, hE => s72bB hk hI hE hj l  (fun w4 ul hI4 hE4 hlt  => absurd hlt (by omega)) 
  | fz + 1, j, w, l, h, hj, hI, hE => s72bB hk hI hE hj l  (fun w4 ul hI4 hE4 hlt  => s72bL hk  fz (j + 1) w4 ul (by omega) hlt hI4 hE4 ) 
set_option maxRecDepth 20000 in
set_option maxHeartbeats 4000000 in
theorem s72aB {xs : Option (List Int32)} {d : Nat} {w w0 : List sx_C} {k : Nat} (hk : k ≤ 5) (hI : WI w) (hE : EC w0 w) {j : Nat} (hj : j ≤ 9) (kk : ∀ (w4 : List sx_C), WI w4 → EC w0 w4 → j + 1 ≤ 9 → sx_RP xs (d + 5) 72 2 [(0, .ref 0), (1, .int (nI k)), (2, .int (nI (j + 1)))] [] w4 (fun r w2 => (∃ v : Int64, r = some (.long v)) ∧ WI w2 ∧ EC w0 w2)) (kx42 : ∀ (w4 : List sx_C), WI w4 → EC w0 w4 → sx_RP xs (d + 5) 72 42 [(0, .ref 0), (1, .int (nI k))] [] w4 (fun r w2 => (∃ v : Int64, r = some (.long v)) ∧ WI w2 ∧ EC w0 w2)) : sx_RP xs (d + 5) 72 2 [(0, .ref 0), (1, .int (nI k)), (2, .int (nI j))] [] w (fun r w2 => (∃ v : Int64, r = some (.long v)) ∧ WI w2 ∧ EC w0 w2) := by
  refine sx_RP.step (pc2 := 3) (ls2 := [(0, .ref 0), (1, .int (nI k)), (2, .int (nI j))]) (st2 := [.int (nI j)]) (w3 := w) rfl rfl ?_
  refine sx_RP.step (pc2 := 4) (ls2 := [(0, .ref 0), (1, .int (nI k)), (2, .int (nI j))]) (st2 := [.ref 0, .int (nI j)]) (w3 := w) rfl rfl ?_
  refine sx_RP.gf (v := .ref 1) rfl rfl hI.1.o0 rfl rfl (show _ = 7 from rfl) ?_
  refine sx_RP.gc (k := 5) hI (Or.inl rfl) rfl rfl (by omega) (show _ = 10 from rfl) ?_
  obtain ⟨x1, hx2, ex3⟩ : inR (fi w 1 5) 9 := (hI.c (Or.inl rfl)).2
  rw [ex3]
  refine sx_RP.br (p1 := 42) (l1 := [(0, .ref 0), (1, .int (nI k)), (2, .int (nI j))]) (s1 := []) (v1 := w) (p2 := 13) (l2 := [(0, .ref 0), (1, .int (nI k)), (2, .int (nI j))]) (s2 := []) (v2 := w) rfl rfl (fun q4 => ?_) (fun q4 => ?_)
  · replace q4 := of_decide_eq_true q4
    replace q4 := (nI_leI (a := x1) (b := j) (by omega) (by omega)).mp q4
    exact sx_RP.ls (sx_lr.cons rfl (sx_lr.cons rfl sx_lr.nil)) (kx42 w hI hE)
  · replace q4 := of_decide_eq_false q4
    replace q4 := mt (nI_leI (a := x1) (b := j) (by omega) (by omega)).mpr q4
    refine sx_RP.step (pc2 := 14) (ls2 := [(0, .ref 0), (1, .int (nI k)), (2, .int (nI j))]) (st2 := [.ref 0]) (w3 := w) rfl rfl ?_
    refine sx_RP.gf (v := .ref 102) rfl rfl hI.1.o0 rfl rfl (show _ = 17 from rfl) ?_
    refine sx_RP.step (pc2 := 18) (ls2 := [(0, .ref 0), (1, .int (nI k)), (2, .int (nI j))]) (st2 := [.int (nI j), .ref 102]) (w3 := w) rfl rfl ?_
    refine sx_RP.step (pc2 := 19) (ls2 := [(0, .ref 0), (1, .int (nI k)), (2, .int (nI j))]) (st2 := [.ref 0, .int (nI j), .ref 102]) (w3 := w) rfl rfl ?_
    refine sx_RP.step (pc2 := 20) (ls2 := [(0, .ref 0), (1, .int (nI k)), (2, .int (nI j))]) (st2 := [.ref 0, .ref 0, .int (nI j), .ref 102]) (w3 := w) rfl rfl ?_
    refine sx_RP.gf (v := .ref 1) rfl rfl hI.1.o0 rfl rfl (show _ = 23 from rfl) ?_
    refine sx_RP.step (pc2 := 24) (ls2 := [(0, .ref 0), (1, .int (nI k)), (2, .int (nI j))]) (st2 := [.ref 0, .ref 1, .ref 0, .int (nI j), .ref 102]) (w3 := w) rfl rfl ?_
    refine sx_RP.gf (v := .ref 1) rfl rfl hI.1.o0 rfl rfl (show _ = 27 from rfl) ?_
    refine sx_RP.gref (k := 4) (b := 4) hI (Or.inl rfl) rfl rfl (by omega) (show _ = 30 from rfl) ?_
    refine sx_RP.step (pc2 := 31) (ls2 := [(0, .ref 0), (1, .int (nI k)), (2, .int (nI j))]) (st2 := [.int (nI j), .ref 4, .ref 1, .ref 0, .int (nI j), .ref 102]) (w3 := w) rfl rfl ?_
    refine sx_RP.ild (c := j) rfl (hI.1.aD (Or.inl rfl)).1 (hI.1.aD (Or.inl rfl)).2 (sx_in_nI (show j < 9 by omega) (by decide)) (show (nI j).toNatClampNeg = j from nI_clamp (by omega)) (show _ = 32 from rfl) ?_
    obtain ⟨x5, hx6, ex7⟩ : inR ((ia w 4).getD j 0) 47 := hI.di (Or.inl rfl) (show j < 9 by omega)
    rw [ex7]
    refine sx_RP.callp (as2 := [.ref 0, .ref 1, .int (nI x5)]) (rest2 := [.int (nI j), .ref 102]) rfl rfl (sx_inv_v2 (mi := 72) (k := 231) (st := [.int (nI x5), .ref 1, .ref 0, .int (nI j), .ref 102]) (w := w) rfl rfl hI.1.o0 rfl rfl rfl) rfl rfl rfl (s68 hI (Or.inl rfl) (show x5 < 48 by omega)) (show _ = 35 from rfl) ?_
    rintro r4 w9 ⟨⟨v8, rfl⟩, hI10, hE12⟩
    have hE11 := hE.tr hE12
    show sx_RP _ _ _ _ _ [.int v8, .int (nI j), .ref 102] _ _
    refine sx_RP.stF hI10 hE11 rfl hI10.1.a102 (sx_in_nI (show j < 9 by omega) (by decide)) (by omega) (show _ = 36 from rfl) (fun w13 hI14 hE15 => ?_)
    refine sx_RP.step (pc2 := 39) (ls2 := [(2, .int ((nI j) + 1)), (0, .ref 0), (1, .int (nI k))]) (st2 := []) (w3 := w13) rfl rfl ?_
    rw [nI_1 j]
    refine sx_RP.step (pc2 := 2) (ls2 := [(2, .int (nI (j + 1))), (0, .ref 0), (1, .int (nI k))]) (st2 := []) (w3 := w13) rfl rfl ?_
    exact sx_RP.ls (sx_lr.cons rfl (sx_lr.cons rfl (sx_lr.cons rfl sx_lr.nil))) (kk w13 hI14 hE15 (by omega))
set_option maxRecDepth 20000 in
set_option maxHeartbeats 4000000 in
theorem s72aL {xs : Option (List Int32)} {d : Nat} {w0 : List sx_C} {k : Nat} (hk : k ≤ 5) (kx42 : ∀ (w4 : List sx_C), WI w4 → EC w0 w4 → sx_RP xs (d + 5) 72 42 [(0, .ref 0), (1, .int (nI k))] [] w4 (fun r w2 => (∃ v : Int64, r = some (.long v)) ∧ WI w2 ∧ EC w0 w2)) : ∀ (fz j : Nat) (w : List sx_C) , 9 ≤ j + fz * 1 → j ≤ 9 → WI w → EC w0 w → sx_RP xs (d + 5) 72 2 [(0, .ref 0), (1, .int (nI k)), (2, .int (nI j))] [] w (fun r w2 => (∃ v : Int64, r = some (.long v)) ∧ WI w2 ∧ EC w0 w2)
  | 0, j, w, h, hj, hI, hE => s72aB hk hI hE hj   (fun w4  hI4 hE4 hlt  => absurd hlt (by omega)) kx42
  | fz + 1, j, w, h, hj, hI, hE => s72aB hk hI hE hj   (fun w4  hI4 hE4 hlt  => s72aL hk kx42 fz (j + 1) w4  (by omega) hlt hI4 hE4 ) kx42
set_option maxRecDepth 20000 in
set_option maxHeartbeats 4000000 in
theorem s72 {xs : Option (List Int32)} {d : Nat} {w : List sx_C} (hI : WI w) {k : Nat} (hk : k ≤ 5) : sx_RP xs (d + 5) 72 0 (lv_args 0 [.ref 0, .int (nI k)]) [] w (fun r w2 => (∃ v : Int64, r = some (.long v)) ∧ WI w2 ∧ EC w w2) := by
  have hE : EC w w := EC.rf
  refine sx_RP.step (pc2 := 1) (ls2 := [(0, .ref 0), (1, .int (nI k))]) (st2 := [.int 0]) (w3 := w) rfl rfl ?_
  refine sx_RP.step (pc2 := 2) (ls2 := [(2, .int 0), (0, .ref 0), (1, .int (nI k))]) (st2 := []) (w3 := w) rfl rfl ?_
  refine sx_RP.ls (sx_lr.cons rfl (sx_lr.cons rfl (sx_lr.cons rfl sx_lr.nil))) (s72aL hk (fun w1 hI2 hE3 => ?_) 9 0 w  (by omega) (by omega) hI hE )
  refine sx_RP.step (pc2 := 43) (ls2 := [(0, .ref 0), (1, .int (nI k))]) (st2 := [.long 0]) (w3 := w1) rfl rfl ?_
  refine sx_RP.step (pc2 := 44) (ls2 := [(2, .long 0), (0, .ref 0), (1, .int (nI k))]) (st2 := []) (w3 := w1) rfl rfl ?_
  refine sx_RP.step (pc2 := 45) (ls2 := [(2, .long 0), (0, .ref 0), (1, .int (nI k))]) (st2 := [.int 0]) (w3 := w1) rfl rfl ?_
  refine sx_RP.step (pc2 := 47) (ls2 := [(4, .int 0), (2, .long 0), (0, .ref 0), (1, .int (nI k))]) (st2 := []) (w3 := w1) rfl rfl ?_
  exact sx_RP.ls (sx_lr.cons rfl (sx_lr.cons rfl (sx_lr.cons rfl (sx_lr.cons rfl sx_lr.nil)))) (s72bL hk 48 0 w1 0 (by omega) (by omega) hI2 hE3 )
set_option maxRecDepth 20000 in
set_option maxHeartbeats 4000000 in
theorem s75B {xs : Option (List Int32)} {d : Nat} {w w0 : List sx_C} {k c : Nat} (l : Int64) (p : Int32) (hk : k ≤ 5) (hc : c < 48) (hI : WI w) (hE : EC w0 w) {j : Nat} (hj : j ≤ 48) (n : Int32) (kk : ∀ (w4 : List sx_C) (un : Int32), WI w4 → EC w0 w4 → j + 1 ≤ 48 → sx_RP xs (d + 5) 75 29 [(0, .ref 0), (1, .int (nI k)), (2, .long l), (4, .int (nI c)), (5, .int p), (6, .ref (47 + c)), (7, .int un), (8, .int (nI (j + 1)))] [] w4 (fun r w2 => (∃ v : Int32, r = some (.int v)) ∧ WI w2 ∧ EC w0 w2)) : sx_RP xs (d + 5) 75 29 [(0, .ref 0), (1, .int (nI k)), (2, .long l), (4, .int (nI c)), (5, .int p), (6, .ref (47 + c)), (7, .int n), (8, .int (nI j))] [] w (fun r w2 => (∃ v : Int32, r = some (.int v)) ∧ WI w2 ∧ EC w0 w2) := by
  refine sx_RP.step (pc2 := 31) (ls2 := [(0, .ref 0), (1, .int (nI k)), (2, .long l), (4, .int (nI c)), (5, .int p), (6, .ref (47 + c)), (7, .int n), (8, .int (nI j))]) (st2 := [.int (nI j)]) (w3 := w) rfl rfl ?_
  refine sx_RP.step (pc2 := 33) (ls2 := [(0, .ref 0), (1, .int (nI k)), (2, .long l), (4, .int (nI c)), (5, .int p), (6, .ref (47 + c)), (7, .int n), (8, .int (nI j))]) (st2 := [.int 48, .int (nI j)]) (w3 := w) rfl rfl ?_
  refine sx_RP.br (p1 := 70) (l1 := [(0, .ref 0), (1, .int (nI k)), (2, .long l), (4, .int (nI c)), (5, .int p), (6, .ref (47 + c)), (7, .int n), (8, .int (nI j))]) (s1 := []) (v1 := w) (p2 := 36) (l2 := [(0, .ref 0), (1, .int (nI k)), (2, .long l), (4, .int (nI c)), (5, .int p), (6, .ref (47 + c)), (7, .int n), (8, .int (nI j))]) (s2 := []) (v2 := w) rfl rfl (fun q1 => ?_) (fun q1 => ?_)
  · replace q1 := of_decide_eq_true q1
    replace q1 := (nI_leI (a := 48) (b := j) (by omega) (by omega)).mp q1
    refine sx_RP.step (pc2 := 72) (ls2 := [(0, .ref 0), (1, .int (nI k)), (2, .long l), (4, .int (nI c)), (5, .int p), (6, .ref (47 + c)), (7, .int n), (8, .int (nI j))]) (st2 := [.int n]) (w3 := w) rfl rfl ?_
    refine sx_RP.ret (r := (some (.int n))) rfl rfl ?_
    exact ⟨⟨_, rfl⟩, hI, hE⟩
  · replace q1 := of_decide_eq_false q1
    replace q1 := mt (nI_leI (a := 48) (b := j) (by omega) (by omega)).mpr q1
    refine sx_RP.step (pc2 := 37) (ls2 := [(0, .ref 0), (1, .int (nI k)), (2, .long l), (4, .int (nI c)), (5, .int p), (6, .ref (47 + c)), (7, .int n), (8, .int (nI j))]) (st2 := [.long l]) (w3 := w) rfl rfl ?_
    refine sx_RP.step (pc2 := 39) (ls2 := [(0, .ref 0), (1, .int (nI k)), (2, .long l), (4, .int (nI c)), (5, .int p), (6, .ref (47 + c)), (7, .int n), (8, .int (nI j))]) (st2 := [.int (nI j), .long l]) (w3 := w) rfl rfl ?_
    refine sx_RP.step (pc2 := 40) (ls2 := [(0, .ref 0), (1, .int (nI k)), (2, .long l), (4, .int (nI c)), (5, .int p), (6, .ref (47 + c)), (7, .int n), (8, .int (nI j))]) (st2 := [.long ((l.toUInt64 >>> ((nI j).toInt64.toUInt64 &&& Int64.toUInt64 63)).toInt64)]) (w3 := w) rfl rfl ?_
    refine sx_RP.step (pc2 := 41) (ls2 := [(0, .ref 0), (1, .int (nI k)), (2, .long l), (4, .int (nI c)), (5, .int p), (6, .ref (47 + c)), (7, .int n), (8, .int (nI j))]) (st2 := [.long 1, .long ((l.toUInt64 >>> ((nI j).toInt64.toUInt64 &&& Int64.toUInt64 63)).toInt64)]) (w3 := w) rfl rfl ?_
    refine sx_RP.step (pc2 := 42) (ls2 := [(0, .ref 0), (1, .int (nI k)), (2, .long l), (4, .int (nI c)), (5, .int p), (6, .ref (47 + c)), (7, .int n), (8, .int (nI j))]) (st2 := [.long (((l.toUInt64 >>> ((nI j).toInt64.toUInt64 &&& Int64.toUInt64 63)).toInt64) &&& 1)]) (w3 := w) rfl rfl ?_
    refine sx_RP.step (pc2 := 43) (ls2 := [(0, .ref 0), (1, .int (nI k)), (2, .long l), (4, .int (nI c)), (5, .int p), (6, .ref (47 + c)), (7, .int n), (8, .int (nI j))]) (st2 := [.long 1, .long (((l.toUInt64 >>> ((nI j).toInt64.toUInt64 &&& Int64.toUInt64 63)).toInt64) &&& 1)]) (w3 := w) rfl rfl ?_
    refine sx_RP.step (pc2 := 44) (ls2 := [(0, .ref 0), (1, .int (nI k)), (2, .long l), (4, .int (nI c)), (5, .int p), (6, .ref (47 + c)), (7, .int n), (8, .int (nI j))]) (st2 := [.int (lg_cmp (((l.toUInt64 >>> ((nI j).toInt64.toUInt64 &&& Int64.toUInt64 63)).toInt64) &&& 1) 1)]) (w3 := w) rfl rfl ?_
    refine sx_RP.br (p1 := 64) (l1 := [(0, .ref 0), (1, .int (nI k)), (2, .long l), (4, .int (nI c)), (5, .int p), (6, .ref (47 + c)), (7, .int n), (8, .int (nI j))]) (s1 := []) (v1 := w) (p2 := 47) (l2 := [(0, .ref 0), (1, .int (nI k)), (2, .long l), (4, .int (nI c)), (5, .int p), (6, .ref (47 + c)), (7, .int n), (8, .int (nI j))]) (s2 := []) (v2 := w) rfl rfl (fun q2 => ?_) (fun q2 => ?_)
    · replace q2 := of_decide_eq_true q2
      refine sx_RP.step (pc2 := 67) (ls2 := [(8, .int ((nI j) + 1)), (0, .ref 0), (1, .int (nI k)), (2, .long l), (4, .int (nI c)), (5, .int p), (6, .ref (47 + c)), (7, .int n)]) (st2 := []) (w3 := w) rfl rfl ?_
      rw [nI_1 j]
      refine sx_RP.step (pc2 := 29) (ls2 := [(8, .int (nI (j + 1))), (0, .ref 0), (1, .int (nI k)), (2, .long l), (4, .int (nI c)), (5, .int p), (6, .ref (47 + c)), (7, .int n)]) (st2 := []) (w3 := w) rfl rfl ?_
      exact sx_RP.ls (sx_lr.cons rfl (sx_lr.cons rfl (sx_lr.cons rfl (sx_lr.cons rfl (sx_lr.cons rfl (sx_lr.cons rfl (sx_lr.cons rfl (sx_lr.cons rfl sx_lr.nil)))))))) (kk w n hI hE (by omega))
    · replace q2 := Decidable.not_not.mp (of_decide_eq_false q2)
      refine sx_RP.step (pc2 := 48) (ls2 := [(0, .ref 0), (1, .int (nI k)), (2, .long l), (4, .int (nI c)), (5, .int p), (6, .ref (47 + c)), (7, .int n), (8, .int (nI j))]) (st2 := [.ref 0]) (w3 := w) rfl rfl ?_
      refine sx_RP.step (pc2 := 49) (ls2 := [(0, .ref 0), (1, .int (nI k)), (2, .long l), (4, .int (nI c)), (5, .int p), (6, .ref (47 + c)), (7, .int n), (8, .int (nI j))]) (st2 := [.int (nI k), .ref 0]) (w3 := w) rfl rfl ?_
      refine sx_RP.step (pc2 := 51) (ls2 := [(0, .ref 0), (1, .int (nI k)), (2, .long l), (4, .int (nI c)), (5, .int p), (6, .ref (47 + c)), (7, .int n), (8, .int (nI j))]) (st2 := [.int (nI j), .int (nI k), .ref 0]) (w3 := w) rfl rfl ?_
      refine sx_RP.step (pc2 := 53) (ls2 := [(0, .ref 0), (1, .int (nI k)), (2, .long l), (4, .int (nI c)), (5, .int p), (6, .ref (47 + c)), (7, .int n), (8, .int (nI j))]) (st2 := [.ref (47 + c), .int (nI j), .int (nI k), .ref 0]) (w3 := w) rfl rfl ?_
      obtain ⟨v3, c4⟩ := p69 hI (show k ≤ 5 by omega) (show j < 48 by omega) (show c < 48 by omega)
      refine sx_RP.cu (as := [.ref 0, .int (nI k), .int (nI j), .ref (47 + c)]) (rest2 := []) (st3 := [.int v3]) rfl rfl (sx_inv_v2 (mi := 75) (k := 235) (st := [.ref (47 + c), .int (nI j), .int (nI k), .ref 0]) (w := w) rfl rfl hI.1.o0 rfl rfl rfl) rfl rfl (c4) rfl ?_
      refine sx_RP.step (pc2 := 58) (ls2 := [(0, .ref 0), (1, .int (nI k)), (2, .long l), (4, .int (nI c)), (5, .int p), (6, .ref (47 + c)), (7, .int n), (8, .int (nI j))]) (st2 := [.int p, .int v3]) (w3 := w) rfl rfl ?_
      refine sx_RP.br (p1 := 64) (l1 := [(0, .ref 0), (1, .int (nI k)), (2, .long l), (4, .int (nI c)), (5, .int p), (6, .ref (47 + c)), (7, .int n), (8, .int (nI j))]) (s1 := []) (v1 := w) (p2 := 61) (l2 := [(0, .ref 0), (1, .int (nI k)), (2, .long l), (4, .int (nI c)), (5, .int p), (6, .ref (47 + c)), (7, .int n), (8, .int (nI j))]) (s2 := []) (v2 := w) rfl rfl (fun q5 => ?_) (fun q5 => ?_)
      · replace q5 := of_decide_eq_true q5
        refine sx_RP.step (pc2 := 67) (ls2 := [(8, .int ((nI j) + 1)), (0, .ref 0), (1, .int (nI k)), (2, .long l), (4, .int (nI c)), (5, .int p), (6, .ref (47 + c)), (7, .int n)]) (st2 := []) (w3 := w) rfl rfl ?_
        rw [nI_1 j]
        refine sx_RP.step (pc2 := 29) (ls2 := [(8, .int (nI (j + 1))), (0, .ref 0), (1, .int (nI k)), (2, .long l), (4, .int (nI c)), (5, .int p), (6, .ref (47 + c)), (7, .int n)]) (st2 := []) (w3 := w) rfl rfl ?_
        exact sx_RP.ls (sx_lr.cons rfl (sx_lr.cons rfl (sx_lr.cons rfl (sx_lr.cons rfl (sx_lr.cons rfl (sx_lr.cons rfl (sx_lr.cons rfl (sx_lr.cons rfl sx_lr.nil)))))))) (kk w n hI hE (by omega))
      · replace q5 := Decidable.not_not.mp (of_decide_eq_false q5)
        refine sx_RP.step (pc2 := 64) (ls2 := [(7, .int (n + 1)), (0, .ref 0), (1, .int (nI k)), (2, .long l), (4, .int (nI c)), (5, .int p), (6, .ref (47 + c)), (8, .int (nI j))]) (st2 := []) (w3 := w) rfl rfl ?_
        refine sx_RP.step (pc2 := 67) (ls2 := [(8, .int ((nI j) + 1)), (7, .int (n + 1)), (0, .ref 0), (1, .int (nI k)), (2, .long l), (4, .int (nI c)), (5, .int p), (6, .ref (47 + c))]) (st2 := []) (w3 := w) rfl rfl ?_
        rw [nI_1 j]
        refine sx_RP.step (pc2 := 29) (ls2 := [(8, .int (nI (j + 1))), (7, .int (n + 1)), (0, .ref 0), (1, .int (nI k)), (2, .long l), (4, .int (nI c)), (5, .int p), (6, .ref (47 + c))]) (st2 := []) (w3 := w) rfl rfl ?_
        exact sx_RP.ls (sx_lr.cons rfl (sx_lr.cons rfl (sx_lr.cons rfl (sx_lr.cons rfl (sx_lr.cons rfl (sx_lr.cons rfl (sx_lr.cons rfl (sx_lr.cons rfl sx_lr.nil)))))))) (kk w (n + 1) hI hE (by omega))
set_option maxRecDepth 20000 in
set_option maxHeartbeats 4000000 in
theorem s75L {xs : Option (List Int32)} {d : Nat} {w0 : List sx_C} {k c : Nat} (l : Int64) (p : Int32) (hk : k ≤ 5) (hc : c < 48) : ∀ (fz j : Nat) (w : List sx_C) (n : Int32) , 48 ≤ j + fz * 1 → j ≤ 48 → WI w → EC w0 w → sx_RP xs (d + 5) 75 29 [(0, .ref 0), (1, .int (nI k)), (2, .long l), (4, .int (nI c)), (5, .int p), (6, .ref (47 + c)), (7, .int n), (8, .int (nI j))] [] w (fun r w2 => (∃ v : Int32, r = some (.int v)) ∧ WI w2 ∧ EC w0 w2)
  | 0, j, w, n, h, hj, hI, hE => s75B l p hk hc hI hE hj n  (fun w4 un hI4 hE4 hlt  => absurd hlt (by omega)) 
  | fz + 1, j, w, n, h, hj, hI, hE => s75B l p hk hc hI hE hj n  (fun w4 un hI4 hE4 hlt  => s75L l p hk hc  fz (j + 1) w4 un (by omega) hlt hI4 hE4 ) 
set_option maxRecDepth 20000 in
set_option maxHeartbeats 4000000 in
theorem s75 {xs : Option (List Int32)} {d : Nat} {w : List sx_C} (hI : WI w) {k c : Nat} (l : Int64) (hk : k ≤ 5) (hc : c < 48) : sx_RP xs (d + 5) 75 0 (lv_args 0 [.ref 0, .int (nI k), .long l, .int (nI c)]) [] w (fun r w2 => (∃ v : Int32, r = some (.int v)) ∧ WI w2 ∧ EC w w2) := by
  have hE : EC w w := EC.rf
  refine sx_RP.step (pc2 := 1) (ls2 := [(0, .ref 0), (1, .int (nI k)), (2, .long l), (4, .int (nI c))]) (st2 := [.ref 0]) (w3 := w) rfl rfl ?_
  refine sx_RP.step (pc2 := 2) (ls2 := [(0, .ref 0), (1, .int (nI k)), (2, .long l), (4, .int (nI c))]) (st2 := [.ref 0, .ref 0]) (w3 := w) rfl rfl ?_
  refine sx_RP.gf (v := .ref 1) rfl rfl hI.1.o0 rfl rfl (show _ = 5 from rfl) ?_
  refine sx_RP.step (pc2 := 7) (ls2 := [(0, .ref 0), (1, .int (nI k)), (2, .long l), (4, .int (nI c))]) (st2 := [.int (nI c), .ref 1, .ref 0]) (w3 := w) rfl rfl ?_
  refine sx_RP.callp (as2 := [.ref 0, .ref 1, .int (nI c)]) (rest2 := []) rfl rfl (sx_inv_v2 (mi := 75) (k := 231) (st := [.int (nI c), .ref 1, .ref 0]) (w := w) rfl rfl hI.1.o0 rfl rfl rfl) rfl rfl rfl (s68 hI (Or.inl rfl) (show c < 48 by omega)) (show _ = 10 from rfl) ?_
  rintro r4 w2 ⟨⟨v1, rfl⟩, hI3, hE5⟩
  have hE4 := hE.tr hE5
  show sx_RP _ _ _ _ _ [.int v1] _ _
  refine sx_RP.step (pc2 := 12) (ls2 := [(5, .int v1), (0, .ref 0), (1, .int (nI k)), (2, .long l), (4, .int (nI c))]) (st2 := []) (w3 := w2) rfl rfl ?_
  refine sx_RP.step (pc2 := 13) (ls2 := [(5, .int v1), (0, .ref 0), (1, .int (nI k)), (2, .long l), (4, .int (nI c))]) (st2 := [.ref 0]) (w3 := w2) rfl rfl ?_
  refine sx_RP.gf (v := .ref 44) rfl rfl hI3.1.o0 rfl rfl (show _ = 16 from rfl) ?_
  refine sx_RP.step (pc2 := 18) (ls2 := [(5, .int v1), (0, .ref 0), (1, .int (nI k)), (2, .long l), (4, .int (nI c))]) (st2 := [.int (nI c), .ref 44]) (w3 := w2) rfl rfl ?_
  refine sx_RP.callp (as2 := [.ref 44, .int (nI c)]) (rest2 := []) rfl rfl (sx_inv_v2 (mi := 75) (k := 99) (st := [.int (nI c), .ref 44]) (w := w2) rfl rfl hI3.1.o44 rfl rfl rfl) rfl rfl rfl (s17 hI3 (show c < 48 by omega)) (show _ = 21 from rfl) ?_
  rintro r4 w6 ⟨rfl, hI7, hE9⟩
  have hE8 := hE4.tr hE9
  show sx_RP _ _ _ _ _ [.ref (47 + c)] _ _
  refine sx_RP.step (pc2 := 23) (ls2 := [(6, .ref (47 + c)), (5, .int v1), (0, .ref 0), (1, .int (nI k)), (2, .long l), (4, .int (nI c))]) (st2 := []) (w3 := w6) rfl rfl ?_
  refine sx_RP.step (pc2 := 24) (ls2 := [(6, .ref (47 + c)), (5, .int v1), (0, .ref 0), (1, .int (nI k)), (2, .long l), (4, .int (nI c))]) (st2 := [.int 0]) (w3 := w6) rfl rfl ?_
  refine sx_RP.step (pc2 := 26) (ls2 := [(7, .int 0), (6, .ref (47 + c)), (5, .int v1), (0, .ref 0), (1, .int (nI k)), (2, .long l), (4, .int (nI c))]) (st2 := []) (w3 := w6) rfl rfl ?_
  refine sx_RP.step (pc2 := 27) (ls2 := [(7, .int 0), (6, .ref (47 + c)), (5, .int v1), (0, .ref 0), (1, .int (nI k)), (2, .long l), (4, .int (nI c))]) (st2 := [.int 0]) (w3 := w6) rfl rfl ?_
  refine sx_RP.step (pc2 := 29) (ls2 := [(8, .int 0), (7, .int 0), (6, .ref (47 + c)), (5, .int v1), (0, .ref 0), (1, .int (nI k)), (2, .long l), (4, .int (nI c))]) (st2 := []) (w3 := w6) rfl rfl ?_
  exact sx_RP.ls (sx_lr.cons rfl (sx_lr.cons rfl (sx_lr.cons rfl (sx_lr.cons rfl (sx_lr.cons rfl (sx_lr.cons rfl (sx_lr.cons rfl (sx_lr.cons rfl sx_lr.nil)))))))) (s75L l v1 hk hc 48 0 w6 _ (by omega) (by omega) hI7 hE8)
set_option maxRecDepth 20000 in
set_option maxHeartbeats 4000000 in
theorem p116 {xs : Option (List Int32)} {d : Nat} {w : List sx_C} (hI : WI w) {s : Nat} (hs : s < 4) : ∃ j, j ≤ 1 ∧ sx_RU xs d 116 0 (lv_args 0 [.ref (103 + 2 * s)]) [] w (some (.int (nI j))) w := by
  have h : sx_RP xs d 116 0 (lv_args 0 [.ref (103 + 2 * s)]) [] w (fun r w2 => (∃ j, j ≤ 1 ∧ r = some (.int (nI j))) ∧ w2 = w) := by
    refine sx_RP.step (pc2 := 1) (ls2 := [(0, .ref (103 + 2 * s))]) (st2 := [.ref (103 + 2 * s)]) (w3 := w) rfl rfl ?_
    refine sx_RP.gf (v := .int (fi w (103 + 2 * s) 1)) rfl rfl (hI.1.oS (show s < 4 by omega)) rfl rfl (show _ = 4 from rfl) ?_
    refine sx_RP.br (p1 := 11) (l1 := [(0, .ref (103 + 2 * s))]) (s1 := []) (v1 := w) (p2 := 7) (l2 := [(0, .ref (103 + 2 * s))]) (s2 := []) (v2 := w) rfl rfl (fun q1 => ?_) (fun q1 => ?_)
    · replace q1 := of_decide_eq_true q1
      refine sx_RP.step (pc2 := 12) (ls2 := [(0, .ref (103 + 2 * s))]) (st2 := [.int 0]) (w3 := w) rfl rfl ?_
      refine sx_RP.ret (r := (some (.int 0))) rfl rfl ?_
      exact ⟨⟨0, by decide, rfl⟩, rfl⟩
    · replace q1 := Decidable.not_not.mp (of_decide_eq_false q1)
      refine sx_RP.step (pc2 := 8) (ls2 := [(0, .ref (103 + 2 * s))]) (st2 := [.int 1]) (w3 := w) rfl rfl ?_
      refine sx_RP.step (pc2 := 12) (ls2 := [(0, .ref (103 + 2 * s))]) (st2 := [.int 1]) (w3 := w) rfl rfl ?_
      refine sx_RP.ret (r := (some (.int 1))) rfl rfl ?_
      exact ⟨⟨1, by decide, rfl⟩, rfl⟩
  obtain ⟨r, w2, h1, ⟨j, hj, rfl⟩, rfl⟩ := h
  exact ⟨j, hj, h1⟩
set_option maxRecDepth 20000 in
set_option maxHeartbeats 4000000 in
theorem s117 {xs : Option (List Int32)} {d : Nat} {w : List sx_C} (hI : WI w) {s i : Nat} (hs : s < 4) (hi : i < 40) (v : Int64) : sx_RP xs d 117 0 (lv_args 0 [.ref (103 + 2 * s), .int (nI i), .long v]) [] w (fun r w2 => (r = none) ∧ WI w2 ∧ EC w w2) := by
  have hE : EC w w := EC.rf
  refine sx_RP.step (pc2 := 1) (ls2 := [(0, .ref (103 + 2 * s)), (1, .int (nI i)), (2, .long v)]) (st2 := [.ref (103 + 2 * s)]) (w3 := w) rfl rfl ?_
  refine sx_RP.gf (v := .ref (104 + 2 * s)) rfl rfl (hI.1.oS (show s < 4 by omega)) rfl rfl (show _ = 4 from rfl) ?_
  refine sx_RP.step (pc2 := 5) (ls2 := [(0, .ref (103 + 2 * s)), (1, .int (nI i)), (2, .long v)]) (st2 := [.int (nI i), .ref (104 + 2 * s)]) (w3 := w) rfl rfl ?_
  refine sx_RP.step (pc2 := 6) (ls2 := [(0, .ref (103 + 2 * s)), (1, .int (nI i)), (2, .long v)]) (st2 := [.ref (103 + 2 * s), .int (nI i), .ref (104 + 2 * s)]) (w3 := w) rfl rfl ?_
  refine sx_RP.gf (v := .int (fi w (103 + 2 * s) 1)) rfl rfl (hI.1.oS (show s < 4 by omega)) rfl rfl (show _ = 9 from rfl) ?_
  refine sx_RP.step (pc2 := 11) (ls2 := [(0, .ref (103 + 2 * s)), (1, .int (nI i)), (2, .long v)]) (st2 := [.int 8, .int (fi w (103 + 2 * s) 1), .int (nI i), .ref (104 + 2 * s)]) (w3 := w) rfl rfl ?_
  refine sx_RP.br (p1 := 21) (l1 := [(0, .ref (103 + 2 * s)), (1, .int (nI i)), (2, .long v)]) (s1 := [.int (nI i), .ref (104 + 2 * s)]) (v1 := w) (p2 := 14) (l2 := [(0, .ref (103 + 2 * s)), (1, .int (nI i)), (2, .long v)]) (s2 := [.int (nI i), .ref (104 + 2 * s)]) (v2 := w) rfl rfl (fun q1 => ?_) (fun q1 => ?_)
  · replace q1 := of_decide_eq_true q1
    refine sx_RP.step (pc2 := 22) (ls2 := [(0, .ref (103 + 2 * s)), (1, .int (nI i)), (2, .long v)]) (st2 := [.ref (103 + 2 * s), .int (nI i), .ref (104 + 2 * s)]) (w3 := w) rfl rfl ?_
    refine sx_RP.gf (v := .int (fi w (103 + 2 * s) 1)) rfl rfl (hI.1.oS (show s < 4 by omega)) rfl rfl (show _ = 25 from rfl) ?_
    refine sx_RP.step (pc2 := 27) (ls2 := [(0, .ref (103 + 2 * s)), (1, .int (nI i)), (2, .long v)]) (st2 := [.int 16, .int (fi w (103 + 2 * s) 1), .int (nI i), .ref (104 + 2 * s)]) (w3 := w) rfl rfl ?_
    refine sx_RP.br (p1 := 37) (l1 := [(0, .ref (103 + 2 * s)), (1, .int (nI i)), (2, .long v)]) (s1 := [.int (nI i), .ref (104 + 2 * s)]) (v1 := w) (p2 := 30) (l2 := [(0, .ref (103 + 2 * s)), (1, .int (nI i)), (2, .long v)]) (s2 := [.int (nI i), .ref (104 + 2 * s)]) (v2 := w) rfl rfl (fun q2 => ?_) (fun q2 => ?_)
    · replace q2 := of_decide_eq_true q2
      refine sx_RP.step (pc2 := 38) (ls2 := [(0, .ref (103 + 2 * s)), (1, .int (nI i)), (2, .long v)]) (st2 := [.long v, .int (nI i), .ref (104 + 2 * s)]) (w3 := w) rfl rfl ?_
      refine sx_RP.stN hI hE rfl (hI.1.aN (show s < 4 by omega)) (sx_in_nI (show i < 40 by omega) (by decide)) (by omega) (show _ = 39 from rfl) (fun w3 hI4 hE5 => ?_)
      refine sx_RP.ret (r := none) rfl rfl ?_
      exact ⟨rfl, hI4, hE5⟩
    · replace q2 := Decidable.not_not.mp (of_decide_eq_false q2)
      refine sx_RP.step (pc2 := 31) (ls2 := [(0, .ref (103 + 2 * s)), (1, .int (nI i)), (2, .long v)]) (st2 := [.long v, .int (nI i), .ref (104 + 2 * s)]) (w3 := w) rfl rfl ?_
      refine sx_RP.step (pc2 := 32) (ls2 := [(0, .ref (103 + 2 * s)), (1, .int (nI i)), (2, .long v)]) (st2 := [.int v.toInt32, .int (nI i), .ref (104 + 2 * s)]) (w3 := w) rfl rfl ?_
      refine sx_RP.step (pc2 := 33) (ls2 := [(0, .ref (103 + 2 * s)), (1, .int (nI i)), (2, .long v)]) (st2 := [.int v.toInt32.toInt16.toInt32, .int (nI i), .ref (104 + 2 * s)]) (w3 := w) rfl rfl ?_
      refine sx_RP.step (pc2 := 34) (ls2 := [(0, .ref (103 + 2 * s)), (1, .int (nI i)), (2, .long v)]) (st2 := [.long v.toInt32.toInt16.toInt32.toInt64, .int (nI i), .ref (104 + 2 * s)]) (w3 := w) rfl rfl ?_
      refine sx_RP.step (pc2 := 38) (ls2 := [(0, .ref (103 + 2 * s)), (1, .int (nI i)), (2, .long v)]) (st2 := [.long v.toInt32.toInt16.toInt32.toInt64, .int (nI i), .ref (104 + 2 * s)]) (w3 := w) rfl rfl ?_
      refine sx_RP.stN hI hE rfl (hI.1.aN (show s < 4 by omega)) (sx_in_nI (show i < 40 by omega) (by decide)) (by omega) (show _ = 39 from rfl) (fun w6 hI7 hE8 => ?_)
      refine sx_RP.ret (r := none) rfl rfl ?_
      exact ⟨rfl, hI7, hE8⟩
  · replace q1 := Decidable.not_not.mp (of_decide_eq_false q1)
    refine sx_RP.step (pc2 := 15) (ls2 := [(0, .ref (103 + 2 * s)), (1, .int (nI i)), (2, .long v)]) (st2 := [.long v, .int (nI i), .ref (104 + 2 * s)]) (w3 := w) rfl rfl ?_
    refine sx_RP.step (pc2 := 16) (ls2 := [(0, .ref (103 + 2 * s)), (1, .int (nI i)), (2, .long v)]) (st2 := [.int v.toInt32, .int (nI i), .ref (104 + 2 * s)]) (w3 := w) rfl rfl ?_
    refine sx_RP.step (pc2 := 17) (ls2 := [(0, .ref (103 + 2 * s)), (1, .int (nI i)), (2, .long v)]) (st2 := [.int v.toInt32.toInt8.toInt32, .int (nI i), .ref (104 + 2 * s)]) (w3 := w) rfl rfl ?_
    refine sx_RP.step (pc2 := 18) (ls2 := [(0, .ref (103 + 2 * s)), (1, .int (nI i)), (2, .long v)]) (st2 := [.long v.toInt32.toInt8.toInt32.toInt64, .int (nI i), .ref (104 + 2 * s)]) (w3 := w) rfl rfl ?_
    refine sx_RP.step (pc2 := 38) (ls2 := [(0, .ref (103 + 2 * s)), (1, .int (nI i)), (2, .long v)]) (st2 := [.long v.toInt32.toInt8.toInt32.toInt64, .int (nI i), .ref (104 + 2 * s)]) (w3 := w) rfl rfl ?_
    refine sx_RP.stN hI hE rfl (hI.1.aN (show s < 4 by omega)) (sx_in_nI (show i < 40 by omega) (by decide)) (by omega) (show _ = 39 from rfl) (fun w9 hI10 hE11 => ?_)
    refine sx_RP.ret (r := none) rfl rfl ?_
    exact ⟨rfl, hI10, hE11⟩
set_option maxRecDepth 20000 in
set_option maxHeartbeats 4000000 in
theorem p113 {xs : Option (List Int32)} {d : Nat} {w : List sx_C} (hI : WI w) (x : Int32) : ∃ j, j ≤ 1 ∧ sx_RU xs d 113 0 (lv_args 0 [.int x]) [] w (some (.int (nI j))) w := by
  have h : sx_RP xs d 113 0 (lv_args 0 [.int x]) [] w (fun r w2 => (∃ j, j ≤ 1 ∧ r = some (.int (nI j))) ∧ w2 = w) := by
    refine sx_RP.step (pc2 := 1) (ls2 := [(0, .int x)]) (st2 := [.int x]) (w3 := w) rfl rfl ?_
    refine sx_RP.step (pc2 := 3) (ls2 := [(0, .int x)]) (st2 := [.int 8, .int x]) (w3 := w) rfl rfl ?_
    refine sx_RP.br (p1 := 18) (l1 := [(0, .int x)]) (s1 := []) (v1 := w) (p2 := 6) (l2 := [(0, .int x)]) (s2 := []) (v2 := w) rfl rfl (fun q1 => ?_) (fun q1 => ?_)
    · replace q1 := of_decide_eq_true q1
      refine sx_RP.step (pc2 := 19) (ls2 := [(0, .int x)]) (st2 := [.int 1]) (w3 := w) rfl rfl ?_
      refine sx_RP.step (pc2 := 23) (ls2 := [(0, .int x)]) (st2 := [.int 1]) (w3 := w) rfl rfl ?_
      refine sx_RP.ret (r := (some (.int 1))) rfl rfl ?_
      exact ⟨⟨1, by decide, rfl⟩, rfl⟩
    · replace q1 := of_decide_eq_false q1
      refine sx_RP.step (pc2 := 7) (ls2 := [(0, .int x)]) (st2 := [.int x]) (w3 := w) rfl rfl ?_
      refine sx_RP.step (pc2 := 9) (ls2 := [(0, .int x)]) (st2 := [.int 16, .int x]) (w3 := w) rfl rfl ?_
      refine sx_RP.br (p1 := 18) (l1 := [(0, .int x)]) (s1 := []) (v1 := w) (p2 := 12) (l2 := [(0, .int x)]) (s2 := []) (v2 := w) rfl rfl (fun q2 => ?_) (fun q2 => ?_)
      · replace q2 := of_decide_eq_true q2
        refine sx_RP.step (pc2 := 19) (ls2 := [(0, .int x)]) (st2 := [.int 1]) (w3 := w) rfl rfl ?_
        refine sx_RP.step (pc2 := 23) (ls2 := [(0, .int x)]) (st2 := [.int 1]) (w3 := w) rfl rfl ?_
        refine sx_RP.ret (r := (some (.int 1))) rfl rfl ?_
        exact ⟨⟨1, by decide, rfl⟩, rfl⟩
      · replace q2 := of_decide_eq_false q2
        refine sx_RP.step (pc2 := 13) (ls2 := [(0, .int x)]) (st2 := [.int x]) (w3 := w) rfl rfl ?_
        refine sx_RP.step (pc2 := 15) (ls2 := [(0, .int x)]) (st2 := [.int 64, .int x]) (w3 := w) rfl rfl ?_
        refine sx_RP.br (p1 := 22) (l1 := [(0, .int x)]) (s1 := []) (v1 := w) (p2 := 18) (l2 := [(0, .int x)]) (s2 := []) (v2 := w) rfl rfl (fun q3 => ?_) (fun q3 => ?_)
        · replace q3 := of_decide_eq_true q3
          refine sx_RP.step (pc2 := 23) (ls2 := [(0, .int x)]) (st2 := [.int 0]) (w3 := w) rfl rfl ?_
          refine sx_RP.ret (r := (some (.int 0))) rfl rfl ?_
          exact ⟨⟨0, by decide, rfl⟩, rfl⟩
        · replace q3 := Decidable.not_not.mp (of_decide_eq_false q3)
          refine sx_RP.step (pc2 := 19) (ls2 := [(0, .int x)]) (st2 := [.int 1]) (w3 := w) rfl rfl ?_
          refine sx_RP.step (pc2 := 23) (ls2 := [(0, .int x)]) (st2 := [.int 1]) (w3 := w) rfl rfl ?_
          refine sx_RP.ret (r := (some (.int 1))) rfl rfl ?_
          exact ⟨⟨1, by decide, rfl⟩, rfl⟩
  obtain ⟨r, w2, h1, ⟨j, hj, rfl⟩, rfl⟩ := h
  exact ⟨j, hj, h1⟩
set_option maxRecDepth 20000 in
set_option maxHeartbeats 4000000 in
theorem s123B {xs : Option (List Int32)} {d : Nat} {w w0 : List sx_C} {A : Nat} (hA : isA A) {s n : Nat} (hs : s < 4) (hn : n ≤ 9) (hI : WI w) (hE : EC w0 w) {j : Nat} (hj : j ≤ 9) (kk : ∀ (w4 : List sx_C), WI w4 → EC w0 w4 → j + 1 ≤ 9 → sx_RP xs (d + 5) 123 15 [(0, .ref 0), (1, .ref A), (2, .ref (103 + 2 * s)), (3, .int (nI n)), (4, .int (nI (j + 1)))] [] w4 (fun r w2 => (∃ j, j ≤ 1 ∧ r = some (.int (nI j))) ∧ WI w2 ∧ EC w0 w2)) : sx_RP xs (d + 5) 123 15 [(0, .ref 0), (1, .ref A), (2, .ref (103 + 2 * s)), (3, .int (nI n)), (4, .int (nI j))] [] w (fun r w2 => (∃ j, j ≤ 1 ∧ r = some (.int (nI j))) ∧ WI w2 ∧ EC w0 w2) := by
  refine sx_RP.step (pc2 := 17) (ls2 := [(0, .ref 0), (1, .ref A), (2, .ref (103 + 2 * s)), (3, .int (nI n)), (4, .int (nI j))]) (st2 := [.int (nI j)]) (w3 := w) rfl rfl ?_
  refine sx_RP.step (pc2 := 18) (ls2 := [(0, .ref 0), (1, .ref A), (2, .ref (103 + 2 * s)), (3, .int (nI n)), (4, .int (nI j))]) (st2 := [.int (nI n), .int (nI j)]) (w3 := w) rfl rfl ?_
  refine sx_RP.br (p1 := 53) (l1 := [(0, .ref 0), (1, .ref A), (2, .ref (103 + 2 * s)), (3, .int (nI n)), (4, .int (nI j))]) (s1 := []) (v1 := w) (p2 := 21) (l2 := [(0, .ref 0), (1, .ref A), (2, .ref (103 + 2 * s)), (3, .int (nI n)), (4, .int (nI j))]) (s2 := []) (v2 := w) rfl rfl (fun q1 => ?_) (fun q1 => ?_)
  · replace q1 := of_decide_eq_true q1
    replace q1 := (nI_leI (a := n) (b := j) (by omega) (by omega)).mp q1
    refine sx_RP.step (pc2 := 54) (ls2 := [(0, .ref 0), (1, .ref A), (2, .ref (103 + 2 * s)), (3, .int (nI n)), (4, .int (nI j))]) (st2 := [.int 1]) (w3 := w) rfl rfl ?_
    refine sx_RP.ret (r := (some (.int 1))) rfl rfl ?_
    exact ⟨⟨1, by decide, rfl⟩, hI, hE⟩
  · replace q1 := of_decide_eq_false q1
    replace q1 := mt (nI_leI (a := n) (b := j) (by omega) (by omega)).mpr q1
    refine sx_RP.step (pc2 := 22) (ls2 := [(0, .ref 0), (1, .ref A), (2, .ref (103 + 2 * s)), (3, .int (nI n)), (4, .int (nI j))]) (st2 := [.ref (103 + 2 * s)]) (w3 := w) rfl rfl ?_
    refine sx_RP.gf (v := .ref (104 + 2 * s)) rfl rfl (hI.1.oS (show s < 4 by omega)) rfl rfl (show _ = 25 from rfl) ?_
    refine sx_RP.step (pc2 := 27) (ls2 := [(0, .ref 0), (1, .ref A), (2, .ref (103 + 2 * s)), (3, .int (nI n)), (4, .int (nI j))]) (st2 := [.int (nI j), .ref (104 + 2 * s)]) (w3 := w) rfl rfl ?_
    refine sx_RP.lld (c := j) rfl (hI.1.aN (show s < 4 by omega)).1 (hI.1.aN (show s < 4 by omega)).2 (sx_in_nI (show j < 40 by omega) (by decide)) (show (nI j).toNatClampNeg = j from nI_clamp (by omega)) (show _ = 28 from rfl) ?_
    refine sx_RP.step (pc2 := 29) (ls2 := [(0, .ref 0), (1, .ref A), (2, .ref (103 + 2 * s)), (3, .int (nI n)), (4, .int (nI j))]) (st2 := [.ref 0, .long ((ja w (104 + 2 * s)).getD j 0)]) (w3 := w) rfl rfl ?_
    refine sx_RP.step (pc2 := 30) (ls2 := [(0, .ref 0), (1, .ref A), (2, .ref (103 + 2 * s)), (3, .int (nI n)), (4, .int (nI j))]) (st2 := [.ref A, .ref 0, .long ((ja w (104 + 2 * s)).getD j 0)]) (w3 := w) rfl rfl ?_
    refine sx_RP.step (pc2 := 31) (ls2 := [(0, .ref 0), (1, .ref A), (2, .ref (103 + 2 * s)), (3, .int (nI n)), (4, .int (nI j))]) (st2 := [.ref A, .ref A, .ref 0, .long ((ja w (104 + 2 * s)).getD j 0)]) (w3 := w) rfl rfl ?_
    refine sx_RP.gref (k := 4) (b := A + 3) hI hA rfl rfl (by omega) (show _ = 34 from rfl) ?_
    refine sx_RP.step (pc2 := 36) (ls2 := [(0, .ref 0), (1, .ref A), (2, .ref (103 + 2 * s)), (3, .int (nI n)), (4, .int (nI j))]) (st2 := [.int (nI j), .ref (A + 3), .ref A, .ref 0, .long ((ja w (104 + 2 * s)).getD j 0)]) (w3 := w) rfl rfl ?_
    refine sx_RP.ild (c := j) rfl (hI.1.aD hA).1 (hI.1.aD hA).2 (sx_in_nI (show j < 9 by omega) (by decide)) (show (nI j).toNatClampNeg = j from nI_clamp (by omega)) (show _ = 37 from rfl) ?_
    obtain ⟨x2, hx3, ex4⟩ : inR ((ia w (A + 3)).getD j 0) 47 := hI.di hA (show j < 9 by omega)
    rw [ex4]
    refine sx_RP.callp (as2 := [.ref 0, .ref A, .int (nI x2)]) (rest2 := [.long ((ja w (104 + 2 * s)).getD j 0)]) rfl rfl (sx_inv_v2 (mi := 123) (k := 231) (st := [.int (nI x2), .ref A, .ref 0, .long ((ja w (104 + 2 * s)).getD j 0)]) (w := w) rfl rfl hI.1.o0 rfl rfl rfl) rfl rfl rfl (s68 hI hA (show x2 < 48 by omega)) (show _ = 40 from rfl) ?_
    rintro r4 w6 ⟨⟨v5, rfl⟩, hI7, hE9⟩
    have hE8 := hE.tr hE9
    show sx_RP _ _ _ _ _ [.int v5, .long ((ja w (104 + 2 * s)).getD j 0)] _ _
    refine sx_RP.step (pc2 := 41) (ls2 := [(0, .ref 0), (1, .ref A), (2, .ref (103 + 2 * s)), (3, .int (nI n)), (4, .int (nI j))]) (st2 := [.long v5.toInt64, .long ((ja w (104 + 2 * s)).getD j 0)]) (w3 := w6) rfl rfl ?_
    refine sx_RP.step (pc2 := 42) (ls2 := [(0, .ref 0), (1, .ref A), (2, .ref (103 + 2 * s)), (3, .int (nI n)), (4, .int (nI j))]) (st2 := [.int (lg_cmp ((ja w (104 + 2 * s)).getD j 0) v5.toInt64)]) (w3 := w6) rfl rfl ?_
    refine sx_RP.br (p1 := 47) (l1 := [(0, .ref 0), (1, .ref A), (2, .ref (103 + 2 * s)), (3, .int (nI n)), (4, .int (nI j))]) (s1 := []) (v1 := w6) (p2 := 45) (l2 := [(0, .ref 0), (1, .ref A), (2, .ref (103 + 2 * s)), (3, .int (nI n)), (4, .int (nI j))]) (s2 := []) (v2 := w6) rfl rfl (fun q10 => ?_) (fun q10 => ?_)
    · replace q10 := of_decide_eq_true q10
      refine sx_RP.step (pc2 := 50) (ls2 := [(4, .int ((nI j) + 1)), (0, .ref 0), (1, .ref A), (2, .ref (103 + 2 * s)), (3, .int (nI n))]) (st2 := []) (w3 := w6) rfl rfl ?_
      rw [nI_1 j]
      refine sx_RP.step (pc2 := 15) (ls2 := [(4, .int (nI (j + 1))), (0, .ref 0), (1, .ref A), (2, .ref (103 + 2 * s)), (3, .int (nI n))]) (st2 := []) (w3 := w6) rfl rfl ?_
      exact sx_RP.ls (sx_lr.cons rfl (sx_lr.cons rfl (sx_lr.cons rfl (sx_lr.cons rfl (sx_lr.cons rfl sx_lr.nil))))) (kk w6 hI7 hE8 (by omega))
    · replace q10 := of_decide_eq_false q10
      refine sx_RP.step (pc2 := 46) (ls2 := [(0, .ref 0), (1, .ref A), (2, .ref (103 + 2 * s)), (3, .int (nI n)), (4, .int (nI j))]) (st2 := [.int 0]) (w3 := w6) rfl rfl ?_
      refine sx_RP.ret (r := (some (.int 0))) rfl rfl ?_
      exact ⟨⟨0, by decide, rfl⟩, hI7, hE8⟩
set_option maxRecDepth 20000 in
set_option maxHeartbeats 4000000 in
theorem s123L {xs : Option (List Int32)} {d : Nat} {w0 : List sx_C} {A : Nat} (hA : isA A) {s n : Nat} (hs : s < 4) (hn : n ≤ 9) : ∀ (fz j : Nat) (w : List sx_C) , 9 ≤ j + fz * 1 → j ≤ 9 → WI w → EC w0 w → sx_RP xs (d + 5) 123 15 [(0, .ref 0), (1, .ref A), (2, .ref (103 + 2 * s)), (3, .int (nI n)), (4, .int (nI j))] [] w (fun r w2 => (∃ j, j ≤ 1 ∧ r = some (.int (nI j))) ∧ WI w2 ∧ EC w0 w2)
  | 0, j, w, h, hj, hI, hE => s123B hA hs hn hI hE hj   (fun w4  hI4 hE4 hlt  => absurd hlt (by omega)) 
  | fz + 1, j, w, h, hj, hI, hE => s123B hA hs hn hI hE hj   (fun w4  hI4 hE4 hlt  => s123L hA hs hn  fz (j + 1) w4  (by omega) hlt hI4 hE4 ) 
set_option maxRecDepth 20000 in
set_option maxHeartbeats 4000000 in
theorem s123 {xs : Option (List Int32)} {d : Nat} {w : List sx_C} (hI : WI w) {A : Nat} (hA : isA A) {s : Nat} (hs : s < 4) : sx_RP xs (d + 5) 123 0 (lv_args 0 [.ref 0, .ref A, .ref (103 + 2 * s)]) [] w (fun r w2 => (∃ j, j ≤ 1 ∧ r = some (.int (nI j))) ∧ WI w2 ∧ EC w w2) := by
  have hE : EC w w := EC.rf
  refine sx_RP.step (pc2 := 1) (ls2 := [(0, .ref 0), (1, .ref A), (2, .ref (103 + 2 * s))]) (st2 := [.ref (103 + 2 * s)]) (w3 := w) rfl rfl ?_
  refine sx_RP.gf (v := .int (fi w (103 + 2 * s) 2)) rfl rfl (hI.1.oS (show s < 4 by omega)) rfl rfl (show _ = 4 from rfl) ?_
  obtain ⟨x1, hx2, ex3⟩ : inR (fi w (103 + 2 * s) 2) 40 := hI.sh (show s < 4 by omega)
  rw [ex3]
  refine sx_RP.step (pc2 := 5) (ls2 := [(0, .ref 0), (1, .ref A), (2, .ref (103 + 2 * s))]) (st2 := [.ref A, .int (nI x1)]) (w3 := w) rfl rfl ?_
  refine sx_RP.gc (k := 5) hI hA rfl rfl (by omega) (show _ = 8 from rfl) ?_
  obtain ⟨x4, hx5, ex6⟩ : inR (fi w A 5) 9 := (hI.c hA).2
  rw [ex6]
  obtain ⟨x7, hx8, c9⟩ := p97 (a := x1) (b := x4) hI (by omega) (by omega)
  refine sx_RP.cu (as := [.int (nI x1), .int (nI x4)]) (rest2 := []) (st3 := [.int (nI x7)]) rfl rfl rfl rfl rfl (c9) rfl ?_
  refine sx_RP.step (pc2 := 12) (ls2 := [(3, .int (nI x7)), (0, .ref 0), (1, .ref A), (2, .ref (103 + 2 * s))]) (st2 := []) (w3 := w) rfl rfl ?_
  refine sx_RP.step (pc2 := 13) (ls2 := [(3, .int (nI x7)), (0, .ref 0), (1, .ref A), (2, .ref (103 + 2 * s))]) (st2 := [.int 0]) (w3 := w) rfl rfl ?_
  refine sx_RP.step (pc2 := 15) (ls2 := [(4, .int 0), (3, .int (nI x7)), (0, .ref 0), (1, .ref A), (2, .ref (103 + 2 * s))]) (st2 := []) (w3 := w) rfl rfl ?_
  exact sx_RP.ls (sx_lr.cons rfl (sx_lr.cons rfl (sx_lr.cons rfl (sx_lr.cons rfl (sx_lr.cons rfl sx_lr.nil))))) (s123L hA hs (show x7 ≤ 9 by omega) 9 0 w (by omega) (by omega) hI hE)
end
-- 52.textrows.lean.txt
section
-- rows of the text
def ET (w w2 : List sx_C) : Prop := (∀ a, a ≠ 96 → w2[a]? = w[a]?) ∧ (w2[96]?).map (kp 96) = (w[96]?).map (kp 96)
theorem ET.rf {w : List sx_C} : ET w w := ⟨fun _ _ => rfl, rfl⟩
theorem ET.tr {w w1 w2 : List sx_C} (h : ET w w1) (h2 : ET w1 w2) : ET w w2 := ⟨fun a ha => (h2.1 a ha).trans (h.1 a ha), h2.2.trans h.2⟩
theorem ET.ec {w w2 : List sx_C} (h : ET w w2) : EC w w2 := by
  intro a
  by_cases e : a = 96
  · subst e
    exact ⟨fun _ => h.2, fun z => by omega⟩
  · rw [h.1 a e]
    exact ⟨fun _ => rfl, fun _ => rfl⟩
theorem ET.fi {w w2 : List sx_C} (h : ET w w2) {a : Nat} (ha : a ≠ 96) (k : Nat) : fi w2 a k = fi w a k := by
  show vi (fs_ w2 a)[k]? = vi (fs_ w a)[k]?
  unfold fs_
  rw [h.1 a ha]
theorem sub_eqN {a b c : Nat} (ha : a < 2 ^ 30) (hb : b < 2 ^ 30) (hc : c < 2 ^ 30) (h : nI a - nI b = nI c) : a = b + c := by
  have e : nI a = nI (c + b) := by rw [← nI_add, ← h, Int32.sub_add_cancel]
  have := (nI_eq (by omega) (by omega)).mp e
  omega
theorem val_of {x : Int32} {m n : Nat} (hm : m < 2 ^ 31) (hn : n < 2 ^ 31) (q1 : ¬ x < nI m) (q2 : ¬ nI n < x) : ∃ v, (m ≤ v ∧ v ≤ n) ∧ x = nI v := by
  have a1 := mt Int32.lt_iff_toInt_lt.mpr q1
  rw [nI_toInt hm] at a1
  have e0 : (0 : Int32).toInt = 0 := rfl
  obtain ⟨v, hv, rfl⟩ := nI_of (x := x) (fun z => by
    have := Int32.lt_iff_toInt_lt.mp z
    omega)
  refine ⟨v, ⟨?_, ?_⟩, rfl⟩
  · have := mt (nI_ltI hv hm).mpr q1
    omega
  · have := mt (nI_ltI hn hv).mpr q2
    omega
theorem sn_le : ∀ k, k < 20 → sx_sn.getD k 0 ≤ 7 := by decide +kernel
section SXT3
variable {xs : Option (List Int32)} {d mi pc pc2 idx p : Nat} {ls : sx_L} {r : List Value} {w w0 : List sx_C} {P : Option Value → List sx_C → Prop}
theorem sx_RP.ptT {k : Nat} {v : Int32} (hI : WI w) (hE : ET w0 w) (hi : sx_ins mi pc = some (.putfield idx, 3)) (hq : sx_lk (sx_fl (sx_own mi)) idx = some (4, k, p)) (hk : 2 ≤ k ∧ k < 6) (hf : sx_fin mi 4 k = true) (hv : tR k v) (hp : pc + 3 = pc2) (kk : ∀ w2, WI w2 → ET w0 w2 → fi w2 96 k = v → (∀ j, j ≠ k → fi w2 96 j = fi w 96 j) → sx_RP xs d mi pc2 ls r w2 P) : sx_RP xs d mi pc ls (.int v :: .ref 96 :: r) w P := by
  have hw := hI.1.o96
  have q := hI.t
  have hT : ∀ c : sx_C, kp 96 c = kp 96 (.inr (.inr (.inr (4, [.ref 97, .int (fi w 96 1), .int (fi w 96 2), .int (fi w 96 3), .int (fi w 96 4), .int (fi w 96 5)])))) → ET w0 (w.set 96 c) := fun c hc => hE.tr ⟨fun a ha => List.getElem?_set_ne (Ne.symm ha), by rw [sx_gs2 hw, hw, Option.map_some, Option.map_some, hc]⟩
  have hne : ∀ (fs : List Value) (j : Nat), j ≠ k → fi (w.set 96 (.inr (.inr (.inr (4, fs.set k (.int v)))))) 96 j = vi fs[j]? := by
    intro fs j hj
    unfold fi
    rw [fs_set hw, List.getElem?_set_ne (Ne.symm hj)]
  have hfs : fs_ w 96 = [.ref 97, .int (fi w 96 1), .int (fi w 96 2), .int (fi w 96 3), .int (fi w 96 4), .int (fi w 96 5)] := by unfold fs_; rw [hw]
  rcases (show k = 2 ∨ k = 3 ∨ k = 4 ∨ k = 5 by omega) with rfl | rfl | rfl | rfl
  · refine sx_RP.pf hi hq hw (by rw [hf]; rfl) rfl rfl hp (kk _ (hI.set hw rfl (cOK.t q)) (hT _ rfl) (by unfold fi; rw [fs_set hw]; rfl) (fun j hj => ?_))
    rw [hne _ j hj, ← hfs]
    rfl
  · refine sx_RP.pf hi hq hw (by rw [hf]; rfl) rfl rfl hp (kk _ (hI.set hw rfl (cOK.t ⟨q.1, hv, q.2.2⟩)) (hT _ rfl) (by unfold fi; rw [fs_set hw]; rfl) (fun j hj => ?_))
    rw [hne _ j hj, ← hfs]
    rfl
  · refine sx_RP.pf hi hq hw (by rw [hf]; rfl) rfl rfl hp (kk _ (hI.set hw rfl (cOK.t ⟨q.1, q.2.1, hv⟩)) (hT _ rfl) (by unfold fi; rw [fs_set hw]; rfl) (fun j hj => ?_))
    rw [hne _ j hj, ← hfs]
    rfl
  · refine sx_RP.pf hi hq hw (by rw [hf]; rfl) rfl rfl hp (kk _ (hI.set hw rfl (cOK.t q)) (hT _ rfl) (by unfold fi; rw [fs_set hw]; rfl) (fun j hj => ?_))
    rw [hne _ j hj, ← hfs]
    rfl
theorem sx_RP.slen {k : UInt32} {n : Nat} (hk : 100 ≤ k.toNat ∧ k.toNat < 120) (en : sx_sn.getD (k.toNat - 100) 0 = n) (hi : sx_ins mi pc = some (.invokevirtual idx, 3)) (hq : sx_lk (sx_sm (sx_own mi)) idx = some (0, p)) (hr : Nat.ble (r.map (fun v => v.category)).sum 8 = true) (hp : pc + 3 = pc2) (kk : sx_RP xs d mi pc2 ls (.int (nI n) :: r) w P) : sx_RP xs d mi pc ls (.float k :: r) w P := by
  subst hp
  subst en
  refine sx_RP.step hi (show sx_str (sx_own mi) idx ls pc (.float k :: r) w = some (pc + 3, ls, .int (nI (sx_sn.getD (k.toNat - 100) 0)) :: r, w) from ?_) kk
  unfold sx_str
  rw [hq]
  simp only
  rw [show Nat.ble 100 k.toNat = true from Nat.ble_eq.mpr hk.1, show Nat.blt k.toNat 120 = true from Nat.ble_eq.mpr hk.2, hr]
  rfl
theorem sx_RP.schr {k : UInt32} {n x : Nat} (hk : 100 ≤ k.toNat ∧ k.toNat < 120) (en : sx_sn.getD (k.toNat - 100) 0 = n) (hn : n ≤ 7) (hx : x < n) (hi : sx_ins mi pc = some (.invokevirtual idx, 3)) (hq : sx_lk (sx_sm (sx_own mi)) idx = some (1, p)) (hr : Nat.ble (r.map (fun v => v.category)).sum 8 = true) (hp : pc + 3 = pc2) (kk : sx_RP xs d mi pc2 ls (.int ((sx_sb.getD (k.toNat - 100) []).getD x 0) :: r) w P) : sx_RP xs d mi pc ls (.int (nI x) :: .float k :: r) w P := by
  subst hp
  subst en
  refine sx_RP.step hi (show sx_str (sx_own mi) idx ls pc (.int (nI x) :: .float k :: r) w = some (pc + 3, ls, .int ((sx_sb.getD (k.toNat - 100) []).getD x 0) :: r, w) from ?_) kk
  unfold sx_str
  rw [hq]
  simp only
  rw [show Nat.ble 100 k.toNat = true from Nat.ble_eq.mpr hk.1, show Nat.blt k.toNat 120 = true from Nat.ble_eq.mpr hk.2, sx_in_nI hx (by omega), hr, nI_clamp (by omega)]
  rfl
end SXT3
end
-- 53.textC.lean.txt
section
-- safety: the text of the class
set_option maxRecDepth 20000 in
set_option maxHeartbeats 4000000 in
theorem p97a {xs : Option (List Int32)} {d : Nat} {w : List sx_C} (hI : WI w) (x y : Int32) : ∃ v : Int32, sx_RU xs d 97 0 (lv_args 0 [.int x, .int y]) [] w (some (.int v)) w := by
  have h : sx_RP xs d 97 0 (lv_args 0 [.int x, .int y]) [] w (fun r w2 => (∃ v : Int32, r = some (.int v)) ∧ w2 = w) := by
    refine sx_RP.step (pc2 := 1) (ls2 := [(0, .int x), (1, .int y)]) (st2 := [.int x]) (w3 := w) rfl rfl ?_
    refine sx_RP.step (pc2 := 2) (ls2 := [(0, .int x), (1, .int y)]) (st2 := [.int y, .int x]) (w3 := w) rfl rfl ?_
    refine sx_RP.br (p1 := 9) (l1 := [(0, .int x), (1, .int y)]) (s1 := []) (v1 := w) (p2 := 5) (l2 := [(0, .int x), (1, .int y)]) (s2 := []) (v2 := w) rfl rfl (fun q1 => ?_) (fun q1 => ?_)
    · replace q1 := of_decide_eq_true q1
      refine sx_RP.step (pc2 := 10) (ls2 := [(0, .int x), (1, .int y)]) (st2 := [.int y]) (w3 := w) rfl rfl ?_
      refine sx_RP.ret (r := (some (.int y))) rfl rfl ?_
      exact ⟨⟨_, rfl⟩, rfl⟩
    · replace q1 := of_decide_eq_false q1
      refine sx_RP.step (pc2 := 6) (ls2 := [(0, .int x), (1, .int y)]) (st2 := [.int x]) (w3 := w) rfl rfl ?_
      refine sx_RP.step (pc2 := 10) (ls2 := [(0, .int x), (1, .int y)]) (st2 := [.int x]) (w3 := w) rfl rfl ?_
      refine sx_RP.ret (r := (some (.int x))) rfl rfl ?_
      exact ⟨⟨_, rfl⟩, rfl⟩
  obtain ⟨r, w2, h1, ⟨v, rfl⟩, rfl⟩ := h
  exact ⟨v, h1⟩
set_option maxRecDepth 20000 in
set_option maxHeartbeats 4000000 in
theorem p95 {xs : Option (List Int32)} {d : Nat} {w : List sx_C} (hI : WI w) (x : Int32) : ∃ v : Int32, sx_RU xs d 95 0 (lv_args 0 [.int x]) [] w (some (.int v)) w := by
  have h : sx_RP xs d 95 0 (lv_args 0 [.int x]) [] w (fun r w2 => (∃ v : Int32, r = some (.int v)) ∧ w2 = w) := by
    refine sx_RP.step (pc2 := 1) (ls2 := [(0, .int x)]) (st2 := [.int x]) (w3 := w) rfl rfl ?_
    refine sx_RP.step (pc2 := 3) (ls2 := [(0, .int x)]) (st2 := [.int 97, .int x]) (w3 := w) rfl rfl ?_
    refine sx_RP.br (p1 := 14) (l1 := [(0, .int x)]) (s1 := []) (v1 := w) (p2 := 6) (l2 := [(0, .int x)]) (s2 := []) (v2 := w) rfl rfl (fun q1 => ?_) (fun q1 => ?_)
    · replace q1 := of_decide_eq_true q1
      refine sx_RP.step (pc2 := 15) (ls2 := [(0, .int x)]) (st2 := [.int x]) (w3 := w) rfl rfl ?_
      refine sx_RP.step (pc2 := 17) (ls2 := [(0, .int x)]) (st2 := [.int 48, .int x]) (w3 := w) rfl rfl ?_
      refine sx_RP.br (p1 := 28) (l1 := [(0, .int x)]) (s1 := []) (v1 := w) (p2 := 20) (l2 := [(0, .int x)]) (s2 := []) (v2 := w) rfl rfl (fun q2 => ?_) (fun q2 => ?_)
      · replace q2 := of_decide_eq_true q2
        refine sx_RP.step (pc2 := 29) (ls2 := [(0, .int x)]) (st2 := [.int x]) (w3 := w) rfl rfl ?_
        refine sx_RP.step (pc2 := 31) (ls2 := [(0, .int x)]) (st2 := [.int 59, .int x]) (w3 := w) rfl rfl ?_
        refine sx_RP.br (p1 := 38) (l1 := [(0, .int x)]) (s1 := []) (v1 := w) (p2 := 34) (l2 := [(0, .int x)]) (s2 := []) (v2 := w) rfl rfl (fun q3 => ?_) (fun q3 => ?_)
        · replace q3 := of_decide_eq_true q3
          refine sx_RP.step (pc2 := 39) (ls2 := [(0, .int x)]) (st2 := [.int 4]) (w3 := w) rfl rfl ?_
          refine sx_RP.ret (r := (some (.int 4))) rfl rfl ?_
          exact ⟨⟨_, rfl⟩, rfl⟩
        · replace q3 := Decidable.not_not.mp (of_decide_eq_false q3)
          refine sx_RP.step (pc2 := 35) (ls2 := [(0, .int x)]) (st2 := [.int 3]) (w3 := w) rfl rfl ?_
          refine sx_RP.step (pc2 := 39) (ls2 := [(0, .int x)]) (st2 := [.int 3]) (w3 := w) rfl rfl ?_
          refine sx_RP.ret (r := (some (.int 3))) rfl rfl ?_
          exact ⟨⟨_, rfl⟩, rfl⟩
      · replace q2 := of_decide_eq_false q2
        refine sx_RP.step (pc2 := 21) (ls2 := [(0, .int x)]) (st2 := [.int x]) (w3 := w) rfl rfl ?_
        refine sx_RP.step (pc2 := 23) (ls2 := [(0, .int x)]) (st2 := [.int 57, .int x]) (w3 := w) rfl rfl ?_
        refine sx_RP.br (p1 := 28) (l1 := [(0, .int x)]) (s1 := []) (v1 := w) (p2 := 26) (l2 := [(0, .int x)]) (s2 := []) (v2 := w) rfl rfl (fun q4 => ?_) (fun q4 => ?_)
        · replace q4 := of_decide_eq_true q4
          refine sx_RP.step (pc2 := 29) (ls2 := [(0, .int x)]) (st2 := [.int x]) (w3 := w) rfl rfl ?_
          refine sx_RP.step (pc2 := 31) (ls2 := [(0, .int x)]) (st2 := [.int 59, .int x]) (w3 := w) rfl rfl ?_
          refine sx_RP.br (p1 := 38) (l1 := [(0, .int x)]) (s1 := []) (v1 := w) (p2 := 34) (l2 := [(0, .int x)]) (s2 := []) (v2 := w) rfl rfl (fun q5 => ?_) (fun q5 => ?_)
          · replace q5 := of_decide_eq_true q5
            refine sx_RP.step (pc2 := 39) (ls2 := [(0, .int x)]) (st2 := [.int 4]) (w3 := w) rfl rfl ?_
            refine sx_RP.ret (r := (some (.int 4))) rfl rfl ?_
            exact ⟨⟨_, rfl⟩, rfl⟩
          · replace q5 := Decidable.not_not.mp (of_decide_eq_false q5)
            refine sx_RP.step (pc2 := 35) (ls2 := [(0, .int x)]) (st2 := [.int 3]) (w3 := w) rfl rfl ?_
            refine sx_RP.step (pc2 := 39) (ls2 := [(0, .int x)]) (st2 := [.int 3]) (w3 := w) rfl rfl ?_
            refine sx_RP.ret (r := (some (.int 3))) rfl rfl ?_
            exact ⟨⟨_, rfl⟩, rfl⟩
        · replace q4 := of_decide_eq_false q4
          refine sx_RP.step (pc2 := 27) (ls2 := [(0, .int x)]) (st2 := [.int 2]) (w3 := w) rfl rfl ?_
          refine sx_RP.ret (r := (some (.int 2))) rfl rfl ?_
          exact ⟨⟨_, rfl⟩, rfl⟩
    · replace q1 := of_decide_eq_false q1
      refine sx_RP.step (pc2 := 7) (ls2 := [(0, .int x)]) (st2 := [.int x]) (w3 := w) rfl rfl ?_
      refine sx_RP.step (pc2 := 9) (ls2 := [(0, .int x)]) (st2 := [.int 122, .int x]) (w3 := w) rfl rfl ?_
      refine sx_RP.br (p1 := 14) (l1 := [(0, .int x)]) (s1 := []) (v1 := w) (p2 := 12) (l2 := [(0, .int x)]) (s2 := []) (v2 := w) rfl rfl (fun q6 => ?_) (fun q6 => ?_)
      · replace q6 := of_decide_eq_true q6
        refine sx_RP.step (pc2 := 15) (ls2 := [(0, .int x)]) (st2 := [.int x]) (w3 := w) rfl rfl ?_
        refine sx_RP.step (pc2 := 17) (ls2 := [(0, .int x)]) (st2 := [.int 48, .int x]) (w3 := w) rfl rfl ?_
        refine sx_RP.br (p1 := 28) (l1 := [(0, .int x)]) (s1 := []) (v1 := w) (p2 := 20) (l2 := [(0, .int x)]) (s2 := []) (v2 := w) rfl rfl (fun q7 => ?_) (fun q7 => ?_)
        · replace q7 := of_decide_eq_true q7
          refine sx_RP.step (pc2 := 29) (ls2 := [(0, .int x)]) (st2 := [.int x]) (w3 := w) rfl rfl ?_
          refine sx_RP.step (pc2 := 31) (ls2 := [(0, .int x)]) (st2 := [.int 59, .int x]) (w3 := w) rfl rfl ?_
          refine sx_RP.br (p1 := 38) (l1 := [(0, .int x)]) (s1 := []) (v1 := w) (p2 := 34) (l2 := [(0, .int x)]) (s2 := []) (v2 := w) rfl rfl (fun q8 => ?_) (fun q8 => ?_)
          · replace q8 := of_decide_eq_true q8
            refine sx_RP.step (pc2 := 39) (ls2 := [(0, .int x)]) (st2 := [.int 4]) (w3 := w) rfl rfl ?_
            refine sx_RP.ret (r := (some (.int 4))) rfl rfl ?_
            exact ⟨⟨_, rfl⟩, rfl⟩
          · replace q8 := Decidable.not_not.mp (of_decide_eq_false q8)
            refine sx_RP.step (pc2 := 35) (ls2 := [(0, .int x)]) (st2 := [.int 3]) (w3 := w) rfl rfl ?_
            refine sx_RP.step (pc2 := 39) (ls2 := [(0, .int x)]) (st2 := [.int 3]) (w3 := w) rfl rfl ?_
            refine sx_RP.ret (r := (some (.int 3))) rfl rfl ?_
            exact ⟨⟨_, rfl⟩, rfl⟩
        · replace q7 := of_decide_eq_false q7
          refine sx_RP.step (pc2 := 21) (ls2 := [(0, .int x)]) (st2 := [.int x]) (w3 := w) rfl rfl ?_
          refine sx_RP.step (pc2 := 23) (ls2 := [(0, .int x)]) (st2 := [.int 57, .int x]) (w3 := w) rfl rfl ?_
          refine sx_RP.br (p1 := 28) (l1 := [(0, .int x)]) (s1 := []) (v1 := w) (p2 := 26) (l2 := [(0, .int x)]) (s2 := []) (v2 := w) rfl rfl (fun q9 => ?_) (fun q9 => ?_)
          · replace q9 := of_decide_eq_true q9
            refine sx_RP.step (pc2 := 29) (ls2 := [(0, .int x)]) (st2 := [.int x]) (w3 := w) rfl rfl ?_
            refine sx_RP.step (pc2 := 31) (ls2 := [(0, .int x)]) (st2 := [.int 59, .int x]) (w3 := w) rfl rfl ?_
            refine sx_RP.br (p1 := 38) (l1 := [(0, .int x)]) (s1 := []) (v1 := w) (p2 := 34) (l2 := [(0, .int x)]) (s2 := []) (v2 := w) rfl rfl (fun q10 => ?_) (fun q10 => ?_)
            · replace q10 := of_decide_eq_true q10
              refine sx_RP.step (pc2 := 39) (ls2 := [(0, .int x)]) (st2 := [.int 4]) (w3 := w) rfl rfl ?_
              refine sx_RP.ret (r := (some (.int 4))) rfl rfl ?_
              exact ⟨⟨_, rfl⟩, rfl⟩
            · replace q10 := Decidable.not_not.mp (of_decide_eq_false q10)
              refine sx_RP.step (pc2 := 35) (ls2 := [(0, .int x)]) (st2 := [.int 3]) (w3 := w) rfl rfl ?_
              refine sx_RP.step (pc2 := 39) (ls2 := [(0, .int x)]) (st2 := [.int 3]) (w3 := w) rfl rfl ?_
              refine sx_RP.ret (r := (some (.int 3))) rfl rfl ?_
              exact ⟨⟨_, rfl⟩, rfl⟩
          · replace q9 := of_decide_eq_false q9
            refine sx_RP.step (pc2 := 27) (ls2 := [(0, .int x)]) (st2 := [.int 2]) (w3 := w) rfl rfl ?_
            refine sx_RP.ret (r := (some (.int 2))) rfl rfl ?_
            exact ⟨⟨_, rfl⟩, rfl⟩
      · replace q6 := of_decide_eq_false q6
        refine sx_RP.step (pc2 := 13) (ls2 := [(0, .int x)]) (st2 := [.int 1]) (w3 := w) rfl rfl ?_
        refine sx_RP.ret (r := (some (.int 1))) rfl rfl ?_
        exact ⟨⟨_, rfl⟩, rfl⟩
  obtain ⟨r, w2, h1, ⟨v, rfl⟩, rfl⟩ := h
  exact ⟨v, h1⟩
set_option maxRecDepth 20000 in
set_option maxHeartbeats 4000000 in
theorem p96B {xs : Option (List Int32)} {d : Nat} {w : List sx_C} {t : Nat} (x : Int32) (ht : t ≤ 120) (hI : WI w) {j : Nat} (hj : j ≤ 120) (n : Int32) (kk : ∀ (un : Int32), j + 1 ≤ 120 → sx_RP xs (d + 1) 96 5 [(0, .ref 96), (1, .int x), (2, .int (nI t)), (3, .int un), (4, .int (nI (j + 1)))] [] w (fun r w2 => (∃ v : Int32, r = some (.int v)) ∧ w2 = w)) : sx_RP xs (d + 1) 96 5 [(0, .ref 96), (1, .int x), (2, .int (nI t)), (3, .int n), (4, .int (nI j))] [] w (fun r w2 => (∃ v : Int32, r = some (.int v)) ∧ w2 = w) := by
  refine sx_RP.step (pc2 := 7) (ls2 := [(0, .ref 96), (1, .int x), (2, .int (nI t)), (3, .int n), (4, .int (nI j))]) (st2 := [.int (nI j)]) (w3 := w) rfl rfl ?_
  refine sx_RP.step (pc2 := 8) (ls2 := [(0, .ref 96), (1, .int x), (2, .int (nI t)), (3, .int n), (4, .int (nI j))]) (st2 := [.int (nI t), .int (nI j)]) (w3 := w) rfl rfl ?_
  refine sx_RP.br (p1 := 38) (l1 := [(0, .ref 96), (1, .int x), (2, .int (nI t)), (3, .int n), (4, .int (nI j))]) (s1 := []) (v1 := w) (p2 := 11) (l2 := [(0, .ref 96), (1, .int x), (2, .int (nI t)), (3, .int n), (4, .int (nI j))]) (s2 := []) (v2 := w) rfl rfl (fun q1 => ?_) (fun q1 => ?_)
  · replace q1 := of_decide_eq_true q1
    replace q1 := (nI_leI (a := t) (b := j) (by omega) (by omega)).mp q1
    refine sx_RP.step (pc2 := 39) (ls2 := [(0, .ref 96), (1, .int x), (2, .int (nI t)), (3, .int n), (4, .int (nI j))]) (st2 := [.int n]) (w3 := w) rfl rfl ?_
    refine sx_RP.ret (r := (some (.int n))) rfl rfl ?_
    exact ⟨⟨_, rfl⟩, rfl⟩
  · replace q1 := of_decide_eq_false q1
    replace q1 := mt (nI_leI (a := t) (b := j) (by omega) (by omega)).mpr q1
    refine sx_RP.step (pc2 := 13) (ls2 := [(0, .ref 96), (1, .int x), (2, .int (nI t)), (3, .int n), (4, .int (nI j))]) (st2 := [.int 1000000]) (w3 := w) rfl rfl ?_
    refine sx_RP.step (pc2 := 14) (ls2 := [(0, .ref 96), (1, .int x), (2, .int (nI t)), (3, .int n), (4, .int (nI j))]) (st2 := [.int n, .int 1000000]) (w3 := w) rfl rfl ?_
    refine sx_RP.step (pc2 := 16) (ls2 := [(0, .ref 96), (1, .int x), (2, .int (nI t)), (3, .int n), (4, .int (nI j))]) (st2 := [.int 10, .int n, .int 1000000]) (w3 := w) rfl rfl ?_
    refine sx_RP.step (pc2 := 17) (ls2 := [(0, .ref 96), (1, .int x), (2, .int (nI t)), (3, .int n), (4, .int (nI j))]) (st2 := [.int (n * 10), .int 1000000]) (w3 := w) rfl rfl ?_
    refine sx_RP.step (pc2 := 18) (ls2 := [(0, .ref 96), (1, .int x), (2, .int (nI t)), (3, .int n), (4, .int (nI j))]) (st2 := [.ref 96, .int (n * 10), .int 1000000]) (w3 := w) rfl rfl ?_
    refine sx_RP.gf (v := .ref 97) rfl rfl hI.1.o96 rfl rfl (show _ = 21 from rfl) ?_
    refine sx_RP.step (pc2 := 23) (ls2 := [(0, .ref 96), (1, .int x), (2, .int (nI t)), (3, .int n), (4, .int (nI j))]) (st2 := [.int (nI j), .ref 97, .int (n * 10), .int 1000000]) (w3 := w) rfl rfl ?_
    refine sx_RP.bld2 (c := j) rfl hI.1.a97.1 hI.1.a97.2 (sx_in_nI (show j < 120 by omega) (by decide)) (show (nI j).toNatClampNeg = j from nI_clamp (by omega)) (show _ = 24 from rfl) ?_
    refine sx_RP.step (pc2 := 25) (ls2 := [(0, .ref 96), (1, .int x), (2, .int (nI t)), (3, .int n), (4, .int (nI j))]) (st2 := [.int ((n * 10) + ((ia w 97).getD j 0)), .int 1000000]) (w3 := w) rfl rfl ?_
    refine sx_RP.step (pc2 := 27) (ls2 := [(0, .ref 96), (1, .int x), (2, .int (nI t)), (3, .int n), (4, .int (nI j))]) (st2 := [.int 48, .int ((n * 10) + ((ia w 97).getD j 0)), .int 1000000]) (w3 := w) rfl rfl ?_
    refine sx_RP.step (pc2 := 28) (ls2 := [(0, .ref 96), (1, .int x), (2, .int (nI t)), (3, .int n), (4, .int (nI j))]) (st2 := [.int (((n * 10) + ((ia w 97).getD j 0)) - 48), .int 1000000]) (w3 := w) rfl rfl ?_
    obtain ⟨v2, c3⟩ := p97a hI 1000000 (((n * 10) + ((ia w 97).getD j 0)) - 48)
    refine sx_RP.cu (as := [.int 1000000, .int (((n * 10) + ((ia w 97).getD j 0)) - 48)]) (rest2 := []) (st3 := [.int v2]) rfl rfl rfl rfl rfl (c3) rfl ?_
    refine sx_RP.step (pc2 := 32) (ls2 := [(3, .int v2), (0, .ref 96), (1, .int x), (2, .int (nI t)), (4, .int (nI j))]) (st2 := []) (w3 := w) rfl rfl ?_
    refine sx_RP.step (pc2 := 35) (ls2 := [(4, .int ((nI j) + 1)), (3, .int v2), (0, .ref 96), (1, .int x), (2, .int (nI t))]) (st2 := []) (w3 := w) rfl rfl ?_
    rw [nI_1 j]
    refine sx_RP.step (pc2 := 5) (ls2 := [(4, .int (nI (j + 1))), (3, .int v2), (0, .ref 96), (1, .int x), (2, .int (nI t))]) (st2 := []) (w3 := w) rfl rfl ?_
    exact sx_RP.ls (sx_lr.cons rfl (sx_lr.cons rfl (sx_lr.cons rfl (sx_lr.cons rfl (sx_lr.cons rfl sx_lr.nil))))) (kk v2 (by omega))
set_option maxRecDepth 20000 in
set_option maxHeartbeats 4000000 in
theorem p96L {xs : Option (List Int32)} {d : Nat} {w : List sx_C} {t : Nat} (x : Int32) (ht : t ≤ 120) (hI : WI w) : ∀ (fz j : Nat) (n : Int32) , 120 ≤ j + fz * 1 → j ≤ 120 → sx_RP xs (d + 1) 96 5 [(0, .ref 96), (1, .int x), (2, .int (nI t)), (3, .int n), (4, .int (nI j))] [] w (fun r w2 => (∃ v : Int32, r = some (.int v)) ∧ w2 = w)
  | 0, j, n, h, hj => p96B x ht hI hj n  (fun un  hlt  => absurd hlt (by omega)) 
  | fz + 1, j, n, h, hj => p96B x ht hI hj n  (fun un  hlt  => p96L x ht hI  fz (j + 1) un (by omega) hlt ) 
set_option maxRecDepth 20000 in
set_option maxHeartbeats 4000000 in
theorem p96 {xs : Option (List Int32)} {d : Nat} {w : List sx_C} (hI : WI w) {f t : Nat} (hf : f ≤ 120) (ht : t ≤ 120) : ∃ v : Int32, sx_RU xs (d + 1) 96 0 (lv_args 0 [.ref 96, .int (nI f), .int (nI t)]) [] w (some (.int v)) w := by
  have h : sx_RP xs (d + 1) 96 0 (lv_args 0 [.ref 96, .int (nI f), .int (nI t)]) [] w (fun r w2 => (∃ v : Int32, r = some (.int v)) ∧ w2 = w) := by
    refine sx_RP.step (pc2 := 1) (ls2 := [(0, .ref 96), (1, .int (nI f)), (2, .int (nI t))]) (st2 := [.int 0]) (w3 := w) rfl rfl ?_
    refine sx_RP.step (pc2 := 2) (ls2 := [(3, .int 0), (0, .ref 96), (1, .int (nI f)), (2, .int (nI t))]) (st2 := []) (w3 := w) rfl rfl ?_
    refine sx_RP.step (pc2 := 3) (ls2 := [(3, .int 0), (0, .ref 96), (1, .int (nI f)), (2, .int (nI t))]) (st2 := [.int (nI f)]) (w3 := w) rfl rfl ?_
    refine sx_RP.step (pc2 := 5) (ls2 := [(4, .int (nI f)), (3, .int 0), (0, .ref 96), (1, .int (nI f)), (2, .int (nI t))]) (st2 := []) (w3 := w) rfl rfl ?_
    exact sx_RP.ls (sx_lr.cons rfl (sx_lr.cons rfl (sx_lr.cons rfl (sx_lr.cons rfl (sx_lr.cons rfl sx_lr.nil))))) (p96L (nI f) ht hI 120 f 0 (by omega) hf)
  obtain ⟨r, w2, h1, ⟨v, rfl⟩, rfl⟩ := h
  exact ⟨v, h1⟩
set_option maxRecDepth 20000 in
set_option maxHeartbeats 4000000 in
theorem s94bB {xs : Option (List Int32)} {d : Nat} {w w0 : List sx_C} (hI : WI w) (hE : ET w0 w) {j : Nat} (hj : j ≤ 120) (kk : ∀ (w4 : List sx_C), WI w4 → ET w0 w4 → j + 1 ≤ 120 → sx_RP xs (d + 2) 94 91 [(0, .ref 96), (1, .int (nI (j + 1)))] [] w4 (fun r w2 => (r = none) ∧ WI w2 ∧ ET w0 w2)) : sx_RP xs (d + 2) 94 91 [(0, .ref 96), (1, .int (nI j))] [] w (fun r w2 => (r = none) ∧ WI w2 ∧ ET w0 w2) := by
  refine sx_RP.step (pc2 := 92) (ls2 := [(0, .ref 96), (1, .int (nI j))]) (st2 := [.int (nI j)]) (w3 := w) rfl rfl ?_
  refine sx_RP.step (pc2 := 93) (ls2 := [(0, .ref 96), (1, .int (nI j))]) (st2 := [.ref 96, .int (nI j)]) (w3 := w) rfl rfl ?_
  refine sx_RP.gt (k := 1) hI rfl rfl (by decide) (show _ = 96 from rfl) ?_
  obtain ⟨x1, hx2, ex3⟩ : inR (fi w 96 1) 120 := hI.t.1
  rw [ex3]
  refine sx_RP.br (p1 := 121) (l1 := [(0, .ref 96), (1, .int (nI j))]) (s1 := []) (v1 := w) (p2 := 99) (l2 := [(0, .ref 96), (1, .int (nI j))]) (s2 := []) (v2 := w) rfl rfl (fun q4 => ?_) (fun q4 => ?_)
  · replace q4 := of_decide_eq_true q4
    replace q4 := (nI_leI (a := x1) (b := j) (by omega) (by omega)).mp q4
    refine sx_RP.step (pc2 := 122) (ls2 := [(0, .ref 96), (1, .int (nI j))]) (st2 := [.ref 96]) (w3 := w) rfl rfl ?_
    refine sx_RP.step (pc2 := 123) (ls2 := [(0, .ref 96), (1, .int (nI j))]) (st2 := [.int (nI j), .ref 96]) (w3 := w) rfl rfl ?_
    refine sx_RP.ptT (k := 4) hI hE rfl rfl (by decide) rfl (inR.n (show j ≤ 120 by omega)) (show _ = 126 from rfl) (fun w5 hI6 hE7 ht8 ht9 => ?_)
    have ex10 := (ht9 1 (by decide)).trans ex3
    refine sx_RP.step (pc2 := 127) (ls2 := [(0, .ref 96), (1, .int (nI j))]) (st2 := [.ref 96]) (w3 := w5) rfl rfl ?_
    refine sx_RP.gt (k := 2) hI6 rfl rfl (by decide) (show _ = 130 from rfl) ?_
    refine sx_RP.step (pc2 := 131) (ls2 := [(0, .ref 96), (1, .int (nI j))]) (st2 := [.int 2, .int (fi w5 96 2)]) (w3 := w5) rfl rfl ?_
    refine sx_RP.br (p1 := 150) (l1 := [(0, .ref 96), (1, .int (nI j))]) (s1 := []) (v1 := w5) (p2 := 134) (l2 := [(0, .ref 96), (1, .int (nI j))]) (s2 := []) (v2 := w5) rfl rfl (fun q11 => ?_) (fun q11 => ?_)
    · replace q11 := of_decide_eq_true q11
      refine sx_RP.ret (r := none) rfl rfl ?_
      exact ⟨rfl, hI6, hE7⟩
    · replace q11 := Decidable.not_not.mp (of_decide_eq_false q11)
      refine sx_RP.step (pc2 := 135) (ls2 := [(0, .ref 96), (1, .int (nI j))]) (st2 := [.ref 96]) (w3 := w5) rfl rfl ?_
      refine sx_RP.step (pc2 := 136) (ls2 := [(0, .ref 96), (1, .int (nI j))]) (st2 := [.ref 96, .ref 96]) (w3 := w5) rfl rfl ?_
      refine sx_RP.step (pc2 := 137) (ls2 := [(0, .ref 96), (1, .int (nI j))]) (st2 := [.ref 96, .ref 96, .ref 96]) (w3 := w5) rfl rfl ?_
      refine sx_RP.gt (k := 3) hI6 rfl rfl (by decide) (show _ = 140 from rfl) ?_
      obtain ⟨x12, hx13, ex14⟩ : inR (fi w5 96 3) 120 := hI6.t.2.1
      rw [ex14]
      refine sx_RP.step (pc2 := 141) (ls2 := [(0, .ref 96), (1, .int (nI j))]) (st2 := [.ref 96, .int (nI x12), .ref 96, .ref 96]) (w3 := w5) rfl rfl ?_
      refine sx_RP.gt (k := 4) hI6 rfl rfl (by decide) (show _ = 144 from rfl) ?_
      rw [ht8]
      obtain ⟨v15, c16⟩ := p96 hI6 (show x12 ≤ 120 by omega) (show j ≤ 120 by omega)
      refine sx_RP.cu (as := [.ref 96, .int (nI x12), .int (nI j)]) (rest2 := [.ref 96]) (st3 := [.int v15, .ref 96]) rfl rfl (sx_inv_v2 (mi := 94) (k := 162) (st := [.int (nI j), .int (nI x12), .ref 96, .ref 96]) (w := w5) rfl rfl hI6.1.o96 rfl rfl rfl) rfl rfl (c16) rfl ?_
      refine sx_RP.ptT (k := 5) hI6 hE7 rfl rfl (by decide) rfl trivial (show _ = 150 from rfl) (fun w17 hI18 hE19 ht20 ht21 => ?_)
      have ex22 := (ht21 1 (by decide)).trans ex10
      have ex23 := (ht21 4 (by decide)).trans ht8
      have ex24 := (ht21 3 (by decide)).trans ex14
      refine sx_RP.ret (r := none) rfl rfl ?_
      exact ⟨rfl, hI18, hE19⟩
  · replace q4 := of_decide_eq_false q4
    replace q4 := mt (nI_leI (a := x1) (b := j) (by omega) (by omega)).mpr q4
    refine sx_RP.step (pc2 := 100) (ls2 := [(0, .ref 96), (1, .int (nI j))]) (st2 := [.ref 96]) (w3 := w) rfl rfl ?_
    refine sx_RP.gf (v := .ref 97) rfl rfl hI.1.o96 rfl rfl (show _ = 103 from rfl) ?_
    refine sx_RP.step (pc2 := 104) (ls2 := [(0, .ref 96), (1, .int (nI j))]) (st2 := [.int (nI j), .ref 97]) (w3 := w) rfl rfl ?_
    refine sx_RP.bld2 (c := j) rfl hI.1.a97.1 hI.1.a97.2 (sx_in_nI (show j < 120 by omega) (by decide)) (show (nI j).toNatClampNeg = j from nI_clamp (by omega)) (show _ = 105 from rfl) ?_
    obtain ⟨v25, c26⟩ := p95 hI ((ia w 97).getD j 0)
    refine sx_RP.cu (as := [.int ((ia w 97).getD j 0)]) (rest2 := []) (st3 := [.int v25]) rfl rfl rfl rfl rfl (c26) rfl ?_
    refine sx_RP.step (pc2 := 109) (ls2 := [(0, .ref 96), (1, .int (nI j))]) (st2 := [.ref 96, .int v25]) (w3 := w) rfl rfl ?_
    refine sx_RP.gt (k := 2) hI rfl rfl (by decide) (show _ = 112 from rfl) ?_
    refine sx_RP.br (p1 := 121) (l1 := [(0, .ref 96), (1, .int (nI j))]) (s1 := []) (v1 := w) (p2 := 115) (l2 := [(0, .ref 96), (1, .int (nI j))]) (s2 := []) (v2 := w) rfl rfl (fun q27 => ?_) (fun q27 => ?_)
    · replace q27 := of_decide_eq_true q27
      refine sx_RP.step (pc2 := 122) (ls2 := [(0, .ref 96), (1, .int (nI j))]) (st2 := [.ref 96]) (w3 := w) rfl rfl ?_
      refine sx_RP.step (pc2 := 123) (ls2 := [(0, .ref 96), (1, .int (nI j))]) (st2 := [.int (nI j), .ref 96]) (w3 := w) rfl rfl ?_
      refine sx_RP.ptT (k := 4) hI hE rfl rfl (by decide) rfl (inR.n (show j ≤ 120 by omega)) (show _ = 126 from rfl) (fun w28 hI29 hE30 ht31 ht32 => ?_)
      have ex33 := (ht32 1 (by decide)).trans ex3
      refine sx_RP.step (pc2 := 127) (ls2 := [(0, .ref 96), (1, .int (nI j))]) (st2 := [.ref 96]) (w3 := w28) rfl rfl ?_
      refine sx_RP.gt (k := 2) hI29 rfl rfl (by decide) (show _ = 130 from rfl) ?_
      refine sx_RP.step (pc2 := 131) (ls2 := [(0, .ref 96), (1, .int (nI j))]) (st2 := [.int 2, .int (fi w28 96 2)]) (w3 := w28) rfl rfl ?_
      refine sx_RP.br (p1 := 150) (l1 := [(0, .ref 96), (1, .int (nI j))]) (s1 := []) (v1 := w28) (p2 := 134) (l2 := [(0, .ref 96), (1, .int (nI j))]) (s2 := []) (v2 := w28) rfl rfl (fun q34 => ?_) (fun q34 => ?_)
      · replace q34 := of_decide_eq_true q34
        refine sx_RP.ret (r := none) rfl rfl ?_
        exact ⟨rfl, hI29, hE30⟩
      · replace q34 := Decidable.not_not.mp (of_decide_eq_false q34)
        refine sx_RP.step (pc2 := 135) (ls2 := [(0, .ref 96), (1, .int (nI j))]) (st2 := [.ref 96]) (w3 := w28) rfl rfl ?_
        refine sx_RP.step (pc2 := 136) (ls2 := [(0, .ref 96), (1, .int (nI j))]) (st2 := [.ref 96, .ref 96]) (w3 := w28) rfl rfl ?_
        refine sx_RP.step (pc2 := 137) (ls2 := [(0, .ref 96), (1, .int (nI j))]) (st2 := [.ref 96, .ref 96, .ref 96]) (w3 := w28) rfl rfl ?_
        refine sx_RP.gt (k := 3) hI29 rfl rfl (by decide) (show _ = 140 from rfl) ?_
        obtain ⟨x35, hx36, ex37⟩ : inR (fi w28 96 3) 120 := hI29.t.2.1
        rw [ex37]
        refine sx_RP.step (pc2 := 141) (ls2 := [(0, .ref 96), (1, .int (nI j))]) (st2 := [.ref 96, .int (nI x35), .ref 96, .ref 96]) (w3 := w28) rfl rfl ?_
        refine sx_RP.gt (k := 4) hI29 rfl rfl (by decide) (show _ = 144 from rfl) ?_
        rw [ht31]
        obtain ⟨v38, c39⟩ := p96 hI29 (show x35 ≤ 120 by omega) (show j ≤ 120 by omega)
        refine sx_RP.cu (as := [.ref 96, .int (nI x35), .int (nI j)]) (rest2 := [.ref 96]) (st3 := [.int v38, .ref 96]) rfl rfl (sx_inv_v2 (mi := 94) (k := 162) (st := [.int (nI j), .int (nI x35), .ref 96, .ref 96]) (w := w28) rfl rfl hI29.1.o96 rfl rfl rfl) rfl rfl (c39) rfl ?_
        refine sx_RP.ptT (k := 5) hI29 hE30 rfl rfl (by decide) rfl trivial (show _ = 150 from rfl) (fun w40 hI41 hE42 ht43 ht44 => ?_)
        have ex45 := (ht44 1 (by decide)).trans ex33
        have ex46 := (ht44 4 (by decide)).trans ht31
        have ex47 := (ht44 3 (by decide)).trans ex37
        refine sx_RP.ret (r := none) rfl rfl ?_
        exact ⟨rfl, hI41, hE42⟩
    · replace q27 := Decidable.not_not.mp (of_decide_eq_false q27)
      refine sx_RP.step (pc2 := 118) (ls2 := [(1, .int ((nI j) + 1)), (0, .ref 96)]) (st2 := []) (w3 := w) rfl rfl ?_
      rw [nI_1 j]
      refine sx_RP.step (pc2 := 91) (ls2 := [(1, .int (nI (j + 1))), (0, .ref 96)]) (st2 := []) (w3 := w) rfl rfl ?_
      exact sx_RP.ls (sx_lr.cons rfl (sx_lr.cons rfl sx_lr.nil)) (kk w hI hE (by omega))
set_option maxRecDepth 20000 in
set_option maxHeartbeats 4000000 in
theorem s94bL {xs : Option (List Int32)} {d : Nat} {w0 : List sx_C} : ∀ (fz j : Nat) (w : List sx_C) , 120 ≤ j + fz * 1 → j ≤ 120 → WI w → ET w0 w → sx_RP xs (d + 2) 94 91 [(0, .ref 96), (1, .int (nI j))] [] w (fun r w2 => (r = none) ∧ WI w2 ∧ ET w0 w2)
  | 0, j, w, h, hj, hI, hE => s94bB  hI hE hj   (fun w4  hI4 hE4 hlt  => absurd hlt (by omega)) 
  | fz + 1, j, w, h, hj, hI, hE => s94bB  hI hE hj   (fun w4  hI4 hE4 hlt  => s94bL   fz (j + 1) w4  (by omega) hlt hI4 hE4 ) 
set_option maxRecDepth 20000 in
set_option maxHeartbeats 4000000 in
theorem s94m {xs : Option (List Int32)} {d j : Nat} {w w0 : List sx_C} (hj : j ≤ 120) (hI : WI w) (hE : ET w0 w) : sx_RP xs (d + 2) 94 30 [(0, .ref 96), (1, .int (nI j))] [] w (fun r w2 => (r = none) ∧ WI w2 ∧ ET w0 w2) := by
  refine sx_RP.step (pc2 := 31) (ls2 := [(0, .ref 96), (1, .int (nI j))]) (st2 := [.ref 96]) (w3 := w) rfl rfl ?_
  refine sx_RP.step (pc2 := 32) (ls2 := [(0, .ref 96), (1, .int (nI j))]) (st2 := [.int (nI j), .ref 96]) (w3 := w) rfl rfl ?_
  refine sx_RP.ptT (k := 3) hI hE rfl rfl (by decide) rfl (inR.n (show j ≤ 120 by omega)) (show _ = 35 from rfl) (fun w1 hI2 hE3 ht4 ht5 => ?_)
  refine sx_RP.step (pc2 := 36) (ls2 := [(0, .ref 96), (1, .int (nI j))]) (st2 := [.ref 96]) (w3 := w1) rfl rfl ?_
  refine sx_RP.step (pc2 := 37) (ls2 := [(0, .ref 96), (1, .int (nI j))]) (st2 := [.int (nI j), .ref 96]) (w3 := w1) rfl rfl ?_
  refine sx_RP.step (pc2 := 38) (ls2 := [(0, .ref 96), (1, .int (nI j))]) (st2 := [.ref 96, .int (nI j), .ref 96]) (w3 := w1) rfl rfl ?_
  refine sx_RP.gt (k := 1) hI2 rfl rfl (by decide) (show _ = 41 from rfl) ?_
  obtain ⟨x6, hx7, ex8⟩ : inR (fi w1 96 1) 120 := hI2.t.1
  rw [ex8]
  refine sx_RP.br (p1 := 56) (l1 := [(0, .ref 96), (1, .int (nI j))]) (s1 := [.ref 96]) (v1 := w1) (p2 := 44) (l2 := [(0, .ref 96), (1, .int (nI j))]) (s2 := [.ref 96]) (v2 := w1) rfl rfl (fun q9 => ?_) (fun q9 => ?_)
  · replace q9 := of_decide_eq_true q9
    replace q9 := (nI_leI (a := x6) (b := j) (by omega) (by omega)).mp q9
    refine sx_RP.step (pc2 := 57) (ls2 := [(0, .ref 96), (1, .int (nI j))]) (st2 := [.int 0, .ref 96]) (w3 := w1) rfl rfl ?_
    refine sx_RP.ptT (k := 2) hI2 hE3 rfl rfl (by decide) rfl trivial (show _ = 60 from rfl) (fun w10 hI11 hE12 ht13 ht14 => ?_)
    have ex15 := (ht14 3 (by decide)).trans ht4
    have ex16 := (ht14 1 (by decide)).trans ex8
    refine sx_RP.step (pc2 := 61) (ls2 := [(0, .ref 96), (1, .int (nI j))]) (st2 := [.ref 96]) (w3 := w10) rfl rfl ?_
    refine sx_RP.step (pc2 := 62) (ls2 := [(0, .ref 96), (1, .int (nI j))]) (st2 := [.int 0, .ref 96]) (w3 := w10) rfl rfl ?_
    refine sx_RP.ptT (k := 5) hI11 hE12 rfl rfl (by decide) rfl trivial (show _ = 65 from rfl) (fun w17 hI18 hE19 ht20 ht21 => ?_)
    have ex22 := (ht21 3 (by decide)).trans ex15
    have ex23 := (ht21 1 (by decide)).trans ex16
    have ex24 := (ht21 2 (by decide)).trans ht13
    refine sx_RP.step (pc2 := 66) (ls2 := [(0, .ref 96), (1, .int (nI j))]) (st2 := [.ref 96]) (w3 := w17) rfl rfl ?_
    refine sx_RP.gt (k := 2) hI18 rfl rfl (by decide) (show _ = 69 from rfl) ?_
    rw [ex24]
    refine sx_RP.step (pc2 := 75) (ls2 := [(0, .ref 96), (1, .int (nI j))]) (st2 := []) (w3 := w17) rfl rfl ?_
    refine sx_RP.step (pc2 := 76) (ls2 := [(0, .ref 96), (1, .int (nI j))]) (st2 := [.ref 96]) (w3 := w17) rfl rfl ?_
    refine sx_RP.gt (k := 2) hI18 rfl rfl (by decide) (show _ = 79 from rfl) ?_
    rw [ex24]
    refine sx_RP.step (pc2 := 80) (ls2 := [(0, .ref 96), (1, .int (nI j))]) (st2 := [.int 1, .int 0]) (w3 := w17) rfl rfl ?_
    refine sx_RP.step (pc2 := 83) (ls2 := [(0, .ref 96), (1, .int (nI j))]) (st2 := []) (w3 := w17) rfl rfl ?_
    refine sx_RP.step (pc2 := 84) (ls2 := [(0, .ref 96), (1, .int (nI j))]) (st2 := [.ref 96]) (w3 := w17) rfl rfl ?_
    refine sx_RP.gt (k := 2) hI18 rfl rfl (by decide) (show _ = 87 from rfl) ?_
    rw [ex24]
    refine sx_RP.step (pc2 := 88) (ls2 := [(0, .ref 96), (1, .int (nI j))]) (st2 := [.int 2, .int 0]) (w3 := w17) rfl rfl ?_
    refine sx_RP.step (pc2 := 121) (ls2 := [(0, .ref 96), (1, .int (nI j))]) (st2 := []) (w3 := w17) rfl rfl ?_
    refine sx_RP.step (pc2 := 122) (ls2 := [(0, .ref 96), (1, .int (nI j))]) (st2 := [.ref 96]) (w3 := w17) rfl rfl ?_
    refine sx_RP.step (pc2 := 123) (ls2 := [(0, .ref 96), (1, .int (nI j))]) (st2 := [.int (nI j), .ref 96]) (w3 := w17) rfl rfl ?_
    refine sx_RP.ptT (k := 4) hI18 hE19 rfl rfl (by decide) rfl (inR.n (show j ≤ 120 by omega)) (show _ = 126 from rfl) (fun w25 hI26 hE27 ht28 ht29 => ?_)
    have ex30 := (ht29 3 (by decide)).trans ex22
    have ex31 := (ht29 1 (by decide)).trans ex23
    have ex32 := (ht29 2 (by decide)).trans ex24
    have ex33 := (ht29 5 (by decide)).trans ht20
    refine sx_RP.step (pc2 := 127) (ls2 := [(0, .ref 96), (1, .int (nI j))]) (st2 := [.ref 96]) (w3 := w25) rfl rfl ?_
    refine sx_RP.gt (k := 2) hI26 rfl rfl (by decide) (show _ = 130 from rfl) ?_
    rw [ex32]
    refine sx_RP.step (pc2 := 131) (ls2 := [(0, .ref 96), (1, .int (nI j))]) (st2 := [.int 2, .int 0]) (w3 := w25) rfl rfl ?_
    refine sx_RP.step (pc2 := 150) (ls2 := [(0, .ref 96), (1, .int (nI j))]) (st2 := []) (w3 := w25) rfl rfl ?_
    refine sx_RP.ret (r := none) rfl rfl ?_
    exact ⟨rfl, hI26, hE27⟩
  · replace q9 := of_decide_eq_false q9
    replace q9 := mt (nI_leI (a := x6) (b := j) (by omega) (by omega)).mpr q9
    refine sx_RP.step (pc2 := 45) (ls2 := [(0, .ref 96), (1, .int (nI j))]) (st2 := [.ref 96, .ref 96]) (w3 := w1) rfl rfl ?_
    refine sx_RP.gf (v := .ref 97) rfl rfl hI2.1.o96 rfl rfl (show _ = 48 from rfl) ?_
    refine sx_RP.step (pc2 := 49) (ls2 := [(0, .ref 96), (1, .int (nI j))]) (st2 := [.int (nI j), .ref 97, .ref 96]) (w3 := w1) rfl rfl ?_
    refine sx_RP.bld2 (c := j) rfl hI2.1.a97.1 hI2.1.a97.2 (sx_in_nI (show j < 120 by omega) (by decide)) (show (nI j).toNatClampNeg = j from nI_clamp (by omega)) (show _ = 50 from rfl) ?_
    obtain ⟨v34, c35⟩ := p95 hI2 ((ia w1 97).getD j 0)
    refine sx_RP.cu (as := [.int ((ia w1 97).getD j 0)]) (rest2 := [.ref 96]) (st3 := [.int v34, .ref 96]) rfl rfl rfl rfl rfl (c35) rfl ?_
    refine sx_RP.step (pc2 := 57) (ls2 := [(0, .ref 96), (1, .int (nI j))]) (st2 := [.int v34, .ref 96]) (w3 := w1) rfl rfl ?_
    refine sx_RP.ptT (k := 2) hI2 hE3 rfl rfl (by decide) rfl trivial (show _ = 60 from rfl) (fun w36 hI37 hE38 ht39 ht40 => ?_)
    have ex41 := (ht40 3 (by decide)).trans ht4
    have ex42 := (ht40 1 (by decide)).trans ex8
    refine sx_RP.step (pc2 := 61) (ls2 := [(0, .ref 96), (1, .int (nI j))]) (st2 := [.ref 96]) (w3 := w36) rfl rfl ?_
    refine sx_RP.step (pc2 := 62) (ls2 := [(0, .ref 96), (1, .int (nI j))]) (st2 := [.int 0, .ref 96]) (w3 := w36) rfl rfl ?_
    refine sx_RP.ptT (k := 5) hI37 hE38 rfl rfl (by decide) rfl trivial (show _ = 65 from rfl) (fun w43 hI44 hE45 ht46 ht47 => ?_)
    have ex48 := (ht47 3 (by decide)).trans ex41
    have ex49 := (ht47 1 (by decide)).trans ex42
    have ex50 := (ht47 2 (by decide)).trans ht39
    refine sx_RP.step (pc2 := 66) (ls2 := [(0, .ref 96), (1, .int (nI j))]) (st2 := [.ref 96]) (w3 := w43) rfl rfl ?_
    refine sx_RP.gt (k := 2) hI44 rfl rfl (by decide) (show _ = 69 from rfl) ?_
    rw [ex50]
    refine sx_RP.br (p1 := 75) (l1 := [(0, .ref 96), (1, .int (nI j))]) (s1 := []) (v1 := w43) (p2 := 72) (l2 := [(0, .ref 96), (1, .int (nI j))]) (s2 := []) (v2 := w43) rfl rfl (fun q51 => ?_) (fun q51 => ?_)
    · replace q51 := of_decide_eq_true q51
      refine sx_RP.step (pc2 := 76) (ls2 := [(0, .ref 96), (1, .int (nI j))]) (st2 := [.ref 96]) (w3 := w43) rfl rfl ?_
      refine sx_RP.gt (k := 2) hI44 rfl rfl (by decide) (show _ = 79 from rfl) ?_
      rw [ex50]
      refine sx_RP.step (pc2 := 80) (ls2 := [(0, .ref 96), (1, .int (nI j))]) (st2 := [.int 1, .int v34]) (w3 := w43) rfl rfl ?_
      refine sx_RP.br (p1 := 91) (l1 := [(0, .ref 96), (1, .int (nI j))]) (s1 := []) (v1 := w43) (p2 := 83) (l2 := [(0, .ref 96), (1, .int (nI j))]) (s2 := []) (v2 := w43) rfl rfl (fun q52 => ?_) (fun q52 => ?_)
      · replace q52 := of_decide_eq_true q52
        exact sx_RP.ls (sx_lr.cons rfl (sx_lr.cons rfl sx_lr.nil)) (s94bL 120 j w43 (by omega) (by omega) hI44 hE45)
      · replace q52 := of_decide_eq_false q52
        refine sx_RP.step (pc2 := 84) (ls2 := [(0, .ref 96), (1, .int (nI j))]) (st2 := [.ref 96]) (w3 := w43) rfl rfl ?_
        refine sx_RP.gt (k := 2) hI44 rfl rfl (by decide) (show _ = 87 from rfl) ?_
        rw [ex50]
        refine sx_RP.step (pc2 := 88) (ls2 := [(0, .ref 96), (1, .int (nI j))]) (st2 := [.int 2, .int v34]) (w3 := w43) rfl rfl ?_
        refine sx_RP.br (p1 := 121) (l1 := [(0, .ref 96), (1, .int (nI j))]) (s1 := []) (v1 := w43) (p2 := 91) (l2 := [(0, .ref 96), (1, .int (nI j))]) (s2 := []) (v2 := w43) rfl rfl (fun q53 => ?_) (fun q53 => ?_)
        · replace q53 := of_decide_eq_true q53
          refine sx_RP.step (pc2 := 122) (ls2 := [(0, .ref 96), (1, .int (nI j))]) (st2 := [.ref 96]) (w3 := w43) rfl rfl ?_
          refine sx_RP.step (pc2 := 123) (ls2 := [(0, .ref 96), (1, .int (nI j))]) (st2 := [.int (nI j), .ref 96]) (w3 := w43) rfl rfl ?_
          refine sx_RP.ptT (k := 4) hI44 hE45 rfl rfl (by decide) rfl (inR.n (show j ≤ 120 by omega)) (show _ = 126 from rfl) (fun w54 hI55 hE56 ht57 ht58 => ?_)
          have ex59 := (ht58 3 (by decide)).trans ex48
          have ex60 := (ht58 1 (by decide)).trans ex49
          have ex61 := (ht58 2 (by decide)).trans ex50
          have ex62 := (ht58 5 (by decide)).trans ht46
          refine sx_RP.step (pc2 := 127) (ls2 := [(0, .ref 96), (1, .int (nI j))]) (st2 := [.ref 96]) (w3 := w54) rfl rfl ?_
          refine sx_RP.gt (k := 2) hI55 rfl rfl (by decide) (show _ = 130 from rfl) ?_
          rw [ex61]
          refine sx_RP.step (pc2 := 131) (ls2 := [(0, .ref 96), (1, .int (nI j))]) (st2 := [.int 2, .int v34]) (w3 := w54) rfl rfl ?_
          refine sx_RP.br (p1 := 150) (l1 := [(0, .ref 96), (1, .int (nI j))]) (s1 := []) (v1 := w54) (p2 := 134) (l2 := [(0, .ref 96), (1, .int (nI j))]) (s2 := []) (v2 := w54) rfl rfl (fun q63 => ?_) (fun q63 => ?_)
          · replace q63 := of_decide_eq_true q63
            refine sx_RP.ret (r := none) rfl rfl ?_
            exact ⟨rfl, hI55, hE56⟩
          · replace q63 := Decidable.not_not.mp (of_decide_eq_false q63)
            refine sx_RP.step (pc2 := 135) (ls2 := [(0, .ref 96), (1, .int (nI j))]) (st2 := [.ref 96]) (w3 := w54) rfl rfl ?_
            refine sx_RP.step (pc2 := 136) (ls2 := [(0, .ref 96), (1, .int (nI j))]) (st2 := [.ref 96, .ref 96]) (w3 := w54) rfl rfl ?_
            refine sx_RP.step (pc2 := 137) (ls2 := [(0, .ref 96), (1, .int (nI j))]) (st2 := [.ref 96, .ref 96, .ref 96]) (w3 := w54) rfl rfl ?_
            refine sx_RP.gt (k := 3) hI55 rfl rfl (by decide) (show _ = 140 from rfl) ?_
            rw [ex59]
            refine sx_RP.step (pc2 := 141) (ls2 := [(0, .ref 96), (1, .int (nI j))]) (st2 := [.ref 96, .int (nI j), .ref 96, .ref 96]) (w3 := w54) rfl rfl ?_
            refine sx_RP.gt (k := 4) hI55 rfl rfl (by decide) (show _ = 144 from rfl) ?_
            rw [ht57]
            obtain ⟨v64, c65⟩ := p96 hI55 (show j ≤ 120 by omega) (show j ≤ 120 by omega)
            refine sx_RP.cu (as := [.ref 96, .int (nI j), .int (nI j)]) (rest2 := [.ref 96]) (st3 := [.int v64, .ref 96]) rfl rfl (sx_inv_v2 (mi := 94) (k := 162) (st := [.int (nI j), .int (nI j), .ref 96, .ref 96]) (w := w54) rfl rfl hI55.1.o96 rfl rfl rfl) rfl rfl (c65) rfl ?_
            refine sx_RP.ptT (k := 5) hI55 hE56 rfl rfl (by decide) rfl trivial (show _ = 150 from rfl) (fun w66 hI67 hE68 ht69 ht70 => ?_)
            have ex71 := (ht70 3 (by decide)).trans ex59
            have ex72 := (ht70 1 (by decide)).trans ex60
            have ex73 := (ht70 2 (by decide)).trans ex61
            have ex74 := (ht70 4 (by decide)).trans ht57
            refine sx_RP.ret (r := none) rfl rfl ?_
            exact ⟨rfl, hI67, hE68⟩
        · replace q53 := Decidable.not_not.mp (of_decide_eq_false q53)
          exact sx_RP.ls (sx_lr.cons rfl (sx_lr.cons rfl sx_lr.nil)) (s94bL 120 j w43 (by omega) (by omega) hI44 hE45)
    · replace q51 := of_decide_eq_false q51
      refine sx_RP.step (pc2 := 75) (ls2 := [(1, .int ((nI j) + 1)), (0, .ref 96)]) (st2 := []) (w3 := w43) rfl rfl ?_
      rw [nI_1 j]
      refine sx_RP.step (pc2 := 76) (ls2 := [(1, .int (nI (j + 1))), (0, .ref 96)]) (st2 := [.ref 96]) (w3 := w43) rfl rfl ?_
      refine sx_RP.gt (k := 2) hI44 rfl rfl (by decide) (show _ = 79 from rfl) ?_
      rw [ex50]
      refine sx_RP.step (pc2 := 80) (ls2 := [(1, .int (nI (j + 1))), (0, .ref 96)]) (st2 := [.int 1, .int v34]) (w3 := w43) rfl rfl ?_
      refine sx_RP.br (p1 := 91) (l1 := [(1, .int (nI (j + 1))), (0, .ref 96)]) (s1 := []) (v1 := w43) (p2 := 83) (l2 := [(1, .int (nI (j + 1))), (0, .ref 96)]) (s2 := []) (v2 := w43) rfl rfl (fun q75 => ?_) (fun q75 => ?_)
      · replace q75 := of_decide_eq_true q75
        exact sx_RP.ls (sx_lr.cons rfl (sx_lr.cons rfl sx_lr.nil)) (s94bL 120 (j + 1) w43 (by omega) (by omega) hI44 hE45)
      · replace q75 := of_decide_eq_false q75
        refine sx_RP.step (pc2 := 84) (ls2 := [(1, .int (nI (j + 1))), (0, .ref 96)]) (st2 := [.ref 96]) (w3 := w43) rfl rfl ?_
        refine sx_RP.gt (k := 2) hI44 rfl rfl (by decide) (show _ = 87 from rfl) ?_
        rw [ex50]
        refine sx_RP.step (pc2 := 88) (ls2 := [(1, .int (nI (j + 1))), (0, .ref 96)]) (st2 := [.int 2, .int v34]) (w3 := w43) rfl rfl ?_
        refine sx_RP.br (p1 := 121) (l1 := [(1, .int (nI (j + 1))), (0, .ref 96)]) (s1 := []) (v1 := w43) (p2 := 91) (l2 := [(1, .int (nI (j + 1))), (0, .ref 96)]) (s2 := []) (v2 := w43) rfl rfl (fun q76 => ?_) (fun q76 => ?_)
        · replace q76 := of_decide_eq_true q76
          refine sx_RP.step (pc2 := 122) (ls2 := [(1, .int (nI (j + 1))), (0, .ref 96)]) (st2 := [.ref 96]) (w3 := w43) rfl rfl ?_
          refine sx_RP.step (pc2 := 123) (ls2 := [(1, .int (nI (j + 1))), (0, .ref 96)]) (st2 := [.int (nI (j + 1)), .ref 96]) (w3 := w43) rfl rfl ?_
          refine sx_RP.ptT (k := 4) hI44 hE45 rfl rfl (by decide) rfl (inR.n (show (j + 1) ≤ 120 by omega)) (show _ = 126 from rfl) (fun w77 hI78 hE79 ht80 ht81 => ?_)
          have ex82 := (ht81 3 (by decide)).trans ex48
          have ex83 := (ht81 1 (by decide)).trans ex49
          have ex84 := (ht81 2 (by decide)).trans ex50
          have ex85 := (ht81 5 (by decide)).trans ht46
          refine sx_RP.step (pc2 := 127) (ls2 := [(1, .int (nI (j + 1))), (0, .ref 96)]) (st2 := [.ref 96]) (w3 := w77) rfl rfl ?_
          refine sx_RP.gt (k := 2) hI78 rfl rfl (by decide) (show _ = 130 from rfl) ?_
          rw [ex84]
          refine sx_RP.step (pc2 := 131) (ls2 := [(1, .int (nI (j + 1))), (0, .ref 96)]) (st2 := [.int 2, .int v34]) (w3 := w77) rfl rfl ?_
          refine sx_RP.br (p1 := 150) (l1 := [(1, .int (nI (j + 1))), (0, .ref 96)]) (s1 := []) (v1 := w77) (p2 := 134) (l2 := [(1, .int (nI (j + 1))), (0, .ref 96)]) (s2 := []) (v2 := w77) rfl rfl (fun q86 => ?_) (fun q86 => ?_)
          · replace q86 := of_decide_eq_true q86
            refine sx_RP.ret (r := none) rfl rfl ?_
            exact ⟨rfl, hI78, hE79⟩
          · replace q86 := Decidable.not_not.mp (of_decide_eq_false q86)
            refine sx_RP.step (pc2 := 135) (ls2 := [(1, .int (nI (j + 1))), (0, .ref 96)]) (st2 := [.ref 96]) (w3 := w77) rfl rfl ?_
            refine sx_RP.step (pc2 := 136) (ls2 := [(1, .int (nI (j + 1))), (0, .ref 96)]) (st2 := [.ref 96, .ref 96]) (w3 := w77) rfl rfl ?_
            refine sx_RP.step (pc2 := 137) (ls2 := [(1, .int (nI (j + 1))), (0, .ref 96)]) (st2 := [.ref 96, .ref 96, .ref 96]) (w3 := w77) rfl rfl ?_
            refine sx_RP.gt (k := 3) hI78 rfl rfl (by decide) (show _ = 140 from rfl) ?_
            rw [ex82]
            refine sx_RP.step (pc2 := 141) (ls2 := [(1, .int (nI (j + 1))), (0, .ref 96)]) (st2 := [.ref 96, .int (nI j), .ref 96, .ref 96]) (w3 := w77) rfl rfl ?_
            refine sx_RP.gt (k := 4) hI78 rfl rfl (by decide) (show _ = 144 from rfl) ?_
            rw [ht80]
            obtain ⟨v87, c88⟩ := p96 hI78 (show j ≤ 120 by omega) (show (j + 1) ≤ 120 by omega)
            refine sx_RP.cu (as := [.ref 96, .int (nI j), .int (nI (j + 1))]) (rest2 := [.ref 96]) (st3 := [.int v87, .ref 96]) rfl rfl (sx_inv_v2 (mi := 94) (k := 162) (st := [.int (nI (j + 1)), .int (nI j), .ref 96, .ref 96]) (w := w77) rfl rfl hI78.1.o96 rfl rfl rfl) rfl rfl (c88) rfl ?_
            refine sx_RP.ptT (k := 5) hI78 hE79 rfl rfl (by decide) rfl trivial (show _ = 150 from rfl) (fun w89 hI90 hE91 ht92 ht93 => ?_)
            have ex94 := (ht93 3 (by decide)).trans ex82
            have ex95 := (ht93 1 (by decide)).trans ex83
            have ex96 := (ht93 2 (by decide)).trans ex84
            have ex97 := (ht93 4 (by decide)).trans ht80
            refine sx_RP.ret (r := none) rfl rfl ?_
            exact ⟨rfl, hI90, hE91⟩
        · replace q76 := Decidable.not_not.mp (of_decide_eq_false q76)
          exact sx_RP.ls (sx_lr.cons rfl (sx_lr.cons rfl sx_lr.nil)) (s94bL 120 (j + 1) w43 (by omega) (by omega) hI44 hE45)
set_option maxRecDepth 20000 in
set_option maxHeartbeats 4000000 in
theorem s94aB {xs : Option (List Int32)} {d : Nat} {w w0 : List sx_C} (hI : WI w) (hE : ET w0 w) {j : Nat} (hj : j ≤ 120) (kk : ∀ (w4 : List sx_C), WI w4 → ET w0 w4 → j + 1 ≤ 120 → sx_RP xs (d + 2) 94 5 [(0, .ref 96), (1, .int (nI (j + 1)))] [] w4 (fun r w2 => (r = none) ∧ WI w2 ∧ ET w0 w2)) (kx30 : ∀ (w4 : List sx_C) (ui : Nat), WI w4 → ET w0 w4 → ui ≤ 120 → sx_RP xs (d + 2) 94 30 [(0, .ref 96), (1, .int (nI ui))] [] w4 (fun r w2 => (r = none) ∧ WI w2 ∧ ET w0 w2)) : sx_RP xs (d + 2) 94 5 [(0, .ref 96), (1, .int (nI j))] [] w (fun r w2 => (r = none) ∧ WI w2 ∧ ET w0 w2) := by
  refine sx_RP.step (pc2 := 6) (ls2 := [(0, .ref 96), (1, .int (nI j))]) (st2 := [.int (nI j)]) (w3 := w) rfl rfl ?_
  refine sx_RP.step (pc2 := 7) (ls2 := [(0, .ref 96), (1, .int (nI j))]) (st2 := [.ref 96, .int (nI j)]) (w3 := w) rfl rfl ?_
  refine sx_RP.gt (k := 1) hI rfl rfl (by decide) (show _ = 10 from rfl) ?_
  obtain ⟨x1, hx2, ex3⟩ : inR (fi w 96 1) 120 := hI.t.1
  rw [ex3]
  refine sx_RP.br (p1 := 30) (l1 := [(0, .ref 96), (1, .int (nI j))]) (s1 := []) (v1 := w) (p2 := 13) (l2 := [(0, .ref 96), (1, .int (nI j))]) (s2 := []) (v2 := w) rfl rfl (fun q4 => ?_) (fun q4 => ?_)
  · replace q4 := of_decide_eq_true q4
    replace q4 := (nI_leI (a := x1) (b := j) (by omega) (by omega)).mp q4
    exact sx_RP.ls (sx_lr.cons rfl (sx_lr.cons rfl sx_lr.nil)) (kx30 w j hI hE (by omega))
  · replace q4 := of_decide_eq_false q4
    replace q4 := mt (nI_leI (a := x1) (b := j) (by omega) (by omega)).mpr q4
    refine sx_RP.step (pc2 := 14) (ls2 := [(0, .ref 96), (1, .int (nI j))]) (st2 := [.ref 96]) (w3 := w) rfl rfl ?_
    refine sx_RP.gf (v := .ref 97) rfl rfl hI.1.o96 rfl rfl (show _ = 17 from rfl) ?_
    refine sx_RP.step (pc2 := 18) (ls2 := [(0, .ref 96), (1, .int (nI j))]) (st2 := [.int (nI j), .ref 97]) (w3 := w) rfl rfl ?_
    refine sx_RP.bld2 (c := j) rfl hI.1.a97.1 hI.1.a97.2 (sx_in_nI (show j < 120 by omega) (by decide)) (show (nI j).toNatClampNeg = j from nI_clamp (by omega)) (show _ = 19 from rfl) ?_
    refine sx_RP.step (pc2 := 21) (ls2 := [(0, .ref 96), (1, .int (nI j))]) (st2 := [.int 32, .int ((ia w 97).getD j 0)]) (w3 := w) rfl rfl ?_
    refine sx_RP.br (p1 := 30) (l1 := [(0, .ref 96), (1, .int (nI j))]) (s1 := []) (v1 := w) (p2 := 24) (l2 := [(0, .ref 96), (1, .int (nI j))]) (s2 := []) (v2 := w) rfl rfl (fun q5 => ?_) (fun q5 => ?_)
    · replace q5 := of_decide_eq_true q5
      exact sx_RP.ls (sx_lr.cons rfl (sx_lr.cons rfl sx_lr.nil)) (kx30 w j hI hE (by omega))
    · replace q5 := Decidable.not_not.mp (of_decide_eq_false q5)
      refine sx_RP.step (pc2 := 27) (ls2 := [(1, .int ((nI j) + 1)), (0, .ref 96)]) (st2 := []) (w3 := w) rfl rfl ?_
      rw [nI_1 j]
      refine sx_RP.step (pc2 := 5) (ls2 := [(1, .int (nI (j + 1))), (0, .ref 96)]) (st2 := []) (w3 := w) rfl rfl ?_
      exact sx_RP.ls (sx_lr.cons rfl (sx_lr.cons rfl sx_lr.nil)) (kk w hI hE (by omega))
set_option maxRecDepth 20000 in
set_option maxHeartbeats 4000000 in
theorem s94aL {xs : Option (List Int32)} {d : Nat} {w0 : List sx_C} (kx30 : ∀ (w4 : List sx_C) (ui : Nat), WI w4 → ET w0 w4 → ui ≤ 120 → sx_RP xs (d + 2) 94 30 [(0, .ref 96), (1, .int (nI ui))] [] w4 (fun r w2 => (r = none) ∧ WI w2 ∧ ET w0 w2)) : ∀ (fz j : Nat) (w : List sx_C) , 120 ≤ j + fz * 1 → j ≤ 120 → WI w → ET w0 w → sx_RP xs (d + 2) 94 5 [(0, .ref 96), (1, .int (nI j))] [] w (fun r w2 => (r = none) ∧ WI w2 ∧ ET w0 w2)
  | 0, j, w, h, hj, hI, hE => s94aB  hI hE hj   (fun w4  hI4 hE4 hlt  => absurd hlt (by omega)) kx30
  | fz + 1, j, w, h, hj, hI, hE => s94aB  hI hE hj   (fun w4  hI4 hE4 hlt  => s94aL  kx30 fz (j + 1) w4  (by omega) hlt hI4 hE4 ) kx30
set_option maxRecDepth 20000 in
set_option maxHeartbeats 4000000 in
theorem s94 {xs : Option (List Int32)} {d : Nat} {w : List sx_C} (hI : WI w) : sx_RP xs (d + 2) 94 0 (lv_args 0 [.ref 96]) [] w (fun r w2 => (r = none) ∧ WI w2 ∧ ET w w2) := by
  have hE : ET w w := ET.rf
  refine sx_RP.step (pc2 := 1) (ls2 := [(0, .ref 96)]) (st2 := [.ref 96]) (w3 := w) rfl rfl ?_
  refine sx_RP.gt (k := 4) hI rfl rfl (by decide) (show _ = 4 from rfl) ?_
  obtain ⟨x1, hx2, ex3⟩ : inR (fi w 96 4) 120 := hI.t.2.2
  rw [ex3]
  refine sx_RP.step (pc2 := 5) (ls2 := [(1, .int (nI x1)), (0, .ref 96)]) (st2 := []) (w3 := w) rfl rfl ?_
  exact sx_RP.ls (sx_lr.cons rfl (sx_lr.cons rfl sx_lr.nil)) (s94aL (fun w4 ui hI4 hE4 hui => s94m hui hI4 hE4) 120 x1 w (by omega) (by omega) hI hE)
set_option maxRecDepth 20000 in
set_option maxHeartbeats 4000000 in
theorem p103 {xs : Option (List Int32)} {d : Nat} {w : List sx_C} (hI : WI w) {m n : Nat} (hm : m < 2 ^ 31) (hn : n < 2 ^ 31) : sx_RU xs d 103 0 (lv_args 0 [.ref 96, .int (nI m), .int (nI n)]) [] w (some (.int 0)) w ∨ ((∃ v, (m ≤ v ∧ v ≤ n) ∧ fi w 96 5 = nI v) ∧ sx_RU xs d 103 0 (lv_args 0 [.ref 96, .int (nI m), .int (nI n)]) [] w (some (.int 1)) w) := by
  have h : sx_RP xs d 103 0 (lv_args 0 [.ref 96, .int (nI m), .int (nI n)]) [] w (fun r w2 => (r = some (.int 0) ∨ ((∃ v, (m ≤ v ∧ v ≤ n) ∧ fi w 96 5 = nI v) ∧ r = some (.int 1))) ∧ w2 = w) := by
    refine sx_RP.step (pc2 := 1) (ls2 := [(0, .ref 96), (1, .int (nI m)), (2, .int (nI n))]) (st2 := [.ref 96]) (w3 := w) rfl rfl ?_
    refine sx_RP.gt (k := 2) hI rfl rfl (by decide) (show _ = 4 from rfl) ?_
    refine sx_RP.step (pc2 := 5) (ls2 := [(0, .ref 96), (1, .int (nI m)), (2, .int (nI n))]) (st2 := [.int 2, .int (fi w 96 2)]) (w3 := w) rfl rfl ?_
    refine sx_RP.br (p1 := 28) (l1 := [(0, .ref 96), (1, .int (nI m)), (2, .int (nI n))]) (s1 := []) (v1 := w) (p2 := 8) (l2 := [(0, .ref 96), (1, .int (nI m)), (2, .int (nI n))]) (s2 := []) (v2 := w) rfl rfl (fun q1 => ?_) (fun q1 => ?_)
    · replace q1 := of_decide_eq_true q1
      refine sx_RP.step (pc2 := 29) (ls2 := [(0, .ref 96), (1, .int (nI m)), (2, .int (nI n))]) (st2 := [.int 0]) (w3 := w) rfl rfl ?_
      refine sx_RP.ret (r := (some (.int 0))) rfl rfl ?_
      exact ⟨Or.inl rfl, rfl⟩
    · replace q1 := Decidable.not_not.mp (of_decide_eq_false q1)
      refine sx_RP.step (pc2 := 9) (ls2 := [(0, .ref 96), (1, .int (nI m)), (2, .int (nI n))]) (st2 := [.ref 96]) (w3 := w) rfl rfl ?_
      refine sx_RP.gt (k := 5) hI rfl rfl (by decide) (show _ = 12 from rfl) ?_
      refine sx_RP.step (pc2 := 13) (ls2 := [(0, .ref 96), (1, .int (nI m)), (2, .int (nI n))]) (st2 := [.int (nI m), .int (fi w 96 5)]) (w3 := w) rfl rfl ?_
      refine sx_RP.br (p1 := 28) (l1 := [(0, .ref 96), (1, .int (nI m)), (2, .int (nI n))]) (s1 := []) (v1 := w) (p2 := 16) (l2 := [(0, .ref 96), (1, .int (nI m)), (2, .int (nI n))]) (s2 := []) (v2 := w) rfl rfl (fun q2 => ?_) (fun q2 => ?_)
      · replace q2 := of_decide_eq_true q2
        refine sx_RP.step (pc2 := 29) (ls2 := [(0, .ref 96), (1, .int (nI m)), (2, .int (nI n))]) (st2 := [.int 0]) (w3 := w) rfl rfl ?_
        refine sx_RP.ret (r := (some (.int 0))) rfl rfl ?_
        exact ⟨Or.inl rfl, rfl⟩
      · replace q2 := of_decide_eq_false q2
        refine sx_RP.step (pc2 := 17) (ls2 := [(0, .ref 96), (1, .int (nI m)), (2, .int (nI n))]) (st2 := [.ref 96]) (w3 := w) rfl rfl ?_
        refine sx_RP.gt (k := 5) hI rfl rfl (by decide) (show _ = 20 from rfl) ?_
        refine sx_RP.step (pc2 := 21) (ls2 := [(0, .ref 96), (1, .int (nI m)), (2, .int (nI n))]) (st2 := [.int (nI n), .int (fi w 96 5)]) (w3 := w) rfl rfl ?_
        refine sx_RP.br (p1 := 28) (l1 := [(0, .ref 96), (1, .int (nI m)), (2, .int (nI n))]) (s1 := []) (v1 := w) (p2 := 24) (l2 := [(0, .ref 96), (1, .int (nI m)), (2, .int (nI n))]) (s2 := []) (v2 := w) rfl rfl (fun q3 => ?_) (fun q3 => ?_)
        · replace q3 := of_decide_eq_true q3
          refine sx_RP.step (pc2 := 29) (ls2 := [(0, .ref 96), (1, .int (nI m)), (2, .int (nI n))]) (st2 := [.int 0]) (w3 := w) rfl rfl ?_
          refine sx_RP.ret (r := (some (.int 0))) rfl rfl ?_
          exact ⟨Or.inl rfl, rfl⟩
        · replace q3 := of_decide_eq_false q3
          refine sx_RP.step (pc2 := 25) (ls2 := [(0, .ref 96), (1, .int (nI m)), (2, .int (nI n))]) (st2 := [.int 1]) (w3 := w) rfl rfl ?_
          refine sx_RP.step (pc2 := 29) (ls2 := [(0, .ref 96), (1, .int (nI m)), (2, .int (nI n))]) (st2 := [.int 1]) (w3 := w) rfl rfl ?_
          refine sx_RP.ret (r := (some (.int 1))) rfl rfl ?_
          exact ⟨Or.inr ⟨val_of hm hn q2 q3, rfl⟩, rfl⟩
  obtain ⟨r, w2, h1, h2, rfl⟩ := h
  rcases h2 with rfl | ⟨hc, rfl⟩
  · exact Or.inl h1
  · exact Or.inr ⟨hc, h1⟩
set_option maxRecDepth 20000 in
set_option maxHeartbeats 4000000 in
theorem p101B {xs : Option (List Int32)} {d : Nat} {w : List sx_C} {k : UInt32} {n : Nat} (hk : 100 ≤ k.toNat ∧ k.toNat < 120) (en : sx_sn.getD (k.toNat - 100) 0 = n) (hn : n ≤ 7) {p : Nat} (ep : fi w 96 3 = nI p) (hp : p + n ≤ 120) (hI : WI w) {j : Nat} (hj : j ≤ 7) (kk : j + 1 ≤ 7 → sx_RP xs d 101 28 [(0, .ref 96), (1, .float k), (2, .int (nI (j + 1)))] [] w (fun r w2 => (∃ j, j ≤ 1 ∧ r = some (.int (nI j))) ∧ w2 = w)) : sx_RP xs d 101 28 [(0, .ref 96), (1, .float k), (2, .int (nI j))] [] w (fun r w2 => (∃ j, j ≤ 1 ∧ r = some (.int (nI j))) ∧ w2 = w) := by
  refine sx_RP.step (pc2 := 29) (ls2 := [(0, .ref 96), (1, .float k), (2, .int (nI j))]) (st2 := [.int (nI j)]) (w3 := w) rfl rfl ?_
  refine sx_RP.step (pc2 := 30) (ls2 := [(0, .ref 96), (1, .float k), (2, .int (nI j))]) (st2 := [.float k, .int (nI j)]) (w3 := w) rfl rfl ?_
  refine sx_RP.slen (n := n) hk en rfl rfl rfl (show _ = 33 from rfl) ?_
  refine sx_RP.br (p1 := 63) (l1 := [(0, .ref 96), (1, .float k), (2, .int (nI j))]) (s1 := []) (v1 := w) (p2 := 36) (l2 := [(0, .ref 96), (1, .float k), (2, .int (nI j))]) (s2 := []) (v2 := w) rfl rfl (fun q1 => ?_) (fun q1 => ?_)
  · replace q1 := of_decide_eq_true q1
    replace q1 := (nI_leI (a := n) (b := j) (by omega) (by omega)).mp q1
    refine sx_RP.step (pc2 := 64) (ls2 := [(0, .ref 96), (1, .float k), (2, .int (nI j))]) (st2 := [.int 1]) (w3 := w) rfl rfl ?_
    refine sx_RP.ret (r := (some (.int 1))) rfl rfl ?_
    exact ⟨⟨1, by decide, rfl⟩, rfl⟩
  · replace q1 := of_decide_eq_false q1
    replace q1 := mt (nI_leI (a := n) (b := j) (by omega) (by omega)).mpr q1
    refine sx_RP.step (pc2 := 37) (ls2 := [(0, .ref 96), (1, .float k), (2, .int (nI j))]) (st2 := [.ref 96]) (w3 := w) rfl rfl ?_
    refine sx_RP.gf (v := .ref 97) rfl rfl hI.1.o96 rfl rfl (show _ = 40 from rfl) ?_
    refine sx_RP.step (pc2 := 41) (ls2 := [(0, .ref 96), (1, .float k), (2, .int (nI j))]) (st2 := [.ref 96, .ref 97]) (w3 := w) rfl rfl ?_
    refine sx_RP.gt (k := 3) hI rfl rfl (by decide) (show _ = 44 from rfl) ?_
    rw [ep]
    refine sx_RP.step (pc2 := 45) (ls2 := [(0, .ref 96), (1, .float k), (2, .int (nI j))]) (st2 := [.int (nI j), .int (nI p), .ref 97]) (w3 := w) rfl rfl ?_
    refine sx_RP.step (pc2 := 46) (ls2 := [(0, .ref 96), (1, .float k), (2, .int (nI j))]) (st2 := [.int ((nI p) + (nI j)), .ref 97]) (w3 := w) rfl rfl ?_
    rw [show ((nI p) + (nI j) : Int32) = nI (p + j) from nI_add p j]
    refine sx_RP.bld2 (c := (p + j)) rfl hI.1.a97.1 hI.1.a97.2 (sx_in_nI (show (p + j) < 120 by omega) (by decide)) (show (nI (p + j)).toNatClampNeg = (p + j) from nI_clamp (by omega)) (show _ = 47 from rfl) ?_
    refine sx_RP.step (pc2 := 48) (ls2 := [(0, .ref 96), (1, .float k), (2, .int (nI j))]) (st2 := [.float k, .int ((ia w 97).getD (p + j) 0)]) (w3 := w) rfl rfl ?_
    refine sx_RP.step (pc2 := 49) (ls2 := [(0, .ref 96), (1, .float k), (2, .int (nI j))]) (st2 := [.int (nI j), .float k, .int ((ia w 97).getD (p + j) 0)]) (w3 := w) rfl rfl ?_
    refine sx_RP.schr (n := n) (x := j) hk en hn (show j < n by omega) rfl rfl rfl (show _ = 52 from rfl) ?_
    refine sx_RP.br (p1 := 57) (l1 := [(0, .ref 96), (1, .float k), (2, .int (nI j))]) (s1 := []) (v1 := w) (p2 := 55) (l2 := [(0, .ref 96), (1, .float k), (2, .int (nI j))]) (s2 := []) (v2 := w) rfl rfl (fun q2 => ?_) (fun q2 => ?_)
    · replace q2 := of_decide_eq_true q2
      refine sx_RP.step (pc2 := 60) (ls2 := [(2, .int ((nI j) + 1)), (0, .ref 96), (1, .float k)]) (st2 := []) (w3 := w) rfl rfl ?_
      rw [nI_1 j]
      refine sx_RP.step (pc2 := 28) (ls2 := [(2, .int (nI (j + 1))), (0, .ref 96), (1, .float k)]) (st2 := []) (w3 := w) rfl rfl ?_
      exact sx_RP.ls (sx_lr.cons rfl (sx_lr.cons rfl (sx_lr.cons rfl sx_lr.nil))) (kk (by omega))
    · replace q2 := of_decide_eq_false q2
      refine sx_RP.step (pc2 := 56) (ls2 := [(0, .ref 96), (1, .float k), (2, .int (nI j))]) (st2 := [.int 0]) (w3 := w) rfl rfl ?_
      refine sx_RP.ret (r := (some (.int 0))) rfl rfl ?_
      exact ⟨⟨0, by decide, rfl⟩, rfl⟩
set_option maxRecDepth 20000 in
set_option maxHeartbeats 4000000 in
theorem p101L {xs : Option (List Int32)} {d : Nat} {w : List sx_C} {k : UInt32} {n : Nat} (hk : 100 ≤ k.toNat ∧ k.toNat < 120) (en : sx_sn.getD (k.toNat - 100) 0 = n) (hn : n ≤ 7) {p : Nat} (ep : fi w 96 3 = nI p) (hp : p + n ≤ 120) (hI : WI w) : ∀ (fz j : Nat) , 7 ≤ j + fz * 1 → j ≤ 7 → sx_RP xs d 101 28 [(0, .ref 96), (1, .float k), (2, .int (nI j))] [] w (fun r w2 => (∃ j, j ≤ 1 ∧ r = some (.int (nI j))) ∧ w2 = w)
  | 0, j, h, hj => p101B hk en hn ep hp hI hj   (fun   hlt  => absurd hlt (by omega)) 
  | fz + 1, j, h, hj => p101B hk en hn ep hp hI hj   (fun   hlt  => p101L hk en hn ep hp hI  fz (j + 1)  (by omega) hlt ) 
set_option maxRecDepth 20000 in
set_option maxHeartbeats 4000000 in
theorem p101 {xs : Option (List Int32)} {d : Nat} {w : List sx_C} (hI : WI w) {k : UInt32} {n : Nat} (hk : 100 ≤ k.toNat ∧ k.toNat < 120) (en : sx_sn.getD (k.toNat - 100) 0 = n) (hn : n ≤ 7) : ∃ j, j ≤ 1 ∧ sx_RU xs d 101 0 (lv_args 0 [.ref 96, .float k]) [] w (some (.int (nI j))) w := by
  have h : sx_RP xs d 101 0 (lv_args 0 [.ref 96, .float k]) [] w (fun r w2 => (∃ j, j ≤ 1 ∧ r = some (.int (nI j))) ∧ w2 = w) := by
    refine sx_RP.step (pc2 := 1) (ls2 := [(0, .ref 96), (1, .float k)]) (st2 := [.ref 96]) (w3 := w) rfl rfl ?_
    refine sx_RP.gt (k := 2) hI rfl rfl (by decide) (show _ = 4 from rfl) ?_
    refine sx_RP.step (pc2 := 5) (ls2 := [(0, .ref 96), (1, .float k)]) (st2 := [.int 1, .int (fi w 96 2)]) (w3 := w) rfl rfl ?_
    refine sx_RP.br (p1 := 24) (l1 := [(0, .ref 96), (1, .float k)]) (s1 := []) (v1 := w) (p2 := 8) (l2 := [(0, .ref 96), (1, .float k)]) (s2 := []) (v2 := w) rfl rfl (fun q1 => ?_) (fun q1 => ?_)
    · replace q1 := of_decide_eq_true q1
      refine sx_RP.step (pc2 := 25) (ls2 := [(0, .ref 96), (1, .float k)]) (st2 := [.int 0]) (w3 := w) rfl rfl ?_
      refine sx_RP.ret (r := (some (.int 0))) rfl rfl ?_
      exact ⟨⟨0, by decide, rfl⟩, rfl⟩
    · replace q1 := Decidable.not_not.mp (of_decide_eq_false q1)
      refine sx_RP.step (pc2 := 9) (ls2 := [(0, .ref 96), (1, .float k)]) (st2 := [.ref 96]) (w3 := w) rfl rfl ?_
      refine sx_RP.gt (k := 4) hI rfl rfl (by decide) (show _ = 12 from rfl) ?_
      obtain ⟨x2, hx3, ex4⟩ : inR (fi w 96 4) 120 := hI.t.2.2
      rw [ex4]
      refine sx_RP.step (pc2 := 13) (ls2 := [(0, .ref 96), (1, .float k)]) (st2 := [.ref 96, .int (nI x2)]) (w3 := w) rfl rfl ?_
      refine sx_RP.gt (k := 3) hI rfl rfl (by decide) (show _ = 16 from rfl) ?_
      obtain ⟨x5, hx6, ex7⟩ : inR (fi w 96 3) 120 := hI.t.2.1
      rw [ex7]
      refine sx_RP.step (pc2 := 17) (ls2 := [(0, .ref 96), (1, .float k)]) (st2 := [.int ((nI x2) - (nI x5))]) (w3 := w) rfl rfl ?_
      refine sx_RP.step (pc2 := 18) (ls2 := [(0, .ref 96), (1, .float k)]) (st2 := [.float k, .int ((nI x2) - (nI x5))]) (w3 := w) rfl rfl ?_
      refine sx_RP.slen (n := n) hk en rfl rfl rfl (show _ = 21 from rfl) ?_
      refine sx_RP.br (p1 := 26) (l1 := [(0, .ref 96), (1, .float k)]) (s1 := []) (v1 := w) (p2 := 24) (l2 := [(0, .ref 96), (1, .float k)]) (s2 := []) (v2 := w) rfl rfl (fun q8 => ?_) (fun q8 => ?_)
      · replace q8 := of_decide_eq_true q8
        replace q8 := sub_eqN (a := x2) (b := x5) (c := n) (by omega) (by omega) (by omega) q8
        refine sx_RP.step (pc2 := 27) (ls2 := [(0, .ref 96), (1, .float k)]) (st2 := [.int 0]) (w3 := w) rfl rfl ?_
        refine sx_RP.step (pc2 := 28) (ls2 := [(2, .int 0), (0, .ref 96), (1, .float k)]) (st2 := []) (w3 := w) rfl rfl ?_
        exact sx_RP.ls (sx_lr.cons rfl (sx_lr.cons rfl (sx_lr.cons rfl sx_lr.nil))) (p101L hk en hn ex7 (by omega) hI 7 0 (by omega) (by omega))
      · replace q8 := of_decide_eq_false q8
        refine sx_RP.step (pc2 := 25) (ls2 := [(0, .ref 96), (1, .float k)]) (st2 := [.int 0]) (w3 := w) rfl rfl ?_
        refine sx_RP.ret (r := (some (.int 0))) rfl rfl ?_
        exact ⟨⟨0, by decide, rfl⟩, rfl⟩
  obtain ⟨r, w2, h1, ⟨j, hj, rfl⟩, rfl⟩ := h
  exact ⟨j, hj, h1⟩
theorem p100_0 {xs : Option (List Int32)} {d : Nat} {w : List sx_C} : sx_RU xs d 100 0 (lv_args 0 [.int 0]) [] w (some (.float 102)) w := sx_RU.step rfl rfl (sx_RU.step rfl rfl (sx_RU.step rfl rfl (sx_RU.ret rfl rfl)))
theorem p100_1 {xs : Option (List Int32)} {d : Nat} {w : List sx_C} : sx_RU xs d 100 0 (lv_args 0 [.int 1]) [] w (some (.float 113)) w := sx_RU.step rfl rfl (sx_RU.step rfl rfl (sx_RU.step rfl rfl (sx_RU.ret rfl rfl)))
theorem p100_2 {xs : Option (List Int32)} {d : Nat} {w : List sx_C} : sx_RU xs d 100 0 (lv_args 0 [.int 2]) [] w (some (.float 112)) w := sx_RU.step rfl rfl (sx_RU.step rfl rfl (sx_RU.step rfl rfl (sx_RU.ret rfl rfl)))
theorem p100_3 {xs : Option (List Int32)} {d : Nat} {w : List sx_C} : sx_RU xs d 100 0 (lv_args 0 [.int 3]) [] w (some (.float 118)) w := sx_RU.step rfl rfl (sx_RU.step rfl rfl (sx_RU.step rfl rfl (sx_RU.ret rfl rfl)))
theorem p100_4 {xs : Option (List Int32)} {d : Nat} {w : List sx_C} : sx_RU xs d 100 0 (lv_args 0 [.int 4]) [] w (some (.float 117)) w := sx_RU.step rfl rfl (sx_RU.step rfl rfl (sx_RU.step rfl rfl (sx_RU.ret rfl rfl)))
theorem p106_0 {xs : Option (List Int32)} {d : Nat} {w : List sx_C} : sx_RU xs d 106 0 (lv_args 0 [.int 0]) [] w (some (.float 106)) w := sx_RU.step rfl rfl (sx_RU.step rfl rfl (sx_RU.step rfl rfl (sx_RU.ret rfl rfl)))
theorem p106_1 {xs : Option (List Int32)} {d : Nat} {w : List sx_C} : sx_RU xs d 106 0 (lv_args 0 [.int 1]) [] w (some (.float 110)) w := sx_RU.step rfl rfl (sx_RU.step rfl rfl (sx_RU.step rfl rfl (sx_RU.ret rfl rfl)))
theorem p106_2 {xs : Option (List Int32)} {d : Nat} {w : List sx_C} : sx_RU xs d 106 0 (lv_args 0 [.int 2]) [] w (some (.float 114)) w := sx_RU.step rfl rfl (sx_RU.step rfl rfl (sx_RU.step rfl rfl (sx_RU.ret rfl rfl)))
theorem p106_3 {xs : Option (List Int32)} {d : Nat} {w : List sx_C} : sx_RU xs d 106 0 (lv_args 0 [.int 3]) [] w (some (.float 107)) w := sx_RU.step rfl rfl (sx_RU.step rfl rfl (sx_RU.step rfl rfl (sx_RU.ret rfl rfl)))
theorem p106_4 {xs : Option (List Int32)} {d : Nat} {w : List sx_C} : sx_RU xs d 106 0 (lv_args 0 [.int 4]) [] w (some (.float 105)) w := sx_RU.step rfl rfl (sx_RU.step rfl rfl (sx_RU.step rfl rfl (sx_RU.ret rfl rfl)))
theorem p106_5 {xs : Option (List Int32)} {d : Nat} {w : List sx_C} : sx_RU xs d 106 0 (lv_args 0 [.int 5]) [] w (some (.float 103)) w := sx_RU.step rfl rfl (sx_RU.step rfl rfl (sx_RU.step rfl rfl (sx_RU.ret rfl rfl)))
set_option maxRecDepth 20000 in
set_option maxHeartbeats 4000000 in
theorem p99 {xs : Option (List Int32)} {d : Nat} {w : List sx_C} (hI : WI w) : sx_RU xs (d + 1) 99 0 (lv_args 0 [.ref 96]) [] w (some (.int (-1))) w ∨ ∃ j, j ≤ 4 ∧ sx_RU xs (d + 1) 99 0 (lv_args 0 [.ref 96]) [] w (some (.int (nI j))) w := by
  have h : sx_RP xs (d + 1) 99 0 (lv_args 0 [.ref 96]) [] w (fun r w2 => (r = some (.int (-1)) ∨ ∃ j, j ≤ 4 ∧ r = some (.int (nI j))) ∧ w2 = w) := by
    refine sx_RP.step (pc2 := 1) (ls2 := [(0, .ref 96)]) (st2 := [.int 0]) (w3 := w) rfl rfl ?_
    refine sx_RP.step (pc2 := 2) (ls2 := [(1, .int 0), (0, .ref 96)]) (st2 := []) (w3 := w) rfl rfl ?_
    refine sx_RP.step (pc2 := 3) (ls2 := [(1, .int 0), (0, .ref 96)]) (st2 := [.int 0]) (w3 := w) rfl rfl ?_
    refine sx_RP.step (pc2 := 4) (ls2 := [(1, .int 0), (0, .ref 96)]) (st2 := [.int 5, .int 0]) (w3 := w) rfl rfl ?_
    refine sx_RP.step (pc2 := 7) (ls2 := [(1, .int 0), (0, .ref 96)]) (st2 := []) (w3 := w) rfl rfl ?_
    refine sx_RP.step (pc2 := 8) (ls2 := [(1, .int 0), (0, .ref 96)]) (st2 := [.ref 96]) (w3 := w) rfl rfl ?_
    refine sx_RP.step (pc2 := 9) (ls2 := [(1, .int 0), (0, .ref 96)]) (st2 := [.int 0, .ref 96]) (w3 := w) rfl rfl ?_
    refine sx_RP.cu (as := [.int 0]) (rest2 := [.ref 96]) (st3 := [.float 102, .ref 96]) rfl rfl rfl rfl rfl (p100_0) rfl ?_
    obtain ⟨x1, hx2, c3⟩ := p101 (xs := xs) (k := 102) hI (by decide) rfl (by decide)
    refine sx_RP.cu (as := [.ref 96, .float 102]) (rest2 := []) (st3 := [.int (nI x1)]) rfl rfl (sx_inv_v2 (mi := 99) (k := 52) (st := [.float 102, .ref 96]) (w := w) rfl rfl hI.1.o96 rfl rfl rfl) rfl rfl (c3) rfl ?_
    refine sx_RP.br (p1 := 20) (l1 := [(1, .int 0), (0, .ref 96)]) (s1 := []) (v1 := w) (p2 := 18) (l2 := [(1, .int 0), (0, .ref 96)]) (s2 := []) (v2 := w) rfl rfl (fun q4 => ?_) (fun q4 => ?_)
    · replace q4 := of_decide_eq_true q4
      replace q4 := (nI_eq (a := x1) (b := 0) (by omega) (by omega)).mp q4
      refine sx_RP.step (pc2 := 23) (ls2 := [(1, .int 1), (0, .ref 96)]) (st2 := []) (w3 := w) rfl rfl ?_
      refine sx_RP.step (pc2 := 2) (ls2 := [(1, .int 1), (0, .ref 96)]) (st2 := []) (w3 := w) rfl rfl ?_
      refine sx_RP.step (pc2 := 3) (ls2 := [(1, .int 1), (0, .ref 96)]) (st2 := [.int 1]) (w3 := w) rfl rfl ?_
      refine sx_RP.step (pc2 := 4) (ls2 := [(1, .int 1), (0, .ref 96)]) (st2 := [.int 5, .int 1]) (w3 := w) rfl rfl ?_
      refine sx_RP.step (pc2 := 7) (ls2 := [(1, .int 1), (0, .ref 96)]) (st2 := []) (w3 := w) rfl rfl ?_
      refine sx_RP.step (pc2 := 8) (ls2 := [(1, .int 1), (0, .ref 96)]) (st2 := [.ref 96]) (w3 := w) rfl rfl ?_
      refine sx_RP.step (pc2 := 9) (ls2 := [(1, .int 1), (0, .ref 96)]) (st2 := [.int 1, .ref 96]) (w3 := w) rfl rfl ?_
      refine sx_RP.cu (as := [.int 1]) (rest2 := [.ref 96]) (st3 := [.float 113, .ref 96]) rfl rfl rfl rfl rfl (p100_1) rfl ?_
      obtain ⟨x5, hx6, c7⟩ := p101 (xs := xs) (k := 113) hI (by decide) rfl (by decide)
      refine sx_RP.cu (as := [.ref 96, .float 113]) (rest2 := []) (st3 := [.int (nI x5)]) rfl rfl (sx_inv_v2 (mi := 99) (k := 52) (st := [.float 113, .ref 96]) (w := w) rfl rfl hI.1.o96 rfl rfl rfl) rfl rfl (c7) rfl ?_
      refine sx_RP.br (p1 := 20) (l1 := [(1, .int 1), (0, .ref 96)]) (s1 := []) (v1 := w) (p2 := 18) (l2 := [(1, .int 1), (0, .ref 96)]) (s2 := []) (v2 := w) rfl rfl (fun q8 => ?_) (fun q8 => ?_)
      · replace q8 := of_decide_eq_true q8
        replace q8 := (nI_eq (a := x5) (b := 0) (by omega) (by omega)).mp q8
        refine sx_RP.step (pc2 := 23) (ls2 := [(1, .int 2), (0, .ref 96)]) (st2 := []) (w3 := w) rfl rfl ?_
        refine sx_RP.step (pc2 := 2) (ls2 := [(1, .int 2), (0, .ref 96)]) (st2 := []) (w3 := w) rfl rfl ?_
        refine sx_RP.step (pc2 := 3) (ls2 := [(1, .int 2), (0, .ref 96)]) (st2 := [.int 2]) (w3 := w) rfl rfl ?_
        refine sx_RP.step (pc2 := 4) (ls2 := [(1, .int 2), (0, .ref 96)]) (st2 := [.int 5, .int 2]) (w3 := w) rfl rfl ?_
        refine sx_RP.step (pc2 := 7) (ls2 := [(1, .int 2), (0, .ref 96)]) (st2 := []) (w3 := w) rfl rfl ?_
        refine sx_RP.step (pc2 := 8) (ls2 := [(1, .int 2), (0, .ref 96)]) (st2 := [.ref 96]) (w3 := w) rfl rfl ?_
        refine sx_RP.step (pc2 := 9) (ls2 := [(1, .int 2), (0, .ref 96)]) (st2 := [.int 2, .ref 96]) (w3 := w) rfl rfl ?_
        refine sx_RP.cu (as := [.int 2]) (rest2 := [.ref 96]) (st3 := [.float 112, .ref 96]) rfl rfl rfl rfl rfl (p100_2) rfl ?_
        obtain ⟨x9, hx10, c11⟩ := p101 (xs := xs) (k := 112) hI (by decide) rfl (by decide)
        refine sx_RP.cu (as := [.ref 96, .float 112]) (rest2 := []) (st3 := [.int (nI x9)]) rfl rfl (sx_inv_v2 (mi := 99) (k := 52) (st := [.float 112, .ref 96]) (w := w) rfl rfl hI.1.o96 rfl rfl rfl) rfl rfl (c11) rfl ?_
        refine sx_RP.br (p1 := 20) (l1 := [(1, .int 2), (0, .ref 96)]) (s1 := []) (v1 := w) (p2 := 18) (l2 := [(1, .int 2), (0, .ref 96)]) (s2 := []) (v2 := w) rfl rfl (fun q12 => ?_) (fun q12 => ?_)
        · replace q12 := of_decide_eq_true q12
          replace q12 := (nI_eq (a := x9) (b := 0) (by omega) (by omega)).mp q12
          refine sx_RP.step (pc2 := 23) (ls2 := [(1, .int 3), (0, .ref 96)]) (st2 := []) (w3 := w) rfl rfl ?_
          refine sx_RP.step (pc2 := 2) (ls2 := [(1, .int 3), (0, .ref 96)]) (st2 := []) (w3 := w) rfl rfl ?_
          refine sx_RP.step (pc2 := 3) (ls2 := [(1, .int 3), (0, .ref 96)]) (st2 := [.int 3]) (w3 := w) rfl rfl ?_
          refine sx_RP.step (pc2 := 4) (ls2 := [(1, .int 3), (0, .ref 96)]) (st2 := [.int 5, .int 3]) (w3 := w) rfl rfl ?_
          refine sx_RP.step (pc2 := 7) (ls2 := [(1, .int 3), (0, .ref 96)]) (st2 := []) (w3 := w) rfl rfl ?_
          refine sx_RP.step (pc2 := 8) (ls2 := [(1, .int 3), (0, .ref 96)]) (st2 := [.ref 96]) (w3 := w) rfl rfl ?_
          refine sx_RP.step (pc2 := 9) (ls2 := [(1, .int 3), (0, .ref 96)]) (st2 := [.int 3, .ref 96]) (w3 := w) rfl rfl ?_
          refine sx_RP.cu (as := [.int 3]) (rest2 := [.ref 96]) (st3 := [.float 118, .ref 96]) rfl rfl rfl rfl rfl (p100_3) rfl ?_
          obtain ⟨x13, hx14, c15⟩ := p101 (xs := xs) (k := 118) hI (by decide) rfl (by decide)
          refine sx_RP.cu (as := [.ref 96, .float 118]) (rest2 := []) (st3 := [.int (nI x13)]) rfl rfl (sx_inv_v2 (mi := 99) (k := 52) (st := [.float 118, .ref 96]) (w := w) rfl rfl hI.1.o96 rfl rfl rfl) rfl rfl (c15) rfl ?_
          refine sx_RP.br (p1 := 20) (l1 := [(1, .int 3), (0, .ref 96)]) (s1 := []) (v1 := w) (p2 := 18) (l2 := [(1, .int 3), (0, .ref 96)]) (s2 := []) (v2 := w) rfl rfl (fun q16 => ?_) (fun q16 => ?_)
          · replace q16 := of_decide_eq_true q16
            replace q16 := (nI_eq (a := x13) (b := 0) (by omega) (by omega)).mp q16
            refine sx_RP.step (pc2 := 23) (ls2 := [(1, .int 4), (0, .ref 96)]) (st2 := []) (w3 := w) rfl rfl ?_
            refine sx_RP.step (pc2 := 2) (ls2 := [(1, .int 4), (0, .ref 96)]) (st2 := []) (w3 := w) rfl rfl ?_
            refine sx_RP.step (pc2 := 3) (ls2 := [(1, .int 4), (0, .ref 96)]) (st2 := [.int 4]) (w3 := w) rfl rfl ?_
            refine sx_RP.step (pc2 := 4) (ls2 := [(1, .int 4), (0, .ref 96)]) (st2 := [.int 5, .int 4]) (w3 := w) rfl rfl ?_
            refine sx_RP.step (pc2 := 7) (ls2 := [(1, .int 4), (0, .ref 96)]) (st2 := []) (w3 := w) rfl rfl ?_
            refine sx_RP.step (pc2 := 8) (ls2 := [(1, .int 4), (0, .ref 96)]) (st2 := [.ref 96]) (w3 := w) rfl rfl ?_
            refine sx_RP.step (pc2 := 9) (ls2 := [(1, .int 4), (0, .ref 96)]) (st2 := [.int 4, .ref 96]) (w3 := w) rfl rfl ?_
            refine sx_RP.cu (as := [.int 4]) (rest2 := [.ref 96]) (st3 := [.float 117, .ref 96]) rfl rfl rfl rfl rfl (p100_4) rfl ?_
            obtain ⟨x17, hx18, c19⟩ := p101 (xs := xs) (k := 117) hI (by decide) rfl (by decide)
            refine sx_RP.cu (as := [.ref 96, .float 117]) (rest2 := []) (st3 := [.int (nI x17)]) rfl rfl (sx_inv_v2 (mi := 99) (k := 52) (st := [.float 117, .ref 96]) (w := w) rfl rfl hI.1.o96 rfl rfl rfl) rfl rfl (c19) rfl ?_
            refine sx_RP.br (p1 := 20) (l1 := [(1, .int 4), (0, .ref 96)]) (s1 := []) (v1 := w) (p2 := 18) (l2 := [(1, .int 4), (0, .ref 96)]) (s2 := []) (v2 := w) rfl rfl (fun q20 => ?_) (fun q20 => ?_)
            · replace q20 := of_decide_eq_true q20
              replace q20 := (nI_eq (a := x17) (b := 0) (by omega) (by omega)).mp q20
              refine sx_RP.step (pc2 := 23) (ls2 := [(1, .int 5), (0, .ref 96)]) (st2 := []) (w3 := w) rfl rfl ?_
              refine sx_RP.step (pc2 := 2) (ls2 := [(1, .int 5), (0, .ref 96)]) (st2 := []) (w3 := w) rfl rfl ?_
              refine sx_RP.step (pc2 := 3) (ls2 := [(1, .int 5), (0, .ref 96)]) (st2 := [.int 5]) (w3 := w) rfl rfl ?_
              refine sx_RP.step (pc2 := 4) (ls2 := [(1, .int 5), (0, .ref 96)]) (st2 := [.int 5, .int 5]) (w3 := w) rfl rfl ?_
              refine sx_RP.step (pc2 := 26) (ls2 := [(1, .int 5), (0, .ref 96)]) (st2 := []) (w3 := w) rfl rfl ?_
              refine sx_RP.step (pc2 := 27) (ls2 := [(1, .int 5), (0, .ref 96)]) (st2 := [.int (-1)]) (w3 := w) rfl rfl ?_
              refine sx_RP.ret (r := (some (.int (-1)))) rfl rfl ?_
              exact ⟨Or.inl rfl, rfl⟩
            · replace q20 := of_decide_eq_false q20
              replace q20 := mt (nI_eq (a := x17) (b := 0) (by omega) (by omega)).mpr q20
              refine sx_RP.step (pc2 := 19) (ls2 := [(1, .int 4), (0, .ref 96)]) (st2 := [.int 4]) (w3 := w) rfl rfl ?_
              refine sx_RP.ret (r := (some (.int 4))) rfl rfl ?_
              exact ⟨Or.inr ⟨4, by decide, rfl⟩, rfl⟩
          · replace q16 := of_decide_eq_false q16
            replace q16 := mt (nI_eq (a := x13) (b := 0) (by omega) (by omega)).mpr q16
            refine sx_RP.step (pc2 := 19) (ls2 := [(1, .int 3), (0, .ref 96)]) (st2 := [.int 3]) (w3 := w) rfl rfl ?_
            refine sx_RP.ret (r := (some (.int 3))) rfl rfl ?_
            exact ⟨Or.inr ⟨3, by decide, rfl⟩, rfl⟩
        · replace q12 := of_decide_eq_false q12
          replace q12 := mt (nI_eq (a := x9) (b := 0) (by omega) (by omega)).mpr q12
          refine sx_RP.step (pc2 := 19) (ls2 := [(1, .int 2), (0, .ref 96)]) (st2 := [.int 2]) (w3 := w) rfl rfl ?_
          refine sx_RP.ret (r := (some (.int 2))) rfl rfl ?_
          exact ⟨Or.inr ⟨2, by decide, rfl⟩, rfl⟩
      · replace q8 := of_decide_eq_false q8
        replace q8 := mt (nI_eq (a := x5) (b := 0) (by omega) (by omega)).mpr q8
        refine sx_RP.step (pc2 := 19) (ls2 := [(1, .int 1), (0, .ref 96)]) (st2 := [.int 1]) (w3 := w) rfl rfl ?_
        refine sx_RP.ret (r := (some (.int 1))) rfl rfl ?_
        exact ⟨Or.inr ⟨1, by decide, rfl⟩, rfl⟩
    · replace q4 := of_decide_eq_false q4
      replace q4 := mt (nI_eq (a := x1) (b := 0) (by omega) (by omega)).mpr q4
      refine sx_RP.step (pc2 := 19) (ls2 := [(1, .int 0), (0, .ref 96)]) (st2 := [.int 0]) (w3 := w) rfl rfl ?_
      refine sx_RP.ret (r := (some (.int 0))) rfl rfl ?_
      exact ⟨Or.inr ⟨0, by decide, rfl⟩, rfl⟩
  obtain ⟨r, w2, h1, h2, rfl⟩ := h
  rcases h2 with rfl | ⟨j, hj, rfl⟩
  · exact Or.inl h1
  · exact Or.inr ⟨j, hj, h1⟩
set_option maxRecDepth 20000 in
set_option maxHeartbeats 4000000 in
theorem p105 {xs : Option (List Int32)} {d : Nat} {w : List sx_C} (hI : WI w) : sx_RU xs (d + 1) 105 0 (lv_args 0 [.ref 96]) [] w (some (.int (-1))) w ∨ ∃ j, j ≤ 5 ∧ sx_RU xs (d + 1) 105 0 (lv_args 0 [.ref 96]) [] w (some (.int (nI j))) w := by
  have h : sx_RP xs (d + 1) 105 0 (lv_args 0 [.ref 96]) [] w (fun r w2 => (r = some (.int (-1)) ∨ ∃ j, j ≤ 5 ∧ r = some (.int (nI j))) ∧ w2 = w) := by
    refine sx_RP.step (pc2 := 1) (ls2 := [(0, .ref 96)]) (st2 := [.int 0]) (w3 := w) rfl rfl ?_
    refine sx_RP.step (pc2 := 2) (ls2 := [(1, .int 0), (0, .ref 96)]) (st2 := []) (w3 := w) rfl rfl ?_
    refine sx_RP.step (pc2 := 3) (ls2 := [(1, .int 0), (0, .ref 96)]) (st2 := [.int 0]) (w3 := w) rfl rfl ?_
    refine sx_RP.step (pc2 := 5) (ls2 := [(1, .int 0), (0, .ref 96)]) (st2 := [.int 6, .int 0]) (w3 := w) rfl rfl ?_
    refine sx_RP.step (pc2 := 8) (ls2 := [(1, .int 0), (0, .ref 96)]) (st2 := []) (w3 := w) rfl rfl ?_
    refine sx_RP.step (pc2 := 9) (ls2 := [(1, .int 0), (0, .ref 96)]) (st2 := [.ref 96]) (w3 := w) rfl rfl ?_
    refine sx_RP.step (pc2 := 10) (ls2 := [(1, .int 0), (0, .ref 96)]) (st2 := [.int 0, .ref 96]) (w3 := w) rfl rfl ?_
    refine sx_RP.cu (as := [.int 0]) (rest2 := [.ref 96]) (st3 := [.float 106, .ref 96]) rfl rfl rfl rfl rfl (p106_0) rfl ?_
    obtain ⟨x1, hx2, c3⟩ := p101 (xs := xs) (k := 106) hI (by decide) rfl (by decide)
    refine sx_RP.cu (as := [.ref 96, .float 106]) (rest2 := []) (st3 := [.int (nI x1)]) rfl rfl (sx_inv_v2 (mi := 105) (k := 52) (st := [.float 106, .ref 96]) (w := w) rfl rfl hI.1.o96 rfl rfl rfl) rfl rfl (c3) rfl ?_
    refine sx_RP.br (p1 := 21) (l1 := [(1, .int 0), (0, .ref 96)]) (s1 := []) (v1 := w) (p2 := 19) (l2 := [(1, .int 0), (0, .ref 96)]) (s2 := []) (v2 := w) rfl rfl (fun q4 => ?_) (fun q4 => ?_)
    · replace q4 := of_decide_eq_true q4
      replace q4 := (nI_eq (a := x1) (b := 0) (by omega) (by omega)).mp q4
      refine sx_RP.step (pc2 := 24) (ls2 := [(1, .int 1), (0, .ref 96)]) (st2 := []) (w3 := w) rfl rfl ?_
      refine sx_RP.step (pc2 := 2) (ls2 := [(1, .int 1), (0, .ref 96)]) (st2 := []) (w3 := w) rfl rfl ?_
      refine sx_RP.step (pc2 := 3) (ls2 := [(1, .int 1), (0, .ref 96)]) (st2 := [.int 1]) (w3 := w) rfl rfl ?_
      refine sx_RP.step (pc2 := 5) (ls2 := [(1, .int 1), (0, .ref 96)]) (st2 := [.int 6, .int 1]) (w3 := w) rfl rfl ?_
      refine sx_RP.step (pc2 := 8) (ls2 := [(1, .int 1), (0, .ref 96)]) (st2 := []) (w3 := w) rfl rfl ?_
      refine sx_RP.step (pc2 := 9) (ls2 := [(1, .int 1), (0, .ref 96)]) (st2 := [.ref 96]) (w3 := w) rfl rfl ?_
      refine sx_RP.step (pc2 := 10) (ls2 := [(1, .int 1), (0, .ref 96)]) (st2 := [.int 1, .ref 96]) (w3 := w) rfl rfl ?_
      refine sx_RP.cu (as := [.int 1]) (rest2 := [.ref 96]) (st3 := [.float 110, .ref 96]) rfl rfl rfl rfl rfl (p106_1) rfl ?_
      obtain ⟨x5, hx6, c7⟩ := p101 (xs := xs) (k := 110) hI (by decide) rfl (by decide)
      refine sx_RP.cu (as := [.ref 96, .float 110]) (rest2 := []) (st3 := [.int (nI x5)]) rfl rfl (sx_inv_v2 (mi := 105) (k := 52) (st := [.float 110, .ref 96]) (w := w) rfl rfl hI.1.o96 rfl rfl rfl) rfl rfl (c7) rfl ?_
      refine sx_RP.br (p1 := 21) (l1 := [(1, .int 1), (0, .ref 96)]) (s1 := []) (v1 := w) (p2 := 19) (l2 := [(1, .int 1), (0, .ref 96)]) (s2 := []) (v2 := w) rfl rfl (fun q8 => ?_) (fun q8 => ?_)
      · replace q8 := of_decide_eq_true q8
        replace q8 := (nI_eq (a := x5) (b := 0) (by omega) (by omega)).mp q8
        refine sx_RP.step (pc2 := 24) (ls2 := [(1, .int 2), (0, .ref 96)]) (st2 := []) (w3 := w) rfl rfl ?_
        refine sx_RP.step (pc2 := 2) (ls2 := [(1, .int 2), (0, .ref 96)]) (st2 := []) (w3 := w) rfl rfl ?_
        refine sx_RP.step (pc2 := 3) (ls2 := [(1, .int 2), (0, .ref 96)]) (st2 := [.int 2]) (w3 := w) rfl rfl ?_
        refine sx_RP.step (pc2 := 5) (ls2 := [(1, .int 2), (0, .ref 96)]) (st2 := [.int 6, .int 2]) (w3 := w) rfl rfl ?_
        refine sx_RP.step (pc2 := 8) (ls2 := [(1, .int 2), (0, .ref 96)]) (st2 := []) (w3 := w) rfl rfl ?_
        refine sx_RP.step (pc2 := 9) (ls2 := [(1, .int 2), (0, .ref 96)]) (st2 := [.ref 96]) (w3 := w) rfl rfl ?_
        refine sx_RP.step (pc2 := 10) (ls2 := [(1, .int 2), (0, .ref 96)]) (st2 := [.int 2, .ref 96]) (w3 := w) rfl rfl ?_
        refine sx_RP.cu (as := [.int 2]) (rest2 := [.ref 96]) (st3 := [.float 114, .ref 96]) rfl rfl rfl rfl rfl (p106_2) rfl ?_
        obtain ⟨x9, hx10, c11⟩ := p101 (xs := xs) (k := 114) hI (by decide) rfl (by decide)
        refine sx_RP.cu (as := [.ref 96, .float 114]) (rest2 := []) (st3 := [.int (nI x9)]) rfl rfl (sx_inv_v2 (mi := 105) (k := 52) (st := [.float 114, .ref 96]) (w := w) rfl rfl hI.1.o96 rfl rfl rfl) rfl rfl (c11) rfl ?_
        refine sx_RP.br (p1 := 21) (l1 := [(1, .int 2), (0, .ref 96)]) (s1 := []) (v1 := w) (p2 := 19) (l2 := [(1, .int 2), (0, .ref 96)]) (s2 := []) (v2 := w) rfl rfl (fun q12 => ?_) (fun q12 => ?_)
        · replace q12 := of_decide_eq_true q12
          replace q12 := (nI_eq (a := x9) (b := 0) (by omega) (by omega)).mp q12
          refine sx_RP.step (pc2 := 24) (ls2 := [(1, .int 3), (0, .ref 96)]) (st2 := []) (w3 := w) rfl rfl ?_
          refine sx_RP.step (pc2 := 2) (ls2 := [(1, .int 3), (0, .ref 96)]) (st2 := []) (w3 := w) rfl rfl ?_
          refine sx_RP.step (pc2 := 3) (ls2 := [(1, .int 3), (0, .ref 96)]) (st2 := [.int 3]) (w3 := w) rfl rfl ?_
          refine sx_RP.step (pc2 := 5) (ls2 := [(1, .int 3), (0, .ref 96)]) (st2 := [.int 6, .int 3]) (w3 := w) rfl rfl ?_
          refine sx_RP.step (pc2 := 8) (ls2 := [(1, .int 3), (0, .ref 96)]) (st2 := []) (w3 := w) rfl rfl ?_
          refine sx_RP.step (pc2 := 9) (ls2 := [(1, .int 3), (0, .ref 96)]) (st2 := [.ref 96]) (w3 := w) rfl rfl ?_
          refine sx_RP.step (pc2 := 10) (ls2 := [(1, .int 3), (0, .ref 96)]) (st2 := [.int 3, .ref 96]) (w3 := w) rfl rfl ?_
          refine sx_RP.cu (as := [.int 3]) (rest2 := [.ref 96]) (st3 := [.float 107, .ref 96]) rfl rfl rfl rfl rfl (p106_3) rfl ?_
          obtain ⟨x13, hx14, c15⟩ := p101 (xs := xs) (k := 107) hI (by decide) rfl (by decide)
          refine sx_RP.cu (as := [.ref 96, .float 107]) (rest2 := []) (st3 := [.int (nI x13)]) rfl rfl (sx_inv_v2 (mi := 105) (k := 52) (st := [.float 107, .ref 96]) (w := w) rfl rfl hI.1.o96 rfl rfl rfl) rfl rfl (c15) rfl ?_
          refine sx_RP.br (p1 := 21) (l1 := [(1, .int 3), (0, .ref 96)]) (s1 := []) (v1 := w) (p2 := 19) (l2 := [(1, .int 3), (0, .ref 96)]) (s2 := []) (v2 := w) rfl rfl (fun q16 => ?_) (fun q16 => ?_)
          · replace q16 := of_decide_eq_true q16
            replace q16 := (nI_eq (a := x13) (b := 0) (by omega) (by omega)).mp q16
            refine sx_RP.step (pc2 := 24) (ls2 := [(1, .int 4), (0, .ref 96)]) (st2 := []) (w3 := w) rfl rfl ?_
            refine sx_RP.step (pc2 := 2) (ls2 := [(1, .int 4), (0, .ref 96)]) (st2 := []) (w3 := w) rfl rfl ?_
            refine sx_RP.step (pc2 := 3) (ls2 := [(1, .int 4), (0, .ref 96)]) (st2 := [.int 4]) (w3 := w) rfl rfl ?_
            refine sx_RP.step (pc2 := 5) (ls2 := [(1, .int 4), (0, .ref 96)]) (st2 := [.int 6, .int 4]) (w3 := w) rfl rfl ?_
            refine sx_RP.step (pc2 := 8) (ls2 := [(1, .int 4), (0, .ref 96)]) (st2 := []) (w3 := w) rfl rfl ?_
            refine sx_RP.step (pc2 := 9) (ls2 := [(1, .int 4), (0, .ref 96)]) (st2 := [.ref 96]) (w3 := w) rfl rfl ?_
            refine sx_RP.step (pc2 := 10) (ls2 := [(1, .int 4), (0, .ref 96)]) (st2 := [.int 4, .ref 96]) (w3 := w) rfl rfl ?_
            refine sx_RP.cu (as := [.int 4]) (rest2 := [.ref 96]) (st3 := [.float 105, .ref 96]) rfl rfl rfl rfl rfl (p106_4) rfl ?_
            obtain ⟨x17, hx18, c19⟩ := p101 (xs := xs) (k := 105) hI (by decide) rfl (by decide)
            refine sx_RP.cu (as := [.ref 96, .float 105]) (rest2 := []) (st3 := [.int (nI x17)]) rfl rfl (sx_inv_v2 (mi := 105) (k := 52) (st := [.float 105, .ref 96]) (w := w) rfl rfl hI.1.o96 rfl rfl rfl) rfl rfl (c19) rfl ?_
            refine sx_RP.br (p1 := 21) (l1 := [(1, .int 4), (0, .ref 96)]) (s1 := []) (v1 := w) (p2 := 19) (l2 := [(1, .int 4), (0, .ref 96)]) (s2 := []) (v2 := w) rfl rfl (fun q20 => ?_) (fun q20 => ?_)
            · replace q20 := of_decide_eq_true q20
              replace q20 := (nI_eq (a := x17) (b := 0) (by omega) (by omega)).mp q20
              refine sx_RP.step (pc2 := 24) (ls2 := [(1, .int 5), (0, .ref 96)]) (st2 := []) (w3 := w) rfl rfl ?_
              refine sx_RP.step (pc2 := 2) (ls2 := [(1, .int 5), (0, .ref 96)]) (st2 := []) (w3 := w) rfl rfl ?_
              refine sx_RP.step (pc2 := 3) (ls2 := [(1, .int 5), (0, .ref 96)]) (st2 := [.int 5]) (w3 := w) rfl rfl ?_
              refine sx_RP.step (pc2 := 5) (ls2 := [(1, .int 5), (0, .ref 96)]) (st2 := [.int 6, .int 5]) (w3 := w) rfl rfl ?_
              refine sx_RP.step (pc2 := 8) (ls2 := [(1, .int 5), (0, .ref 96)]) (st2 := []) (w3 := w) rfl rfl ?_
              refine sx_RP.step (pc2 := 9) (ls2 := [(1, .int 5), (0, .ref 96)]) (st2 := [.ref 96]) (w3 := w) rfl rfl ?_
              refine sx_RP.step (pc2 := 10) (ls2 := [(1, .int 5), (0, .ref 96)]) (st2 := [.int 5, .ref 96]) (w3 := w) rfl rfl ?_
              refine sx_RP.cu (as := [.int 5]) (rest2 := [.ref 96]) (st3 := [.float 103, .ref 96]) rfl rfl rfl rfl rfl (p106_5) rfl ?_
              obtain ⟨x21, hx22, c23⟩ := p101 (xs := xs) (k := 103) hI (by decide) rfl (by decide)
              refine sx_RP.cu (as := [.ref 96, .float 103]) (rest2 := []) (st3 := [.int (nI x21)]) rfl rfl (sx_inv_v2 (mi := 105) (k := 52) (st := [.float 103, .ref 96]) (w := w) rfl rfl hI.1.o96 rfl rfl rfl) rfl rfl (c23) rfl ?_
              refine sx_RP.br (p1 := 21) (l1 := [(1, .int 5), (0, .ref 96)]) (s1 := []) (v1 := w) (p2 := 19) (l2 := [(1, .int 5), (0, .ref 96)]) (s2 := []) (v2 := w) rfl rfl (fun q24 => ?_) (fun q24 => ?_)
              · replace q24 := of_decide_eq_true q24
                replace q24 := (nI_eq (a := x21) (b := 0) (by omega) (by omega)).mp q24
                refine sx_RP.step (pc2 := 24) (ls2 := [(1, .int 6), (0, .ref 96)]) (st2 := []) (w3 := w) rfl rfl ?_
                refine sx_RP.step (pc2 := 2) (ls2 := [(1, .int 6), (0, .ref 96)]) (st2 := []) (w3 := w) rfl rfl ?_
                refine sx_RP.step (pc2 := 3) (ls2 := [(1, .int 6), (0, .ref 96)]) (st2 := [.int 6]) (w3 := w) rfl rfl ?_
                refine sx_RP.step (pc2 := 5) (ls2 := [(1, .int 6), (0, .ref 96)]) (st2 := [.int 6, .int 6]) (w3 := w) rfl rfl ?_
                refine sx_RP.step (pc2 := 27) (ls2 := [(1, .int 6), (0, .ref 96)]) (st2 := []) (w3 := w) rfl rfl ?_
                refine sx_RP.step (pc2 := 28) (ls2 := [(1, .int 6), (0, .ref 96)]) (st2 := [.int (-1)]) (w3 := w) rfl rfl ?_
                refine sx_RP.ret (r := (some (.int (-1)))) rfl rfl ?_
                exact ⟨Or.inl rfl, rfl⟩
              · replace q24 := of_decide_eq_false q24
                replace q24 := mt (nI_eq (a := x21) (b := 0) (by omega) (by omega)).mpr q24
                refine sx_RP.step (pc2 := 20) (ls2 := [(1, .int 5), (0, .ref 96)]) (st2 := [.int 5]) (w3 := w) rfl rfl ?_
                refine sx_RP.ret (r := (some (.int 5))) rfl rfl ?_
                exact ⟨Or.inr ⟨5, by decide, rfl⟩, rfl⟩
            · replace q20 := of_decide_eq_false q20
              replace q20 := mt (nI_eq (a := x17) (b := 0) (by omega) (by omega)).mpr q20
              refine sx_RP.step (pc2 := 20) (ls2 := [(1, .int 4), (0, .ref 96)]) (st2 := [.int 4]) (w3 := w) rfl rfl ?_
              refine sx_RP.ret (r := (some (.int 4))) rfl rfl ?_
              exact ⟨Or.inr ⟨4, by decide, rfl⟩, rfl⟩
          · replace q16 := of_decide_eq_false q16
            replace q16 := mt (nI_eq (a := x13) (b := 0) (by omega) (by omega)).mpr q16
            refine sx_RP.step (pc2 := 20) (ls2 := [(1, .int 3), (0, .ref 96)]) (st2 := [.int 3]) (w3 := w) rfl rfl ?_
            refine sx_RP.ret (r := (some (.int 3))) rfl rfl ?_
            exact ⟨Or.inr ⟨3, by decide, rfl⟩, rfl⟩
        · replace q12 := of_decide_eq_false q12
          replace q12 := mt (nI_eq (a := x9) (b := 0) (by omega) (by omega)).mpr q12
          refine sx_RP.step (pc2 := 20) (ls2 := [(1, .int 2), (0, .ref 96)]) (st2 := [.int 2]) (w3 := w) rfl rfl ?_
          refine sx_RP.ret (r := (some (.int 2))) rfl rfl ?_
          exact ⟨Or.inr ⟨2, by decide, rfl⟩, rfl⟩
      · replace q8 := of_decide_eq_false q8
        replace q8 := mt (nI_eq (a := x5) (b := 0) (by omega) (by omega)).mpr q8
        refine sx_RP.step (pc2 := 20) (ls2 := [(1, .int 1), (0, .ref 96)]) (st2 := [.int 1]) (w3 := w) rfl rfl ?_
        refine sx_RP.ret (r := (some (.int 1))) rfl rfl ?_
        exact ⟨Or.inr ⟨1, by decide, rfl⟩, rfl⟩
    · replace q4 := of_decide_eq_false q4
      replace q4 := mt (nI_eq (a := x1) (b := 0) (by omega) (by omega)).mpr q4
      refine sx_RP.step (pc2 := 20) (ls2 := [(1, .int 0), (0, .ref 96)]) (st2 := [.int 0]) (w3 := w) rfl rfl ?_
      refine sx_RP.ret (r := (some (.int 0))) rfl rfl ?_
      exact ⟨Or.inr ⟨0, by decide, rfl⟩, rfl⟩
  obtain ⟨r, w2, h1, h2, rfl⟩ := h
  rcases h2 with rfl | ⟨j, hj, rfl⟩
  · exact Or.inl h1
  · exact Or.inr ⟨j, hj, h1⟩
end
