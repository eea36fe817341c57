-- 89y05.acts2.lean.txt
section
theorem addRow_c {l : List Int32} {n : Nat} {k s c y : Int32} : (((((((l.set (103 + 6 * n + 0) k).set (103 + 6 * n + 1) s).set (103 + 6 * n + 2) c).set (103 + 6 * n + 3) y).set (103 + 6 * n + 4) 0).set (103 + 6 * n + 5) 0).set 1 (nI (n + 1))) = addRow l n k s c y := by
  unfold addRow
  rw [List.set_comm _ _ (show 103 + 6 * n + 5 ≠ 1 by omega), List.set_comm _ _ (show 103 + 6 * n + 4 ≠ 1 by omega), List.set_comm _ _ (show 103 + 6 * n + 3 ≠ 1 by omega), List.set_comm _ _ (show 103 + 6 * n + 2 ≠ 1 by omega), List.set_comm _ _ (show 103 + 6 * n + 1 ≠ 1 by omega), List.set_comm _ _ (show 103 + 6 * n + 0 ≠ 1 by omega)]
set_option maxRecDepth 20000 in
set_option maxHeartbeats 4000000 in
theorem X25z {xs : Option (List Int32)} {d : Nat} {w : List sx_C} (hI : WI w) {A : Nat} (hA : isA A) {n k s c y : Nat} {l : List Int32} (hR : rel w A l) (hn : n ≤ 9) (en : l.getD 1 0 = nI n) (hk : k ≤ 5) (hs : s ≤ 1) (hc : c < 48) (hy : y ≤ 3) : sx_RP xs d 25 0 (lv_args 0 [.ref A, .int (nI k), .int (nI s), .int (nI c), .int (nI y)]) [] w (fun r w2 => (r = some (.int (nI n)) ∧ rel w2 A (addRow l n (nI k) (nI s) (nI c) (nI y))) ∧ WI w2 ∧ Out A w w2) := by
  have en0 := hR.many.trans en
  refine sx_RP.step (pc2 := 1) (ls2 := [(0, .ref A), (1, .int (nI k)), (2, .int (nI s)), (3, .int (nI c)), (4, .int (nI y))]) (st2 := [.ref A]) (w3 := w) rfl rfl ?_
  refine sx_RP.gref (k := 2) (b := A + 2) hI hA rfl rfl (by omega) (show _ = 4 from rfl) ?_
  refine sx_RP.step (pc2 := 5) (ls2 := [(0, .ref A), (1, .int (nI k)), (2, .int (nI s)), (3, .int (nI c)), (4, .int (nI y))]) (st2 := [.ref A, .ref (A + 2)]) (w3 := w) rfl rfl ?_
  refine sx_RP.gc (k := 3) hI hA rfl rfl (by omega) (show _ = 8 from rfl) ?_
  rw [en0]
  refine sx_RP.ald (v := .ref (A + 4 + n)) rfl (hI.1.aG hA) rfl (grA_at (show n < 10 by omega)) (show _ = 9 from rfl) ?_
  refine sx_RP.step (pc2 := 11) (ls2 := [(5, .ref (A + 4 + n)), (0, .ref A), (1, .int (nI k)), (2, .int (nI s)), (3, .int (nI c)), (4, .int (nI y))]) (st2 := []) (w3 := w) rfl rfl ?_
  refine sx_RP.step (pc2 := 13) (ls2 := [(5, .ref (A + 4 + n)), (0, .ref A), (1, .int (nI k)), (2, .int (nI s)), (3, .int (nI c)), (4, .int (nI y))]) (st2 := [.ref (A + 4 + n)]) (w3 := w) rfl rfl ?_
  refine sx_RP.step (pc2 := 14) (ls2 := [(5, .ref (A + 4 + n)), (0, .ref A), (1, .int (nI k)), (2, .int (nI s)), (3, .int (nI c)), (4, .int (nI y))]) (st2 := [.int (nI k), .ref (A + 4 + n)]) (w3 := w) rfl rfl ?_
  refine sx_RP.xG (k := 0) hI (gAd.of hA (show n < 10 by omega)) rfl rfl (by decide) rfl (inR.n (show k ≤ 5 by omega)) (show _ = 17 from rfl) (fun w1 hI2 hs3 hv4 hr5 => ?_)
  have ex6 := (fi_same 3 (hs3 A (by omega))).trans en0
  refine sx_RP.step (pc2 := 19) (ls2 := [(5, .ref (A + 4 + n)), (0, .ref A), (1, .int (nI k)), (2, .int (nI s)), (3, .int (nI c)), (4, .int (nI y))]) (st2 := [.ref (A + 4 + n)]) (w3 := w1) rfl rfl ?_
  refine sx_RP.step (pc2 := 20) (ls2 := [(5, .ref (A + 4 + n)), (0, .ref A), (1, .int (nI k)), (2, .int (nI s)), (3, .int (nI c)), (4, .int (nI y))]) (st2 := [.int (nI s), .ref (A + 4 + n)]) (w3 := w1) rfl rfl ?_
  refine sx_RP.xG (k := 1) hI2 (gAd.of hA (show n < 10 by omega)) rfl rfl (by decide) rfl (inR.n (show s ≤ 1 by omega)) (show _ = 23 from rfl) (fun w7 hI8 hs9 hv10 hr11 => ?_)
  have ex12 := (fi_same 3 (hs9 A (by omega))).trans ex6
  refine sx_RP.step (pc2 := 25) (ls2 := [(5, .ref (A + 4 + n)), (0, .ref A), (1, .int (nI k)), (2, .int (nI s)), (3, .int (nI c)), (4, .int (nI y))]) (st2 := [.ref (A + 4 + n)]) (w3 := w7) rfl rfl ?_
  refine sx_RP.step (pc2 := 26) (ls2 := [(5, .ref (A + 4 + n)), (0, .ref A), (1, .int (nI k)), (2, .int (nI s)), (3, .int (nI c)), (4, .int (nI y))]) (st2 := [.int (nI c), .ref (A + 4 + n)]) (w3 := w7) rfl rfl ?_
  refine sx_RP.xG (k := 2) hI8 (gAd.of hA (show n < 10 by omega)) rfl rfl (by decide) rfl (inR.n (show c ≤ 47 by omega)) (show _ = 29 from rfl) (fun w13 hI14 hs15 hv16 hr17 => ?_)
  have ex18 := (fi_same 3 (hs15 A (by omega))).trans ex12
  refine sx_RP.step (pc2 := 31) (ls2 := [(5, .ref (A + 4 + n)), (0, .ref A), (1, .int (nI k)), (2, .int (nI s)), (3, .int (nI c)), (4, .int (nI y))]) (st2 := [.ref (A + 4 + n)]) (w3 := w13) rfl rfl ?_
  refine sx_RP.step (pc2 := 33) (ls2 := [(5, .ref (A + 4 + n)), (0, .ref A), (1, .int (nI k)), (2, .int (nI s)), (3, .int (nI c)), (4, .int (nI y))]) (st2 := [.int (nI y), .ref (A + 4 + n)]) (w3 := w13) rfl rfl ?_
  refine sx_RP.xG (k := 3) hI14 (gAd.of hA (show n < 10 by omega)) rfl rfl (by decide) rfl (inR.n (show y ≤ 3 by omega)) (show _ = 36 from rfl) (fun w19 hI20 hs21 hv22 hr23 => ?_)
  have ex24 := (fi_same 3 (hs21 A (by omega))).trans ex18
  refine sx_RP.step (pc2 := 38) (ls2 := [(5, .ref (A + 4 + n)), (0, .ref A), (1, .int (nI k)), (2, .int (nI s)), (3, .int (nI c)), (4, .int (nI y))]) (st2 := [.ref (A + 4 + n)]) (w3 := w19) rfl rfl ?_
  refine sx_RP.step (pc2 := 39) (ls2 := [(5, .ref (A + 4 + n)), (0, .ref A), (1, .int (nI k)), (2, .int (nI s)), (3, .int (nI c)), (4, .int (nI y))]) (st2 := [.int 0, .ref (A + 4 + n)]) (w3 := w19) rfl rfl ?_
  refine sx_RP.xG (k := 4) hI20 (gAd.of hA (show n < 10 by omega)) rfl rfl (by decide) rfl trivial (show _ = 42 from rfl) (fun w25 hI26 hs27 hv28 hr29 => ?_)
  have ex30 := (fi_same 3 (hs27 A (by omega))).trans ex24
  refine sx_RP.step (pc2 := 44) (ls2 := [(5, .ref (A + 4 + n)), (0, .ref A), (1, .int (nI k)), (2, .int (nI s)), (3, .int (nI c)), (4, .int (nI y))]) (st2 := [.ref (A + 4 + n)]) (w3 := w25) rfl rfl ?_
  refine sx_RP.step (pc2 := 45) (ls2 := [(5, .ref (A + 4 + n)), (0, .ref A), (1, .int (nI k)), (2, .int (nI s)), (3, .int (nI c)), (4, .int (nI y))]) (st2 := [.int 0, .ref (A + 4 + n)]) (w3 := w25) rfl rfl ?_
  refine sx_RP.xG (k := 5) hI26 (gAd.of hA (show n < 10 by omega)) rfl rfl (by decide) rfl (show inR 0 1 from ⟨0, by decide, rfl⟩) (show _ = 48 from rfl) (fun w31 hI32 hs33 hv34 hr35 => ?_)
  have ex36 := (fi_same 3 (hs33 A (by omega))).trans ex30
  refine sx_RP.step (pc2 := 49) (ls2 := [(5, .ref (A + 4 + n)), (0, .ref A), (1, .int (nI k)), (2, .int (nI s)), (3, .int (nI c)), (4, .int (nI y))]) (st2 := [.ref A]) (w3 := w31) rfl rfl ?_
  refine sx_RP.step (pc2 := 50) (ls2 := [(5, .ref (A + 4 + n)), (0, .ref A), (1, .int (nI k)), (2, .int (nI s)), (3, .int (nI c)), (4, .int (nI y))]) (st2 := [.ref A, .ref A]) (w3 := w31) rfl rfl ?_
  refine sx_RP.gc (k := 3) hI32 hA rfl rfl (by omega) (show _ = 53 from rfl) ?_
  rw [ex36]
  refine sx_RP.step (pc2 := 54) (ls2 := [(5, .ref (A + 4 + n)), (0, .ref A), (1, .int (nI k)), (2, .int (nI s)), (3, .int (nI c)), (4, .int (nI y))]) (st2 := [.int 1, .int (nI n), .ref A]) (w3 := w31) rfl rfl ?_
  refine sx_RP.step (pc2 := 55) (ls2 := [(5, .ref (A + 4 + n)), (0, .ref A), (1, .int (nI k)), (2, .int (nI s)), (3, .int (nI c)), (4, .int (nI y))]) (st2 := [.int ((nI n) + 1), .ref A]) (w3 := w31) rfl rfl ?_
  rw [show ((nI n) + 1 : Int32) = nI (n + 1) from nI_add n 1]
  refine sx_RP.xC (k := 3) hI32 hA rfl rfl (by omega) rfl (inR.n (show (n + 1) ≤ 10 by omega)) (show _ = 58 from rfl) (fun w37 hI38 hs39 hv40 hr41 hj42 => ?_)
  refine sx_RP.step (pc2 := 59) (ls2 := [(5, .ref (A + 4 + n)), (0, .ref A), (1, .int (nI k)), (2, .int (nI s)), (3, .int (nI c)), (4, .int (nI y))]) (st2 := [.ref A]) (w3 := w37) rfl rfl ?_
  refine sx_RP.gc (k := 3) hI38 hA rfl rfl (by omega) (show _ = 62 from rfl) ?_
  rw [hv40]
  refine sx_RP.step (pc2 := 63) (ls2 := [(5, .ref (A + 4 + n)), (0, .ref A), (1, .int (nI k)), (2, .int (nI s)), (3, .int (nI c)), (4, .int (nI y))]) (st2 := [.int 1, .int (nI (n + 1))]) (w3 := w37) rfl rfl ?_
  refine sx_RP.step (pc2 := 64) (ls2 := [(5, .ref (A + 4 + n)), (0, .ref A), (1, .int (nI k)), (2, .int (nI s)), (3, .int (nI c)), (4, .int (nI y))]) (st2 := [.int ((nI (n + 1)) - 1)]) (w3 := w37) rfl rfl ?_
  rw [show ((nI (n + 1)) - 1 : Int32) = nI ((n + 1) - 1) from nI_sub (a := (n + 1)) (b := 1) (by omega)]
  refine sx_RP.ret (r := (some (.int (nI ((n + 1) - 1))))) rfl rfl ?_
  have hR0 : rel w1 A (l.set (103 + 6 * n + 0) (nI k)) := hR.sGa (by omega) (by decide) hs3 hv4 hr5
  have hR1 : rel w7 A ((l.set (103 + 6 * n + 0) (nI k)).set (103 + 6 * n + 1) (nI s)) := hR0.sGa (by omega) (by decide) hs9 hv10 hr11
  have hR2 : rel w13 A (((l.set (103 + 6 * n + 0) (nI k)).set (103 + 6 * n + 1) (nI s)).set (103 + 6 * n + 2) (nI c)) := hR1.sGa (by omega) (by decide) hs15 hv16 hr17
  have hR3 : rel w19 A ((((l.set (103 + 6 * n + 0) (nI k)).set (103 + 6 * n + 1) (nI s)).set (103 + 6 * n + 2) (nI c)).set (103 + 6 * n + 3) (nI y)) := hR2.sGa (by omega) (by decide) hs21 hv22 hr23
  have hR4 : rel w25 A (((((l.set (103 + 6 * n + 0) (nI k)).set (103 + 6 * n + 1) (nI s)).set (103 + 6 * n + 2) (nI c)).set (103 + 6 * n + 3) (nI y)).set (103 + 6 * n + 4) 0) := hR3.sGa (by omega) (by decide) hs27 hv28 hr29
  have hR5 : rel w31 A ((((((l.set (103 + 6 * n + 0) (nI k)).set (103 + 6 * n + 1) (nI s)).set (103 + 6 * n + 2) (nI c)).set (103 + 6 * n + 3) (nI y)).set (103 + 6 * n + 4) 0).set (103 + 6 * n + 5) 0) := hR4.sGa (by omega) (by decide) hs33 hv34 hr35
  have en6 : ((((((l.set (103 + 6 * n + 0) (nI k)).set (103 + 6 * n + 1) (nI s)).set (103 + 6 * n + 2) (nI c)).set (103 + 6 * n + 3) (nI y)).set (103 + 6 * n + 4) 0).set (103 + 6 * n + 5) 0).getD 1 0 = nI n := by rw [gd_ne (by omega), gd_ne (by omega), gd_ne (by omega), gd_ne (by omega), gd_ne (by omega), gd_ne (by omega)]; exact en
  have hnew : ∀ q, q < 6 → fi w31 (A + 4 + n) q = ((((((l.set (103 + 6 * n + 0) (nI k)).set (103 + 6 * n + 1) (nI s)).set (103 + 6 * n + 2) (nI c)).set (103 + 6 * n + 3) (nI y)).set (103 + 6 * n + 4) 0).set (103 + 6 * n + 5) 0).getD (103 + 6 * n + q) 0 := by
    intro q hq
    have hl := hR.len
    rcases (show q = 0 ∨ q = 1 ∨ q = 2 ∨ q = 3 ∨ q = 4 ∨ q = 5 by omega) with rfl | rfl | rfl | rfl | rfl | rfl
    · rw [gd_ne (by omega), gd_ne (by omega), gd_ne (by omega), gd_ne (by omega), gd_ne (by omega), gd_eq (by omega)]
      exact (hr35 0 (by decide)).trans ((hr29 0 (by decide)).trans ((hr23 0 (by decide)).trans ((hr17 0 (by decide)).trans ((hr11 0 (by decide)).trans (hv4)))))
    · rw [gd_ne (by omega), gd_ne (by omega), gd_ne (by omega), gd_ne (by omega), gd_eq (by rw [List.length_set]; omega)]
      exact (hr35 1 (by decide)).trans ((hr29 1 (by decide)).trans ((hr23 1 (by decide)).trans ((hr17 1 (by decide)).trans (hv10))))
    · rw [gd_ne (by omega), gd_ne (by omega), gd_ne (by omega), gd_eq (by rw [List.length_set, List.length_set]; omega)]
      exact (hr35 2 (by decide)).trans ((hr29 2 (by decide)).trans ((hr23 2 (by decide)).trans (hv16)))
    · rw [gd_ne (by omega), gd_ne (by omega), gd_eq (by rw [List.length_set, List.length_set, List.length_set]; omega)]
      exact (hr35 3 (by decide)).trans ((hr29 3 (by decide)).trans (hv22))
    · rw [gd_ne (by omega), gd_eq (by rw [List.length_set, List.length_set, List.length_set, List.length_set]; omega)]
      exact (hr35 4 (by decide)).trans (hv28)
    · rw [gd_eq (by rw [List.length_set, List.length_set, List.length_set, List.length_set, List.length_set]; omega)]
      exact hv34
  have hf := hR5.sMany hn en6 hnew hs39 hv40 hr41 hj42
  rw [addRow_c] at hf
  exact ⟨⟨by rw [Nat.add_sub_cancel], hf⟩, hI38, (Out.st (Out.st (Out.st (Out.st (Out.st (Out.st (Out.st Out.rf hs3 (by omega)) hs9 (by omega)) hs15 (by omega)) hs21 (by omega)) hs27 (by omega)) hs33 (by omega)) hs39 (by omega))⟩
set_option maxRecDepth 20000 in
set_option maxHeartbeats 4000000 in
theorem X64z {xs : Option (List Int32)} {d : Nat} {w : List sx_C} (hI : WI w) {A : Nat} (hA : isA A) {n c : Nat} {l : List Int32} (hR : rel w A l) (hn : n ≤ 8) (en : l.getD 2 0 = nI n) (hc : c < 48) : sx_RP xs d 64 0 (lv_args 0 [.ref A, .int (nI c)]) [] w (fun r w2 => (r = some (.int (nI n)) ∧ rel w2 A ((l.set (163 + n) (nI c)).set 2 (nI (n + 1)))) ∧ WI w2 ∧ Out A w w2) := by
  have en0 := hR.dished.trans en
  refine sx_RP.step (pc2 := 1) (ls2 := [(0, .ref A), (1, .int (nI c))]) (st2 := [.ref A]) (w3 := w) rfl rfl ?_
  refine sx_RP.gref (k := 4) (b := A + 3) hI hA rfl rfl (by omega) (show _ = 4 from rfl) ?_
  refine sx_RP.step (pc2 := 5) (ls2 := [(0, .ref A), (1, .int (nI c))]) (st2 := [.ref A, .ref (A + 3)]) (w3 := w) rfl rfl ?_
  refine sx_RP.gc (k := 5) hI hA rfl rfl (by omega) (show _ = 8 from rfl) ?_
  rw [en0]
  refine sx_RP.step (pc2 := 9) (ls2 := [(0, .ref A), (1, .int (nI c))]) (st2 := [.int (nI c), .int (nI n), .ref (A + 3)]) (w3 := w) rfl rfl ?_
  refine sx_RP.xD (A := A) (c := n) hI hA rfl (show n < 9 by omega) (inR.n (show c ≤ 47 by omega)) (show _ = 10 from rfl) (fun w1 hI2 hs3 hv4 => ?_)
  have ex5 := (fi_same 5 (hs3 A (by omega))).trans en0
  refine sx_RP.step (pc2 := 11) (ls2 := [(0, .ref A), (1, .int (nI c))]) (st2 := [.ref A]) (w3 := w1) rfl rfl ?_
  refine sx_RP.step (pc2 := 12) (ls2 := [(0, .ref A), (1, .int (nI c))]) (st2 := [.ref A, .ref A]) (w3 := w1) rfl rfl ?_
  refine sx_RP.gc (k := 5) hI2 hA rfl rfl (by omega) (show _ = 15 from rfl) ?_
  rw [ex5]
  refine sx_RP.step (pc2 := 16) (ls2 := [(0, .ref A), (1, .int (nI c))]) (st2 := [.int 1, .int (nI n), .ref A]) (w3 := w1) rfl rfl ?_
  refine sx_RP.step (pc2 := 17) (ls2 := [(0, .ref A), (1, .int (nI c))]) (st2 := [.int ((nI n) + 1), .ref A]) (w3 := w1) rfl rfl ?_
  rw [show ((nI n) + 1 : Int32) = nI (n + 1) from nI_add n 1]
  refine sx_RP.xC (k := 5) hI2 hA rfl rfl (by omega) rfl (inR.n (show (n + 1) ≤ 9 by omega)) (show _ = 20 from rfl) (fun w6 hI7 hs8 hv9 hr10 hj11 => ?_)
  refine sx_RP.step (pc2 := 21) (ls2 := [(0, .ref A), (1, .int (nI c))]) (st2 := [.ref A]) (w3 := w6) rfl rfl ?_
  refine sx_RP.gc (k := 5) hI7 hA rfl rfl (by omega) (show _ = 24 from rfl) ?_
  rw [hv9]
  refine sx_RP.step (pc2 := 25) (ls2 := [(0, .ref A), (1, .int (nI c))]) (st2 := [.int 1, .int (nI (n + 1))]) (w3 := w6) rfl rfl ?_
  refine sx_RP.step (pc2 := 26) (ls2 := [(0, .ref A), (1, .int (nI c))]) (st2 := [.int ((nI (n + 1)) - 1)]) (w3 := w6) rfl rfl ?_
  rw [show ((nI (n + 1)) - 1 : Int32) = nI ((n + 1) - 1) from nI_sub (a := (n + 1)) (b := 1) (by omega)]
  refine sx_RP.ret (r := (some (.int (nI ((n + 1) - 1))))) rfl rfl ?_
  have hl := hR.len
  have hl9 := (hI.1.aD hA).2
  have hR1 := hR.sDi hI hA (by omega) hs3 hv4
  have en6 : (l.set (163 + n) (nI c)).getD 2 0 = nI n := by rw [gd_ne (by omega)]; exact en
  have hf := hR1.sDished hn en6 (by rw [hv4, gd_eq (by omega), gd_eq (by omega)]) hs8 hv9 hr10 hj11
  exact ⟨⟨by rw [Nat.add_sub_cancel], hf⟩, hI7, (Out.st (Out.st Out.rf hs3 (by omega)) hs8 (by omega))⟩
def gal2A (l : List Int32) (a1 a2 a3 a4 : Int32) : Int32 := if ¬ ((0 ≤ a1 ∧ a1 ≤ 5) ∧ (0 ≤ a2 ∧ a2 ≤ 1) ∧ (0 ≤ a3 ∧ a3 ≤ 47) ∧ (0 ≤ a4 ∧ a4 ≤ 3)) then -1000000001 else (if ¬ iN (l.getD 1 0) < 10 then -1000000002 else (l.getD 1 0))
def gal2R (l : List Int32) (a1 a2 a3 a4 : Int32) : List Int32 := if ¬ ((0 ≤ a1 ∧ a1 ≤ 5) ∧ (0 ≤ a2 ∧ a2 ≤ 1) ∧ (0 ≤ a3 ∧ a3 ≤ 47) ∧ (0 ≤ a4 ∧ a4 ≤ 3)) then l else (if ¬ iN (l.getD 1 0) < 10 then l else (addRow l (iN (l.getD 1 0)) a1 a2 a3 a4))
theorem gal2_1 {l : List Int32} {a1 a2 a3 a4 : Int32} (h0 : ¬ ((0 ≤ a1 ∧ a1 ≤ 5) ∧ (0 ≤ a2 ∧ a2 ≤ 1) ∧ (0 ≤ a3 ∧ a3 ≤ 47) ∧ (0 ≤ a4 ∧ a4 ≤ 3))) : gal2A l a1 a2 a3 a4 = -1000000001 ∧ gal2R l a1 a2 a3 a4 = l := ⟨if_pos h0, if_pos h0⟩
theorem gal2_2 {l : List Int32} {a1 a2 a3 a4 : Int32} (h0 : ¬ (¬ ((0 ≤ a1 ∧ a1 ≤ 5) ∧ (0 ≤ a2 ∧ a2 ≤ 1) ∧ (0 ≤ a3 ∧ a3 ≤ 47) ∧ (0 ≤ a4 ∧ a4 ≤ 3)))) (h1 : ¬ iN (l.getD 1 0) < 10) : gal2A l a1 a2 a3 a4 = -1000000002 ∧ gal2R l a1 a2 a3 a4 = l := ⟨(if_neg h0).trans (if_pos h1), (if_neg h0).trans (if_pos h1)⟩
theorem gal2_z {l : List Int32} {a1 a2 a3 a4 : Int32} (h0 : ¬ (¬ ((0 ≤ a1 ∧ a1 ≤ 5) ∧ (0 ≤ a2 ∧ a2 ≤ 1) ∧ (0 ≤ a3 ∧ a3 ≤ 47) ∧ (0 ≤ a4 ∧ a4 ≤ 3)))) (h1 : ¬ (¬ iN (l.getD 1 0) < 10)) : gal2A l a1 a2 a3 a4 = l.getD 1 0 ∧ gal2R l a1 a2 a3 a4 = addRow l (iN (l.getD 1 0)) a1 a2 a3 a4 := ⟨(if_neg h0).trans (if_neg h1), (if_neg h0).trans (if_neg h1)⟩
set_option maxRecDepth 20000 in
set_option maxHeartbeats 4000000 in
theorem Z21 {xs : Option (List Int32)} {d : Nat} {w : List sx_C} (hI : WI w) (l : List Int32) (hR : rel w 1 l) (a1 a2 a3 a4 : Int32) : sx_RP xs (d + 7) 21 0 (lv_args 0 [.ref 0, .int a1, .int a2, .int a3, .int a4]) [] w (fun r w2 => (r = some (.int (gal2A l a1 a2 a3 a4)) ∧ rel w2 1 (gal2R l a1 a2 a3 a4)) ∧ WI w2 ∧ EO w w2) := by
  obtain ⟨n, hn, en⟩ := hR.n10 hI (Or.inl rfl)
  have en0 := hR.many.trans en
  refine sx_RP.step (pc2 := 1) (ls2 := [(0, .ref 0), (1, .int a1), (2, .int a2), (3, .int a3), (4, .int a4)]) (st2 := [.int a1]) (w3 := w) rfl rfl ?_
  rcases in_cases a1 0 5 (m := 0) (n := 5) rfl rfl (by decide) (by decide) with q1 | ⟨x2, hx3, hx4, rfl⟩
  · refine sx_RP.cu (as := [.int a1]) (rest2 := []) (st3 := [.int 0]) rfl rfl rfl rfl rfl (cx_22n q1) rfl ?_
    refine sx_RP.step (pc2 := 31) (ls2 := [(0, .ref 0), (1, .int a1), (2, .int a2), (3, .int a3), (4, .int a4)]) (st2 := []) (w3 := w) rfl rfl ?_
    refine sx_RP.step (pc2 := 32) (ls2 := [(0, .ref 0), (1, .int a1), (2, .int a2), (3, .int a3), (4, .int a4)]) (st2 := [.ref 0]) (w3 := w) rfl rfl ?_
    refine sx_RP.step (pc2 := 34) (ls2 := [(0, .ref 0), (1, .int a1), (2, .int a2), (3, .int a3), (4, .int a4)]) (st2 := [.int (-1000000001), .ref 0]) (w3 := w) rfl rfl ?_
    refine sx_RP.callp (as2 := [.ref 0, .int (-1000000001)]) (rest2 := []) rfl rfl (sx_inv_v2 (mi := 21) (k := 78) (st := [.int (-1000000001), .ref 0]) (w := w) rfl rfl hI.1.o0 rfl rfl rfl) rfl rfl rfl (S9_0 hI) (show _ = 37 from rfl) ?_
    rintro r4 w7 ⟨rfl, hI8, hs6⟩
    show sx_RP _ _ _ _ _ [.int (-1000000001)] _ _
    refine sx_RP.ret (r := (some (.int (-1000000001)))) rfl rfl ?_
    exact ⟨⟨by rw [(gal2_1 (l := l) (fun z => q1 z.1)).1], by rw [(gal2_1 (l := l) (fun z => q1 z.1)).2]; exact hR.same hI (Or.inl rfl) (fun a h1 h2 => hs6 a (by omega))⟩, hI8, fun a ha => hs6 a (by unfold oc at ha; omega)⟩
  · refine sx_RP.cu (as := [.int (nI x2)]) (rest2 := []) (st3 := [.int 1]) rfl rfl rfl rfl rfl (cx_22p ⟨nI_le (a := 0) hx3 (by omega), nI_le (b := 5) hx4 (by decide)⟩) rfl ?_
    refine sx_RP.step (pc2 := 7) (ls2 := [(0, .ref 0), (1, .int (nI x2)), (2, .int a2), (3, .int a3), (4, .int a4)]) (st2 := []) (w3 := w) rfl rfl ?_
    refine sx_RP.step (pc2 := 8) (ls2 := [(0, .ref 0), (1, .int (nI x2)), (2, .int a2), (3, .int a3), (4, .int a4)]) (st2 := [.int a2]) (w3 := w) rfl rfl ?_
    refine sx_RP.step (pc2 := 9) (ls2 := [(0, .ref 0), (1, .int (nI x2)), (2, .int a2), (3, .int a3), (4, .int a4)]) (st2 := [.int 0, .int a2]) (w3 := w) rfl rfl ?_
    refine sx_RP.step (pc2 := 10) (ls2 := [(0, .ref 0), (1, .int (nI x2)), (2, .int a2), (3, .int a3), (4, .int a4)]) (st2 := [.int 1, .int 0, .int a2]) (w3 := w) rfl rfl ?_
    rcases in_cases a2 0 1 (m := 0) (n := 1) rfl rfl (by decide) (by decide) with q9 | ⟨x10, hx11, hx12, rfl⟩
    · refine sx_RP.cu (as := [.int a2, .int 0, .int 1]) (rest2 := []) (st3 := [.int 0]) rfl rfl rfl rfl rfl (cx_8n q9) rfl ?_
      refine sx_RP.step (pc2 := 31) (ls2 := [(0, .ref 0), (1, .int (nI x2)), (2, .int a2), (3, .int a3), (4, .int a4)]) (st2 := []) (w3 := w) rfl rfl ?_
      refine sx_RP.step (pc2 := 32) (ls2 := [(0, .ref 0), (1, .int (nI x2)), (2, .int a2), (3, .int a3), (4, .int a4)]) (st2 := [.ref 0]) (w3 := w) rfl rfl ?_
      refine sx_RP.step (pc2 := 34) (ls2 := [(0, .ref 0), (1, .int (nI x2)), (2, .int a2), (3, .int a3), (4, .int a4)]) (st2 := [.int (-1000000001), .ref 0]) (w3 := w) rfl rfl ?_
      refine sx_RP.callp (as2 := [.ref 0, .int (-1000000001)]) (rest2 := []) rfl rfl (sx_inv_v2 (mi := 21) (k := 78) (st := [.int (-1000000001), .ref 0]) (w := w) rfl rfl hI.1.o0 rfl rfl rfl) rfl rfl rfl (S9_0 hI) (show _ = 37 from rfl) ?_
      rintro r4 w15 ⟨rfl, hI16, hs14⟩
      show sx_RP _ _ _ _ _ [.int (-1000000001)] _ _
      refine sx_RP.ret (r := (some (.int (-1000000001)))) rfl rfl ?_
      exact ⟨⟨by rw [(gal2_1 (l := l) (fun z => q9 z.2.1)).1], by rw [(gal2_1 (l := l) (fun z => q9 z.2.1)).2]; exact hR.same hI (Or.inl rfl) (fun a h1 h2 => hs14 a (by omega))⟩, hI16, fun a ha => hs14 a (by unfold oc at ha; omega)⟩
    · refine sx_RP.cu (as := [.int (nI x10), .int 0, .int 1]) (rest2 := []) (st3 := [.int 1]) rfl rfl rfl rfl rfl (cx_8p ⟨nI_le (a := 0) hx11 (by omega), nI_le (b := 1) hx12 (by decide)⟩) rfl ?_
      refine sx_RP.step (pc2 := 16) (ls2 := [(0, .ref 0), (1, .int (nI x2)), (2, .int (nI x10)), (3, .int a3), (4, .int a4)]) (st2 := []) (w3 := w) rfl rfl ?_
      refine sx_RP.step (pc2 := 17) (ls2 := [(0, .ref 0), (1, .int (nI x2)), (2, .int (nI x10)), (3, .int a3), (4, .int a4)]) (st2 := [.int a3]) (w3 := w) rfl rfl ?_
      rcases in_cases a3 0 47 (m := 0) (n := 47) rfl rfl (by decide) (by decide) with q17 | ⟨x18, hx19, hx20, rfl⟩
      · refine sx_RP.cu (as := [.int a3]) (rest2 := []) (st3 := [.int 0]) rfl rfl rfl rfl rfl (cx_7n q17) rfl ?_
        refine sx_RP.step (pc2 := 31) (ls2 := [(0, .ref 0), (1, .int (nI x2)), (2, .int (nI x10)), (3, .int a3), (4, .int a4)]) (st2 := []) (w3 := w) rfl rfl ?_
        refine sx_RP.step (pc2 := 32) (ls2 := [(0, .ref 0), (1, .int (nI x2)), (2, .int (nI x10)), (3, .int a3), (4, .int a4)]) (st2 := [.ref 0]) (w3 := w) rfl rfl ?_
        refine sx_RP.step (pc2 := 34) (ls2 := [(0, .ref 0), (1, .int (nI x2)), (2, .int (nI x10)), (3, .int a3), (4, .int a4)]) (st2 := [.int (-1000000001), .ref 0]) (w3 := w) rfl rfl ?_
        refine sx_RP.callp (as2 := [.ref 0, .int (-1000000001)]) (rest2 := []) rfl rfl (sx_inv_v2 (mi := 21) (k := 78) (st := [.int (-1000000001), .ref 0]) (w := w) rfl rfl hI.1.o0 rfl rfl rfl) rfl rfl rfl (S9_0 hI) (show _ = 37 from rfl) ?_
        rintro r4 w23 ⟨rfl, hI24, hs22⟩
        show sx_RP _ _ _ _ _ [.int (-1000000001)] _ _
        refine sx_RP.ret (r := (some (.int (-1000000001)))) rfl rfl ?_
        exact ⟨⟨by rw [(gal2_1 (l := l) (fun z => q17 z.2.2.1)).1], by rw [(gal2_1 (l := l) (fun z => q17 z.2.2.1)).2]; exact hR.same hI (Or.inl rfl) (fun a h1 h2 => hs22 a (by omega))⟩, hI24, fun a ha => hs22 a (by unfold oc at ha; omega)⟩
      · refine sx_RP.cu (as := [.int (nI x18)]) (rest2 := []) (st3 := [.int 1]) rfl rfl rfl rfl rfl (cx_7p ⟨nI_le (a := 0) hx19 (by omega), nI_le (b := 47) hx20 (by decide)⟩) rfl ?_
        refine sx_RP.step (pc2 := 23) (ls2 := [(0, .ref 0), (1, .int (nI x2)), (2, .int (nI x10)), (3, .int (nI x18)), (4, .int a4)]) (st2 := []) (w3 := w) rfl rfl ?_
        refine sx_RP.step (pc2 := 25) (ls2 := [(0, .ref 0), (1, .int (nI x2)), (2, .int (nI x10)), (3, .int (nI x18)), (4, .int a4)]) (st2 := [.int a4]) (w3 := w) rfl rfl ?_
        rcases in_cases a4 0 3 (m := 0) (n := 3) rfl rfl (by decide) (by decide) with q25 | ⟨x26, hx27, hx28, rfl⟩
        · refine sx_RP.cu (as := [.int a4]) (rest2 := []) (st3 := [.int 0]) rfl rfl rfl rfl rfl (cx_23n q25) rfl ?_
          refine sx_RP.step (pc2 := 31) (ls2 := [(0, .ref 0), (1, .int (nI x2)), (2, .int (nI x10)), (3, .int (nI x18)), (4, .int a4)]) (st2 := []) (w3 := w) rfl rfl ?_
          refine sx_RP.step (pc2 := 32) (ls2 := [(0, .ref 0), (1, .int (nI x2)), (2, .int (nI x10)), (3, .int (nI x18)), (4, .int a4)]) (st2 := [.ref 0]) (w3 := w) rfl rfl ?_
          refine sx_RP.step (pc2 := 34) (ls2 := [(0, .ref 0), (1, .int (nI x2)), (2, .int (nI x10)), (3, .int (nI x18)), (4, .int a4)]) (st2 := [.int (-1000000001), .ref 0]) (w3 := w) rfl rfl ?_
          refine sx_RP.callp (as2 := [.ref 0, .int (-1000000001)]) (rest2 := []) rfl rfl (sx_inv_v2 (mi := 21) (k := 78) (st := [.int (-1000000001), .ref 0]) (w := w) rfl rfl hI.1.o0 rfl rfl rfl) rfl rfl rfl (S9_0 hI) (show _ = 37 from rfl) ?_
          rintro r4 w31 ⟨rfl, hI32, hs30⟩
          show sx_RP _ _ _ _ _ [.int (-1000000001)] _ _
          refine sx_RP.ret (r := (some (.int (-1000000001)))) rfl rfl ?_
          exact ⟨⟨by rw [(gal2_1 (l := l) (fun z => q25 z.2.2.2)).1], by rw [(gal2_1 (l := l) (fun z => q25 z.2.2.2)).2]; exact hR.same hI (Or.inl rfl) (fun a h1 h2 => hs30 a (by omega))⟩, hI32, fun a ha => hs30 a (by unfold oc at ha; omega)⟩
        · refine sx_RP.cu (as := [.int (nI x26)]) (rest2 := []) (st3 := [.int 1]) rfl rfl rfl rfl rfl (cx_23p ⟨nI_le (a := 0) hx27 (by omega), nI_le (b := 3) hx28 (by decide)⟩) rfl ?_
          refine sx_RP.step (pc2 := 38) (ls2 := [(0, .ref 0), (1, .int (nI x2)), (2, .int (nI x10)), (3, .int (nI x18)), (4, .int (nI x26))]) (st2 := []) (w3 := w) rfl rfl ?_
          refine sx_RP.step (pc2 := 39) (ls2 := [(0, .ref 0), (1, .int (nI x2)), (2, .int (nI x10)), (3, .int (nI x18)), (4, .int (nI x26))]) (st2 := [.ref 0]) (w3 := w) rfl rfl ?_
          refine sx_RP.gf (v := .ref 1) rfl rfl hI.1.o0 rfl rfl (show _ = 42 from rfl) ?_
          rcases Decidable.em (n < 10) with c33 | c33
          · refine sx_RP.cu (as := [.ref 1]) (rest2 := []) (st3 := [.int 1]) rfl rfl (sx_inv_v2 (mi := 21) (k := 111) (st := [.ref 1]) (w := w) rfl rfl (hI.1.oC (Or.inl rfl)) rfl rfl rfl) rfl rfl (p24y hI (Or.inl rfl) en0 hn c33) rfl ?_
            refine sx_RP.step (pc2 := 55) (ls2 := [(0, .ref 0), (1, .int (nI x2)), (2, .int (nI x10)), (3, .int (nI x18)), (4, .int (nI x26))]) (st2 := []) (w3 := w) rfl rfl ?_
            refine sx_RP.step (pc2 := 56) (ls2 := [(0, .ref 0), (1, .int (nI x2)), (2, .int (nI x10)), (3, .int (nI x18)), (4, .int (nI x26))]) (st2 := [.ref 0]) (w3 := w) rfl rfl ?_
            refine sx_RP.gf (v := .ref 1) rfl rfl hI.1.o0 rfl rfl (show _ = 59 from rfl) ?_
            refine sx_RP.step (pc2 := 60) (ls2 := [(0, .ref 0), (1, .int (nI x2)), (2, .int (nI x10)), (3, .int (nI x18)), (4, .int (nI x26))]) (st2 := [.int (nI x2), .ref 1]) (w3 := w) rfl rfl ?_
            refine sx_RP.step (pc2 := 61) (ls2 := [(0, .ref 0), (1, .int (nI x2)), (2, .int (nI x10)), (3, .int (nI x18)), (4, .int (nI x26))]) (st2 := [.int (nI x10), .int (nI x2), .ref 1]) (w3 := w) rfl rfl ?_
            refine sx_RP.step (pc2 := 62) (ls2 := [(0, .ref 0), (1, .int (nI x2)), (2, .int (nI x10)), (3, .int (nI x18)), (4, .int (nI x26))]) (st2 := [.int (nI x18), .int (nI x10), .int (nI x2), .ref 1]) (w3 := w) rfl rfl ?_
            refine sx_RP.step (pc2 := 64) (ls2 := [(0, .ref 0), (1, .int (nI x2)), (2, .int (nI x10)), (3, .int (nI x18)), (4, .int (nI x26))]) (st2 := [.int (nI x26), .int (nI x18), .int (nI x10), .int (nI x2), .ref 1]) (w3 := w) rfl rfl ?_
            refine sx_RP.callp (as2 := [.ref 1, .int (nI x2), .int (nI x10), .int (nI x18), .int (nI x26)]) (rest2 := []) rfl rfl (sx_inv_v2 (mi := 21) (k := 116) (st := [.int (nI x26), .int (nI x18), .int (nI x10), .int (nI x2), .ref 1]) (w := w) rfl rfl (hI.1.oC (Or.inl rfl)) rfl rfl rfl) rfl rfl rfl (X25z hI (Or.inl rfl) hR (by omega) en (show x2 ≤ 5 by omega) (show x10 ≤ 1 by omega) (show x18 < 48 by omega) (show x26 ≤ 3 by omega)) (show _ = 67 from rfl) ?_
            rintro r4 w36 ⟨⟨rfl, hc34⟩, hI37, ho35⟩
            show sx_RP _ _ _ _ _ [.int (nI n)] _ _
            refine sx_RP.ret (r := (some (.int (nI n)))) rfl rfl ?_
            exact ⟨⟨by rw [(gal2_z (l := l) (fun z => z ⟨⟨nI_le (a := 0) (show 0 ≤ x2 by omega) (by omega), nI_le (b := 5) (show x2 ≤ 5 by omega) (by decide)⟩, ⟨nI_le (a := 0) (show 0 ≤ x10 by omega) (by omega), nI_le (b := 1) (show x10 ≤ 1 by omega) (by decide)⟩, ⟨nI_le (a := 0) (show 0 ≤ x18 by omega) (by omega), nI_le (b := 47) (show x18 ≤ 47 by omega) (by decide)⟩, ⟨nI_le (a := 0) (show 0 ≤ x26 by omega) (by omega), nI_le (b := 3) (show x26 ≤ 3 by omega) (by decide)⟩⟩) (fun z => z (by rw [en, iN_n (by omega)]; exact c33))).1, en], by rw [(gal2_z (l := l) (fun z => z ⟨⟨nI_le (a := 0) (show 0 ≤ x2 by omega) (by omega), nI_le (b := 5) (show x2 ≤ 5 by omega) (by decide)⟩, ⟨nI_le (a := 0) (show 0 ≤ x10 by omega) (by omega), nI_le (b := 1) (show x10 ≤ 1 by omega) (by decide)⟩, ⟨nI_le (a := 0) (show 0 ≤ x18 by omega) (by omega), nI_le (b := 47) (show x18 ≤ 47 by omega) (by decide)⟩, ⟨nI_le (a := 0) (show 0 ≤ x26 by omega) (by omega), nI_le (b := 3) (show x26 ≤ 3 by omega) (by decide)⟩⟩) (fun z => z (by rw [en, iN_n (by omega)]; exact c33))).2, en, iN_n (by omega)]; exact hc34⟩, hI37, ho35.eo⟩
          · refine sx_RP.cu (as := [.ref 1]) (rest2 := []) (st3 := [.int 0]) rfl rfl (sx_inv_v2 (mi := 21) (k := 111) (st := [.ref 1]) (w := w) rfl rfl (hI.1.oC (Or.inl rfl)) rfl rfl rfl) rfl rfl (p24n hI (Or.inl rfl) en0 hn c33) rfl ?_
            refine sx_RP.step (pc2 := 48) (ls2 := [(0, .ref 0), (1, .int (nI x2)), (2, .int (nI x10)), (3, .int (nI x18)), (4, .int (nI x26))]) (st2 := []) (w3 := w) rfl rfl ?_
            refine sx_RP.step (pc2 := 49) (ls2 := [(0, .ref 0), (1, .int (nI x2)), (2, .int (nI x10)), (3, .int (nI x18)), (4, .int (nI x26))]) (st2 := [.ref 0]) (w3 := w) rfl rfl ?_
            refine sx_RP.step (pc2 := 51) (ls2 := [(0, .ref 0), (1, .int (nI x2)), (2, .int (nI x10)), (3, .int (nI x18)), (4, .int (nI x26))]) (st2 := [.int (-1000000002), .ref 0]) (w3 := w) rfl rfl ?_
            refine sx_RP.callp (as2 := [.ref 0, .int (-1000000002)]) (rest2 := []) rfl rfl (sx_inv_v2 (mi := 21) (k := 78) (st := [.int (-1000000002), .ref 0]) (w := w) rfl rfl hI.1.o0 rfl rfl rfl) rfl rfl rfl (S9_1 hI) (show _ = 54 from rfl) ?_
            rintro r4 w39 ⟨rfl, hI40, hs38⟩
            show sx_RP _ _ _ _ _ [.int (-1000000002)] _ _
            refine sx_RP.ret (r := (some (.int (-1000000002)))) rfl rfl ?_
            exact ⟨⟨by rw [(gal2_2 (l := l) (fun z => z ⟨⟨nI_le (a := 0) (show 0 ≤ x2 by omega) (by omega), nI_le (b := 5) (show x2 ≤ 5 by omega) (by decide)⟩, ⟨nI_le (a := 0) (show 0 ≤ x10 by omega) (by omega), nI_le (b := 1) (show x10 ≤ 1 by omega) (by decide)⟩, ⟨nI_le (a := 0) (show 0 ≤ x18 by omega) (by omega), nI_le (b := 47) (show x18 ≤ 47 by omega) (by decide)⟩, ⟨nI_le (a := 0) (show 0 ≤ x26 by omega) (by omega), nI_le (b := 3) (show x26 ≤ 3 by omega) (by decide)⟩⟩) (by rw [en, iN_n (by omega)]; exact c33)).1], by rw [(gal2_2 (l := l) (fun z => z ⟨⟨nI_le (a := 0) (show 0 ≤ x2 by omega) (by omega), nI_le (b := 5) (show x2 ≤ 5 by omega) (by decide)⟩, ⟨nI_le (a := 0) (show 0 ≤ x10 by omega) (by omega), nI_le (b := 1) (show x10 ≤ 1 by omega) (by decide)⟩, ⟨nI_le (a := 0) (show 0 ≤ x18 by omega) (by omega), nI_le (b := 47) (show x18 ≤ 47 by omega) (by decide)⟩, ⟨nI_le (a := 0) (show 0 ≤ x26 by omega) (by omega), nI_le (b := 3) (show x26 ≤ 3 by omega) (by decide)⟩⟩) (by rw [en, iN_n (by omega)]; exact c33)).2]; exact hR.same hI (Or.inl rfl) (fun a h1 h2 => hs38 a (by omega))⟩, hI40, fun a ha => hs38 a (by unfold oc at ha; omega)⟩
set_option maxRecDepth 20000 in
set_option maxHeartbeats 4000000 in
theorem Y150 {xs : Option (List Int32)} {d : Nat} {w : List sx_C} (hI : WI w) (a1 a2 a3 a4 : Int32) : sx_RP xs (d + 7) 150 0 (lv_args 0 [.ref 111, .int a1, .int a2, .int a3, .int a4]) [] w (fun r w2 => (r = some (.int (gal2A (ia w 112) a1 a2 a3 a4)) ∧ ia w2 112 = gal2R (ia w 112) a1 a2 a3 a4) ∧ WI w2 ∧ EOm w w2) := by
  obtain ⟨n, hn, en⟩ := (hI.sA (a := 112) (by decide) 1 (by decide)).1 rfl
  refine sx_RP.step (pc2 := 1) (ls2 := [(0, .ref 111), (1, .int a1), (2, .int a2), (3, .int a3), (4, .int a4)]) (st2 := [.int a1]) (w3 := w) rfl rfl ?_
  rcases in_cases a1 0 5 (m := 0) (n := 5) rfl rfl (by decide) (by decide) with q1 | ⟨x2, hx3, hx4, rfl⟩
  · refine sx_RP.cu (as := [.int a1]) (rest2 := []) (st3 := [.int 0]) rfl rfl rfl rfl rfl (cx_151n q1) rfl ?_
    refine sx_RP.step (pc2 := 31) (ls2 := [(0, .ref 111), (1, .int a1), (2, .int a2), (3, .int a3), (4, .int a4)]) (st2 := []) (w3 := w) rfl rfl ?_
    refine sx_RP.step (pc2 := 32) (ls2 := [(0, .ref 111), (1, .int a1), (2, .int a2), (3, .int a3), (4, .int a4)]) (st2 := [.ref 111]) (w3 := w) rfl rfl ?_
    refine sx_RP.step (pc2 := 33) (ls2 := [(0, .ref 111), (1, .int a1), (2, .int a2), (3, .int a3), (4, .int a4)]) (st2 := [.int 0, .ref 111]) (w3 := w) rfl rfl ?_
    refine sx_RP.callp (as2 := [.ref 111, .int 0]) (rest2 := []) rfl rfl (sx_inv_v2 (mi := 150) (k := 70) (st := [.int 0, .ref 111]) (w := w) rfl rfl hI.1.o111 rfl rfl rfl) rfl rfl rfl (S133_0 hI) (show _ = 36 from rfl) ?_
    rintro r4 w7 ⟨rfl, hI8, hs6⟩
    show sx_RP _ _ _ _ _ [.int (-1000000001)] _ _
    refine sx_RP.ret (r := (some (.int (-1000000001)))) rfl rfl ?_
    exact ⟨⟨by rw [(gal2_1 (fun z => q1 z.1)).1], by rw [(gal2_1 (fun z => q1 z.1)).2]; exact ia_of (hs6 112 (by decide))⟩, hI8, fun a ha => hs6 a (by unfold ocm at ha; omega)⟩
  · refine sx_RP.cu (as := [.int (nI x2)]) (rest2 := []) (st3 := [.int 1]) rfl rfl rfl rfl rfl (cx_151p ⟨nI_le (a := 0) hx3 (by omega), nI_le (b := 5) hx4 (by decide)⟩) rfl ?_
    refine sx_RP.step (pc2 := 7) (ls2 := [(0, .ref 111), (1, .int (nI x2)), (2, .int a2), (3, .int a3), (4, .int a4)]) (st2 := []) (w3 := w) rfl rfl ?_
    refine sx_RP.step (pc2 := 8) (ls2 := [(0, .ref 111), (1, .int (nI x2)), (2, .int a2), (3, .int a3), (4, .int a4)]) (st2 := [.int a2]) (w3 := w) rfl rfl ?_
    refine sx_RP.step (pc2 := 9) (ls2 := [(0, .ref 111), (1, .int (nI x2)), (2, .int a2), (3, .int a3), (4, .int a4)]) (st2 := [.int 0, .int a2]) (w3 := w) rfl rfl ?_
    refine sx_RP.step (pc2 := 10) (ls2 := [(0, .ref 111), (1, .int (nI x2)), (2, .int a2), (3, .int a3), (4, .int a4)]) (st2 := [.int 1, .int 0, .int a2]) (w3 := w) rfl rfl ?_
    rcases in_cases a2 0 1 (m := 0) (n := 1) rfl rfl (by decide) (by decide) with q9 | ⟨x10, hx11, hx12, rfl⟩
    · refine sx_RP.cu (as := [.int a2, .int 0, .int 1]) (rest2 := []) (st3 := [.int 0]) rfl rfl rfl rfl rfl (cx_132o q9) rfl ?_
      refine sx_RP.step (pc2 := 31) (ls2 := [(0, .ref 111), (1, .int (nI x2)), (2, .int a2), (3, .int a3), (4, .int a4)]) (st2 := []) (w3 := w) rfl rfl ?_
      refine sx_RP.step (pc2 := 32) (ls2 := [(0, .ref 111), (1, .int (nI x2)), (2, .int a2), (3, .int a3), (4, .int a4)]) (st2 := [.ref 111]) (w3 := w) rfl rfl ?_
      refine sx_RP.step (pc2 := 33) (ls2 := [(0, .ref 111), (1, .int (nI x2)), (2, .int a2), (3, .int a3), (4, .int a4)]) (st2 := [.int 0, .ref 111]) (w3 := w) rfl rfl ?_
      refine sx_RP.callp (as2 := [.ref 111, .int 0]) (rest2 := []) rfl rfl (sx_inv_v2 (mi := 150) (k := 70) (st := [.int 0, .ref 111]) (w := w) rfl rfl hI.1.o111 rfl rfl rfl) rfl rfl rfl (S133_0 hI) (show _ = 36 from rfl) ?_
      rintro r4 w15 ⟨rfl, hI16, hs14⟩
      show sx_RP _ _ _ _ _ [.int (-1000000001)] _ _
      refine sx_RP.ret (r := (some (.int (-1000000001)))) rfl rfl ?_
      exact ⟨⟨by rw [(gal2_1 (fun z => q9 z.2.1)).1], by rw [(gal2_1 (fun z => q9 z.2.1)).2]; exact ia_of (hs14 112 (by decide))⟩, hI16, fun a ha => hs14 a (by unfold ocm at ha; omega)⟩
    · refine sx_RP.cu (as := [.int (nI x10), .int 0, .int 1]) (rest2 := []) (st3 := [.int 1]) rfl rfl rfl rfl rfl (cx_132p ⟨nI_le (a := 0) hx11 (by omega), nI_le (b := 1) hx12 (by decide)⟩) rfl ?_
      refine sx_RP.step (pc2 := 16) (ls2 := [(0, .ref 111), (1, .int (nI x2)), (2, .int (nI x10)), (3, .int a3), (4, .int a4)]) (st2 := []) (w3 := w) rfl rfl ?_
      refine sx_RP.step (pc2 := 17) (ls2 := [(0, .ref 111), (1, .int (nI x2)), (2, .int (nI x10)), (3, .int a3), (4, .int a4)]) (st2 := [.int a3]) (w3 := w) rfl rfl ?_
      rcases in_cases a3 0 47 (m := 0) (n := 47) rfl rfl (by decide) (by decide) with q17 | ⟨x18, hx19, hx20, rfl⟩
      · refine sx_RP.cu (as := [.int a3]) (rest2 := []) (st3 := [.int 0]) rfl rfl rfl rfl rfl (cx_131n q17) rfl ?_
        refine sx_RP.step (pc2 := 31) (ls2 := [(0, .ref 111), (1, .int (nI x2)), (2, .int (nI x10)), (3, .int a3), (4, .int a4)]) (st2 := []) (w3 := w) rfl rfl ?_
        refine sx_RP.step (pc2 := 32) (ls2 := [(0, .ref 111), (1, .int (nI x2)), (2, .int (nI x10)), (3, .int a3), (4, .int a4)]) (st2 := [.ref 111]) (w3 := w) rfl rfl ?_
        refine sx_RP.step (pc2 := 33) (ls2 := [(0, .ref 111), (1, .int (nI x2)), (2, .int (nI x10)), (3, .int a3), (4, .int a4)]) (st2 := [.int 0, .ref 111]) (w3 := w) rfl rfl ?_
        refine sx_RP.callp (as2 := [.ref 111, .int 0]) (rest2 := []) rfl rfl (sx_inv_v2 (mi := 150) (k := 70) (st := [.int 0, .ref 111]) (w := w) rfl rfl hI.1.o111 rfl rfl rfl) rfl rfl rfl (S133_0 hI) (show _ = 36 from rfl) ?_
        rintro r4 w23 ⟨rfl, hI24, hs22⟩
        show sx_RP _ _ _ _ _ [.int (-1000000001)] _ _
        refine sx_RP.ret (r := (some (.int (-1000000001)))) rfl rfl ?_
        exact ⟨⟨by rw [(gal2_1 (fun z => q17 z.2.2.1)).1], by rw [(gal2_1 (fun z => q17 z.2.2.1)).2]; exact ia_of (hs22 112 (by decide))⟩, hI24, fun a ha => hs22 a (by unfold ocm at ha; omega)⟩
      · refine sx_RP.cu (as := [.int (nI x18)]) (rest2 := []) (st3 := [.int 1]) rfl rfl rfl rfl rfl (cx_131p ⟨nI_le (a := 0) hx19 (by omega), nI_le (b := 47) hx20 (by decide)⟩) rfl ?_
        refine sx_RP.step (pc2 := 23) (ls2 := [(0, .ref 111), (1, .int (nI x2)), (2, .int (nI x10)), (3, .int (nI x18)), (4, .int a4)]) (st2 := []) (w3 := w) rfl rfl ?_
        refine sx_RP.step (pc2 := 25) (ls2 := [(0, .ref 111), (1, .int (nI x2)), (2, .int (nI x10)), (3, .int (nI x18)), (4, .int a4)]) (st2 := [.int a4]) (w3 := w) rfl rfl ?_
        rcases in_cases a4 0 3 (m := 0) (n := 3) rfl rfl (by decide) (by decide) with q25 | ⟨x26, hx27, hx28, rfl⟩
        · refine sx_RP.cu (as := [.int a4]) (rest2 := []) (st3 := [.int 0]) rfl rfl rfl rfl rfl (cx_152n q25) rfl ?_
          refine sx_RP.step (pc2 := 31) (ls2 := [(0, .ref 111), (1, .int (nI x2)), (2, .int (nI x10)), (3, .int (nI x18)), (4, .int a4)]) (st2 := []) (w3 := w) rfl rfl ?_
          refine sx_RP.step (pc2 := 32) (ls2 := [(0, .ref 111), (1, .int (nI x2)), (2, .int (nI x10)), (3, .int (nI x18)), (4, .int a4)]) (st2 := [.ref 111]) (w3 := w) rfl rfl ?_
          refine sx_RP.step (pc2 := 33) (ls2 := [(0, .ref 111), (1, .int (nI x2)), (2, .int (nI x10)), (3, .int (nI x18)), (4, .int a4)]) (st2 := [.int 0, .ref 111]) (w3 := w) rfl rfl ?_
          refine sx_RP.callp (as2 := [.ref 111, .int 0]) (rest2 := []) rfl rfl (sx_inv_v2 (mi := 150) (k := 70) (st := [.int 0, .ref 111]) (w := w) rfl rfl hI.1.o111 rfl rfl rfl) rfl rfl rfl (S133_0 hI) (show _ = 36 from rfl) ?_
          rintro r4 w31 ⟨rfl, hI32, hs30⟩
          show sx_RP _ _ _ _ _ [.int (-1000000001)] _ _
          refine sx_RP.ret (r := (some (.int (-1000000001)))) rfl rfl ?_
          exact ⟨⟨by rw [(gal2_1 (fun z => q25 z.2.2.2)).1], by rw [(gal2_1 (fun z => q25 z.2.2.2)).2]; exact ia_of (hs30 112 (by decide))⟩, hI32, fun a ha => hs30 a (by unfold ocm at ha; omega)⟩
        · refine sx_RP.cu (as := [.int (nI x26)]) (rest2 := []) (st3 := [.int 1]) rfl rfl rfl rfl rfl (cx_152p ⟨nI_le (a := 0) hx27 (by omega), nI_le (b := 3) hx28 (by decide)⟩) rfl ?_
          refine sx_RP.step (pc2 := 37) (ls2 := [(0, .ref 111), (1, .int (nI x2)), (2, .int (nI x10)), (3, .int (nI x18)), (4, .int (nI x26))]) (st2 := []) (w3 := w) rfl rfl ?_
          refine sx_RP.step (pc2 := 38) (ls2 := [(0, .ref 111), (1, .int (nI x2)), (2, .int (nI x10)), (3, .int (nI x18)), (4, .int (nI x26))]) (st2 := [.ref 111]) (w3 := w) rfl rfl ?_
          refine sx_RP.gf (v := .ref 112) rfl rfl hI.1.o111 rfl rfl (show _ = 41 from rfl) ?_
          refine sx_RP.step (pc2 := 42) (ls2 := [(0, .ref 111), (1, .int (nI x2)), (2, .int (nI x10)), (3, .int (nI x18)), (4, .int (nI x26))]) (st2 := [.int 1, .ref 112]) (w3 := w) rfl rfl ?_
          refine sx_RP.ild (c := 1) rfl hI.1.a112.1 hI.1.a112.2 (sx_in_nI (show 1 < 172 by omega) (by decide)) (show (nI 1).toNatClampNeg = 1 from nI_clamp (by omega)) (show _ = 43 from rfl) ?_
          rw [en]
          refine sx_RP.step (pc2 := 45) (ls2 := [(0, .ref 111), (1, .int (nI x2)), (2, .int (nI x10)), (3, .int (nI x18)), (4, .int (nI x26))]) (st2 := [.int 10, .int (nI n)]) (w3 := w) rfl rfl ?_
          refine sx_RP.br (p1 := 54) (l1 := [(0, .ref 111), (1, .int (nI x2)), (2, .int (nI x10)), (3, .int (nI x18)), (4, .int (nI x26))]) (s1 := []) (v1 := w) (p2 := 48) (l2 := [(0, .ref 111), (1, .int (nI x2)), (2, .int (nI x10)), (3, .int (nI x18)), (4, .int (nI x26))]) (s2 := []) (v2 := w) rfl rfl (fun q33 => ?_) (fun q33 => ?_)
          · replace q33 := of_decide_eq_true q33
            replace q33 := mt (nI_eq (a := n) (b := 10) (by omega) (by omega)).mpr q33
            refine sx_RP.step (pc2 := 55) (ls2 := [(0, .ref 111), (1, .int (nI x2)), (2, .int (nI x10)), (3, .int (nI x18)), (4, .int (nI x26))]) (st2 := [.ref 111]) (w3 := w) rfl rfl ?_
            refine sx_RP.step (pc2 := 56) (ls2 := [(0, .ref 111), (1, .int (nI x2)), (2, .int (nI x10)), (3, .int (nI x18)), (4, .int (nI x26))]) (st2 := [.int (nI x2), .ref 111]) (w3 := w) rfl rfl ?_
            refine sx_RP.step (pc2 := 57) (ls2 := [(0, .ref 111), (1, .int (nI x2)), (2, .int (nI x10)), (3, .int (nI x18)), (4, .int (nI x26))]) (st2 := [.int (nI x10), .int (nI x2), .ref 111]) (w3 := w) rfl rfl ?_
            refine sx_RP.step (pc2 := 58) (ls2 := [(0, .ref 111), (1, .int (nI x2)), (2, .int (nI x10)), (3, .int (nI x18)), (4, .int (nI x26))]) (st2 := [.int (nI x18), .int (nI x10), .int (nI x2), .ref 111]) (w3 := w) rfl rfl ?_
            refine sx_RP.step (pc2 := 60) (ls2 := [(0, .ref 111), (1, .int (nI x2)), (2, .int (nI x10)), (3, .int (nI x18)), (4, .int (nI x26))]) (st2 := [.int (nI x26), .int (nI x18), .int (nI x10), .int (nI x2), .ref 111]) (w3 := w) rfl rfl ?_
            refine sx_RP.callp (as2 := [.ref 111, .int (nI x2), .int (nI x10), .int (nI x18), .int (nI x26)]) (rest2 := []) rfl rfl (sx_inv_v2 (mi := 150) (k := 120) (st := [.int (nI x26), .int (nI x18), .int (nI x10), .int (nI x2), .ref 111]) (w := w) rfl rfl hI.1.o111 rfl rfl rfl) rfl rfl rfl (X153 hI (by omega) en (show x2 ≤ 5 by omega) (show x10 ≤ 1 by omega) (show x18 < 48 by omega) (show x26 ≤ 3 by omega)) (show _ = 63 from rfl) ?_
            rintro r4 w36 ⟨⟨rfl, hc34⟩, hI37, hs35⟩
            show sx_RP _ _ _ _ _ [] _ _
            have ex38 : (ia w36 112).getD 1 0 = nI (n + 1) := by rw [hc34]; exact addRow_1 hI.1.a112.2
            refine sx_RP.step (pc2 := 64) (ls2 := [(0, .ref 111), (1, .int (nI x2)), (2, .int (nI x10)), (3, .int (nI x18)), (4, .int (nI x26))]) (st2 := [.ref 111]) (w3 := w36) rfl rfl ?_
            refine sx_RP.gf (v := .ref 112) rfl rfl hI37.1.o111 rfl rfl (show _ = 67 from rfl) ?_
            refine sx_RP.step (pc2 := 68) (ls2 := [(0, .ref 111), (1, .int (nI x2)), (2, .int (nI x10)), (3, .int (nI x18)), (4, .int (nI x26))]) (st2 := [.int 1, .ref 112]) (w3 := w36) rfl rfl ?_
            refine sx_RP.ild (c := 1) rfl hI37.1.a112.1 hI37.1.a112.2 (sx_in_nI (show 1 < 172 by omega) (by decide)) (show (nI 1).toNatClampNeg = 1 from nI_clamp (by omega)) (show _ = 69 from rfl) ?_
            rw [ex38]
            refine sx_RP.step (pc2 := 70) (ls2 := [(0, .ref 111), (1, .int (nI x2)), (2, .int (nI x10)), (3, .int (nI x18)), (4, .int (nI x26))]) (st2 := [.int 1, .int (nI (n + 1))]) (w3 := w36) rfl rfl ?_
            refine sx_RP.step (pc2 := 71) (ls2 := [(0, .ref 111), (1, .int (nI x2)), (2, .int (nI x10)), (3, .int (nI x18)), (4, .int (nI x26))]) (st2 := [.int ((nI (n + 1)) - 1)]) (w3 := w36) rfl rfl ?_
            rw [show ((nI (n + 1)) - 1 : Int32) = nI ((n + 1) - 1) from nI_sub (a := (n + 1)) (b := 1) (by omega)]
            refine sx_RP.ret (r := (some (.int (nI ((n + 1) - 1))))) rfl rfl ?_
            exact ⟨⟨by rw [(gal2_z (l := ia w 112) (fun z => z ⟨⟨nI_le (a := 0) (show 0 ≤ x2 by omega) (by omega), nI_le (b := 5) (show x2 ≤ 5 by omega) (by decide)⟩, ⟨nI_le (a := 0) (show 0 ≤ x10 by omega) (by omega), nI_le (b := 1) (show x10 ≤ 1 by omega) (by decide)⟩, ⟨nI_le (a := 0) (show 0 ≤ x18 by omega) (by omega), nI_le (b := 47) (show x18 ≤ 47 by omega) (by decide)⟩, ⟨nI_le (a := 0) (show 0 ≤ x26 by omega) (by omega), nI_le (b := 3) (show x26 ≤ 3 by omega) (by decide)⟩⟩) (fun z => z (by rw [en, iN_n (by omega)]; omega))).1, en, Nat.add_sub_cancel], by rw [(gal2_z (l := ia w 112) (fun z => z ⟨⟨nI_le (a := 0) (show 0 ≤ x2 by omega) (by omega), nI_le (b := 5) (show x2 ≤ 5 by omega) (by decide)⟩, ⟨nI_le (a := 0) (show 0 ≤ x10 by omega) (by omega), nI_le (b := 1) (show x10 ≤ 1 by omega) (by decide)⟩, ⟨nI_le (a := 0) (show 0 ≤ x18 by omega) (by omega), nI_le (b := 47) (show x18 ≤ 47 by omega) (by decide)⟩, ⟨nI_le (a := 0) (show 0 ≤ x26 by omega) (by omega), nI_le (b := 3) (show x26 ≤ 3 by omega) (by decide)⟩⟩) (fun z => z (by rw [en, iN_n (by omega)]; omega))).2, en, iN_n (by omega), hc34]⟩, hI37, fun a ha => hs35 a (by unfold ocm at ha; omega)⟩
          · replace q33 := Decidable.not_not.mp (of_decide_eq_false q33)
            replace q33 := (nI_eq (a := n) (b := 10) (by omega) (by omega)).mp q33
            refine sx_RP.step (pc2 := 49) (ls2 := [(0, .ref 111), (1, .int (nI x2)), (2, .int (nI x10)), (3, .int (nI x18)), (4, .int (nI x26))]) (st2 := [.ref 111]) (w3 := w) rfl rfl ?_
            refine sx_RP.step (pc2 := 50) (ls2 := [(0, .ref 111), (1, .int (nI x2)), (2, .int (nI x10)), (3, .int (nI x18)), (4, .int (nI x26))]) (st2 := [.int 1, .ref 111]) (w3 := w) rfl rfl ?_
            refine sx_RP.callp (as2 := [.ref 111, .int 1]) (rest2 := []) rfl rfl (sx_inv_v2 (mi := 150) (k := 70) (st := [.int 1, .ref 111]) (w := w) rfl rfl hI.1.o111 rfl rfl rfl) rfl rfl rfl (S133_1 hI) (show _ = 53 from rfl) ?_
            rintro r4 w40 ⟨rfl, hI41, hs39⟩
            show sx_RP _ _ _ _ _ [.int (-1000000002)] _ _
            refine sx_RP.ret (r := (some (.int (-1000000002)))) rfl rfl ?_
            exact ⟨⟨by rw [(gal2_2 (fun z => z ⟨⟨nI_le (a := 0) (show 0 ≤ x2 by omega) (by omega), nI_le (b := 5) (show x2 ≤ 5 by omega) (by decide)⟩, ⟨nI_le (a := 0) (show 0 ≤ x10 by omega) (by omega), nI_le (b := 1) (show x10 ≤ 1 by omega) (by decide)⟩, ⟨nI_le (a := 0) (show 0 ≤ x18 by omega) (by omega), nI_le (b := 47) (show x18 ≤ 47 by omega) (by decide)⟩, ⟨nI_le (a := 0) (show 0 ≤ x26 by omega) (by omega), nI_le (b := 3) (show x26 ≤ 3 by omega) (by decide)⟩⟩) (by rw [en, iN_n (by omega)]; omega)).1], by rw [(gal2_2 (fun z => z ⟨⟨nI_le (a := 0) (show 0 ≤ x2 by omega) (by omega), nI_le (b := 5) (show x2 ≤ 5 by omega) (by decide)⟩, ⟨nI_le (a := 0) (show 0 ≤ x10 by omega) (by omega), nI_le (b := 1) (show x10 ≤ 1 by omega) (by decide)⟩, ⟨nI_le (a := 0) (show 0 ≤ x18 by omega) (by omega), nI_le (b := 47) (show x18 ≤ 47 by omega) (by decide)⟩, ⟨nI_le (a := 0) (show 0 ≤ x26 by omega) (by omega), nI_le (b := 3) (show x26 ≤ 3 by omega) (by decide)⟩⟩) (by rw [en, iN_n (by omega)]; omega)).2]; exact ia_of (hs39 112 (by decide))⟩, hI41, fun a ha => hs39 a (by unfold ocm at ha; omega)⟩
def dis2A (l : List Int32) (a1 : Int32) : Int32 := if ¬ (0 ≤ a1 ∧ a1 ≤ 47) then -1000000001 else (if ¬ iN (l.getD 2 0) < 9 then -1000000002 else (l.getD 2 0))
def dis2R (l : List Int32) (a1 : Int32) : List Int32 := if ¬ (0 ≤ a1 ∧ a1 ≤ 47) then l else (if ¬ iN (l.getD 2 0) < 9 then l else ((l.set (163 + iN (l.getD 2 0)) a1).set 2 (nI (iN (l.getD 2 0) + 1))))
theorem dis2_1 {l : List Int32} {a1 : Int32} (h0 : ¬ (0 ≤ a1 ∧ a1 ≤ 47)) : dis2A l a1 = -1000000001 ∧ dis2R l a1 = l := ⟨if_pos h0, if_pos h0⟩
theorem dis2_2 {l : List Int32} {a1 : Int32} (h0 : ¬ (¬ (0 ≤ a1 ∧ a1 ≤ 47))) (h1 : ¬ iN (l.getD 2 0) < 9) : dis2A l a1 = -1000000002 ∧ dis2R l a1 = l := ⟨(if_neg h0).trans (if_pos h1), (if_neg h0).trans (if_pos h1)⟩
theorem dis2_z {l : List Int32} {a1 : Int32} (h0 : ¬ (¬ (0 ≤ a1 ∧ a1 ≤ 47))) (h1 : ¬ (¬ iN (l.getD 2 0) < 9)) : dis2A l a1 = l.getD 2 0 ∧ dis2R l a1 = (l.set (163 + iN (l.getD 2 0)) a1).set 2 (nI (iN (l.getD 2 0) + 1)) := ⟨(if_neg h0).trans (if_neg h1), (if_neg h0).trans (if_neg h1)⟩
set_option maxRecDepth 20000 in
set_option maxHeartbeats 4000000 in
theorem Z62 {xs : Option (List Int32)} {d : Nat} {w : List sx_C} (hI : WI w) (l : List Int32) (hR : rel w 1 l) (a1 : Int32) : sx_RP xs (d + 7) 62 0 (lv_args 0 [.ref 0, .int a1]) [] w (fun r w2 => (r = some (.int (dis2A l a1)) ∧ rel w2 1 (dis2R l a1)) ∧ WI w2 ∧ EO w w2) := by
  obtain ⟨n, hn, en⟩ := hR.m9 hI (Or.inl rfl)
  have en0 := hR.dished.trans en
  refine sx_RP.step (pc2 := 1) (ls2 := [(0, .ref 0), (1, .int a1)]) (st2 := [.int a1]) (w3 := w) rfl rfl ?_
  rcases in_cases a1 0 47 (m := 0) (n := 47) rfl rfl (by decide) (by decide) with q1 | ⟨x2, hx3, hx4, rfl⟩
  · refine sx_RP.cu (as := [.int a1]) (rest2 := []) (st3 := [.int 0]) rfl rfl rfl rfl rfl (cx_7n q1) rfl ?_
    refine sx_RP.step (pc2 := 7) (ls2 := [(0, .ref 0), (1, .int a1)]) (st2 := []) (w3 := w) rfl rfl ?_
    refine sx_RP.step (pc2 := 8) (ls2 := [(0, .ref 0), (1, .int a1)]) (st2 := [.ref 0]) (w3 := w) rfl rfl ?_
    refine sx_RP.step (pc2 := 10) (ls2 := [(0, .ref 0), (1, .int a1)]) (st2 := [.int (-1000000001), .ref 0]) (w3 := w) rfl rfl ?_
    refine sx_RP.callp (as2 := [.ref 0, .int (-1000000001)]) (rest2 := []) rfl rfl (sx_inv_v2 (mi := 62) (k := 78) (st := [.int (-1000000001), .ref 0]) (w := w) rfl rfl hI.1.o0 rfl rfl rfl) rfl rfl rfl (S9_0 hI) (show _ = 13 from rfl) ?_
    rintro r4 w7 ⟨rfl, hI8, hs6⟩
    show sx_RP _ _ _ _ _ [.int (-1000000001)] _ _
    refine sx_RP.ret (r := (some (.int (-1000000001)))) rfl rfl ?_
    exact ⟨⟨by rw [(dis2_1 (l := l) q1).1], by rw [(dis2_1 (l := l) q1).2]; exact hR.same hI (Or.inl rfl) (fun a h1 h2 => hs6 a (by omega))⟩, hI8, fun a ha => hs6 a (by unfold oc at ha; omega)⟩
  · refine sx_RP.cu (as := [.int (nI x2)]) (rest2 := []) (st3 := [.int 1]) rfl rfl rfl rfl rfl (cx_7p ⟨nI_le (a := 0) hx3 (by omega), nI_le (b := 47) hx4 (by decide)⟩) rfl ?_
    refine sx_RP.step (pc2 := 14) (ls2 := [(0, .ref 0), (1, .int (nI x2))]) (st2 := []) (w3 := w) rfl rfl ?_
    refine sx_RP.step (pc2 := 15) (ls2 := [(0, .ref 0), (1, .int (nI x2))]) (st2 := [.ref 0]) (w3 := w) rfl rfl ?_
    refine sx_RP.gf (v := .ref 1) rfl rfl hI.1.o0 rfl rfl (show _ = 18 from rfl) ?_
    rcases Decidable.em (n < 9) with c9 | c9
    · refine sx_RP.cu (as := [.ref 1]) (rest2 := []) (st3 := [.int 1]) rfl rfl (sx_inv_v2 (mi := 62) (k := 219) (st := [.ref 1]) (w := w) rfl rfl (hI.1.oC (Or.inl rfl)) rfl rfl rfl) rfl rfl (p63y hI (Or.inl rfl) en0 hn c9) rfl ?_
      refine sx_RP.step (pc2 := 31) (ls2 := [(0, .ref 0), (1, .int (nI x2))]) (st2 := []) (w3 := w) rfl rfl ?_
      refine sx_RP.step (pc2 := 32) (ls2 := [(0, .ref 0), (1, .int (nI x2))]) (st2 := [.ref 0]) (w3 := w) rfl rfl ?_
      refine sx_RP.gf (v := .ref 1) rfl rfl hI.1.o0 rfl rfl (show _ = 35 from rfl) ?_
      refine sx_RP.step (pc2 := 36) (ls2 := [(0, .ref 0), (1, .int (nI x2))]) (st2 := [.int (nI x2), .ref 1]) (w3 := w) rfl rfl ?_
      refine sx_RP.callp (as2 := [.ref 1, .int (nI x2)]) (rest2 := []) rfl rfl (sx_inv_v2 (mi := 62) (k := 222) (st := [.int (nI x2), .ref 1]) (w := w) rfl rfl (hI.1.oC (Or.inl rfl)) rfl rfl rfl) rfl rfl rfl (X64z hI (Or.inl rfl) hR (by omega) en (show x2 < 48 by omega)) (show _ = 39 from rfl) ?_
      rintro r4 w12 ⟨⟨rfl, hc10⟩, hI13, ho11⟩
      show sx_RP _ _ _ _ _ [.int (nI n)] _ _
      refine sx_RP.ret (r := (some (.int (nI n)))) rfl rfl ?_
      exact ⟨⟨by rw [(dis2_z (l := l) (fun z => z ⟨nI_le (a := 0) (show 0 ≤ x2 by omega) (by omega), nI_le (b := 47) (show x2 ≤ 47 by omega) (by decide)⟩) (fun z => z (by rw [en, iN_n (by omega)]; exact c9))).1, en], by rw [(dis2_z (l := l) (fun z => z ⟨nI_le (a := 0) (show 0 ≤ x2 by omega) (by omega), nI_le (b := 47) (show x2 ≤ 47 by omega) (by decide)⟩) (fun z => z (by rw [en, iN_n (by omega)]; exact c9))).2, en, iN_n (by omega)]; exact hc10⟩, hI13, ho11.eo⟩
    · refine sx_RP.cu (as := [.ref 1]) (rest2 := []) (st3 := [.int 0]) rfl rfl (sx_inv_v2 (mi := 62) (k := 219) (st := [.ref 1]) (w := w) rfl rfl (hI.1.oC (Or.inl rfl)) rfl rfl rfl) rfl rfl (p63n hI (Or.inl rfl) en0 hn c9) rfl ?_
      refine sx_RP.step (pc2 := 24) (ls2 := [(0, .ref 0), (1, .int (nI x2))]) (st2 := []) (w3 := w) rfl rfl ?_
      refine sx_RP.step (pc2 := 25) (ls2 := [(0, .ref 0), (1, .int (nI x2))]) (st2 := [.ref 0]) (w3 := w) rfl rfl ?_
      refine sx_RP.step (pc2 := 27) (ls2 := [(0, .ref 0), (1, .int (nI x2))]) (st2 := [.int (-1000000002), .ref 0]) (w3 := w) rfl rfl ?_
      refine sx_RP.callp (as2 := [.ref 0, .int (-1000000002)]) (rest2 := []) rfl rfl (sx_inv_v2 (mi := 62) (k := 78) (st := [.int (-1000000002), .ref 0]) (w := w) rfl rfl hI.1.o0 rfl rfl rfl) rfl rfl rfl (S9_1 hI) (show _ = 30 from rfl) ?_
      rintro r4 w15 ⟨rfl, hI16, hs14⟩
      show sx_RP _ _ _ _ _ [.int (-1000000002)] _ _
      refine sx_RP.ret (r := (some (.int (-1000000002)))) rfl rfl ?_
      exact ⟨⟨by rw [(dis2_2 (l := l) (fun z => z ⟨nI_le (a := 0) (show 0 ≤ x2 by omega) (by omega), nI_le (b := 47) (show x2 ≤ 47 by omega) (by decide)⟩) (by rw [en, iN_n (by omega)]; exact c9)).1], by rw [(dis2_2 (l := l) (fun z => z ⟨nI_le (a := 0) (show 0 ≤ x2 by omega) (by omega), nI_le (b := 47) (show x2 ≤ 47 by omega) (by decide)⟩) (by rw [en, iN_n (by omega)]; exact c9)).2]; exact hR.same hI (Or.inl rfl) (fun a h1 h2 => hs14 a (by omega))⟩, hI16, fun a ha => hs14 a (by unfold oc at ha; omega)⟩
set_option maxRecDepth 20000 in
set_option maxHeartbeats 4000000 in
theorem Y184 {xs : Option (List Int32)} {d : Nat} {w : List sx_C} (hI : WI w) (a1 : Int32) : sx_RP xs (d + 7) 184 0 (lv_args 0 [.ref 111, .int a1]) [] w (fun r w2 => (r = some (.int (dis2A (ia w 112) a1)) ∧ ia w2 112 = dis2R (ia w 112) a1) ∧ WI w2 ∧ EOm w w2) := by
  obtain ⟨n, hn, en⟩ := (hI.sA (a := 112) (by decide) 2 (by decide)).2.1 rfl
  refine sx_RP.step (pc2 := 1) (ls2 := [(0, .ref 111), (1, .int a1)]) (st2 := [.int a1]) (w3 := w) rfl rfl ?_
  rcases in_cases a1 0 47 (m := 0) (n := 47) rfl rfl (by decide) (by decide) with q1 | ⟨x2, hx3, hx4, rfl⟩
  · refine sx_RP.cu (as := [.int a1]) (rest2 := []) (st3 := [.int 0]) rfl rfl rfl rfl rfl (cx_131n q1) rfl ?_
    refine sx_RP.step (pc2 := 7) (ls2 := [(0, .ref 111), (1, .int a1)]) (st2 := []) (w3 := w) rfl rfl ?_
    refine sx_RP.step (pc2 := 8) (ls2 := [(0, .ref 111), (1, .int a1)]) (st2 := [.ref 111]) (w3 := w) rfl rfl ?_
    refine sx_RP.step (pc2 := 9) (ls2 := [(0, .ref 111), (1, .int a1)]) (st2 := [.int 0, .ref 111]) (w3 := w) rfl rfl ?_
    refine sx_RP.callp (as2 := [.ref 111, .int 0]) (rest2 := []) rfl rfl (sx_inv_v2 (mi := 184) (k := 70) (st := [.int 0, .ref 111]) (w := w) rfl rfl hI.1.o111 rfl rfl rfl) rfl rfl rfl (S133_0 hI) (show _ = 12 from rfl) ?_
    rintro r4 w7 ⟨rfl, hI8, hs6⟩
    show sx_RP _ _ _ _ _ [.int (-1000000001)] _ _
    refine sx_RP.ret (r := (some (.int (-1000000001)))) rfl rfl ?_
    exact ⟨⟨by rw [(dis2_1 q1).1], by rw [(dis2_1 q1).2]; exact ia_of (hs6 112 (by decide))⟩, hI8, fun a ha => hs6 a (by unfold ocm at ha; omega)⟩
  · refine sx_RP.cu (as := [.int (nI x2)]) (rest2 := []) (st3 := [.int 1]) rfl rfl rfl rfl rfl (cx_131p ⟨nI_le (a := 0) hx3 (by omega), nI_le (b := 47) hx4 (by decide)⟩) rfl ?_
    refine sx_RP.step (pc2 := 13) (ls2 := [(0, .ref 111), (1, .int (nI x2))]) (st2 := []) (w3 := w) rfl rfl ?_
    refine sx_RP.step (pc2 := 14) (ls2 := [(0, .ref 111), (1, .int (nI x2))]) (st2 := [.ref 111]) (w3 := w) rfl rfl ?_
    refine sx_RP.gf (v := .ref 112) rfl rfl hI.1.o111 rfl rfl (show _ = 17 from rfl) ?_
    refine sx_RP.step (pc2 := 18) (ls2 := [(0, .ref 111), (1, .int (nI x2))]) (st2 := [.int 2, .ref 112]) (w3 := w) rfl rfl ?_
    refine sx_RP.ild (c := 2) rfl hI.1.a112.1 hI.1.a112.2 (sx_in_nI (show 2 < 172 by omega) (by decide)) (show (nI 2).toNatClampNeg = 2 from nI_clamp (by omega)) (show _ = 19 from rfl) ?_
    rw [en]
    refine sx_RP.step (pc2 := 21) (ls2 := [(0, .ref 111), (1, .int (nI x2))]) (st2 := [.int 9, .int (nI n)]) (w3 := w) rfl rfl ?_
    refine sx_RP.br (p1 := 30) (l1 := [(0, .ref 111), (1, .int (nI x2))]) (s1 := []) (v1 := w) (p2 := 24) (l2 := [(0, .ref 111), (1, .int (nI x2))]) (s2 := []) (v2 := w) rfl rfl (fun q9 => ?_) (fun q9 => ?_)
    · replace q9 := of_decide_eq_true q9
      replace q9 := mt (nI_eq (a := n) (b := 9) (by omega) (by omega)).mpr q9
      refine sx_RP.step (pc2 := 31) (ls2 := [(0, .ref 111), (1, .int (nI x2))]) (st2 := [.ref 111]) (w3 := w) rfl rfl ?_
      refine sx_RP.gf (v := .ref 112) rfl rfl hI.1.o111 rfl rfl (show _ = 34 from rfl) ?_
      refine sx_RP.step (pc2 := 37) (ls2 := [(0, .ref 111), (1, .int (nI x2))]) (st2 := [.int 163, .ref 112]) (w3 := w) rfl rfl ?_
      refine sx_RP.step (pc2 := 38) (ls2 := [(0, .ref 111), (1, .int (nI x2))]) (st2 := [.ref 111, .int 163, .ref 112]) (w3 := w) rfl rfl ?_
      refine sx_RP.gf (v := .ref 112) rfl rfl hI.1.o111 rfl rfl (show _ = 41 from rfl) ?_
      refine sx_RP.step (pc2 := 42) (ls2 := [(0, .ref 111), (1, .int (nI x2))]) (st2 := [.int 2, .ref 112, .int 163, .ref 112]) (w3 := w) rfl rfl ?_
      refine sx_RP.ild (c := 2) rfl hI.1.a112.1 hI.1.a112.2 (sx_in_nI (show 2 < 172 by omega) (by decide)) (show (nI 2).toNatClampNeg = 2 from nI_clamp (by omega)) (show _ = 43 from rfl) ?_
      rw [en]
      refine sx_RP.step (pc2 := 44) (ls2 := [(0, .ref 111), (1, .int (nI x2))]) (st2 := [.int (163 + (nI n)), .ref 112]) (w3 := w) rfl rfl ?_
      rw [show (163 + (nI n) : Int32) = nI (163 + n) from nI_add 163 n]
      refine sx_RP.step (pc2 := 45) (ls2 := [(0, .ref 111), (1, .int (nI x2))]) (st2 := [.int (nI x2), .int (nI (163 + n)), .ref 112]) (w3 := w) rfl rfl ?_
      refine sx_RP.xM (k := (163 + n)) hI (by decide) rfl (by omega) (eOK_d (by omega) (inR.n (show x2 ≤ 47 by omega))) (show _ = 46 from rfl) (fun w10 hI11 hs12 hv13 => ?_)
      have ex14 : (ia w10 112).getD 2 0 = nI n := by rw [hv13, gd_ne (by omega)]; exact en
      have ex15 : (ia w10 112).getD (163 + n) 0 = nI x2 := by rw [hv13, gd_eq (by rw [hI.1.a112.2]; omega)]
      refine sx_RP.step (pc2 := 47) (ls2 := [(0, .ref 111), (1, .int (nI x2))]) (st2 := [.ref 111]) (w3 := w10) rfl rfl ?_
      refine sx_RP.gf (v := .ref 112) rfl rfl hI11.1.o111 rfl rfl (show _ = 50 from rfl) ?_
      refine sx_RP.step (pc2 := 51) (ls2 := [(0, .ref 111), (1, .int (nI x2))]) (st2 := [.int 2, .ref 112]) (w3 := w10) rfl rfl ?_
      refine sx_RP.step (pc2 := 52) (ls2 := [(0, .ref 111), (1, .int (nI x2))]) (st2 := [.int 2, .ref 112, .int 2, .ref 112]) (w3 := w10) rfl rfl ?_
      refine sx_RP.ild (c := 2) rfl hI11.1.a112.1 hI11.1.a112.2 (sx_in_nI (show 2 < 172 by omega) (by decide)) (show (nI 2).toNatClampNeg = 2 from nI_clamp (by omega)) (show _ = 53 from rfl) ?_
      rw [ex14]
      refine sx_RP.step (pc2 := 54) (ls2 := [(0, .ref 111), (1, .int (nI x2))]) (st2 := [.int 1, .int (nI n), .int 2, .ref 112]) (w3 := w10) rfl rfl ?_
      refine sx_RP.step (pc2 := 55) (ls2 := [(0, .ref 111), (1, .int (nI x2))]) (st2 := [.int ((nI n) + 1), .int 2, .ref 112]) (w3 := w10) rfl rfl ?_
      rw [show ((nI n) + 1 : Int32) = nI (n + 1) from nI_add n 1]
      refine sx_RP.xM (k := 2) hI11 (by decide) rfl (by omega) (eOK_2 (inR.n (show (n + 1) ≤ 9 by omega))) (show _ = 56 from rfl) (fun w16 hI17 hs18 hv19 => ?_)
      have ex20 : (ia w16 112).getD (163 + n) 0 = nI x2 := by rw [hv19, gd_ne (by omega)]; exact ex15
      have ex21 : (ia w16 112).getD 2 0 = nI (n + 1) := by rw [hv19, gd_eq (by rw [hI11.1.a112.2]; omega)]
      refine sx_RP.step (pc2 := 57) (ls2 := [(0, .ref 111), (1, .int (nI x2))]) (st2 := [.ref 111]) (w3 := w16) rfl rfl ?_
      refine sx_RP.gf (v := .ref 112) rfl rfl hI17.1.o111 rfl rfl (show _ = 60 from rfl) ?_
      refine sx_RP.step (pc2 := 61) (ls2 := [(0, .ref 111), (1, .int (nI x2))]) (st2 := [.int 2, .ref 112]) (w3 := w16) rfl rfl ?_
      refine sx_RP.ild (c := 2) rfl hI17.1.a112.1 hI17.1.a112.2 (sx_in_nI (show 2 < 172 by omega) (by decide)) (show (nI 2).toNatClampNeg = 2 from nI_clamp (by omega)) (show _ = 62 from rfl) ?_
      rw [ex21]
      refine sx_RP.step (pc2 := 63) (ls2 := [(0, .ref 111), (1, .int (nI x2))]) (st2 := [.int 1, .int (nI (n + 1))]) (w3 := w16) rfl rfl ?_
      refine sx_RP.step (pc2 := 64) (ls2 := [(0, .ref 111), (1, .int (nI x2))]) (st2 := [.int ((nI (n + 1)) - 1)]) (w3 := w16) rfl rfl ?_
      rw [show ((nI (n + 1)) - 1 : Int32) = nI ((n + 1) - 1) from nI_sub (a := (n + 1)) (b := 1) (by omega)]
      refine sx_RP.ret (r := (some (.int (nI ((n + 1) - 1))))) rfl rfl ?_
      exact ⟨⟨by rw [(dis2_z (l := ia w 112) (fun z => z ⟨nI_le (a := 0) (show 0 ≤ x2 by omega) (by omega), nI_le (b := 47) (show x2 ≤ 47 by omega) (by decide)⟩) (fun z => z (by rw [en, iN_n (by omega)]; omega))).1, en, Nat.add_sub_cancel], by rw [(dis2_z (l := ia w 112) (fun z => z ⟨nI_le (a := 0) (show 0 ≤ x2 by omega) (by omega), nI_le (b := 47) (show x2 ≤ 47 by omega) (by decide)⟩) (fun z => z (by rw [en, iN_n (by omega)]; omega))).2, en, iN_n (by omega), hv19, hv13]⟩, hI17, fun a ha => (hs12.tr hs18) a (by unfold ocm at ha; omega)⟩
    · replace q9 := Decidable.not_not.mp (of_decide_eq_false q9)
      replace q9 := (nI_eq (a := n) (b := 9) (by omega) (by omega)).mp q9
      refine sx_RP.step (pc2 := 25) (ls2 := [(0, .ref 111), (1, .int (nI x2))]) (st2 := [.ref 111]) (w3 := w) rfl rfl ?_
      refine sx_RP.step (pc2 := 26) (ls2 := [(0, .ref 111), (1, .int (nI x2))]) (st2 := [.int 1, .ref 111]) (w3 := w) rfl rfl ?_
      refine sx_RP.callp (as2 := [.ref 111, .int 1]) (rest2 := []) rfl rfl (sx_inv_v2 (mi := 184) (k := 70) (st := [.int 1, .ref 111]) (w := w) rfl rfl hI.1.o111 rfl rfl rfl) rfl rfl rfl (S133_1 hI) (show _ = 29 from rfl) ?_
      rintro r4 w23 ⟨rfl, hI24, hs22⟩
      show sx_RP _ _ _ _ _ [.int (-1000000002)] _ _
      refine sx_RP.ret (r := (some (.int (-1000000002)))) rfl rfl ?_
      exact ⟨⟨by rw [(dis2_2 (fun z => z ⟨nI_le (a := 0) (show 0 ≤ x2 by omega) (by omega), nI_le (b := 47) (show x2 ≤ 47 by omega) (by decide)⟩) (by rw [en, iN_n (by omega)]; omega)).1], by rw [(dis2_2 (fun z => z ⟨nI_le (a := 0) (show 0 ≤ x2 by omega) (by omega), nI_le (b := 47) (show x2 ≤ 47 by omega) (by decide)⟩) (by rw [en, iN_n (by omega)]; omega)).2]; exact ia_of (hs22 112 (by decide))⟩, hI24, fun a ha => hs22 a (by unfold ocm at ha; omega)⟩
def mov2A (l : List Int32) (a1 a2 : Int32) : Int32 := if ¬ ((0 ≤ a1 ∧ a1 < l.getD 2 0) ∧ (0 ≤ a2 ∧ a2 ≤ 47)) then -1000000001 else (l.getD (163 + iN a1) 0)
def mov2R (l : List Int32) (a1 a2 : Int32) : List Int32 := if ¬ ((0 ≤ a1 ∧ a1 < l.getD 2 0) ∧ (0 ≤ a2 ∧ a2 ≤ 47)) then l else (l.set (163 + iN a1) a2)
theorem mov2_1 {l : List Int32} {a1 a2 : Int32} (h0 : ¬ ((0 ≤ a1 ∧ a1 < l.getD 2 0) ∧ (0 ≤ a2 ∧ a2 ≤ 47))) : mov2A l a1 a2 = -1000000001 ∧ mov2R l a1 a2 = l := ⟨if_pos h0, if_pos h0⟩
theorem mov2_z {l : List Int32} {a1 a2 : Int32} (h0 : ¬ (¬ ((0 ≤ a1 ∧ a1 < l.getD 2 0) ∧ (0 ≤ a2 ∧ a2 ≤ 47)))) : mov2A l a1 a2 = l.getD (163 + iN a1) 0 ∧ mov2R l a1 a2 = l.set (163 + iN a1) a2 := ⟨if_neg h0, if_neg h0⟩
set_option maxRecDepth 20000 in
set_option maxHeartbeats 4000000 in
theorem Z65 {xs : Option (List Int32)} {d : Nat} {w : List sx_C} (hI : WI w) (l : List Int32) (hR : rel w 1 l) (a1 a2 : Int32) : sx_RP xs (d + 7) 65 0 (lv_args 0 [.ref 0, .int a1, .int a2]) [] w (fun r w2 => (r = some (.int (mov2A l a1 a2)) ∧ rel w2 1 (mov2R l a1 a2)) ∧ WI w2 ∧ EO w w2) := by
  obtain ⟨n, hn, en⟩ := hR.m9 hI (Or.inl rfl)
  have en0 := hR.dished.trans en
  refine sx_RP.step (pc2 := 1) (ls2 := [(0, .ref 0), (1, .int a1), (2, .int a2)]) (st2 := [.ref 0]) (w3 := w) rfl rfl ?_
  refine sx_RP.gf (v := .ref 1) rfl rfl hI.1.o0 rfl rfl (show _ = 4 from rfl) ?_
  refine sx_RP.step (pc2 := 5) (ls2 := [(0, .ref 0), (1, .int a1), (2, .int a2)]) (st2 := [.int a1, .ref 1]) (w3 := w) rfl rfl ?_
  rcases Decidable.em (0 ≤ a1 ∧ a1 < nI n) with c1 | c1
  · obtain ⟨x2, hx3, rfl⟩ := idx_get c1 (by omega)
    refine sx_RP.cu (as := [.ref 1, .int (nI x2)]) (rest2 := []) (st3 := [.int 1]) rfl rfl (sx_inv_v2 (mi := 65) (k := 225) (st := [.int (nI x2), .ref 1]) (w := w) rfl rfl (hI.1.oC (Or.inl rfl)) rfl rfl rfl) rfl rfl (p66y hI (Or.inl rfl) en0 hn c1) rfl ?_
    refine sx_RP.step (pc2 := 11) (ls2 := [(0, .ref 0), (1, .int (nI x2)), (2, .int a2)]) (st2 := []) (w3 := w) rfl rfl ?_
    refine sx_RP.step (pc2 := 12) (ls2 := [(0, .ref 0), (1, .int (nI x2)), (2, .int a2)]) (st2 := [.int a2]) (w3 := w) rfl rfl ?_
    rcases in_cases a2 0 47 (m := 0) (n := 47) rfl rfl (by decide) (by decide) with q4 | ⟨x5, hx6, hx7, rfl⟩
    · refine sx_RP.cu (as := [.int a2]) (rest2 := []) (st3 := [.int 0]) rfl rfl rfl rfl rfl (cx_7n q4) rfl ?_
      refine sx_RP.step (pc2 := 18) (ls2 := [(0, .ref 0), (1, .int (nI x2)), (2, .int a2)]) (st2 := []) (w3 := w) rfl rfl ?_
      refine sx_RP.step (pc2 := 19) (ls2 := [(0, .ref 0), (1, .int (nI x2)), (2, .int a2)]) (st2 := [.ref 0]) (w3 := w) rfl rfl ?_
      refine sx_RP.step (pc2 := 21) (ls2 := [(0, .ref 0), (1, .int (nI x2)), (2, .int a2)]) (st2 := [.int (-1000000001), .ref 0]) (w3 := w) rfl rfl ?_
      refine sx_RP.callp (as2 := [.ref 0, .int (-1000000001)]) (rest2 := []) rfl rfl (sx_inv_v2 (mi := 65) (k := 78) (st := [.int (-1000000001), .ref 0]) (w := w) rfl rfl hI.1.o0 rfl rfl rfl) rfl rfl rfl (S9_0 hI) (show _ = 24 from rfl) ?_
      rintro r4 w10 ⟨rfl, hI11, hs9⟩
      show sx_RP _ _ _ _ _ [.int (-1000000001)] _ _
      refine sx_RP.ret (r := (some (.int (-1000000001)))) rfl rfl ?_
      exact ⟨⟨by rw [(mov2_1 (l := l) (fun z => q4 z.2)).1], by rw [(mov2_1 (l := l) (fun z => q4 z.2)).2]; exact hR.same hI (Or.inl rfl) (fun a h1 h2 => hs9 a (by omega))⟩, hI11, fun a ha => hs9 a (by unfold oc at ha; omega)⟩
    · refine sx_RP.cu (as := [.int (nI x5)]) (rest2 := []) (st3 := [.int 1]) rfl rfl rfl rfl rfl (cx_7p ⟨nI_le (a := 0) hx6 (by omega), nI_le (b := 47) hx7 (by decide)⟩) rfl ?_
      refine sx_RP.step (pc2 := 25) (ls2 := [(0, .ref 0), (1, .int (nI x2)), (2, .int (nI x5))]) (st2 := []) (w3 := w) rfl rfl ?_
      refine sx_RP.step (pc2 := 26) (ls2 := [(0, .ref 0), (1, .int (nI x2)), (2, .int (nI x5))]) (st2 := [.ref 0]) (w3 := w) rfl rfl ?_
      refine sx_RP.gf (v := .ref 1) rfl rfl hI.1.o0 rfl rfl (show _ = 29 from rfl) ?_
      refine sx_RP.gref (k := 4) (b := 4) hI (Or.inl rfl) rfl rfl (by omega) (show _ = 32 from rfl) ?_
      refine sx_RP.step (pc2 := 33) (ls2 := [(0, .ref 0), (1, .int (nI x2)), (2, .int (nI x5))]) (st2 := [.int (nI x2), .ref 4]) (w3 := w) rfl rfl ?_
      refine sx_RP.ild (c := x2) rfl (hI.1.aD (Or.inl rfl)).1 (hI.1.aD (Or.inl rfl)).2 (sx_in_nI (show x2 < 9 by omega) (by decide)) (show (nI x2).toNatClampNeg = x2 from nI_clamp (by omega)) (show _ = 34 from rfl) ?_
      obtain ⟨x12, hx13, ex14⟩ : inR ((ia w 4).getD x2 0) 47 := hI.di (Or.inl rfl) (show x2 < 9 by omega)
      rw [ex14]
      refine sx_RP.step (pc2 := 35) (ls2 := [(3, .int (nI x12)), (0, .ref 0), (1, .int (nI x2)), (2, .int (nI x5))]) (st2 := []) (w3 := w) rfl rfl ?_
      refine sx_RP.step (pc2 := 36) (ls2 := [(3, .int (nI x12)), (0, .ref 0), (1, .int (nI x2)), (2, .int (nI x5))]) (st2 := [.ref 0]) (w3 := w) rfl rfl ?_
      refine sx_RP.gf (v := .ref 1) rfl rfl hI.1.o0 rfl rfl (show _ = 39 from rfl) ?_
      refine sx_RP.gref (k := 4) (b := 4) hI (Or.inl rfl) rfl rfl (by omega) (show _ = 42 from rfl) ?_
      refine sx_RP.step (pc2 := 43) (ls2 := [(3, .int (nI x12)), (0, .ref 0), (1, .int (nI x2)), (2, .int (nI x5))]) (st2 := [.int (nI x2), .ref 4]) (w3 := w) rfl rfl ?_
      refine sx_RP.step (pc2 := 44) (ls2 := [(3, .int (nI x12)), (0, .ref 0), (1, .int (nI x2)), (2, .int (nI x5))]) (st2 := [.int (nI x5), .int (nI x2), .ref 4]) (w3 := w) rfl rfl ?_
      refine sx_RP.xD (A := 1) (c := x2) hI (Or.inl rfl) rfl (show x2 < 9 by omega) (inR.n (show x5 ≤ 47 by omega)) (show _ = 45 from rfl) (fun w15 hI16 hs17 hv18 => ?_)
      have ex19 := (fi_same 5 (hs17 1 (by omega))).trans en0
      refine sx_RP.step (pc2 := 46) (ls2 := [(3, .int (nI x12)), (0, .ref 0), (1, .int (nI x2)), (2, .int (nI x5))]) (st2 := [.int (nI x12)]) (w3 := w15) rfl rfl ?_
      refine sx_RP.ret (r := (some (.int (nI x12)))) rfl rfl ?_
      refine ⟨⟨?_, ?_⟩, hI16, fun a ha => hs17 a (by unfold oc at ha; omega)⟩
      · rw [(mov2_z (l := l) (a1 := nI x2) (a2 := nI x5) (fun z => z ⟨by rw [en]; exact c1, ⟨nI_le (a := 0) (show 0 ≤ x5 by omega) (by omega), nI_le (b := 47) (show x5 ≤ 47 by omega) (by decide)⟩⟩)).1, iN_n (show x2 < 2 ^ 31 by omega)]
        exact congrArg (fun v => some (Value.int v)) (ex14.symm.trans (hR.di (d := x2) (by rw [en, iN_n (by omega)]; exact hx3)))
      · rw [(mov2_z (l := l) (a1 := nI x2) (a2 := nI x5) (fun z => z ⟨by rw [en]; exact c1, ⟨nI_le (a := 0) (show 0 ≤ x5 by omega) (by omega), nI_le (b := 47) (show x5 ≤ 47 by omega) (by decide)⟩⟩)).2, iN_n (show x2 < 2 ^ 31 by omega)]
        exact hR.sDi hI (Or.inl rfl) (by omega) hs17 hv18
  · refine sx_RP.cu (as := [.ref 1, .int a1]) (rest2 := []) (st3 := [.int 0]) rfl rfl (sx_inv_v2 (mi := 65) (k := 225) (st := [.int a1, .ref 1]) (w := w) rfl rfl (hI.1.oC (Or.inl rfl)) rfl rfl rfl) rfl rfl (p66n hI (Or.inl rfl) en0 hn c1) rfl ?_
    refine sx_RP.step (pc2 := 18) (ls2 := [(0, .ref 0), (1, .int a1), (2, .int a2)]) (st2 := []) (w3 := w) rfl rfl ?_
    refine sx_RP.step (pc2 := 19) (ls2 := [(0, .ref 0), (1, .int a1), (2, .int a2)]) (st2 := [.ref 0]) (w3 := w) rfl rfl ?_
    refine sx_RP.step (pc2 := 21) (ls2 := [(0, .ref 0), (1, .int a1), (2, .int a2)]) (st2 := [.int (-1000000001), .ref 0]) (w3 := w) rfl rfl ?_
    refine sx_RP.callp (as2 := [.ref 0, .int (-1000000001)]) (rest2 := []) rfl rfl (sx_inv_v2 (mi := 65) (k := 78) (st := [.int (-1000000001), .ref 0]) (w := w) rfl rfl hI.1.o0 rfl rfl rfl) rfl rfl rfl (S9_0 hI) (show _ = 24 from rfl) ?_
    rintro r4 w21 ⟨rfl, hI22, hs20⟩
    show sx_RP _ _ _ _ _ [.int (-1000000001)] _ _
    refine sx_RP.ret (r := (some (.int (-1000000001)))) rfl rfl ?_
    exact ⟨⟨by rw [(mov2_1 (l := l) (fun z => c1 (by rw [← en]; exact z.1))).1], by rw [(mov2_1 (l := l) (fun z => c1 (by rw [← en]; exact z.1))).2]; exact hR.same hI (Or.inl rfl) (fun a h1 h2 => hs20 a (by omega))⟩, hI22, fun a ha => hs20 a (by unfold oc at ha; omega)⟩
set_option maxRecDepth 20000 in
set_option maxHeartbeats 4000000 in
theorem Y185 {xs : Option (List Int32)} {d : Nat} {w : List sx_C} (hI : WI w) (a1 a2 : Int32) : sx_RP xs (d + 7) 185 0 (lv_args 0 [.ref 111, .int a1, .int a2]) [] w (fun r w2 => (r = some (.int (mov2A (ia w 112) a1 a2)) ∧ ia w2 112 = mov2R (ia w 112) a1 a2) ∧ WI w2 ∧ EOm w w2) := by
  obtain ⟨n, hn, en⟩ := (hI.sA (a := 112) (by decide) 2 (by decide)).2.1 rfl
  refine sx_RP.step (pc2 := 1) (ls2 := [(0, .ref 111), (1, .int a1), (2, .int a2)]) (st2 := [.ref 111]) (w3 := w) rfl rfl ?_
  refine sx_RP.step (pc2 := 2) (ls2 := [(0, .ref 111), (1, .int a1), (2, .int a2)]) (st2 := [.int a1, .ref 111]) (w3 := w) rfl rfl ?_
  rcases Decidable.em (0 ≤ a1 ∧ a1 < nI n) with c1 | c1
  · obtain ⟨x2, hx3, rfl⟩ := idx_get c1 (by omega)
    refine sx_RP.cu (as := [.ref 111, .int (nI x2)]) (rest2 := []) (st3 := [.int 1]) rfl rfl (sx_inv_v2 (mi := 185) (k := 171) (st := [.int (nI x2), .ref 111]) (w := w) rfl rfl hI.1.o111 rfl rfl rfl) rfl rfl (p186y hI en hn c1) rfl ?_
    refine sx_RP.step (pc2 := 8) (ls2 := [(0, .ref 111), (1, .int (nI x2)), (2, .int a2)]) (st2 := []) (w3 := w) rfl rfl ?_
    refine sx_RP.step (pc2 := 9) (ls2 := [(0, .ref 111), (1, .int (nI x2)), (2, .int a2)]) (st2 := [.int a2]) (w3 := w) rfl rfl ?_
    rcases in_cases a2 0 47 (m := 0) (n := 47) rfl rfl (by decide) (by decide) with q4 | ⟨x5, hx6, hx7, rfl⟩
    · refine sx_RP.cu (as := [.int a2]) (rest2 := []) (st3 := [.int 0]) rfl rfl rfl rfl rfl (cx_131n q4) rfl ?_
      refine sx_RP.step (pc2 := 15) (ls2 := [(0, .ref 111), (1, .int (nI x2)), (2, .int a2)]) (st2 := []) (w3 := w) rfl rfl ?_
      refine sx_RP.step (pc2 := 16) (ls2 := [(0, .ref 111), (1, .int (nI x2)), (2, .int a2)]) (st2 := [.ref 111]) (w3 := w) rfl rfl ?_
      refine sx_RP.step (pc2 := 17) (ls2 := [(0, .ref 111), (1, .int (nI x2)), (2, .int a2)]) (st2 := [.int 0, .ref 111]) (w3 := w) rfl rfl ?_
      refine sx_RP.callp (as2 := [.ref 111, .int 0]) (rest2 := []) rfl rfl (sx_inv_v2 (mi := 185) (k := 70) (st := [.int 0, .ref 111]) (w := w) rfl rfl hI.1.o111 rfl rfl rfl) rfl rfl rfl (S133_0 hI) (show _ = 20 from rfl) ?_
      rintro r4 w10 ⟨rfl, hI11, hs9⟩
      show sx_RP _ _ _ _ _ [.int (-1000000001)] _ _
      refine sx_RP.ret (r := (some (.int (-1000000001)))) rfl rfl ?_
      exact ⟨⟨by rw [(mov2_1 (fun z => q4 z.2)).1], by rw [(mov2_1 (fun z => q4 z.2)).2]; exact ia_of (hs9 112 (by decide))⟩, hI11, fun a ha => hs9 a (by unfold ocm at ha; omega)⟩
    · refine sx_RP.cu (as := [.int (nI x5)]) (rest2 := []) (st3 := [.int 1]) rfl rfl rfl rfl rfl (cx_131p ⟨nI_le (a := 0) hx6 (by omega), nI_le (b := 47) hx7 (by decide)⟩) rfl ?_
      refine sx_RP.step (pc2 := 21) (ls2 := [(0, .ref 111), (1, .int (nI x2)), (2, .int (nI x5))]) (st2 := []) (w3 := w) rfl rfl ?_
      refine sx_RP.step (pc2 := 22) (ls2 := [(0, .ref 111), (1, .int (nI x2)), (2, .int (nI x5))]) (st2 := [.ref 111]) (w3 := w) rfl rfl ?_
      refine sx_RP.gf (v := .ref 112) rfl rfl hI.1.o111 rfl rfl (show _ = 25 from rfl) ?_
      refine sx_RP.step (pc2 := 28) (ls2 := [(0, .ref 111), (1, .int (nI x2)), (2, .int (nI x5))]) (st2 := [.int 163, .ref 112]) (w3 := w) rfl rfl ?_
      refine sx_RP.step (pc2 := 29) (ls2 := [(0, .ref 111), (1, .int (nI x2)), (2, .int (nI x5))]) (st2 := [.int (nI x2), .int 163, .ref 112]) (w3 := w) rfl rfl ?_
      refine sx_RP.step (pc2 := 30) (ls2 := [(0, .ref 111), (1, .int (nI x2)), (2, .int (nI x5))]) (st2 := [.int (163 + (nI x2)), .ref 112]) (w3 := w) rfl rfl ?_
      rw [show (163 + (nI x2) : Int32) = nI (163 + x2) from nI_add 163 x2]
      refine sx_RP.ild (c := (163 + x2)) rfl hI.1.a112.1 hI.1.a112.2 (sx_in_nI (show (163 + x2) < 172 by omega) (by decide)) (show (nI ((163 + x2))).toNatClampNeg = (163 + x2) from nI_clamp (by omega)) (show _ = 31 from rfl) ?_
      refine sx_RP.step (pc2 := 32) (ls2 := [(3, .int ((ia w 112).getD ((163 + x2)) 0)), (0, .ref 111), (1, .int (nI x2)), (2, .int (nI x5))]) (st2 := []) (w3 := w) rfl rfl ?_
      refine sx_RP.step (pc2 := 33) (ls2 := [(3, .int ((ia w 112).getD ((163 + x2)) 0)), (0, .ref 111), (1, .int (nI x2)), (2, .int (nI x5))]) (st2 := [.ref 111]) (w3 := w) rfl rfl ?_
      refine sx_RP.gf (v := .ref 112) rfl rfl hI.1.o111 rfl rfl (show _ = 36 from rfl) ?_
      refine sx_RP.step (pc2 := 39) (ls2 := [(3, .int ((ia w 112).getD ((163 + x2)) 0)), (0, .ref 111), (1, .int (nI x2)), (2, .int (nI x5))]) (st2 := [.int 163, .ref 112]) (w3 := w) rfl rfl ?_
      refine sx_RP.step (pc2 := 40) (ls2 := [(3, .int ((ia w 112).getD ((163 + x2)) 0)), (0, .ref 111), (1, .int (nI x2)), (2, .int (nI x5))]) (st2 := [.int (nI x2), .int 163, .ref 112]) (w3 := w) rfl rfl ?_
      refine sx_RP.step (pc2 := 41) (ls2 := [(3, .int ((ia w 112).getD ((163 + x2)) 0)), (0, .ref 111), (1, .int (nI x2)), (2, .int (nI x5))]) (st2 := [.int (163 + (nI x2)), .ref 112]) (w3 := w) rfl rfl ?_
      rw [show (163 + (nI x2) : Int32) = nI (163 + x2) from nI_add 163 x2]
      refine sx_RP.step (pc2 := 42) (ls2 := [(3, .int ((ia w 112).getD ((163 + x2)) 0)), (0, .ref 111), (1, .int (nI x2)), (2, .int (nI x5))]) (st2 := [.int (nI x5), .int (nI (163 + x2)), .ref 112]) (w3 := w) rfl rfl ?_
      refine sx_RP.xM (k := (163 + x2)) hI (by decide) rfl (by omega) (eOK_d (by omega) (inR.n (show x5 ≤ 47 by omega))) (show _ = 43 from rfl) (fun w12 hI13 hs14 hv15 => ?_)
      refine sx_RP.step (pc2 := 44) (ls2 := [(3, .int ((ia w 112).getD ((163 + x2)) 0)), (0, .ref 111), (1, .int (nI x2)), (2, .int (nI x5))]) (st2 := [.int ((ia w 112).getD ((163 + x2)) 0)]) (w3 := w12) rfl rfl ?_
      refine sx_RP.ret (r := (some (.int ((ia w 112).getD ((163 + x2)) 0)))) rfl rfl ?_
      exact ⟨⟨by rw [(mov2_z (l := ia w 112) (a1 := nI x2) (a2 := nI x5) (fun z => z ⟨by rw [en]; exact c1, ⟨nI_le (a := 0) (show 0 ≤ x5 by omega) (by omega), nI_le (b := 47) (show x5 ≤ 47 by omega) (by decide)⟩⟩)).1, iN_n (show x2 < 2 ^ 31 by omega)], by rw [(mov2_z (l := ia w 112) (a1 := nI x2) (a2 := nI x5) (fun z => z ⟨by rw [en]; exact c1, ⟨nI_le (a := 0) (show 0 ≤ x5 by omega) (by omega), nI_le (b := 47) (show x5 ≤ 47 by omega) (by decide)⟩⟩)).2, hv15, iN_n (show x2 < 2 ^ 31 by omega)]⟩, hI13, fun a ha => hs14 a (by unfold ocm at ha; omega)⟩
  · refine sx_RP.cu (as := [.ref 111, .int a1]) (rest2 := []) (st3 := [.int 0]) rfl rfl (sx_inv_v2 (mi := 185) (k := 171) (st := [.int a1, .ref 111]) (w := w) rfl rfl hI.1.o111 rfl rfl rfl) rfl rfl (p186n hI en hn c1) rfl ?_
    refine sx_RP.step (pc2 := 15) (ls2 := [(0, .ref 111), (1, .int a1), (2, .int a2)]) (st2 := []) (w3 := w) rfl rfl ?_
    refine sx_RP.step (pc2 := 16) (ls2 := [(0, .ref 111), (1, .int a1), (2, .int a2)]) (st2 := [.ref 111]) (w3 := w) rfl rfl ?_
    refine sx_RP.step (pc2 := 17) (ls2 := [(0, .ref 111), (1, .int a1), (2, .int a2)]) (st2 := [.int 0, .ref 111]) (w3 := w) rfl rfl ?_
    refine sx_RP.callp (as2 := [.ref 111, .int 0]) (rest2 := []) rfl rfl (sx_inv_v2 (mi := 185) (k := 70) (st := [.int 0, .ref 111]) (w := w) rfl rfl hI.1.o111 rfl rfl rfl) rfl rfl rfl (S133_0 hI) (show _ = 20 from rfl) ?_
    rintro r4 w17 ⟨rfl, hI18, hs16⟩
    show sx_RP _ _ _ _ _ [.int (-1000000001)] _ _
    refine sx_RP.ret (r := (some (.int (-1000000001)))) rfl rfl ?_
    exact ⟨⟨by rw [(mov2_1 (fun z => c1 (by rw [← en]; exact z.1))).1], by rw [(mov2_1 (fun z => c1 (by rw [← en]; exact z.1))).2]; exact ia_of (hs16 112 (by decide))⟩, hI18, fun a ha => hs16 a (by unfold ocm at ha; omega)⟩
def bre2A (l : List Int32) (a1 a2 : Int32) : Int32 := if a1 = 0 ∧ (0 ≤ a2 ∧ a2 ≤ 999999) then l.getD 4 0 else (if a1 = 1 ∧ (1 ≤ a2 ∧ a2 ≤ 999) then l.getD 5 0 else (if a1 = 2 ∧ (1 ≤ a2 ∧ a2 ≤ 99) then l.getD 6 0 else (-1000000001)))
def bre2R (l : List Int32) (a1 a2 : Int32) : List Int32 := if a1 = 0 ∧ (0 ≤ a2 ∧ a2 ≤ 999999) then l.set 4 a2 else (if a1 = 1 ∧ (1 ≤ a2 ∧ a2 ≤ 999) then l.set 5 a2 else (if a1 = 2 ∧ (1 ≤ a2 ∧ a2 ≤ 99) then l.set 6 a2 else (l)))
theorem bre2_1 {l : List Int32} {a1 a2 : Int32} (h0 : a1 = 0 ∧ (0 ≤ a2 ∧ a2 ≤ 999999)) : bre2A l a1 a2 = l.getD 4 0 ∧ bre2R l a1 a2 = l.set 4 a2 := ⟨if_pos h0, if_pos h0⟩
theorem bre2_2 {l : List Int32} {a1 a2 : Int32} (h0 : ¬ (a1 = 0 ∧ (0 ≤ a2 ∧ a2 ≤ 999999))) (h1 : a1 = 1 ∧ (1 ≤ a2 ∧ a2 ≤ 999)) : bre2A l a1 a2 = l.getD 5 0 ∧ bre2R l a1 a2 = l.set 5 a2 := ⟨(if_neg h0).trans (if_pos h1), (if_neg h0).trans (if_pos h1)⟩
theorem bre2_3 {l : List Int32} {a1 a2 : Int32} (h0 : ¬ (a1 = 0 ∧ (0 ≤ a2 ∧ a2 ≤ 999999))) (h1 : ¬ (a1 = 1 ∧ (1 ≤ a2 ∧ a2 ≤ 999))) (h2 : a1 = 2 ∧ (1 ≤ a2 ∧ a2 ≤ 99)) : bre2A l a1 a2 = l.getD 6 0 ∧ bre2R l a1 a2 = l.set 6 a2 := ⟨(if_neg h0).trans ((if_neg h1).trans (if_pos h2)), (if_neg h0).trans ((if_neg h1).trans (if_pos h2))⟩
theorem bre2_z {l : List Int32} {a1 a2 : Int32} (h0 : ¬ (a1 = 0 ∧ (0 ≤ a2 ∧ a2 ≤ 999999))) (h1 : ¬ (a1 = 1 ∧ (1 ≤ a2 ∧ a2 ≤ 999))) (h2 : ¬ (a1 = 2 ∧ (1 ≤ a2 ∧ a2 ≤ 99))) : bre2A l a1 a2 = -1000000001 ∧ bre2R l a1 a2 = l := ⟨(if_neg h0).trans ((if_neg h1).trans (if_neg h2)), (if_neg h0).trans ((if_neg h1).trans (if_neg h2))⟩
set_option maxRecDepth 20000 in
set_option maxHeartbeats 4000000 in
theorem Z82 {xs : Option (List Int32)} {d : Nat} {w : List sx_C} (hI : WI w) (l : List Int32) (hR : rel w 1 l) (a1 a2 : Int32) : sx_RP xs (d + 7) 82 0 (lv_args 0 [.ref 0, .int a1, .int a2]) [] w (fun r w2 => (r = some (.int (bre2A l a1 a2)) ∧ rel w2 1 (bre2R l a1 a2)) ∧ WI w2 ∧ EO w w2) := by
  refine sx_RP.step (pc2 := 1) (ls2 := [(0, .ref 0), (1, .int a1), (2, .int a2)]) (st2 := [.int a1]) (w3 := w) rfl rfl ?_
  refine sx_RP.br (p1 := 34) (l1 := [(0, .ref 0), (1, .int a1), (2, .int a2)]) (s1 := []) (v1 := w) (p2 := 4) (l2 := [(0, .ref 0), (1, .int a1), (2, .int a2)]) (s2 := []) (v2 := w) rfl rfl (fun q1 => ?_) (fun q1 => ?_)
  · replace q1 := of_decide_eq_true q1
    refine sx_RP.step (pc2 := 35) (ls2 := [(0, .ref 0), (1, .int a1), (2, .int a2)]) (st2 := [.int a1]) (w3 := w) rfl rfl ?_
    refine sx_RP.step (pc2 := 36) (ls2 := [(0, .ref 0), (1, .int a1), (2, .int a2)]) (st2 := [.int 1, .int a1]) (w3 := w) rfl rfl ?_
    refine sx_RP.br (p1 := 69) (l1 := [(0, .ref 0), (1, .int a1), (2, .int a2)]) (s1 := []) (v1 := w) (p2 := 39) (l2 := [(0, .ref 0), (1, .int a1), (2, .int a2)]) (s2 := []) (v2 := w) rfl rfl (fun q2 => ?_) (fun q2 => ?_)
    · replace q2 := of_decide_eq_true q2
      refine sx_RP.step (pc2 := 70) (ls2 := [(0, .ref 0), (1, .int a1), (2, .int a2)]) (st2 := [.int a1]) (w3 := w) rfl rfl ?_
      refine sx_RP.step (pc2 := 71) (ls2 := [(0, .ref 0), (1, .int a1), (2, .int a2)]) (st2 := [.int 2, .int a1]) (w3 := w) rfl rfl ?_
      refine sx_RP.br (p1 := 103) (l1 := [(0, .ref 0), (1, .int a1), (2, .int a2)]) (s1 := []) (v1 := w) (p2 := 74) (l2 := [(0, .ref 0), (1, .int a1), (2, .int a2)]) (s2 := []) (v2 := w) rfl rfl (fun q3 => ?_) (fun q3 => ?_)
      · replace q3 := of_decide_eq_true q3
        refine sx_RP.step (pc2 := 104) (ls2 := [(0, .ref 0), (1, .int a1), (2, .int a2)]) (st2 := [.ref 0]) (w3 := w) rfl rfl ?_
        refine sx_RP.step (pc2 := 106) (ls2 := [(0, .ref 0), (1, .int a1), (2, .int a2)]) (st2 := [.int (-1000000001), .ref 0]) (w3 := w) rfl rfl ?_
        refine sx_RP.callp (as2 := [.ref 0, .int (-1000000001)]) (rest2 := []) rfl rfl (sx_inv_v2 (mi := 82) (k := 78) (st := [.int (-1000000001), .ref 0]) (w := w) rfl rfl hI.1.o0 rfl rfl rfl) rfl rfl rfl (S9_0 hI) (show _ = 109 from rfl) ?_
        rintro r4 w5 ⟨rfl, hI6, hs4⟩
        show sx_RP _ _ _ _ _ [.int (-1000000001)] _ _
        refine sx_RP.step (pc2 := 110) (ls2 := [(3, .int (-1000000001)), (0, .ref 0), (1, .int a1), (2, .int a2)]) (st2 := []) (w3 := w5) rfl rfl ?_
        refine sx_RP.step (pc2 := 111) (ls2 := [(3, .int (-1000000001)), (0, .ref 0), (1, .int a1), (2, .int a2)]) (st2 := [.int (-1000000001)]) (w3 := w5) rfl rfl ?_
        refine sx_RP.ret (r := (some (.int (-1000000001)))) rfl rfl ?_
        exact ⟨⟨by rw [(bre2_z (l := l) (fun z => q1 z.1) (fun z => q2 z.1) (fun z => q3 z.1)).1], by rw [(bre2_z (l := l) (fun z => q1 z.1) (fun z => q2 z.1) (fun z => q3 z.1)).2]; exact hR.same hI (Or.inl rfl) (fun a h1 h2 => hs4 a (by omega))⟩, hI6, fun a ha => hs4 a (by unfold oc at ha; omega)⟩
      · replace q3 := Decidable.not_not.mp (of_decide_eq_false q3)
        refine sx_RP.step (pc2 := 75) (ls2 := [(0, .ref 0), (1, .int a1), (2, .int a2)]) (st2 := [.int a2]) (w3 := w) rfl rfl ?_
        refine sx_RP.step (pc2 := 76) (ls2 := [(0, .ref 0), (1, .int a1), (2, .int a2)]) (st2 := [.int 1, .int a2]) (w3 := w) rfl rfl ?_
        refine sx_RP.step (pc2 := 78) (ls2 := [(0, .ref 0), (1, .int a1), (2, .int a2)]) (st2 := [.int 99, .int 1, .int a2]) (w3 := w) rfl rfl ?_
        rcases Decidable.em ((1 : Int32) ≤ a2 ∧ a2 ≤ 99) with c7 | c7
        · refine sx_RP.cu (as := [.int a2, .int 1, .int 99]) (rest2 := []) (st3 := [.int 1]) rfl rfl rfl rfl rfl (cx_8p c7) rfl ?_
          refine sx_RP.step (pc2 := 84) (ls2 := [(0, .ref 0), (1, .int a1), (2, .int a2)]) (st2 := []) (w3 := w) rfl rfl ?_
          refine sx_RP.step (pc2 := 85) (ls2 := [(0, .ref 0), (1, .int a1), (2, .int a2)]) (st2 := [.ref 0]) (w3 := w) rfl rfl ?_
          refine sx_RP.gf (v := .ref 1) rfl rfl hI.1.o0 rfl rfl (show _ = 88 from rfl) ?_
          refine sx_RP.gc (k := 10) hI (Or.inl rfl) rfl rfl (by omega) (show _ = 91 from rfl) ?_
          refine sx_RP.step (pc2 := 92) (ls2 := [(3, .int (fi w 1 10)), (0, .ref 0), (1, .int a1), (2, .int a2)]) (st2 := []) (w3 := w) rfl rfl ?_
          refine sx_RP.step (pc2 := 93) (ls2 := [(3, .int (fi w 1 10)), (0, .ref 0), (1, .int a1), (2, .int a2)]) (st2 := [.ref 0]) (w3 := w) rfl rfl ?_
          refine sx_RP.gf (v := .ref 1) rfl rfl hI.1.o0 rfl rfl (show _ = 96 from rfl) ?_
          refine sx_RP.step (pc2 := 97) (ls2 := [(3, .int (fi w 1 10)), (0, .ref 0), (1, .int a1), (2, .int a2)]) (st2 := [.int a2, .ref 1]) (w3 := w) rfl rfl ?_
          refine sx_RP.xC (k := 10) hI (Or.inl rfl) rfl rfl (by omega) rfl trivial (show _ = 100 from rfl) (fun w8 hI9 hs10 hv11 hr12 hj13 => ?_)
          refine sx_RP.step (pc2 := 110) (ls2 := [(3, .int (fi w 1 10)), (0, .ref 0), (1, .int a1), (2, .int a2)]) (st2 := []) (w3 := w8) rfl rfl ?_
          refine sx_RP.step (pc2 := 111) (ls2 := [(3, .int (fi w 1 10)), (0, .ref 0), (1, .int a1), (2, .int a2)]) (st2 := [.int (fi w 1 10)]) (w3 := w8) rfl rfl ?_
          refine sx_RP.ret (r := (some (.int (fi w 1 10)))) rfl rfl ?_
          exact ⟨⟨by rw [(bre2_3 (l := l) (fun z => q1 z.1) (fun z => q2 z.1) ⟨q3, c7⟩).1]; exact congrArg (fun v => some (Value.int v)) hR.2.1.2.2.2.2.2.2, by rw [(bre2_3 (l := l) (fun z => q1 z.1) (fun z => q2 z.1) ⟨q3, c7⟩).2]; exact hR.sFi (k := 10) (by decide) hs10 hv11 hr12 hj13⟩, hI9, fun a ha => hs10 a (by unfold oc at ha; omega)⟩
        · refine sx_RP.cu (as := [.int a2, .int 1, .int 99]) (rest2 := []) (st3 := [.int 0]) rfl rfl rfl rfl rfl (cx_8n c7) rfl ?_
          refine sx_RP.step (pc2 := 103) (ls2 := [(0, .ref 0), (1, .int a1), (2, .int a2)]) (st2 := []) (w3 := w) rfl rfl ?_
          refine sx_RP.step (pc2 := 104) (ls2 := [(0, .ref 0), (1, .int a1), (2, .int a2)]) (st2 := [.ref 0]) (w3 := w) rfl rfl ?_
          refine sx_RP.step (pc2 := 106) (ls2 := [(0, .ref 0), (1, .int a1), (2, .int a2)]) (st2 := [.int (-1000000001), .ref 0]) (w3 := w) rfl rfl ?_
          refine sx_RP.callp (as2 := [.ref 0, .int (-1000000001)]) (rest2 := []) rfl rfl (sx_inv_v2 (mi := 82) (k := 78) (st := [.int (-1000000001), .ref 0]) (w := w) rfl rfl hI.1.o0 rfl rfl rfl) rfl rfl rfl (S9_0 hI) (show _ = 109 from rfl) ?_
          rintro r4 w15 ⟨rfl, hI16, hs14⟩
          show sx_RP _ _ _ _ _ [.int (-1000000001)] _ _
          refine sx_RP.step (pc2 := 110) (ls2 := [(3, .int (-1000000001)), (0, .ref 0), (1, .int a1), (2, .int a2)]) (st2 := []) (w3 := w15) rfl rfl ?_
          refine sx_RP.step (pc2 := 111) (ls2 := [(3, .int (-1000000001)), (0, .ref 0), (1, .int a1), (2, .int a2)]) (st2 := [.int (-1000000001)]) (w3 := w15) rfl rfl ?_
          refine sx_RP.ret (r := (some (.int (-1000000001)))) rfl rfl ?_
          exact ⟨⟨by rw [(bre2_z (l := l) (fun z => q1 z.1) (fun z => q2 z.1) (fun z => c7 z.2)).1], by rw [(bre2_z (l := l) (fun z => q1 z.1) (fun z => q2 z.1) (fun z => c7 z.2)).2]; exact hR.same hI (Or.inl rfl) (fun a h1 h2 => hs14 a (by omega))⟩, hI16, fun a ha => hs14 a (by unfold oc at ha; omega)⟩
    · replace q2 := Decidable.not_not.mp (of_decide_eq_false q2)
      refine sx_RP.step (pc2 := 40) (ls2 := [(0, .ref 0), (1, .int a1), (2, .int a2)]) (st2 := [.int a2]) (w3 := w) rfl rfl ?_
      refine sx_RP.step (pc2 := 41) (ls2 := [(0, .ref 0), (1, .int a1), (2, .int a2)]) (st2 := [.int 1, .int a2]) (w3 := w) rfl rfl ?_
      refine sx_RP.step (pc2 := 44) (ls2 := [(0, .ref 0), (1, .int a1), (2, .int a2)]) (st2 := [.int 999, .int 1, .int a2]) (w3 := w) rfl rfl ?_
      rcases Decidable.em ((1 : Int32) ≤ a2 ∧ a2 ≤ 999) with c17 | c17
      · refine sx_RP.cu (as := [.int a2, .int 1, .int 999]) (rest2 := []) (st3 := [.int 1]) rfl rfl rfl rfl rfl (cx_8p c17) rfl ?_
        refine sx_RP.step (pc2 := 50) (ls2 := [(0, .ref 0), (1, .int a1), (2, .int a2)]) (st2 := []) (w3 := w) rfl rfl ?_
        refine sx_RP.step (pc2 := 51) (ls2 := [(0, .ref 0), (1, .int a1), (2, .int a2)]) (st2 := [.ref 0]) (w3 := w) rfl rfl ?_
        refine sx_RP.gf (v := .ref 1) rfl rfl hI.1.o0 rfl rfl (show _ = 54 from rfl) ?_
        refine sx_RP.gc (k := 9) hI (Or.inl rfl) rfl rfl (by omega) (show _ = 57 from rfl) ?_
        refine sx_RP.step (pc2 := 58) (ls2 := [(3, .int (fi w 1 9)), (0, .ref 0), (1, .int a1), (2, .int a2)]) (st2 := []) (w3 := w) rfl rfl ?_
        refine sx_RP.step (pc2 := 59) (ls2 := [(3, .int (fi w 1 9)), (0, .ref 0), (1, .int a1), (2, .int a2)]) (st2 := [.ref 0]) (w3 := w) rfl rfl ?_
        refine sx_RP.gf (v := .ref 1) rfl rfl hI.1.o0 rfl rfl (show _ = 62 from rfl) ?_
        refine sx_RP.step (pc2 := 63) (ls2 := [(3, .int (fi w 1 9)), (0, .ref 0), (1, .int a1), (2, .int a2)]) (st2 := [.int a2, .ref 1]) (w3 := w) rfl rfl ?_
        refine sx_RP.xC (k := 9) hI (Or.inl rfl) rfl rfl (by omega) rfl trivial (show _ = 66 from rfl) (fun w18 hI19 hs20 hv21 hr22 hj23 => ?_)
        refine sx_RP.step (pc2 := 110) (ls2 := [(3, .int (fi w 1 9)), (0, .ref 0), (1, .int a1), (2, .int a2)]) (st2 := []) (w3 := w18) rfl rfl ?_
        refine sx_RP.step (pc2 := 111) (ls2 := [(3, .int (fi w 1 9)), (0, .ref 0), (1, .int a1), (2, .int a2)]) (st2 := [.int (fi w 1 9)]) (w3 := w18) rfl rfl ?_
        refine sx_RP.ret (r := (some (.int (fi w 1 9)))) rfl rfl ?_
        exact ⟨⟨by rw [(bre2_2 (l := l) (fun z => q1 z.1) ⟨q2, c17⟩).1]; exact congrArg (fun v => some (Value.int v)) hR.2.1.2.2.2.2.2.1, by rw [(bre2_2 (l := l) (fun z => q1 z.1) ⟨q2, c17⟩).2]; exact hR.sFi (k := 9) (by decide) hs20 hv21 hr22 hj23⟩, hI19, fun a ha => hs20 a (by unfold oc at ha; omega)⟩
      · refine sx_RP.cu (as := [.int a2, .int 1, .int 999]) (rest2 := []) (st3 := [.int 0]) rfl rfl rfl rfl rfl (cx_8n c17) rfl ?_
        refine sx_RP.step (pc2 := 69) (ls2 := [(0, .ref 0), (1, .int a1), (2, .int a2)]) (st2 := []) (w3 := w) rfl rfl ?_
        refine sx_RP.step (pc2 := 70) (ls2 := [(0, .ref 0), (1, .int a1), (2, .int a2)]) (st2 := [.int a1]) (w3 := w) rfl rfl ?_
        refine sx_RP.step (pc2 := 71) (ls2 := [(0, .ref 0), (1, .int a1), (2, .int a2)]) (st2 := [.int 2, .int a1]) (w3 := w) rfl rfl ?_
        refine sx_RP.br (p1 := 103) (l1 := [(0, .ref 0), (1, .int a1), (2, .int a2)]) (s1 := []) (v1 := w) (p2 := 74) (l2 := [(0, .ref 0), (1, .int a1), (2, .int a2)]) (s2 := []) (v2 := w) rfl rfl (fun q24 => ?_) (fun q24 => ?_)
        · replace q24 := of_decide_eq_true q24
          refine sx_RP.step (pc2 := 104) (ls2 := [(0, .ref 0), (1, .int a1), (2, .int a2)]) (st2 := [.ref 0]) (w3 := w) rfl rfl ?_
          refine sx_RP.step (pc2 := 106) (ls2 := [(0, .ref 0), (1, .int a1), (2, .int a2)]) (st2 := [.int (-1000000001), .ref 0]) (w3 := w) rfl rfl ?_
          refine sx_RP.callp (as2 := [.ref 0, .int (-1000000001)]) (rest2 := []) rfl rfl (sx_inv_v2 (mi := 82) (k := 78) (st := [.int (-1000000001), .ref 0]) (w := w) rfl rfl hI.1.o0 rfl rfl rfl) rfl rfl rfl (S9_0 hI) (show _ = 109 from rfl) ?_
          rintro r4 w26 ⟨rfl, hI27, hs25⟩
          show sx_RP _ _ _ _ _ [.int (-1000000001)] _ _
          refine sx_RP.step (pc2 := 110) (ls2 := [(3, .int (-1000000001)), (0, .ref 0), (1, .int a1), (2, .int a2)]) (st2 := []) (w3 := w26) rfl rfl ?_
          refine sx_RP.step (pc2 := 111) (ls2 := [(3, .int (-1000000001)), (0, .ref 0), (1, .int a1), (2, .int a2)]) (st2 := [.int (-1000000001)]) (w3 := w26) rfl rfl ?_
          refine sx_RP.ret (r := (some (.int (-1000000001)))) rfl rfl ?_
          exact ⟨⟨by rw [(bre2_z (l := l) (fun z => q1 z.1) (fun z => c17 z.2) (fun z => q24 z.1)).1], by rw [(bre2_z (l := l) (fun z => q1 z.1) (fun z => c17 z.2) (fun z => q24 z.1)).2]; exact hR.same hI (Or.inl rfl) (fun a h1 h2 => hs25 a (by omega))⟩, hI27, fun a ha => hs25 a (by unfold oc at ha; omega)⟩
        · replace q24 := Decidable.not_not.mp (of_decide_eq_false q24)
          refine sx_RP.step (pc2 := 75) (ls2 := [(0, .ref 0), (1, .int a1), (2, .int a2)]) (st2 := [.int a2]) (w3 := w) rfl rfl ?_
          refine sx_RP.step (pc2 := 76) (ls2 := [(0, .ref 0), (1, .int a1), (2, .int a2)]) (st2 := [.int 1, .int a2]) (w3 := w) rfl rfl ?_
          refine sx_RP.step (pc2 := 78) (ls2 := [(0, .ref 0), (1, .int a1), (2, .int a2)]) (st2 := [.int 99, .int 1, .int a2]) (w3 := w) rfl rfl ?_
          rcases Decidable.em ((1 : Int32) ≤ a2 ∧ a2 ≤ 99) with c28 | c28
          · refine sx_RP.cu (as := [.int a2, .int 1, .int 99]) (rest2 := []) (st3 := [.int 1]) rfl rfl rfl rfl rfl (cx_8p c28) rfl ?_
            refine sx_RP.step (pc2 := 84) (ls2 := [(0, .ref 0), (1, .int a1), (2, .int a2)]) (st2 := []) (w3 := w) rfl rfl ?_
            refine sx_RP.step (pc2 := 85) (ls2 := [(0, .ref 0), (1, .int a1), (2, .int a2)]) (st2 := [.ref 0]) (w3 := w) rfl rfl ?_
            refine sx_RP.gf (v := .ref 1) rfl rfl hI.1.o0 rfl rfl (show _ = 88 from rfl) ?_
            refine sx_RP.gc (k := 10) hI (Or.inl rfl) rfl rfl (by omega) (show _ = 91 from rfl) ?_
            refine sx_RP.step (pc2 := 92) (ls2 := [(3, .int (fi w 1 10)), (0, .ref 0), (1, .int a1), (2, .int a2)]) (st2 := []) (w3 := w) rfl rfl ?_
            refine sx_RP.step (pc2 := 93) (ls2 := [(3, .int (fi w 1 10)), (0, .ref 0), (1, .int a1), (2, .int a2)]) (st2 := [.ref 0]) (w3 := w) rfl rfl ?_
            refine sx_RP.gf (v := .ref 1) rfl rfl hI.1.o0 rfl rfl (show _ = 96 from rfl) ?_
            refine sx_RP.step (pc2 := 97) (ls2 := [(3, .int (fi w 1 10)), (0, .ref 0), (1, .int a1), (2, .int a2)]) (st2 := [.int a2, .ref 1]) (w3 := w) rfl rfl ?_
            refine sx_RP.xC (k := 10) hI (Or.inl rfl) rfl rfl (by omega) rfl trivial (show _ = 100 from rfl) (fun w29 hI30 hs31 hv32 hr33 hj34 => ?_)
            refine sx_RP.step (pc2 := 110) (ls2 := [(3, .int (fi w 1 10)), (0, .ref 0), (1, .int a1), (2, .int a2)]) (st2 := []) (w3 := w29) rfl rfl ?_
            refine sx_RP.step (pc2 := 111) (ls2 := [(3, .int (fi w 1 10)), (0, .ref 0), (1, .int a1), (2, .int a2)]) (st2 := [.int (fi w 1 10)]) (w3 := w29) rfl rfl ?_
            refine sx_RP.ret (r := (some (.int (fi w 1 10)))) rfl rfl ?_
            exact absurd (q2.symm.trans q24) (by decide)
          · refine sx_RP.cu (as := [.int a2, .int 1, .int 99]) (rest2 := []) (st3 := [.int 0]) rfl rfl rfl rfl rfl (cx_8n c28) rfl ?_
            refine sx_RP.step (pc2 := 103) (ls2 := [(0, .ref 0), (1, .int a1), (2, .int a2)]) (st2 := []) (w3 := w) rfl rfl ?_
            refine sx_RP.step (pc2 := 104) (ls2 := [(0, .ref 0), (1, .int a1), (2, .int a2)]) (st2 := [.ref 0]) (w3 := w) rfl rfl ?_
            refine sx_RP.step (pc2 := 106) (ls2 := [(0, .ref 0), (1, .int a1), (2, .int a2)]) (st2 := [.int (-1000000001), .ref 0]) (w3 := w) rfl rfl ?_
            refine sx_RP.callp (as2 := [.ref 0, .int (-1000000001)]) (rest2 := []) rfl rfl (sx_inv_v2 (mi := 82) (k := 78) (st := [.int (-1000000001), .ref 0]) (w := w) rfl rfl hI.1.o0 rfl rfl rfl) rfl rfl rfl (S9_0 hI) (show _ = 109 from rfl) ?_
            rintro r4 w36 ⟨rfl, hI37, hs35⟩
            show sx_RP _ _ _ _ _ [.int (-1000000001)] _ _
            refine sx_RP.step (pc2 := 110) (ls2 := [(3, .int (-1000000001)), (0, .ref 0), (1, .int a1), (2, .int a2)]) (st2 := []) (w3 := w36) rfl rfl ?_
            refine sx_RP.step (pc2 := 111) (ls2 := [(3, .int (-1000000001)), (0, .ref 0), (1, .int a1), (2, .int a2)]) (st2 := [.int (-1000000001)]) (w3 := w36) rfl rfl ?_
            refine sx_RP.ret (r := (some (.int (-1000000001)))) rfl rfl ?_
            exact absurd (q2.symm.trans q24) (by decide)
  · replace q1 := Decidable.not_not.mp (of_decide_eq_false q1)
    refine sx_RP.step (pc2 := 5) (ls2 := [(0, .ref 0), (1, .int a1), (2, .int a2)]) (st2 := [.int a2]) (w3 := w) rfl rfl ?_
    refine sx_RP.step (pc2 := 6) (ls2 := [(0, .ref 0), (1, .int a1), (2, .int a2)]) (st2 := [.int 0, .int a2]) (w3 := w) rfl rfl ?_
    refine sx_RP.step (pc2 := 9) (ls2 := [(0, .ref 0), (1, .int a1), (2, .int a2)]) (st2 := [.int 999999, .int 0, .int a2]) (w3 := w) rfl rfl ?_
    rcases Decidable.em ((0 : Int32) ≤ a2 ∧ a2 ≤ 999999) with c38 | c38
    · refine sx_RP.cu (as := [.int a2, .int 0, .int 999999]) (rest2 := []) (st3 := [.int 1]) rfl rfl rfl rfl rfl (cx_8p c38) rfl ?_
      refine sx_RP.step (pc2 := 15) (ls2 := [(0, .ref 0), (1, .int a1), (2, .int a2)]) (st2 := []) (w3 := w) rfl rfl ?_
      refine sx_RP.step (pc2 := 16) (ls2 := [(0, .ref 0), (1, .int a1), (2, .int a2)]) (st2 := [.ref 0]) (w3 := w) rfl rfl ?_
      refine sx_RP.gf (v := .ref 1) rfl rfl hI.1.o0 rfl rfl (show _ = 19 from rfl) ?_
      refine sx_RP.gc (k := 8) hI (Or.inl rfl) rfl rfl (by omega) (show _ = 22 from rfl) ?_
      refine sx_RP.step (pc2 := 23) (ls2 := [(3, .int (fi w 1 8)), (0, .ref 0), (1, .int a1), (2, .int a2)]) (st2 := []) (w3 := w) rfl rfl ?_
      refine sx_RP.step (pc2 := 24) (ls2 := [(3, .int (fi w 1 8)), (0, .ref 0), (1, .int a1), (2, .int a2)]) (st2 := [.ref 0]) (w3 := w) rfl rfl ?_
      refine sx_RP.gf (v := .ref 1) rfl rfl hI.1.o0 rfl rfl (show _ = 27 from rfl) ?_
      refine sx_RP.step (pc2 := 28) (ls2 := [(3, .int (fi w 1 8)), (0, .ref 0), (1, .int a1), (2, .int a2)]) (st2 := [.int a2, .ref 1]) (w3 := w) rfl rfl ?_
      refine sx_RP.xC (k := 8) hI (Or.inl rfl) rfl rfl (by omega) rfl trivial (show _ = 31 from rfl) (fun w39 hI40 hs41 hv42 hr43 hj44 => ?_)
      refine sx_RP.step (pc2 := 110) (ls2 := [(3, .int (fi w 1 8)), (0, .ref 0), (1, .int a1), (2, .int a2)]) (st2 := []) (w3 := w39) rfl rfl ?_
      refine sx_RP.step (pc2 := 111) (ls2 := [(3, .int (fi w 1 8)), (0, .ref 0), (1, .int a1), (2, .int a2)]) (st2 := [.int (fi w 1 8)]) (w3 := w39) rfl rfl ?_
      refine sx_RP.ret (r := (some (.int (fi w 1 8)))) rfl rfl ?_
      exact ⟨⟨by rw [(bre2_1 (l := l)  ⟨q1, c38⟩).1]; exact congrArg (fun v => some (Value.int v)) hR.2.1.2.2.2.2.1, by rw [(bre2_1 (l := l)  ⟨q1, c38⟩).2]; exact hR.sFi (k := 8) (by decide) hs41 hv42 hr43 hj44⟩, hI40, fun a ha => hs41 a (by unfold oc at ha; omega)⟩
    · refine sx_RP.cu (as := [.int a2, .int 0, .int 999999]) (rest2 := []) (st3 := [.int 0]) rfl rfl rfl rfl rfl (cx_8n c38) rfl ?_
      refine sx_RP.step (pc2 := 34) (ls2 := [(0, .ref 0), (1, .int a1), (2, .int a2)]) (st2 := []) (w3 := w) rfl rfl ?_
      refine sx_RP.step (pc2 := 35) (ls2 := [(0, .ref 0), (1, .int a1), (2, .int a2)]) (st2 := [.int a1]) (w3 := w) rfl rfl ?_
      refine sx_RP.step (pc2 := 36) (ls2 := [(0, .ref 0), (1, .int a1), (2, .int a2)]) (st2 := [.int 1, .int a1]) (w3 := w) rfl rfl ?_
      refine sx_RP.br (p1 := 69) (l1 := [(0, .ref 0), (1, .int a1), (2, .int a2)]) (s1 := []) (v1 := w) (p2 := 39) (l2 := [(0, .ref 0), (1, .int a1), (2, .int a2)]) (s2 := []) (v2 := w) rfl rfl (fun q45 => ?_) (fun q45 => ?_)
      · replace q45 := of_decide_eq_true q45
        refine sx_RP.step (pc2 := 70) (ls2 := [(0, .ref 0), (1, .int a1), (2, .int a2)]) (st2 := [.int a1]) (w3 := w) rfl rfl ?_
        refine sx_RP.step (pc2 := 71) (ls2 := [(0, .ref 0), (1, .int a1), (2, .int a2)]) (st2 := [.int 2, .int a1]) (w3 := w) rfl rfl ?_
        refine sx_RP.br (p1 := 103) (l1 := [(0, .ref 0), (1, .int a1), (2, .int a2)]) (s1 := []) (v1 := w) (p2 := 74) (l2 := [(0, .ref 0), (1, .int a1), (2, .int a2)]) (s2 := []) (v2 := w) rfl rfl (fun q46 => ?_) (fun q46 => ?_)
        · replace q46 := of_decide_eq_true q46
          refine sx_RP.step (pc2 := 104) (ls2 := [(0, .ref 0), (1, .int a1), (2, .int a2)]) (st2 := [.ref 0]) (w3 := w) rfl rfl ?_
          refine sx_RP.step (pc2 := 106) (ls2 := [(0, .ref 0), (1, .int a1), (2, .int a2)]) (st2 := [.int (-1000000001), .ref 0]) (w3 := w) rfl rfl ?_
          refine sx_RP.callp (as2 := [.ref 0, .int (-1000000001)]) (rest2 := []) rfl rfl (sx_inv_v2 (mi := 82) (k := 78) (st := [.int (-1000000001), .ref 0]) (w := w) rfl rfl hI.1.o0 rfl rfl rfl) rfl rfl rfl (S9_0 hI) (show _ = 109 from rfl) ?_
          rintro r4 w48 ⟨rfl, hI49, hs47⟩
          show sx_RP _ _ _ _ _ [.int (-1000000001)] _ _
          refine sx_RP.step (pc2 := 110) (ls2 := [(3, .int (-1000000001)), (0, .ref 0), (1, .int a1), (2, .int a2)]) (st2 := []) (w3 := w48) rfl rfl ?_
          refine sx_RP.step (pc2 := 111) (ls2 := [(3, .int (-1000000001)), (0, .ref 0), (1, .int a1), (2, .int a2)]) (st2 := [.int (-1000000001)]) (w3 := w48) rfl rfl ?_
          refine sx_RP.ret (r := (some (.int (-1000000001)))) rfl rfl ?_
          exact ⟨⟨by rw [(bre2_z (l := l) (fun z => c38 z.2) (fun z => q45 z.1) (fun z => q46 z.1)).1], by rw [(bre2_z (l := l) (fun z => c38 z.2) (fun z => q45 z.1) (fun z => q46 z.1)).2]; exact hR.same hI (Or.inl rfl) (fun a h1 h2 => hs47 a (by omega))⟩, hI49, fun a ha => hs47 a (by unfold oc at ha; omega)⟩
        · replace q46 := Decidable.not_not.mp (of_decide_eq_false q46)
          refine sx_RP.step (pc2 := 75) (ls2 := [(0, .ref 0), (1, .int a1), (2, .int a2)]) (st2 := [.int a2]) (w3 := w) rfl rfl ?_
          refine sx_RP.step (pc2 := 76) (ls2 := [(0, .ref 0), (1, .int a1), (2, .int a2)]) (st2 := [.int 1, .int a2]) (w3 := w) rfl rfl ?_
          refine sx_RP.step (pc2 := 78) (ls2 := [(0, .ref 0), (1, .int a1), (2, .int a2)]) (st2 := [.int 99, .int 1, .int a2]) (w3 := w) rfl rfl ?_
          rcases Decidable.em ((1 : Int32) ≤ a2 ∧ a2 ≤ 99) with c50 | c50
          · refine sx_RP.cu (as := [.int a2, .int 1, .int 99]) (rest2 := []) (st3 := [.int 1]) rfl rfl rfl rfl rfl (cx_8p c50) rfl ?_
            refine sx_RP.step (pc2 := 84) (ls2 := [(0, .ref 0), (1, .int a1), (2, .int a2)]) (st2 := []) (w3 := w) rfl rfl ?_
            refine sx_RP.step (pc2 := 85) (ls2 := [(0, .ref 0), (1, .int a1), (2, .int a2)]) (st2 := [.ref 0]) (w3 := w) rfl rfl ?_
            refine sx_RP.gf (v := .ref 1) rfl rfl hI.1.o0 rfl rfl (show _ = 88 from rfl) ?_
            refine sx_RP.gc (k := 10) hI (Or.inl rfl) rfl rfl (by omega) (show _ = 91 from rfl) ?_
            refine sx_RP.step (pc2 := 92) (ls2 := [(3, .int (fi w 1 10)), (0, .ref 0), (1, .int a1), (2, .int a2)]) (st2 := []) (w3 := w) rfl rfl ?_
            refine sx_RP.step (pc2 := 93) (ls2 := [(3, .int (fi w 1 10)), (0, .ref 0), (1, .int a1), (2, .int a2)]) (st2 := [.ref 0]) (w3 := w) rfl rfl ?_
            refine sx_RP.gf (v := .ref 1) rfl rfl hI.1.o0 rfl rfl (show _ = 96 from rfl) ?_
            refine sx_RP.step (pc2 := 97) (ls2 := [(3, .int (fi w 1 10)), (0, .ref 0), (1, .int a1), (2, .int a2)]) (st2 := [.int a2, .ref 1]) (w3 := w) rfl rfl ?_
            refine sx_RP.xC (k := 10) hI (Or.inl rfl) rfl rfl (by omega) rfl trivial (show _ = 100 from rfl) (fun w51 hI52 hs53 hv54 hr55 hj56 => ?_)
            refine sx_RP.step (pc2 := 110) (ls2 := [(3, .int (fi w 1 10)), (0, .ref 0), (1, .int a1), (2, .int a2)]) (st2 := []) (w3 := w51) rfl rfl ?_
            refine sx_RP.step (pc2 := 111) (ls2 := [(3, .int (fi w 1 10)), (0, .ref 0), (1, .int a1), (2, .int a2)]) (st2 := [.int (fi w 1 10)]) (w3 := w51) rfl rfl ?_
            refine sx_RP.ret (r := (some (.int (fi w 1 10)))) rfl rfl ?_
            exact absurd (q1.symm.trans q46) (by decide)
          · refine sx_RP.cu (as := [.int a2, .int 1, .int 99]) (rest2 := []) (st3 := [.int 0]) rfl rfl rfl rfl rfl (cx_8n c50) rfl ?_
            refine sx_RP.step (pc2 := 103) (ls2 := [(0, .ref 0), (1, .int a1), (2, .int a2)]) (st2 := []) (w3 := w) rfl rfl ?_
            refine sx_RP.step (pc2 := 104) (ls2 := [(0, .ref 0), (1, .int a1), (2, .int a2)]) (st2 := [.ref 0]) (w3 := w) rfl rfl ?_
            refine sx_RP.step (pc2 := 106) (ls2 := [(0, .ref 0), (1, .int a1), (2, .int a2)]) (st2 := [.int (-1000000001), .ref 0]) (w3 := w) rfl rfl ?_
            refine sx_RP.callp (as2 := [.ref 0, .int (-1000000001)]) (rest2 := []) rfl rfl (sx_inv_v2 (mi := 82) (k := 78) (st := [.int (-1000000001), .ref 0]) (w := w) rfl rfl hI.1.o0 rfl rfl rfl) rfl rfl rfl (S9_0 hI) (show _ = 109 from rfl) ?_
            rintro r4 w58 ⟨rfl, hI59, hs57⟩
            show sx_RP _ _ _ _ _ [.int (-1000000001)] _ _
            refine sx_RP.step (pc2 := 110) (ls2 := [(3, .int (-1000000001)), (0, .ref 0), (1, .int a1), (2, .int a2)]) (st2 := []) (w3 := w58) rfl rfl ?_
            refine sx_RP.step (pc2 := 111) (ls2 := [(3, .int (-1000000001)), (0, .ref 0), (1, .int a1), (2, .int a2)]) (st2 := [.int (-1000000001)]) (w3 := w58) rfl rfl ?_
            refine sx_RP.ret (r := (some (.int (-1000000001)))) rfl rfl ?_
            exact absurd (q1.symm.trans q46) (by decide)
      · replace q45 := Decidable.not_not.mp (of_decide_eq_false q45)
        refine sx_RP.step (pc2 := 40) (ls2 := [(0, .ref 0), (1, .int a1), (2, .int a2)]) (st2 := [.int a2]) (w3 := w) rfl rfl ?_
        refine sx_RP.step (pc2 := 41) (ls2 := [(0, .ref 0), (1, .int a1), (2, .int a2)]) (st2 := [.int 1, .int a2]) (w3 := w) rfl rfl ?_
        refine sx_RP.step (pc2 := 44) (ls2 := [(0, .ref 0), (1, .int a1), (2, .int a2)]) (st2 := [.int 999, .int 1, .int a2]) (w3 := w) rfl rfl ?_
        rcases Decidable.em ((1 : Int32) ≤ a2 ∧ a2 ≤ 999) with c60 | c60
        · refine sx_RP.cu (as := [.int a2, .int 1, .int 999]) (rest2 := []) (st3 := [.int 1]) rfl rfl rfl rfl rfl (cx_8p c60) rfl ?_
          refine sx_RP.step (pc2 := 50) (ls2 := [(0, .ref 0), (1, .int a1), (2, .int a2)]) (st2 := []) (w3 := w) rfl rfl ?_
          refine sx_RP.step (pc2 := 51) (ls2 := [(0, .ref 0), (1, .int a1), (2, .int a2)]) (st2 := [.ref 0]) (w3 := w) rfl rfl ?_
          refine sx_RP.gf (v := .ref 1) rfl rfl hI.1.o0 rfl rfl (show _ = 54 from rfl) ?_
          refine sx_RP.gc (k := 9) hI (Or.inl rfl) rfl rfl (by omega) (show _ = 57 from rfl) ?_
          refine sx_RP.step (pc2 := 58) (ls2 := [(3, .int (fi w 1 9)), (0, .ref 0), (1, .int a1), (2, .int a2)]) (st2 := []) (w3 := w) rfl rfl ?_
          refine sx_RP.step (pc2 := 59) (ls2 := [(3, .int (fi w 1 9)), (0, .ref 0), (1, .int a1), (2, .int a2)]) (st2 := [.ref 0]) (w3 := w) rfl rfl ?_
          refine sx_RP.gf (v := .ref 1) rfl rfl hI.1.o0 rfl rfl (show _ = 62 from rfl) ?_
          refine sx_RP.step (pc2 := 63) (ls2 := [(3, .int (fi w 1 9)), (0, .ref 0), (1, .int a1), (2, .int a2)]) (st2 := [.int a2, .ref 1]) (w3 := w) rfl rfl ?_
          refine sx_RP.xC (k := 9) hI (Or.inl rfl) rfl rfl (by omega) rfl trivial (show _ = 66 from rfl) (fun w61 hI62 hs63 hv64 hr65 hj66 => ?_)
          refine sx_RP.step (pc2 := 110) (ls2 := [(3, .int (fi w 1 9)), (0, .ref 0), (1, .int a1), (2, .int a2)]) (st2 := []) (w3 := w61) rfl rfl ?_
          refine sx_RP.step (pc2 := 111) (ls2 := [(3, .int (fi w 1 9)), (0, .ref 0), (1, .int a1), (2, .int a2)]) (st2 := [.int (fi w 1 9)]) (w3 := w61) rfl rfl ?_
          refine sx_RP.ret (r := (some (.int (fi w 1 9)))) rfl rfl ?_
          exact absurd (q1.symm.trans q45) (by decide)
        · refine sx_RP.cu (as := [.int a2, .int 1, .int 999]) (rest2 := []) (st3 := [.int 0]) rfl rfl rfl rfl rfl (cx_8n c60) rfl ?_
          refine sx_RP.step (pc2 := 69) (ls2 := [(0, .ref 0), (1, .int a1), (2, .int a2)]) (st2 := []) (w3 := w) rfl rfl ?_
          refine sx_RP.step (pc2 := 70) (ls2 := [(0, .ref 0), (1, .int a1), (2, .int a2)]) (st2 := [.int a1]) (w3 := w) rfl rfl ?_
          refine sx_RP.step (pc2 := 71) (ls2 := [(0, .ref 0), (1, .int a1), (2, .int a2)]) (st2 := [.int 2, .int a1]) (w3 := w) rfl rfl ?_
          refine sx_RP.br (p1 := 103) (l1 := [(0, .ref 0), (1, .int a1), (2, .int a2)]) (s1 := []) (v1 := w) (p2 := 74) (l2 := [(0, .ref 0), (1, .int a1), (2, .int a2)]) (s2 := []) (v2 := w) rfl rfl (fun q67 => ?_) (fun q67 => ?_)
          · replace q67 := of_decide_eq_true q67
            refine sx_RP.step (pc2 := 104) (ls2 := [(0, .ref 0), (1, .int a1), (2, .int a2)]) (st2 := [.ref 0]) (w3 := w) rfl rfl ?_
            refine sx_RP.step (pc2 := 106) (ls2 := [(0, .ref 0), (1, .int a1), (2, .int a2)]) (st2 := [.int (-1000000001), .ref 0]) (w3 := w) rfl rfl ?_
            refine sx_RP.callp (as2 := [.ref 0, .int (-1000000001)]) (rest2 := []) rfl rfl (sx_inv_v2 (mi := 82) (k := 78) (st := [.int (-1000000001), .ref 0]) (w := w) rfl rfl hI.1.o0 rfl rfl rfl) rfl rfl rfl (S9_0 hI) (show _ = 109 from rfl) ?_
            rintro r4 w69 ⟨rfl, hI70, hs68⟩
            show sx_RP _ _ _ _ _ [.int (-1000000001)] _ _
            refine sx_RP.step (pc2 := 110) (ls2 := [(3, .int (-1000000001)), (0, .ref 0), (1, .int a1), (2, .int a2)]) (st2 := []) (w3 := w69) rfl rfl ?_
            refine sx_RP.step (pc2 := 111) (ls2 := [(3, .int (-1000000001)), (0, .ref 0), (1, .int a1), (2, .int a2)]) (st2 := [.int (-1000000001)]) (w3 := w69) rfl rfl ?_
            refine sx_RP.ret (r := (some (.int (-1000000001)))) rfl rfl ?_
            exact absurd (q1.symm.trans q45) (by decide)
          · replace q67 := Decidable.not_not.mp (of_decide_eq_false q67)
            refine sx_RP.step (pc2 := 75) (ls2 := [(0, .ref 0), (1, .int a1), (2, .int a2)]) (st2 := [.int a2]) (w3 := w) rfl rfl ?_
            refine sx_RP.step (pc2 := 76) (ls2 := [(0, .ref 0), (1, .int a1), (2, .int a2)]) (st2 := [.int 1, .int a2]) (w3 := w) rfl rfl ?_
            refine sx_RP.step (pc2 := 78) (ls2 := [(0, .ref 0), (1, .int a1), (2, .int a2)]) (st2 := [.int 99, .int 1, .int a2]) (w3 := w) rfl rfl ?_
            rcases Decidable.em ((1 : Int32) ≤ a2 ∧ a2 ≤ 99) with c71 | c71
            · refine sx_RP.cu (as := [.int a2, .int 1, .int 99]) (rest2 := []) (st3 := [.int 1]) rfl rfl rfl rfl rfl (cx_8p c71) rfl ?_
              refine sx_RP.step (pc2 := 84) (ls2 := [(0, .ref 0), (1, .int a1), (2, .int a2)]) (st2 := []) (w3 := w) rfl rfl ?_
              refine sx_RP.step (pc2 := 85) (ls2 := [(0, .ref 0), (1, .int a1), (2, .int a2)]) (st2 := [.ref 0]) (w3 := w) rfl rfl ?_
              refine sx_RP.gf (v := .ref 1) rfl rfl hI.1.o0 rfl rfl (show _ = 88 from rfl) ?_
              refine sx_RP.gc (k := 10) hI (Or.inl rfl) rfl rfl (by omega) (show _ = 91 from rfl) ?_
              refine sx_RP.step (pc2 := 92) (ls2 := [(3, .int (fi w 1 10)), (0, .ref 0), (1, .int a1), (2, .int a2)]) (st2 := []) (w3 := w) rfl rfl ?_
              refine sx_RP.step (pc2 := 93) (ls2 := [(3, .int (fi w 1 10)), (0, .ref 0), (1, .int a1), (2, .int a2)]) (st2 := [.ref 0]) (w3 := w) rfl rfl ?_
              refine sx_RP.gf (v := .ref 1) rfl rfl hI.1.o0 rfl rfl (show _ = 96 from rfl) ?_
              refine sx_RP.step (pc2 := 97) (ls2 := [(3, .int (fi w 1 10)), (0, .ref 0), (1, .int a1), (2, .int a2)]) (st2 := [.int a2, .ref 1]) (w3 := w) rfl rfl ?_
              refine sx_RP.xC (k := 10) hI (Or.inl rfl) rfl rfl (by omega) rfl trivial (show _ = 100 from rfl) (fun w72 hI73 hs74 hv75 hr76 hj77 => ?_)
              refine sx_RP.step (pc2 := 110) (ls2 := [(3, .int (fi w 1 10)), (0, .ref 0), (1, .int a1), (2, .int a2)]) (st2 := []) (w3 := w72) rfl rfl ?_
              refine sx_RP.step (pc2 := 111) (ls2 := [(3, .int (fi w 1 10)), (0, .ref 0), (1, .int a1), (2, .int a2)]) (st2 := [.int (fi w 1 10)]) (w3 := w72) rfl rfl ?_
              refine sx_RP.ret (r := (some (.int (fi w 1 10)))) rfl rfl ?_
              exact absurd (q1.symm.trans q45) (by decide)
            · refine sx_RP.cu (as := [.int a2, .int 1, .int 99]) (rest2 := []) (st3 := [.int 0]) rfl rfl rfl rfl rfl (cx_8n c71) rfl ?_
              refine sx_RP.step (pc2 := 103) (ls2 := [(0, .ref 0), (1, .int a1), (2, .int a2)]) (st2 := []) (w3 := w) rfl rfl ?_
              refine sx_RP.step (pc2 := 104) (ls2 := [(0, .ref 0), (1, .int a1), (2, .int a2)]) (st2 := [.ref 0]) (w3 := w) rfl rfl ?_
              refine sx_RP.step (pc2 := 106) (ls2 := [(0, .ref 0), (1, .int a1), (2, .int a2)]) (st2 := [.int (-1000000001), .ref 0]) (w3 := w) rfl rfl ?_
              refine sx_RP.callp (as2 := [.ref 0, .int (-1000000001)]) (rest2 := []) rfl rfl (sx_inv_v2 (mi := 82) (k := 78) (st := [.int (-1000000001), .ref 0]) (w := w) rfl rfl hI.1.o0 rfl rfl rfl) rfl rfl rfl (S9_0 hI) (show _ = 109 from rfl) ?_
              rintro r4 w79 ⟨rfl, hI80, hs78⟩
              show sx_RP _ _ _ _ _ [.int (-1000000001)] _ _
              refine sx_RP.step (pc2 := 110) (ls2 := [(3, .int (-1000000001)), (0, .ref 0), (1, .int a1), (2, .int a2)]) (st2 := []) (w3 := w79) rfl rfl ?_
              refine sx_RP.step (pc2 := 111) (ls2 := [(3, .int (-1000000001)), (0, .ref 0), (1, .int a1), (2, .int a2)]) (st2 := [.int (-1000000001)]) (w3 := w79) rfl rfl ?_
              refine sx_RP.ret (r := (some (.int (-1000000001)))) rfl rfl ?_
              exact absurd (q1.symm.trans q45) (by decide)
set_option maxRecDepth 20000 in
set_option maxHeartbeats 4000000 in
theorem Y203_0 {xs : Option (List Int32)} {d : Nat} {w : List sx_C} (hI : WI w) (a2 : Int32) : sx_RP xs (d + 7) 203 0 (lv_args 0 [.ref 111, .int 0, .int a2]) [] w (fun r w2 => (r = some (.int (bre2A (ia w 112) 0 a2)) ∧ ia w2 112 = bre2R (ia w 112) 0 a2) ∧ WI w2 ∧ EOm w w2) := by
  refine sx_RP.step (pc2 := 1) (ls2 := [(0, .ref 111), (1, .int 0), (2, .int a2)]) (st2 := [.int 0]) (w3 := w) rfl rfl ?_
  refine sx_RP.step (pc2 := 2) (ls2 := [(0, .ref 111), (1, .int 0), (2, .int a2)]) (st2 := [.int 0, .int 0]) (w3 := w) rfl rfl ?_
  refine sx_RP.step (pc2 := 3) (ls2 := [(0, .ref 111), (1, .int 0), (2, .int a2)]) (st2 := [.int 2, .int 0, .int 0]) (w3 := w) rfl rfl ?_
  refine sx_RP.cu (as := [.int 0, .int 0, .int 2]) (rest2 := []) (st3 := [.int 1]) rfl rfl rfl rfl rfl (cx_132p (by decide)) rfl ?_
  refine sx_RP.step (pc2 := 9) (ls2 := [(0, .ref 111), (1, .int 0), (2, .int a2)]) (st2 := []) (w3 := w) rfl rfl ?_
  refine sx_RP.step (pc2 := 10) (ls2 := [(0, .ref 111), (1, .int 0), (2, .int a2)]) (st2 := [.int 0]) (w3 := w) rfl rfl ?_
  refine sx_RP.step (pc2 := 11) (ls2 := [(0, .ref 111), (1, .int 0), (2, .int a2)]) (st2 := [.int a2, .int 0]) (w3 := w) rfl rfl ?_
  rcases Decidable.em ((0 : Int32) ≤ a2 ∧ a2 ≤ 999999) with c1 | c1
  · refine sx_RP.cu (as := [.int 0, .int a2]) (rest2 := []) (st3 := [.int 1]) rfl rfl rfl rfl rfl (p204y0 c1) rfl ?_
    refine sx_RP.step (pc2 := 23) (ls2 := [(0, .ref 111), (1, .int 0), (2, .int a2)]) (st2 := []) (w3 := w) rfl rfl ?_
    refine sx_RP.step (pc2 := 24) (ls2 := [(0, .ref 111), (1, .int 0), (2, .int a2)]) (st2 := [.ref 111]) (w3 := w) rfl rfl ?_
    refine sx_RP.gf (v := .ref 112) rfl rfl hI.1.o111 rfl rfl (show _ = 27 from rfl) ?_
    refine sx_RP.step (pc2 := 28) (ls2 := [(0, .ref 111), (1, .int 0), (2, .int a2)]) (st2 := [.int 4, .ref 112]) (w3 := w) rfl rfl ?_
    refine sx_RP.step (pc2 := 29) (ls2 := [(0, .ref 111), (1, .int 0), (2, .int a2)]) (st2 := [.int 0, .int 4, .ref 112]) (w3 := w) rfl rfl ?_
    refine sx_RP.step (pc2 := 30) (ls2 := [(0, .ref 111), (1, .int 0), (2, .int a2)]) (st2 := [.int 4, .ref 112]) (w3 := w) rfl rfl ?_
    refine sx_RP.ild (c := 4) rfl hI.1.a112.1 hI.1.a112.2 (sx_in_nI (show 4 < 172 by omega) (by decide)) (show (nI (4)).toNatClampNeg = 4 from nI_clamp (by omega)) (show _ = 31 from rfl) ?_
    refine sx_RP.step (pc2 := 32) (ls2 := [(3, .int ((ia w 112).getD (4) 0)), (0, .ref 111), (1, .int 0), (2, .int a2)]) (st2 := []) (w3 := w) rfl rfl ?_
    refine sx_RP.step (pc2 := 33) (ls2 := [(3, .int ((ia w 112).getD (4) 0)), (0, .ref 111), (1, .int 0), (2, .int a2)]) (st2 := [.ref 111]) (w3 := w) rfl rfl ?_
    refine sx_RP.gf (v := .ref 112) rfl rfl hI.1.o111 rfl rfl (show _ = 36 from rfl) ?_
    refine sx_RP.step (pc2 := 37) (ls2 := [(3, .int ((ia w 112).getD (4) 0)), (0, .ref 111), (1, .int 0), (2, .int a2)]) (st2 := [.int 4, .ref 112]) (w3 := w) rfl rfl ?_
    refine sx_RP.step (pc2 := 38) (ls2 := [(3, .int ((ia w 112).getD (4) 0)), (0, .ref 111), (1, .int 0), (2, .int a2)]) (st2 := [.int 0, .int 4, .ref 112]) (w3 := w) rfl rfl ?_
    refine sx_RP.step (pc2 := 39) (ls2 := [(3, .int ((ia w 112).getD (4) 0)), (0, .ref 111), (1, .int 0), (2, .int a2)]) (st2 := [.int 4, .ref 112]) (w3 := w) rfl rfl ?_
    refine sx_RP.step (pc2 := 40) (ls2 := [(3, .int ((ia w 112).getD (4) 0)), (0, .ref 111), (1, .int 0), (2, .int a2)]) (st2 := [.int a2, .int 4, .ref 112]) (w3 := w) rfl rfl ?_
    refine sx_RP.xM (k := 4) hI (by decide) rfl (by omega) (eOK_n (by omega)) (show _ = 41 from rfl) (fun w2 hI3 hs4 hv5 => ?_)
    refine sx_RP.step (pc2 := 42) (ls2 := [(3, .int ((ia w 112).getD (4) 0)), (0, .ref 111), (1, .int 0), (2, .int a2)]) (st2 := [.int ((ia w 112).getD (4) 0)]) (w3 := w2) rfl rfl ?_
    refine sx_RP.ret (r := (some (.int ((ia w 112).getD (4) 0)))) rfl rfl ?_
    exact ⟨⟨by rw [(bre2_1 (l := ia w 112) (a1 := 0) (a2 := a2)  ⟨rfl, c1⟩).1], by rw [(bre2_1 (l := ia w 112) (a1 := 0) (a2 := a2)  ⟨rfl, c1⟩).2, hv5]⟩, hI3, fun a ha => hs4 a (by unfold ocm at ha; omega)⟩
  · refine sx_RP.cu (as := [.int 0, .int a2]) (rest2 := []) (st3 := [.int 0]) rfl rfl rfl rfl rfl (p204n0 c1) rfl ?_
    refine sx_RP.step (pc2 := 17) (ls2 := [(0, .ref 111), (1, .int 0), (2, .int a2)]) (st2 := []) (w3 := w) rfl rfl ?_
    refine sx_RP.step (pc2 := 18) (ls2 := [(0, .ref 111), (1, .int 0), (2, .int a2)]) (st2 := [.ref 111]) (w3 := w) rfl rfl ?_
    refine sx_RP.step (pc2 := 19) (ls2 := [(0, .ref 111), (1, .int 0), (2, .int a2)]) (st2 := [.int 0, .ref 111]) (w3 := w) rfl rfl ?_
    refine sx_RP.callp (as2 := [.ref 111, .int 0]) (rest2 := []) rfl rfl (sx_inv_v2 (mi := 203) (k := 70) (st := [.int 0, .ref 111]) (w := w) rfl rfl hI.1.o111 rfl rfl rfl) rfl rfl rfl (S133_0 hI) (show _ = 22 from rfl) ?_
    rintro r4 w7 ⟨rfl, hI8, hs6⟩
    show sx_RP _ _ _ _ _ [.int (-1000000001)] _ _
    refine sx_RP.ret (r := (some (.int (-1000000001)))) rfl rfl ?_
    exact ⟨⟨by rw [(bre2_z (a1 := 0) (a2 := a2) (fun z => c1 z.2) (fun z => absurd z.1 (by decide)) (fun z => absurd z.1 (by decide))).1], by rw [(bre2_z (a1 := 0) (a2 := a2) (fun z => c1 z.2) (fun z => absurd z.1 (by decide)) (fun z => absurd z.1 (by decide))).2]; exact ia_of (hs6 112 (by decide))⟩, hI8, fun a ha => hs6 a (by unfold ocm at ha; omega)⟩
set_option maxRecDepth 20000 in
set_option maxHeartbeats 4000000 in
theorem Y203_1 {xs : Option (List Int32)} {d : Nat} {w : List sx_C} (hI : WI w) (a2 : Int32) : sx_RP xs (d + 7) 203 0 (lv_args 0 [.ref 111, .int 1, .int a2]) [] w (fun r w2 => (r = some (.int (bre2A (ia w 112) 1 a2)) ∧ ia w2 112 = bre2R (ia w 112) 1 a2) ∧ WI w2 ∧ EOm w w2) := by
  refine sx_RP.step (pc2 := 1) (ls2 := [(0, .ref 111), (1, .int 1), (2, .int a2)]) (st2 := [.int 1]) (w3 := w) rfl rfl ?_
  refine sx_RP.step (pc2 := 2) (ls2 := [(0, .ref 111), (1, .int 1), (2, .int a2)]) (st2 := [.int 0, .int 1]) (w3 := w) rfl rfl ?_
  refine sx_RP.step (pc2 := 3) (ls2 := [(0, .ref 111), (1, .int 1), (2, .int a2)]) (st2 := [.int 2, .int 0, .int 1]) (w3 := w) rfl rfl ?_
  refine sx_RP.cu (as := [.int 1, .int 0, .int 2]) (rest2 := []) (st3 := [.int 1]) rfl rfl rfl rfl rfl (cx_132p (by decide)) rfl ?_
  refine sx_RP.step (pc2 := 9) (ls2 := [(0, .ref 111), (1, .int 1), (2, .int a2)]) (st2 := []) (w3 := w) rfl rfl ?_
  refine sx_RP.step (pc2 := 10) (ls2 := [(0, .ref 111), (1, .int 1), (2, .int a2)]) (st2 := [.int 1]) (w3 := w) rfl rfl ?_
  refine sx_RP.step (pc2 := 11) (ls2 := [(0, .ref 111), (1, .int 1), (2, .int a2)]) (st2 := [.int a2, .int 1]) (w3 := w) rfl rfl ?_
  rcases Decidable.em ((1 : Int32) ≤ a2 ∧ a2 ≤ 999) with c1 | c1
  · refine sx_RP.cu (as := [.int 1, .int a2]) (rest2 := []) (st3 := [.int 1]) rfl rfl rfl rfl rfl (p204y1 c1) rfl ?_
    refine sx_RP.step (pc2 := 23) (ls2 := [(0, .ref 111), (1, .int 1), (2, .int a2)]) (st2 := []) (w3 := w) rfl rfl ?_
    refine sx_RP.step (pc2 := 24) (ls2 := [(0, .ref 111), (1, .int 1), (2, .int a2)]) (st2 := [.ref 111]) (w3 := w) rfl rfl ?_
    refine sx_RP.gf (v := .ref 112) rfl rfl hI.1.o111 rfl rfl (show _ = 27 from rfl) ?_
    refine sx_RP.step (pc2 := 28) (ls2 := [(0, .ref 111), (1, .int 1), (2, .int a2)]) (st2 := [.int 4, .ref 112]) (w3 := w) rfl rfl ?_
    refine sx_RP.step (pc2 := 29) (ls2 := [(0, .ref 111), (1, .int 1), (2, .int a2)]) (st2 := [.int 1, .int 4, .ref 112]) (w3 := w) rfl rfl ?_
    refine sx_RP.step (pc2 := 30) (ls2 := [(0, .ref 111), (1, .int 1), (2, .int a2)]) (st2 := [.int 5, .ref 112]) (w3 := w) rfl rfl ?_
    refine sx_RP.ild (c := 5) rfl hI.1.a112.1 hI.1.a112.2 (sx_in_nI (show 5 < 172 by omega) (by decide)) (show (nI (5)).toNatClampNeg = 5 from nI_clamp (by omega)) (show _ = 31 from rfl) ?_
    refine sx_RP.step (pc2 := 32) (ls2 := [(3, .int ((ia w 112).getD (5) 0)), (0, .ref 111), (1, .int 1), (2, .int a2)]) (st2 := []) (w3 := w) rfl rfl ?_
    refine sx_RP.step (pc2 := 33) (ls2 := [(3, .int ((ia w 112).getD (5) 0)), (0, .ref 111), (1, .int 1), (2, .int a2)]) (st2 := [.ref 111]) (w3 := w) rfl rfl ?_
    refine sx_RP.gf (v := .ref 112) rfl rfl hI.1.o111 rfl rfl (show _ = 36 from rfl) ?_
    refine sx_RP.step (pc2 := 37) (ls2 := [(3, .int ((ia w 112).getD (5) 0)), (0, .ref 111), (1, .int 1), (2, .int a2)]) (st2 := [.int 4, .ref 112]) (w3 := w) rfl rfl ?_
    refine sx_RP.step (pc2 := 38) (ls2 := [(3, .int ((ia w 112).getD (5) 0)), (0, .ref 111), (1, .int 1), (2, .int a2)]) (st2 := [.int 1, .int 4, .ref 112]) (w3 := w) rfl rfl ?_
    refine sx_RP.step (pc2 := 39) (ls2 := [(3, .int ((ia w 112).getD (5) 0)), (0, .ref 111), (1, .int 1), (2, .int a2)]) (st2 := [.int 5, .ref 112]) (w3 := w) rfl rfl ?_
    refine sx_RP.step (pc2 := 40) (ls2 := [(3, .int ((ia w 112).getD (5) 0)), (0, .ref 111), (1, .int 1), (2, .int a2)]) (st2 := [.int a2, .int 5, .ref 112]) (w3 := w) rfl rfl ?_
    refine sx_RP.xM (k := 5) hI (by decide) rfl (by omega) (eOK_n (by omega)) (show _ = 41 from rfl) (fun w2 hI3 hs4 hv5 => ?_)
    refine sx_RP.step (pc2 := 42) (ls2 := [(3, .int ((ia w 112).getD (5) 0)), (0, .ref 111), (1, .int 1), (2, .int a2)]) (st2 := [.int ((ia w 112).getD (5) 0)]) (w3 := w2) rfl rfl ?_
    refine sx_RP.ret (r := (some (.int ((ia w 112).getD (5) 0)))) rfl rfl ?_
    exact ⟨⟨by rw [(bre2_2 (l := ia w 112) (a1 := 1) (a2 := a2) (fun z => absurd z.1 (by decide)) ⟨rfl, c1⟩).1], by rw [(bre2_2 (l := ia w 112) (a1 := 1) (a2 := a2) (fun z => absurd z.1 (by decide)) ⟨rfl, c1⟩).2, hv5]⟩, hI3, fun a ha => hs4 a (by unfold ocm at ha; omega)⟩
  · refine sx_RP.cu (as := [.int 1, .int a2]) (rest2 := []) (st3 := [.int 0]) rfl rfl rfl rfl rfl (p204n1 c1) rfl ?_
    refine sx_RP.step (pc2 := 17) (ls2 := [(0, .ref 111), (1, .int 1), (2, .int a2)]) (st2 := []) (w3 := w) rfl rfl ?_
    refine sx_RP.step (pc2 := 18) (ls2 := [(0, .ref 111), (1, .int 1), (2, .int a2)]) (st2 := [.ref 111]) (w3 := w) rfl rfl ?_
    refine sx_RP.step (pc2 := 19) (ls2 := [(0, .ref 111), (1, .int 1), (2, .int a2)]) (st2 := [.int 0, .ref 111]) (w3 := w) rfl rfl ?_
    refine sx_RP.callp (as2 := [.ref 111, .int 0]) (rest2 := []) rfl rfl (sx_inv_v2 (mi := 203) (k := 70) (st := [.int 0, .ref 111]) (w := w) rfl rfl hI.1.o111 rfl rfl rfl) rfl rfl rfl (S133_0 hI) (show _ = 22 from rfl) ?_
    rintro r4 w7 ⟨rfl, hI8, hs6⟩
    show sx_RP _ _ _ _ _ [.int (-1000000001)] _ _
    refine sx_RP.ret (r := (some (.int (-1000000001)))) rfl rfl ?_
    exact ⟨⟨by rw [(bre2_z (a1 := 1) (a2 := a2) (fun z => absurd z.1 (by decide)) (fun z => c1 z.2) (fun z => absurd z.1 (by decide))).1], by rw [(bre2_z (a1 := 1) (a2 := a2) (fun z => absurd z.1 (by decide)) (fun z => c1 z.2) (fun z => absurd z.1 (by decide))).2]; exact ia_of (hs6 112 (by decide))⟩, hI8, fun a ha => hs6 a (by unfold ocm at ha; omega)⟩
set_option maxRecDepth 20000 in
set_option maxHeartbeats 4000000 in
theorem Y203_2 {xs : Option (List Int32)} {d : Nat} {w : List sx_C} (hI : WI w) (a2 : Int32) : sx_RP xs (d + 7) 203 0 (lv_args 0 [.ref 111, .int 2, .int a2]) [] w (fun r w2 => (r = some (.int (bre2A (ia w 112) 2 a2)) ∧ ia w2 112 = bre2R (ia w 112) 2 a2) ∧ WI w2 ∧ EOm w w2) := by
  refine sx_RP.step (pc2 := 1) (ls2 := [(0, .ref 111), (1, .int 2), (2, .int a2)]) (st2 := [.int 2]) (w3 := w) rfl rfl ?_
  refine sx_RP.step (pc2 := 2) (ls2 := [(0, .ref 111), (1, .int 2), (2, .int a2)]) (st2 := [.int 0, .int 2]) (w3 := w) rfl rfl ?_
  refine sx_RP.step (pc2 := 3) (ls2 := [(0, .ref 111), (1, .int 2), (2, .int a2)]) (st2 := [.int 2, .int 0, .int 2]) (w3 := w) rfl rfl ?_
  refine sx_RP.cu (as := [.int 2, .int 0, .int 2]) (rest2 := []) (st3 := [.int 1]) rfl rfl rfl rfl rfl (cx_132p (by decide)) rfl ?_
  refine sx_RP.step (pc2 := 9) (ls2 := [(0, .ref 111), (1, .int 2), (2, .int a2)]) (st2 := []) (w3 := w) rfl rfl ?_
  refine sx_RP.step (pc2 := 10) (ls2 := [(0, .ref 111), (1, .int 2), (2, .int a2)]) (st2 := [.int 2]) (w3 := w) rfl rfl ?_
  refine sx_RP.step (pc2 := 11) (ls2 := [(0, .ref 111), (1, .int 2), (2, .int a2)]) (st2 := [.int a2, .int 2]) (w3 := w) rfl rfl ?_
  rcases Decidable.em ((1 : Int32) ≤ a2 ∧ a2 ≤ 99) with c1 | c1
  · refine sx_RP.cu (as := [.int 2, .int a2]) (rest2 := []) (st3 := [.int 1]) rfl rfl rfl rfl rfl (p204y2 c1) rfl ?_
    refine sx_RP.step (pc2 := 23) (ls2 := [(0, .ref 111), (1, .int 2), (2, .int a2)]) (st2 := []) (w3 := w) rfl rfl ?_
    refine sx_RP.step (pc2 := 24) (ls2 := [(0, .ref 111), (1, .int 2), (2, .int a2)]) (st2 := [.ref 111]) (w3 := w) rfl rfl ?_
    refine sx_RP.gf (v := .ref 112) rfl rfl hI.1.o111 rfl rfl (show _ = 27 from rfl) ?_
    refine sx_RP.step (pc2 := 28) (ls2 := [(0, .ref 111), (1, .int 2), (2, .int a2)]) (st2 := [.int 4, .ref 112]) (w3 := w) rfl rfl ?_
    refine sx_RP.step (pc2 := 29) (ls2 := [(0, .ref 111), (1, .int 2), (2, .int a2)]) (st2 := [.int 2, .int 4, .ref 112]) (w3 := w) rfl rfl ?_
    refine sx_RP.step (pc2 := 30) (ls2 := [(0, .ref 111), (1, .int 2), (2, .int a2)]) (st2 := [.int 6, .ref 112]) (w3 := w) rfl rfl ?_
    refine sx_RP.ild (c := 6) rfl hI.1.a112.1 hI.1.a112.2 (sx_in_nI (show 6 < 172 by omega) (by decide)) (show (nI (6)).toNatClampNeg = 6 from nI_clamp (by omega)) (show _ = 31 from rfl) ?_
    refine sx_RP.step (pc2 := 32) (ls2 := [(3, .int ((ia w 112).getD (6) 0)), (0, .ref 111), (1, .int 2), (2, .int a2)]) (st2 := []) (w3 := w) rfl rfl ?_
    refine sx_RP.step (pc2 := 33) (ls2 := [(3, .int ((ia w 112).getD (6) 0)), (0, .ref 111), (1, .int 2), (2, .int a2)]) (st2 := [.ref 111]) (w3 := w) rfl rfl ?_
    refine sx_RP.gf (v := .ref 112) rfl rfl hI.1.o111 rfl rfl (show _ = 36 from rfl) ?_
    refine sx_RP.step (pc2 := 37) (ls2 := [(3, .int ((ia w 112).getD (6) 0)), (0, .ref 111), (1, .int 2), (2, .int a2)]) (st2 := [.int 4, .ref 112]) (w3 := w) rfl rfl ?_
    refine sx_RP.step (pc2 := 38) (ls2 := [(3, .int ((ia w 112).getD (6) 0)), (0, .ref 111), (1, .int 2), (2, .int a2)]) (st2 := [.int 2, .int 4, .ref 112]) (w3 := w) rfl rfl ?_
    refine sx_RP.step (pc2 := 39) (ls2 := [(3, .int ((ia w 112).getD (6) 0)), (0, .ref 111), (1, .int 2), (2, .int a2)]) (st2 := [.int 6, .ref 112]) (w3 := w) rfl rfl ?_
    refine sx_RP.step (pc2 := 40) (ls2 := [(3, .int ((ia w 112).getD (6) 0)), (0, .ref 111), (1, .int 2), (2, .int a2)]) (st2 := [.int a2, .int 6, .ref 112]) (w3 := w) rfl rfl ?_
    refine sx_RP.xM (k := 6) hI (by decide) rfl (by omega) (eOK_n (by omega)) (show _ = 41 from rfl) (fun w2 hI3 hs4 hv5 => ?_)
    refine sx_RP.step (pc2 := 42) (ls2 := [(3, .int ((ia w 112).getD (6) 0)), (0, .ref 111), (1, .int 2), (2, .int a2)]) (st2 := [.int ((ia w 112).getD (6) 0)]) (w3 := w2) rfl rfl ?_
    refine sx_RP.ret (r := (some (.int ((ia w 112).getD (6) 0)))) rfl rfl ?_
    exact ⟨⟨by rw [(bre2_3 (l := ia w 112) (a1 := 2) (a2 := a2) (fun z => absurd z.1 (by decide)) (fun z => absurd z.1 (by decide)) ⟨rfl, c1⟩).1], by rw [(bre2_3 (l := ia w 112) (a1 := 2) (a2 := a2) (fun z => absurd z.1 (by decide)) (fun z => absurd z.1 (by decide)) ⟨rfl, c1⟩).2, hv5]⟩, hI3, fun a ha => hs4 a (by unfold ocm at ha; omega)⟩
  · refine sx_RP.cu (as := [.int 2, .int a2]) (rest2 := []) (st3 := [.int 0]) rfl rfl rfl rfl rfl (p204n2 c1) rfl ?_
    refine sx_RP.step (pc2 := 17) (ls2 := [(0, .ref 111), (1, .int 2), (2, .int a2)]) (st2 := []) (w3 := w) rfl rfl ?_
    refine sx_RP.step (pc2 := 18) (ls2 := [(0, .ref 111), (1, .int 2), (2, .int a2)]) (st2 := [.ref 111]) (w3 := w) rfl rfl ?_
    refine sx_RP.step (pc2 := 19) (ls2 := [(0, .ref 111), (1, .int 2), (2, .int a2)]) (st2 := [.int 0, .ref 111]) (w3 := w) rfl rfl ?_
    refine sx_RP.callp (as2 := [.ref 111, .int 0]) (rest2 := []) rfl rfl (sx_inv_v2 (mi := 203) (k := 70) (st := [.int 0, .ref 111]) (w := w) rfl rfl hI.1.o111 rfl rfl rfl) rfl rfl rfl (S133_0 hI) (show _ = 22 from rfl) ?_
    rintro r4 w7 ⟨rfl, hI8, hs6⟩
    show sx_RP _ _ _ _ _ [.int (-1000000001)] _ _
    refine sx_RP.ret (r := (some (.int (-1000000001)))) rfl rfl ?_
    exact ⟨⟨by rw [(bre2_z (a1 := 2) (a2 := a2) (fun z => absurd z.1 (by decide)) (fun z => absurd z.1 (by decide)) (fun z => c1 z.2)).1], by rw [(bre2_z (a1 := 2) (a2 := a2) (fun z => absurd z.1 (by decide)) (fun z => absurd z.1 (by decide)) (fun z => c1 z.2)).2]; exact ia_of (hs6 112 (by decide))⟩, hI8, fun a ha => hs6 a (by unfold ocm at ha; omega)⟩
set_option maxRecDepth 20000 in
set_option maxHeartbeats 4000000 in
theorem Y203_n {xs : Option (List Int32)} {d : Nat} {w : List sx_C} (hI : WI w) (a1 a2 : Int32) (hh : ¬ (0 ≤ a1 ∧ a1 ≤ 2)) : sx_RP xs (d + 7) 203 0 (lv_args 0 [.ref 111, .int a1, .int a2]) [] w (fun r w2 => (r = some (.int (bre2A (ia w 112) a1 a2)) ∧ ia w2 112 = bre2R (ia w 112) a1 a2) ∧ WI w2 ∧ EOm w w2) := by
  refine sx_RP.step (pc2 := 1) (ls2 := [(0, .ref 111), (1, .int a1), (2, .int a2)]) (st2 := [.int a1]) (w3 := w) rfl rfl ?_
  refine sx_RP.step (pc2 := 2) (ls2 := [(0, .ref 111), (1, .int a1), (2, .int a2)]) (st2 := [.int 0, .int a1]) (w3 := w) rfl rfl ?_
  refine sx_RP.step (pc2 := 3) (ls2 := [(0, .ref 111), (1, .int a1), (2, .int a2)]) (st2 := [.int 2, .int 0, .int a1]) (w3 := w) rfl rfl ?_
  refine sx_RP.cu (as := [.int a1, .int 0, .int 2]) (rest2 := []) (st3 := [.int 0]) rfl rfl rfl rfl rfl (cx_132o hh) rfl ?_
  refine sx_RP.step (pc2 := 17) (ls2 := [(0, .ref 111), (1, .int a1), (2, .int a2)]) (st2 := []) (w3 := w) rfl rfl ?_
  refine sx_RP.step (pc2 := 18) (ls2 := [(0, .ref 111), (1, .int a1), (2, .int a2)]) (st2 := [.ref 111]) (w3 := w) rfl rfl ?_
  refine sx_RP.step (pc2 := 19) (ls2 := [(0, .ref 111), (1, .int a1), (2, .int a2)]) (st2 := [.int 0, .ref 111]) (w3 := w) rfl rfl ?_
  refine sx_RP.callp (as2 := [.ref 111, .int 0]) (rest2 := []) rfl rfl (sx_inv_v2 (mi := 203) (k := 70) (st := [.int 0, .ref 111]) (w := w) rfl rfl hI.1.o111 rfl rfl rfl) rfl rfl rfl (S133_0 hI) (show _ = 22 from rfl) ?_
  rintro r4 w2 ⟨rfl, hI3, hs1⟩
  show sx_RP _ _ _ _ _ [.int (-1000000001)] _ _
  refine sx_RP.ret (r := (some (.int (-1000000001)))) rfl rfl ?_
  exact ⟨⟨by rw [(bre2_z (fun z => hh (by rw [z.1]; decide)) (fun z => hh (by rw [z.1]; decide)) (fun z => hh (by rw [z.1]; decide))).1], by rw [(bre2_z (fun z => hh (by rw [z.1]; decide)) (fun z => hh (by rw [z.1]; decide)) (fun z => hh (by rw [z.1]; decide))).2]; exact ia_of (hs1 112 (by decide))⟩, hI3, fun a ha => hs1 a (by unfold ocm at ha; omega)⟩
theorem Y203 {xs : Option (List Int32)} {d : Nat} {w : List sx_C} (hI : WI w) (a1 a2 : Int32) : sx_RP xs (d + 7) 203 0 (lv_args 0 [.ref 111, .int a1, .int a2]) [] w (fun r w2 => (r = some (.int (bre2A (ia w 112) a1 a2)) ∧ ia w2 112 = bre2R (ia w 112) a1 a2) ∧ WI w2 ∧ EOm w w2) := by
  by_cases hh : 0 ≤ a1 ∧ a1 ≤ 2
  · rcases in_cases a1 0 2 (m := 0) (n := 2) rfl rfl (by decide) (by decide) with q | ⟨x, h1, h2, rfl⟩
    · exact absurd hh q
    · rcases (show x = 0 ∨ x = 1 ∨ x = 2 by omega) with rfl | rfl | rfl
      · exact Y203_0 hI a2
      · exact Y203_1 hI a2
      · exact Y203_2 hI a2
  · exact Y203_n hI a1 a2 hh
end
-- 89y06.empty.lean.txt
section
theorem sx_e_kc {o : Nat} {idx : Nat} {pc : Nat} {n : Nat} {ls : sx_L} {st : List Value} {F : sx_F} (h : sx_kc o idx pc n ls st [] = some F) : F.2.2.2 = [] ∧ ∀ w, sx_kc o idx pc n ls st w = some (F.1, F.2.1, F.2.2.1, w) := by
  simp only [sx_kc, List.getElem?_nil, Bool.cond_eq_ite] at h ⊢
  (repeat' split at h) <;> first | (cases h; done) | (cases h; exact ⟨rfl, fun w => by simp_all⟩)
theorem sx_e_kj {o : Nat} {idx : Nat} {ls : sx_L} {pc : Nat} {st : List Value} {F : sx_F} (h : sx_kj o idx ls pc st [] = some F) : F.2.2.2 = [] ∧ ∀ w, sx_kj o idx ls pc st w = some (F.1, F.2.1, F.2.2.1, w) := by
  simp only [sx_kj, List.getElem?_nil, Bool.cond_eq_ite] at h ⊢
  (repeat' split at h) <;> first | (cases h; done) | (cases h; exact ⟨rfl, fun w => by simp_all⟩)
theorem sx_e_ldi {ls : sx_L} {i : Nat} {pc : Nat} {st : List Value} {F : sx_F} (h : sx_ldi ls i pc st [] = some F) : F.2.2.2 = [] ∧ ∀ w, sx_ldi ls i pc st w = some (F.1, F.2.1, F.2.2.1, w) := by
  simp only [sx_ldi, List.getElem?_nil, Bool.cond_eq_ite] at h ⊢
  (repeat' split at h) <;> first | (cases h; done) | (cases h; exact ⟨rfl, fun w => by simp_all⟩)
theorem sx_e_ldl {ls : sx_L} {i : Nat} {pc : Nat} {st : List Value} {F : sx_F} (h : sx_ldl ls i pc st [] = some F) : F.2.2.2 = [] ∧ ∀ w, sx_ldl ls i pc st w = some (F.1, F.2.1, F.2.2.1, w) := by
  simp only [sx_ldl, List.getElem?_nil, Bool.cond_eq_ite] at h ⊢
  (repeat' split at h) <;> first | (cases h; done) | (cases h; exact ⟨rfl, fun w => by simp_all⟩)
theorem sx_e_lda {ls : sx_L} {i : Nat} {pc : Nat} {st : List Value} {F : sx_F} (h : sx_lda ls i pc st [] = some F) : F.2.2.2 = [] ∧ ∀ w, sx_lda ls i pc st w = some (F.1, F.2.1, F.2.2.1, w) := by
  simp only [sx_lda, List.getElem?_nil, Bool.cond_eq_ite] at h ⊢
  (repeat' split at h) <;> first | (cases h; done) | (cases h; exact ⟨rfl, fun w => by simp_all⟩)
theorem sx_e_sti {nL : Nat} {ls : sx_L} {i : Nat} {pc : Nat} {st : List Value} {F : sx_F} (h : sx_sti nL ls i pc st [] = some F) : F.2.2.2 = [] ∧ ∀ w, sx_sti nL ls i pc st w = some (F.1, F.2.1, F.2.2.1, w) := by
  simp only [sx_sti, List.getElem?_nil, Bool.cond_eq_ite] at h ⊢
  (repeat' split at h) <;> first | (cases h; done) | (cases h; exact ⟨rfl, fun w => by simp_all⟩)
theorem sx_e_stl {nL : Nat} {ls : sx_L} {i : Nat} {pc : Nat} {st : List Value} {F : sx_F} (h : sx_stl nL ls i pc st [] = some F) : F.2.2.2 = [] ∧ ∀ w, sx_stl nL ls i pc st w = some (F.1, F.2.1, F.2.2.1, w) := by
  simp only [sx_stl, List.getElem?_nil, Bool.cond_eq_ite] at h ⊢
  (repeat' split at h) <;> first | (cases h; done) | (cases h; exact ⟨rfl, fun w => by simp_all⟩)
theorem sx_e_sta {nL : Nat} {ls : sx_L} {i : Nat} {pc : Nat} {st : List Value} {F : sx_F} (h : sx_sta nL ls i pc st [] = some F) : F.2.2.2 = [] ∧ ∀ w, sx_sta nL ls i pc st w = some (F.1, F.2.1, F.2.2.1, w) := by
  simp only [sx_sta, List.getElem?_nil, Bool.cond_eq_ite] at h ⊢
  (repeat' split at h) <;> first | (cases h; done) | (cases h; exact ⟨rfl, fun w => by simp_all⟩)
theorem sx_e_inc {nL : Nat} {i : Nat} {k : Int} {ls : sx_L} {pc : Nat} {st : List Value} {F : sx_F} (h : sx_inc nL i k ls pc st [] = some F) : F.2.2.2 = [] ∧ ∀ w, sx_inc nL i k ls pc st w = some (F.1, F.2.1, F.2.2.1, w) := by
  simp only [sx_inc, List.getElem?_nil, Bool.cond_eq_ite] at h ⊢
  (repeat' split at h) <;> first | (cases h; done) | (cases h; exact ⟨rfl, fun w => by simp_all⟩)
theorem sx_e_ii {f : Int32 → Int32 → Int32} {ls : sx_L} {pc : Nat} {st : List Value} {F : sx_F} (h : sx_ii f ls pc st [] = some F) : F.2.2.2 = [] ∧ ∀ w, sx_ii f ls pc st w = some (F.1, F.2.1, F.2.2.1, w) := by
  simp only [sx_ii, List.getElem?_nil, Bool.cond_eq_ite] at h ⊢
  (repeat' split at h) <;> first | (cases h; done) | (cases h; exact ⟨rfl, fun w => by simp_all⟩)
theorem sx_e_iz {f : Int32 → Int32 → Int32} {ls : sx_L} {pc : Nat} {st : List Value} {F : sx_F} (h : sx_iz f ls pc st [] = some F) : F.2.2.2 = [] ∧ ∀ w, sx_iz f ls pc st w = some (F.1, F.2.1, F.2.2.1, w) := by
  simp only [sx_iz, List.getElem?_nil, Bool.cond_eq_ite] at h ⊢
  (repeat' split at h) <;> first | (cases h; done) | (cases h; exact ⟨rfl, fun w => by simp_all⟩)
theorem sx_e_i1 {f : Int32 → Int32} {ls : sx_L} {pc : Nat} {st : List Value} {F : sx_F} (h : sx_i1 f ls pc st [] = some F) : F.2.2.2 = [] ∧ ∀ w, sx_i1 f ls pc st w = some (F.1, F.2.1, F.2.2.1, w) := by
  simp only [sx_i1, List.getElem?_nil, Bool.cond_eq_ite] at h ⊢
  (repeat' split at h) <;> first | (cases h; done) | (cases h; exact ⟨rfl, fun w => by simp_all⟩)
theorem sx_e_jj {f : Int64 → Int64 → Int64} {ls : sx_L} {pc : Nat} {st : List Value} {F : sx_F} (h : sx_jj f ls pc st [] = some F) : F.2.2.2 = [] ∧ ∀ w, sx_jj f ls pc st w = some (F.1, F.2.1, F.2.2.1, w) := by
  simp only [sx_jj, List.getElem?_nil, Bool.cond_eq_ite] at h ⊢
  (repeat' split at h) <;> first | (cases h; done) | (cases h; exact ⟨rfl, fun w => by simp_all⟩)
theorem sx_e_ji {f : Int64 → Int32 → Int64} {ls : sx_L} {pc : Nat} {st : List Value} {F : sx_F} (h : sx_ji f ls pc st [] = some F) : F.2.2.2 = [] ∧ ∀ w, sx_ji f ls pc st w = some (F.1, F.2.1, F.2.2.1, w) := by
  simp only [sx_ji, List.getElem?_nil, Bool.cond_eq_ite] at h ⊢
  (repeat' split at h) <;> first | (cases h; done) | (cases h; exact ⟨rfl, fun w => by simp_all⟩)
theorem sx_e_dup {ls : sx_L} {pc : Nat} {st : List Value} {F : sx_F} (h : sx_dup ls pc st [] = some F) : F.2.2.2 = [] ∧ ∀ w, sx_dup ls pc st w = some (F.1, F.2.1, F.2.2.1, w) := by
  simp only [sx_dup, List.getElem?_nil, Bool.cond_eq_ite] at h ⊢
  (repeat' split at h) <;> first | (cases h; done) | (cases h; exact ⟨rfl, fun w => by simp_all⟩)
theorem sx_e_pop {ls : sx_L} {pc : Nat} {st : List Value} {F : sx_F} (h : sx_pop ls pc st [] = some F) : F.2.2.2 = [] ∧ ∀ w, sx_pop ls pc st w = some (F.1, F.2.1, F.2.2.1, w) := by
  simp only [sx_pop, List.getElem?_nil, Bool.cond_eq_ite] at h ⊢
  (repeat' split at h) <;> first | (cases h; done) | (cases h; exact ⟨rfl, fun w => by simp_all⟩)
theorem sx_e_pop2 {ls : sx_L} {pc : Nat} {st : List Value} {F : sx_F} (h : sx_pop2 ls pc st [] = some F) : F.2.2.2 = [] ∧ ∀ w, sx_pop2 ls pc st w = some (F.1, F.2.1, F.2.2.1, w) := by
  simp only [sx_pop2, List.getElem?_nil, Bool.cond_eq_ite] at h ⊢
  (repeat' split at h) <;> first | (cases h; done) | (cases h; exact ⟨rfl, fun w => by simp_all⟩)
theorem sx_e_dup2 {ls : sx_L} {pc : Nat} {st : List Value} {F : sx_F} (h : sx_dup2 ls pc st [] = some F) : F.2.2.2 = [] ∧ ∀ w, sx_dup2 ls pc st w = some (F.1, F.2.1, F.2.2.1, w) := by
  simp only [sx_dup2, List.getElem?_nil, Bool.cond_eq_ite] at h ⊢
  (repeat' split at h) <;> first | (cases h; done) | (cases h; exact ⟨rfl, fun w => by simp_all⟩)
theorem sx_e_b1 {f : Int32 → Bool} {off : Int} {ls : sx_L} {pc : Nat} {st : List Value} {F : sx_F} (h : sx_b1 f off ls pc st [] = some F) : F.2.2.2 = [] ∧ ∀ w, sx_b1 f off ls pc st w = some (F.1, F.2.1, F.2.2.1, w) := by
  simp only [sx_b1, List.getElem?_nil, Bool.cond_eq_ite] at h ⊢
  (repeat' split at h) <;> first | (cases h; done) | (cases h; exact ⟨rfl, fun w => by simp_all⟩)
theorem sx_e_b2 {f : Int32 → Int32 → Bool} {off : Int} {ls : sx_L} {pc : Nat} {st : List Value} {F : sx_F} (h : sx_b2 f off ls pc st [] = some F) : F.2.2.2 = [] ∧ ∀ w, sx_b2 f off ls pc st w = some (F.1, F.2.1, F.2.2.1, w) := by
  simp only [sx_b2, List.getElem?_nil, Bool.cond_eq_ite] at h ⊢
  (repeat' split at h) <;> first | (cases h; done) | (cases h; exact ⟨rfl, fun w => by simp_all⟩)
theorem sx_e_sw {a : Int} {b : Int} {c2 : Int} {offs : Array Int} {ls : sx_L} {pc : Nat} {st : List Value} {F : sx_F} (h : sx_sw a b c2 offs ls pc st [] = some F) : F.2.2.2 = [] ∧ ∀ w, sx_sw a b c2 offs ls pc st w = some (F.1, F.2.1, F.2.2.1, w) := by
  simp only [sx_sw, List.getElem?_nil, Bool.cond_eq_ite] at h ⊢
  (repeat' split at h) <;> first | (cases h; done) | (cases h; refine ⟨rfl, fun w => ?_⟩; simp_all; done) | (cases h; refine ⟨rfl, fun w => ?_⟩; simp_all; intro hh; exfalso; omega)
theorem sx_e_gf {o : Nat} {idx : Nat} {ls : sx_L} {pc : Nat} {st : List Value} {F : sx_F} (h : sx_gf o idx ls pc st [] = some F) : F.2.2.2 = [] ∧ ∀ w, sx_gf o idx ls pc st w = some (F.1, F.2.1, F.2.2.1, w) := by
  simp only [sx_gf, List.getElem?_nil, Bool.cond_eq_ite] at h ⊢
  (repeat' split at h) <;> first | (cases h; done) | (cases h; exact ⟨rfl, fun w => by simp_all⟩)
theorem sx_e_gs {o : Nat} {idx : Nat} {ls : sx_L} {pc : Nat} {st : List Value} {F : sx_F} (h : sx_gs o idx ls pc st [] = some F) : F.2.2.2 = [] ∧ ∀ w, sx_gs o idx ls pc st w = some (F.1, F.2.1, F.2.2.1, w) := by
  simp only [sx_gs, List.getElem?_nil, Bool.cond_eq_ite] at h ⊢
  (repeat' split at h) <;> first | (cases h; done) | (cases h; exact ⟨rfl, fun w => by simp_all⟩)
theorem sx_e_iald {xs : Option (List Int32)} {ls : sx_L} {pc : Nat} {st : List Value} {F : sx_F} (h : sx_iald xs ls pc st [] = some F) : F.2.2.2 = [] ∧ ∀ w, sx_iald xs ls pc st w = some (F.1, F.2.1, F.2.2.1, w) := by
  simp only [sx_iald, sx_al, List.getElem?_nil, Bool.cond_eq_ite] at h ⊢
  (repeat' split at h) <;> first | (cases h; done) | (cases h; exact ⟨rfl, fun w => by simp_all⟩)
theorem sx_e_bald {ls : sx_L} {pc : Nat} {st : List Value} {F : sx_F} (h : sx_bald ls pc st [] = some F) : F.2.2.2 = [] ∧ ∀ w, sx_bald ls pc st w = some (F.1, F.2.1, F.2.2.1, w) := by
  simp only [sx_bald, sx_al, List.getElem?_nil, Bool.cond_eq_ite] at h ⊢
  (repeat' split at h) <;> first | (cases h; done) | (cases h; exact ⟨rfl, fun w => by simp_all⟩)
theorem sx_e_lald {ls : sx_L} {pc : Nat} {st : List Value} {F : sx_F} (h : sx_lald ls pc st [] = some F) : F.2.2.2 = [] ∧ ∀ w, sx_lald ls pc st w = some (F.1, F.2.1, F.2.2.1, w) := by
  simp only [sx_lald, List.getElem?_nil, Bool.cond_eq_ite] at h ⊢
  (repeat' split at h) <;> first | (cases h; done) | (cases h; exact ⟨rfl, fun w => by simp_all⟩)
theorem sx_e_aald {ls : sx_L} {pc : Nat} {st : List Value} {F : sx_F} (h : sx_aald ls pc st [] = some F) : F.2.2.2 = [] ∧ ∀ w, sx_aald ls pc st w = some (F.1, F.2.1, F.2.2.1, w) := by
  simp only [sx_aald, List.getElem?_nil, Bool.cond_eq_ite] at h ⊢
  (repeat' split at h) <;> first | (cases h; done) | (cases h; exact ⟨rfl, fun w => by simp_all⟩)
theorem sx_e_len {xs : Option (List Int32)} {ls : sx_L} {pc : Nat} {st : List Value} {F : sx_F} (h : sx_len xs ls pc st [] = some F) : F.2.2.2 = [] ∧ ∀ w, sx_len xs ls pc st w = some (F.1, F.2.1, F.2.2.1, w) := by
  simp only [sx_len, List.getElem?_nil, Bool.cond_eq_ite] at h ⊢
  (repeat' split at h) <;> first | (cases h; done) | (cases h; exact ⟨rfl, fun w => by simp_all⟩)
theorem sx_e_obj {o : Nat} {idx : Nat} {ls : sx_L} {pc : Nat} {st : List Value} {F : sx_F} (h : sx_obj o idx ls pc st [] = some F) : F.2.2.2 = [] ∧ ∀ w, sx_obj o idx ls pc st w = some (F.1, F.2.1, F.2.2.1, w) := by
  simp only [sx_obj, List.getElem?_nil, Bool.cond_eq_ite] at h ⊢
  (repeat' split at h) <;> first | (cases h; done) | (cases h; exact ⟨rfl, fun w => by simp_all⟩)
theorem sx_e_pf {mi : Nat} {idx : Nat} {ls : sx_L} {pc : Nat} {st : List Value} {F : sx_F} (h : sx_pf mi idx ls pc st [] = some F) : F.2.2.2 = [] ∧ ∀ w, sx_pf mi idx ls pc st w = some (F.1, F.2.1, F.2.2.1, w) := by
  simp only [sx_pf, List.getElem?_nil, Bool.cond_eq_ite] at h ⊢
  (repeat' split at h) <;> first | (cases h; done) | (cases h; exact ⟨rfl, fun w => by simp_all⟩)
theorem sx_e_iast {ls : sx_L} {pc : Nat} {st : List Value} {F : sx_F} (h : sx_iast ls pc st [] = some F) : F.2.2.2 = [] ∧ ∀ w, sx_iast ls pc st w = some (F.1, F.2.1, F.2.2.1, w) := by
  simp only [sx_iast, List.getElem?_nil, Bool.cond_eq_ite] at h ⊢
  (repeat' split at h) <;> first | (cases h; done) | (cases h; exact ⟨rfl, fun w => by simp_all⟩)
theorem sx_e_bast {ls : sx_L} {pc : Nat} {st : List Value} {F : sx_F} (h : sx_bast ls pc st [] = some F) : F.2.2.2 = [] ∧ ∀ w, sx_bast ls pc st w = some (F.1, F.2.1, F.2.2.1, w) := by
  simp only [sx_bast, List.getElem?_nil, Bool.cond_eq_ite] at h ⊢
  (repeat' split at h) <;> first | (cases h; done) | (cases h; exact ⟨rfl, fun w => by simp_all⟩)
theorem sx_e_last {ls : sx_L} {pc : Nat} {st : List Value} {F : sx_F} (h : sx_last ls pc st [] = some F) : F.2.2.2 = [] ∧ ∀ w, sx_last ls pc st w = some (F.1, F.2.1, F.2.2.1, w) := by
  simp only [sx_last, List.getElem?_nil, Bool.cond_eq_ite] at h ⊢
  (repeat' split at h) <;> first | (cases h; done) | (cases h; exact ⟨rfl, fun w => by simp_all⟩)
theorem sx_e_aast {ls : sx_L} {pc : Nat} {st : List Value} {F : sx_F} (h : sx_aast ls pc st [] = some F) : F.2.2.2 = [] ∧ ∀ w, sx_aast ls pc st w = some (F.1, F.2.1, F.2.2.1, w) := by
  simp only [sx_aast, List.getElem?_nil, Bool.cond_eq_ite] at h ⊢
  (repeat' split at h) <;> first | (cases h; done) | (cases h; exact ⟨rfl, fun w => by simp_all⟩)
theorem sx_e_acp {o idx : Nat} {ls : sx_L} {pc : Nat} {st : List Value} {F : sx_F} (h : sx_acp o idx ls pc st [] = some F) : F.2.2.2 = [] ∧ ∀ w, sx_acp o idx ls pc st w = some (F.1, F.2.1, F.2.2.1, w) := by
  simp only [sx_acp, List.getElem?_nil, Bool.cond_eq_ite] at h ⊢
  (repeat' split at h) <;> first | (cases h; done) | (cases h; exact ⟨rfl, fun w => by simp_all⟩)
theorem sx_e_str {o : Nat} {idx : Nat} {ls : sx_L} {pc : Nat} {st : List Value} {F : sx_F} (h : sx_str o idx ls pc st [] = some F) : F.2.2.2 = [] ∧ ∀ w, sx_str o idx ls pc st w = some (F.1, F.2.1, F.2.2.1, w) := by
  simp only [sx_str, List.getElem?_nil, Bool.cond_eq_ite] at h ⊢
  (repeat' split at h) <;> first | (cases h; done) | (cases h; exact ⟨rfl, fun w => by simp_all⟩)
set_option maxHeartbeats 4000000 in
theorem sx_e_step {md : Bool} (hm : md = false) {xs : Option (List Int32)} {mi pc n : Nat} {i : Instr} {ls : sx_L} {st : List Value} {F : sx_F} (h : sx_step md xs mi pc i n ls st [] = some F) : F.2.2.2 = [] ∧ ∀ w, sx_step md xs mi pc i n ls st w = some (F.1, F.2.1, F.2.2.1, w) := by
  unfold sx_step at h
  split at h
  · cases h; exact ⟨rfl, fun _ => rfl⟩
  · cases h; exact ⟨rfl, fun _ => rfl⟩
  · cases h; exact ⟨rfl, fun _ => rfl⟩
  · cases h; exact ⟨rfl, fun _ => rfl⟩
  · exact sx_e_kc h
  · exact sx_e_kc h
  · exact sx_e_kj h
  · exact sx_e_ldi h
  · exact sx_e_ldi h
  · exact sx_e_ldl h
  · exact sx_e_ldl h
  · exact sx_e_lda h
  · exact sx_e_lda h
  · exact sx_e_sti h
  · exact sx_e_sti h
  · exact sx_e_stl h
  · exact sx_e_stl h
  · exact sx_e_sta h
  · exact sx_e_sta h
  · exact sx_e_inc h
  · exact sx_e_ii h
  · exact sx_e_ii h
  · exact sx_e_ii h
  · exact sx_e_ii h
  · exact sx_e_ii h
  · exact sx_e_ii h
  · exact sx_e_iz h
  · exact sx_e_iz h
  · exact sx_e_i1 h
  · exact sx_e_i1 h
  · exact sx_e_i1 h
  · exact sx_e_jj h
  · exact sx_e_jj h
  · exact sx_e_jj h
  · exact sx_e_jj h
  · exact sx_e_jj h
  · exact sx_e_jj h
  · exact sx_e_ji h
  · exact sx_e_ji h
  · split at h
    · cases h; exact ⟨rfl, fun _ => rfl⟩
    · cases h
  · split at h
    · cases h; exact ⟨rfl, fun _ => rfl⟩
    · cases h
  · split at h
    · cases h; exact ⟨rfl, fun _ => rfl⟩
    · cases h
  · exact sx_e_dup h
  · exact sx_e_pop h
  · exact sx_e_dup2 h
  · exact sx_e_pop2 h
  · exact sx_e_b1 h
  · exact sx_e_b2 h
  · exact sx_e_b1 h
  · exact sx_e_b2 h
  · exact sx_e_b1 h
  · exact sx_e_b2 h
  · exact sx_e_b1 h
  · exact sx_e_b2 h
  · exact sx_e_b1 h
  · exact sx_e_b2 h
  · exact sx_e_b1 h
  · exact sx_e_b2 h
  · split at h
    · rename_i t ht
      cases h
      refine ⟨rfl, fun w => ?_⟩
      unfold sx_step
      simp only
      rw [ht]
    · cases h
  · exact sx_e_sw h
  · exact sx_e_gf h
  · exact sx_e_pf h
  · exact sx_e_gs h
  · exact sx_e_iald h
  · exact sx_e_bald h
  · exact sx_e_lald h
  · exact sx_e_aald h
  · exact sx_e_iast h
  · exact sx_e_bast h
  · exact sx_e_last h
  · exact sx_e_aast h
  · exact sx_e_len h
  · cases md with
    | false => cases h
    | true => cases hm
  · cases md with
    | false => cases h
    | true => cases hm
  · cases md with
    | false => cases h
    | true => cases hm
  · cases md with
    | false => cases h
    | true => cases hm
  · exact sx_e_obj h
  · cases md with
    | true => cases h
    | false => exact sx_e_acp h
  · exact sx_e_str h
  · cases h
noncomputable def sx_free : Nat → Nat → Nat → sx_L → List Value → Option (Option Value)
  | 0, _, _, _, _ => none
  | f + 1, mi, pc, ls, st => match sx_ins mi pc with
    | none => none
    | some (i, n) => match sx_step false none mi pc i n ls st [] with
      | some (pc2, ls2, st2, _) => sx_free f mi pc2 ls2 st2
      | none => cond (Nat.beq n 1) (sx_ret mi i st) none
theorem sx_free_ok : ∀ (f mi pc : Nat) (ls : sx_L) (st : List Value) (r : Option Value), sx_free f mi pc ls st = some r → ∀ (d : Nat) (w : List sx_C), sx_RU none d mi pc ls st w r w
  | 0, _, _, _, _, _, h, _, _ => by cases h
  | f + 1, mi, pc, ls, st, r, h, d, w => by
    unfold sx_free at h
    split at h
    · cases h
    · rename_i i n hi
      split at h
      · rename_i pc2 ls2 st2 w3 hs
        exact sx_RU.step hi ((sx_e_step rfl hs).2 w) (sx_free_ok f mi pc2 ls2 st2 r h d w)
      · cases hn : Nat.beq n 1 with
        | false => rw [hn] at h; cases h
        | true =>
          rw [hn] at h
          have e := Nat.eq_of_beq_eq_true hn
          subst e
          exact sx_RU.ret hi h
noncomputable def frI (f mi : Nat) (as : List Value) (v : Int32) : Bool := match sx_free f mi 0 (lv_args 0 as) [] with
  | some (some (.int x)) => x == v
  | _ => false
theorem frI_ok {f mi : Nat} {as : List Value} {v : Int32} (h : frI f mi as v = true) (xs : Option (List Int32)) (d : Nat) (w : List sx_C) : sx_RU xs d mi 0 (lv_args 0 as) [] w (some (.int v)) w := by
  unfold frI at h
  split at h
  · rename_i x hx
    have e : x = v := eq_of_beq h
    subst e
    have h2 := sx_free_ok f mi 0 _ [] _ hx d w
    cases xs with
    | none => exact h2
    | some ys =>
      obtain ⟨g, hg⟩ := h2
      exact ⟨g, sx_lift_run false ys g d mi 0 _ [] w _ w hg⟩
  · cases h
def tmT : List Nat := [1, 2, 4, 0, 2, 3, 5, 0, 1, 1, 2, 0, 2, 3, 5, 0, 1, 1, 2, 0, 2, 3, 3, 0]
def ldT : List Nat := [12, 8, 20, 0, 10, 6, 18, 0, 6, 4, 10, 0, 5, 3, 9, 0, 18, 12, 30, 0, 5, 3, 9, 0]
def tmV (k s : Nat) (v : Int32) : Int32 := nI (tmT.getD (4 * k + s) 0) + (if k = 3 ∨ (k = 5 ∧ ¬ s = 2) then v else 0)
def ldV (k s : Nat) : Int32 := nI (ldT.getD (4 * k + s) 0)
def prB (k : Nat) : Bool := k == 1 || k == 3 || k == 5
def fmB (k s : Nat) : Bool := !(s == 1) || prB k
def unB (k o : Nat) : Bool := match o with
  | 0 => true
  | 1 => prB k
  | 2 => k == 2 || k == 4
  | 3 => k == 3 || k == 5
  | o => k == o
theorem t34 : ∀ k, k < 6 → ∀ s, s < 4 → ∀ b, b < 2 → frI 60 34 [.int (nI k), .int (nI s), .int (nI b)] (tmV k s (nI b)) = true := by decide +kernel
theorem t36 : ∀ k, k < 6 → ∀ s, s < 4 → frI 40 36 [.int (nI k), .int (nI s)] (ldV k s) = true := by decide +kernel
theorem t31 : ∀ k, k < 6 → ∀ o, o < 6 → frI 120 31 [.int (nI k), .int (nI o)] (b01 (unB k o)) = true := by decide +kernel
theorem t145 : ∀ k, k < 6 → frI 40 145 [.int (nI k)] (b01 (prB k)) = true := by decide +kernel
theorem t148 : ∀ s, s < 4 → frI 40 148 [.int (nI s)] (if s = 0 then 1 else if s = 1 then 2 else 4) = true := by decide +kernel
theorem t163 : ∀ s, s < 4 → frI 40 163 [.int (nI s)] (if s = 0 then 12 else if s = 1 then 8 else if s = 2 then 20 else 0) = true := by decide +kernel
def abF (x : Int32) : Int32 := if x < 0 then -x else x
def apF (a b : Nat) : Int32 := abF (nI a / 8 - nI b / 8) + abF ((nI a - nI a / 8 * 8) - (nI b - nI b / 8 * 8))
def nearB (a b : Nat) : Bool := (a == b) || nbb a b
theorem near_sym : ∀ a, a < 48 → ∀ b, b < 48 → nearB a b = nearB b a := by decide +kernel
theorem ap_near : ∀ a, a < 48 → ∀ b, b < 48 → (decide (apF a b ≤ 1)) = nearB a b := by decide +kernel
end
