-- exact: takeFrom, addGallery, addDish of the class
section SXAC
variable {xs : Option (List Int32)} {d mi pc pc2 a idx p : Nat} {ls : sx_L} {r : List Value} {w w0 : List sx_C} {P : Option Value → List sx_C → Prop}
theorem sx_RP.xAS {A B : Nat} (hI : WI w) (hA : isA A) (hB : isA B) (hi : sx_ins mi pc = some (.invokestatic idx, 3)) (hq : sx_lk (sx_ac (sx_own mi)) idx = some p) (hr : Nat.ble (r.map (fun v => v.category)).sum 8 = true) (hp : pc + 3 = pc2) (kk : ∀ w2, WI w2 → Same (A + 1) w w2 → ia w2 (A + 1) = ia w (B + 1) → sx_RP xs d mi pc2 ls r w2 P) : sx_RP xs d mi pc ls (.int 48 :: .int 0 :: .ref (A + 1) :: .int 0 :: .ref (B + 1) :: r) w P := by
  have h1 := hI.1.aS hA
  have h2 := hI.1.aS hB
  refine sx_RP.acI (n := 48) hi hq hr rfl (by decide) h2.1 h1.1 h2.2 h1.2 hp (kk _ (hI.set h1.1 ?_ (cOK.st hA (fun k hk => hI.st hB hk))) Same.set (ia_set h1.1))
  show (.inl (0, List.replicate (ia w (B + 1)).length 0) : sx_C) = .inl (0, List.replicate (ia w (A + 1)).length 0)
  rw [h1.2, h2.2]
theorem sx_RP.xAD {A B : Nat} (hI : WI w) (hA : isA A) (hB : isA B) (hi : sx_ins mi pc = some (.invokestatic idx, 3)) (hq : sx_lk (sx_ac (sx_own mi)) idx = some p) (hr : Nat.ble (r.map (fun v => v.category)).sum 8 = true) (hp : pc + 3 = pc2) (kk : ∀ w2, WI w2 → Same (A + 3) w w2 → ia w2 (A + 3) = ia w (B + 3) → sx_RP xs d mi pc2 ls r w2 P) : sx_RP xs d mi pc ls (.int 9 :: .int 0 :: .ref (A + 3) :: .int 0 :: .ref (B + 3) :: r) w P := by
  have h1 := hI.1.aD hA
  have h2 := hI.1.aD hB
  refine sx_RP.acI (n := 9) hi hq hr rfl (by decide) h2.1 h1.1 h2.2 h1.2 hp (kk _ (hI.set h1.1 ?_ (cOK.di hA (fun k hk => hI.di hB hk))) Same.set (ia_set h1.1))
  show (.inl (0, List.replicate (ia w (B + 3)).length 0) : sx_C) = .inl (0, List.replicate (ia w (A + 3)).length 0)
  rw [h1.2, h2.2]
end SXAC
/-- all but the cells of a camp -/
def Out (A : Nat) (w w2 : List sx_C) : Prop := ∀ a, (a < A ∨ A + 14 ≤ a) → w2[a]? = w[a]?
theorem Out.rf {A : Nat} {w : List sx_C} : Out A w w := fun _ _ => rfl
theorem Out.st {A a : Nat} {w0 w w2 : List sx_C} (h : Out A w0 w) (hs : Same a w w2) (ha : A ≤ a ∧ a < A + 14) : Out A w0 w2 := fun b hb => (hs b (by omega)).trans (h b hb)
/-- a camp laid over another one -/
def Took (A B : Nat) (w w2 : List sx_C) : Prop := Out A w w2 ∧ ia w2 (A + 1) = ia w (B + 1) ∧ fj w2 A 1 = fj w B 1 ∧ (∀ k, k = 3 ∨ (5 ≤ k ∧ k < 11) → fi w2 A k = fi w B k) ∧ ia w2 (A + 3) = ia w (B + 3) ∧ ∀ i, i < iN (fi w B 3) → ∀ k, k < 6 → fi w2 (A + 4 + i) k = fi w (B + 4 + i) k
theorem Took.b {A B : Nat} {w w2 : List sx_C} (h : Took A B w w2) : campB w2 A = campB w B := by
  obtain ⟨-, -, -, h3, h4, h5⟩ := h
  unfold campB
  rw [h3 3 (by omega), h3 5 (by omega), h3 8 (by omega), h3 9 (by omega), h3 10 (by omega), h4]
  exact mkB_congr rfl (fun i hi => h5 i hi 0 (by decide)) rfl (fun _ _ => rfl) rfl rfl rfl
theorem fj_same {w w2 : List sx_C} {a : Nat} (k : Nat) (h : w2[a]? = w[a]?) : fj w2 a k = fj w a k := by
  unfold fj fs_
  rw [h]
set_option maxRecDepth 20000 in
set_option maxHeartbeats 4000000 in
theorem X51 {xs : Option (List Int32)} {d : Nat} {w : List sx_C} (hI : WI w) {ga gb : Nat} (hg : gAd ga) (hb : gAd gb) (hne : ga ≠ gb) : sx_RP xs d 51 0 (lv_args 0 [.ref ga, .ref gb]) [] w (fun r w2 => (r = none ∧ ∀ k, k < 6 → fi w2 ga k = fi w gb k) ∧ WI w2 ∧ Same ga w w2) := by
  refine sx_RP.step (pc2 := 1) (ls2 := [(0, .ref ga), (1, .ref gb)]) (st2 := [.ref ga]) (w3 := w) rfl rfl ?_
  refine sx_RP.step (pc2 := 2) (ls2 := [(0, .ref ga), (1, .ref gb)]) (st2 := [.ref gb, .ref ga]) (w3 := w) rfl rfl ?_
  refine sx_RP.gg (k := 0) hI hb rfl rfl (by decide) (show _ = 5 from rfl) ?_
  obtain ⟨x1, hx2, ex3⟩ : inR (fi w gb 0) 5 := hI.gk (k := 0) hb (by decide)
  rw [ex3]
  refine sx_RP.xG (k := 0) hI hg rfl rfl (by decide) rfl (inR.n (show x1 ≤ 5 by omega)) (show _ = 8 from rfl) (fun w4 hI5 hs6 hv7 hr8 => ?_)
  have ex9 := (fi_same 0 (hs6 gb (by omega))).trans ex3
  refine sx_RP.step (pc2 := 9) (ls2 := [(0, .ref ga), (1, .ref gb)]) (st2 := [.ref ga]) (w3 := w4) rfl rfl ?_
  refine sx_RP.step (pc2 := 10) (ls2 := [(0, .ref ga), (1, .ref gb)]) (st2 := [.ref gb, .ref ga]) (w3 := w4) rfl rfl ?_
  refine sx_RP.gg (k := 1) hI5 hb rfl rfl (by decide) (show _ = 13 from rfl) ?_
  obtain ⟨x10, hx11, ex12⟩ : inR (fi w4 gb 1) 1 := hI5.gk (k := 1) hb (by decide)
  rw [ex12]
  refine sx_RP.xG (k := 1) hI5 hg rfl rfl (by decide) rfl (inR.n (show x10 ≤ 1 by omega)) (show _ = 16 from rfl) (fun w13 hI14 hs15 hv16 hr17 => ?_)
  have ex18 := (fi_same 0 (hs15 gb (by omega))).trans ex9
  have ex19 := (fi_same 1 (hs15 gb (by omega))).trans ex12
  refine sx_RP.step (pc2 := 17) (ls2 := [(0, .ref ga), (1, .ref gb)]) (st2 := [.ref ga]) (w3 := w13) rfl rfl ?_
  refine sx_RP.step (pc2 := 18) (ls2 := [(0, .ref ga), (1, .ref gb)]) (st2 := [.ref gb, .ref ga]) (w3 := w13) rfl rfl ?_
  refine sx_RP.gg (k := 2) hI14 hb rfl rfl (by decide) (show _ = 21 from rfl) ?_
  obtain ⟨x20, hx21, ex22⟩ : inR (fi w13 gb 2) 47 := hI14.gk (k := 2) hb (by decide)
  rw [ex22]
  refine sx_RP.xG (k := 2) hI14 hg rfl rfl (by decide) rfl (inR.n (show x20 ≤ 47 by omega)) (show _ = 24 from rfl) (fun w23 hI24 hs25 hv26 hr27 => ?_)
  have ex28 := (fi_same 0 (hs25 gb (by omega))).trans ex18
  have ex29 := (fi_same 1 (hs25 gb (by omega))).trans ex19
  have ex30 := (fi_same 2 (hs25 gb (by omega))).trans ex22
  refine sx_RP.step (pc2 := 25) (ls2 := [(0, .ref ga), (1, .ref gb)]) (st2 := [.ref ga]) (w3 := w23) rfl rfl ?_
  refine sx_RP.step (pc2 := 26) (ls2 := [(0, .ref ga), (1, .ref gb)]) (st2 := [.ref gb, .ref ga]) (w3 := w23) rfl rfl ?_
  refine sx_RP.gg (k := 3) hI24 hb rfl rfl (by decide) (show _ = 29 from rfl) ?_
  obtain ⟨x31, hx32, ex33⟩ : inR (fi w23 gb 3) 3 := hI24.gk (k := 3) hb (by decide)
  rw [ex33]
  refine sx_RP.xG (k := 3) hI24 hg rfl rfl (by decide) rfl (inR.n (show x31 ≤ 3 by omega)) (show _ = 32 from rfl) (fun w34 hI35 hs36 hv37 hr38 => ?_)
  have ex39 := (fi_same 0 (hs36 gb (by omega))).trans ex28
  have ex40 := (fi_same 1 (hs36 gb (by omega))).trans ex29
  have ex41 := (fi_same 2 (hs36 gb (by omega))).trans ex30
  have ex42 := (fi_same 3 (hs36 gb (by omega))).trans ex33
  refine sx_RP.step (pc2 := 33) (ls2 := [(0, .ref ga), (1, .ref gb)]) (st2 := [.ref ga]) (w3 := w34) rfl rfl ?_
  refine sx_RP.step (pc2 := 34) (ls2 := [(0, .ref ga), (1, .ref gb)]) (st2 := [.ref gb, .ref ga]) (w3 := w34) rfl rfl ?_
  refine sx_RP.gg (k := 4) hI35 hb rfl rfl (by decide) (show _ = 37 from rfl) ?_
  refine sx_RP.xG (k := 4) hI35 hg rfl rfl (by decide) rfl trivial (show _ = 40 from rfl) (fun w43 hI44 hs45 hv46 hr47 => ?_)
  have ex48 := (fi_same 0 (hs45 gb (by omega))).trans ex39
  have ex49 := (fi_same 1 (hs45 gb (by omega))).trans ex40
  have ex50 := (fi_same 2 (hs45 gb (by omega))).trans ex41
  have ex51 := (fi_same 3 (hs45 gb (by omega))).trans ex42
  refine sx_RP.step (pc2 := 41) (ls2 := [(0, .ref ga), (1, .ref gb)]) (st2 := [.ref ga]) (w3 := w43) rfl rfl ?_
  refine sx_RP.step (pc2 := 42) (ls2 := [(0, .ref ga), (1, .ref gb)]) (st2 := [.ref gb, .ref ga]) (w3 := w43) rfl rfl ?_
  refine sx_RP.gg (k := 5) hI44 hb rfl rfl (by decide) (show _ = 45 from rfl) ?_
  obtain ⟨x52, hx53, ex54⟩ : inR (fi w43 gb 5) 1 := hI44.gk (k := 5) hb (by decide)
  rw [ex54]
  refine sx_RP.xG (k := 5) hI44 hg rfl rfl (by decide) rfl (inR.n (show x52 ≤ 1 by omega)) (show _ = 48 from rfl) (fun w55 hI56 hs57 hv58 hr59 => ?_)
  have ex60 := (fi_same 0 (hs57 gb (by omega))).trans ex48
  have ex61 := (fi_same 1 (hs57 gb (by omega))).trans ex49
  have ex62 := (fi_same 2 (hs57 gb (by omega))).trans ex50
  have ex63 := (fi_same 3 (hs57 gb (by omega))).trans ex51
  have ex64 := (fi_same 5 (hs57 gb (by omega))).trans ex54
  refine sx_RP.ret (r := none) rfl rfl ?_
  have e0 : fi w55 ga 0 = fi w gb 0 := (hr59 0 (by decide)).trans ((hr47 0 (by decide)).trans ((hr38 0 (by decide)).trans ((hr27 0 (by decide)).trans ((hr17 0 (by decide)).trans (hv7.trans (ex3.symm))))))
  have e1 : fi w55 ga 1 = fi w gb 1 := (hr59 1 (by decide)).trans ((hr47 1 (by decide)).trans ((hr38 1 (by decide)).trans ((hr27 1 (by decide)).trans (hv16.trans ((ex12.symm).trans ((fi_same 1 (hs6 gb (Ne.symm hne))).trans (rfl)))))))
  have e2 : fi w55 ga 2 = fi w gb 2 := (hr59 2 (by decide)).trans ((hr47 2 (by decide)).trans ((hr38 2 (by decide)).trans (hv26.trans ((ex22.symm).trans ((fi_same 2 (hs15 gb (Ne.symm hne))).trans ((fi_same 2 (hs6 gb (Ne.symm hne))).trans (rfl)))))))
  have e3 : fi w55 ga 3 = fi w gb 3 := (hr59 3 (by decide)).trans ((hr47 3 (by decide)).trans (hv37.trans ((ex33.symm).trans ((fi_same 3 (hs25 gb (Ne.symm hne))).trans ((fi_same 3 (hs15 gb (Ne.symm hne))).trans ((fi_same 3 (hs6 gb (Ne.symm hne))).trans (rfl)))))))
  have e4 : fi w55 ga 4 = fi w gb 4 := (hr59 4 (by decide)).trans (hv46.trans ((rfl).trans ((fi_same 4 (hs36 gb (Ne.symm hne))).trans ((fi_same 4 (hs25 gb (Ne.symm hne))).trans ((fi_same 4 (hs15 gb (Ne.symm hne))).trans ((fi_same 4 (hs6 gb (Ne.symm hne))).trans (rfl)))))))
  have e5 : fi w55 ga 5 = fi w gb 5 := hv58.trans ((ex54.symm).trans ((fi_same 5 (hs45 gb (Ne.symm hne))).trans ((fi_same 5 (hs36 gb (Ne.symm hne))).trans ((fi_same 5 (hs25 gb (Ne.symm hne))).trans ((fi_same 5 (hs15 gb (Ne.symm hne))).trans ((fi_same 5 (hs6 gb (Ne.symm hne))).trans (rfl)))))))
  exact ⟨⟨rfl, fun k hk => by rcases (show k = 0 ∨ k = 1 ∨ k = 2 ∨ k = 3 ∨ k = 4 ∨ k = 5 by omega) with rfl | rfl | rfl | rfl | rfl | rfl <;> assumption⟩, hI56, fun b hb => (hs57 b hb).trans ((hs45 b hb).trans ((hs36 b hb).trans ((hs25 b hb).trans ((hs15 b hb).trans ((hs6 b hb).trans (rfl))))))⟩
/-- the first part of a takeFrom -/
def TK (A B n j : Nat) (w0 w : List sx_C) : Prop := Out A w0 w ∧ ia w (A + 1) = ia w0 (B + 1) ∧ fj w A 1 = fj w0 B 1 ∧ fi w A 3 = nI n ∧ ∀ i, i < j → ∀ k, k < 6 → fi w (A + 4 + i) k = fi w0 (B + 4 + i) k
set_option maxRecDepth 20000 in
set_option maxHeartbeats 4000000 in
theorem X50e {xs : Option (List Int32)} {d n : Nat} {w w0 : List sx_C} (hI : WI w) {A B : Nat} (hA : isA A) (hB : isA B) (hAB : A + 14 ≤ B ∨ B + 14 ≤ A) (hn : fi w0 B 3 = nI n) (hn1 : n ≤ 10) (h0 : TK A B n n w0 w) : sx_RP xs (d + 1) 50 62 [(0, .ref A), (1, .ref B), (2, .int (nI n))] [] w (fun r w2 => r = none ∧ WI w2 ∧ Took A B w0 w2) := by
  refine sx_RP.step (pc2 := 63) (ls2 := [(0, .ref A), (1, .ref B), (2, .int (nI n))]) (st2 := [.ref B]) (w3 := w) rfl rfl ?_
  refine sx_RP.gref (k := 4) (b := B + 3) hI hB rfl rfl (by omega) (show _ = 66 from rfl) ?_
  refine sx_RP.step (pc2 := 67) (ls2 := [(0, .ref A), (1, .ref B), (2, .int (nI n))]) (st2 := [.int 0, .ref (B + 3)]) (w3 := w) rfl rfl ?_
  refine sx_RP.step (pc2 := 68) (ls2 := [(0, .ref A), (1, .ref B), (2, .int (nI n))]) (st2 := [.ref A, .int 0, .ref (B + 3)]) (w3 := w) rfl rfl ?_
  refine sx_RP.gref (k := 4) (b := A + 3) hI hA rfl rfl (by omega) (show _ = 71 from rfl) ?_
  refine sx_RP.step (pc2 := 72) (ls2 := [(0, .ref A), (1, .ref B), (2, .int (nI n))]) (st2 := [.int 0, .ref (A + 3), .int 0, .ref (B + 3)]) (w3 := w) rfl rfl ?_
  refine sx_RP.step (pc2 := 74) (ls2 := [(0, .ref A), (1, .ref B), (2, .int (nI n))]) (st2 := [.int 9, .int 0, .ref (A + 3), .int 0, .ref (B + 3)]) (w3 := w) rfl rfl ?_
  refine sx_RP.xAD (A := A) (B := B) hI hA hB rfl rfl rfl (show _ = 77 from rfl) (fun w1 hI2 hs3 hv4 => ?_)
  refine sx_RP.step (pc2 := 78) (ls2 := [(0, .ref A), (1, .ref B), (2, .int (nI n))]) (st2 := [.ref A]) (w3 := w1) rfl rfl ?_
  refine sx_RP.step (pc2 := 79) (ls2 := [(0, .ref A), (1, .ref B), (2, .int (nI n))]) (st2 := [.ref B, .ref A]) (w3 := w1) rfl rfl ?_
  refine sx_RP.gc (k := 5) hI2 hB rfl rfl (by omega) (show _ = 82 from rfl) ?_
  obtain ⟨x5, hx6, ex7⟩ : inR (fi w1 B 5) 9 := (hI2.c hB).2
  rw [ex7]
  refine sx_RP.xC (k := 5) hI2 hA rfl rfl (by omega) rfl (inR.n (show x5 ≤ 9 by omega)) (show _ = 85 from rfl) (fun w8 hI9 hs10 hv11 hr12 hj13 => ?_)
  have ex14 := (fi_same 5 (hs10 B (by omega))).trans ex7
  refine sx_RP.step (pc2 := 86) (ls2 := [(0, .ref A), (1, .ref B), (2, .int (nI n))]) (st2 := [.ref A]) (w3 := w8) rfl rfl ?_
  refine sx_RP.step (pc2 := 87) (ls2 := [(0, .ref A), (1, .ref B), (2, .int (nI n))]) (st2 := [.ref B, .ref A]) (w3 := w8) rfl rfl ?_
  refine sx_RP.gc (k := 6) hI9 hB rfl rfl (by omega) (show _ = 90 from rfl) ?_
  refine sx_RP.xC (k := 6) hI9 hA rfl rfl (by omega) rfl trivial (show _ = 93 from rfl) (fun w15 hI16 hs17 hv18 hr19 hj20 => ?_)
  have ex21 := (fi_same 5 (hs17 B (by omega))).trans ex14
  have ex22 := (hr19 5 (by decide)).trans hv11
  refine sx_RP.step (pc2 := 94) (ls2 := [(0, .ref A), (1, .ref B), (2, .int (nI n))]) (st2 := [.ref A]) (w3 := w15) rfl rfl ?_
  refine sx_RP.step (pc2 := 95) (ls2 := [(0, .ref A), (1, .ref B), (2, .int (nI n))]) (st2 := [.ref B, .ref A]) (w3 := w15) rfl rfl ?_
  refine sx_RP.gc (k := 7) hI16 hB rfl rfl (by omega) (show _ = 98 from rfl) ?_
  refine sx_RP.xC (k := 7) hI16 hA rfl rfl (by omega) rfl trivial (show _ = 101 from rfl) (fun w23 hI24 hs25 hv26 hr27 hj28 => ?_)
  have ex29 := (fi_same 5 (hs25 B (by omega))).trans ex21
  have ex30 := (hr27 5 (by decide)).trans ex22
  have ex31 := (hr27 6 (by decide)).trans hv18
  refine sx_RP.step (pc2 := 102) (ls2 := [(0, .ref A), (1, .ref B), (2, .int (nI n))]) (st2 := [.ref A]) (w3 := w23) rfl rfl ?_
  refine sx_RP.step (pc2 := 103) (ls2 := [(0, .ref A), (1, .ref B), (2, .int (nI n))]) (st2 := [.ref B, .ref A]) (w3 := w23) rfl rfl ?_
  refine sx_RP.gc (k := 8) hI24 hB rfl rfl (by omega) (show _ = 106 from rfl) ?_
  refine sx_RP.xC (k := 8) hI24 hA rfl rfl (by omega) rfl trivial (show _ = 109 from rfl) (fun w32 hI33 hs34 hv35 hr36 hj37 => ?_)
  have ex38 := (fi_same 5 (hs34 B (by omega))).trans ex29
  have ex39 := (hr36 5 (by decide)).trans ex30
  have ex40 := (hr36 6 (by decide)).trans ex31
  have ex41 := (hr36 7 (by decide)).trans hv26
  refine sx_RP.step (pc2 := 110) (ls2 := [(0, .ref A), (1, .ref B), (2, .int (nI n))]) (st2 := [.ref A]) (w3 := w32) rfl rfl ?_
  refine sx_RP.step (pc2 := 111) (ls2 := [(0, .ref A), (1, .ref B), (2, .int (nI n))]) (st2 := [.ref B, .ref A]) (w3 := w32) rfl rfl ?_
  refine sx_RP.gc (k := 9) hI33 hB rfl rfl (by omega) (show _ = 114 from rfl) ?_
  refine sx_RP.xC (k := 9) hI33 hA rfl rfl (by omega) rfl trivial (show _ = 117 from rfl) (fun w42 hI43 hs44 hv45 hr46 hj47 => ?_)
  have ex48 := (fi_same 5 (hs44 B (by omega))).trans ex38
  have ex49 := (hr46 5 (by decide)).trans ex39
  have ex50 := (hr46 6 (by decide)).trans ex40
  have ex51 := (hr46 7 (by decide)).trans ex41
  have ex52 := (hr46 8 (by decide)).trans hv35
  refine sx_RP.step (pc2 := 118) (ls2 := [(0, .ref A), (1, .ref B), (2, .int (nI n))]) (st2 := [.ref A]) (w3 := w42) rfl rfl ?_
  refine sx_RP.step (pc2 := 119) (ls2 := [(0, .ref A), (1, .ref B), (2, .int (nI n))]) (st2 := [.ref B, .ref A]) (w3 := w42) rfl rfl ?_
  refine sx_RP.gc (k := 10) hI43 hB rfl rfl (by omega) (show _ = 122 from rfl) ?_
  refine sx_RP.xC (k := 10) hI43 hA rfl rfl (by omega) rfl trivial (show _ = 125 from rfl) (fun w53 hI54 hs55 hv56 hr57 hj58 => ?_)
  have ex59 := (fi_same 5 (hs55 B (by omega))).trans ex48
  have ex60 := (hr57 5 (by decide)).trans ex49
  have ex61 := (hr57 6 (by decide)).trans ex50
  have ex62 := (hr57 7 (by decide)).trans ex51
  have ex63 := (hr57 8 (by decide)).trans ex52
  have ex64 := (hr57 9 (by decide)).trans hv45
  refine sx_RP.ret (r := none) rfl rfl ?_
  refine ⟨rfl, hI54, (Out.st (Out.st (Out.st (Out.st (Out.st (Out.st (Out.st h0.1 hs3 (by omega)) hs10 (by omega)) hs17 (by omega)) hs25 (by omega)) hs34 (by omega)) hs44 (by omega)) hs55 (by omega)), ((ia_of (hs55 (A + 1) (by omega))).trans ((ia_of (hs44 (A + 1) (by omega))).trans ((ia_of (hs34 (A + 1) (by omega))).trans ((ia_of (hs25 (A + 1) (by omega))).trans ((ia_of (hs17 (A + 1) (by omega))).trans ((ia_of (hs10 (A + 1) (by omega))).trans ((ia_of (hs3 (A + 1) (by omega))).trans (rfl)))))))).trans h0.2.1, ((hj58).trans ((hj47).trans ((hj37).trans ((hj28).trans ((hj20).trans ((hj13).trans ((fj_same 1 (hs3 (A) (by omega))).trans (rfl)))))))).trans h0.2.2.1, ?_, ((ia_of (hs55 (A + 3) (by omega))).trans ((ia_of (hs44 (A + 3) (by omega))).trans ((ia_of (hs34 (A + 3) (by omega))).trans ((ia_of (hs25 (A + 3) (by omega))).trans ((ia_of (hs17 (A + 3) (by omega))).trans ((ia_of (hs10 (A + 3) (by omega))).trans (rfl))))))).trans (hv4.trans (ia_of (h0.1 (B + 3) (by omega)))), ?_⟩
  · intro k hk
    rcases (show k = 3 ∨ k = 5 ∨ k = 6 ∨ k = 7 ∨ k = 8 ∨ k = 9 ∨ k = 10 by omega) with rfl | rfl | rfl | rfl | rfl | rfl | rfl
    · exact ((hr57 3 (by decide)).trans ((hr46 3 (by decide)).trans ((hr36 3 (by decide)).trans ((hr27 3 (by decide)).trans ((hr19 3 (by decide)).trans ((hr12 3 (by decide)).trans ((fi_same 3 (hs3 (A) (by omega))).trans (rfl)))))))).trans (h0.2.2.2.1.trans hn.symm)
    · exact ((hr57 5 (by decide)).trans ((hr46 5 (by decide)).trans ((hr36 5 (by decide)).trans ((hr27 5 (by decide)).trans ((hr19 5 (by decide)).trans (rfl)))))).trans (hv11.trans ((ex7.symm).trans (((fi_same 5 (hs3 (B) (by omega))).trans (rfl)).trans (fi_same 5 (h0.1 B (by omega))))))
    · exact ((hr57 6 (by decide)).trans ((hr46 6 (by decide)).trans ((hr36 6 (by decide)).trans ((hr27 6 (by decide)).trans (rfl))))).trans (hv18.trans ((rfl).trans (((fi_same 6 (hs10 (B) (by omega))).trans ((fi_same 6 (hs3 (B) (by omega))).trans (rfl))).trans (fi_same 6 (h0.1 B (by omega))))))
    · exact ((hr57 7 (by decide)).trans ((hr46 7 (by decide)).trans ((hr36 7 (by decide)).trans (rfl)))).trans (hv26.trans ((rfl).trans (((fi_same 7 (hs17 (B) (by omega))).trans ((fi_same 7 (hs10 (B) (by omega))).trans ((fi_same 7 (hs3 (B) (by omega))).trans (rfl)))).trans (fi_same 7 (h0.1 B (by omega))))))
    · exact ((hr57 8 (by decide)).trans ((hr46 8 (by decide)).trans (rfl))).trans (hv35.trans ((rfl).trans (((fi_same 8 (hs25 (B) (by omega))).trans ((fi_same 8 (hs17 (B) (by omega))).trans ((fi_same 8 (hs10 (B) (by omega))).trans ((fi_same 8 (hs3 (B) (by omega))).trans (rfl))))).trans (fi_same 8 (h0.1 B (by omega))))))
    · exact ((hr57 9 (by decide)).trans (rfl)).trans (hv45.trans ((rfl).trans (((fi_same 9 (hs34 (B) (by omega))).trans ((fi_same 9 (hs25 (B) (by omega))).trans ((fi_same 9 (hs17 (B) (by omega))).trans ((fi_same 9 (hs10 (B) (by omega))).trans ((fi_same 9 (hs3 (B) (by omega))).trans (rfl)))))).trans (fi_same 9 (h0.1 B (by omega))))))
    · exact (rfl).trans (hv56.trans ((rfl).trans (((fi_same 10 (hs44 (B) (by omega))).trans ((fi_same 10 (hs34 (B) (by omega))).trans ((fi_same 10 (hs25 (B) (by omega))).trans ((fi_same 10 (hs17 (B) (by omega))).trans ((fi_same 10 (hs10 (B) (by omega))).trans ((fi_same 10 (hs3 (B) (by omega))).trans (rfl))))))).trans (fi_same 10 (h0.1 B (by omega))))))
  · intro i hi k hk
    rw [hn, iN_n (by omega)] at hi
    exact (fi_same k (hs55 (A + 4 + i) (by omega))).trans ((fi_same k (hs44 (A + 4 + i) (by omega))).trans ((fi_same k (hs34 (A + 4 + i) (by omega))).trans ((fi_same k (hs25 (A + 4 + i) (by omega))).trans ((fi_same k (hs17 (A + 4 + i) (by omega))).trans ((fi_same k (hs10 (A + 4 + i) (by omega))).trans ((fi_same k (hs3 (A + 4 + i) (by omega))).trans (h0.2.2.2.2 i hi k hk)))))))
set_option maxRecDepth 20000 in
set_option maxHeartbeats 4000000 in
theorem X50L {xs : Option (List Int32)} {d n : Nat} {w0 : List sx_C} {A B : Nat} (hA : isA A) (hB : isA B) (hAB : A + 14 ≤ B ∨ B + 14 ≤ A) (hn : fi w0 B 3 = nI n) (hn1 : n ≤ 10) : ∀ (fz j : Nat) (w : List sx_C), j + fz = n → WI w → TK A B n j w0 w → sx_RP xs (d + 1) 50 33 [(0, .ref A), (1, .ref B), (2, .int (nI j))] [] w (fun r w2 => r = none ∧ WI w2 ∧ Took A B w0 w2)
  | 0, j, w, hj, hI, h0 => by
    obtain rfl : j = n := by omega
    refine sx_RP.step (pc2 := 34) (ls2 := [(0, .ref A), (1, .ref B), (2, .int (nI j))]) (st2 := [.int (nI j)]) (w3 := w) rfl rfl ?_
    refine sx_RP.step (pc2 := 35) (ls2 := [(0, .ref A), (1, .ref B), (2, .int (nI j))]) (st2 := [.ref A, .int (nI j)]) (w3 := w) rfl rfl ?_
    refine sx_RP.gc (k := 3) hI hA rfl rfl (by omega) (show _ = 38 from rfl) ?_
    rw [h0.2.2.2.1]
    refine sx_RP.br (p1 := 62) (l1 := [(0, .ref A), (1, .ref B), (2, .int (nI j))]) (s1 := []) (v1 := w) rfl rfl (fun _ => ?_) (fun q => absurd (nI_le (a := j) (b := j) (by omega) (by omega)) (of_decide_eq_false q))
    exact sx_RP.ls (sx_lr.cons rfl (sx_lr.cons rfl (sx_lr.cons rfl sx_lr.nil))) (X50e hI hA hB hAB hn hn1 h0)
  | fz + 1, j, w, hj, hI, h0 => by
    refine sx_RP.step (pc2 := 34) (ls2 := [(0, .ref A), (1, .ref B), (2, .int (nI j))]) (st2 := [.int (nI j)]) (w3 := w) rfl rfl ?_
    refine sx_RP.step (pc2 := 35) (ls2 := [(0, .ref A), (1, .ref B), (2, .int (nI j))]) (st2 := [.ref A, .int (nI j)]) (w3 := w) rfl rfl ?_
    refine sx_RP.gc (k := 3) hI hA rfl rfl (by omega) (show _ = 38 from rfl) ?_
    rw [h0.2.2.2.1]
    refine sx_RP.br (p2 := 41) (l2 := [(0, .ref A), (1, .ref B), (2, .int (nI j))]) (s2 := []) (v2 := w) rfl rfl (fun q => absurd (of_decide_eq_true q) (fun z => absurd ((nI_leI (a := n) (b := j) (by omega) (by omega)).mp z) (by omega))) (fun _ => ?_)
    refine sx_RP.step (pc2 := 42) (ls2 := [(0, .ref A), (1, .ref B), (2, .int (nI j))]) (st2 := [.ref A]) (w3 := w) rfl rfl ?_
    refine sx_RP.gref (k := 2) (b := A + 2) hI hA rfl rfl (by omega) (show _ = 45 from rfl) ?_
    refine sx_RP.step (pc2 := 46) (ls2 := [(0, .ref A), (1, .ref B), (2, .int (nI j))]) (st2 := [.int (nI j), .ref (A + 2)]) (w3 := w) rfl rfl ?_
    refine sx_RP.ald (v := .ref (A + 4 + j)) rfl (hI.1.aG hA) rfl (grA_at (show j < 10 by omega)) (show _ = 47 from rfl) ?_
    refine sx_RP.step (pc2 := 48) (ls2 := [(0, .ref A), (1, .ref B), (2, .int (nI j))]) (st2 := [.ref B, .ref (A + 4 + j)]) (w3 := w) rfl rfl ?_
    refine sx_RP.gref (k := 2) (b := B + 2) hI hB rfl rfl (by omega) (show _ = 51 from rfl) ?_
    refine sx_RP.step (pc2 := 52) (ls2 := [(0, .ref A), (1, .ref B), (2, .int (nI j))]) (st2 := [.int (nI j), .ref (B + 2), .ref (A + 4 + j)]) (w3 := w) rfl rfl ?_
    refine sx_RP.ald (v := .ref (B + 4 + j)) rfl (hI.1.aG hB) rfl (grA_at (show j < 10 by omega)) (show _ = 53 from rfl) ?_
    refine sx_RP.callp (as2 := [.ref (A + 4 + j), .ref (B + 4 + j)]) (rest2 := []) rfl rfl (sx_inv_v2 (mi := 50) (k := 59) (st := [.ref (B + 4 + j), .ref (A + 4 + j)]) (w := w) rfl rfl (hI.1.oG (gAd.of hA (show j < 10 by omega))) rfl rfl rfl) rfl rfl rfl (X51 hI (gAd.of hA (show j < 10 by omega)) (gAd.of hB (show j < 10 by omega)) (by omega)) (show _ = 56 from rfl) ?_
    rintro r4 w1 ⟨⟨rfl, he3⟩, hI2, hs4⟩
    show sx_RP _ _ _ _ _ [] _ _
    refine sx_RP.step (pc2 := 59) (ls2 := [(2, .int ((nI j) + 1)), (0, .ref A), (1, .ref B)]) (st2 := []) (w3 := w1) rfl rfl ?_
    rw [nI_1 j]
    refine sx_RP.step (pc2 := 33) (ls2 := [(2, .int (nI (j + 1))), (0, .ref A), (1, .ref B)]) (st2 := []) (w3 := w1) rfl rfl ?_
    refine sx_RP.ls (sx_lr.cons rfl (sx_lr.cons rfl (sx_lr.cons rfl sx_lr.nil))) (X50L hA hB hAB hn hn1 fz (j + 1) w1 (by omega) hI2 ⟨h0.1.st hs4 (by omega), (ia_of (hs4 (A + 1) (by omega))).trans h0.2.1, (fj_same 1 (hs4 A (by omega))).trans h0.2.2.1, (fi_same 3 (hs4 A (by omega))).trans h0.2.2.2.1, fun i hi k hk => ?_⟩)
    by_cases e : i = j
    · subst e
      exact (he3 k hk).trans (fi_same k (h0.1 (B + 4 + i) (by omega)))
    · exact (fi_same k (hs4 (A + 4 + i) (by omega))).trans (h0.2.2.2.2 i (by omega) k hk)
set_option maxRecDepth 20000 in
set_option maxHeartbeats 4000000 in
theorem X50 {xs : Option (List Int32)} {d : Nat} {w : List sx_C} (hI : WI w) {A B : Nat} (hA : isA A) (hB : isA B) (hAB : A + 14 ≤ B ∨ B + 14 ≤ A) : sx_RP xs (d + 1) 50 0 (lv_args 0 [.ref A, .ref B]) [] w (fun r w2 => r = none ∧ WI w2 ∧ Took A B w w2) := by
  obtain ⟨n, hn1, hn⟩ := (hI.c hB).1
  refine sx_RP.step (pc2 := 1) (ls2 := [(0, .ref A), (1, .ref B)]) (st2 := [.ref B]) (w3 := w) rfl rfl ?_
  refine sx_RP.gref (k := 0) (b := B + 1) hI hB rfl rfl (by omega) (show _ = 4 from rfl) ?_
  refine sx_RP.step (pc2 := 5) (ls2 := [(0, .ref A), (1, .ref B)]) (st2 := [.int 0, .ref (B + 1)]) (w3 := w) rfl rfl ?_
  refine sx_RP.step (pc2 := 6) (ls2 := [(0, .ref A), (1, .ref B)]) (st2 := [.ref A, .int 0, .ref (B + 1)]) (w3 := w) rfl rfl ?_
  refine sx_RP.gref (k := 0) (b := A + 1) hI hA rfl rfl (by omega) (show _ = 9 from rfl) ?_
  refine sx_RP.step (pc2 := 10) (ls2 := [(0, .ref A), (1, .ref B)]) (st2 := [.int 0, .ref (A + 1), .int 0, .ref (B + 1)]) (w3 := w) rfl rfl ?_
  refine sx_RP.step (pc2 := 12) (ls2 := [(0, .ref A), (1, .ref B)]) (st2 := [.int 48, .int 0, .ref (A + 1), .int 0, .ref (B + 1)]) (w3 := w) rfl rfl ?_
  refine sx_RP.xAS (A := A) (B := B) hI hA hB rfl rfl rfl (show _ = 15 from rfl) (fun w1 hI2 hs3 hv4 => ?_)
  have ex5 := (fi_same 3 (hs3 B (by omega))).trans hn
  refine sx_RP.step (pc2 := 16) (ls2 := [(0, .ref A), (1, .ref B)]) (st2 := [.ref A]) (w3 := w1) rfl rfl ?_
  refine sx_RP.step (pc2 := 17) (ls2 := [(0, .ref A), (1, .ref B)]) (st2 := [.ref B, .ref A]) (w3 := w1) rfl rfl ?_
  refine sx_RP.gw hI2 hB rfl rfl (show _ = 20 from rfl) ?_
  refine sx_RP.xW hI2 hA rfl rfl rfl (show _ = 23 from rfl) (fun w6 hI7 hs8 hv9 hr10 => ?_)
  have ex11 := (fi_same 3 (hs8 B (by omega))).trans ex5
  refine sx_RP.step (pc2 := 24) (ls2 := [(0, .ref A), (1, .ref B)]) (st2 := [.ref A]) (w3 := w6) rfl rfl ?_
  refine sx_RP.step (pc2 := 25) (ls2 := [(0, .ref A), (1, .ref B)]) (st2 := [.ref B, .ref A]) (w3 := w6) rfl rfl ?_
  refine sx_RP.gc (k := 3) hI7 hB rfl rfl (by omega) (show _ = 28 from rfl) ?_
  rw [ex11]
  refine sx_RP.xC (k := 3) hI7 hA rfl rfl (by omega) rfl (inR.n (show n ≤ 10 by omega)) (show _ = 31 from rfl) (fun w12 hI13 hs14 hv15 hr16 hj17 => ?_)
  have ex18 := (fi_same 3 (hs14 B (by omega))).trans ex11
  refine sx_RP.step (pc2 := 32) (ls2 := [(0, .ref A), (1, .ref B)]) (st2 := [.int 0]) (w3 := w12) rfl rfl ?_
  refine sx_RP.step (pc2 := 33) (ls2 := [(2, .int 0), (0, .ref A), (1, .ref B)]) (st2 := []) (w3 := w12) rfl rfl ?_
  exact sx_RP.ls (sx_lr.cons rfl (sx_lr.cons rfl (sx_lr.cons rfl sx_lr.nil))) (X50L hA hB hAB hn hn1 n 0 w12 (by omega) hI13 ⟨(Out.st (Out.st (Out.st Out.rf hs3 (by omega)) hs8 (by omega)) hs14 (by omega)), ((ia_of (hs14 (A + 1) (by omega))).trans ((ia_of (hs8 (A + 1) (by omega))).trans (rfl))).trans hv4, ((hj17).trans (rfl)).trans (hv9.trans (fj_same 1 (hs3 B (by omega)))), hv15, fun i hi => absurd hi (by omega)⟩)
set_option maxRecDepth 20000 in
set_option maxHeartbeats 4000000 in
theorem X25 {xs : Option (List Int32)} {d : Nat} {w : List sx_C} (hI : WI w) {A : Nat} (hA : isA A) {n k s c y : Nat} (hn : n ≤ 9) (en : fi w A 3 = nI n) (hk : k ≤ 5) (hs : s ≤ 1) (hc : c < 48) (hy : y ≤ 3) : sx_RP xs d 25 0 (lv_args 0 [.ref A, .int (nI k), .int (nI s), .int (nI c), .int (nI y)]) [] w (fun r w2 => (r = some (.int (nI n)) ∧ campB w2 A = addK (nI k) (campB w A)) ∧ WI w2 ∧ Out A w w2) := by
  refine sx_RP.step (pc2 := 1) (ls2 := [(0, .ref A), (1, .int (nI k)), (2, .int (nI s)), (3, .int (nI c)), (4, .int (nI y))]) (st2 := [.ref A]) (w3 := w) rfl rfl ?_
  refine sx_RP.gref (k := 2) (b := A + 2) hI hA rfl rfl (by omega) (show _ = 4 from rfl) ?_
  refine sx_RP.step (pc2 := 5) (ls2 := [(0, .ref A), (1, .int (nI k)), (2, .int (nI s)), (3, .int (nI c)), (4, .int (nI y))]) (st2 := [.ref A, .ref (A + 2)]) (w3 := w) rfl rfl ?_
  refine sx_RP.gc (k := 3) hI hA rfl rfl (by omega) (show _ = 8 from rfl) ?_
  rw [en]
  refine sx_RP.ald (v := .ref (A + 4 + n)) rfl (hI.1.aG hA) rfl (grA_at (show n < 10 by omega)) (show _ = 9 from rfl) ?_
  refine sx_RP.step (pc2 := 11) (ls2 := [(5, .ref (A + 4 + n)), (0, .ref A), (1, .int (nI k)), (2, .int (nI s)), (3, .int (nI c)), (4, .int (nI y))]) (st2 := []) (w3 := w) rfl rfl ?_
  refine sx_RP.step (pc2 := 13) (ls2 := [(5, .ref (A + 4 + n)), (0, .ref A), (1, .int (nI k)), (2, .int (nI s)), (3, .int (nI c)), (4, .int (nI y))]) (st2 := [.ref (A + 4 + n)]) (w3 := w) rfl rfl ?_
  refine sx_RP.step (pc2 := 14) (ls2 := [(5, .ref (A + 4 + n)), (0, .ref A), (1, .int (nI k)), (2, .int (nI s)), (3, .int (nI c)), (4, .int (nI y))]) (st2 := [.int (nI k), .ref (A + 4 + n)]) (w3 := w) rfl rfl ?_
  refine sx_RP.xG (k := 0) hI (gAd.of hA (show n < 10 by omega)) rfl rfl (by decide) rfl (inR.n (show k ≤ 5 by omega)) (show _ = 17 from rfl) (fun w1 hI2 hs3 hv4 hr5 => ?_)
  have ex6 := (fi_same 3 (hs3 A (by omega))).trans en
  refine sx_RP.step (pc2 := 19) (ls2 := [(5, .ref (A + 4 + n)), (0, .ref A), (1, .int (nI k)), (2, .int (nI s)), (3, .int (nI c)), (4, .int (nI y))]) (st2 := [.ref (A + 4 + n)]) (w3 := w1) rfl rfl ?_
  refine sx_RP.step (pc2 := 20) (ls2 := [(5, .ref (A + 4 + n)), (0, .ref A), (1, .int (nI k)), (2, .int (nI s)), (3, .int (nI c)), (4, .int (nI y))]) (st2 := [.int (nI s), .ref (A + 4 + n)]) (w3 := w1) rfl rfl ?_
  refine sx_RP.xG (k := 1) hI2 (gAd.of hA (show n < 10 by omega)) rfl rfl (by decide) rfl (inR.n (show s ≤ 1 by omega)) (show _ = 23 from rfl) (fun w7 hI8 hs9 hv10 hr11 => ?_)
  have ex12 := (fi_same 3 (hs9 A (by omega))).trans ex6
  refine sx_RP.step (pc2 := 25) (ls2 := [(5, .ref (A + 4 + n)), (0, .ref A), (1, .int (nI k)), (2, .int (nI s)), (3, .int (nI c)), (4, .int (nI y))]) (st2 := [.ref (A + 4 + n)]) (w3 := w7) rfl rfl ?_
  refine sx_RP.step (pc2 := 26) (ls2 := [(5, .ref (A + 4 + n)), (0, .ref A), (1, .int (nI k)), (2, .int (nI s)), (3, .int (nI c)), (4, .int (nI y))]) (st2 := [.int (nI c), .ref (A + 4 + n)]) (w3 := w7) rfl rfl ?_
  refine sx_RP.xG (k := 2) hI8 (gAd.of hA (show n < 10 by omega)) rfl rfl (by decide) rfl (inR.n (show c ≤ 47 by omega)) (show _ = 29 from rfl) (fun w13 hI14 hs15 hv16 hr17 => ?_)
  have ex18 := (fi_same 3 (hs15 A (by omega))).trans ex12
  refine sx_RP.step (pc2 := 31) (ls2 := [(5, .ref (A + 4 + n)), (0, .ref A), (1, .int (nI k)), (2, .int (nI s)), (3, .int (nI c)), (4, .int (nI y))]) (st2 := [.ref (A + 4 + n)]) (w3 := w13) rfl rfl ?_
  refine sx_RP.step (pc2 := 33) (ls2 := [(5, .ref (A + 4 + n)), (0, .ref A), (1, .int (nI k)), (2, .int (nI s)), (3, .int (nI c)), (4, .int (nI y))]) (st2 := [.int (nI y), .ref (A + 4 + n)]) (w3 := w13) rfl rfl ?_
  refine sx_RP.xG (k := 3) hI14 (gAd.of hA (show n < 10 by omega)) rfl rfl (by decide) rfl (inR.n (show y ≤ 3 by omega)) (show _ = 36 from rfl) (fun w19 hI20 hs21 hv22 hr23 => ?_)
  have ex24 := (fi_same 3 (hs21 A (by omega))).trans ex18
  refine sx_RP.step (pc2 := 38) (ls2 := [(5, .ref (A + 4 + n)), (0, .ref A), (1, .int (nI k)), (2, .int (nI s)), (3, .int (nI c)), (4, .int (nI y))]) (st2 := [.ref (A + 4 + n)]) (w3 := w19) rfl rfl ?_
  refine sx_RP.step (pc2 := 39) (ls2 := [(5, .ref (A + 4 + n)), (0, .ref A), (1, .int (nI k)), (2, .int (nI s)), (3, .int (nI c)), (4, .int (nI y))]) (st2 := [.int 0, .ref (A + 4 + n)]) (w3 := w19) rfl rfl ?_
  refine sx_RP.xG (k := 4) hI20 (gAd.of hA (show n < 10 by omega)) rfl rfl (by decide) rfl trivial (show _ = 42 from rfl) (fun w25 hI26 hs27 hv28 hr29 => ?_)
  have ex30 := (fi_same 3 (hs27 A (by omega))).trans ex24
  refine sx_RP.step (pc2 := 44) (ls2 := [(5, .ref (A + 4 + n)), (0, .ref A), (1, .int (nI k)), (2, .int (nI s)), (3, .int (nI c)), (4, .int (nI y))]) (st2 := [.ref (A + 4 + n)]) (w3 := w25) rfl rfl ?_
  refine sx_RP.step (pc2 := 45) (ls2 := [(5, .ref (A + 4 + n)), (0, .ref A), (1, .int (nI k)), (2, .int (nI s)), (3, .int (nI c)), (4, .int (nI y))]) (st2 := [.int 0, .ref (A + 4 + n)]) (w3 := w25) rfl rfl ?_
  refine sx_RP.xG (k := 5) hI26 (gAd.of hA (show n < 10 by omega)) rfl rfl (by decide) rfl (show inR 0 1 from ⟨0, by decide, rfl⟩) (show _ = 48 from rfl) (fun w31 hI32 hs33 hv34 hr35 => ?_)
  have ex36 := (fi_same 3 (hs33 A (by omega))).trans ex30
  refine sx_RP.step (pc2 := 49) (ls2 := [(5, .ref (A + 4 + n)), (0, .ref A), (1, .int (nI k)), (2, .int (nI s)), (3, .int (nI c)), (4, .int (nI y))]) (st2 := [.ref A]) (w3 := w31) rfl rfl ?_
  refine sx_RP.step (pc2 := 50) (ls2 := [(5, .ref (A + 4 + n)), (0, .ref A), (1, .int (nI k)), (2, .int (nI s)), (3, .int (nI c)), (4, .int (nI y))]) (st2 := [.ref A, .ref A]) (w3 := w31) rfl rfl ?_
  refine sx_RP.gc (k := 3) hI32 hA rfl rfl (by omega) (show _ = 53 from rfl) ?_
  rw [ex36]
  refine sx_RP.step (pc2 := 54) (ls2 := [(5, .ref (A + 4 + n)), (0, .ref A), (1, .int (nI k)), (2, .int (nI s)), (3, .int (nI c)), (4, .int (nI y))]) (st2 := [.int 1, .int (nI n), .ref A]) (w3 := w31) rfl rfl ?_
  refine sx_RP.step (pc2 := 55) (ls2 := [(5, .ref (A + 4 + n)), (0, .ref A), (1, .int (nI k)), (2, .int (nI s)), (3, .int (nI c)), (4, .int (nI y))]) (st2 := [.int ((nI n) + 1), .ref A]) (w3 := w31) rfl rfl ?_
  rw [show ((nI n) + 1 : Int32) = nI (n + 1) from nI_add n 1]
  refine sx_RP.xC (k := 3) hI32 hA rfl rfl (by omega) rfl (inR.n (show (n + 1) ≤ 10 by omega)) (show _ = 58 from rfl) (fun w37 hI38 hs39 hv40 hr41 hj42 => ?_)
  refine sx_RP.step (pc2 := 59) (ls2 := [(5, .ref (A + 4 + n)), (0, .ref A), (1, .int (nI k)), (2, .int (nI s)), (3, .int (nI c)), (4, .int (nI y))]) (st2 := [.ref A]) (w3 := w37) rfl rfl ?_
  refine sx_RP.gc (k := 3) hI38 hA rfl rfl (by omega) (show _ = 62 from rfl) ?_
  rw [hv40]
  refine sx_RP.step (pc2 := 63) (ls2 := [(5, .ref (A + 4 + n)), (0, .ref A), (1, .int (nI k)), (2, .int (nI s)), (3, .int (nI c)), (4, .int (nI y))]) (st2 := [.int 1, .int (nI (n + 1))]) (w3 := w37) rfl rfl ?_
  refine sx_RP.step (pc2 := 64) (ls2 := [(5, .ref (A + 4 + n)), (0, .ref A), (1, .int (nI k)), (2, .int (nI s)), (3, .int (nI c)), (4, .int (nI y))]) (st2 := [.int ((nI (n + 1)) - 1)]) (w3 := w37) rfl rfl ?_
  rw [show ((nI (n + 1)) - 1 : Int32) = nI ((n + 1) - 1) from nI_sub (a := (n + 1)) (b := 1) (by omega)]
  refine sx_RP.ret (r := (some (.int (nI ((n + 1) - 1))))) rfl rfl ?_
  have f5 : fi w37 A 5 = fi w A 5 := (hr41 5 (by decide)).trans ((fi_same 5 (hs33 (A) (by omega))).trans ((fi_same 5 (hs27 (A) (by omega))).trans ((fi_same 5 (hs21 (A) (by omega))).trans ((fi_same 5 (hs15 (A) (by omega))).trans ((fi_same 5 (hs9 (A) (by omega))).trans ((fi_same 5 (hs3 (A) (by omega))).trans (rfl)))))))
  have f8 : fi w37 A 8 = fi w A 8 := (hr41 8 (by decide)).trans ((fi_same 8 (hs33 (A) (by omega))).trans ((fi_same 8 (hs27 (A) (by omega))).trans ((fi_same 8 (hs21 (A) (by omega))).trans ((fi_same 8 (hs15 (A) (by omega))).trans ((fi_same 8 (hs9 (A) (by omega))).trans ((fi_same 8 (hs3 (A) (by omega))).trans (rfl)))))))
  have f9 : fi w37 A 9 = fi w A 9 := (hr41 9 (by decide)).trans ((fi_same 9 (hs33 (A) (by omega))).trans ((fi_same 9 (hs27 (A) (by omega))).trans ((fi_same 9 (hs21 (A) (by omega))).trans ((fi_same 9 (hs15 (A) (by omega))).trans ((fi_same 9 (hs9 (A) (by omega))).trans ((fi_same 9 (hs3 (A) (by omega))).trans (rfl)))))))
  have f10 : fi w37 A 10 = fi w A 10 := (hr41 10 (by decide)).trans ((fi_same 10 (hs33 (A) (by omega))).trans ((fi_same 10 (hs27 (A) (by omega))).trans ((fi_same 10 (hs21 (A) (by omega))).trans ((fi_same 10 (hs15 (A) (by omega))).trans ((fi_same 10 (hs9 (A) (by omega))).trans ((fi_same 10 (hs3 (A) (by omega))).trans (rfl)))))))
  have i3 : ia w37 (A + 3) = ia w (A + 3) := (ia_of (hs39 (A + 3) (by omega))).trans ((ia_of (hs33 (A + 3) (by omega))).trans ((ia_of (hs27 (A + 3) (by omega))).trans ((ia_of (hs21 (A + 3) (by omega))).trans ((ia_of (hs15 (A + 3) (by omega))).trans ((ia_of (hs9 (A + 3) (by omega))).trans ((ia_of (hs3 (A + 3) (by omega))).trans (rfl)))))))
  have m3 : fi w37 A 3 = nI (n + 1) := hv40
  refine ⟨⟨by rw [Nat.add_sub_cancel], ?_⟩, hI38, (Out.st (Out.st (Out.st (Out.st (Out.st (Out.st (Out.st Out.rf hs3 (by omega)) hs9 (by omega)) hs15 (by omega)) hs21 (by omega)) hs27 (by omega)) hs33 (by omega)) hs39 (by omega))⟩
  unfold campB
  rw [m3, en, iN_n (by omega), iN_n (by omega), f5, f8, f9, f10, i3]
  exact mkB_addK (fun i hi => (fi_same 0 (hs39 (A + 4 + i) (by omega))).trans ((fi_same 0 (hs33 (A + 4 + i) (by omega))).trans ((fi_same 0 (hs27 (A + 4 + i) (by omega))).trans ((fi_same 0 (hs21 (A + 4 + i) (by omega))).trans ((fi_same 0 (hs15 (A + 4 + i) (by omega))).trans ((fi_same 0 (hs9 (A + 4 + i) (by omega))).trans ((fi_same 0 (hs3 (A + 4 + i) (by omega))).trans (rfl)))))))) (((fi_same 0 (hs39 (A + 4 + n) (by omega))).trans ((hr35 0 (by decide)).trans ((hr29 0 (by decide)).trans ((hr23 0 (by decide)).trans ((hr17 0 (by decide)).trans ((hr11 0 (by decide)).trans (rfl))))))).trans hv4) (fun _ _ => rfl)
set_option maxRecDepth 20000 in
set_option maxHeartbeats 4000000 in
theorem X64 {xs : Option (List Int32)} {d : Nat} {w : List sx_C} (hI : WI w) {A : Nat} (hA : isA A) {n c : Nat} (hn : n ≤ 8) (en : fi w A 5 = nI n) (hc : c < 48) : sx_RP xs d 64 0 (lv_args 0 [.ref A, .int (nI c)]) [] w (fun r w2 => (r = some (.int (nI n)) ∧ campB w2 A = addD (nI c) (campB w A)) ∧ WI w2 ∧ Out A w w2) := by
  refine sx_RP.step (pc2 := 1) (ls2 := [(0, .ref A), (1, .int (nI c))]) (st2 := [.ref A]) (w3 := w) rfl rfl ?_
  refine sx_RP.gref (k := 4) (b := A + 3) hI hA rfl rfl (by omega) (show _ = 4 from rfl) ?_
  refine sx_RP.step (pc2 := 5) (ls2 := [(0, .ref A), (1, .int (nI c))]) (st2 := [.ref A, .ref (A + 3)]) (w3 := w) rfl rfl ?_
  refine sx_RP.gc (k := 5) hI hA rfl rfl (by omega) (show _ = 8 from rfl) ?_
  rw [en]
  refine sx_RP.step (pc2 := 9) (ls2 := [(0, .ref A), (1, .int (nI c))]) (st2 := [.int (nI c), .int (nI n), .ref (A + 3)]) (w3 := w) rfl rfl ?_
  refine sx_RP.xD (A := A) (c := n) hI hA rfl (show n < 9 by omega) (inR.n (show c ≤ 47 by omega)) (show _ = 10 from rfl) (fun w1 hI2 hs3 hv4 => ?_)
  have ex5 := (fi_same 5 (hs3 A (by omega))).trans en
  refine sx_RP.step (pc2 := 11) (ls2 := [(0, .ref A), (1, .int (nI c))]) (st2 := [.ref A]) (w3 := w1) rfl rfl ?_
  refine sx_RP.step (pc2 := 12) (ls2 := [(0, .ref A), (1, .int (nI c))]) (st2 := [.ref A, .ref A]) (w3 := w1) rfl rfl ?_
  refine sx_RP.gc (k := 5) hI2 hA rfl rfl (by omega) (show _ = 15 from rfl) ?_
  rw [ex5]
  refine sx_RP.step (pc2 := 16) (ls2 := [(0, .ref A), (1, .int (nI c))]) (st2 := [.int 1, .int (nI n), .ref A]) (w3 := w1) rfl rfl ?_
  refine sx_RP.step (pc2 := 17) (ls2 := [(0, .ref A), (1, .int (nI c))]) (st2 := [.int ((nI n) + 1), .ref A]) (w3 := w1) rfl rfl ?_
  rw [show ((nI n) + 1 : Int32) = nI (n + 1) from nI_add n 1]
  refine sx_RP.xC (k := 5) hI2 hA rfl rfl (by omega) rfl (inR.n (show (n + 1) ≤ 9 by omega)) (show _ = 20 from rfl) (fun w6 hI7 hs8 hv9 hr10 hj11 => ?_)
  refine sx_RP.step (pc2 := 21) (ls2 := [(0, .ref A), (1, .int (nI c))]) (st2 := [.ref A]) (w3 := w6) rfl rfl ?_
  refine sx_RP.gc (k := 5) hI7 hA rfl rfl (by omega) (show _ = 24 from rfl) ?_
  rw [hv9]
  refine sx_RP.step (pc2 := 25) (ls2 := [(0, .ref A), (1, .int (nI c))]) (st2 := [.int 1, .int (nI (n + 1))]) (w3 := w6) rfl rfl ?_
  refine sx_RP.step (pc2 := 26) (ls2 := [(0, .ref A), (1, .int (nI c))]) (st2 := [.int ((nI (n + 1)) - 1)]) (w3 := w6) rfl rfl ?_
  rw [show ((nI (n + 1)) - 1 : Int32) = nI ((n + 1) - 1) from nI_sub (a := (n + 1)) (b := 1) (by omega)]
  refine sx_RP.ret (r := (some (.int (nI ((n + 1) - 1))))) rfl rfl ?_
  have f3 : fi w6 A 3 = fi w A 3 := (hr10 3 (by decide)).trans ((fi_same 3 (hs3 (A) (by omega))).trans (rfl))
  have f8 : fi w6 A 8 = fi w A 8 := (hr10 8 (by decide)).trans ((fi_same 8 (hs3 (A) (by omega))).trans (rfl))
  have f9 : fi w6 A 9 = fi w A 9 := (hr10 9 (by decide)).trans ((fi_same 9 (hs3 (A) (by omega))).trans (rfl))
  have f10 : fi w6 A 10 = fi w A 10 := (hr10 10 (by decide)).trans ((fi_same 10 (hs3 (A) (by omega))).trans (rfl))
  have m5 : fi w6 A 5 = nI (n + 1) := hv9
  have i3 : ia w6 (A + 3) = (ia w (A + 3)).set n (nI c) := ((ia_of (hs8 (A + 3) (by omega))).trans (rfl)).trans hv4
  refine ⟨⟨by rw [Nat.add_sub_cancel], ?_⟩, hI7, (Out.st (Out.st Out.rf hs3 (by omega)) hs8 (by omega))⟩
  have hl := (hI.1.aD hA).2
  unfold campB
  rw [m5, en, iN_n (by omega), iN_n (by omega), f3, f8, f9, f10, i3]
  have hm := hI.many hA
  exact mkB_addD (fun i hi => (fi_same 0 (hs8 (A + 4 + i) (by omega))).trans ((fi_same 0 (hs3 (A + 4 + i) (by omega))).trans (rfl))) (fun i hi => by rw [gd_set (by omega), if_neg (by omega)]) (by rw [gd_set (by omega), if_pos rfl])
