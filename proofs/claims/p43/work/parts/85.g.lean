-- 85.exC.lean.txt
section
section SXAC
variable {xs : Option (List Int32)} {d mi pc pc2 a idx p : Nat} {ls : sx_L} {r : List Value} {w w0 : List sx_C} {P : Option Value → List sx_C → Prop}
theorem sx_RP.xAS {A B : Nat} (hI : WI w) (hA : isA A) (hB : isA B) (hi : sx_ins mi pc = some (.invokestatic idx, 3)) (hq : sx_lk (sx_ac (sx_own mi)) idx = some p) (hr : Nat.ble (r.map (fun v => v.category)).sum 8 = true) (hp : pc + 3 = pc2) (kk : ∀ w2, WI w2 → Same (A + 1) w w2 → ia w2 (A + 1) = ia w (B + 1) → sx_RP xs d mi pc2 ls r w2 P) : sx_RP xs d mi pc ls (.int 48 :: .int 0 :: .ref (A + 1) :: .int 0 :: .ref (B + 1) :: r) w P := by
  have h1 := hI.1.aS hA
  have h2 := hI.1.aS hB
  refine sx_RP.acI (n := 48) hi hq hr rfl (by decide) h2.1 h1.1 h2.2 h1.2 hp (kk _ (hI.set h1.1 ?_ (cOK.st hA (fun k hk => hI.st hB hk))) Same.set (ia_set h1.1))
  show (.inl (0, List.replicate (ia w (B + 1)).length 0) : sx_C) = .inl (0, List.replicate (ia w (A + 1)).length 0)
  rw [h1.2, h2.2]
theorem sx_RP.xAD {A B : Nat} (hI : WI w) (hA : isA A) (hB : isA B) (hi : sx_ins mi pc = some (.invokestatic idx, 3)) (hq : sx_lk (sx_ac (sx_own mi)) idx = some p) (hr : Nat.ble (r.map (fun v => v.category)).sum 8 = true) (hp : pc + 3 = pc2) (kk : ∀ w2, WI w2 → Same (A + 3) w w2 → ia w2 (A + 3) = ia w (B + 3) → sx_RP xs d mi pc2 ls r w2 P) : sx_RP xs d mi pc ls (.int 9 :: .int 0 :: .ref (A + 3) :: .int 0 :: .ref (B + 3) :: r) w P := by
  have h1 := hI.1.aD hA
  have h2 := hI.1.aD hB
  refine sx_RP.acI (n := 9) hi hq hr rfl (by decide) h2.1 h1.1 h2.2 h1.2 hp (kk _ (hI.set h1.1 ?_ (cOK.di hA (fun k hk => hI.di hB hk))) Same.set (ia_set h1.1))
  show (.inl (0, List.replicate (ia w (B + 3)).length 0) : sx_C) = .inl (0, List.replicate (ia w (A + 3)).length 0)
  rw [h1.2, h2.2]
end SXAC
def Out (A : Nat) (w w2 : List sx_C) : Prop := ∀ a, (a < A ∨ A + 14 ≤ a) → w2[a]? = w[a]?
theorem Out.rf {A : Nat} {w : List sx_C} : Out A w w := fun _ _ => rfl
theorem Out.st {A a : Nat} {w0 w w2 : List sx_C} (h : Out A w0 w) (hs : Same a w w2) (ha : A ≤ a ∧ a < A + 14) : Out A w0 w2 := fun b hb => (hs b (by omega)).trans (h b hb)
def Took (A B : Nat) (w w2 : List sx_C) : Prop := Out A w w2 ∧ ia w2 (A + 1) = ia w (B + 1) ∧ fj w2 A 1 = fj w B 1 ∧ (∀ k, k = 3 ∨ (5 ≤ k ∧ k < 11) → fi w2 A k = fi w B k) ∧ ia w2 (A + 3) = ia w (B + 3) ∧ ∀ i, i < iN (fi w B 3) → ∀ k, k < 6 → fi w2 (A + 4 + i) k = fi w (B + 4 + i) k
theorem Took.b {A B : Nat} {w w2 : List sx_C} (h : Took A B w w2) : campB w2 A = campB w B := by
  obtain ⟨-, -, -, h3, h4, h5⟩ := h
  unfold campB
  rw [h3 3 (by omega), h3 5 (by omega), h3 8 (by omega), h3 9 (by omega), h3 10 (by omega), h4]
  exact mkB_congr rfl (fun i hi => h5 i hi 0 (by decide)) rfl (fun _ _ => rfl) rfl rfl rfl
theorem fj_same {w w2 : List sx_C} {a : Nat} (k : Nat) (h : w2[a]? = w[a]?) : fj w2 a k = fj w a k := by
  unfold fj fs_
  rw [h]
set_option maxRecDepth 20000 in
set_option maxHeartbeats 4000000 in
theorem X51 {xs : Option (List Int32)} {d : Nat} {w : List sx_C} (hI : WI w) {ga gb : Nat} (hg : gAd ga) (hb : gAd gb) (hne : ga ≠ gb) : sx_RP xs d 51 0 (lv_args 0 [.ref ga, .ref gb]) [] w (fun r w2 => (r = none ∧ ∀ k, k < 6 → fi w2 ga k = fi w gb k) ∧ WI w2 ∧ Same ga w w2) := by
  refine sx_RP.step (pc2 := 1) (ls2 := [(0, .ref ga), (1, .ref gb)]) (st2 := [.ref ga]) (w3 := w) rfl rfl ?_
  refine sx_RP.step (pc2 := 2) (ls2 := [(0, .ref ga), (1, .ref gb)]) (st2 := [.ref gb, .ref ga]) (w3 := w) rfl rfl ?_
  refine sx_RP.gg (k := 0) hI hb rfl rfl (by decide) (show _ = 5 from rfl) ?_
  obtain ⟨x1, hx2, ex3⟩ : inR (fi w gb 0) 5 := hI.gk (k := 0) hb (by decide)
  rw [ex3]
  refine sx_RP.xG (k := 0) hI hg rfl rfl (by decide) rfl (inR.n (show x1 ≤ 5 by omega)) (show _ = 8 from rfl) (fun w4 hI5 hs6 hv7 hr8 => ?_)
  have ex9 := (fi_same 0 (hs6 gb (by omega))).trans ex3
  refine sx_RP.step (pc2 := 9) (ls2 := [(0, .ref ga), (1, .ref gb)]) (st2 := [.ref ga]) (w3 := w4) rfl rfl ?_
  refine sx_RP.step (pc2 := 10) (ls2 := [(0, .ref ga), (1, .ref gb)]) (st2 := [.ref gb, .ref ga]) (w3 := w4) rfl rfl ?_
  refine sx_RP.gg (k := 1) hI5 hb rfl rfl (by decide) (show _ = 13 from rfl) ?_
  obtain ⟨x10, hx11, ex12⟩ : inR (fi w4 gb 1) 1 := hI5.gk (k := 1) hb (by decide)
  rw [ex12]
  refine sx_RP.xG (k := 1) hI5 hg rfl rfl (by decide) rfl (inR.n (show x10 ≤ 1 by omega)) (show _ = 16 from rfl) (fun w13 hI14 hs15 hv16 hr17 => ?_)
  have ex18 := (fi_same 0 (hs15 gb (by omega))).trans ex9
  have ex19 := (fi_same 1 (hs15 gb (by omega))).trans ex12
  refine sx_RP.step (pc2 := 17) (ls2 := [(0, .ref ga), (1, .ref gb)]) (st2 := [.ref ga]) (w3 := w13) rfl rfl ?_
  refine sx_RP.step (pc2 := 18) (ls2 := [(0, .ref ga), (1, .ref gb)]) (st2 := [.ref gb, .ref ga]) (w3 := w13) rfl rfl ?_
  refine sx_RP.gg (k := 2) hI14 hb rfl rfl (by decide) (show _ = 21 from rfl) ?_
  obtain ⟨x20, hx21, ex22⟩ : inR (fi w13 gb 2) 47 := hI14.gk (k := 2) hb (by decide)
  rw [ex22]
  refine sx_RP.xG (k := 2) hI14 hg rfl rfl (by decide) rfl (inR.n (show x20 ≤ 47 by omega)) (show _ = 24 from rfl) (fun w23 hI24 hs25 hv26 hr27 => ?_)
  have ex28 := (fi_same 0 (hs25 gb (by omega))).trans ex18
  have ex29 := (fi_same 1 (hs25 gb (by omega))).trans ex19
  have ex30 := (fi_same 2 (hs25 gb (by omega))).trans ex22
  refine sx_RP.step (pc2 := 25) (ls2 := [(0, .ref ga), (1, .ref gb)]) (st2 := [.ref ga]) (w3 := w23) rfl rfl ?_
  refine sx_RP.step (pc2 := 26) (ls2 := [(0, .ref ga), (1, .ref gb)]) (st2 := [.ref gb, .ref ga]) (w3 := w23) rfl rfl ?_
  refine sx_RP.gg (k := 3) hI24 hb rfl rfl (by decide) (show _ = 29 from rfl) ?_
  obtain ⟨x31, hx32, ex33⟩ : inR (fi w23 gb 3) 3 := hI24.gk (k := 3) hb (by decide)
  rw [ex33]
  refine sx_RP.xG (k := 3) hI24 hg rfl rfl (by decide) rfl (inR.n (show x31 ≤ 3 by omega)) (show _ = 32 from rfl) (fun w34 hI35 hs36 hv37 hr38 => ?_)
  have ex39 := (fi_same 0 (hs36 gb (by omega))).trans ex28
  have ex40 := (fi_same 1 (hs36 gb (by omega))).trans ex29
  have ex41 := (fi_same 2 (hs36 gb (by omega))).trans ex30
  have ex42 := (fi_same 3 (hs36 gb (by omega))).trans ex33
  refine sx_RP.step (pc2 := 33) (ls2 := [(0, .ref ga), (1, .ref gb)]) (st2 := [.ref ga]) (w3 := w34) rfl rfl ?_
  refine sx_RP.step (pc2 := 34) (ls2 := [(0, .ref ga), (1, .ref gb)]) (st2 := [.ref gb, .ref ga]) (w3 := w34) rfl rfl ?_
  refine sx_RP.gg (k := 4) hI35 hb rfl rfl (by decide) (show _ = 37 from rfl) ?_
  refine sx_RP.xG (k := 4) hI35 hg rfl rfl (by decide) rfl trivial (show _ = 40 from rfl) (fun w43 hI44 hs45 hv46 hr47 => ?_)
  have ex48 := (fi_same 0 (hs45 gb (by omega))).trans ex39
  have ex49 := (fi_same 1 (hs45 gb (by omega))).trans ex40
  have ex50 := (fi_same 2 (hs45 gb (by omega))).trans ex41
  have ex51 := (fi_same 3 (hs45 gb (by omega))).trans ex42
  refine sx_RP.step (pc2 := 41) (ls2 := [(0, .ref ga), (1, .ref gb)]) (st2 := [.ref ga]) (w3 := w43) rfl rfl ?_
  refine sx_RP.step (pc2 := 42) (ls2 := [(0, .ref ga), (1, .ref gb)]) (st2 := [.ref gb, .ref ga]) (w3 := w43) rfl rfl ?_
  refine sx_RP.gg (k := 5) hI44 hb rfl rfl (by decide) (show _ = 45 from rfl) ?_
  obtain ⟨x52, hx53, ex54⟩ : inR (fi w43 gb 5) 1 := hI44.gk (k := 5) hb (by decide)
  rw [ex54]
  refine sx_RP.xG (k := 5) hI44 hg rfl rfl (by decide) rfl (inR.n (show x52 ≤ 1 by omega)) (show _ = 48 from rfl) (fun w55 hI56 hs57 hv58 hr59 => ?_)
  have ex60 := (fi_same 0 (hs57 gb (by omega))).trans ex48
  have ex61 := (fi_same 1 (hs57 gb (by omega))).trans ex49
  have ex62 := (fi_same 2 (hs57 gb (by omega))).trans ex50
  have ex63 := (fi_same 3 (hs57 gb (by omega))).trans ex51
  have ex64 := (fi_same 5 (hs57 gb (by omega))).trans ex54
  refine sx_RP.ret (r := none) rfl rfl ?_
  have e0 : fi w55 ga 0 = fi w gb 0 := (hr59 0 (by decide)).trans ((hr47 0 (by decide)).trans ((hr38 0 (by decide)).trans ((hr27 0 (by decide)).trans ((hr17 0 (by decide)).trans (hv7.trans (ex3.symm))))))
  have e1 : fi w55 ga 1 = fi w gb 1 := (hr59 1 (by decide)).trans ((hr47 1 (by decide)).trans ((hr38 1 (by decide)).trans ((hr27 1 (by decide)).trans (hv16.trans ((ex12.symm).trans ((fi_same 1 (hs6 gb (Ne.symm hne))).trans (rfl)))))))
  have e2 : fi w55 ga 2 = fi w gb 2 := (hr59 2 (by decide)).trans ((hr47 2 (by decide)).trans ((hr38 2 (by decide)).trans (hv26.trans ((ex22.symm).trans ((fi_same 2 (hs15 gb (Ne.symm hne))).trans ((fi_same 2 (hs6 gb (Ne.symm hne))).trans (rfl)))))))
  have e3 : fi w55 ga 3 = fi w gb 3 := (hr59 3 (by decide)).trans ((hr47 3 (by decide)).trans (hv37.trans ((ex33.symm).trans ((fi_same 3 (hs25 gb (Ne.symm hne))).trans ((fi_same 3 (hs15 gb (Ne.symm hne))).trans ((fi_same 3 (hs6 gb (Ne.symm hne))).trans (rfl)))))))
  have e4 : fi w55 ga 4 = fi w gb 4 := (hr59 4 (by decide)).trans (hv46.trans ((rfl).trans ((fi_same 4 (hs36 gb (Ne.symm hne))).trans ((fi_same 4 (hs25 gb (Ne.symm hne))).trans ((fi_same 4 (hs15 gb (Ne.symm hne))).trans ((fi_same 4 (hs6 gb (Ne.symm hne))).trans (rfl)))))))
  have e5 : fi w55 ga 5 = fi w gb 5 := hv58.trans ((ex54.symm).trans ((fi_same 5 (hs45 gb (Ne.symm hne))).trans ((fi_same 5 (hs36 gb (Ne.symm hne))).trans ((fi_same 5 (hs25 gb (Ne.symm hne))).trans ((fi_same 5 (hs15 gb (Ne.symm hne))).trans ((fi_same 5 (hs6 gb (Ne.symm hne))).trans (rfl)))))))
  exact ⟨⟨rfl, fun k hk => by rcases (show k = 0 ∨ k = 1 ∨ k = 2 ∨ k = 3 ∨ k = 4 ∨ k = 5 by omega) with rfl | rfl | rfl | rfl | rfl | rfl <;> assumption⟩, hI56, fun b hb => (hs57 b hb).trans ((hs45 b hb).trans ((hs36 b hb).trans ((hs25 b hb).trans ((hs15 b hb).trans ((hs6 b hb).trans (rfl))))))⟩
def TK (A B n j : Nat) (w0 w : List sx_C) : Prop := Out A w0 w ∧ ia w (A + 1) = ia w0 (B + 1) ∧ fj w A 1 = fj w0 B 1 ∧ fi w A 3 = nI n ∧ ∀ i, i < j → ∀ k, k < 6 → fi w (A + 4 + i) k = fi w0 (B + 4 + i) k
set_option maxRecDepth 20000 in
set_option maxHeartbeats 4000000 in
theorem X50e {xs : Option (List Int32)} {d n : Nat} {w w0 : List sx_C} (hI : WI w) {A B : Nat} (hA : isA A) (hB : isA B) (hAB : A + 14 ≤ B ∨ B + 14 ≤ A) (hn : fi w0 B 3 = nI n) (hn1 : n ≤ 10) (h0 : TK A B n n w0 w) : sx_RP xs (d + 1) 50 62 [(0, .ref A), (1, .ref B), (2, .int (nI n))] [] w (fun r w2 => r = none ∧ WI w2 ∧ Took A B w0 w2) := by
  refine sx_RP.step (pc2 := 63) (ls2 := [(0, .ref A), (1, .ref B), (2, .int (nI n))]) (st2 := [.ref B]) (w3 := w) rfl rfl ?_
  refine sx_RP.gref (k := 4) (b := B + 3) hI hB rfl rfl (by omega) (show _ = 66 from rfl) ?_
  refine sx_RP.step (pc2 := 67) (ls2 := [(0, .ref A), (1, .ref B), (2, .int (nI n))]) (st2 := [.int 0, .ref (B + 3)]) (w3 := w) rfl rfl ?_
  refine sx_RP.step (pc2 := 68) (ls2 := [(0, .ref A), (1, .ref B), (2, .int (nI n))]) (st2 := [.ref A, .int 0, .ref (B + 3)]) (w3 := w) rfl rfl ?_
  refine sx_RP.gref (k := 4) (b := A + 3) hI hA rfl rfl (by omega) (show _ = 71 from rfl) ?_
  refine sx_RP.step (pc2 := 72) (ls2 := [(0, .ref A), (1, .ref B), (2, .int (nI n))]) (st2 := [.int 0, .ref (A + 3), .int 0, .ref (B + 3)]) (w3 := w) rfl rfl ?_
  refine sx_RP.step (pc2 := 74) (ls2 := [(0, .ref A), (1, .ref B), (2, .int (nI n))]) (st2 := [.int 9, .int 0, .ref (A + 3), .int 0, .ref (B + 3)]) (w3 := w) rfl rfl ?_
  refine sx_RP.xAD (A := A) (B := B) hI hA hB rfl rfl rfl (show _ = 77 from rfl) (fun w1 hI2 hs3 hv4 => ?_)
  refine sx_RP.step (pc2 := 78) (ls2 := [(0, .ref A), (1, .ref B), (2, .int (nI n))]) (st2 := [.ref A]) (w3 := w1) rfl rfl ?_
  refine sx_RP.step (pc2 := 79) (ls2 := [(0, .ref A), (1, .ref B), (2, .int (nI n))]) (st2 := [.ref B, .ref A]) (w3 := w1) rfl rfl ?_
  refine sx_RP.gc (k := 5) hI2 hB rfl rfl (by omega) (show _ = 82 from rfl) ?_
  obtain ⟨x5, hx6, ex7⟩ : inR (fi w1 B 5) 9 := (hI2.c hB).2
  rw [ex7]
  refine sx_RP.xC (k := 5) hI2 hA rfl rfl (by omega) rfl (inR.n (show x5 ≤ 9 by omega)) (show _ = 85 from rfl) (fun w8 hI9 hs10 hv11 hr12 hj13 => ?_)
  have ex14 := (fi_same 5 (hs10 B (by omega))).trans ex7
  refine sx_RP.step (pc2 := 86) (ls2 := [(0, .ref A), (1, .ref B), (2, .int (nI n))]) (st2 := [.ref A]) (w3 := w8) rfl rfl ?_
  refine sx_RP.step (pc2 := 87) (ls2 := [(0, .ref A), (1, .ref B), (2, .int (nI n))]) (st2 := [.ref B, .ref A]) (w3 := w8) rfl rfl ?_
  refine sx_RP.gc (k := 6) hI9 hB rfl rfl (by omega) (show _ = 90 from rfl) ?_
  refine sx_RP.xC (k := 6) hI9 hA rfl rfl (by omega) rfl trivial (show _ = 93 from rfl) (fun w15 hI16 hs17 hv18 hr19 hj20 => ?_)
  have ex21 := (fi_same 5 (hs17 B (by omega))).trans ex14
  have ex22 := (hr19 5 (by decide)).trans hv11
  refine sx_RP.step (pc2 := 94) (ls2 := [(0, .ref A), (1, .ref B), (2, .int (nI n))]) (st2 := [.ref A]) (w3 := w15) rfl rfl ?_
  refine sx_RP.step (pc2 := 95) (ls2 := [(0, .ref A), (1, .ref B), (2, .int (nI n))]) (st2 := [.ref B, .ref A]) (w3 := w15) rfl rfl ?_
  refine sx_RP.gc (k := 7) hI16 hB rfl rfl (by omega) (show _ = 98 from rfl) ?_
  refine sx_RP.xC (k := 7) hI16 hA rfl rfl (by omega) rfl trivial (show _ = 101 from rfl) (fun w23 hI24 hs25 hv26 hr27 hj28 => ?_)
  have ex29 := (fi_same 5 (hs25 B (by omega))).trans ex21
  have ex30 := (hr27 5 (by decide)).trans ex22
  have ex31 := (hr27 6 (by decide)).trans hv18
  refine sx_RP.step (pc2 := 102) (ls2 := [(0, .ref A), (1, .ref B), (2, .int (nI n))]) (st2 := [.ref A]) (w3 := w23) rfl rfl ?_
  refine sx_RP.step (pc2 := 103) (ls2 := [(0, .ref A), (1, .ref B), (2, .int (nI n))]) (st2 := [.ref B, .ref A]) (w3 := w23) rfl rfl ?_
  refine sx_RP.gc (k := 8) hI24 hB rfl rfl (by omega) (show _ = 106 from rfl) ?_
  refine sx_RP.xC (k := 8) hI24 hA rfl rfl (by omega) rfl trivial (show _ = 109 from rfl) (fun w32 hI33 hs34 hv35 hr36 hj37 => ?_)
  have ex38 := (fi_same 5 (hs34 B (by omega))).trans ex29
  have ex39 := (hr36 5 (by decide)).trans ex30
  have ex40 := (hr36 6 (by decide)).trans ex31
  have ex41 := (hr36 7 (by decide)).trans hv26
  refine sx_RP.step (pc2 := 110) (ls2 := [(0, .ref A), (1, .ref B), (2, .int (nI n))]) (st2 := [.ref A]) (w3 := w32) rfl rfl ?_
  refine sx_RP.step (pc2 := 111) (ls2 := [(0, .ref A), (1, .ref B), (2, .int (nI n))]) (st2 := [.ref B, .ref A]) (w3 := w32) rfl rfl ?_
  refine sx_RP.gc (k := 9) hI33 hB rfl rfl (by omega) (show _ = 114 from rfl) ?_
  refine sx_RP.xC (k := 9) hI33 hA rfl rfl (by omega) rfl trivial (show _ = 117 from rfl) (fun w42 hI43 hs44 hv45 hr46 hj47 => ?_)
  have ex48 := (fi_same 5 (hs44 B (by omega))).trans ex38
  have ex49 := (hr46 5 (by decide)).trans ex39
  have ex50 := (hr46 6 (by decide)).trans ex40
  have ex51 := (hr46 7 (by decide)).trans ex41
  have ex52 := (hr46 8 (by decide)).trans hv35
  refine sx_RP.step (pc2 := 118) (ls2 := [(0, .ref A), (1, .ref B), (2, .int (nI n))]) (st2 := [.ref A]) (w3 := w42) rfl rfl ?_
  refine sx_RP.step (pc2 := 119) (ls2 := [(0, .ref A), (1, .ref B), (2, .int (nI n))]) (st2 := [.ref B, .ref A]) (w3 := w42) rfl rfl ?_
  refine sx_RP.gc (k := 10) hI43 hB rfl rfl (by omega) (show _ = 122 from rfl) ?_
  refine sx_RP.xC (k := 10) hI43 hA rfl rfl (by omega) rfl trivial (show _ = 125 from rfl) (fun w53 hI54 hs55 hv56 hr57 hj58 => ?_)
  have ex59 := (fi_same 5 (hs55 B (by omega))).trans ex48
  have ex60 := (hr57 5 (by decide)).trans ex49
  have ex61 := (hr57 6 (by decide)).trans ex50
  have ex62 := (hr57 7 (by decide)).trans ex51
  have ex63 := (hr57 8 (by decide)).trans ex52
  have ex64 := (hr57 9 (by decide)).trans hv45
  refine sx_RP.ret (r := none) rfl rfl ?_
  refine ⟨rfl, hI54, (Out.st (Out.st (Out.st (Out.st (Out.st (Out.st (Out.st h0.1 hs3 (by omega)) hs10 (by omega)) hs17 (by omega)) hs25 (by omega)) hs34 (by omega)) hs44 (by omega)) hs55 (by omega)), ((ia_of (hs55 (A + 1) (by omega))).trans ((ia_of (hs44 (A + 1) (by omega))).trans ((ia_of (hs34 (A + 1) (by omega))).trans ((ia_of (hs25 (A + 1) (by omega))).trans ((ia_of (hs17 (A + 1) (by omega))).trans ((ia_of (hs10 (A + 1) (by omega))).trans ((ia_of (hs3 (A + 1) (by omega))).trans (rfl)))))))).trans h0.2.1, ((hj58).trans ((hj47).trans ((hj37).trans ((hj28).trans ((hj20).trans ((hj13).trans ((fj_same 1 (hs3 (A) (by omega))).trans (rfl)))))))).trans h0.2.2.1, ?_, ((ia_of (hs55 (A + 3) (by omega))).trans ((ia_of (hs44 (A + 3) (by omega))).trans ((ia_of (hs34 (A + 3) (by omega))).trans ((ia_of (hs25 (A + 3) (by omega))).trans ((ia_of (hs17 (A + 3) (by omega))).trans ((ia_of (hs10 (A + 3) (by omega))).trans (rfl))))))).trans (hv4.trans (ia_of (h0.1 (B + 3) (by omega)))), ?_⟩
  · intro k hk
    rcases (show k = 3 ∨ k = 5 ∨ k = 6 ∨ k = 7 ∨ k = 8 ∨ k = 9 ∨ k = 10 by omega) with rfl | rfl | rfl | rfl | rfl | rfl | rfl
    · exact ((hr57 3 (by decide)).trans ((hr46 3 (by decide)).trans ((hr36 3 (by decide)).trans ((hr27 3 (by decide)).trans ((hr19 3 (by decide)).trans ((hr12 3 (by decide)).trans ((fi_same 3 (hs3 (A) (by omega))).trans (rfl)))))))).trans (h0.2.2.2.1.trans hn.symm)
    · exact ((hr57 5 (by decide)).trans ((hr46 5 (by decide)).trans ((hr36 5 (by decide)).trans ((hr27 5 (by decide)).trans ((hr19 5 (by decide)).trans (rfl)))))).trans (hv11.trans ((ex7.symm).trans (((fi_same 5 (hs3 (B) (by omega))).trans (rfl)).trans (fi_same 5 (h0.1 B (by omega))))))
    · exact ((hr57 6 (by decide)).trans ((hr46 6 (by decide)).trans ((hr36 6 (by decide)).trans ((hr27 6 (by decide)).trans (rfl))))).trans (hv18.trans ((rfl).trans (((fi_same 6 (hs10 (B) (by omega))).trans ((fi_same 6 (hs3 (B) (by omega))).trans (rfl))).trans (fi_same 6 (h0.1 B (by omega))))))
    · exact ((hr57 7 (by decide)).trans ((hr46 7 (by decide)).trans ((hr36 7 (by decide)).trans (rfl)))).trans (hv26.trans ((rfl).trans (((fi_same 7 (hs17 (B) (by omega))).trans ((fi_same 7 (hs10 (B) (by omega))).trans ((fi_same 7 (hs3 (B) (by omega))).trans (rfl)))).trans (fi_same 7 (h0.1 B (by omega))))))
    · exact ((hr57 8 (by decide)).trans ((hr46 8 (by decide)).trans (rfl))).trans (hv35.trans ((rfl).trans (((fi_same 8 (hs25 (B) (by omega))).trans ((fi_same 8 (hs17 (B) (by omega))).trans ((fi_same 8 (hs10 (B) (by omega))).trans ((fi_same 8 (hs3 (B) (by omega))).trans (rfl))))).trans (fi_same 8 (h0.1 B (by omega))))))
    · exact ((hr57 9 (by decide)).trans (rfl)).trans (hv45.trans ((rfl).trans (((fi_same 9 (hs34 (B) (by omega))).trans ((fi_same 9 (hs25 (B) (by omega))).trans ((fi_same 9 (hs17 (B) (by omega))).trans ((fi_same 9 (hs10 (B) (by omega))).trans ((fi_same 9 (hs3 (B) (by omega))).trans (rfl)))))).trans (fi_same 9 (h0.1 B (by omega))))))
    · exact (rfl).trans (hv56.trans ((rfl).trans (((fi_same 10 (hs44 (B) (by omega))).trans ((fi_same 10 (hs34 (B) (by omega))).trans ((fi_same 10 (hs25 (B) (by omega))).trans ((fi_same 10 (hs17 (B) (by omega))).trans ((fi_same 10 (hs10 (B) (by omega))).trans ((fi_same 10 (hs3 (B) (by omega))).trans (rfl))))))).trans (fi_same 10 (h0.1 B (by omega))))))
  · intro i hi k hk
    rw [hn, iN_n (by omega)] at hi
    exact (fi_same k (hs55 (A + 4 + i) (by omega))).trans ((fi_same k (hs44 (A + 4 + i) (by omega))).trans ((fi_same k (hs34 (A + 4 + i) (by omega))).trans ((fi_same k (hs25 (A + 4 + i) (by omega))).trans ((fi_same k (hs17 (A + 4 + i) (by omega))).trans ((fi_same k (hs10 (A + 4 + i) (by omega))).trans ((fi_same k (hs3 (A + 4 + i) (by omega))).trans (h0.2.2.2.2 i hi k hk)))))))
set_option maxRecDepth 20000 in
set_option maxHeartbeats 4000000 in
theorem X50L {xs : Option (List Int32)} {d n : Nat} {w0 : List sx_C} {A B : Nat} (hA : isA A) (hB : isA B) (hAB : A + 14 ≤ B ∨ B + 14 ≤ A) (hn : fi w0 B 3 = nI n) (hn1 : n ≤ 10) : ∀ (fz j : Nat) (w : List sx_C), j + fz = n → WI w → TK A B n j w0 w → sx_RP xs (d + 1) 50 33 [(0, .ref A), (1, .ref B), (2, .int (nI j))] [] w (fun r w2 => r = none ∧ WI w2 ∧ Took A B w0 w2)
  | 0, j, w, hj, hI, h0 => by
    obtain rfl : j = n := by omega
    refine sx_RP.step (pc2 := 34) (ls2 := [(0, .ref A), (1, .ref B), (2, .int (nI j))]) (st2 := [.int (nI j)]) (w3 := w) rfl rfl ?_
    refine sx_RP.step (pc2 := 35) (ls2 := [(0, .ref A), (1, .ref B), (2, .int (nI j))]) (st2 := [.ref A, .int (nI j)]) (w3 := w) rfl rfl ?_
    refine sx_RP.gc (k := 3) hI hA rfl rfl (by omega) (show _ = 38 from rfl) ?_
    rw [h0.2.2.2.1]
    refine sx_RP.br (p1 := 62) (l1 := [(0, .ref A), (1, .ref B), (2, .int (nI j))]) (s1 := []) (v1 := w) rfl rfl (fun _ => ?_) (fun q => absurd (nI_le (a := j) (b := j) (by omega) (by omega)) (of_decide_eq_false q))
    exact sx_RP.ls (sx_lr.cons rfl (sx_lr.cons rfl (sx_lr.cons rfl sx_lr.nil))) (X50e hI hA hB hAB hn hn1 h0)
  | fz + 1, j, w, hj, hI, h0 => by
    refine sx_RP.step (pc2 := 34) (ls2 := [(0, .ref A), (1, .ref B), (2, .int (nI j))]) (st2 := [.int (nI j)]) (w3 := w) rfl rfl ?_
    refine sx_RP.step (pc2 := 35) (ls2 := [(0, .ref A), (1, .ref B), (2, .int (nI j))]) (st2 := [.ref A, .int (nI j)]) (w3 := w) rfl rfl ?_
    refine sx_RP.gc (k := 3) hI hA rfl rfl (by omega) (show _ = 38 from rfl) ?_
    rw [h0.2.2.2.1]
    refine sx_RP.br (p2 := 41) (l2 := [(0, .ref A), (1, .ref B), (2, .int (nI j))]) (s2 := []) (v2 := w) rfl rfl (fun q => absurd (of_decide_eq_true q) (fun z => absurd ((nI_leI (a := n) (b := j) (by omega) (by omega)).mp z) (by omega))) (fun _ => ?_)
    refine sx_RP.step (pc2 := 42) (ls2 := [(0, .ref A), (1, .ref B), (2, .int (nI j))]) (st2 := [.ref A]) (w3 := w) rfl rfl ?_
    refine sx_RP.gref (k := 2) (b := A + 2) hI hA rfl rfl (by omega) (show _ = 45 from rfl) ?_
    refine sx_RP.step (pc2 := 46) (ls2 := [(0, .ref A), (1, .ref B), (2, .int (nI j))]) (st2 := [.int (nI j), .ref (A + 2)]) (w3 := w) rfl rfl ?_
    refine sx_RP.ald (v := .ref (A + 4 + j)) rfl (hI.1.aG hA) rfl (grA_at (show j < 10 by omega)) (show _ = 47 from rfl) ?_
    refine sx_RP.step (pc2 := 48) (ls2 := [(0, .ref A), (1, .ref B), (2, .int (nI j))]) (st2 := [.ref B, .ref (A + 4 + j)]) (w3 := w) rfl rfl ?_
    refine sx_RP.gref (k := 2) (b := B + 2) hI hB rfl rfl (by omega) (show _ = 51 from rfl) ?_
    refine sx_RP.step (pc2 := 52) (ls2 := [(0, .ref A), (1, .ref B), (2, .int (nI j))]) (st2 := [.int (nI j), .ref (B + 2), .ref (A + 4 + j)]) (w3 := w) rfl rfl ?_
    refine sx_RP.ald (v := .ref (B + 4 + j)) rfl (hI.1.aG hB) rfl (grA_at (show j < 10 by omega)) (show _ = 53 from rfl) ?_
    refine sx_RP.callp (as2 := [.ref (A + 4 + j), .ref (B + 4 + j)]) (rest2 := []) rfl rfl (sx_inv_v2 (mi := 50) (k := 59) (st := [.ref (B + 4 + j), .ref (A + 4 + j)]) (w := w) rfl rfl (hI.1.oG (gAd.of hA (show j < 10 by omega))) rfl rfl rfl) rfl rfl rfl (X51 hI (gAd.of hA (show j < 10 by omega)) (gAd.of hB (show j < 10 by omega)) (by omega)) (show _ = 56 from rfl) ?_
    rintro r4 w1 ⟨⟨rfl, he3⟩, hI2, hs4⟩
    show sx_RP _ _ _ _ _ [] _ _
    refine sx_RP.step (pc2 := 59) (ls2 := [(2, .int ((nI j) + 1)), (0, .ref A), (1, .ref B)]) (st2 := []) (w3 := w1) rfl rfl ?_
    rw [nI_1 j]
    refine sx_RP.step (pc2 := 33) (ls2 := [(2, .int (nI (j + 1))), (0, .ref A), (1, .ref B)]) (st2 := []) (w3 := w1) rfl rfl ?_
    refine sx_RP.ls (sx_lr.cons rfl (sx_lr.cons rfl (sx_lr.cons rfl sx_lr.nil))) (X50L hA hB hAB hn hn1 fz (j + 1) w1 (by omega) hI2 ⟨h0.1.st hs4 (by omega), (ia_of (hs4 (A + 1) (by omega))).trans h0.2.1, (fj_same 1 (hs4 A (by omega))).trans h0.2.2.1, (fi_same 3 (hs4 A (by omega))).trans h0.2.2.2.1, fun i hi k hk => ?_⟩)
    by_cases e : i = j
    · subst e
      exact (he3 k hk).trans (fi_same k (h0.1 (B + 4 + i) (by omega)))
    · exact (fi_same k (hs4 (A + 4 + i) (by omega))).trans (h0.2.2.2.2 i (by omega) k hk)
set_option maxRecDepth 20000 in
set_option maxHeartbeats 4000000 in
theorem X50 {xs : Option (List Int32)} {d : Nat} {w : List sx_C} (hI : WI w) {A B : Nat} (hA : isA A) (hB : isA B) (hAB : A + 14 ≤ B ∨ B + 14 ≤ A) : sx_RP xs (d + 1) 50 0 (lv_args 0 [.ref A, .ref B]) [] w (fun r w2 => r = none ∧ WI w2 ∧ Took A B w w2) := by
  obtain ⟨n, hn1, hn⟩ := (hI.c hB).1
  refine sx_RP.step (pc2 := 1) (ls2 := [(0, .ref A), (1, .ref B)]) (st2 := [.ref B]) (w3 := w) rfl rfl ?_
  refine sx_RP.gref (k := 0) (b := B + 1) hI hB rfl rfl (by omega) (show _ = 4 from rfl) ?_
  refine sx_RP.step (pc2 := 5) (ls2 := [(0, .ref A), (1, .ref B)]) (st2 := [.int 0, .ref (B + 1)]) (w3 := w) rfl rfl ?_
  refine sx_RP.step (pc2 := 6) (ls2 := [(0, .ref A), (1, .ref B)]) (st2 := [.ref A, .int 0, .ref (B + 1)]) (w3 := w) rfl rfl ?_
  refine sx_RP.gref (k := 0) (b := A + 1) hI hA rfl rfl (by omega) (show _ = 9 from rfl) ?_
  refine sx_RP.step (pc2 := 10) (ls2 := [(0, .ref A), (1, .ref B)]) (st2 := [.int 0, .ref (A + 1), .int 0, .ref (B + 1)]) (w3 := w) rfl rfl ?_
  refine sx_RP.step (pc2 := 12) (ls2 := [(0, .ref A), (1, .ref B)]) (st2 := [.int 48, .int 0, .ref (A + 1), .int 0, .ref (B + 1)]) (w3 := w) rfl rfl ?_
  refine sx_RP.xAS (A := A) (B := B) hI hA hB rfl rfl rfl (show _ = 15 from rfl) (fun w1 hI2 hs3 hv4 => ?_)
  have ex5 := (fi_same 3 (hs3 B (by omega))).trans hn
  refine sx_RP.step (pc2 := 16) (ls2 := [(0, .ref A), (1, .ref B)]) (st2 := [.ref A]) (w3 := w1) rfl rfl ?_
  refine sx_RP.step (pc2 := 17) (ls2 := [(0, .ref A), (1, .ref B)]) (st2 := [.ref B, .ref A]) (w3 := w1) rfl rfl ?_
  refine sx_RP.gw hI2 hB rfl rfl (show _ = 20 from rfl) ?_
  refine sx_RP.xW hI2 hA rfl rfl rfl (show _ = 23 from rfl) (fun w6 hI7 hs8 hv9 hr10 => ?_)
  have ex11 := (fi_same 3 (hs8 B (by omega))).trans ex5
  refine sx_RP.step (pc2 := 24) (ls2 := [(0, .ref A), (1, .ref B)]) (st2 := [.ref A]) (w3 := w6) rfl rfl ?_
  refine sx_RP.step (pc2 := 25) (ls2 := [(0, .ref A), (1, .ref B)]) (st2 := [.ref B, .ref A]) (w3 := w6) rfl rfl ?_
  refine sx_RP.gc (k := 3) hI7 hB rfl rfl (by omega) (show _ = 28 from rfl) ?_
  rw [ex11]
  refine sx_RP.xC (k := 3) hI7 hA rfl rfl (by omega) rfl (inR.n (show n ≤ 10 by omega)) (show _ = 31 from rfl) (fun w12 hI13 hs14 hv15 hr16 hj17 => ?_)
  have ex18 := (fi_same 3 (hs14 B (by omega))).trans ex11
  refine sx_RP.step (pc2 := 32) (ls2 := [(0, .ref A), (1, .ref B)]) (st2 := [.int 0]) (w3 := w12) rfl rfl ?_
  refine sx_RP.step (pc2 := 33) (ls2 := [(2, .int 0), (0, .ref A), (1, .ref B)]) (st2 := []) (w3 := w12) rfl rfl ?_
  exact sx_RP.ls (sx_lr.cons rfl (sx_lr.cons rfl (sx_lr.cons rfl sx_lr.nil))) (X50L hA hB hAB hn hn1 n 0 w12 (by omega) hI13 ⟨(Out.st (Out.st (Out.st Out.rf hs3 (by omega)) hs8 (by omega)) hs14 (by omega)), ((ia_of (hs14 (A + 1) (by omega))).trans ((ia_of (hs8 (A + 1) (by omega))).trans (rfl))).trans hv4, ((hj17).trans (rfl)).trans (hv9.trans (fj_same 1 (hs3 B (by omega)))), hv15, fun i hi => absurd hi (by omega)⟩)
set_option maxRecDepth 20000 in
set_option maxHeartbeats 4000000 in
theorem X25 {xs : Option (List Int32)} {d : Nat} {w : List sx_C} (hI : WI w) {A : Nat} (hA : isA A) {n k s c y : Nat} (hn : n ≤ 9) (en : fi w A 3 = nI n) (hk : k ≤ 5) (hs : s ≤ 1) (hc : c < 48) (hy : y ≤ 3) : sx_RP xs d 25 0 (lv_args 0 [.ref A, .int (nI k), .int (nI s), .int (nI c), .int (nI y)]) [] w (fun r w2 => (r = some (.int (nI n)) ∧ campB w2 A = addK (nI k) (campB w A)) ∧ WI w2 ∧ Out A w w2) := by
  refine sx_RP.step (pc2 := 1) (ls2 := [(0, .ref A), (1, .int (nI k)), (2, .int (nI s)), (3, .int (nI c)), (4, .int (nI y))]) (st2 := [.ref A]) (w3 := w) rfl rfl ?_
  refine sx_RP.gref (k := 2) (b := A + 2) hI hA rfl rfl (by omega) (show _ = 4 from rfl) ?_
  refine sx_RP.step (pc2 := 5) (ls2 := [(0, .ref A), (1, .int (nI k)), (2, .int (nI s)), (3, .int (nI c)), (4, .int (nI y))]) (st2 := [.ref A, .ref (A + 2)]) (w3 := w) rfl rfl ?_
  refine sx_RP.gc (k := 3) hI hA rfl rfl (by omega) (show _ = 8 from rfl) ?_
  rw [en]
  refine sx_RP.ald (v := .ref (A + 4 + n)) rfl (hI.1.aG hA) rfl (grA_at (show n < 10 by omega)) (show _ = 9 from rfl) ?_
  refine sx_RP.step (pc2 := 11) (ls2 := [(5, .ref (A + 4 + n)), (0, .ref A), (1, .int (nI k)), (2, .int (nI s)), (3, .int (nI c)), (4, .int (nI y))]) (st2 := []) (w3 := w) rfl rfl ?_
  refine sx_RP.step (pc2 := 13) (ls2 := [(5, .ref (A + 4 + n)), (0, .ref A), (1, .int (nI k)), (2, .int (nI s)), (3, .int (nI c)), (4, .int (nI y))]) (st2 := [.ref (A + 4 + n)]) (w3 := w) rfl rfl ?_
  refine sx_RP.step (pc2 := 14) (ls2 := [(5, .ref (A + 4 + n)), (0, .ref A), (1, .int (nI k)), (2, .int (nI s)), (3, .int (nI c)), (4, .int (nI y))]) (st2 := [.int (nI k), .ref (A + 4 + n)]) (w3 := w) rfl rfl ?_
  refine sx_RP.xG (k := 0) hI (gAd.of hA (show n < 10 by omega)) rfl rfl (by decide) rfl (inR.n (show k ≤ 5 by omega)) (show _ = 17 from rfl) (fun w1 hI2 hs3 hv4 hr5 => ?_)
  have ex6 := (fi_same 3 (hs3 A (by omega))).trans en
  refine sx_RP.step (pc2 := 19) (ls2 := [(5, .ref (A + 4 + n)), (0, .ref A), (1, .int (nI k)), (2, .int (nI s)), (3, .int (nI c)), (4, .int (nI y))]) (st2 := [.ref (A + 4 + n)]) (w3 := w1) rfl rfl ?_
  refine sx_RP.step (pc2 := 20) (ls2 := [(5, .ref (A + 4 + n)), (0, .ref A), (1, .int (nI k)), (2, .int (nI s)), (3, .int (nI c)), (4, .int (nI y))]) (st2 := [.int (nI s), .ref (A + 4 + n)]) (w3 := w1) rfl rfl ?_
  refine sx_RP.xG (k := 1) hI2 (gAd.of hA (show n < 10 by omega)) rfl rfl (by decide) rfl (inR.n (show s ≤ 1 by omega)) (show _ = 23 from rfl) (fun w7 hI8 hs9 hv10 hr11 => ?_)
  have ex12 := (fi_same 3 (hs9 A (by omega))).trans ex6
  refine sx_RP.step (pc2 := 25) (ls2 := [(5, .ref (A + 4 + n)), (0, .ref A), (1, .int (nI k)), (2, .int (nI s)), (3, .int (nI c)), (4, .int (nI y))]) (st2 := [.ref (A + 4 + n)]) (w3 := w7) rfl rfl ?_
  refine sx_RP.step (pc2 := 26) (ls2 := [(5, .ref (A + 4 + n)), (0, .ref A), (1, .int (nI k)), (2, .int (nI s)), (3, .int (nI c)), (4, .int (nI y))]) (st2 := [.int (nI c), .ref (A + 4 + n)]) (w3 := w7) rfl rfl ?_
  refine sx_RP.xG (k := 2) hI8 (gAd.of hA (show n < 10 by omega)) rfl rfl (by decide) rfl (inR.n (show c ≤ 47 by omega)) (show _ = 29 from rfl) (fun w13 hI14 hs15 hv16 hr17 => ?_)
  have ex18 := (fi_same 3 (hs15 A (by omega))).trans ex12
  refine sx_RP.step (pc2 := 31) (ls2 := [(5, .ref (A + 4 + n)), (0, .ref A), (1, .int (nI k)), (2, .int (nI s)), (3, .int (nI c)), (4, .int (nI y))]) (st2 := [.ref (A + 4 + n)]) (w3 := w13) rfl rfl ?_
  refine sx_RP.step (pc2 := 33) (ls2 := [(5, .ref (A + 4 + n)), (0, .ref A), (1, .int (nI k)), (2, .int (nI s)), (3, .int (nI c)), (4, .int (nI y))]) (st2 := [.int (nI y), .ref (A + 4 + n)]) (w3 := w13) rfl rfl ?_
  refine sx_RP.xG (k := 3) hI14 (gAd.of hA (show n < 10 by omega)) rfl rfl (by decide) rfl (inR.n (show y ≤ 3 by omega)) (show _ = 36 from rfl) (fun w19 hI20 hs21 hv22 hr23 => ?_)
  have ex24 := (fi_same 3 (hs21 A (by omega))).trans ex18
  refine sx_RP.step (pc2 := 38) (ls2 := [(5, .ref (A + 4 + n)), (0, .ref A), (1, .int (nI k)), (2, .int (nI s)), (3, .int (nI c)), (4, .int (nI y))]) (st2 := [.ref (A + 4 + n)]) (w3 := w19) rfl rfl ?_
  refine sx_RP.step (pc2 := 39) (ls2 := [(5, .ref (A + 4 + n)), (0, .ref A), (1, .int (nI k)), (2, .int (nI s)), (3, .int (nI c)), (4, .int (nI y))]) (st2 := [.int 0, .ref (A + 4 + n)]) (w3 := w19) rfl rfl ?_
  refine sx_RP.xG (k := 4) hI20 (gAd.of hA (show n < 10 by omega)) rfl rfl (by decide) rfl trivial (show _ = 42 from rfl) (fun w25 hI26 hs27 hv28 hr29 => ?_)
  have ex30 := (fi_same 3 (hs27 A (by omega))).trans ex24
  refine sx_RP.step (pc2 := 44) (ls2 := [(5, .ref (A + 4 + n)), (0, .ref A), (1, .int (nI k)), (2, .int (nI s)), (3, .int (nI c)), (4, .int (nI y))]) (st2 := [.ref (A + 4 + n)]) (w3 := w25) rfl rfl ?_
  refine sx_RP.step (pc2 := 45) (ls2 := [(5, .ref (A + 4 + n)), (0, .ref A), (1, .int (nI k)), (2, .int (nI s)), (3, .int (nI c)), (4, .int (nI y))]) (st2 := [.int 0, .ref (A + 4 + n)]) (w3 := w25) rfl rfl ?_
  refine sx_RP.xG (k := 5) hI26 (gAd.of hA (show n < 10 by omega)) rfl rfl (by decide) rfl (show inR 0 1 from ⟨0, by decide, rfl⟩) (show _ = 48 from rfl) (fun w31 hI32 hs33 hv34 hr35 => ?_)
  have ex36 := (fi_same 3 (hs33 A (by omega))).trans ex30
  refine sx_RP.step (pc2 := 49) (ls2 := [(5, .ref (A + 4 + n)), (0, .ref A), (1, .int (nI k)), (2, .int (nI s)), (3, .int (nI c)), (4, .int (nI y))]) (st2 := [.ref A]) (w3 := w31) rfl rfl ?_
  refine sx_RP.step (pc2 := 50) (ls2 := [(5, .ref (A + 4 + n)), (0, .ref A), (1, .int (nI k)), (2, .int (nI s)), (3, .int (nI c)), (4, .int (nI y))]) (st2 := [.ref A, .ref A]) (w3 := w31) rfl rfl ?_
  refine sx_RP.gc (k := 3) hI32 hA rfl rfl (by omega) (show _ = 53 from rfl) ?_
  rw [ex36]
  refine sx_RP.step (pc2 := 54) (ls2 := [(5, .ref (A + 4 + n)), (0, .ref A), (1, .int (nI k)), (2, .int (nI s)), (3, .int (nI c)), (4, .int (nI y))]) (st2 := [.int 1, .int (nI n), .ref A]) (w3 := w31) rfl rfl ?_
  refine sx_RP.step (pc2 := 55) (ls2 := [(5, .ref (A + 4 + n)), (0, .ref A), (1, .int (nI k)), (2, .int (nI s)), (3, .int (nI c)), (4, .int (nI y))]) (st2 := [.int ((nI n) + 1), .ref A]) (w3 := w31) rfl rfl ?_
  rw [show ((nI n) + 1 : Int32) = nI (n + 1) from nI_add n 1]
  refine sx_RP.xC (k := 3) hI32 hA rfl rfl (by omega) rfl (inR.n (show (n + 1) ≤ 10 by omega)) (show _ = 58 from rfl) (fun w37 hI38 hs39 hv40 hr41 hj42 => ?_)
  refine sx_RP.step (pc2 := 59) (ls2 := [(5, .ref (A + 4 + n)), (0, .ref A), (1, .int (nI k)), (2, .int (nI s)), (3, .int (nI c)), (4, .int (nI y))]) (st2 := [.ref A]) (w3 := w37) rfl rfl ?_
  refine sx_RP.gc (k := 3) hI38 hA rfl rfl (by omega) (show _ = 62 from rfl) ?_
  rw [hv40]
  refine sx_RP.step (pc2 := 63) (ls2 := [(5, .ref (A + 4 + n)), (0, .ref A), (1, .int (nI k)), (2, .int (nI s)), (3, .int (nI c)), (4, .int (nI y))]) (st2 := [.int 1, .int (nI (n + 1))]) (w3 := w37) rfl rfl ?_
  refine sx_RP.step (pc2 := 64) (ls2 := [(5, .ref (A + 4 + n)), (0, .ref A), (1, .int (nI k)), (2, .int (nI s)), (3, .int (nI c)), (4, .int (nI y))]) (st2 := [.int ((nI (n + 1)) - 1)]) (w3 := w37) rfl rfl ?_
  rw [show ((nI (n + 1)) - 1 : Int32) = nI ((n + 1) - 1) from nI_sub (a := (n + 1)) (b := 1) (by omega)]
  refine sx_RP.ret (r := (some (.int (nI ((n + 1) - 1))))) rfl rfl ?_
  have f5 : fi w37 A 5 = fi w A 5 := (hr41 5 (by decide)).trans ((fi_same 5 (hs33 (A) (by omega))).trans ((fi_same 5 (hs27 (A) (by omega))).trans ((fi_same 5 (hs21 (A) (by omega))).trans ((fi_same 5 (hs15 (A) (by omega))).trans ((fi_same 5 (hs9 (A) (by omega))).trans ((fi_same 5 (hs3 (A) (by omega))).trans (rfl)))))))
  have f8 : fi w37 A 8 = fi w A 8 := (hr41 8 (by decide)).trans ((fi_same 8 (hs33 (A) (by omega))).trans ((fi_same 8 (hs27 (A) (by omega))).trans ((fi_same 8 (hs21 (A) (by omega))).trans ((fi_same 8 (hs15 (A) (by omega))).trans ((fi_same 8 (hs9 (A) (by omega))).trans ((fi_same 8 (hs3 (A) (by omega))).trans (rfl)))))))
  have f9 : fi w37 A 9 = fi w A 9 := (hr41 9 (by decide)).trans ((fi_same 9 (hs33 (A) (by omega))).trans ((fi_same 9 (hs27 (A) (by omega))).trans ((fi_same 9 (hs21 (A) (by omega))).trans ((fi_same 9 (hs15 (A) (by omega))).trans ((fi_same 9 (hs9 (A) (by omega))).trans ((fi_same 9 (hs3 (A) (by omega))).trans (rfl)))))))
  have f10 : fi w37 A 10 = fi w A 10 := (hr41 10 (by decide)).trans ((fi_same 10 (hs33 (A) (by omega))).trans ((fi_same 10 (hs27 (A) (by omega))).trans ((fi_same 10 (hs21 (A) (by omega))).trans ((fi_same 10 (hs15 (A) (by omega))).trans ((fi_same 10 (hs9 (A) (by omega))).trans ((fi_same 10 (hs3 (A) (by omega))).trans (rfl)))))))
  have i3 : ia w37 (A + 3) = ia w (A + 3) := (ia_of (hs39 (A + 3) (by omega))).trans ((ia_of (hs33 (A + 3) (by omega))).trans ((ia_of (hs27 (A + 3) (by omega))).trans ((ia_of (hs21 (A + 3) (by omega))).trans ((ia_of (hs15 (A + 3) (by omega))).trans ((ia_of (hs9 (A + 3) (by omega))).trans ((ia_of (hs3 (A + 3) (by omega))).trans (rfl)))))))
  have m3 : fi w37 A 3 = nI (n + 1) := hv40
  refine ⟨⟨by rw [Nat.add_sub_cancel], ?_⟩, hI38, (Out.st (Out.st (Out.st (Out.st (Out.st (Out.st (Out.st Out.rf hs3 (by omega)) hs9 (by omega)) hs15 (by omega)) hs21 (by omega)) hs27 (by omega)) hs33 (by omega)) hs39 (by omega))⟩
  unfold campB
  rw [m3, en, iN_n (by omega), iN_n (by omega), f5, f8, f9, f10, i3]
  exact mkB_addK (fun i hi => (fi_same 0 (hs39 (A + 4 + i) (by omega))).trans ((fi_same 0 (hs33 (A + 4 + i) (by omega))).trans ((fi_same 0 (hs27 (A + 4 + i) (by omega))).trans ((fi_same 0 (hs21 (A + 4 + i) (by omega))).trans ((fi_same 0 (hs15 (A + 4 + i) (by omega))).trans ((fi_same 0 (hs9 (A + 4 + i) (by omega))).trans ((fi_same 0 (hs3 (A + 4 + i) (by omega))).trans (rfl)))))))) (((fi_same 0 (hs39 (A + 4 + n) (by omega))).trans ((hr35 0 (by decide)).trans ((hr29 0 (by decide)).trans ((hr23 0 (by decide)).trans ((hr17 0 (by decide)).trans ((hr11 0 (by decide)).trans (rfl))))))).trans hv4) (fun _ _ => rfl)
set_option maxRecDepth 20000 in
set_option maxHeartbeats 4000000 in
theorem X64 {xs : Option (List Int32)} {d : Nat} {w : List sx_C} (hI : WI w) {A : Nat} (hA : isA A) {n c : Nat} (hn : n ≤ 8) (en : fi w A 5 = nI n) (hc : c < 48) : sx_RP xs d 64 0 (lv_args 0 [.ref A, .int (nI c)]) [] w (fun r w2 => (r = some (.int (nI n)) ∧ campB w2 A = addD (nI c) (campB w A)) ∧ WI w2 ∧ Out A w w2) := by
  refine sx_RP.step (pc2 := 1) (ls2 := [(0, .ref A), (1, .int (nI c))]) (st2 := [.ref A]) (w3 := w) rfl rfl ?_
  refine sx_RP.gref (k := 4) (b := A + 3) hI hA rfl rfl (by omega) (show _ = 4 from rfl) ?_
  refine sx_RP.step (pc2 := 5) (ls2 := [(0, .ref A), (1, .int (nI c))]) (st2 := [.ref A, .ref (A + 3)]) (w3 := w) rfl rfl ?_
  refine sx_RP.gc (k := 5) hI hA rfl rfl (by omega) (show _ = 8 from rfl) ?_
  rw [en]
  refine sx_RP.step (pc2 := 9) (ls2 := [(0, .ref A), (1, .int (nI c))]) (st2 := [.int (nI c), .int (nI n), .ref (A + 3)]) (w3 := w) rfl rfl ?_
  refine sx_RP.xD (A := A) (c := n) hI hA rfl (show n < 9 by omega) (inR.n (show c ≤ 47 by omega)) (show _ = 10 from rfl) (fun w1 hI2 hs3 hv4 => ?_)
  have ex5 := (fi_same 5 (hs3 A (by omega))).trans en
  refine sx_RP.step (pc2 := 11) (ls2 := [(0, .ref A), (1, .int (nI c))]) (st2 := [.ref A]) (w3 := w1) rfl rfl ?_
  refine sx_RP.step (pc2 := 12) (ls2 := [(0, .ref A), (1, .int (nI c))]) (st2 := [.ref A, .ref A]) (w3 := w1) rfl rfl ?_
  refine sx_RP.gc (k := 5) hI2 hA rfl rfl (by omega) (show _ = 15 from rfl) ?_
  rw [ex5]
  refine sx_RP.step (pc2 := 16) (ls2 := [(0, .ref A), (1, .int (nI c))]) (st2 := [.int 1, .int (nI n), .ref A]) (w3 := w1) rfl rfl ?_
  refine sx_RP.step (pc2 := 17) (ls2 := [(0, .ref A), (1, .int (nI c))]) (st2 := [.int ((nI n) + 1), .ref A]) (w3 := w1) rfl rfl ?_
  rw [show ((nI n) + 1 : Int32) = nI (n + 1) from nI_add n 1]
  refine sx_RP.xC (k := 5) hI2 hA rfl rfl (by omega) rfl (inR.n (show (n + 1) ≤ 9 by omega)) (show _ = 20 from rfl) (fun w6 hI7 hs8 hv9 hr10 hj11 => ?_)
  refine sx_RP.step (pc2 := 21) (ls2 := [(0, .ref A), (1, .int (nI c))]) (st2 := [.ref A]) (w3 := w6) rfl rfl ?_
  refine sx_RP.gc (k := 5) hI7 hA rfl rfl (by omega) (show _ = 24 from rfl) ?_
  rw [hv9]
  refine sx_RP.step (pc2 := 25) (ls2 := [(0, .ref A), (1, .int (nI c))]) (st2 := [.int 1, .int (nI (n + 1))]) (w3 := w6) rfl rfl ?_
  refine sx_RP.step (pc2 := 26) (ls2 := [(0, .ref A), (1, .int (nI c))]) (st2 := [.int ((nI (n + 1)) - 1)]) (w3 := w6) rfl rfl ?_
  rw [show ((nI (n + 1)) - 1 : Int32) = nI ((n + 1) - 1) from nI_sub (a := (n + 1)) (b := 1) (by omega)]
  refine sx_RP.ret (r := (some (.int (nI ((n + 1) - 1))))) rfl rfl ?_
  have f3 : fi w6 A 3 = fi w A 3 := (hr10 3 (by decide)).trans ((fi_same 3 (hs3 (A) (by omega))).trans (rfl))
  have f8 : fi w6 A 8 = fi w A 8 := (hr10 8 (by decide)).trans ((fi_same 8 (hs3 (A) (by omega))).trans (rfl))
  have f9 : fi w6 A 9 = fi w A 9 := (hr10 9 (by decide)).trans ((fi_same 9 (hs3 (A) (by omega))).trans (rfl))
  have f10 : fi w6 A 10 = fi w A 10 := (hr10 10 (by decide)).trans ((fi_same 10 (hs3 (A) (by omega))).trans (rfl))
  have m5 : fi w6 A 5 = nI (n + 1) := hv9
  have i3 : ia w6 (A + 3) = (ia w (A + 3)).set n (nI c) := ((ia_of (hs8 (A + 3) (by omega))).trans (rfl)).trans hv4
  refine ⟨⟨by rw [Nat.add_sub_cancel], ?_⟩, hI7, (Out.st (Out.st Out.rf hs3 (by omega)) hs8 (by omega))⟩
  have hl := (hI.1.aD hA).2
  unfold campB
  rw [m5, en, iN_n (by omega), iN_n (by omega), f3, f8, f9, f10, i3]
  have hm := hI.many hA
  exact mkB_addD (fun i hi => (fi_same 0 (hs8 (A + 4 + i) (by omega))).trans ((fi_same 0 (hs3 (A + 4 + i) (by omega))).trans (rfl))) (fun i hi => by rw [gd_set (by omega), if_neg (by omega)]) (by rw [gd_set (by omega), if_pos rfl])
end
-- 86.actC.lean.txt
section
theorem FCb_camp {w w2 : List sx_C} (hI : WI w) (hO : Out 1 w w2) : FCb w2 = (campB w2 1, (FCb w).2) := by
  unfold FCb
  rw [fi_same 3 (hO 0 (by omega)), campB_same (A := 15) (fun a h1 h2 => hO a (by omega)) (hI.many (Or.inr (Or.inl rfl))), tapC_same (hO 96 (by omega)) (hO 97 (by omega))]
theorem FCb_len {w : List sx_C} {n : Nat} (h : fi w 1 3 = nI n) (hn : n ≤ 10) : (FCb w).1.1.length = n := by
  show (campB w 1).1.length = n
  unfold campB
  rw [mkB_len1, h, iN_n (by omega)]
theorem FCb_dlen {w : List sx_C} {n : Nat} (h : fi w 1 5 = nI n) (hn : n ≤ 10) : (FCb w).1.2.1.length = n := by
  show (campB w 1).2.1.length = n
  unfold campB
  rw [mkB_len2, h, iN_n (by omega)]
def galA (t : BT) (a1 a2 a3 a4 : Int32) : Int32 := if (0 ≤ a1 ∧ a1 ≤ 5) ∧ (0 ≤ a2 ∧ a2 ≤ 1) ∧ (0 ≤ a3 ∧ a3 ≤ 47) ∧ (0 ≤ a4 ∧ a4 ≤ 3) then (if t.1.1.length < 10 then nI t.1.1.length else -1000000002) else -1000000001
def galU (t : BT) (a1 a2 a3 a4 : Int32) : BT := if (0 ≤ a1 ∧ a1 ≤ 5) ∧ (0 ≤ a2 ∧ a2 ≤ 1) ∧ (0 ≤ a3 ∧ a3 ≤ 47) ∧ (0 ≤ a4 ∧ a4 ≤ 3) then (if t.1.1.length < 10 then (addK a1 t.1, t.2) else t) else t
def becA (t : BT) (a1 a2 : Int32) : Int32 := if (0 ≤ a1 ∧ a1 < nI t.1.1.length) ∧ (0 ≤ a2 ∧ a2 ≤ 5) then t.1.1.getD (iN a1) 0 else -1000000001
def becU (t : BT) (a1 a2 : Int32) : BT := if (0 ≤ a1 ∧ a1 < nI t.1.1.length) ∧ (0 ≤ a2 ∧ a2 ≤ 5) then (setK (iN a1) a2 t.1, t.2) else t
def disA (t : BT) (a1 : Int32) : Int32 := if 0 ≤ a1 ∧ a1 ≤ 47 then (if t.1.2.1.length < 9 then nI t.1.2.1.length else -1000000002) else -1000000001
def disU (t : BT) (a1 : Int32) : BT := if 0 ≤ a1 ∧ a1 ≤ 47 then (if t.1.2.1.length < 9 then (addD a1 t.1, t.2) else t) else t
def movA (t : BT) (a1 a2 : Int32) : Int32 := if (0 ≤ a1 ∧ a1 < nI t.1.2.1.length) ∧ (0 ≤ a2 ∧ a2 ≤ 47) then t.1.2.1.getD (iN a1) 0 else -1000000001
def movU (t : BT) (a1 a2 : Int32) : BT := if (0 ≤ a1 ∧ a1 < nI t.1.2.1.length) ∧ (0 ≤ a2 ∧ a2 ≤ 47) then (setD (iN a1) a2 t.1, t.2) else t
def breA (t : BT) (a1 a2 : Int32) : Int32 := if a1 = 0 ∧ (0 ≤ a2 ∧ a2 ≤ 999999) then t.1.2.2.1 else (if a1 = 1 ∧ (1 ≤ a2 ∧ a2 ≤ 999) then t.1.2.2.2.1 else (if a1 = 2 ∧ (1 ≤ a2 ∧ a2 ≤ 99) then t.1.2.2.2.2 else -1000000001))
def breU (t : BT) (a1 a2 : Int32) : BT := if a1 = 0 ∧ (0 ≤ a2 ∧ a2 ≤ 999999) then (setO a2 t.1, t.2) else (if a1 = 1 ∧ (1 ≤ a2 ∧ a2 ≤ 999) then (setM a2 t.1, t.2) else (if a1 = 2 ∧ (1 ≤ a2 ∧ a2 ≤ 99) then (setR a2 t.1, t.2) else t))
section SXOP
variable {t : BT} {a1 a2 a3 a4 : Int32}
theorem gal_1 (h : ¬ ((0 ≤ a1 ∧ a1 ≤ 5) ∧ (0 ≤ a2 ∧ a2 ≤ 1) ∧ (0 ≤ a3 ∧ a3 ≤ 47) ∧ (0 ≤ a4 ∧ a4 ≤ 3))) : galA t a1 a2 a3 a4 = -1000000001 ∧ galU t a1 a2 a3 a4 = t := ⟨if_neg h, if_neg h⟩
theorem gal_2 (h : (0 ≤ a1 ∧ a1 ≤ 5) ∧ (0 ≤ a2 ∧ a2 ≤ 1) ∧ (0 ≤ a3 ∧ a3 ≤ 47) ∧ (0 ≤ a4 ∧ a4 ≤ 3)) (h2 : ¬ t.1.1.length < 10) : galA t a1 a2 a3 a4 = -1000000002 ∧ galU t a1 a2 a3 a4 = t := by
  unfold galA galU
  rw [if_pos h, if_pos h, if_neg h2, if_neg h2]
  exact ⟨rfl, rfl⟩
theorem gal_3 (h : (0 ≤ a1 ∧ a1 ≤ 5) ∧ (0 ≤ a2 ∧ a2 ≤ 1) ∧ (0 ≤ a3 ∧ a3 ≤ 47) ∧ (0 ≤ a4 ∧ a4 ≤ 3)) (h2 : t.1.1.length < 10) : galA t a1 a2 a3 a4 = nI t.1.1.length ∧ galU t a1 a2 a3 a4 = (addK a1 t.1, t.2) := by
  unfold galA galU
  rw [if_pos h, if_pos h, if_pos h2, if_pos h2]
  exact ⟨rfl, rfl⟩
theorem bec_1 (h : ¬ ((0 ≤ a1 ∧ a1 < nI t.1.1.length) ∧ (0 ≤ a2 ∧ a2 ≤ 5))) : becA t a1 a2 = -1000000001 ∧ becU t a1 a2 = t := ⟨if_neg h, if_neg h⟩
theorem bec_2 (h : (0 ≤ a1 ∧ a1 < nI t.1.1.length) ∧ (0 ≤ a2 ∧ a2 ≤ 5)) : becA t a1 a2 = t.1.1.getD (iN a1) 0 ∧ becU t a1 a2 = (setK (iN a1) a2 t.1, t.2) := ⟨if_pos h, if_pos h⟩
theorem dis_1 (h : ¬ (0 ≤ a1 ∧ a1 ≤ 47)) : disA t a1 = -1000000001 ∧ disU t a1 = t := ⟨if_neg h, if_neg h⟩
theorem dis_2 (h : 0 ≤ a1 ∧ a1 ≤ 47) (h2 : ¬ t.1.2.1.length < 9) : disA t a1 = -1000000002 ∧ disU t a1 = t := by
  unfold disA disU
  rw [if_pos h, if_pos h, if_neg h2, if_neg h2]
  exact ⟨rfl, rfl⟩
theorem dis_3 (h : 0 ≤ a1 ∧ a1 ≤ 47) (h2 : t.1.2.1.length < 9) : disA t a1 = nI t.1.2.1.length ∧ disU t a1 = (addD a1 t.1, t.2) := by
  unfold disA disU
  rw [if_pos h, if_pos h, if_pos h2, if_pos h2]
  exact ⟨rfl, rfl⟩
theorem mov_1 (h : ¬ ((0 ≤ a1 ∧ a1 < nI t.1.2.1.length) ∧ (0 ≤ a2 ∧ a2 ≤ 47))) : movA t a1 a2 = -1000000001 ∧ movU t a1 a2 = t := ⟨if_neg h, if_neg h⟩
theorem mov_2 (h : (0 ≤ a1 ∧ a1 < nI t.1.2.1.length) ∧ (0 ≤ a2 ∧ a2 ≤ 47)) : movA t a1 a2 = t.1.2.1.getD (iN a1) 0 ∧ movU t a1 a2 = (setD (iN a1) a2 t.1, t.2) := ⟨if_pos h, if_pos h⟩
theorem bre_0 (h : a1 = 0 ∧ (0 ≤ a2 ∧ a2 ≤ 999999)) : breA t a1 a2 = t.1.2.2.1 ∧ breU t a1 a2 = (setO a2 t.1, t.2) := ⟨if_pos h, if_pos h⟩
theorem bre_1 (h : a1 = 1 ∧ (1 ≤ a2 ∧ a2 ≤ 999)) : breA t a1 a2 = t.1.2.2.2.1 ∧ breU t a1 a2 = (setM a2 t.1, t.2) := by
  obtain ⟨rfl, h⟩ := h
  exact ⟨(if_neg (fun z => absurd z.1 (by decide))).trans (if_pos ⟨rfl, h⟩), (if_neg (fun z => absurd z.1 (by decide))).trans (if_pos ⟨rfl, h⟩)⟩
theorem bre_2 (h : a1 = 2 ∧ (1 ≤ a2 ∧ a2 ≤ 99)) : breA t a1 a2 = t.1.2.2.2.2 ∧ breU t a1 a2 = (setR a2 t.1, t.2) := by
  obtain ⟨rfl, h⟩ := h
  exact ⟨(if_neg (fun z => absurd z.1 (by decide))).trans ((if_neg (fun z => absurd z.1 (by decide))).trans (if_pos ⟨rfl, h⟩)), (if_neg (fun z => absurd z.1 (by decide))).trans ((if_neg (fun z => absurd z.1 (by decide))).trans (if_pos ⟨rfl, h⟩))⟩
theorem bre_3 (h0 : ¬ (a1 = 0 ∧ (0 ≤ a2 ∧ a2 ≤ 999999))) (h1 : ¬ (a1 = 1 ∧ (1 ≤ a2 ∧ a2 ≤ 999))) (h2 : ¬ (a1 = 2 ∧ (1 ≤ a2 ∧ a2 ≤ 99))) : breA t a1 a2 = -1000000001 ∧ breU t a1 a2 = t := ⟨(if_neg h0).trans ((if_neg h1).trans (if_neg h2)), (if_neg h0).trans ((if_neg h1).trans (if_neg h2))⟩
end SXOP
theorem idx_get {v : Int32} {n : Nat} (h : 0 ≤ v ∧ v < nI n) (hn : n ≤ 10) : ∃ x, x < n ∧ v = nI x := by
  obtain ⟨x, hx, rfl⟩ := nI_of (Int32.not_lt.mpr h.1)
  exact ⟨x, (nI_ltI hx (by omega)).mp h.2, rfl⟩
theorem campB_setK {w w2 : List sx_C} {A x n : Nat} {v : Int32} (hI : WI w) (hA : isA A) (en : fi w A 3 = nI n) (hn : n ≤ 10) (hx : x < n) (hs : Same (A + 4 + x) w w2) (hv : fi w2 (A + 4 + x) 0 = v) : campB w2 A = setK x v (campB w A) := by
  unfold campB
  rw [fi_same 3 (hs A (by omega)), fi_same 5 (hs A (by omega)), fi_same 8 (hs A (by omega)), fi_same 9 (hs A (by omega)), fi_same 10 (hs A (by omega)), ia_of (hs (A + 3) (by omega))]
  exact mkB_setK (fun i _ hne => fi_same 0 (hs _ (by omega))) (fun _ => hv) (fun _ _ => rfl)
theorem campB_setD {w w2 : List sx_C} {A x m : Nat} {v : Int32} (hI : WI w) (hA : isA A) (em : fi w A 5 = nI m) (hm : m ≤ 9) (hx : x < m) (hs : Same (A + 3) w w2) (hv : ia w2 (A + 3) = (ia w (A + 3)).set x v) : campB w2 A = setD x v (campB w A) := by
  have hl := (hI.1.aD hA).2
  unfold campB
  rw [fi_same 3 (hs A (by omega)), fi_same 5 (hs A (by omega)), fi_same 8 (hs A (by omega)), fi_same 9 (hs A (by omega)), fi_same 10 (hs A (by omega)), hv]
  exact mkB_setD (fun i _ => fi_same 0 (hs _ (by omega))) (fun i _ hne => by rw [gd_set (by omega), if_neg hne]) (fun _ => by rw [gd_set (by omega), if_pos rfl])
theorem campB_setF {w w2 : List sx_C} {A k : Nat} {v : Int32} (hs : Same A w w2) (hk : k = 8 ∨ k = 9 ∨ k = 10) (hv : fi w2 A k = v) (hr : ∀ j, j ≠ k → fi w2 A j = fi w A j) : campB w2 A = (if k = 8 then setO v (campB w A) else if k = 9 then setM v (campB w A) else setR v (campB w A)) := by
  have hkd : (fun g => fi w2 (A + 4 + g) 0) = fun g => fi w (A + 4 + g) 0 := funext fun g => fi_same 0 (hs _ (by omega))
  unfold campB
  rw [hkd, ia_of (hs (A + 3) (by omega))]
  rcases hk with rfl | rfl | rfl
  · rw [hr 3 (by decide), hr 5 (by decide), hr 9 (by decide), hr 10 (by decide), hv]
    rfl
  · rw [hr 3 (by decide), hr 5 (by decide), hr 8 (by decide), hr 10 (by decide), hv]
    rfl
  · rw [hr 3 (by decide), hr 5 (by decide), hr 8 (by decide), hr 9 (by decide), hv]
    rfl
theorem FCb_kind {w : List sx_C} {n x : Nat} (en : fi w 1 3 = nI n) (hn : n ≤ 10) (hx : x < n) : (FCb w).1.1.getD (iN (nI x)) 0 = fi w (1 + 4 + x) 0 := by
  rw [iN_n (by omega)]
  show (campB w 1).1.getD x 0 = _
  unfold campB
  exact mkB_at1 (by rw [en, iN_n (by omega)]; exact hx)
theorem FCb_dish {w : List sx_C} {m x : Nat} (em : fi w 1 5 = nI m) (hm : m ≤ 9) (hx : x < m) : (FCb w).1.2.1.getD (iN (nI x)) 0 = (ia w (1 + 3)).getD x 0 := by
  rw [iN_n (by omega)]
  show (campB w 1).2.1.getD x 0 = _
  unfold campB
  exact mkB_at2 (by rw [em, iN_n (by omega)]; exact hx)
set_option maxRecDepth 20000 in
set_option maxHeartbeats 4000000 in
theorem p24y {xs : Option (List Int32)} {d n : Nat} {w : List sx_C} (hI : WI w) {A : Nat} (hA : isA A) (en : fi w A 3 = nI n) (hn : n ≤ 10) (hh : n < 10) : sx_RU xs d 24 0 (lv_args 0 [.ref A]) [] w (some (.int 1)) w := by
  have h : sx_RP xs d 24 0 (lv_args 0 [.ref A]) [] w (fun r w2 => r = some (.int 1) ∧ w2 = w) := by
    refine sx_RP.step (pc2 := 1) (ls2 := [(0, .ref A)]) (st2 := [.ref A]) (w3 := w) rfl rfl ?_
    refine sx_RP.gc (k := 3) hI hA rfl rfl (by omega) (show _ = 4 from rfl) ?_
    rw [en]
    refine sx_RP.step (pc2 := 6) (ls2 := [(0, .ref A)]) (st2 := [.int 10, .int (nI n)]) (w3 := w) rfl rfl ?_
    refine sx_RP.br (p1 := 13) (l1 := [(0, .ref A)]) (s1 := []) (v1 := w) (p2 := 9) (l2 := [(0, .ref A)]) (s2 := []) (v2 := w) rfl rfl (fun q1 => ?_) (fun q1 => ?_)
    · replace q1 := of_decide_eq_true q1
      replace q1 := (nI_leI (a := 10) (b := n) (by omega) (by omega)).mp q1
      refine sx_RP.step (pc2 := 14) (ls2 := [(0, .ref A)]) (st2 := [.int 0]) (w3 := w) rfl rfl ?_
      refine sx_RP.ret (r := (some (.int 0))) rfl rfl ?_
      first | exact ⟨rfl, rfl⟩ | (exfalso; omega)
    · replace q1 := of_decide_eq_false q1
      replace q1 := mt (nI_leI (a := 10) (b := n) (by omega) (by omega)).mpr q1
      refine sx_RP.step (pc2 := 10) (ls2 := [(0, .ref A)]) (st2 := [.int 1]) (w3 := w) rfl rfl ?_
      refine sx_RP.step (pc2 := 14) (ls2 := [(0, .ref A)]) (st2 := [.int 1]) (w3 := w) rfl rfl ?_
      refine sx_RP.ret (r := (some (.int 1))) rfl rfl ?_
      first | exact ⟨rfl, rfl⟩ | (exfalso; omega)
  obtain ⟨r, w2, h1, rfl, rfl⟩ := h
  exact h1
set_option maxRecDepth 20000 in
set_option maxHeartbeats 4000000 in
theorem p24n {xs : Option (List Int32)} {d n : Nat} {w : List sx_C} (hI : WI w) {A : Nat} (hA : isA A) (en : fi w A 3 = nI n) (hn : n ≤ 10) (hh : ¬ n < 10) : sx_RU xs d 24 0 (lv_args 0 [.ref A]) [] w (some (.int 0)) w := by
  have h : sx_RP xs d 24 0 (lv_args 0 [.ref A]) [] w (fun r w2 => r = some (.int 0) ∧ w2 = w) := by
    refine sx_RP.step (pc2 := 1) (ls2 := [(0, .ref A)]) (st2 := [.ref A]) (w3 := w) rfl rfl ?_
    refine sx_RP.gc (k := 3) hI hA rfl rfl (by omega) (show _ = 4 from rfl) ?_
    rw [en]
    refine sx_RP.step (pc2 := 6) (ls2 := [(0, .ref A)]) (st2 := [.int 10, .int (nI n)]) (w3 := w) rfl rfl ?_
    refine sx_RP.br (p1 := 13) (l1 := [(0, .ref A)]) (s1 := []) (v1 := w) (p2 := 9) (l2 := [(0, .ref A)]) (s2 := []) (v2 := w) rfl rfl (fun q1 => ?_) (fun q1 => ?_)
    · replace q1 := of_decide_eq_true q1
      replace q1 := (nI_leI (a := 10) (b := n) (by omega) (by omega)).mp q1
      refine sx_RP.step (pc2 := 14) (ls2 := [(0, .ref A)]) (st2 := [.int 0]) (w3 := w) rfl rfl ?_
      refine sx_RP.ret (r := (some (.int 0))) rfl rfl ?_
      first | exact ⟨rfl, rfl⟩ | (exfalso; omega)
    · replace q1 := of_decide_eq_false q1
      replace q1 := mt (nI_leI (a := 10) (b := n) (by omega) (by omega)).mpr q1
      refine sx_RP.step (pc2 := 10) (ls2 := [(0, .ref A)]) (st2 := [.int 1]) (w3 := w) rfl rfl ?_
      refine sx_RP.step (pc2 := 14) (ls2 := [(0, .ref A)]) (st2 := [.int 1]) (w3 := w) rfl rfl ?_
      refine sx_RP.ret (r := (some (.int 1))) rfl rfl ?_
      first | exact ⟨rfl, rfl⟩ | (exfalso; omega)
  obtain ⟨r, w2, h1, rfl, rfl⟩ := h
  exact h1
set_option maxRecDepth 20000 in
set_option maxHeartbeats 4000000 in
theorem p63y {xs : Option (List Int32)} {d n : Nat} {w : List sx_C} (hI : WI w) {A : Nat} (hA : isA A) (en : fi w A 5 = nI n) (hn : n ≤ 9) (hh : n < 9) : sx_RU xs d 63 0 (lv_args 0 [.ref A]) [] w (some (.int 1)) w := by
  have h : sx_RP xs d 63 0 (lv_args 0 [.ref A]) [] w (fun r w2 => r = some (.int 1) ∧ w2 = w) := by
    refine sx_RP.step (pc2 := 1) (ls2 := [(0, .ref A)]) (st2 := [.ref A]) (w3 := w) rfl rfl ?_
    refine sx_RP.gc (k := 5) hI hA rfl rfl (by omega) (show _ = 4 from rfl) ?_
    rw [en]
    refine sx_RP.step (pc2 := 6) (ls2 := [(0, .ref A)]) (st2 := [.int 9, .int (nI n)]) (w3 := w) rfl rfl ?_
    refine sx_RP.br (p1 := 13) (l1 := [(0, .ref A)]) (s1 := []) (v1 := w) (p2 := 9) (l2 := [(0, .ref A)]) (s2 := []) (v2 := w) rfl rfl (fun q1 => ?_) (fun q1 => ?_)
    · replace q1 := of_decide_eq_true q1
      replace q1 := (nI_leI (a := 9) (b := n) (by omega) (by omega)).mp q1
      refine sx_RP.step (pc2 := 14) (ls2 := [(0, .ref A)]) (st2 := [.int 0]) (w3 := w) rfl rfl ?_
      refine sx_RP.ret (r := (some (.int 0))) rfl rfl ?_
      first | exact ⟨rfl, rfl⟩ | (exfalso; omega)
    · replace q1 := of_decide_eq_false q1
      replace q1 := mt (nI_leI (a := 9) (b := n) (by omega) (by omega)).mpr q1
      refine sx_RP.step (pc2 := 10) (ls2 := [(0, .ref A)]) (st2 := [.int 1]) (w3 := w) rfl rfl ?_
      refine sx_RP.step (pc2 := 14) (ls2 := [(0, .ref A)]) (st2 := [.int 1]) (w3 := w) rfl rfl ?_
      refine sx_RP.ret (r := (some (.int 1))) rfl rfl ?_
      first | exact ⟨rfl, rfl⟩ | (exfalso; omega)
  obtain ⟨r, w2, h1, rfl, rfl⟩ := h
  exact h1
set_option maxRecDepth 20000 in
set_option maxHeartbeats 4000000 in
theorem p63n {xs : Option (List Int32)} {d n : Nat} {w : List sx_C} (hI : WI w) {A : Nat} (hA : isA A) (en : fi w A 5 = nI n) (hn : n ≤ 9) (hh : ¬ n < 9) : sx_RU xs d 63 0 (lv_args 0 [.ref A]) [] w (some (.int 0)) w := by
  have h : sx_RP xs d 63 0 (lv_args 0 [.ref A]) [] w (fun r w2 => r = some (.int 0) ∧ w2 = w) := by
    refine sx_RP.step (pc2 := 1) (ls2 := [(0, .ref A)]) (st2 := [.ref A]) (w3 := w) rfl rfl ?_
    refine sx_RP.gc (k := 5) hI hA rfl rfl (by omega) (show _ = 4 from rfl) ?_
    rw [en]
    refine sx_RP.step (pc2 := 6) (ls2 := [(0, .ref A)]) (st2 := [.int 9, .int (nI n)]) (w3 := w) rfl rfl ?_
    refine sx_RP.br (p1 := 13) (l1 := [(0, .ref A)]) (s1 := []) (v1 := w) (p2 := 9) (l2 := [(0, .ref A)]) (s2 := []) (v2 := w) rfl rfl (fun q1 => ?_) (fun q1 => ?_)
    · replace q1 := of_decide_eq_true q1
      replace q1 := (nI_leI (a := 9) (b := n) (by omega) (by omega)).mp q1
      refine sx_RP.step (pc2 := 14) (ls2 := [(0, .ref A)]) (st2 := [.int 0]) (w3 := w) rfl rfl ?_
      refine sx_RP.ret (r := (some (.int 0))) rfl rfl ?_
      first | exact ⟨rfl, rfl⟩ | (exfalso; omega)
    · replace q1 := of_decide_eq_false q1
      replace q1 := mt (nI_leI (a := 9) (b := n) (by omega) (by omega)).mpr q1
      refine sx_RP.step (pc2 := 10) (ls2 := [(0, .ref A)]) (st2 := [.int 1]) (w3 := w) rfl rfl ?_
      refine sx_RP.step (pc2 := 14) (ls2 := [(0, .ref A)]) (st2 := [.int 1]) (w3 := w) rfl rfl ?_
      refine sx_RP.ret (r := (some (.int 1))) rfl rfl ?_
      first | exact ⟨rfl, rfl⟩ | (exfalso; omega)
  obtain ⟨r, w2, h1, rfl, rfl⟩ := h
  exact h1
set_option maxRecDepth 20000 in
set_option maxHeartbeats 4000000 in
theorem p27y {xs : Option (List Int32)} {d n : Nat} {w : List sx_C} (hI : WI w) {A : Nat} (hA : isA A) (en : fi w A 3 = nI n) (hn : n ≤ 10) {x : Int32} (hh : 0 ≤ x ∧ x < nI n) : sx_RU xs d 27 0 (lv_args 0 [.ref A, .int x]) [] w (some (.int 1)) w := by
  have h : sx_RP xs d 27 0 (lv_args 0 [.ref A, .int x]) [] w (fun r w2 => r = some (.int 1) ∧ w2 = w) := by
    refine sx_RP.step (pc2 := 1) (ls2 := [(0, .ref A), (1, .int x)]) (st2 := [.int x]) (w3 := w) rfl rfl ?_
    refine sx_RP.br (p1 := 16) (l1 := [(0, .ref A), (1, .int x)]) (s1 := []) (v1 := w) (p2 := 4) (l2 := [(0, .ref A), (1, .int x)]) (s2 := []) (v2 := w) rfl rfl (fun q1 => ?_) (fun q1 => ?_)
    · replace q1 := of_decide_eq_true q1
      refine sx_RP.step (pc2 := 17) (ls2 := [(0, .ref A), (1, .int x)]) (st2 := [.int 0]) (w3 := w) rfl rfl ?_
      refine sx_RP.ret (r := (some (.int 0))) rfl rfl ?_
      first | exact ⟨rfl, rfl⟩ | exact absurd ⟨Int32.not_lt.mp (by assumption), by first | assumption | exact Int32.not_le.mp (by assumption)⟩ hh | exact absurd (by assumption) (Int32.not_lt.mpr hh.1) | exact absurd (by assumption) (Int32.not_le.mpr hh.2)
    · replace q1 := of_decide_eq_false q1
      refine sx_RP.step (pc2 := 5) (ls2 := [(0, .ref A), (1, .int x)]) (st2 := [.int x]) (w3 := w) rfl rfl ?_
      refine sx_RP.step (pc2 := 6) (ls2 := [(0, .ref A), (1, .int x)]) (st2 := [.ref A, .int x]) (w3 := w) rfl rfl ?_
      refine sx_RP.gc (k := 3) hI hA rfl rfl (by omega) (show _ = 9 from rfl) ?_
      rw [en]
      refine sx_RP.br (p1 := 16) (l1 := [(0, .ref A), (1, .int x)]) (s1 := []) (v1 := w) (p2 := 12) (l2 := [(0, .ref A), (1, .int x)]) (s2 := []) (v2 := w) rfl rfl (fun q2 => ?_) (fun q2 => ?_)
      · replace q2 := of_decide_eq_true q2
        refine sx_RP.step (pc2 := 17) (ls2 := [(0, .ref A), (1, .int x)]) (st2 := [.int 0]) (w3 := w) rfl rfl ?_
        refine sx_RP.ret (r := (some (.int 0))) rfl rfl ?_
        first | exact ⟨rfl, rfl⟩ | exact absurd ⟨Int32.not_lt.mp (by assumption), by first | assumption | exact Int32.not_le.mp (by assumption)⟩ hh | exact absurd (by assumption) (Int32.not_lt.mpr hh.1) | exact absurd (by assumption) (Int32.not_le.mpr hh.2)
      · replace q2 := of_decide_eq_false q2
        refine sx_RP.step (pc2 := 13) (ls2 := [(0, .ref A), (1, .int x)]) (st2 := [.int 1]) (w3 := w) rfl rfl ?_
        refine sx_RP.step (pc2 := 17) (ls2 := [(0, .ref A), (1, .int x)]) (st2 := [.int 1]) (w3 := w) rfl rfl ?_
        refine sx_RP.ret (r := (some (.int 1))) rfl rfl ?_
        first | exact ⟨rfl, rfl⟩ | exact absurd ⟨Int32.not_lt.mp (by assumption), by first | assumption | exact Int32.not_le.mp (by assumption)⟩ hh | exact absurd (by assumption) (Int32.not_lt.mpr hh.1) | exact absurd (by assumption) (Int32.not_le.mpr hh.2)
  obtain ⟨r, w2, h1, rfl, rfl⟩ := h
  exact h1
set_option maxRecDepth 20000 in
set_option maxHeartbeats 4000000 in
theorem p27n {xs : Option (List Int32)} {d n : Nat} {w : List sx_C} (hI : WI w) {A : Nat} (hA : isA A) (en : fi w A 3 = nI n) (hn : n ≤ 10) {x : Int32} (hh : ¬ (0 ≤ x ∧ x < nI n)) : sx_RU xs d 27 0 (lv_args 0 [.ref A, .int x]) [] w (some (.int 0)) w := by
  have h : sx_RP xs d 27 0 (lv_args 0 [.ref A, .int x]) [] w (fun r w2 => r = some (.int 0) ∧ w2 = w) := by
    refine sx_RP.step (pc2 := 1) (ls2 := [(0, .ref A), (1, .int x)]) (st2 := [.int x]) (w3 := w) rfl rfl ?_
    refine sx_RP.br (p1 := 16) (l1 := [(0, .ref A), (1, .int x)]) (s1 := []) (v1 := w) (p2 := 4) (l2 := [(0, .ref A), (1, .int x)]) (s2 := []) (v2 := w) rfl rfl (fun q1 => ?_) (fun q1 => ?_)
    · replace q1 := of_decide_eq_true q1
      refine sx_RP.step (pc2 := 17) (ls2 := [(0, .ref A), (1, .int x)]) (st2 := [.int 0]) (w3 := w) rfl rfl ?_
      refine sx_RP.ret (r := (some (.int 0))) rfl rfl ?_
      first | exact ⟨rfl, rfl⟩ | exact absurd ⟨Int32.not_lt.mp (by assumption), by first | assumption | exact Int32.not_le.mp (by assumption)⟩ hh | exact absurd (by assumption) (Int32.not_lt.mpr hh.1) | exact absurd (by assumption) (Int32.not_le.mpr hh.2)
    · replace q1 := of_decide_eq_false q1
      refine sx_RP.step (pc2 := 5) (ls2 := [(0, .ref A), (1, .int x)]) (st2 := [.int x]) (w3 := w) rfl rfl ?_
      refine sx_RP.step (pc2 := 6) (ls2 := [(0, .ref A), (1, .int x)]) (st2 := [.ref A, .int x]) (w3 := w) rfl rfl ?_
      refine sx_RP.gc (k := 3) hI hA rfl rfl (by omega) (show _ = 9 from rfl) ?_
      rw [en]
      refine sx_RP.br (p1 := 16) (l1 := [(0, .ref A), (1, .int x)]) (s1 := []) (v1 := w) (p2 := 12) (l2 := [(0, .ref A), (1, .int x)]) (s2 := []) (v2 := w) rfl rfl (fun q2 => ?_) (fun q2 => ?_)
      · replace q2 := of_decide_eq_true q2
        refine sx_RP.step (pc2 := 17) (ls2 := [(0, .ref A), (1, .int x)]) (st2 := [.int 0]) (w3 := w) rfl rfl ?_
        refine sx_RP.ret (r := (some (.int 0))) rfl rfl ?_
        first | exact ⟨rfl, rfl⟩ | exact absurd ⟨Int32.not_lt.mp (by assumption), by first | assumption | exact Int32.not_le.mp (by assumption)⟩ hh | exact absurd (by assumption) (Int32.not_lt.mpr hh.1) | exact absurd (by assumption) (Int32.not_le.mpr hh.2)
      · replace q2 := of_decide_eq_false q2
        refine sx_RP.step (pc2 := 13) (ls2 := [(0, .ref A), (1, .int x)]) (st2 := [.int 1]) (w3 := w) rfl rfl ?_
        refine sx_RP.step (pc2 := 17) (ls2 := [(0, .ref A), (1, .int x)]) (st2 := [.int 1]) (w3 := w) rfl rfl ?_
        refine sx_RP.ret (r := (some (.int 1))) rfl rfl ?_
        first | exact ⟨rfl, rfl⟩ | exact absurd ⟨Int32.not_lt.mp (by assumption), by first | assumption | exact Int32.not_le.mp (by assumption)⟩ hh | exact absurd (by assumption) (Int32.not_lt.mpr hh.1) | exact absurd (by assumption) (Int32.not_le.mpr hh.2)
  obtain ⟨r, w2, h1, rfl, rfl⟩ := h
  exact h1
set_option maxRecDepth 20000 in
set_option maxHeartbeats 4000000 in
theorem p66y {xs : Option (List Int32)} {d n : Nat} {w : List sx_C} (hI : WI w) {A : Nat} (hA : isA A) (en : fi w A 5 = nI n) (hn : n ≤ 9) {x : Int32} (hh : 0 ≤ x ∧ x < nI n) : sx_RU xs d 66 0 (lv_args 0 [.ref A, .int x]) [] w (some (.int 1)) w := by
  have h : sx_RP xs d 66 0 (lv_args 0 [.ref A, .int x]) [] w (fun r w2 => r = some (.int 1) ∧ w2 = w) := by
    refine sx_RP.step (pc2 := 1) (ls2 := [(0, .ref A), (1, .int x)]) (st2 := [.int x]) (w3 := w) rfl rfl ?_
    refine sx_RP.br (p1 := 16) (l1 := [(0, .ref A), (1, .int x)]) (s1 := []) (v1 := w) (p2 := 4) (l2 := [(0, .ref A), (1, .int x)]) (s2 := []) (v2 := w) rfl rfl (fun q1 => ?_) (fun q1 => ?_)
    · replace q1 := of_decide_eq_true q1
      refine sx_RP.step (pc2 := 17) (ls2 := [(0, .ref A), (1, .int x)]) (st2 := [.int 0]) (w3 := w) rfl rfl ?_
      refine sx_RP.ret (r := (some (.int 0))) rfl rfl ?_
      first | exact ⟨rfl, rfl⟩ | exact absurd ⟨Int32.not_lt.mp (by assumption), by first | assumption | exact Int32.not_le.mp (by assumption)⟩ hh | exact absurd (by assumption) (Int32.not_lt.mpr hh.1) | exact absurd (by assumption) (Int32.not_le.mpr hh.2)
    · replace q1 := of_decide_eq_false q1
      refine sx_RP.step (pc2 := 5) (ls2 := [(0, .ref A), (1, .int x)]) (st2 := [.int x]) (w3 := w) rfl rfl ?_
      refine sx_RP.step (pc2 := 6) (ls2 := [(0, .ref A), (1, .int x)]) (st2 := [.ref A, .int x]) (w3 := w) rfl rfl ?_
      refine sx_RP.gc (k := 5) hI hA rfl rfl (by omega) (show _ = 9 from rfl) ?_
      rw [en]
      refine sx_RP.br (p1 := 16) (l1 := [(0, .ref A), (1, .int x)]) (s1 := []) (v1 := w) (p2 := 12) (l2 := [(0, .ref A), (1, .int x)]) (s2 := []) (v2 := w) rfl rfl (fun q2 => ?_) (fun q2 => ?_)
      · replace q2 := of_decide_eq_true q2
        refine sx_RP.step (pc2 := 17) (ls2 := [(0, .ref A), (1, .int x)]) (st2 := [.int 0]) (w3 := w) rfl rfl ?_
        refine sx_RP.ret (r := (some (.int 0))) rfl rfl ?_
        first | exact ⟨rfl, rfl⟩ | exact absurd ⟨Int32.not_lt.mp (by assumption), by first | assumption | exact Int32.not_le.mp (by assumption)⟩ hh | exact absurd (by assumption) (Int32.not_lt.mpr hh.1) | exact absurd (by assumption) (Int32.not_le.mpr hh.2)
      · replace q2 := of_decide_eq_false q2
        refine sx_RP.step (pc2 := 13) (ls2 := [(0, .ref A), (1, .int x)]) (st2 := [.int 1]) (w3 := w) rfl rfl ?_
        refine sx_RP.step (pc2 := 17) (ls2 := [(0, .ref A), (1, .int x)]) (st2 := [.int 1]) (w3 := w) rfl rfl ?_
        refine sx_RP.ret (r := (some (.int 1))) rfl rfl ?_
        first | exact ⟨rfl, rfl⟩ | exact absurd ⟨Int32.not_lt.mp (by assumption), by first | assumption | exact Int32.not_le.mp (by assumption)⟩ hh | exact absurd (by assumption) (Int32.not_lt.mpr hh.1) | exact absurd (by assumption) (Int32.not_le.mpr hh.2)
  obtain ⟨r, w2, h1, rfl, rfl⟩ := h
  exact h1
set_option maxRecDepth 20000 in
set_option maxHeartbeats 4000000 in
theorem p66n {xs : Option (List Int32)} {d n : Nat} {w : List sx_C} (hI : WI w) {A : Nat} (hA : isA A) (en : fi w A 5 = nI n) (hn : n ≤ 9) {x : Int32} (hh : ¬ (0 ≤ x ∧ x < nI n)) : sx_RU xs d 66 0 (lv_args 0 [.ref A, .int x]) [] w (some (.int 0)) w := by
  have h : sx_RP xs d 66 0 (lv_args 0 [.ref A, .int x]) [] w (fun r w2 => r = some (.int 0) ∧ w2 = w) := by
    refine sx_RP.step (pc2 := 1) (ls2 := [(0, .ref A), (1, .int x)]) (st2 := [.int x]) (w3 := w) rfl rfl ?_
    refine sx_RP.br (p1 := 16) (l1 := [(0, .ref A), (1, .int x)]) (s1 := []) (v1 := w) (p2 := 4) (l2 := [(0, .ref A), (1, .int x)]) (s2 := []) (v2 := w) rfl rfl (fun q1 => ?_) (fun q1 => ?_)
    · replace q1 := of_decide_eq_true q1
      refine sx_RP.step (pc2 := 17) (ls2 := [(0, .ref A), (1, .int x)]) (st2 := [.int 0]) (w3 := w) rfl rfl ?_
      refine sx_RP.ret (r := (some (.int 0))) rfl rfl ?_
      first | exact ⟨rfl, rfl⟩ | exact absurd ⟨Int32.not_lt.mp (by assumption), by first | assumption | exact Int32.not_le.mp (by assumption)⟩ hh | exact absurd (by assumption) (Int32.not_lt.mpr hh.1) | exact absurd (by assumption) (Int32.not_le.mpr hh.2)
    · replace q1 := of_decide_eq_false q1
      refine sx_RP.step (pc2 := 5) (ls2 := [(0, .ref A), (1, .int x)]) (st2 := [.int x]) (w3 := w) rfl rfl ?_
      refine sx_RP.step (pc2 := 6) (ls2 := [(0, .ref A), (1, .int x)]) (st2 := [.ref A, .int x]) (w3 := w) rfl rfl ?_
      refine sx_RP.gc (k := 5) hI hA rfl rfl (by omega) (show _ = 9 from rfl) ?_
      rw [en]
      refine sx_RP.br (p1 := 16) (l1 := [(0, .ref A), (1, .int x)]) (s1 := []) (v1 := w) (p2 := 12) (l2 := [(0, .ref A), (1, .int x)]) (s2 := []) (v2 := w) rfl rfl (fun q2 => ?_) (fun q2 => ?_)
      · replace q2 := of_decide_eq_true q2
        refine sx_RP.step (pc2 := 17) (ls2 := [(0, .ref A), (1, .int x)]) (st2 := [.int 0]) (w3 := w) rfl rfl ?_
        refine sx_RP.ret (r := (some (.int 0))) rfl rfl ?_
        first | exact ⟨rfl, rfl⟩ | exact absurd ⟨Int32.not_lt.mp (by assumption), by first | assumption | exact Int32.not_le.mp (by assumption)⟩ hh | exact absurd (by assumption) (Int32.not_lt.mpr hh.1) | exact absurd (by assumption) (Int32.not_le.mpr hh.2)
      · replace q2 := of_decide_eq_false q2
        refine sx_RP.step (pc2 := 13) (ls2 := [(0, .ref A), (1, .int x)]) (st2 := [.int 1]) (w3 := w) rfl rfl ?_
        refine sx_RP.step (pc2 := 17) (ls2 := [(0, .ref A), (1, .int x)]) (st2 := [.int 1]) (w3 := w) rfl rfl ?_
        refine sx_RP.ret (r := (some (.int 1))) rfl rfl ?_
        first | exact ⟨rfl, rfl⟩ | exact absurd ⟨Int32.not_lt.mp (by assumption), by first | assumption | exact Int32.not_le.mp (by assumption)⟩ hh | exact absurd (by assumption) (Int32.not_lt.mpr hh.1) | exact absurd (by assumption) (Int32.not_le.mpr hh.2)
  obtain ⟨r, w2, h1, rfl, rfl⟩ := h
  exact h1
set_option maxRecDepth 20000 in
set_option maxHeartbeats 4000000 in
theorem B21 {xs : Option (List Int32)} {d : Nat} {w : List sx_C} (hI : WI w) (a1 a2 a3 a4 : Int32) : sx_RP xs (d + 7) 21 0 (lv_args 0 [.ref 0, .int a1, .int a2, .int a3, .int a4]) [] w (fun r w2 => (r = some (.int (galA (FCb w) a1 a2 a3 a4)) ∧ FCb w2 = galU (FCb w) a1 a2 a3 a4) ∧ WI w2 ∧ ∀ a, 111 ≤ a → w2[a]? = w[a]?) := by
  obtain ⟨n, hn, en⟩ := (hI.c (Or.inl rfl)).1
  refine sx_RP.step (pc2 := 1) (ls2 := [(0, .ref 0), (1, .int a1), (2, .int a2), (3, .int a3), (4, .int a4)]) (st2 := [.int a1]) (w3 := w) rfl rfl ?_
  rcases in_cases a1 0 5 (m := 0) (n := 5) rfl rfl (by decide) (by decide) with q1 | ⟨x2, hx3, hx4, rfl⟩
  · refine sx_RP.cu (as := [.int a1]) (rest2 := []) (st3 := [.int 0]) rfl rfl rfl rfl rfl (cx_22n q1) rfl ?_
    refine sx_RP.step (pc2 := 31) (ls2 := [(0, .ref 0), (1, .int a1), (2, .int a2), (3, .int a3), (4, .int a4)]) (st2 := []) (w3 := w) rfl rfl ?_
    refine sx_RP.step (pc2 := 32) (ls2 := [(0, .ref 0), (1, .int a1), (2, .int a2), (3, .int a3), (4, .int a4)]) (st2 := [.ref 0]) (w3 := w) rfl rfl ?_
    refine sx_RP.step (pc2 := 34) (ls2 := [(0, .ref 0), (1, .int a1), (2, .int a2), (3, .int a3), (4, .int a4)]) (st2 := [.int (-1000000001), .ref 0]) (w3 := w) rfl rfl ?_
    refine sx_RP.callp (as2 := [.ref 0, .int (-1000000001)]) (rest2 := []) rfl rfl (sx_inv_v2 (mi := 21) (k := 78) (st := [.int (-1000000001), .ref 0]) (w := w) rfl rfl hI.1.o0 rfl rfl rfl) rfl rfl rfl (Q9_0 hI) (show _ = 37 from rfl) ?_
    rintro r4 w7 ⟨rfl, hI8, hE6⟩
    show sx_RP _ _ _ _ _ [.int (-1000000001)] _ _
    refine sx_RP.ret (r := (some (.int (-1000000001)))) rfl rfl ?_
    exact ⟨⟨by rw [(gal_1 (fun z => q1 z.1)).1], by rw [(gal_1 (fun z => q1 z.1)).2]; exact FCb_en hI hE6.en⟩, hI8, fun a ha => hE6 a (Or.inr (Or.inr (by omega)))⟩
  · refine sx_RP.cu (as := [.int (nI x2)]) (rest2 := []) (st3 := [.int 1]) rfl rfl rfl rfl rfl (cx_22p ⟨nI_le (a := 0) hx3 (by omega), nI_le (b := 5) hx4 (by decide)⟩) rfl ?_
    refine sx_RP.step (pc2 := 7) (ls2 := [(0, .ref 0), (1, .int (nI x2)), (2, .int a2), (3, .int a3), (4, .int a4)]) (st2 := []) (w3 := w) rfl rfl ?_
    refine sx_RP.step (pc2 := 8) (ls2 := [(0, .ref 0), (1, .int (nI x2)), (2, .int a2), (3, .int a3), (4, .int a4)]) (st2 := [.int a2]) (w3 := w) rfl rfl ?_
    refine sx_RP.step (pc2 := 9) (ls2 := [(0, .ref 0), (1, .int (nI x2)), (2, .int a2), (3, .int a3), (4, .int a4)]) (st2 := [.int 0, .int a2]) (w3 := w) rfl rfl ?_
    refine sx_RP.step (pc2 := 10) (ls2 := [(0, .ref 0), (1, .int (nI x2)), (2, .int a2), (3, .int a3), (4, .int a4)]) (st2 := [.int 1, .int 0, .int a2]) (w3 := w) rfl rfl ?_
    rcases in_cases a2 0 1 (m := 0) (n := 1) rfl rfl (by decide) (by decide) with q9 | ⟨x10, hx11, hx12, rfl⟩
    · refine sx_RP.cu (as := [.int a2, .int 0, .int 1]) (rest2 := []) (st3 := [.int 0]) rfl rfl rfl rfl rfl (cx_8n q9) rfl ?_
      refine sx_RP.step (pc2 := 31) (ls2 := [(0, .ref 0), (1, .int (nI x2)), (2, .int a2), (3, .int a3), (4, .int a4)]) (st2 := []) (w3 := w) rfl rfl ?_
      refine sx_RP.step (pc2 := 32) (ls2 := [(0, .ref 0), (1, .int (nI x2)), (2, .int a2), (3, .int a3), (4, .int a4)]) (st2 := [.ref 0]) (w3 := w) rfl rfl ?_
      refine sx_RP.step (pc2 := 34) (ls2 := [(0, .ref 0), (1, .int (nI x2)), (2, .int a2), (3, .int a3), (4, .int a4)]) (st2 := [.int (-1000000001), .ref 0]) (w3 := w) rfl rfl ?_
      refine sx_RP.callp (as2 := [.ref 0, .int (-1000000001)]) (rest2 := []) rfl rfl (sx_inv_v2 (mi := 21) (k := 78) (st := [.int (-1000000001), .ref 0]) (w := w) rfl rfl hI.1.o0 rfl rfl rfl) rfl rfl rfl (Q9_0 hI) (show _ = 37 from rfl) ?_
      rintro r4 w15 ⟨rfl, hI16, hE14⟩
      show sx_RP _ _ _ _ _ [.int (-1000000001)] _ _
      refine sx_RP.ret (r := (some (.int (-1000000001)))) rfl rfl ?_
      exact ⟨⟨by rw [(gal_1 (fun z => q9 z.2.1)).1], by rw [(gal_1 (fun z => q9 z.2.1)).2]; exact FCb_en hI hE14.en⟩, hI16, fun a ha => hE14 a (Or.inr (Or.inr (by omega)))⟩
    · refine sx_RP.cu (as := [.int (nI x10), .int 0, .int 1]) (rest2 := []) (st3 := [.int 1]) rfl rfl rfl rfl rfl (cx_8p ⟨nI_le (a := 0) hx11 (by omega), nI_le (b := 1) hx12 (by decide)⟩) rfl ?_
      refine sx_RP.step (pc2 := 16) (ls2 := [(0, .ref 0), (1, .int (nI x2)), (2, .int (nI x10)), (3, .int a3), (4, .int a4)]) (st2 := []) (w3 := w) rfl rfl ?_
      refine sx_RP.step (pc2 := 17) (ls2 := [(0, .ref 0), (1, .int (nI x2)), (2, .int (nI x10)), (3, .int a3), (4, .int a4)]) (st2 := [.int a3]) (w3 := w) rfl rfl ?_
      rcases in_cases a3 0 47 (m := 0) (n := 47) rfl rfl (by decide) (by decide) with q17 | ⟨x18, hx19, hx20, rfl⟩
      · refine sx_RP.cu (as := [.int a3]) (rest2 := []) (st3 := [.int 0]) rfl rfl rfl rfl rfl (cx_7n q17) rfl ?_
        refine sx_RP.step (pc2 := 31) (ls2 := [(0, .ref 0), (1, .int (nI x2)), (2, .int (nI x10)), (3, .int a3), (4, .int a4)]) (st2 := []) (w3 := w) rfl rfl ?_
        refine sx_RP.step (pc2 := 32) (ls2 := [(0, .ref 0), (1, .int (nI x2)), (2, .int (nI x10)), (3, .int a3), (4, .int a4)]) (st2 := [.ref 0]) (w3 := w) rfl rfl ?_
        refine sx_RP.step (pc2 := 34) (ls2 := [(0, .ref 0), (1, .int (nI x2)), (2, .int (nI x10)), (3, .int a3), (4, .int a4)]) (st2 := [.int (-1000000001), .ref 0]) (w3 := w) rfl rfl ?_
        refine sx_RP.callp (as2 := [.ref 0, .int (-1000000001)]) (rest2 := []) rfl rfl (sx_inv_v2 (mi := 21) (k := 78) (st := [.int (-1000000001), .ref 0]) (w := w) rfl rfl hI.1.o0 rfl rfl rfl) rfl rfl rfl (Q9_0 hI) (show _ = 37 from rfl) ?_
        rintro r4 w23 ⟨rfl, hI24, hE22⟩
        show sx_RP _ _ _ _ _ [.int (-1000000001)] _ _
        refine sx_RP.ret (r := (some (.int (-1000000001)))) rfl rfl ?_
        exact ⟨⟨by rw [(gal_1 (fun z => q17 z.2.2.1)).1], by rw [(gal_1 (fun z => q17 z.2.2.1)).2]; exact FCb_en hI hE22.en⟩, hI24, fun a ha => hE22 a (Or.inr (Or.inr (by omega)))⟩
      · refine sx_RP.cu (as := [.int (nI x18)]) (rest2 := []) (st3 := [.int 1]) rfl rfl rfl rfl rfl (cx_7p ⟨nI_le (a := 0) hx19 (by omega), nI_le (b := 47) hx20 (by decide)⟩) rfl ?_
        refine sx_RP.step (pc2 := 23) (ls2 := [(0, .ref 0), (1, .int (nI x2)), (2, .int (nI x10)), (3, .int (nI x18)), (4, .int a4)]) (st2 := []) (w3 := w) rfl rfl ?_
        refine sx_RP.step (pc2 := 25) (ls2 := [(0, .ref 0), (1, .int (nI x2)), (2, .int (nI x10)), (3, .int (nI x18)), (4, .int a4)]) (st2 := [.int a4]) (w3 := w) rfl rfl ?_
        rcases in_cases a4 0 3 (m := 0) (n := 3) rfl rfl (by decide) (by decide) with q25 | ⟨x26, hx27, hx28, rfl⟩
        · refine sx_RP.cu (as := [.int a4]) (rest2 := []) (st3 := [.int 0]) rfl rfl rfl rfl rfl (cx_23n q25) rfl ?_
          refine sx_RP.step (pc2 := 31) (ls2 := [(0, .ref 0), (1, .int (nI x2)), (2, .int (nI x10)), (3, .int (nI x18)), (4, .int a4)]) (st2 := []) (w3 := w) rfl rfl ?_
          refine sx_RP.step (pc2 := 32) (ls2 := [(0, .ref 0), (1, .int (nI x2)), (2, .int (nI x10)), (3, .int (nI x18)), (4, .int a4)]) (st2 := [.ref 0]) (w3 := w) rfl rfl ?_
          refine sx_RP.step (pc2 := 34) (ls2 := [(0, .ref 0), (1, .int (nI x2)), (2, .int (nI x10)), (3, .int (nI x18)), (4, .int a4)]) (st2 := [.int (-1000000001), .ref 0]) (w3 := w) rfl rfl ?_
          refine sx_RP.callp (as2 := [.ref 0, .int (-1000000001)]) (rest2 := []) rfl rfl (sx_inv_v2 (mi := 21) (k := 78) (st := [.int (-1000000001), .ref 0]) (w := w) rfl rfl hI.1.o0 rfl rfl rfl) rfl rfl rfl (Q9_0 hI) (show _ = 37 from rfl) ?_
          rintro r4 w31 ⟨rfl, hI32, hE30⟩
          show sx_RP _ _ _ _ _ [.int (-1000000001)] _ _
          refine sx_RP.ret (r := (some (.int (-1000000001)))) rfl rfl ?_
          exact ⟨⟨by rw [(gal_1 (fun z => q25 z.2.2.2)).1], by rw [(gal_1 (fun z => q25 z.2.2.2)).2]; exact FCb_en hI hE30.en⟩, hI32, fun a ha => hE30 a (Or.inr (Or.inr (by omega)))⟩
        · refine sx_RP.cu (as := [.int (nI x26)]) (rest2 := []) (st3 := [.int 1]) rfl rfl rfl rfl rfl (cx_23p ⟨nI_le (a := 0) hx27 (by omega), nI_le (b := 3) hx28 (by decide)⟩) rfl ?_
          refine sx_RP.step (pc2 := 38) (ls2 := [(0, .ref 0), (1, .int (nI x2)), (2, .int (nI x10)), (3, .int (nI x18)), (4, .int (nI x26))]) (st2 := []) (w3 := w) rfl rfl ?_
          refine sx_RP.step (pc2 := 39) (ls2 := [(0, .ref 0), (1, .int (nI x2)), (2, .int (nI x10)), (3, .int (nI x18)), (4, .int (nI x26))]) (st2 := [.ref 0]) (w3 := w) rfl rfl ?_
          refine sx_RP.gf (v := .ref 1) rfl rfl hI.1.o0 rfl rfl (show _ = 42 from rfl) ?_
          rcases Decidable.em (n < 10) with c33 | c33
          · refine sx_RP.cu (as := [.ref 1]) (rest2 := []) (st3 := [.int 1]) rfl rfl (sx_inv_v2 (mi := 21) (k := 111) (st := [.ref 1]) (w := w) rfl rfl (hI.1.oC (Or.inl rfl)) rfl rfl rfl) rfl rfl (p24y hI (Or.inl rfl) en hn c33) rfl ?_
            refine sx_RP.step (pc2 := 55) (ls2 := [(0, .ref 0), (1, .int (nI x2)), (2, .int (nI x10)), (3, .int (nI x18)), (4, .int (nI x26))]) (st2 := []) (w3 := w) rfl rfl ?_
            refine sx_RP.step (pc2 := 56) (ls2 := [(0, .ref 0), (1, .int (nI x2)), (2, .int (nI x10)), (3, .int (nI x18)), (4, .int (nI x26))]) (st2 := [.ref 0]) (w3 := w) rfl rfl ?_
            refine sx_RP.gf (v := .ref 1) rfl rfl hI.1.o0 rfl rfl (show _ = 59 from rfl) ?_
            refine sx_RP.step (pc2 := 60) (ls2 := [(0, .ref 0), (1, .int (nI x2)), (2, .int (nI x10)), (3, .int (nI x18)), (4, .int (nI x26))]) (st2 := [.int (nI x2), .ref 1]) (w3 := w) rfl rfl ?_
            refine sx_RP.step (pc2 := 61) (ls2 := [(0, .ref 0), (1, .int (nI x2)), (2, .int (nI x10)), (3, .int (nI x18)), (4, .int (nI x26))]) (st2 := [.int (nI x10), .int (nI x2), .ref 1]) (w3 := w) rfl rfl ?_
            refine sx_RP.step (pc2 := 62) (ls2 := [(0, .ref 0), (1, .int (nI x2)), (2, .int (nI x10)), (3, .int (nI x18)), (4, .int (nI x26))]) (st2 := [.int (nI x18), .int (nI x10), .int (nI x2), .ref 1]) (w3 := w) rfl rfl ?_
            refine sx_RP.step (pc2 := 64) (ls2 := [(0, .ref 0), (1, .int (nI x2)), (2, .int (nI x10)), (3, .int (nI x18)), (4, .int (nI x26))]) (st2 := [.int (nI x26), .int (nI x18), .int (nI x10), .int (nI x2), .ref 1]) (w3 := w) rfl rfl ?_
            refine sx_RP.callp (as2 := [.ref 1, .int (nI x2), .int (nI x10), .int (nI x18), .int (nI x26)]) (rest2 := []) rfl rfl (sx_inv_v2 (mi := 21) (k := 116) (st := [.int (nI x26), .int (nI x18), .int (nI x10), .int (nI x2), .ref 1]) (w := w) rfl rfl (hI.1.oC (Or.inl rfl)) rfl rfl rfl) rfl rfl rfl (X25 hI (Or.inl rfl) (by omega) en (show x2 ≤ 5 by omega) (show x10 ≤ 1 by omega) (show x18 < 48 by omega) (show x26 ≤ 3 by omega)) (show _ = 67 from rfl) ?_
            rintro r4 w36 ⟨⟨rfl, hc34⟩, hI37, ho35⟩
            show sx_RP _ _ _ _ _ [.int (nI n)] _ _
            refine sx_RP.ret (r := (some (.int (nI n)))) rfl rfl ?_
            exact ⟨⟨by rw [(gal_3 ⟨⟨nI_le (a := 0) (show 0 ≤ x2 by omega) (by omega), nI_le (b := 5) (show x2 ≤ 5 by omega) (by decide)⟩, ⟨nI_le (a := 0) (show 0 ≤ x10 by omega) (by omega), nI_le (b := 1) (show x10 ≤ 1 by omega) (by decide)⟩, ⟨nI_le (a := 0) (show 0 ≤ x18 by omega) (by omega), nI_le (b := 47) (show x18 ≤ 47 by omega) (by decide)⟩, ⟨nI_le (a := 0) (show 0 ≤ x26 by omega) (by omega), nI_le (b := 3) (show x26 ≤ 3 by omega) (by decide)⟩⟩ (by rw [FCb_len en hn]; exact c33)).1, FCb_len en hn], by rw [(gal_3 ⟨⟨nI_le (a := 0) (show 0 ≤ x2 by omega) (by omega), nI_le (b := 5) (show x2 ≤ 5 by omega) (by decide)⟩, ⟨nI_le (a := 0) (show 0 ≤ x10 by omega) (by omega), nI_le (b := 1) (show x10 ≤ 1 by omega) (by decide)⟩, ⟨nI_le (a := 0) (show 0 ≤ x18 by omega) (by omega), nI_le (b := 47) (show x18 ≤ 47 by omega) (by decide)⟩, ⟨nI_le (a := 0) (show 0 ≤ x26 by omega) (by omega), nI_le (b := 3) (show x26 ≤ 3 by omega) (by decide)⟩⟩ (by rw [FCb_len en hn]; exact c33)).2, FCb_camp hI ho35, hc34]; rfl⟩, hI37, fun a ha => ho35 a (by omega)⟩
          · refine sx_RP.cu (as := [.ref 1]) (rest2 := []) (st3 := [.int 0]) rfl rfl (sx_inv_v2 (mi := 21) (k := 111) (st := [.ref 1]) (w := w) rfl rfl (hI.1.oC (Or.inl rfl)) rfl rfl rfl) rfl rfl (p24n hI (Or.inl rfl) en hn c33) rfl ?_
            refine sx_RP.step (pc2 := 48) (ls2 := [(0, .ref 0), (1, .int (nI x2)), (2, .int (nI x10)), (3, .int (nI x18)), (4, .int (nI x26))]) (st2 := []) (w3 := w) rfl rfl ?_
            refine sx_RP.step (pc2 := 49) (ls2 := [(0, .ref 0), (1, .int (nI x2)), (2, .int (nI x10)), (3, .int (nI x18)), (4, .int (nI x26))]) (st2 := [.ref 0]) (w3 := w) rfl rfl ?_
            refine sx_RP.step (pc2 := 51) (ls2 := [(0, .ref 0), (1, .int (nI x2)), (2, .int (nI x10)), (3, .int (nI x18)), (4, .int (nI x26))]) (st2 := [.int (-1000000002), .ref 0]) (w3 := w) rfl rfl ?_
            refine sx_RP.callp (as2 := [.ref 0, .int (-1000000002)]) (rest2 := []) rfl rfl (sx_inv_v2 (mi := 21) (k := 78) (st := [.int (-1000000002), .ref 0]) (w := w) rfl rfl hI.1.o0 rfl rfl rfl) rfl rfl rfl (Q9_1 hI) (show _ = 54 from rfl) ?_
            rintro r4 w39 ⟨rfl, hI40, hE38⟩
            show sx_RP _ _ _ _ _ [.int (-1000000002)] _ _
            refine sx_RP.ret (r := (some (.int (-1000000002)))) rfl rfl ?_
            exact ⟨⟨by rw [(gal_2 ⟨⟨nI_le (a := 0) (show 0 ≤ x2 by omega) (by omega), nI_le (b := 5) (show x2 ≤ 5 by omega) (by decide)⟩, ⟨nI_le (a := 0) (show 0 ≤ x10 by omega) (by omega), nI_le (b := 1) (show x10 ≤ 1 by omega) (by decide)⟩, ⟨nI_le (a := 0) (show 0 ≤ x18 by omega) (by omega), nI_le (b := 47) (show x18 ≤ 47 by omega) (by decide)⟩, ⟨nI_le (a := 0) (show 0 ≤ x26 by omega) (by omega), nI_le (b := 3) (show x26 ≤ 3 by omega) (by decide)⟩⟩ (by rw [FCb_len en hn]; exact c33)).1], by rw [(gal_2 ⟨⟨nI_le (a := 0) (show 0 ≤ x2 by omega) (by omega), nI_le (b := 5) (show x2 ≤ 5 by omega) (by decide)⟩, ⟨nI_le (a := 0) (show 0 ≤ x10 by omega) (by omega), nI_le (b := 1) (show x10 ≤ 1 by omega) (by decide)⟩, ⟨nI_le (a := 0) (show 0 ≤ x18 by omega) (by omega), nI_le (b := 47) (show x18 ≤ 47 by omega) (by decide)⟩, ⟨nI_le (a := 0) (show 0 ≤ x26 by omega) (by omega), nI_le (b := 3) (show x26 ≤ 3 by omega) (by decide)⟩⟩ (by rw [FCb_len en hn]; exact c33)).2]; exact FCb_en hI hE38.en⟩, hI40, fun a ha => hE38 a (Or.inr (Or.inr (by omega)))⟩
set_option maxRecDepth 20000 in
set_option maxHeartbeats 4000000 in
theorem B29 {xs : Option (List Int32)} {d : Nat} {w : List sx_C} (hI : WI w) (a1 a2 : Int32) : sx_RP xs (d + 7) 29 0 (lv_args 0 [.ref 0, .int a1, .int a2]) [] w (fun r w2 => (r = some (.int (becA (FCb w) a1 a2)) ∧ FCb w2 = becU (FCb w) a1 a2) ∧ WI w2 ∧ ∀ a, 111 ≤ a → w2[a]? = w[a]?) := by
  obtain ⟨n, hn, en⟩ := (hI.c (Or.inl rfl)).1
  refine sx_RP.step (pc2 := 1) (ls2 := [(0, .ref 0), (1, .int a1), (2, .int a2)]) (st2 := [.ref 0]) (w3 := w) rfl rfl ?_
  refine sx_RP.gf (v := .ref 1) rfl rfl hI.1.o0 rfl rfl (show _ = 4 from rfl) ?_
  refine sx_RP.step (pc2 := 5) (ls2 := [(0, .ref 0), (1, .int a1), (2, .int a2)]) (st2 := [.int a1, .ref 1]) (w3 := w) rfl rfl ?_
  rcases Decidable.em (0 ≤ a1 ∧ a1 < nI n) with c1 | c1
  · obtain ⟨x2, hx3, rfl⟩ := idx_get c1 (by omega)
    refine sx_RP.cu (as := [.ref 1, .int (nI x2)]) (rest2 := []) (st3 := [.int 1]) rfl rfl (sx_inv_v2 (mi := 29) (k := 120) (st := [.int (nI x2), .ref 1]) (w := w) rfl rfl (hI.1.oC (Or.inl rfl)) rfl rfl rfl) rfl rfl (p27y hI (Or.inl rfl) en hn c1) rfl ?_
    refine sx_RP.step (pc2 := 11) (ls2 := [(0, .ref 0), (1, .int (nI x2)), (2, .int a2)]) (st2 := []) (w3 := w) rfl rfl ?_
    refine sx_RP.step (pc2 := 12) (ls2 := [(0, .ref 0), (1, .int (nI x2)), (2, .int a2)]) (st2 := [.int a2]) (w3 := w) rfl rfl ?_
    rcases in_cases a2 0 5 (m := 0) (n := 5) rfl rfl (by decide) (by decide) with q4 | ⟨x5, hx6, hx7, rfl⟩
    · refine sx_RP.cu (as := [.int a2]) (rest2 := []) (st3 := [.int 0]) rfl rfl rfl rfl rfl (cx_22n q4) rfl ?_
      refine sx_RP.step (pc2 := 18) (ls2 := [(0, .ref 0), (1, .int (nI x2)), (2, .int a2)]) (st2 := []) (w3 := w) rfl rfl ?_
      refine sx_RP.step (pc2 := 19) (ls2 := [(0, .ref 0), (1, .int (nI x2)), (2, .int a2)]) (st2 := [.ref 0]) (w3 := w) rfl rfl ?_
      refine sx_RP.step (pc2 := 21) (ls2 := [(0, .ref 0), (1, .int (nI x2)), (2, .int a2)]) (st2 := [.int (-1000000001), .ref 0]) (w3 := w) rfl rfl ?_
      refine sx_RP.callp (as2 := [.ref 0, .int (-1000000001)]) (rest2 := []) rfl rfl (sx_inv_v2 (mi := 29) (k := 78) (st := [.int (-1000000001), .ref 0]) (w := w) rfl rfl hI.1.o0 rfl rfl rfl) rfl rfl rfl (Q9_0 hI) (show _ = 24 from rfl) ?_
      rintro r4 w10 ⟨rfl, hI11, hE9⟩
      show sx_RP _ _ _ _ _ [.int (-1000000001)] _ _
      refine sx_RP.ret (r := (some (.int (-1000000001)))) rfl rfl ?_
      exact ⟨⟨by rw [(bec_1 (fun z => q4 z.2)).1], by rw [(bec_1 (fun z => q4 z.2)).2]; exact FCb_en hI hE9.en⟩, hI11, fun a ha => hE9 a (Or.inr (Or.inr (by omega)))⟩
    · refine sx_RP.cu (as := [.int (nI x5)]) (rest2 := []) (st3 := [.int 1]) rfl rfl rfl rfl rfl (cx_22p ⟨nI_le (a := 0) hx6 (by omega), nI_le (b := 5) hx7 (by decide)⟩) rfl ?_
      refine sx_RP.step (pc2 := 25) (ls2 := [(0, .ref 0), (1, .int (nI x2)), (2, .int (nI x5))]) (st2 := []) (w3 := w) rfl rfl ?_
      refine sx_RP.step (pc2 := 26) (ls2 := [(0, .ref 0), (1, .int (nI x2)), (2, .int (nI x5))]) (st2 := [.ref 0]) (w3 := w) rfl rfl ?_
      refine sx_RP.gf (v := .ref 1) rfl rfl hI.1.o0 rfl rfl (show _ = 29 from rfl) ?_
      refine sx_RP.gref (k := 2) (b := 3) hI (Or.inl rfl) rfl rfl (by omega) (show _ = 32 from rfl) ?_
      refine sx_RP.step (pc2 := 33) (ls2 := [(0, .ref 0), (1, .int (nI x2)), (2, .int (nI x5))]) (st2 := [.int (nI x2), .ref 3]) (w3 := w) rfl rfl ?_
      refine sx_RP.ald (v := .ref (1 + 4 + x2)) rfl (hI.1.aG (Or.inl rfl)) rfl (grA_at (show x2 < 10 by omega)) (show _ = 34 from rfl) ?_
      refine sx_RP.step (pc2 := 35) (ls2 := [(3, .ref (1 + 4 + x2)), (0, .ref 0), (1, .int (nI x2)), (2, .int (nI x5))]) (st2 := []) (w3 := w) rfl rfl ?_
      refine sx_RP.step (pc2 := 36) (ls2 := [(3, .ref (1 + 4 + x2)), (0, .ref 0), (1, .int (nI x2)), (2, .int (nI x5))]) (st2 := [.ref (1 + 4 + x2)]) (w3 := w) rfl rfl ?_
      refine sx_RP.gg (k := 0) hI (gAd.of (Or.inl rfl) (show x2 < 10 by omega)) rfl rfl (by decide) (show _ = 39 from rfl) ?_
      obtain ⟨x12, hx13, ex14⟩ : inR (fi w (1 + 4 + x2) 0) 5 := hI.gk (k := 0) (gAd.of (Or.inl rfl) (show x2 < 10 by omega)) (by decide)
      rw [ex14]
      refine sx_RP.step (pc2 := 41) (ls2 := [(4, .int (nI x12)), (3, .ref (1 + 4 + x2)), (0, .ref 0), (1, .int (nI x2)), (2, .int (nI x5))]) (st2 := []) (w3 := w) rfl rfl ?_
      refine sx_RP.step (pc2 := 42) (ls2 := [(4, .int (nI x12)), (3, .ref (1 + 4 + x2)), (0, .ref 0), (1, .int (nI x2)), (2, .int (nI x5))]) (st2 := [.ref (1 + 4 + x2)]) (w3 := w) rfl rfl ?_
      refine sx_RP.step (pc2 := 43) (ls2 := [(4, .int (nI x12)), (3, .ref (1 + 4 + x2)), (0, .ref 0), (1, .int (nI x2)), (2, .int (nI x5))]) (st2 := [.int (nI x5), .ref (1 + 4 + x2)]) (w3 := w) rfl rfl ?_
      refine sx_RP.xG (k := 0) hI (gAd.of (Or.inl rfl) (show x2 < 10 by omega)) rfl rfl (by decide) rfl (inR.n (show x5 ≤ 5 by omega)) (show _ = 46 from rfl) (fun w15 hI16 hs17 hv18 hr19 => ?_)
      have ex20 := (fi_same 3 (hs17 1 (by omega))).trans en
      refine sx_RP.step (pc2 := 48) (ls2 := [(4, .int (nI x12)), (3, .ref (1 + 4 + x2)), (0, .ref 0), (1, .int (nI x2)), (2, .int (nI x5))]) (st2 := [.int (nI x12)]) (w3 := w15) rfl rfl ?_
      refine sx_RP.ret (r := (some (.int (nI x12)))) rfl rfl ?_
      have ho : Out 1 w w15 := Out.st Out.rf hs17 (by omega)
      exact ⟨⟨by rw [(bec_2 ⟨by rw [FCb_len en hn]; exact c1, ⟨nI_le (a := 0) (show 0 ≤ x5 by omega) (by omega), nI_le (b := 5) (show x5 ≤ 5 by omega) (by decide)⟩⟩).1, FCb_kind en hn hx3, ex14], by rw [(bec_2 ⟨by rw [FCb_len en hn]; exact c1, ⟨nI_le (a := 0) (show 0 ≤ x5 by omega) (by omega), nI_le (b := 5) (show x5 ≤ 5 by omega) (by decide)⟩⟩).2, FCb_camp hI ho, campB_setK hI (Or.inl rfl) en hn hx3 hs17 hv18, iN_n (show x2 < 2 ^ 31 by omega)]; rfl⟩, hI16, fun a ha => ho a (by omega)⟩
  · refine sx_RP.cu (as := [.ref 1, .int a1]) (rest2 := []) (st3 := [.int 0]) rfl rfl (sx_inv_v2 (mi := 29) (k := 120) (st := [.int a1, .ref 1]) (w := w) rfl rfl (hI.1.oC (Or.inl rfl)) rfl rfl rfl) rfl rfl (p27n hI (Or.inl rfl) en hn c1) rfl ?_
    refine sx_RP.step (pc2 := 18) (ls2 := [(0, .ref 0), (1, .int a1), (2, .int a2)]) (st2 := []) (w3 := w) rfl rfl ?_
    refine sx_RP.step (pc2 := 19) (ls2 := [(0, .ref 0), (1, .int a1), (2, .int a2)]) (st2 := [.ref 0]) (w3 := w) rfl rfl ?_
    refine sx_RP.step (pc2 := 21) (ls2 := [(0, .ref 0), (1, .int a1), (2, .int a2)]) (st2 := [.int (-1000000001), .ref 0]) (w3 := w) rfl rfl ?_
    refine sx_RP.callp (as2 := [.ref 0, .int (-1000000001)]) (rest2 := []) rfl rfl (sx_inv_v2 (mi := 29) (k := 78) (st := [.int (-1000000001), .ref 0]) (w := w) rfl rfl hI.1.o0 rfl rfl rfl) rfl rfl rfl (Q9_0 hI) (show _ = 24 from rfl) ?_
    rintro r4 w22 ⟨rfl, hI23, hE21⟩
    show sx_RP _ _ _ _ _ [.int (-1000000001)] _ _
    refine sx_RP.ret (r := (some (.int (-1000000001)))) rfl rfl ?_
    exact ⟨⟨by rw [(bec_1 (fun z => c1 (by rw [← FCb_len en hn]; exact z.1))).1], by rw [(bec_1 (fun z => c1 (by rw [← FCb_len en hn]; exact z.1))).2]; exact FCb_en hI hE21.en⟩, hI23, fun a ha => hE21 a (Or.inr (Or.inr (by omega)))⟩
set_option maxRecDepth 20000 in
set_option maxHeartbeats 4000000 in
theorem B62 {xs : Option (List Int32)} {d : Nat} {w : List sx_C} (hI : WI w) (a1 : Int32) : sx_RP xs (d + 7) 62 0 (lv_args 0 [.ref 0, .int a1]) [] w (fun r w2 => (r = some (.int (disA (FCb w) a1)) ∧ FCb w2 = disU (FCb w) a1) ∧ WI w2 ∧ ∀ a, 111 ≤ a → w2[a]? = w[a]?) := by
  obtain ⟨n, hn, en⟩ := (hI.c (Or.inl rfl)).2
  refine sx_RP.step (pc2 := 1) (ls2 := [(0, .ref 0), (1, .int a1)]) (st2 := [.int a1]) (w3 := w) rfl rfl ?_
  rcases in_cases a1 0 47 (m := 0) (n := 47) rfl rfl (by decide) (by decide) with q1 | ⟨x2, hx3, hx4, rfl⟩
  · refine sx_RP.cu (as := [.int a1]) (rest2 := []) (st3 := [.int 0]) rfl rfl rfl rfl rfl (cx_7n q1) rfl ?_
    refine sx_RP.step (pc2 := 7) (ls2 := [(0, .ref 0), (1, .int a1)]) (st2 := []) (w3 := w) rfl rfl ?_
    refine sx_RP.step (pc2 := 8) (ls2 := [(0, .ref 0), (1, .int a1)]) (st2 := [.ref 0]) (w3 := w) rfl rfl ?_
    refine sx_RP.step (pc2 := 10) (ls2 := [(0, .ref 0), (1, .int a1)]) (st2 := [.int (-1000000001), .ref 0]) (w3 := w) rfl rfl ?_
    refine sx_RP.callp (as2 := [.ref 0, .int (-1000000001)]) (rest2 := []) rfl rfl (sx_inv_v2 (mi := 62) (k := 78) (st := [.int (-1000000001), .ref 0]) (w := w) rfl rfl hI.1.o0 rfl rfl rfl) rfl rfl rfl (Q9_0 hI) (show _ = 13 from rfl) ?_
    rintro r4 w7 ⟨rfl, hI8, hE6⟩
    show sx_RP _ _ _ _ _ [.int (-1000000001)] _ _
    refine sx_RP.ret (r := (some (.int (-1000000001)))) rfl rfl ?_
    exact ⟨⟨by rw [(dis_1 q1).1], by rw [(dis_1 q1).2]; exact FCb_en hI hE6.en⟩, hI8, fun a ha => hE6 a (Or.inr (Or.inr (by omega)))⟩
  · refine sx_RP.cu (as := [.int (nI x2)]) (rest2 := []) (st3 := [.int 1]) rfl rfl rfl rfl rfl (cx_7p ⟨nI_le (a := 0) hx3 (by omega), nI_le (b := 47) hx4 (by decide)⟩) rfl ?_
    refine sx_RP.step (pc2 := 14) (ls2 := [(0, .ref 0), (1, .int (nI x2))]) (st2 := []) (w3 := w) rfl rfl ?_
    refine sx_RP.step (pc2 := 15) (ls2 := [(0, .ref 0), (1, .int (nI x2))]) (st2 := [.ref 0]) (w3 := w) rfl rfl ?_
    refine sx_RP.gf (v := .ref 1) rfl rfl hI.1.o0 rfl rfl (show _ = 18 from rfl) ?_
    rcases Decidable.em (n < 9) with c9 | c9
    · refine sx_RP.cu (as := [.ref 1]) (rest2 := []) (st3 := [.int 1]) rfl rfl (sx_inv_v2 (mi := 62) (k := 219) (st := [.ref 1]) (w := w) rfl rfl (hI.1.oC (Or.inl rfl)) rfl rfl rfl) rfl rfl (p63y hI (Or.inl rfl) en hn c9) rfl ?_
      refine sx_RP.step (pc2 := 31) (ls2 := [(0, .ref 0), (1, .int (nI x2))]) (st2 := []) (w3 := w) rfl rfl ?_
      refine sx_RP.step (pc2 := 32) (ls2 := [(0, .ref 0), (1, .int (nI x2))]) (st2 := [.ref 0]) (w3 := w) rfl rfl ?_
      refine sx_RP.gf (v := .ref 1) rfl rfl hI.1.o0 rfl rfl (show _ = 35 from rfl) ?_
      refine sx_RP.step (pc2 := 36) (ls2 := [(0, .ref 0), (1, .int (nI x2))]) (st2 := [.int (nI x2), .ref 1]) (w3 := w) rfl rfl ?_
      refine sx_RP.callp (as2 := [.ref 1, .int (nI x2)]) (rest2 := []) rfl rfl (sx_inv_v2 (mi := 62) (k := 222) (st := [.int (nI x2), .ref 1]) (w := w) rfl rfl (hI.1.oC (Or.inl rfl)) rfl rfl rfl) rfl rfl rfl (X64 hI (Or.inl rfl) (by omega) en (show x2 < 48 by omega)) (show _ = 39 from rfl) ?_
      rintro r4 w12 ⟨⟨rfl, hc10⟩, hI13, ho11⟩
      show sx_RP _ _ _ _ _ [.int (nI n)] _ _
      refine sx_RP.ret (r := (some (.int (nI n)))) rfl rfl ?_
      exact ⟨⟨by rw [(dis_3 ⟨nI_le (a := 0) (show 0 ≤ x2 by omega) (by omega), nI_le (b := 47) (show x2 ≤ 47 by omega) (by decide)⟩ (by rw [FCb_dlen en (by omega)]; exact c9)).1, FCb_dlen en (by omega)], by rw [(dis_3 ⟨nI_le (a := 0) (show 0 ≤ x2 by omega) (by omega), nI_le (b := 47) (show x2 ≤ 47 by omega) (by decide)⟩ (by rw [FCb_dlen en (by omega)]; exact c9)).2, FCb_camp hI ho11, hc10]; rfl⟩, hI13, fun a ha => ho11 a (by omega)⟩
    · refine sx_RP.cu (as := [.ref 1]) (rest2 := []) (st3 := [.int 0]) rfl rfl (sx_inv_v2 (mi := 62) (k := 219) (st := [.ref 1]) (w := w) rfl rfl (hI.1.oC (Or.inl rfl)) rfl rfl rfl) rfl rfl (p63n hI (Or.inl rfl) en hn c9) rfl ?_
      refine sx_RP.step (pc2 := 24) (ls2 := [(0, .ref 0), (1, .int (nI x2))]) (st2 := []) (w3 := w) rfl rfl ?_
      refine sx_RP.step (pc2 := 25) (ls2 := [(0, .ref 0), (1, .int (nI x2))]) (st2 := [.ref 0]) (w3 := w) rfl rfl ?_
      refine sx_RP.step (pc2 := 27) (ls2 := [(0, .ref 0), (1, .int (nI x2))]) (st2 := [.int (-1000000002), .ref 0]) (w3 := w) rfl rfl ?_
      refine sx_RP.callp (as2 := [.ref 0, .int (-1000000002)]) (rest2 := []) rfl rfl (sx_inv_v2 (mi := 62) (k := 78) (st := [.int (-1000000002), .ref 0]) (w := w) rfl rfl hI.1.o0 rfl rfl rfl) rfl rfl rfl (Q9_1 hI) (show _ = 30 from rfl) ?_
      rintro r4 w15 ⟨rfl, hI16, hE14⟩
      show sx_RP _ _ _ _ _ [.int (-1000000002)] _ _
      refine sx_RP.ret (r := (some (.int (-1000000002)))) rfl rfl ?_
      exact ⟨⟨by rw [(dis_2 ⟨nI_le (a := 0) (show 0 ≤ x2 by omega) (by omega), nI_le (b := 47) (show x2 ≤ 47 by omega) (by decide)⟩ (by rw [FCb_dlen en (by omega)]; exact c9)).1], by rw [(dis_2 ⟨nI_le (a := 0) (show 0 ≤ x2 by omega) (by omega), nI_le (b := 47) (show x2 ≤ 47 by omega) (by decide)⟩ (by rw [FCb_dlen en (by omega)]; exact c9)).2]; exact FCb_en hI hE14.en⟩, hI16, fun a ha => hE14 a (Or.inr (Or.inr (by omega)))⟩
set_option maxRecDepth 20000 in
set_option maxHeartbeats 4000000 in
theorem B65 {xs : Option (List Int32)} {d : Nat} {w : List sx_C} (hI : WI w) (a1 a2 : Int32) : sx_RP xs (d + 7) 65 0 (lv_args 0 [.ref 0, .int a1, .int a2]) [] w (fun r w2 => (r = some (.int (movA (FCb w) a1 a2)) ∧ FCb w2 = movU (FCb w) a1 a2) ∧ WI w2 ∧ ∀ a, 111 ≤ a → w2[a]? = w[a]?) := by
  obtain ⟨n, hn, en⟩ := (hI.c (Or.inl rfl)).2
  refine sx_RP.step (pc2 := 1) (ls2 := [(0, .ref 0), (1, .int a1), (2, .int a2)]) (st2 := [.ref 0]) (w3 := w) rfl rfl ?_
  refine sx_RP.gf (v := .ref 1) rfl rfl hI.1.o0 rfl rfl (show _ = 4 from rfl) ?_
  refine sx_RP.step (pc2 := 5) (ls2 := [(0, .ref 0), (1, .int a1), (2, .int a2)]) (st2 := [.int a1, .ref 1]) (w3 := w) rfl rfl ?_
  rcases Decidable.em (0 ≤ a1 ∧ a1 < nI n) with c1 | c1
  · obtain ⟨x2, hx3, rfl⟩ := idx_get c1 (by omega)
    refine sx_RP.cu (as := [.ref 1, .int (nI x2)]) (rest2 := []) (st3 := [.int 1]) rfl rfl (sx_inv_v2 (mi := 65) (k := 225) (st := [.int (nI x2), .ref 1]) (w := w) rfl rfl (hI.1.oC (Or.inl rfl)) rfl rfl rfl) rfl rfl (p66y hI (Or.inl rfl) en hn c1) rfl ?_
    refine sx_RP.step (pc2 := 11) (ls2 := [(0, .ref 0), (1, .int (nI x2)), (2, .int a2)]) (st2 := []) (w3 := w) rfl rfl ?_
    refine sx_RP.step (pc2 := 12) (ls2 := [(0, .ref 0), (1, .int (nI x2)), (2, .int a2)]) (st2 := [.int a2]) (w3 := w) rfl rfl ?_
    rcases in_cases a2 0 47 (m := 0) (n := 47) rfl rfl (by decide) (by decide) with q4 | ⟨x5, hx6, hx7, rfl⟩
    · refine sx_RP.cu (as := [.int a2]) (rest2 := []) (st3 := [.int 0]) rfl rfl rfl rfl rfl (cx_7n q4) rfl ?_
      refine sx_RP.step (pc2 := 18) (ls2 := [(0, .ref 0), (1, .int (nI x2)), (2, .int a2)]) (st2 := []) (w3 := w) rfl rfl ?_
      refine sx_RP.step (pc2 := 19) (ls2 := [(0, .ref 0), (1, .int (nI x2)), (2, .int a2)]) (st2 := [.ref 0]) (w3 := w) rfl rfl ?_
      refine sx_RP.step (pc2 := 21) (ls2 := [(0, .ref 0), (1, .int (nI x2)), (2, .int a2)]) (st2 := [.int (-1000000001), .ref 0]) (w3 := w) rfl rfl ?_
      refine sx_RP.callp (as2 := [.ref 0, .int (-1000000001)]) (rest2 := []) rfl rfl (sx_inv_v2 (mi := 65) (k := 78) (st := [.int (-1000000001), .ref 0]) (w := w) rfl rfl hI.1.o0 rfl rfl rfl) rfl rfl rfl (Q9_0 hI) (show _ = 24 from rfl) ?_
      rintro r4 w10 ⟨rfl, hI11, hE9⟩
      show sx_RP _ _ _ _ _ [.int (-1000000001)] _ _
      refine sx_RP.ret (r := (some (.int (-1000000001)))) rfl rfl ?_
      exact ⟨⟨by rw [(mov_1 (fun z => q4 z.2)).1], by rw [(mov_1 (fun z => q4 z.2)).2]; exact FCb_en hI hE9.en⟩, hI11, fun a ha => hE9 a (Or.inr (Or.inr (by omega)))⟩
    · refine sx_RP.cu (as := [.int (nI x5)]) (rest2 := []) (st3 := [.int 1]) rfl rfl rfl rfl rfl (cx_7p ⟨nI_le (a := 0) hx6 (by omega), nI_le (b := 47) hx7 (by decide)⟩) rfl ?_
      refine sx_RP.step (pc2 := 25) (ls2 := [(0, .ref 0), (1, .int (nI x2)), (2, .int (nI x5))]) (st2 := []) (w3 := w) rfl rfl ?_
      refine sx_RP.step (pc2 := 26) (ls2 := [(0, .ref 0), (1, .int (nI x2)), (2, .int (nI x5))]) (st2 := [.ref 0]) (w3 := w) rfl rfl ?_
      refine sx_RP.gf (v := .ref 1) rfl rfl hI.1.o0 rfl rfl (show _ = 29 from rfl) ?_
      refine sx_RP.gref (k := 4) (b := 4) hI (Or.inl rfl) rfl rfl (by omega) (show _ = 32 from rfl) ?_
      refine sx_RP.step (pc2 := 33) (ls2 := [(0, .ref 0), (1, .int (nI x2)), (2, .int (nI x5))]) (st2 := [.int (nI x2), .ref 4]) (w3 := w) rfl rfl ?_
      refine sx_RP.ild (c := x2) rfl (hI.1.aD (Or.inl rfl)).1 (hI.1.aD (Or.inl rfl)).2 (sx_in_nI (show x2 < 9 by omega) (by decide)) (show (nI x2).toNatClampNeg = x2 from nI_clamp (by omega)) (show _ = 34 from rfl) ?_
      obtain ⟨x12, hx13, ex14⟩ : inR ((ia w 4).getD x2 0) 47 := hI.di (Or.inl rfl) (show x2 < 9 by omega)
      rw [ex14]
      refine sx_RP.step (pc2 := 35) (ls2 := [(3, .int (nI x12)), (0, .ref 0), (1, .int (nI x2)), (2, .int (nI x5))]) (st2 := []) (w3 := w) rfl rfl ?_
      refine sx_RP.step (pc2 := 36) (ls2 := [(3, .int (nI x12)), (0, .ref 0), (1, .int (nI x2)), (2, .int (nI x5))]) (st2 := [.ref 0]) (w3 := w) rfl rfl ?_
      refine sx_RP.gf (v := .ref 1) rfl rfl hI.1.o0 rfl rfl (show _ = 39 from rfl) ?_
      refine sx_RP.gref (k := 4) (b := 4) hI (Or.inl rfl) rfl rfl (by omega) (show _ = 42 from rfl) ?_
      refine sx_RP.step (pc2 := 43) (ls2 := [(3, .int (nI x12)), (0, .ref 0), (1, .int (nI x2)), (2, .int (nI x5))]) (st2 := [.int (nI x2), .ref 4]) (w3 := w) rfl rfl ?_
      refine sx_RP.step (pc2 := 44) (ls2 := [(3, .int (nI x12)), (0, .ref 0), (1, .int (nI x2)), (2, .int (nI x5))]) (st2 := [.int (nI x5), .int (nI x2), .ref 4]) (w3 := w) rfl rfl ?_
      refine sx_RP.xD (A := 1) (c := x2) hI (Or.inl rfl) rfl (show x2 < 9 by omega) (inR.n (show x5 ≤ 47 by omega)) (show _ = 45 from rfl) (fun w15 hI16 hs17 hv18 => ?_)
      have ex19 := (fi_same 5 (hs17 1 (by omega))).trans en
      refine sx_RP.step (pc2 := 46) (ls2 := [(3, .int (nI x12)), (0, .ref 0), (1, .int (nI x2)), (2, .int (nI x5))]) (st2 := [.int (nI x12)]) (w3 := w15) rfl rfl ?_
      refine sx_RP.ret (r := (some (.int (nI x12)))) rfl rfl ?_
      have ho : Out 1 w w15 := Out.st Out.rf hs17 (by omega)
      exact ⟨⟨by rw [(mov_2 ⟨by rw [FCb_dlen en (by omega)]; exact c1, ⟨nI_le (a := 0) (show 0 ≤ x5 by omega) (by omega), nI_le (b := 47) (show x5 ≤ 47 by omega) (by decide)⟩⟩).1, FCb_dish en hn hx3, show (ia w (1 + 3)).getD x2 0 = _ from ex14], by rw [(mov_2 ⟨by rw [FCb_dlen en (by omega)]; exact c1, ⟨nI_le (a := 0) (show 0 ≤ x5 by omega) (by omega), nI_le (b := 47) (show x5 ≤ 47 by omega) (by decide)⟩⟩).2, FCb_camp hI ho, campB_setD hI (Or.inl rfl) en hn hx3 hs17 hv18, iN_n (show x2 < 2 ^ 31 by omega)]; rfl⟩, hI16, fun a ha => ho a (by omega)⟩
  · refine sx_RP.cu (as := [.ref 1, .int a1]) (rest2 := []) (st3 := [.int 0]) rfl rfl (sx_inv_v2 (mi := 65) (k := 225) (st := [.int a1, .ref 1]) (w := w) rfl rfl (hI.1.oC (Or.inl rfl)) rfl rfl rfl) rfl rfl (p66n hI (Or.inl rfl) en hn c1) rfl ?_
    refine sx_RP.step (pc2 := 18) (ls2 := [(0, .ref 0), (1, .int a1), (2, .int a2)]) (st2 := []) (w3 := w) rfl rfl ?_
    refine sx_RP.step (pc2 := 19) (ls2 := [(0, .ref 0), (1, .int a1), (2, .int a2)]) (st2 := [.ref 0]) (w3 := w) rfl rfl ?_
    refine sx_RP.step (pc2 := 21) (ls2 := [(0, .ref 0), (1, .int a1), (2, .int a2)]) (st2 := [.int (-1000000001), .ref 0]) (w3 := w) rfl rfl ?_
    refine sx_RP.callp (as2 := [.ref 0, .int (-1000000001)]) (rest2 := []) rfl rfl (sx_inv_v2 (mi := 65) (k := 78) (st := [.int (-1000000001), .ref 0]) (w := w) rfl rfl hI.1.o0 rfl rfl rfl) rfl rfl rfl (Q9_0 hI) (show _ = 24 from rfl) ?_
    rintro r4 w21 ⟨rfl, hI22, hE20⟩
    show sx_RP _ _ _ _ _ [.int (-1000000001)] _ _
    refine sx_RP.ret (r := (some (.int (-1000000001)))) rfl rfl ?_
    exact ⟨⟨by rw [(mov_1 (fun z => c1 (by rw [← FCb_dlen en (by omega)]; exact z.1))).1], by rw [(mov_1 (fun z => c1 (by rw [← FCb_dlen en (by omega)]; exact z.1))).2]; exact FCb_en hI hE20.en⟩, hI22, fun a ha => hE20 a (Or.inr (Or.inr (by omega)))⟩
set_option maxRecDepth 20000 in
set_option maxHeartbeats 4000000 in
theorem B82 {xs : Option (List Int32)} {d : Nat} {w : List sx_C} (hI : WI w) (a1 a2 : Int32) : sx_RP xs (d + 7) 82 0 (lv_args 0 [.ref 0, .int a1, .int a2]) [] w (fun r w2 => (r = some (.int (breA (FCb w) a1 a2)) ∧ FCb w2 = breU (FCb w) a1 a2) ∧ WI w2 ∧ ∀ a, 111 ≤ a → w2[a]? = w[a]?) := by
  refine sx_RP.step (pc2 := 1) (ls2 := [(0, .ref 0), (1, .int a1), (2, .int a2)]) (st2 := [.int a1]) (w3 := w) rfl rfl ?_
  refine sx_RP.br (p1 := 34) (l1 := [(0, .ref 0), (1, .int a1), (2, .int a2)]) (s1 := []) (v1 := w) (p2 := 4) (l2 := [(0, .ref 0), (1, .int a1), (2, .int a2)]) (s2 := []) (v2 := w) rfl rfl (fun q1 => ?_) (fun q1 => ?_)
  · replace q1 := of_decide_eq_true q1
    refine sx_RP.step (pc2 := 35) (ls2 := [(0, .ref 0), (1, .int a1), (2, .int a2)]) (st2 := [.int a1]) (w3 := w) rfl rfl ?_
    refine sx_RP.step (pc2 := 36) (ls2 := [(0, .ref 0), (1, .int a1), (2, .int a2)]) (st2 := [.int 1, .int a1]) (w3 := w) rfl rfl ?_
    refine sx_RP.br (p1 := 69) (l1 := [(0, .ref 0), (1, .int a1), (2, .int a2)]) (s1 := []) (v1 := w) (p2 := 39) (l2 := [(0, .ref 0), (1, .int a1), (2, .int a2)]) (s2 := []) (v2 := w) rfl rfl (fun q2 => ?_) (fun q2 => ?_)
    · replace q2 := of_decide_eq_true q2
      refine sx_RP.step (pc2 := 70) (ls2 := [(0, .ref 0), (1, .int a1), (2, .int a2)]) (st2 := [.int a1]) (w3 := w) rfl rfl ?_
      refine sx_RP.step (pc2 := 71) (ls2 := [(0, .ref 0), (1, .int a1), (2, .int a2)]) (st2 := [.int 2, .int a1]) (w3 := w) rfl rfl ?_
      refine sx_RP.br (p1 := 103) (l1 := [(0, .ref 0), (1, .int a1), (2, .int a2)]) (s1 := []) (v1 := w) (p2 := 74) (l2 := [(0, .ref 0), (1, .int a1), (2, .int a2)]) (s2 := []) (v2 := w) rfl rfl (fun q3 => ?_) (fun q3 => ?_)
      · replace q3 := of_decide_eq_true q3
        refine sx_RP.step (pc2 := 104) (ls2 := [(0, .ref 0), (1, .int a1), (2, .int a2)]) (st2 := [.ref 0]) (w3 := w) rfl rfl ?_
        refine sx_RP.step (pc2 := 106) (ls2 := [(0, .ref 0), (1, .int a1), (2, .int a2)]) (st2 := [.int (-1000000001), .ref 0]) (w3 := w) rfl rfl ?_
        refine sx_RP.callp (as2 := [.ref 0, .int (-1000000001)]) (rest2 := []) rfl rfl (sx_inv_v2 (mi := 82) (k := 78) (st := [.int (-1000000001), .ref 0]) (w := w) rfl rfl hI.1.o0 rfl rfl rfl) rfl rfl rfl (Q9_0 hI) (show _ = 109 from rfl) ?_
        rintro r4 w5 ⟨rfl, hI6, hE4⟩
        show sx_RP _ _ _ _ _ [.int (-1000000001)] _ _
        refine sx_RP.step (pc2 := 110) (ls2 := [(3, .int (-1000000001)), (0, .ref 0), (1, .int a1), (2, .int a2)]) (st2 := []) (w3 := w5) rfl rfl ?_
        refine sx_RP.step (pc2 := 111) (ls2 := [(3, .int (-1000000001)), (0, .ref 0), (1, .int a1), (2, .int a2)]) (st2 := [.int (-1000000001)]) (w3 := w5) rfl rfl ?_
        refine sx_RP.ret (r := (some (.int (-1000000001)))) rfl rfl ?_
        exact ⟨⟨by rw [(bre_3 (fun z => q1 z.1) (fun z => q2 z.1) (fun z => q3 z.1)).1], by rw [(bre_3 (fun z => q1 z.1) (fun z => q2 z.1) (fun z => q3 z.1)).2]; exact FCb_en hI hE4.en⟩, hI6, fun a ha => hE4 a (Or.inr (Or.inr (by omega)))⟩
      · replace q3 := Decidable.not_not.mp (of_decide_eq_false q3)
        refine sx_RP.step (pc2 := 75) (ls2 := [(0, .ref 0), (1, .int a1), (2, .int a2)]) (st2 := [.int a2]) (w3 := w) rfl rfl ?_
        refine sx_RP.step (pc2 := 76) (ls2 := [(0, .ref 0), (1, .int a1), (2, .int a2)]) (st2 := [.int 1, .int a2]) (w3 := w) rfl rfl ?_
        refine sx_RP.step (pc2 := 78) (ls2 := [(0, .ref 0), (1, .int a1), (2, .int a2)]) (st2 := [.int 99, .int 1, .int a2]) (w3 := w) rfl rfl ?_
        rcases Decidable.em ((1 : Int32) ≤ a2 ∧ a2 ≤ 99) with c7 | c7
        · refine sx_RP.cu (as := [.int a2, .int 1, .int 99]) (rest2 := []) (st3 := [.int 1]) rfl rfl rfl rfl rfl (cx_8p c7) rfl ?_
          refine sx_RP.step (pc2 := 84) (ls2 := [(0, .ref 0), (1, .int a1), (2, .int a2)]) (st2 := []) (w3 := w) rfl rfl ?_
          refine sx_RP.step (pc2 := 85) (ls2 := [(0, .ref 0), (1, .int a1), (2, .int a2)]) (st2 := [.ref 0]) (w3 := w) rfl rfl ?_
          refine sx_RP.gf (v := .ref 1) rfl rfl hI.1.o0 rfl rfl (show _ = 88 from rfl) ?_
          refine sx_RP.gc (k := 10) hI (Or.inl rfl) rfl rfl (by omega) (show _ = 91 from rfl) ?_
          refine sx_RP.step (pc2 := 92) (ls2 := [(3, .int (fi w 1 10)), (0, .ref 0), (1, .int a1), (2, .int a2)]) (st2 := []) (w3 := w) rfl rfl ?_
          refine sx_RP.step (pc2 := 93) (ls2 := [(3, .int (fi w 1 10)), (0, .ref 0), (1, .int a1), (2, .int a2)]) (st2 := [.ref 0]) (w3 := w) rfl rfl ?_
          refine sx_RP.gf (v := .ref 1) rfl rfl hI.1.o0 rfl rfl (show _ = 96 from rfl) ?_
          refine sx_RP.step (pc2 := 97) (ls2 := [(3, .int (fi w 1 10)), (0, .ref 0), (1, .int a1), (2, .int a2)]) (st2 := [.int a2, .ref 1]) (w3 := w) rfl rfl ?_
          refine sx_RP.xC (k := 10) hI (Or.inl rfl) rfl rfl (by omega) rfl trivial (show _ = 100 from rfl) (fun w8 hI9 hs10 hv11 hr12 hj13 => ?_)
          refine sx_RP.step (pc2 := 110) (ls2 := [(3, .int (fi w 1 10)), (0, .ref 0), (1, .int a1), (2, .int a2)]) (st2 := []) (w3 := w8) rfl rfl ?_
          refine sx_RP.step (pc2 := 111) (ls2 := [(3, .int (fi w 1 10)), (0, .ref 0), (1, .int a1), (2, .int a2)]) (st2 := [.int (fi w 1 10)]) (w3 := w8) rfl rfl ?_
          refine sx_RP.ret (r := (some (.int (fi w 1 10)))) rfl rfl ?_
          have ho : Out 1 w w8 := Out.st Out.rf hs10 (by omega)
          exact ⟨⟨by rw [(bre_2 ⟨q3, c7⟩).1]; rfl, by rw [(bre_2 ⟨q3, c7⟩).2, FCb_camp hI ho, campB_setF hs10 (by decide) hv11 hr12]; rfl⟩, hI9, fun a ha => ho a (by omega)⟩
        · refine sx_RP.cu (as := [.int a2, .int 1, .int 99]) (rest2 := []) (st3 := [.int 0]) rfl rfl rfl rfl rfl (cx_8n c7) rfl ?_
          refine sx_RP.step (pc2 := 103) (ls2 := [(0, .ref 0), (1, .int a1), (2, .int a2)]) (st2 := []) (w3 := w) rfl rfl ?_
          refine sx_RP.step (pc2 := 104) (ls2 := [(0, .ref 0), (1, .int a1), (2, .int a2)]) (st2 := [.ref 0]) (w3 := w) rfl rfl ?_
          refine sx_RP.step (pc2 := 106) (ls2 := [(0, .ref 0), (1, .int a1), (2, .int a2)]) (st2 := [.int (-1000000001), .ref 0]) (w3 := w) rfl rfl ?_
          refine sx_RP.callp (as2 := [.ref 0, .int (-1000000001)]) (rest2 := []) rfl rfl (sx_inv_v2 (mi := 82) (k := 78) (st := [.int (-1000000001), .ref 0]) (w := w) rfl rfl hI.1.o0 rfl rfl rfl) rfl rfl rfl (Q9_0 hI) (show _ = 109 from rfl) ?_
          rintro r4 w15 ⟨rfl, hI16, hE14⟩
          show sx_RP _ _ _ _ _ [.int (-1000000001)] _ _
          refine sx_RP.step (pc2 := 110) (ls2 := [(3, .int (-1000000001)), (0, .ref 0), (1, .int a1), (2, .int a2)]) (st2 := []) (w3 := w15) rfl rfl ?_
          refine sx_RP.step (pc2 := 111) (ls2 := [(3, .int (-1000000001)), (0, .ref 0), (1, .int a1), (2, .int a2)]) (st2 := [.int (-1000000001)]) (w3 := w15) rfl rfl ?_
          refine sx_RP.ret (r := (some (.int (-1000000001)))) rfl rfl ?_
          exact ⟨⟨by rw [(bre_3 (fun z => q1 z.1) (fun z => q2 z.1) (fun z => c7 z.2)).1], by rw [(bre_3 (fun z => q1 z.1) (fun z => q2 z.1) (fun z => c7 z.2)).2]; exact FCb_en hI hE14.en⟩, hI16, fun a ha => hE14 a (Or.inr (Or.inr (by omega)))⟩
    · replace q2 := Decidable.not_not.mp (of_decide_eq_false q2)
      refine sx_RP.step (pc2 := 40) (ls2 := [(0, .ref 0), (1, .int a1), (2, .int a2)]) (st2 := [.int a2]) (w3 := w) rfl rfl ?_
      refine sx_RP.step (pc2 := 41) (ls2 := [(0, .ref 0), (1, .int a1), (2, .int a2)]) (st2 := [.int 1, .int a2]) (w3 := w) rfl rfl ?_
      refine sx_RP.step (pc2 := 44) (ls2 := [(0, .ref 0), (1, .int a1), (2, .int a2)]) (st2 := [.int 999, .int 1, .int a2]) (w3 := w) rfl rfl ?_
      rcases Decidable.em ((1 : Int32) ≤ a2 ∧ a2 ≤ 999) with c17 | c17
      · refine sx_RP.cu (as := [.int a2, .int 1, .int 999]) (rest2 := []) (st3 := [.int 1]) rfl rfl rfl rfl rfl (cx_8p c17) rfl ?_
        refine sx_RP.step (pc2 := 50) (ls2 := [(0, .ref 0), (1, .int a1), (2, .int a2)]) (st2 := []) (w3 := w) rfl rfl ?_
        refine sx_RP.step (pc2 := 51) (ls2 := [(0, .ref 0), (1, .int a1), (2, .int a2)]) (st2 := [.ref 0]) (w3 := w) rfl rfl ?_
        refine sx_RP.gf (v := .ref 1) rfl rfl hI.1.o0 rfl rfl (show _ = 54 from rfl) ?_
        refine sx_RP.gc (k := 9) hI (Or.inl rfl) rfl rfl (by omega) (show _ = 57 from rfl) ?_
        refine sx_RP.step (pc2 := 58) (ls2 := [(3, .int (fi w 1 9)), (0, .ref 0), (1, .int a1), (2, .int a2)]) (st2 := []) (w3 := w) rfl rfl ?_
        refine sx_RP.step (pc2 := 59) (ls2 := [(3, .int (fi w 1 9)), (0, .ref 0), (1, .int a1), (2, .int a2)]) (st2 := [.ref 0]) (w3 := w) rfl rfl ?_
        refine sx_RP.gf (v := .ref 1) rfl rfl hI.1.o0 rfl rfl (show _ = 62 from rfl) ?_
        refine sx_RP.step (pc2 := 63) (ls2 := [(3, .int (fi w 1 9)), (0, .ref 0), (1, .int a1), (2, .int a2)]) (st2 := [.int a2, .ref 1]) (w3 := w) rfl rfl ?_
        refine sx_RP.xC (k := 9) hI (Or.inl rfl) rfl rfl (by omega) rfl trivial (show _ = 66 from rfl) (fun w18 hI19 hs20 hv21 hr22 hj23 => ?_)
        refine sx_RP.step (pc2 := 110) (ls2 := [(3, .int (fi w 1 9)), (0, .ref 0), (1, .int a1), (2, .int a2)]) (st2 := []) (w3 := w18) rfl rfl ?_
        refine sx_RP.step (pc2 := 111) (ls2 := [(3, .int (fi w 1 9)), (0, .ref 0), (1, .int a1), (2, .int a2)]) (st2 := [.int (fi w 1 9)]) (w3 := w18) rfl rfl ?_
        refine sx_RP.ret (r := (some (.int (fi w 1 9)))) rfl rfl ?_
        have ho : Out 1 w w18 := Out.st Out.rf hs20 (by omega)
        exact ⟨⟨by rw [(bre_1 ⟨q2, c17⟩).1]; rfl, by rw [(bre_1 ⟨q2, c17⟩).2, FCb_camp hI ho, campB_setF hs20 (by decide) hv21 hr22]; rfl⟩, hI19, fun a ha => ho a (by omega)⟩
      · refine sx_RP.cu (as := [.int a2, .int 1, .int 999]) (rest2 := []) (st3 := [.int 0]) rfl rfl rfl rfl rfl (cx_8n c17) rfl ?_
        refine sx_RP.step (pc2 := 69) (ls2 := [(0, .ref 0), (1, .int a1), (2, .int a2)]) (st2 := []) (w3 := w) rfl rfl ?_
        refine sx_RP.step (pc2 := 70) (ls2 := [(0, .ref 0), (1, .int a1), (2, .int a2)]) (st2 := [.int a1]) (w3 := w) rfl rfl ?_
        refine sx_RP.step (pc2 := 71) (ls2 := [(0, .ref 0), (1, .int a1), (2, .int a2)]) (st2 := [.int 2, .int a1]) (w3 := w) rfl rfl ?_
        refine sx_RP.br (p1 := 103) (l1 := [(0, .ref 0), (1, .int a1), (2, .int a2)]) (s1 := []) (v1 := w) (p2 := 74) (l2 := [(0, .ref 0), (1, .int a1), (2, .int a2)]) (s2 := []) (v2 := w) rfl rfl (fun q24 => ?_) (fun q24 => ?_)
        · replace q24 := of_decide_eq_true q24
          refine sx_RP.step (pc2 := 104) (ls2 := [(0, .ref 0), (1, .int a1), (2, .int a2)]) (st2 := [.ref 0]) (w3 := w) rfl rfl ?_
          refine sx_RP.step (pc2 := 106) (ls2 := [(0, .ref 0), (1, .int a1), (2, .int a2)]) (st2 := [.int (-1000000001), .ref 0]) (w3 := w) rfl rfl ?_
          refine sx_RP.callp (as2 := [.ref 0, .int (-1000000001)]) (rest2 := []) rfl rfl (sx_inv_v2 (mi := 82) (k := 78) (st := [.int (-1000000001), .ref 0]) (w := w) rfl rfl hI.1.o0 rfl rfl rfl) rfl rfl rfl (Q9_0 hI) (show _ = 109 from rfl) ?_
          rintro r4 w26 ⟨rfl, hI27, hE25⟩
          show sx_RP _ _ _ _ _ [.int (-1000000001)] _ _
          refine sx_RP.step (pc2 := 110) (ls2 := [(3, .int (-1000000001)), (0, .ref 0), (1, .int a1), (2, .int a2)]) (st2 := []) (w3 := w26) rfl rfl ?_
          refine sx_RP.step (pc2 := 111) (ls2 := [(3, .int (-1000000001)), (0, .ref 0), (1, .int a1), (2, .int a2)]) (st2 := [.int (-1000000001)]) (w3 := w26) rfl rfl ?_
          refine sx_RP.ret (r := (some (.int (-1000000001)))) rfl rfl ?_
          exact ⟨⟨by rw [(bre_3 (fun z => q1 z.1) (fun z => c17 z.2) (fun z => q24 z.1)).1], by rw [(bre_3 (fun z => q1 z.1) (fun z => c17 z.2) (fun z => q24 z.1)).2]; exact FCb_en hI hE25.en⟩, hI27, fun a ha => hE25 a (Or.inr (Or.inr (by omega)))⟩
        · replace q24 := Decidable.not_not.mp (of_decide_eq_false q24)
          refine sx_RP.step (pc2 := 75) (ls2 := [(0, .ref 0), (1, .int a1), (2, .int a2)]) (st2 := [.int a2]) (w3 := w) rfl rfl ?_
          refine sx_RP.step (pc2 := 76) (ls2 := [(0, .ref 0), (1, .int a1), (2, .int a2)]) (st2 := [.int 1, .int a2]) (w3 := w) rfl rfl ?_
          refine sx_RP.step (pc2 := 78) (ls2 := [(0, .ref 0), (1, .int a1), (2, .int a2)]) (st2 := [.int 99, .int 1, .int a2]) (w3 := w) rfl rfl ?_
          rcases Decidable.em ((1 : Int32) ≤ a2 ∧ a2 ≤ 99) with c28 | c28
          · refine sx_RP.cu (as := [.int a2, .int 1, .int 99]) (rest2 := []) (st3 := [.int 1]) rfl rfl rfl rfl rfl (cx_8p c28) rfl ?_
            refine sx_RP.step (pc2 := 84) (ls2 := [(0, .ref 0), (1, .int a1), (2, .int a2)]) (st2 := []) (w3 := w) rfl rfl ?_
            refine sx_RP.step (pc2 := 85) (ls2 := [(0, .ref 0), (1, .int a1), (2, .int a2)]) (st2 := [.ref 0]) (w3 := w) rfl rfl ?_
            refine sx_RP.gf (v := .ref 1) rfl rfl hI.1.o0 rfl rfl (show _ = 88 from rfl) ?_
            refine sx_RP.gc (k := 10) hI (Or.inl rfl) rfl rfl (by omega) (show _ = 91 from rfl) ?_
            refine sx_RP.step (pc2 := 92) (ls2 := [(3, .int (fi w 1 10)), (0, .ref 0), (1, .int a1), (2, .int a2)]) (st2 := []) (w3 := w) rfl rfl ?_
            refine sx_RP.step (pc2 := 93) (ls2 := [(3, .int (fi w 1 10)), (0, .ref 0), (1, .int a1), (2, .int a2)]) (st2 := [.ref 0]) (w3 := w) rfl rfl ?_
            refine sx_RP.gf (v := .ref 1) rfl rfl hI.1.o0 rfl rfl (show _ = 96 from rfl) ?_
            refine sx_RP.step (pc2 := 97) (ls2 := [(3, .int (fi w 1 10)), (0, .ref 0), (1, .int a1), (2, .int a2)]) (st2 := [.int a2, .ref 1]) (w3 := w) rfl rfl ?_
            refine sx_RP.xC (k := 10) hI (Or.inl rfl) rfl rfl (by omega) rfl trivial (show _ = 100 from rfl) (fun w29 hI30 hs31 hv32 hr33 hj34 => ?_)
            refine sx_RP.step (pc2 := 110) (ls2 := [(3, .int (fi w 1 10)), (0, .ref 0), (1, .int a1), (2, .int a2)]) (st2 := []) (w3 := w29) rfl rfl ?_
            refine sx_RP.step (pc2 := 111) (ls2 := [(3, .int (fi w 1 10)), (0, .ref 0), (1, .int a1), (2, .int a2)]) (st2 := [.int (fi w 1 10)]) (w3 := w29) rfl rfl ?_
            refine sx_RP.ret (r := (some (.int (fi w 1 10)))) rfl rfl ?_
            exact absurd (q2.symm.trans q24) (by decide)
          · refine sx_RP.cu (as := [.int a2, .int 1, .int 99]) (rest2 := []) (st3 := [.int 0]) rfl rfl rfl rfl rfl (cx_8n c28) rfl ?_
            refine sx_RP.step (pc2 := 103) (ls2 := [(0, .ref 0), (1, .int a1), (2, .int a2)]) (st2 := []) (w3 := w) rfl rfl ?_
            refine sx_RP.step (pc2 := 104) (ls2 := [(0, .ref 0), (1, .int a1), (2, .int a2)]) (st2 := [.ref 0]) (w3 := w) rfl rfl ?_
            refine sx_RP.step (pc2 := 106) (ls2 := [(0, .ref 0), (1, .int a1), (2, .int a2)]) (st2 := [.int (-1000000001), .ref 0]) (w3 := w) rfl rfl ?_
            refine sx_RP.callp (as2 := [.ref 0, .int (-1000000001)]) (rest2 := []) rfl rfl (sx_inv_v2 (mi := 82) (k := 78) (st := [.int (-1000000001), .ref 0]) (w := w) rfl rfl hI.1.o0 rfl rfl rfl) rfl rfl rfl (Q9_0 hI) (show _ = 109 from rfl) ?_
            rintro r4 w36 ⟨rfl, hI37, hE35⟩
            show sx_RP _ _ _ _ _ [.int (-1000000001)] _ _
            refine sx_RP.step (pc2 := 110) (ls2 := [(3, .int (-1000000001)), (0, .ref 0), (1, .int a1), (2, .int a2)]) (st2 := []) (w3 := w36) rfl rfl ?_
            refine sx_RP.step (pc2 := 111) (ls2 := [(3, .int (-1000000001)), (0, .ref 0), (1, .int a1), (2, .int a2)]) (st2 := [.int (-1000000001)]) (w3 := w36) rfl rfl ?_
            refine sx_RP.ret (r := (some (.int (-1000000001)))) rfl rfl ?_
            exact absurd (q2.symm.trans q24) (by decide)
  · replace q1 := Decidable.not_not.mp (of_decide_eq_false q1)
    refine sx_RP.step (pc2 := 5) (ls2 := [(0, .ref 0), (1, .int a1), (2, .int a2)]) (st2 := [.int a2]) (w3 := w) rfl rfl ?_
    refine sx_RP.step (pc2 := 6) (ls2 := [(0, .ref 0), (1, .int a1), (2, .int a2)]) (st2 := [.int 0, .int a2]) (w3 := w) rfl rfl ?_
    refine sx_RP.step (pc2 := 9) (ls2 := [(0, .ref 0), (1, .int a1), (2, .int a2)]) (st2 := [.int 999999, .int 0, .int a2]) (w3 := w) rfl rfl ?_
    rcases Decidable.em ((0 : Int32) ≤ a2 ∧ a2 ≤ 999999) with c38 | c38
    · refine sx_RP.cu (as := [.int a2, .int 0, .int 999999]) (rest2 := []) (st3 := [.int 1]) rfl rfl rfl rfl rfl (cx_8p c38) rfl ?_
      refine sx_RP.step (pc2 := 15) (ls2 := [(0, .ref 0), (1, .int a1), (2, .int a2)]) (st2 := []) (w3 := w) rfl rfl ?_
      refine sx_RP.step (pc2 := 16) (ls2 := [(0, .ref 0), (1, .int a1), (2, .int a2)]) (st2 := [.ref 0]) (w3 := w) rfl rfl ?_
      refine sx_RP.gf (v := .ref 1) rfl rfl hI.1.o0 rfl rfl (show _ = 19 from rfl) ?_
      refine sx_RP.gc (k := 8) hI (Or.inl rfl) rfl rfl (by omega) (show _ = 22 from rfl) ?_
      refine sx_RP.step (pc2 := 23) (ls2 := [(3, .int (fi w 1 8)), (0, .ref 0), (1, .int a1), (2, .int a2)]) (st2 := []) (w3 := w) rfl rfl ?_
      refine sx_RP.step (pc2 := 24) (ls2 := [(3, .int (fi w 1 8)), (0, .ref 0), (1, .int a1), (2, .int a2)]) (st2 := [.ref 0]) (w3 := w) rfl rfl ?_
      refine sx_RP.gf (v := .ref 1) rfl rfl hI.1.o0 rfl rfl (show _ = 27 from rfl) ?_
      refine sx_RP.step (pc2 := 28) (ls2 := [(3, .int (fi w 1 8)), (0, .ref 0), (1, .int a1), (2, .int a2)]) (st2 := [.int a2, .ref 1]) (w3 := w) rfl rfl ?_
      refine sx_RP.xC (k := 8) hI (Or.inl rfl) rfl rfl (by omega) rfl trivial (show _ = 31 from rfl) (fun w39 hI40 hs41 hv42 hr43 hj44 => ?_)
      refine sx_RP.step (pc2 := 110) (ls2 := [(3, .int (fi w 1 8)), (0, .ref 0), (1, .int a1), (2, .int a2)]) (st2 := []) (w3 := w39) rfl rfl ?_
      refine sx_RP.step (pc2 := 111) (ls2 := [(3, .int (fi w 1 8)), (0, .ref 0), (1, .int a1), (2, .int a2)]) (st2 := [.int (fi w 1 8)]) (w3 := w39) rfl rfl ?_
      refine sx_RP.ret (r := (some (.int (fi w 1 8)))) rfl rfl ?_
      have ho : Out 1 w w39 := Out.st Out.rf hs41 (by omega)
      exact ⟨⟨by rw [(bre_0 ⟨q1, c38⟩).1]; rfl, by rw [(bre_0 ⟨q1, c38⟩).2, FCb_camp hI ho, campB_setF hs41 (by decide) hv42 hr43]; rfl⟩, hI40, fun a ha => ho a (by omega)⟩
    · refine sx_RP.cu (as := [.int a2, .int 0, .int 999999]) (rest2 := []) (st3 := [.int 0]) rfl rfl rfl rfl rfl (cx_8n c38) rfl ?_
      refine sx_RP.step (pc2 := 34) (ls2 := [(0, .ref 0), (1, .int a1), (2, .int a2)]) (st2 := []) (w3 := w) rfl rfl ?_
      refine sx_RP.step (pc2 := 35) (ls2 := [(0, .ref 0), (1, .int a1), (2, .int a2)]) (st2 := [.int a1]) (w3 := w) rfl rfl ?_
      refine sx_RP.step (pc2 := 36) (ls2 := [(0, .ref 0), (1, .int a1), (2, .int a2)]) (st2 := [.int 1, .int a1]) (w3 := w) rfl rfl ?_
      refine sx_RP.br (p1 := 69) (l1 := [(0, .ref 0), (1, .int a1), (2, .int a2)]) (s1 := []) (v1 := w) (p2 := 39) (l2 := [(0, .ref 0), (1, .int a1), (2, .int a2)]) (s2 := []) (v2 := w) rfl rfl (fun q45 => ?_) (fun q45 => ?_)
      · replace q45 := of_decide_eq_true q45
        refine sx_RP.step (pc2 := 70) (ls2 := [(0, .ref 0), (1, .int a1), (2, .int a2)]) (st2 := [.int a1]) (w3 := w) rfl rfl ?_
        refine sx_RP.step (pc2 := 71) (ls2 := [(0, .ref 0), (1, .int a1), (2, .int a2)]) (st2 := [.int 2, .int a1]) (w3 := w) rfl rfl ?_
        refine sx_RP.br (p1 := 103) (l1 := [(0, .ref 0), (1, .int a1), (2, .int a2)]) (s1 := []) (v1 := w) (p2 := 74) (l2 := [(0, .ref 0), (1, .int a1), (2, .int a2)]) (s2 := []) (v2 := w) rfl rfl (fun q46 => ?_) (fun q46 => ?_)
        · replace q46 := of_decide_eq_true q46
          refine sx_RP.step (pc2 := 104) (ls2 := [(0, .ref 0), (1, .int a1), (2, .int a2)]) (st2 := [.ref 0]) (w3 := w) rfl rfl ?_
          refine sx_RP.step (pc2 := 106) (ls2 := [(0, .ref 0), (1, .int a1), (2, .int a2)]) (st2 := [.int (-1000000001), .ref 0]) (w3 := w) rfl rfl ?_
          refine sx_RP.callp (as2 := [.ref 0, .int (-1000000001)]) (rest2 := []) rfl rfl (sx_inv_v2 (mi := 82) (k := 78) (st := [.int (-1000000001), .ref 0]) (w := w) rfl rfl hI.1.o0 rfl rfl rfl) rfl rfl rfl (Q9_0 hI) (show _ = 109 from rfl) ?_
          rintro r4 w48 ⟨rfl, hI49, hE47⟩
          show sx_RP _ _ _ _ _ [.int (-1000000001)] _ _
          refine sx_RP.step (pc2 := 110) (ls2 := [(3, .int (-1000000001)), (0, .ref 0), (1, .int a1), (2, .int a2)]) (st2 := []) (w3 := w48) rfl rfl ?_
          refine sx_RP.step (pc2 := 111) (ls2 := [(3, .int (-1000000001)), (0, .ref 0), (1, .int a1), (2, .int a2)]) (st2 := [.int (-1000000001)]) (w3 := w48) rfl rfl ?_
          refine sx_RP.ret (r := (some (.int (-1000000001)))) rfl rfl ?_
          exact ⟨⟨by rw [(bre_3 (fun z => c38 z.2) (fun z => q45 z.1) (fun z => q46 z.1)).1], by rw [(bre_3 (fun z => c38 z.2) (fun z => q45 z.1) (fun z => q46 z.1)).2]; exact FCb_en hI hE47.en⟩, hI49, fun a ha => hE47 a (Or.inr (Or.inr (by omega)))⟩
        · replace q46 := Decidable.not_not.mp (of_decide_eq_false q46)
          refine sx_RP.step (pc2 := 75) (ls2 := [(0, .ref 0), (1, .int a1), (2, .int a2)]) (st2 := [.int a2]) (w3 := w) rfl rfl ?_
          refine sx_RP.step (pc2 := 76) (ls2 := [(0, .ref 0), (1, .int a1), (2, .int a2)]) (st2 := [.int 1, .int a2]) (w3 := w) rfl rfl ?_
          refine sx_RP.step (pc2 := 78) (ls2 := [(0, .ref 0), (1, .int a1), (2, .int a2)]) (st2 := [.int 99, .int 1, .int a2]) (w3 := w) rfl rfl ?_
          rcases Decidable.em ((1 : Int32) ≤ a2 ∧ a2 ≤ 99) with c50 | c50
          · refine sx_RP.cu (as := [.int a2, .int 1, .int 99]) (rest2 := []) (st3 := [.int 1]) rfl rfl rfl rfl rfl (cx_8p c50) rfl ?_
            refine sx_RP.step (pc2 := 84) (ls2 := [(0, .ref 0), (1, .int a1), (2, .int a2)]) (st2 := []) (w3 := w) rfl rfl ?_
            refine sx_RP.step (pc2 := 85) (ls2 := [(0, .ref 0), (1, .int a1), (2, .int a2)]) (st2 := [.ref 0]) (w3 := w) rfl rfl ?_
            refine sx_RP.gf (v := .ref 1) rfl rfl hI.1.o0 rfl rfl (show _ = 88 from rfl) ?_
            refine sx_RP.gc (k := 10) hI (Or.inl rfl) rfl rfl (by omega) (show _ = 91 from rfl) ?_
            refine sx_RP.step (pc2 := 92) (ls2 := [(3, .int (fi w 1 10)), (0, .ref 0), (1, .int a1), (2, .int a2)]) (st2 := []) (w3 := w) rfl rfl ?_
            refine sx_RP.step (pc2 := 93) (ls2 := [(3, .int (fi w 1 10)), (0, .ref 0), (1, .int a1), (2, .int a2)]) (st2 := [.ref 0]) (w3 := w) rfl rfl ?_
            refine sx_RP.gf (v := .ref 1) rfl rfl hI.1.o0 rfl rfl (show _ = 96 from rfl) ?_
            refine sx_RP.step (pc2 := 97) (ls2 := [(3, .int (fi w 1 10)), (0, .ref 0), (1, .int a1), (2, .int a2)]) (st2 := [.int a2, .ref 1]) (w3 := w) rfl rfl ?_
            refine sx_RP.xC (k := 10) hI (Or.inl rfl) rfl rfl (by omega) rfl trivial (show _ = 100 from rfl) (fun w51 hI52 hs53 hv54 hr55 hj56 => ?_)
            refine sx_RP.step (pc2 := 110) (ls2 := [(3, .int (fi w 1 10)), (0, .ref 0), (1, .int a1), (2, .int a2)]) (st2 := []) (w3 := w51) rfl rfl ?_
            refine sx_RP.step (pc2 := 111) (ls2 := [(3, .int (fi w 1 10)), (0, .ref 0), (1, .int a1), (2, .int a2)]) (st2 := [.int (fi w 1 10)]) (w3 := w51) rfl rfl ?_
            refine sx_RP.ret (r := (some (.int (fi w 1 10)))) rfl rfl ?_
            exact absurd (q1.symm.trans q46) (by decide)
          · refine sx_RP.cu (as := [.int a2, .int 1, .int 99]) (rest2 := []) (st3 := [.int 0]) rfl rfl rfl rfl rfl (cx_8n c50) rfl ?_
            refine sx_RP.step (pc2 := 103) (ls2 := [(0, .ref 0), (1, .int a1), (2, .int a2)]) (st2 := []) (w3 := w) rfl rfl ?_
            refine sx_RP.step (pc2 := 104) (ls2 := [(0, .ref 0), (1, .int a1), (2, .int a2)]) (st2 := [.ref 0]) (w3 := w) rfl rfl ?_
            refine sx_RP.step (pc2 := 106) (ls2 := [(0, .ref 0), (1, .int a1), (2, .int a2)]) (st2 := [.int (-1000000001), .ref 0]) (w3 := w) rfl rfl ?_
            refine sx_RP.callp (as2 := [.ref 0, .int (-1000000001)]) (rest2 := []) rfl rfl (sx_inv_v2 (mi := 82) (k := 78) (st := [.int (-1000000001), .ref 0]) (w := w) rfl rfl hI.1.o0 rfl rfl rfl) rfl rfl rfl (Q9_0 hI) (show _ = 109 from rfl) ?_
            rintro r4 w58 ⟨rfl, hI59, hE57⟩
            show sx_RP _ _ _ _ _ [.int (-1000000001)] _ _
            refine sx_RP.step (pc2 := 110) (ls2 := [(3, .int (-1000000001)), (0, .ref 0), (1, .int a1), (2, .int a2)]) (st2 := []) (w3 := w58) rfl rfl ?_
            refine sx_RP.step (pc2 := 111) (ls2 := [(3, .int (-1000000001)), (0, .ref 0), (1, .int a1), (2, .int a2)]) (st2 := [.int (-1000000001)]) (w3 := w58) rfl rfl ?_
            refine sx_RP.ret (r := (some (.int (-1000000001)))) rfl rfl ?_
            exact absurd (q1.symm.trans q46) (by decide)
      · replace q45 := Decidable.not_not.mp (of_decide_eq_false q45)
        refine sx_RP.step (pc2 := 40) (ls2 := [(0, .ref 0), (1, .int a1), (2, .int a2)]) (st2 := [.int a2]) (w3 := w) rfl rfl ?_
        refine sx_RP.step (pc2 := 41) (ls2 := [(0, .ref 0), (1, .int a1), (2, .int a2)]) (st2 := [.int 1, .int a2]) (w3 := w) rfl rfl ?_
        refine sx_RP.step (pc2 := 44) (ls2 := [(0, .ref 0), (1, .int a1), (2, .int a2)]) (st2 := [.int 999, .int 1, .int a2]) (w3 := w) rfl rfl ?_
        rcases Decidable.em ((1 : Int32) ≤ a2 ∧ a2 ≤ 999) with c60 | c60
        · refine sx_RP.cu (as := [.int a2, .int 1, .int 999]) (rest2 := []) (st3 := [.int 1]) rfl rfl rfl rfl rfl (cx_8p c60) rfl ?_
          refine sx_RP.step (pc2 := 50) (ls2 := [(0, .ref 0), (1, .int a1), (2, .int a2)]) (st2 := []) (w3 := w) rfl rfl ?_
          refine sx_RP.step (pc2 := 51) (ls2 := [(0, .ref 0), (1, .int a1), (2, .int a2)]) (st2 := [.ref 0]) (w3 := w) rfl rfl ?_
          refine sx_RP.gf (v := .ref 1) rfl rfl hI.1.o0 rfl rfl (show _ = 54 from rfl) ?_
          refine sx_RP.gc (k := 9) hI (Or.inl rfl) rfl rfl (by omega) (show _ = 57 from rfl) ?_
          refine sx_RP.step (pc2 := 58) (ls2 := [(3, .int (fi w 1 9)), (0, .ref 0), (1, .int a1), (2, .int a2)]) (st2 := []) (w3 := w) rfl rfl ?_
          refine sx_RP.step (pc2 := 59) (ls2 := [(3, .int (fi w 1 9)), (0, .ref 0), (1, .int a1), (2, .int a2)]) (st2 := [.ref 0]) (w3 := w) rfl rfl ?_
          refine sx_RP.gf (v := .ref 1) rfl rfl hI.1.o0 rfl rfl (show _ = 62 from rfl) ?_
          refine sx_RP.step (pc2 := 63) (ls2 := [(3, .int (fi w 1 9)), (0, .ref 0), (1, .int a1), (2, .int a2)]) (st2 := [.int a2, .ref 1]) (w3 := w) rfl rfl ?_
          refine sx_RP.xC (k := 9) hI (Or.inl rfl) rfl rfl (by omega) rfl trivial (show _ = 66 from rfl) (fun w61 hI62 hs63 hv64 hr65 hj66 => ?_)
          refine sx_RP.step (pc2 := 110) (ls2 := [(3, .int (fi w 1 9)), (0, .ref 0), (1, .int a1), (2, .int a2)]) (st2 := []) (w3 := w61) rfl rfl ?_
          refine sx_RP.step (pc2 := 111) (ls2 := [(3, .int (fi w 1 9)), (0, .ref 0), (1, .int a1), (2, .int a2)]) (st2 := [.int (fi w 1 9)]) (w3 := w61) rfl rfl ?_
          refine sx_RP.ret (r := (some (.int (fi w 1 9)))) rfl rfl ?_
          exact absurd (q1.symm.trans q45) (by decide)
        · refine sx_RP.cu (as := [.int a2, .int 1, .int 999]) (rest2 := []) (st3 := [.int 0]) rfl rfl rfl rfl rfl (cx_8n c60) rfl ?_
          refine sx_RP.step (pc2 := 69) (ls2 := [(0, .ref 0), (1, .int a1), (2, .int a2)]) (st2 := []) (w3 := w) rfl rfl ?_
          refine sx_RP.step (pc2 := 70) (ls2 := [(0, .ref 0), (1, .int a1), (2, .int a2)]) (st2 := [.int a1]) (w3 := w) rfl rfl ?_
          refine sx_RP.step (pc2 := 71) (ls2 := [(0, .ref 0), (1, .int a1), (2, .int a2)]) (st2 := [.int 2, .int a1]) (w3 := w) rfl rfl ?_
          refine sx_RP.br (p1 := 103) (l1 := [(0, .ref 0), (1, .int a1), (2, .int a2)]) (s1 := []) (v1 := w) (p2 := 74) (l2 := [(0, .ref 0), (1, .int a1), (2, .int a2)]) (s2 := []) (v2 := w) rfl rfl (fun q67 => ?_) (fun q67 => ?_)
          · replace q67 := of_decide_eq_true q67
            refine sx_RP.step (pc2 := 104) (ls2 := [(0, .ref 0), (1, .int a1), (2, .int a2)]) (st2 := [.ref 0]) (w3 := w) rfl rfl ?_
            refine sx_RP.step (pc2 := 106) (ls2 := [(0, .ref 0), (1, .int a1), (2, .int a2)]) (st2 := [.int (-1000000001), .ref 0]) (w3 := w) rfl rfl ?_
            refine sx_RP.callp (as2 := [.ref 0, .int (-1000000001)]) (rest2 := []) rfl rfl (sx_inv_v2 (mi := 82) (k := 78) (st := [.int (-1000000001), .ref 0]) (w := w) rfl rfl hI.1.o0 rfl rfl rfl) rfl rfl rfl (Q9_0 hI) (show _ = 109 from rfl) ?_
            rintro r4 w69 ⟨rfl, hI70, hE68⟩
            show sx_RP _ _ _ _ _ [.int (-1000000001)] _ _
            refine sx_RP.step (pc2 := 110) (ls2 := [(3, .int (-1000000001)), (0, .ref 0), (1, .int a1), (2, .int a2)]) (st2 := []) (w3 := w69) rfl rfl ?_
            refine sx_RP.step (pc2 := 111) (ls2 := [(3, .int (-1000000001)), (0, .ref 0), (1, .int a1), (2, .int a2)]) (st2 := [.int (-1000000001)]) (w3 := w69) rfl rfl ?_
            refine sx_RP.ret (r := (some (.int (-1000000001)))) rfl rfl ?_
            exact absurd (q1.symm.trans q45) (by decide)
          · replace q67 := Decidable.not_not.mp (of_decide_eq_false q67)
            refine sx_RP.step (pc2 := 75) (ls2 := [(0, .ref 0), (1, .int a1), (2, .int a2)]) (st2 := [.int a2]) (w3 := w) rfl rfl ?_
            refine sx_RP.step (pc2 := 76) (ls2 := [(0, .ref 0), (1, .int a1), (2, .int a2)]) (st2 := [.int 1, .int a2]) (w3 := w) rfl rfl ?_
            refine sx_RP.step (pc2 := 78) (ls2 := [(0, .ref 0), (1, .int a1), (2, .int a2)]) (st2 := [.int 99, .int 1, .int a2]) (w3 := w) rfl rfl ?_
            rcases Decidable.em ((1 : Int32) ≤ a2 ∧ a2 ≤ 99) with c71 | c71
            · refine sx_RP.cu (as := [.int a2, .int 1, .int 99]) (rest2 := []) (st3 := [.int 1]) rfl rfl rfl rfl rfl (cx_8p c71) rfl ?_
              refine sx_RP.step (pc2 := 84) (ls2 := [(0, .ref 0), (1, .int a1), (2, .int a2)]) (st2 := []) (w3 := w) rfl rfl ?_
              refine sx_RP.step (pc2 := 85) (ls2 := [(0, .ref 0), (1, .int a1), (2, .int a2)]) (st2 := [.ref 0]) (w3 := w) rfl rfl ?_
              refine sx_RP.gf (v := .ref 1) rfl rfl hI.1.o0 rfl rfl (show _ = 88 from rfl) ?_
              refine sx_RP.gc (k := 10) hI (Or.inl rfl) rfl rfl (by omega) (show _ = 91 from rfl) ?_
              refine sx_RP.step (pc2 := 92) (ls2 := [(3, .int (fi w 1 10)), (0, .ref 0), (1, .int a1), (2, .int a2)]) (st2 := []) (w3 := w) rfl rfl ?_
              refine sx_RP.step (pc2 := 93) (ls2 := [(3, .int (fi w 1 10)), (0, .ref 0), (1, .int a1), (2, .int a2)]) (st2 := [.ref 0]) (w3 := w) rfl rfl ?_
              refine sx_RP.gf (v := .ref 1) rfl rfl hI.1.o0 rfl rfl (show _ = 96 from rfl) ?_
              refine sx_RP.step (pc2 := 97) (ls2 := [(3, .int (fi w 1 10)), (0, .ref 0), (1, .int a1), (2, .int a2)]) (st2 := [.int a2, .ref 1]) (w3 := w) rfl rfl ?_
              refine sx_RP.xC (k := 10) hI (Or.inl rfl) rfl rfl (by omega) rfl trivial (show _ = 100 from rfl) (fun w72 hI73 hs74 hv75 hr76 hj77 => ?_)
              refine sx_RP.step (pc2 := 110) (ls2 := [(3, .int (fi w 1 10)), (0, .ref 0), (1, .int a1), (2, .int a2)]) (st2 := []) (w3 := w72) rfl rfl ?_
              refine sx_RP.step (pc2 := 111) (ls2 := [(3, .int (fi w 1 10)), (0, .ref 0), (1, .int a1), (2, .int a2)]) (st2 := [.int (fi w 1 10)]) (w3 := w72) rfl rfl ?_
              refine sx_RP.ret (r := (some (.int (fi w 1 10)))) rfl rfl ?_
              exact absurd (q1.symm.trans q45) (by decide)
            · refine sx_RP.cu (as := [.int a2, .int 1, .int 99]) (rest2 := []) (st3 := [.int 0]) rfl rfl rfl rfl rfl (cx_8n c71) rfl ?_
              refine sx_RP.step (pc2 := 103) (ls2 := [(0, .ref 0), (1, .int a1), (2, .int a2)]) (st2 := []) (w3 := w) rfl rfl ?_
              refine sx_RP.step (pc2 := 104) (ls2 := [(0, .ref 0), (1, .int a1), (2, .int a2)]) (st2 := [.ref 0]) (w3 := w) rfl rfl ?_
              refine sx_RP.step (pc2 := 106) (ls2 := [(0, .ref 0), (1, .int a1), (2, .int a2)]) (st2 := [.int (-1000000001), .ref 0]) (w3 := w) rfl rfl ?_
              refine sx_RP.callp (as2 := [.ref 0, .int (-1000000001)]) (rest2 := []) rfl rfl (sx_inv_v2 (mi := 82) (k := 78) (st := [.int (-1000000001), .ref 0]) (w := w) rfl rfl hI.1.o0 rfl rfl rfl) rfl rfl rfl (Q9_0 hI) (show _ = 109 from rfl) ?_
              rintro r4 w79 ⟨rfl, hI80, hE78⟩
              show sx_RP _ _ _ _ _ [.int (-1000000001)] _ _
              refine sx_RP.step (pc2 := 110) (ls2 := [(3, .int (-1000000001)), (0, .ref 0), (1, .int a1), (2, .int a2)]) (st2 := []) (w3 := w79) rfl rfl ?_
              refine sx_RP.step (pc2 := 111) (ls2 := [(3, .int (-1000000001)), (0, .ref 0), (1, .int a1), (2, .int a2)]) (st2 := [.int (-1000000001)]) (w3 := w79) rfl rfl ?_
              refine sx_RP.ret (r := (some (.int (-1000000001)))) rfl rfl ?_
              exact absurd (q1.symm.trans q45) (by decide)
end
-- 87.imgC.lean.txt
section
def imgU (t : BT) : BT := (t.1, 1, t.1, t.2.2.2)
def undA (t : BT) : Int32 := if t.2.1 = 1 then nI t.2.2.1.1.length else -1000000004
def undU (t : BT) : BT := if t.2.1 = 1 then (t.2.2.1, t.2) else t
def teaU (t : BT) : BT := (t.1, 0, nilB, t.2.2.2)
def wipU (t : BT) : BT := (t.1, t.2.1, t.2.2.1, [])
def byteOf (x : Int32) (i : Nat) : Int32 := (x >>> (nI (8 * i) &&& 31)) &&& 255
def bytesOf (x : Int32) (n : Nat) : List Int32 := (List.range n).map (fun j => byteOf x (n - 1 - j))
def feeA (t : BT) (a2 : Int32) : Int32 := feedA t.2.2.2.length a2
def feeU (t : BT) (a1 a2 : Int32) : BT := if 1 ≤ a2 ∧ a2 ≤ 4 then (if t.2.2.2.length + iN a2 ≤ 120 then (t.1, t.2.1, t.2.2.1, t.2.2.2 ++ bytesOf a1 (iN a2)) else t) else t
section SXEE
variable {xs : Option (List Int32)} {d mi pc pc2 a idx p : Nat} {ls : sx_L} {r : List Value} {w w0 : List sx_C} {P : Option Value → List sx_C → Prop}
theorem sx_RP.xK {v : Int32} (hI : WI w) (hi : sx_ins mi pc = some (.putfield idx, 3)) (hq : sx_lk (sx_fl (sx_own mi)) idx = some (0, 3, p)) (hf : sx_fin mi 0 3 = true) (hv : inR v 1) (hp : pc + 3 = pc2) (kk : ∀ w2, WI w2 → Same 0 w w2 → fi w2 0 3 = v → sx_RP xs d mi pc2 ls r w2 P) : sx_RP xs d mi pc ls (.int v :: .ref 0 :: r) w P := by
  have hw := hI.1.o0
  exact sx_RP.pf hi hq hw (by rw [hf, show sx_okv (sx_ty 0 3) (.int v) = (v == 0 || v == 1) from rfl, inR.bo hv]; rfl) rfl rfl hp (kk _ (hI.set hw rfl (cOK.o hv)) Same.set (by unfold fi; rw [fs_set hw]; rfl))
theorem sx_RP.xN {v : Int32} (hI : WI w) (hi : sx_ins mi pc = some (.putfield idx, 3)) (hq : sx_lk (sx_fl (sx_own mi)) idx = some (4, 1, p)) (hf : sx_fin mi 4 1 = true) (hv : inR v 120) (hp : pc + 3 = pc2) (kk : ∀ w2, WI w2 → Same 96 w w2 → fi w2 96 1 = v → sx_RP xs d mi pc2 ls r w2 P) : sx_RP xs d mi pc ls (.int v :: .ref 96 :: r) w P := by
  have hw := hI.1.o96
  have q := hI.t
  exact sx_RP.pf hi hq hw (by rw [hf]; rfl) rfl rfl hp (kk _ (hI.set hw rfl (cOK.t ⟨hv, q.2⟩)) Same.set (by unfold fi; rw [fs_set hw]; rfl))
end SXEE
theorem keeps_01 {w : List sx_C} (hI : WI w) : fi w 0 3 = 0 ∨ fi w 0 3 = 1 := by
  obtain ⟨j, hj, e⟩ := hI.kp
  rcases (show j = 0 ∨ j = 1 by omega) with rfl | rfl
  · exact Or.inl e
  · exact Or.inr e
set_option maxRecDepth 20000 in
set_option maxHeartbeats 4000000 in
theorem B124 {xs : Option (List Int32)} {d : Nat} {w : List sx_C} (hI : WI w) : sx_RP xs (d + 7) 124 0 (lv_args 0 [.ref 0]) [] w (fun r w2 => (r = some (.int (1)) ∧ FCb w2 = imgU (FCb w)) ∧ WI w2 ∧ ∀ a, 111 ≤ a → w2[a]? = w[a]?) := by
  refine sx_RP.step (pc2 := 1) (ls2 := [(0, .ref 0)]) (st2 := [.ref 0]) (w3 := w) rfl rfl ?_
  refine sx_RP.gf (v := .ref 15) rfl rfl hI.1.o0 rfl rfl (show _ = 4 from rfl) ?_
  refine sx_RP.step (pc2 := 5) (ls2 := [(0, .ref 0)]) (st2 := [.ref 0, .ref 15]) (w3 := w) rfl rfl ?_
  refine sx_RP.gf (v := .ref 1) rfl rfl hI.1.o0 rfl rfl (show _ = 8 from rfl) ?_
  refine sx_RP.callp (as2 := [.ref 15, .ref 1]) (rest2 := []) rfl rfl (sx_inv_v2 (mi := 124) (k := 179) (st := [.ref 1, .ref 15]) (w := w) rfl rfl (hI.1.oC (Or.inr (Or.inl rfl))) rfl rfl rfl) rfl rfl rfl (X50 hI (Or.inr (Or.inl rfl)) (Or.inl rfl) (by omega)) (show _ = 11 from rfl) ?_
  rintro r4 w2 ⟨rfl, hI3, ht1⟩
  show sx_RP _ _ _ _ _ [] _ _
  refine sx_RP.step (pc2 := 12) (ls2 := [(0, .ref 0)]) (st2 := [.ref 0]) (w3 := w2) rfl rfl ?_
  refine sx_RP.step (pc2 := 13) (ls2 := [(0, .ref 0)]) (st2 := [.int 1, .ref 0]) (w3 := w2) rfl rfl ?_
  refine sx_RP.xK hI3 rfl rfl rfl ⟨1, by decide, rfl⟩ (show _ = 16 from rfl) (fun w4 hI5 hs6 hv7 => ?_)
  refine sx_RP.step (pc2 := 17) (ls2 := [(0, .ref 0)]) (st2 := [.int 1]) (w3 := w4) rfl rfl ?_
  refine sx_RP.ret (r := (some (.int 1))) rfl rfl ?_
  have e1 : campB w4 1 = campB w 1 := campB_same (fun a h1 h2 => (hs6 a (by omega)).trans (ht1.1 a (by omega))) (hI.many (Or.inl rfl))
  have e2 : campB w4 15 = campB w 1 := (campB_same (A := 15) (fun a h1 h2 => hs6 a (by omega)) (hI3.many (Or.inr (Or.inl rfl)))).trans ht1.b
  refine ⟨⟨rfl, ?_⟩, hI5, fun a ha => (hs6 a (by omega)).trans (ht1.1 a (by omega))⟩
  unfold FCb imgU
  rw [e1, e2, hv7, if_pos rfl, tapC_same ((hs6 96 (by omega)).trans (ht1.1 96 (by omega))) ((hs6 97 (by omega)).trans (ht1.1 97 (by omega)))]
set_option maxRecDepth 20000 in
set_option maxHeartbeats 4000000 in
theorem B125 {xs : Option (List Int32)} {d : Nat} {w : List sx_C} (hI : WI w) : sx_RP xs (d + 7) 125 0 (lv_args 0 [.ref 0]) [] w (fun r w2 => (r = some (.int (undA (FCb w))) ∧ FCb w2 = undU (FCb w)) ∧ WI w2 ∧ ∀ a, 111 ≤ a → w2[a]? = w[a]?) := by
  rcases keeps_01 hI with ek | ek
  · refine sx_RP.step (pc2 := 1) (ls2 := [(0, .ref 0)]) (st2 := [.ref 0]) (w3 := w) rfl rfl ?_
    refine sx_RP.gf (v := .int (fi w 0 3)) rfl rfl hI.1.o0 rfl rfl (show _ = 4 from rfl) ?_
    rw [ek]
    refine sx_RP.step (pc2 := 7) (ls2 := [(0, .ref 0)]) (st2 := []) (w3 := w) rfl rfl ?_
    refine sx_RP.step (pc2 := 8) (ls2 := [(0, .ref 0)]) (st2 := [.ref 0]) (w3 := w) rfl rfl ?_
    refine sx_RP.step (pc2 := 10) (ls2 := [(0, .ref 0)]) (st2 := [.int (-1000000004), .ref 0]) (w3 := w) rfl rfl ?_
    refine sx_RP.callp (as2 := [.ref 0, .int (-1000000004)]) (rest2 := []) rfl rfl (sx_inv_v2 (mi := 125) (k := 78) (st := [.int (-1000000004), .ref 0]) (w := w) rfl rfl hI.1.o0 rfl rfl rfl) rfl rfl rfl (Q9_3 hI) (show _ = 13 from rfl) ?_
    rintro r4 w2 ⟨rfl, hI3, hE1⟩
    show sx_RP _ _ _ _ _ [.int (-1000000004)] _ _
    refine sx_RP.ret (r := (some (.int (-1000000004)))) rfl rfl ?_
    exact ⟨⟨by unfold undA; rw [if_neg (show ¬ (FCb w).2.1 = 1 by show ¬ fi w 0 3 = 1; rw [ek]; decide)], by unfold undU; rw [if_neg (show ¬ (FCb w).2.1 = 1 by show ¬ fi w 0 3 = 1; rw [ek]; decide)]; exact FCb_en hI hE1.en⟩, hI3, fun a ha => hE1 a (Or.inr (Or.inr (by omega)))⟩
  · refine sx_RP.step (pc2 := 1) (ls2 := [(0, .ref 0)]) (st2 := [.ref 0]) (w3 := w) rfl rfl ?_
    refine sx_RP.gf (v := .int (fi w 0 3)) rfl rfl hI.1.o0 rfl rfl (show _ = 4 from rfl) ?_
    rw [ek]
    refine sx_RP.step (pc2 := 14) (ls2 := [(0, .ref 0)]) (st2 := []) (w3 := w) rfl rfl ?_
    refine sx_RP.step (pc2 := 15) (ls2 := [(0, .ref 0)]) (st2 := [.ref 0]) (w3 := w) rfl rfl ?_
    refine sx_RP.gf (v := .ref 1) rfl rfl hI.1.o0 rfl rfl (show _ = 18 from rfl) ?_
    refine sx_RP.step (pc2 := 19) (ls2 := [(0, .ref 0)]) (st2 := [.ref 0, .ref 1]) (w3 := w) rfl rfl ?_
    refine sx_RP.gf (v := .ref 15) rfl rfl hI.1.o0 rfl rfl (show _ = 22 from rfl) ?_
    refine sx_RP.callp (as2 := [.ref 1, .ref 15]) (rest2 := []) rfl rfl (sx_inv_v2 (mi := 125) (k := 179) (st := [.ref 15, .ref 1]) (w := w) rfl rfl (hI.1.oC (Or.inl rfl)) rfl rfl rfl) rfl rfl rfl (X50 hI (Or.inl rfl) (Or.inr (Or.inl rfl)) (by omega)) (show _ = 25 from rfl) ?_
    rintro r4 w5 ⟨rfl, hI6, ht4⟩
    show sx_RP _ _ _ _ _ [] _ _
    refine sx_RP.step (pc2 := 26) (ls2 := [(0, .ref 0)]) (st2 := [.ref 0]) (w3 := w5) rfl rfl ?_
    refine sx_RP.gf (v := .ref 1) rfl rfl hI6.1.o0 rfl rfl (show _ = 29 from rfl) ?_
    refine sx_RP.gc (k := 3) hI6 (Or.inl rfl) rfl rfl (by omega) (show _ = 32 from rfl) ?_
    obtain ⟨x7, hx8, ex9⟩ : inR (fi w5 1 3) 10 := (hI6.c (Or.inl rfl)).1
    rw [ex9]
    refine sx_RP.ret (r := (some (.int (nI x7)))) rfl rfl ?_
    have e1 := ht4.b
    refine ⟨⟨?_, ?_⟩, hI6, fun a ha => ht4.1 a (by omega)⟩
    · unfold undA FCb
      rw [if_pos ek, if_pos ek]
      show some (Value.int (nI x7)) = some (Value.int (nI (campB w 15).1.length))
      rw [← e1]
      unfold campB
      rw [mkB_len1, ex9, iN_n (by omega)]
    · rw [FCb_camp hI ht4.1, e1]
      unfold undU FCb
      rw [if_pos ek, if_pos ek]
set_option maxRecDepth 20000 in
set_option maxHeartbeats 4000000 in
theorem B126 {xs : Option (List Int32)} {d : Nat} {w : List sx_C} (hI : WI w) : sx_RP xs (d + 7) 126 0 (lv_args 0 [.ref 0]) [] w (fun r w2 => (r = some (.int ((FCb w).2.1)) ∧ FCb w2 = teaU (FCb w)) ∧ WI w2 ∧ ∀ a, 111 ≤ a → w2[a]? = w[a]?) := by
  rcases keeps_01 hI with ek | ek
  · refine sx_RP.step (pc2 := 1) (ls2 := [(0, .ref 0)]) (st2 := [.ref 0]) (w3 := w) rfl rfl ?_
    refine sx_RP.gf (v := .int (fi w 0 3)) rfl rfl hI.1.o0 rfl rfl (show _ = 4 from rfl) ?_
    rw [ek]
    refine sx_RP.step (pc2 := 11) (ls2 := [(0, .ref 0)]) (st2 := []) (w3 := w) rfl rfl ?_
    refine sx_RP.step (pc2 := 12) (ls2 := [(0, .ref 0)]) (st2 := [.int 0]) (w3 := w) rfl rfl ?_
    refine sx_RP.step (pc2 := 13) (ls2 := [(1, .int 0), (0, .ref 0)]) (st2 := []) (w3 := w) rfl rfl ?_
    refine sx_RP.step (pc2 := 14) (ls2 := [(1, .int 0), (0, .ref 0)]) (st2 := [.ref 0]) (w3 := w) rfl rfl ?_
    refine sx_RP.step (pc2 := 15) (ls2 := [(1, .int 0), (0, .ref 0)]) (st2 := [.int 0, .ref 0]) (w3 := w) rfl rfl ?_
    refine sx_RP.xK hI rfl rfl rfl ⟨0, by decide, rfl⟩ (show _ = 18 from rfl) (fun w1 hI2 hs3 hv4 => ?_)
    refine sx_RP.step (pc2 := 19) (ls2 := [(1, .int 0), (0, .ref 0)]) (st2 := [.int 0]) (w3 := w1) rfl rfl ?_
    refine sx_RP.ret (r := (some (.int 0))) rfl rfl ?_
    refine ⟨⟨by show some (Value.int 0) = some (Value.int (fi w 0 3)); rw [ek], ?_⟩, hI2, fun a ha => hs3 a (by omega)⟩
    unfold FCb teaU
    rw [hv4, if_neg (by decide), campB_same (A := 1) (fun a h1 h2 => hs3 a (by omega)) (hI.many (Or.inl rfl)), tapC_same (hs3 96 (by omega)) (hs3 97 (by omega))]
  · refine sx_RP.step (pc2 := 1) (ls2 := [(0, .ref 0)]) (st2 := [.ref 0]) (w3 := w) rfl rfl ?_
    refine sx_RP.gf (v := .int (fi w 0 3)) rfl rfl hI.1.o0 rfl rfl (show _ = 4 from rfl) ?_
    rw [ek]
    refine sx_RP.step (pc2 := 7) (ls2 := [(0, .ref 0)]) (st2 := []) (w3 := w) rfl rfl ?_
    refine sx_RP.step (pc2 := 8) (ls2 := [(0, .ref 0)]) (st2 := [.int 1]) (w3 := w) rfl rfl ?_
    refine sx_RP.step (pc2 := 12) (ls2 := [(0, .ref 0)]) (st2 := [.int 1]) (w3 := w) rfl rfl ?_
    refine sx_RP.step (pc2 := 13) (ls2 := [(1, .int 1), (0, .ref 0)]) (st2 := []) (w3 := w) rfl rfl ?_
    refine sx_RP.step (pc2 := 14) (ls2 := [(1, .int 1), (0, .ref 0)]) (st2 := [.ref 0]) (w3 := w) rfl rfl ?_
    refine sx_RP.step (pc2 := 15) (ls2 := [(1, .int 1), (0, .ref 0)]) (st2 := [.int 0, .ref 0]) (w3 := w) rfl rfl ?_
    refine sx_RP.xK hI rfl rfl rfl ⟨0, by decide, rfl⟩ (show _ = 18 from rfl) (fun w5 hI6 hs7 hv8 => ?_)
    refine sx_RP.step (pc2 := 19) (ls2 := [(1, .int 1), (0, .ref 0)]) (st2 := [.int 1]) (w3 := w5) rfl rfl ?_
    refine sx_RP.ret (r := (some (.int 1))) rfl rfl ?_
    refine ⟨⟨by show some (Value.int 1) = some (Value.int (fi w 0 3)); rw [ek], ?_⟩, hI6, fun a ha => hs7 a (by omega)⟩
    unfold FCb teaU
    rw [hv8, if_neg (by decide), campB_same (A := 1) (fun a h1 h2 => hs7 a (by omega)) (hI.many (Or.inl rfl)), tapC_same (hs7 96 (by omega)) (hs7 97 (by omega))]
set_option maxRecDepth 20000 in
set_option maxHeartbeats 4000000 in
theorem X91 {xs : Option (List Int32)} {d : Nat} {w : List sx_C} (hI : WI w) {n : Nat} (en : fi w 96 1 = nI n) : sx_RP xs d 91 0 (lv_args 0 [.ref 96]) [] w (fun r w2 => (r = some (.int (nI n)) ∧ fi w2 96 1 = 0) ∧ WI w2 ∧ Same 96 w w2) := by
  refine sx_RP.step (pc2 := 1) (ls2 := [(0, .ref 96)]) (st2 := [.ref 96]) (w3 := w) rfl rfl ?_
  refine sx_RP.gt (k := 1) hI rfl rfl (by decide) (show _ = 4 from rfl) ?_
  rw [en]
  refine sx_RP.step (pc2 := 5) (ls2 := [(1, .int (nI n)), (0, .ref 96)]) (st2 := []) (w3 := w) rfl rfl ?_
  refine sx_RP.step (pc2 := 6) (ls2 := [(1, .int (nI n)), (0, .ref 96)]) (st2 := [.ref 96]) (w3 := w) rfl rfl ?_
  refine sx_RP.step (pc2 := 7) (ls2 := [(1, .int (nI n)), (0, .ref 96)]) (st2 := [.int 0, .ref 96]) (w3 := w) rfl rfl ?_
  refine sx_RP.xN hI rfl rfl rfl ⟨0, by decide, rfl⟩ (show _ = 10 from rfl) (fun w1 hI2 hs3 hv4 => ?_)
  refine sx_RP.step (pc2 := 11) (ls2 := [(1, .int (nI n)), (0, .ref 96)]) (st2 := [.int (nI n)]) (w3 := w1) rfl rfl ?_
  refine sx_RP.ret (r := (some (.int (nI n)))) rfl rfl ?_
  exact ⟨⟨rfl, hv4⟩, hI2, hs3⟩
theorem FCb_tap {w w2 : List sx_C} (hI : WI w) (h : ∀ a, a < 96 → w2[a]? = w[a]?) : FCb w2 = ((FCb w).1, (FCb w).2.1, (FCb w).2.2.1, tapC w2) := by
  unfold FCb
  rw [fi_same 3 (h 0 (by omega)), campB_same (A := 1) (fun a h1 h2 => h a (by omega)) (hI.many (Or.inl rfl)), campB_same (A := 15) (fun a h1 h2 => h a (by omega)) (hI.many (Or.inr (Or.inl rfl)))]
theorem tapC_len {w : List sx_C} {n : Nat} (en : fi w 96 1 = nI n) (hn : n ≤ 120) : (FCb w).2.2.2.length = n := by
  show (tapC w).length = n
  unfold tapC
  rw [List.length_map, List.length_range, en, iN_n (by omega)]
theorem tapC_nil {w : List sx_C} (en : fi w 96 1 = 0) : tapC w = [] := by
  unfold tapC
  rw [en]
  rfl
set_option maxRecDepth 20000 in
set_option maxHeartbeats 4000000 in
theorem B90 {xs : Option (List Int32)} {d : Nat} {w : List sx_C} (hI : WI w) : sx_RP xs (d + 7) 90 0 (lv_args 0 [.ref 0]) [] w (fun r w2 => (r = some (.int (nI (FCb w).2.2.2.length)) ∧ FCb w2 = wipU (FCb w)) ∧ WI w2 ∧ ∀ a, 111 ≤ a → w2[a]? = w[a]?) := by
  obtain ⟨n, hn, en⟩ := hI.t.1
  refine sx_RP.step (pc2 := 1) (ls2 := [(0, .ref 0)]) (st2 := [.ref 0]) (w3 := w) rfl rfl ?_
  refine sx_RP.gf (v := .ref 96) rfl rfl hI.1.o0 rfl rfl (show _ = 4 from rfl) ?_
  refine sx_RP.callp (as2 := [.ref 96]) (rest2 := []) rfl rfl (sx_inv_v2 (mi := 90) (k := 289) (st := [.ref 96]) (w := w) rfl rfl hI.1.o96 rfl rfl rfl) rfl rfl rfl (X91 hI en) (show _ = 7 from rfl) ?_
  rintro r4 w3 ⟨⟨rfl, hv1⟩, hI4, hs2⟩
  show sx_RP _ _ _ _ _ [.int (nI n)] _ _
  refine sx_RP.ret (r := (some (.int (nI n)))) rfl rfl ?_
  exact ⟨⟨by rw [tapC_len en hn], by rw [FCb_tap hI (fun a ha => hs2 a (by omega)), tapC_nil hv1]; rfl⟩, hI4, fun a ha => hs2 a (by omega)⟩
end
-- 88.rowM.lean.txt
section
theorem gd_ne {l : List Int32} {i k : Nat} {v : Int32} (h : k ≠ i) : (l.set i v).getD k 0 = l.getD k 0 := by
  rw [List.getD_eq_getElem?_getD, List.getElem?_set_ne (Ne.symm h), ← List.getD_eq_getElem?_getD]
theorem gd_eq {l : List Int32} {i : Nat} {v : Int32} (h : i < l.length) : (l.set i v).getD i 0 = v := by rw [gd_set h, if_pos rfl]
theorem Same.tr {a : Nat} {w w1 w2 : List sx_C} (h : Same a w w1) (h2 : Same a w1 w2) : Same a w w2 := fun b hb => (h2 b hb).trans (h b hb)
theorem FMb_row {w w2 : List sx_C} (hs : Same 112 w w2) : FMb w2 = (rowB (ia w2 112), (FMb w).2) := by
  unfold FMb
  rw [fi_same 4 (hs 111 (by decide)), ia_of (hs 113 (by decide)), tapM_same (hs 111 (by decide)) (hs 121 (by decide))]
theorem FMb_len {w : List sx_C} {n : Nat} (h : (ia w 112).getD 1 0 = nI n) (hn : n ≤ 10) : (FMb w).1.1.length = n := by
  show (rowB (ia w 112)).1.length = n
  unfold rowB
  rw [mkB_len1, h, iN_n (by omega)]
theorem FMb_dlen {w : List sx_C} {n : Nat} (h : (ia w 112).getD 2 0 = nI n) (hn : n ≤ 10) : (FMb w).1.2.1.length = n := by
  show (rowB (ia w 112)).2.1.length = n
  unfold rowB
  rw [mkB_len2, h, iN_n (by omega)]
theorem FMb_kind {w : List sx_C} {n x : Nat} (en : (ia w 112).getD 1 0 = nI n) (hn : n ≤ 10) (hx : x < n) : (FMb w).1.1.getD (iN (nI x)) 0 = (ia w 112).getD (103 + 6 * x) 0 := by
  rw [iN_n (by omega)]
  show (rowB (ia w 112)).1.getD x 0 = _
  unfold rowB
  exact mkB_at1 (by rw [en, iN_n (by omega)]; exact hx)
theorem FMb_dish {w : List sx_C} {m x : Nat} (em : (ia w 112).getD 2 0 = nI m) (hm : m ≤ 9) (hx : x < m) : (FMb w).1.2.1.getD (iN (nI x)) 0 = (ia w 112).getD (163 + x) 0 := by
  rw [iN_n (by omega)]
  show (rowB (ia w 112)).2.1.getD x 0 = _
  unfold rowB
  exact mkB_at2 (by rw [em, iN_n (by omega)]; exact hx)
def addRow (l : List Int32) (n : Nat) (k s c y : Int32) : List Int32 := ((((((l.set 1 (nI (n + 1))).set (103 + 6 * n + 0) k).set (103 + 6 * n + 1) s).set (103 + 6 * n + 2) c).set (103 + 6 * n + 3) y).set (103 + 6 * n + 4) 0).set (103 + 6 * n + 5) 0
theorem addRow_b {l : List Int32} {n : Nat} {k s c y : Int32} (hl : l.length = 172) (en : l.getD 1 0 = nI n) (hn : n ≤ 9) : rowB (addRow l n k s c y) = addK k (rowB l) := by
  unfold rowB
  have g1 : (addRow l n k s c y).getD 1 0 = nI (n + 1) := by
    unfold addRow
    rw [gd_ne (by omega), gd_ne (by omega), gd_ne (by omega), gd_ne (by omega), gd_ne (by omega), gd_ne (by omega), gd_eq (by omega)]
  have go : ∀ q, q ≠ 1 → (q < 103 + 6 * n ∨ 103 + 6 * n + 6 ≤ q) → (addRow l n k s c y).getD q 0 = l.getD q 0 := by
    intro q h1 h2
    unfold addRow
    rw [gd_ne (by omega), gd_ne (by omega), gd_ne (by omega), gd_ne (by omega), gd_ne (by omega), gd_ne (by omega), gd_ne (by omega)]
  rw [g1, en, iN_n (by omega), iN_n (by omega), go 2 (by omega) (by omega), go 4 (by omega) (by omega), go 5 (by omega) (by omega), go 6 (by omega) (by omega)]
  refine mkB_addK (fun i hi => go _ (by omega) (by omega)) ?_ (fun i hi => go _ (by omega) (by omega))
  show (addRow l n k s c y).getD (103 + 6 * n) 0 = k
  unfold addRow
  rw [gd_ne (by omega), gd_ne (by omega), gd_ne (by omega), gd_ne (by omega), gd_ne (by omega), show 103 + 6 * n = 103 + 6 * n + 0 from rfl, gd_eq (by rw [List.length_set]; omega)]
theorem rowB_setK {l : List Int32} {x n : Nat} {v : Int32} (hl : l.length = 172) (en : l.getD 1 0 = nI n) (hn : n ≤ 10) (hx : x < n) : rowB (l.set (103 + 6 * x + 0) v) = setK x v (rowB l) := by
  unfold rowB
  rw [gd_ne (by omega), gd_ne (by omega), gd_ne (by omega), gd_ne (by omega), gd_ne (by omega), en, iN_n (by omega)]
  exact mkB_setK (fun i hi hne => gd_ne (by omega)) (fun _ => gd_eq (by omega)) (fun i _ => gd_ne (by omega))
theorem rowB_addD {l : List Int32} {n : Nat} {v : Int32} (hl : l.length = 172) (em : l.getD 2 0 = nI n) (hn : n ≤ 8) (hm : iN (l.getD 1 0) ≤ 10) : rowB ((l.set (163 + n) v).set 2 (nI (n + 1))) = addD v (rowB l) := by
  unfold rowB
  rw [gd_ne (k := 1) (by omega), gd_ne (k := 1) (by omega), gd_eq (i := 2) (by rw [List.length_set]; omega), gd_ne (k := 4) (by omega), gd_ne (k := 4) (by omega), gd_ne (k := 5) (by omega), gd_ne (k := 5) (by omega), gd_ne (k := 6) (by omega), gd_ne (k := 6) (by omega), em, iN_n (by omega), iN_n (by omega)]
  exact mkB_addD (fun i hi => by rw [gd_ne (by omega), gd_ne (by omega)]) (fun i hi => by rw [gd_ne (by omega), gd_ne (by omega)]) (by rw [gd_ne (by omega), gd_eq (by omega)])
theorem rowB_setD {l : List Int32} {x n : Nat} {v : Int32} (hl : l.length = 172) (em : l.getD 2 0 = nI n) (hn : n ≤ 9) (hx : x < n) (hm : iN (l.getD 1 0) ≤ 10) : rowB (l.set (163 + x) v) = setD x v (rowB l) := by
  unfold rowB
  rw [gd_ne (by omega), gd_ne (by omega), gd_ne (by omega), gd_ne (by omega), gd_ne (by omega), em, iN_n (by omega)]
  exact mkB_setD (fun i hi => gd_ne (by omega)) (fun i hi hne => gd_ne (by omega)) (fun _ => gd_eq (by omega))
theorem rowB_setF {l : List Int32} {k : Nat} {v : Int32} (hl : l.length = 172) (hk : k = 0 ∨ k = 1 ∨ k = 2) (hm : iN (l.getD 1 0) ≤ 10) : rowB (l.set (4 + k) v) = (if k = 0 then setO v (rowB l) else if k = 1 then setM v (rowB l) else setR v (rowB l)) := by
  have hkd : ∀ i, i < iN (l.getD 1 0) → (l.set (4 + k) v).getD (103 + 6 * i) 0 = l.getD (103 + 6 * i) 0 := fun i hi => gd_ne (by omega)
  have hdd : ∀ i, i < iN (l.getD 2 0) → (l.set (4 + k) v).getD (163 + i) 0 = l.getD (163 + i) 0 := fun i hi => gd_ne (by omega)
  unfold rowB
  rw [gd_ne (k := 1) (by omega), gd_ne (k := 2) (by omega)]
  rcases hk with rfl | rfl | rfl
  · rw [if_pos rfl, gd_eq (i := 4 + 0) (by omega), gd_ne (k := 5) (by omega), gd_ne (k := 6) (by omega)]
    exact mkB_congr rfl hkd rfl hdd rfl rfl rfl
  · rw [if_neg (by decide), if_pos rfl, gd_ne (k := 4) (by omega), show (5 : Nat) = 4 + 1 from rfl, gd_eq (i := 4 + 1) (by omega), gd_ne (k := 6) (by omega)]
    exact mkB_congr rfl hkd rfl hdd rfl rfl rfl
  · rw [if_neg (by decide), if_neg (by decide), gd_ne (k := 4) (by omega), gd_ne (k := 5) (by omega), show (6 : Nat) = 4 + 2 from rfl, gd_eq (i := 4 + 2) (by omega)]
    exact mkB_congr rfl hkd rfl hdd rfl rfl rfl
set_option maxRecDepth 20000 in
set_option maxHeartbeats 4000000 in
theorem x138 {xs : Option (List Int32)} {d g c : Nat} {w : List sx_C} (hI : WI w) (hg : g < 10) (hc : c < 6) : sx_RU xs d 138 0 (lv_args 0 [.ref 111, .int (nI g), .int (nI c)]) [] w (some (.int ((ia w 112).getD (103 + 6 * g + c) 0))) w := by
  have h : sx_RP xs d 138 0 (lv_args 0 [.ref 111, .int (nI g), .int (nI c)]) [] w (fun r w2 => r = some (.int ((ia w 112).getD (103 + 6 * g + c) 0)) ∧ w2 = w) := by
    refine sx_RP.step (pc2 := 1) (ls2 := [(0, .ref 111), (1, .int (nI g)), (2, .int (nI c))]) (st2 := [.ref 111]) (w3 := w) rfl rfl ?_
    refine sx_RP.gf (v := .ref 112) rfl rfl hI.1.o111 rfl rfl (show _ = 4 from rfl) ?_
    refine sx_RP.step (pc2 := 6) (ls2 := [(0, .ref 111), (1, .int (nI g)), (2, .int (nI c))]) (st2 := [.int 103, .ref 112]) (w3 := w) rfl rfl ?_
    refine sx_RP.step (pc2 := 8) (ls2 := [(0, .ref 111), (1, .int (nI g)), (2, .int (nI c))]) (st2 := [.int 6, .int 103, .ref 112]) (w3 := w) rfl rfl ?_
    refine sx_RP.step (pc2 := 9) (ls2 := [(0, .ref 111), (1, .int (nI g)), (2, .int (nI c))]) (st2 := [.int (nI g), .int 6, .int 103, .ref 112]) (w3 := w) rfl rfl ?_
    refine sx_RP.step (pc2 := 10) (ls2 := [(0, .ref 111), (1, .int (nI g)), (2, .int (nI c))]) (st2 := [.int (6 * (nI g)), .int 103, .ref 112]) (w3 := w) rfl rfl ?_
    rw [show (6 * (nI g) : Int32) = nI (6 * g) from nI_mul 6 g]
    refine sx_RP.step (pc2 := 11) (ls2 := [(0, .ref 111), (1, .int (nI g)), (2, .int (nI c))]) (st2 := [.int (103 + (nI (6 * g))), .ref 112]) (w3 := w) rfl rfl ?_
    rw [show (103 + (nI (6 * g)) : Int32) = nI (103 + (6 * g)) from nI_add 103 (6 * g)]
    refine sx_RP.step (pc2 := 12) (ls2 := [(0, .ref 111), (1, .int (nI g)), (2, .int (nI c))]) (st2 := [.int (nI c), .int (nI (103 + (6 * g))), .ref 112]) (w3 := w) rfl rfl ?_
    refine sx_RP.step (pc2 := 13) (ls2 := [(0, .ref 111), (1, .int (nI g)), (2, .int (nI c))]) (st2 := [.int ((nI (103 + (6 * g))) + (nI c)), .ref 112]) (w3 := w) rfl rfl ?_
    rw [show ((nI (103 + (6 * g))) + (nI c) : Int32) = nI ((103 + (6 * g)) + c) from nI_add (103 + (6 * g)) c]
    refine sx_RP.ild (c := ((103 + (6 * g)) + c)) rfl hI.1.a112.1 hI.1.a112.2 (sx_in_nI (show ((103 + (6 * g)) + c) < 172 by omega) (by decide)) (nI_clamp (by omega)) (show _ = 14 from rfl) ?_
    refine sx_RP.ret (r := (some (.int ((ia w 112).getD (((103 + (6 * g)) + c)) 0)))) rfl rfl ?_
    exact ⟨rfl, rfl⟩
  obtain ⟨r, w2, h1, rfl, rfl⟩ := h
  exact h1
set_option maxRecDepth 20000 in
set_option maxHeartbeats 4000000 in
theorem X154 {xs : Option (List Int32)} {d : Nat} {w : List sx_C} (hI : WI w) {g c : Nat} (hg : g < 10) (hc : c < 6) {v : Int32} (hv : eOK (103 + 6 * g + c) v) : sx_RP xs (d + 1) 154 0 (lv_args 0 [.ref 111, .int (nI g), .int (nI c), .int v]) [] w (fun r w2 => (r = some (.int ((ia w 112).getD (103 + 6 * g + c) 0)) ∧ ia w2 112 = (ia w 112).set (103 + 6 * g + c) v) ∧ WI w2 ∧ Same 112 w w2) := by
  refine sx_RP.step (pc2 := 1) (ls2 := [(0, .ref 111), (1, .int (nI g)), (2, .int (nI c)), (3, .int v)]) (st2 := [.ref 111]) (w3 := w) rfl rfl ?_
  refine sx_RP.step (pc2 := 2) (ls2 := [(0, .ref 111), (1, .int (nI g)), (2, .int (nI c)), (3, .int v)]) (st2 := [.int (nI g), .ref 111]) (w3 := w) rfl rfl ?_
  refine sx_RP.step (pc2 := 3) (ls2 := [(0, .ref 111), (1, .int (nI g)), (2, .int (nI c)), (3, .int v)]) (st2 := [.int (nI c), .int (nI g), .ref 111]) (w3 := w) rfl rfl ?_
  refine sx_RP.cu (as := [.ref 111, .int (nI g), .int (nI c)]) (rest2 := []) (st3 := [.int ((ia w 112).getD (103 + 6 * g + c) 0)]) rfl rfl (sx_inv_v2 (mi := 154) (k := 59) (st := [.int (nI c), .int (nI g), .ref 111]) (w := w) rfl rfl hI.1.o111 rfl rfl rfl) rfl rfl (x138 hI hg hc) rfl ?_
  refine sx_RP.step (pc2 := 8) (ls2 := [(4, .int ((ia w 112).getD (103 + 6 * g + c) 0)), (0, .ref 111), (1, .int (nI g)), (2, .int (nI c)), (3, .int v)]) (st2 := []) (w3 := w) rfl rfl ?_
  refine sx_RP.step (pc2 := 9) (ls2 := [(4, .int ((ia w 112).getD (103 + 6 * g + c) 0)), (0, .ref 111), (1, .int (nI g)), (2, .int (nI c)), (3, .int v)]) (st2 := [.ref 111]) (w3 := w) rfl rfl ?_
  refine sx_RP.gf (v := .ref 112) rfl rfl hI.1.o111 rfl rfl (show _ = 12 from rfl) ?_
  refine sx_RP.step (pc2 := 14) (ls2 := [(4, .int ((ia w 112).getD (103 + 6 * g + c) 0)), (0, .ref 111), (1, .int (nI g)), (2, .int (nI c)), (3, .int v)]) (st2 := [.int 103, .ref 112]) (w3 := w) rfl rfl ?_
  refine sx_RP.step (pc2 := 16) (ls2 := [(4, .int ((ia w 112).getD (103 + 6 * g + c) 0)), (0, .ref 111), (1, .int (nI g)), (2, .int (nI c)), (3, .int v)]) (st2 := [.int 6, .int 103, .ref 112]) (w3 := w) rfl rfl ?_
  refine sx_RP.step (pc2 := 17) (ls2 := [(4, .int ((ia w 112).getD (103 + 6 * g + c) 0)), (0, .ref 111), (1, .int (nI g)), (2, .int (nI c)), (3, .int v)]) (st2 := [.int (nI g), .int 6, .int 103, .ref 112]) (w3 := w) rfl rfl ?_
  refine sx_RP.step (pc2 := 18) (ls2 := [(4, .int ((ia w 112).getD (103 + 6 * g + c) 0)), (0, .ref 111), (1, .int (nI g)), (2, .int (nI c)), (3, .int v)]) (st2 := [.int (6 * (nI g)), .int 103, .ref 112]) (w3 := w) rfl rfl ?_
  rw [show (6 * (nI g) : Int32) = nI (6 * g) from nI_mul 6 g]
  refine sx_RP.step (pc2 := 19) (ls2 := [(4, .int ((ia w 112).getD (103 + 6 * g + c) 0)), (0, .ref 111), (1, .int (nI g)), (2, .int (nI c)), (3, .int v)]) (st2 := [.int (103 + (nI (6 * g))), .ref 112]) (w3 := w) rfl rfl ?_
  rw [show (103 + (nI (6 * g)) : Int32) = nI (103 + (6 * g)) from nI_add 103 (6 * g)]
  refine sx_RP.step (pc2 := 20) (ls2 := [(4, .int ((ia w 112).getD (103 + 6 * g + c) 0)), (0, .ref 111), (1, .int (nI g)), (2, .int (nI c)), (3, .int v)]) (st2 := [.int (nI c), .int (nI (103 + (6 * g))), .ref 112]) (w3 := w) rfl rfl ?_
  refine sx_RP.step (pc2 := 21) (ls2 := [(4, .int ((ia w 112).getD (103 + 6 * g + c) 0)), (0, .ref 111), (1, .int (nI g)), (2, .int (nI c)), (3, .int v)]) (st2 := [.int ((nI (103 + (6 * g))) + (nI c)), .ref 112]) (w3 := w) rfl rfl ?_
  rw [show ((nI (103 + (6 * g))) + (nI c) : Int32) = nI ((103 + (6 * g)) + c) from nI_add (103 + (6 * g)) c]
  refine sx_RP.step (pc2 := 22) (ls2 := [(4, .int ((ia w 112).getD (103 + 6 * g + c) 0)), (0, .ref 111), (1, .int (nI g)), (2, .int (nI c)), (3, .int v)]) (st2 := [.int v, .int (nI ((103 + (6 * g)) + c)), .ref 112]) (w3 := w) rfl rfl ?_
  refine sx_RP.xM (k := ((103 + (6 * g)) + c)) hI (by decide) rfl (by omega) hv (show _ = 23 from rfl) (fun w1 hI2 hs3 hv4 => ?_)
  refine sx_RP.step (pc2 := 25) (ls2 := [(4, .int ((ia w 112).getD (103 + 6 * g + c) 0)), (0, .ref 111), (1, .int (nI g)), (2, .int (nI c)), (3, .int v)]) (st2 := [.int ((ia w 112).getD (103 + 6 * g + c) 0)]) (w3 := w1) rfl rfl ?_
  refine sx_RP.ret (r := (some (.int ((ia w 112).getD (103 + 6 * g + c) 0)))) rfl rfl ?_
  exact ⟨⟨rfl, hv4⟩, hI2, hs3⟩
theorem Same.rf {a : Nat} {w : List sx_C} : Same a w w := fun _ _ => rfl
set_option maxRecDepth 20000 in
set_option maxHeartbeats 4000000 in
theorem X153 {xs : Option (List Int32)} {d : Nat} {w : List sx_C} (hI : WI w) {n k s c y : Nat} (hn : n ≤ 9) (en : (ia w 112).getD 1 0 = nI n) (hk : k ≤ 5) (hs : s ≤ 1) (hc : c < 48) (hy : y ≤ 3) : sx_RP xs (d + 2) 153 0 (lv_args 0 [.ref 111, .int (nI k), .int (nI s), .int (nI c), .int (nI y)]) [] w (fun r w2 => (r = none ∧ ia w2 112 = addRow (ia w 112) n (nI k) (nI s) (nI c) (nI y)) ∧ WI w2 ∧ Same 112 w w2) := by
  refine sx_RP.step (pc2 := 1) (ls2 := [(0, .ref 111), (1, .int (nI k)), (2, .int (nI s)), (3, .int (nI c)), (4, .int (nI y))]) (st2 := [.ref 111]) (w3 := w) rfl rfl ?_
  refine sx_RP.gf (v := .ref 112) rfl rfl hI.1.o111 rfl rfl (show _ = 4 from rfl) ?_
  refine sx_RP.step (pc2 := 5) (ls2 := [(0, .ref 111), (1, .int (nI k)), (2, .int (nI s)), (3, .int (nI c)), (4, .int (nI y))]) (st2 := [.int 1, .ref 112]) (w3 := w) rfl rfl ?_
  refine sx_RP.ild (c := 1) rfl hI.1.a112.1 hI.1.a112.2 (sx_in_nI (show 1 < 172 by omega) (by decide)) (show (nI 1).toNatClampNeg = 1 from nI_clamp (by omega)) (show _ = 6 from rfl) ?_
  rw [en]
  refine sx_RP.step (pc2 := 8) (ls2 := [(5, .int (nI n)), (0, .ref 111), (1, .int (nI k)), (2, .int (nI s)), (3, .int (nI c)), (4, .int (nI y))]) (st2 := []) (w3 := w) rfl rfl ?_
  refine sx_RP.step (pc2 := 9) (ls2 := [(5, .int (nI n)), (0, .ref 111), (1, .int (nI k)), (2, .int (nI s)), (3, .int (nI c)), (4, .int (nI y))]) (st2 := [.ref 111]) (w3 := w) rfl rfl ?_
  refine sx_RP.gf (v := .ref 112) rfl rfl hI.1.o111 rfl rfl (show _ = 12 from rfl) ?_
  refine sx_RP.step (pc2 := 13) (ls2 := [(5, .int (nI n)), (0, .ref 111), (1, .int (nI k)), (2, .int (nI s)), (3, .int (nI c)), (4, .int (nI y))]) (st2 := [.int 1, .ref 112]) (w3 := w) rfl rfl ?_
  refine sx_RP.step (pc2 := 14) (ls2 := [(5, .int (nI n)), (0, .ref 111), (1, .int (nI k)), (2, .int (nI s)), (3, .int (nI c)), (4, .int (nI y))]) (st2 := [.int 1, .ref 112, .int 1, .ref 112]) (w3 := w) rfl rfl ?_
  refine sx_RP.ild (c := 1) rfl hI.1.a112.1 hI.1.a112.2 (sx_in_nI (show 1 < 172 by omega) (by decide)) (show (nI 1).toNatClampNeg = 1 from nI_clamp (by omega)) (show _ = 15 from rfl) ?_
  rw [en]
  refine sx_RP.step (pc2 := 16) (ls2 := [(5, .int (nI n)), (0, .ref 111), (1, .int (nI k)), (2, .int (nI s)), (3, .int (nI c)), (4, .int (nI y))]) (st2 := [.int 1, .int (nI n), .int 1, .ref 112]) (w3 := w) rfl rfl ?_
  refine sx_RP.step (pc2 := 17) (ls2 := [(5, .int (nI n)), (0, .ref 111), (1, .int (nI k)), (2, .int (nI s)), (3, .int (nI c)), (4, .int (nI y))]) (st2 := [.int ((nI n) + 1), .int 1, .ref 112]) (w3 := w) rfl rfl ?_
  rw [show ((nI n) + 1 : Int32) = nI (n + 1) from nI_add n 1]
  refine sx_RP.xM (k := 1) hI (by decide) rfl (by omega) (eOK_1 (inR.n (show (n + 1) ≤ 10 by omega))) (show _ = 18 from rfl) (fun w1 hI2 hs3 hv4 => ?_)
  have ex5 : (ia w1 112).getD 1 0 = nI (n + 1) := by rw [hv4, gd_eq (by rw [hI.1.a112.2]; omega)]
  refine sx_RP.step (pc2 := 19) (ls2 := [(5, .int (nI n)), (0, .ref 111), (1, .int (nI k)), (2, .int (nI s)), (3, .int (nI c)), (4, .int (nI y))]) (st2 := [.ref 111]) (w3 := w1) rfl rfl ?_
  refine sx_RP.step (pc2 := 21) (ls2 := [(5, .int (nI n)), (0, .ref 111), (1, .int (nI k)), (2, .int (nI s)), (3, .int (nI c)), (4, .int (nI y))]) (st2 := [.int (nI n), .ref 111]) (w3 := w1) rfl rfl ?_
  refine sx_RP.step (pc2 := 22) (ls2 := [(5, .int (nI n)), (0, .ref 111), (1, .int (nI k)), (2, .int (nI s)), (3, .int (nI c)), (4, .int (nI y))]) (st2 := [.int 0, .int (nI n), .ref 111]) (w3 := w1) rfl rfl ?_
  refine sx_RP.step (pc2 := 23) (ls2 := [(5, .int (nI n)), (0, .ref 111), (1, .int (nI k)), (2, .int (nI s)), (3, .int (nI c)), (4, .int (nI y))]) (st2 := [.int (nI k), .int 0, .int (nI n), .ref 111]) (w3 := w1) rfl rfl ?_
  refine sx_RP.callp (as2 := [.ref 111, .int (nI n), .int 0, .int (nI k)]) (rest2 := []) rfl rfl (sx_inv_v2 (mi := 153) (k := 110) (st := [.int (nI k), .int 0, .int (nI n), .ref 111]) (w := w1) rfl rfl hI2.1.o111 rfl rfl rfl) rfl rfl rfl (X154 (c := 0) hI2 (show n < 10 by omega) (by decide) (eOK_g (g := n) (c := 0) (by omega) (by decide) (inR.n (show k ≤ 5 by omega)))) (show _ = 26 from rfl) ?_
  rintro r4 w8 ⟨⟨rfl, hv6⟩, hI9, hs7⟩
  show sx_RP _ _ _ _ _ [.int ((ia w1 112).getD (103 + 6 * n + 0) 0)] _ _
  refine sx_RP.step (pc2 := 27) (ls2 := [(5, .int (nI n)), (0, .ref 111), (1, .int (nI k)), (2, .int (nI s)), (3, .int (nI c)), (4, .int (nI y))]) (st2 := []) (w3 := w8) rfl rfl ?_
  refine sx_RP.step (pc2 := 28) (ls2 := [(5, .int (nI n)), (0, .ref 111), (1, .int (nI k)), (2, .int (nI s)), (3, .int (nI c)), (4, .int (nI y))]) (st2 := [.ref 111]) (w3 := w8) rfl rfl ?_
  refine sx_RP.step (pc2 := 30) (ls2 := [(5, .int (nI n)), (0, .ref 111), (1, .int (nI k)), (2, .int (nI s)), (3, .int (nI c)), (4, .int (nI y))]) (st2 := [.int (nI n), .ref 111]) (w3 := w8) rfl rfl ?_
  refine sx_RP.step (pc2 := 31) (ls2 := [(5, .int (nI n)), (0, .ref 111), (1, .int (nI k)), (2, .int (nI s)), (3, .int (nI c)), (4, .int (nI y))]) (st2 := [.int 1, .int (nI n), .ref 111]) (w3 := w8) rfl rfl ?_
  refine sx_RP.step (pc2 := 32) (ls2 := [(5, .int (nI n)), (0, .ref 111), (1, .int (nI k)), (2, .int (nI s)), (3, .int (nI c)), (4, .int (nI y))]) (st2 := [.int (nI s), .int 1, .int (nI n), .ref 111]) (w3 := w8) rfl rfl ?_
  refine sx_RP.callp (as2 := [.ref 111, .int (nI n), .int 1, .int (nI s)]) (rest2 := []) rfl rfl (sx_inv_v2 (mi := 153) (k := 110) (st := [.int (nI s), .int 1, .int (nI n), .ref 111]) (w := w8) rfl rfl hI9.1.o111 rfl rfl rfl) rfl rfl rfl (X154 (c := 1) hI9 (show n < 10 by omega) (by decide) (eOK_g (g := n) (c := 1) (by omega) (by decide) (inR.n (show s ≤ 1 by omega)))) (show _ = 35 from rfl) ?_
  rintro r4 w12 ⟨⟨rfl, hv10⟩, hI13, hs11⟩
  show sx_RP _ _ _ _ _ [.int ((ia w8 112).getD (103 + 6 * n + 1) 0)] _ _
  refine sx_RP.step (pc2 := 36) (ls2 := [(5, .int (nI n)), (0, .ref 111), (1, .int (nI k)), (2, .int (nI s)), (3, .int (nI c)), (4, .int (nI y))]) (st2 := []) (w3 := w12) rfl rfl ?_
  refine sx_RP.step (pc2 := 37) (ls2 := [(5, .int (nI n)), (0, .ref 111), (1, .int (nI k)), (2, .int (nI s)), (3, .int (nI c)), (4, .int (nI y))]) (st2 := [.ref 111]) (w3 := w12) rfl rfl ?_
  refine sx_RP.step (pc2 := 39) (ls2 := [(5, .int (nI n)), (0, .ref 111), (1, .int (nI k)), (2, .int (nI s)), (3, .int (nI c)), (4, .int (nI y))]) (st2 := [.int (nI n), .ref 111]) (w3 := w12) rfl rfl ?_
  refine sx_RP.step (pc2 := 40) (ls2 := [(5, .int (nI n)), (0, .ref 111), (1, .int (nI k)), (2, .int (nI s)), (3, .int (nI c)), (4, .int (nI y))]) (st2 := [.int 2, .int (nI n), .ref 111]) (w3 := w12) rfl rfl ?_
  refine sx_RP.step (pc2 := 41) (ls2 := [(5, .int (nI n)), (0, .ref 111), (1, .int (nI k)), (2, .int (nI s)), (3, .int (nI c)), (4, .int (nI y))]) (st2 := [.int (nI c), .int 2, .int (nI n), .ref 111]) (w3 := w12) rfl rfl ?_
  refine sx_RP.callp (as2 := [.ref 111, .int (nI n), .int 2, .int (nI c)]) (rest2 := []) rfl rfl (sx_inv_v2 (mi := 153) (k := 110) (st := [.int (nI c), .int 2, .int (nI n), .ref 111]) (w := w12) rfl rfl hI13.1.o111 rfl rfl rfl) rfl rfl rfl (X154 (c := 2) hI13 (show n < 10 by omega) (by decide) (eOK_g (g := n) (c := 2) (by omega) (by decide) (inR.n (show c ≤ 47 by omega)))) (show _ = 44 from rfl) ?_
  rintro r4 w16 ⟨⟨rfl, hv14⟩, hI17, hs15⟩
  show sx_RP _ _ _ _ _ [.int ((ia w12 112).getD (103 + 6 * n + 2) 0)] _ _
  refine sx_RP.step (pc2 := 45) (ls2 := [(5, .int (nI n)), (0, .ref 111), (1, .int (nI k)), (2, .int (nI s)), (3, .int (nI c)), (4, .int (nI y))]) (st2 := []) (w3 := w16) rfl rfl ?_
  refine sx_RP.step (pc2 := 46) (ls2 := [(5, .int (nI n)), (0, .ref 111), (1, .int (nI k)), (2, .int (nI s)), (3, .int (nI c)), (4, .int (nI y))]) (st2 := [.ref 111]) (w3 := w16) rfl rfl ?_
  refine sx_RP.step (pc2 := 48) (ls2 := [(5, .int (nI n)), (0, .ref 111), (1, .int (nI k)), (2, .int (nI s)), (3, .int (nI c)), (4, .int (nI y))]) (st2 := [.int (nI n), .ref 111]) (w3 := w16) rfl rfl ?_
  refine sx_RP.step (pc2 := 49) (ls2 := [(5, .int (nI n)), (0, .ref 111), (1, .int (nI k)), (2, .int (nI s)), (3, .int (nI c)), (4, .int (nI y))]) (st2 := [.int 3, .int (nI n), .ref 111]) (w3 := w16) rfl rfl ?_
  refine sx_RP.step (pc2 := 51) (ls2 := [(5, .int (nI n)), (0, .ref 111), (1, .int (nI k)), (2, .int (nI s)), (3, .int (nI c)), (4, .int (nI y))]) (st2 := [.int (nI y), .int 3, .int (nI n), .ref 111]) (w3 := w16) rfl rfl ?_
  refine sx_RP.callp (as2 := [.ref 111, .int (nI n), .int 3, .int (nI y)]) (rest2 := []) rfl rfl (sx_inv_v2 (mi := 153) (k := 110) (st := [.int (nI y), .int 3, .int (nI n), .ref 111]) (w := w16) rfl rfl hI17.1.o111 rfl rfl rfl) rfl rfl rfl (X154 (c := 3) hI17 (show n < 10 by omega) (by decide) (eOK_g (g := n) (c := 3) (by omega) (by decide) (inR.n (show y ≤ 3 by omega)))) (show _ = 54 from rfl) ?_
  rintro r4 w20 ⟨⟨rfl, hv18⟩, hI21, hs19⟩
  show sx_RP _ _ _ _ _ [.int ((ia w16 112).getD (103 + 6 * n + 3) 0)] _ _
  refine sx_RP.step (pc2 := 55) (ls2 := [(5, .int (nI n)), (0, .ref 111), (1, .int (nI k)), (2, .int (nI s)), (3, .int (nI c)), (4, .int (nI y))]) (st2 := []) (w3 := w20) rfl rfl ?_
  refine sx_RP.step (pc2 := 56) (ls2 := [(5, .int (nI n)), (0, .ref 111), (1, .int (nI k)), (2, .int (nI s)), (3, .int (nI c)), (4, .int (nI y))]) (st2 := [.ref 111]) (w3 := w20) rfl rfl ?_
  refine sx_RP.step (pc2 := 58) (ls2 := [(5, .int (nI n)), (0, .ref 111), (1, .int (nI k)), (2, .int (nI s)), (3, .int (nI c)), (4, .int (nI y))]) (st2 := [.int (nI n), .ref 111]) (w3 := w20) rfl rfl ?_
  refine sx_RP.step (pc2 := 59) (ls2 := [(5, .int (nI n)), (0, .ref 111), (1, .int (nI k)), (2, .int (nI s)), (3, .int (nI c)), (4, .int (nI y))]) (st2 := [.int 4, .int (nI n), .ref 111]) (w3 := w20) rfl rfl ?_
  refine sx_RP.step (pc2 := 60) (ls2 := [(5, .int (nI n)), (0, .ref 111), (1, .int (nI k)), (2, .int (nI s)), (3, .int (nI c)), (4, .int (nI y))]) (st2 := [.int 0, .int 4, .int (nI n), .ref 111]) (w3 := w20) rfl rfl ?_
  refine sx_RP.callp (as2 := [.ref 111, .int (nI n), .int 4, .int 0]) (rest2 := []) rfl rfl (sx_inv_v2 (mi := 153) (k := 110) (st := [.int 0, .int 4, .int (nI n), .ref 111]) (w := w20) rfl rfl hI21.1.o111 rfl rfl rfl) rfl rfl rfl (X154 (c := 4) hI21 (show n < 10 by omega) (by decide) (eOK_g (g := n) (c := 4) (by omega) (by decide) trivial)) (show _ = 63 from rfl) ?_
  rintro r4 w24 ⟨⟨rfl, hv22⟩, hI25, hs23⟩
  show sx_RP _ _ _ _ _ [.int ((ia w20 112).getD (103 + 6 * n + 4) 0)] _ _
  refine sx_RP.step (pc2 := 64) (ls2 := [(5, .int (nI n)), (0, .ref 111), (1, .int (nI k)), (2, .int (nI s)), (3, .int (nI c)), (4, .int (nI y))]) (st2 := []) (w3 := w24) rfl rfl ?_
  refine sx_RP.step (pc2 := 65) (ls2 := [(5, .int (nI n)), (0, .ref 111), (1, .int (nI k)), (2, .int (nI s)), (3, .int (nI c)), (4, .int (nI y))]) (st2 := [.ref 111]) (w3 := w24) rfl rfl ?_
  refine sx_RP.step (pc2 := 67) (ls2 := [(5, .int (nI n)), (0, .ref 111), (1, .int (nI k)), (2, .int (nI s)), (3, .int (nI c)), (4, .int (nI y))]) (st2 := [.int (nI n), .ref 111]) (w3 := w24) rfl rfl ?_
  refine sx_RP.step (pc2 := 68) (ls2 := [(5, .int (nI n)), (0, .ref 111), (1, .int (nI k)), (2, .int (nI s)), (3, .int (nI c)), (4, .int (nI y))]) (st2 := [.int 5, .int (nI n), .ref 111]) (w3 := w24) rfl rfl ?_
  refine sx_RP.step (pc2 := 69) (ls2 := [(5, .int (nI n)), (0, .ref 111), (1, .int (nI k)), (2, .int (nI s)), (3, .int (nI c)), (4, .int (nI y))]) (st2 := [.int 0, .int 5, .int (nI n), .ref 111]) (w3 := w24) rfl rfl ?_
  refine sx_RP.callp (as2 := [.ref 111, .int (nI n), .int 5, .int 0]) (rest2 := []) rfl rfl (sx_inv_v2 (mi := 153) (k := 110) (st := [.int 0, .int 5, .int (nI n), .ref 111]) (w := w24) rfl rfl hI25.1.o111 rfl rfl rfl) rfl rfl rfl (X154 (c := 5) hI25 (show n < 10 by omega) (by decide) (eOK_g (g := n) (c := 5) (by omega) (by decide) (show inR 0 1 from ⟨0, by decide, rfl⟩))) (show _ = 72 from rfl) ?_
  rintro r4 w28 ⟨⟨rfl, hv26⟩, hI29, hs27⟩
  show sx_RP _ _ _ _ _ [.int ((ia w24 112).getD (103 + 6 * n + 5) 0)] _ _
  refine sx_RP.step (pc2 := 73) (ls2 := [(5, .int (nI n)), (0, .ref 111), (1, .int (nI k)), (2, .int (nI s)), (3, .int (nI c)), (4, .int (nI y))]) (st2 := []) (w3 := w28) rfl rfl ?_
  refine sx_RP.ret (r := none) rfl rfl ?_
  exact ⟨⟨rfl, by rw [hv26, hv22, hv18, hv14, hv10, hv6, hv4]; rfl⟩, hI29, (Same.tr (Same.tr (Same.tr (Same.tr (Same.tr (Same.tr (Same.tr Same.rf hs3) hs7) hs11) hs15) hs19) hs23) hs27)⟩
end
