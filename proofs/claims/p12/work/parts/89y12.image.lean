-- image, undo, tear, wipe, feed
theorem sx_RU.det {xs : Option (List Int32)} {d mi pc : Nat} {ls : sx_L} {st : List Value} {w : List sx_C} {r r2 : Option Value} {w2 w3 : List sx_C} (h : sx_RU xs d mi pc ls st w r w2) (h2 : sx_RU xs d mi pc ls st w r2 w3) : r = r2 ∧ w2 = w3 := by
  obtain ⟨f, hf⟩ := h
  obtain ⟨g, hg⟩ := h2
  have e := (sx_fuel hf (Nat.le_max_left f g)).symm.trans (sx_fuel hg (Nat.le_max_right f g))
  have e2 := Option.some.inj e
  exact ⟨(Prod.mk.inj e2).1, (Prod.mk.inj e2).2⟩
/-- two contracts of one run -/
theorem sx_RP.and {xs : Option (List Int32)} {d mi pc : Nat} {ls : sx_L} {st : List Value} {w : List sx_C} {P Q : Option Value → List sx_C → Prop} (h : sx_RP xs d mi pc ls st w P) (h2 : sx_RP xs d mi pc ls st w Q) : sx_RP xs d mi pc ls st w (fun r w2 => P r w2 ∧ Q r w2) := by
  obtain ⟨r, w2, h1, hp⟩ := h
  obtain ⟨r2, w3, g1, hq⟩ := h2
  obtain ⟨rfl, rfl⟩ := h1.det g1
  exact ⟨r, w2, h1, hp, hq⟩
set_option maxRecDepth 20000 in
set_option maxHeartbeats 4000000 in
theorem Z124 {xs : Option (List Int32)} {d : Nat} {w : List sx_C} (hI : WI w) : sx_RP xs (d + 7) 124 0 (lv_args 0 [.ref 0]) [] w (fun r w2 => (r = some (.int 1) ∧ fi w2 0 3 = 1 ∧ ∀ l, rel w 1 l → rel w2 15 l) ∧ WI w2 ∧ ∀ a, a ≠ 0 → (a < 15 ∨ 29 ≤ a) → w2[a]? = w[a]?) := by
  refine sx_RP.step (pc2 := 1) (ls2 := [(0, .ref 0)]) (st2 := [.ref 0]) (w3 := w) rfl rfl ?_
  refine sx_RP.gf (v := .ref 15) rfl rfl hI.1.o0 rfl rfl (show _ = 4 from rfl) ?_
  refine sx_RP.step (pc2 := 5) (ls2 := [(0, .ref 0)]) (st2 := [.ref 0, .ref 15]) (w3 := w) rfl rfl ?_
  refine sx_RP.gf (v := .ref 1) rfl rfl hI.1.o0 rfl rfl (show _ = 8 from rfl) ?_
  refine sx_RP.callp (as2 := [.ref 15, .ref 1]) (rest2 := []) rfl rfl (sx_inv_v2 (mi := 124) (k := 179) (st := [.ref 1, .ref 15]) (w := w) rfl rfl (hI.1.oC (Or.inr (Or.inl rfl))) rfl rfl rfl) rfl rfl rfl (X50 hI (Or.inr (Or.inl rfl)) (Or.inl rfl) (by omega)) (show _ = 11 from rfl) ?_
  rintro r4 w2 ⟨rfl, hI3, ht1⟩
  show sx_RP _ _ _ _ _ [] _ _
  refine sx_RP.step (pc2 := 12) (ls2 := [(0, .ref 0)]) (st2 := [.ref 0]) (w3 := w2) rfl rfl ?_
  refine sx_RP.step (pc2 := 13) (ls2 := [(0, .ref 0)]) (st2 := [.int 1, .ref 0]) (w3 := w2) rfl rfl ?_
  refine sx_RP.xK hI3 rfl rfl rfl ⟨1, by decide, rfl⟩ (show _ = 16 from rfl) (fun w4 hI5 hs6 hv7 => ?_)
  refine sx_RP.step (pc2 := 17) (ls2 := [(0, .ref 0)]) (st2 := [.int 1]) (w3 := w4) rfl rfl ?_
  refine sx_RP.ret (r := (some (.int 1))) rfl rfl ?_
  exact ⟨⟨rfl, hv7, fun l hl => (hl.took ht1).same hI3 (Or.inr (Or.inl rfl)) (fun a h1 h2 => hs6 a (by omega))⟩, hI5, fun a h1 h2 => (hs6 a h1).trans (ht1.1 a (by omega))⟩
set_option maxRecDepth 20000 in
set_option maxHeartbeats 4000000 in
theorem Z125_0 {xs : Option (List Int32)} {d : Nat} {w : List sx_C} (hI : WI w) (ek : fi w 0 3 = 0) : sx_RP xs (d + 7) 125 0 (lv_args 0 [.ref 0]) [] w (fun r w2 => r = some (.int (-1000000004)) ∧ WI w2 ∧ Same 99 w w2) := by
  refine sx_RP.step (pc2 := 1) (ls2 := [(0, .ref 0)]) (st2 := [.ref 0]) (w3 := w) rfl rfl ?_
  refine sx_RP.gf (v := .int (fi w 0 3)) rfl rfl hI.1.o0 rfl rfl (show _ = 4 from rfl) ?_
  rw [ek]
  refine sx_RP.step (pc2 := 7) (ls2 := [(0, .ref 0)]) (st2 := []) (w3 := w) rfl rfl ?_
  refine sx_RP.step (pc2 := 8) (ls2 := [(0, .ref 0)]) (st2 := [.ref 0]) (w3 := w) rfl rfl ?_
  refine sx_RP.step (pc2 := 10) (ls2 := [(0, .ref 0)]) (st2 := [.int (-1000000004), .ref 0]) (w3 := w) rfl rfl ?_
  refine sx_RP.callp (as2 := [.ref 0, .int (-1000000004)]) (rest2 := []) rfl rfl (sx_inv_v2 (mi := 125) (k := 78) (st := [.int (-1000000004), .ref 0]) (w := w) rfl rfl hI.1.o0 rfl rfl rfl) rfl rfl rfl (S9_3 hI) (show _ = 13 from rfl) ?_
  rintro r4 w2 ⟨rfl, hI3, hs1⟩
  show sx_RP _ _ _ _ _ [.int (-1000000004)] _ _
  refine sx_RP.ret (r := (some (.int (-1000000004)))) rfl rfl ?_
  exact ⟨rfl, hI3, hs1⟩
set_option maxRecDepth 20000 in
set_option maxHeartbeats 4000000 in
theorem Z125_1 {xs : Option (List Int32)} {d : Nat} {w : List sx_C} (hI : WI w) (ek : fi w 0 3 = 1) : sx_RP xs (d + 7) 125 0 (lv_args 0 [.ref 0]) [] w (fun r w2 => (r = some (.int (fi w 15 3)) ∧ ∀ l, rel w 15 l → rel w2 1 l) ∧ WI w2 ∧ Out 1 w w2) := by
  refine sx_RP.step (pc2 := 1) (ls2 := [(0, .ref 0)]) (st2 := [.ref 0]) (w3 := w) rfl rfl ?_
  refine sx_RP.gf (v := .int (fi w 0 3)) rfl rfl hI.1.o0 rfl rfl (show _ = 4 from rfl) ?_
  rw [ek]
  refine sx_RP.step (pc2 := 14) (ls2 := [(0, .ref 0)]) (st2 := []) (w3 := w) rfl rfl ?_
  refine sx_RP.step (pc2 := 15) (ls2 := [(0, .ref 0)]) (st2 := [.ref 0]) (w3 := w) rfl rfl ?_
  refine sx_RP.gf (v := .ref 1) rfl rfl hI.1.o0 rfl rfl (show _ = 18 from rfl) ?_
  refine sx_RP.step (pc2 := 19) (ls2 := [(0, .ref 0)]) (st2 := [.ref 0, .ref 1]) (w3 := w) rfl rfl ?_
  refine sx_RP.gf (v := .ref 15) rfl rfl hI.1.o0 rfl rfl (show _ = 22 from rfl) ?_
  refine sx_RP.callp (as2 := [.ref 1, .ref 15]) (rest2 := []) rfl rfl (sx_inv_v2 (mi := 125) (k := 179) (st := [.ref 15, .ref 1]) (w := w) rfl rfl (hI.1.oC (Or.inl rfl)) rfl rfl rfl) rfl rfl rfl (X50 hI (Or.inl rfl) (Or.inr (Or.inl rfl)) (by omega)) (show _ = 25 from rfl) ?_
  rintro r4 w2 ⟨rfl, hI3, ht1⟩
  show sx_RP _ _ _ _ _ [] _ _
  refine sx_RP.step (pc2 := 26) (ls2 := [(0, .ref 0)]) (st2 := [.ref 0]) (w3 := w2) rfl rfl ?_
  refine sx_RP.gf (v := .ref 1) rfl rfl hI3.1.o0 rfl rfl (show _ = 29 from rfl) ?_
  refine sx_RP.gc (k := 3) hI3 (Or.inl rfl) rfl rfl (by omega) (show _ = 32 from rfl) ?_
  obtain ⟨x4, hx5, ex6⟩ : inR (fi w2 1 3) 10 := (hI3.c (Or.inl rfl)).1
  rw [ex6]
  refine sx_RP.ret (r := (some (.int (nI x4)))) rfl rfl ?_
  exact ⟨⟨by rw [← ex6, ht1.2.2.2.1 3 (by omega)], fun l hl => hl.took ht1⟩, hI3, ht1.1⟩
set_option maxRecDepth 20000 in
set_option maxHeartbeats 4000000 in
theorem Z126 {xs : Option (List Int32)} {d : Nat} {w : List sx_C} (hI : WI w) : sx_RP xs (d + 7) 126 0 (lv_args 0 [.ref 0]) [] w (fun r w2 => (r = some (.int (fi w 0 3)) ∧ fi w2 0 3 = 0) ∧ WI w2 ∧ Same 0 w w2) := by
  rcases keeps_01 hI with ek | ek
  · refine sx_RP.step (pc2 := 1) (ls2 := [(0, .ref 0)]) (st2 := [.ref 0]) (w3 := w) rfl rfl ?_
    refine sx_RP.gf (v := .int (fi w 0 3)) rfl rfl hI.1.o0 rfl rfl (show _ = 4 from rfl) ?_
    rw [ek]
    refine sx_RP.step (pc2 := 11) (ls2 := [(0, .ref 0)]) (st2 := []) (w3 := w) rfl rfl ?_
    refine sx_RP.step (pc2 := 12) (ls2 := [(0, .ref 0)]) (st2 := [.int 0]) (w3 := w) rfl rfl ?_
    refine sx_RP.step (pc2 := 13) (ls2 := [(1, .int 0), (0, .ref 0)]) (st2 := []) (w3 := w) rfl rfl ?_
    refine sx_RP.step (pc2 := 14) (ls2 := [(1, .int 0), (0, .ref 0)]) (st2 := [.ref 0]) (w3 := w) rfl rfl ?_
    refine sx_RP.step (pc2 := 15) (ls2 := [(1, .int 0), (0, .ref 0)]) (st2 := [.int 0, .ref 0]) (w3 := w) rfl rfl ?_
    refine sx_RP.xK hI rfl rfl rfl ⟨0, by decide, rfl⟩ (show _ = 18 from rfl) (fun w1 hI2 hs3 hv4 => ?_)
    refine sx_RP.step (pc2 := 19) (ls2 := [(1, .int 0), (0, .ref 0)]) (st2 := [.int 0]) (w3 := w1) rfl rfl ?_
    refine sx_RP.ret (r := (some (.int 0))) rfl rfl ?_
    exact ⟨⟨rfl, hv4⟩, hI2, hs3⟩
  · refine sx_RP.step (pc2 := 1) (ls2 := [(0, .ref 0)]) (st2 := [.ref 0]) (w3 := w) rfl rfl ?_
    refine sx_RP.gf (v := .int (fi w 0 3)) rfl rfl hI.1.o0 rfl rfl (show _ = 4 from rfl) ?_
    rw [ek]
    refine sx_RP.step (pc2 := 7) (ls2 := [(0, .ref 0)]) (st2 := []) (w3 := w) rfl rfl ?_
    refine sx_RP.step (pc2 := 8) (ls2 := [(0, .ref 0)]) (st2 := [.int 1]) (w3 := w) rfl rfl ?_
    refine sx_RP.step (pc2 := 12) (ls2 := [(0, .ref 0)]) (st2 := [.int 1]) (w3 := w) rfl rfl ?_
    refine sx_RP.step (pc2 := 13) (ls2 := [(1, .int 1), (0, .ref 0)]) (st2 := []) (w3 := w) rfl rfl ?_
    refine sx_RP.step (pc2 := 14) (ls2 := [(1, .int 1), (0, .ref 0)]) (st2 := [.ref 0]) (w3 := w) rfl rfl ?_
    refine sx_RP.step (pc2 := 15) (ls2 := [(1, .int 1), (0, .ref 0)]) (st2 := [.int 0, .ref 0]) (w3 := w) rfl rfl ?_
    refine sx_RP.xK hI rfl rfl rfl ⟨0, by decide, rfl⟩ (show _ = 18 from rfl) (fun w5 hI6 hs7 hv8 => ?_)
    refine sx_RP.step (pc2 := 19) (ls2 := [(1, .int 1), (0, .ref 0)]) (st2 := [.int 1]) (w3 := w5) rfl rfl ?_
    refine sx_RP.ret (r := (some (.int 1))) rfl rfl ?_
    exact ⟨⟨rfl, hv8⟩, hI6, hs7⟩
set_option maxRecDepth 20000 in
set_option maxHeartbeats 4000000 in
theorem Z90 {xs : Option (List Int32)} {d : Nat} {w : List sx_C} (hI : WI w) : sx_RP xs (d + 7) 90 0 (lv_args 0 [.ref 0]) [] w (fun r w2 => (r = some (.int (fi w 96 1)) ∧ tapC w2 = []) ∧ WI w2 ∧ Same 96 w w2) := by
  obtain ⟨n, hn, en⟩ := hI.t.1
  refine sx_RP.step (pc2 := 1) (ls2 := [(0, .ref 0)]) (st2 := [.ref 0]) (w3 := w) rfl rfl ?_
  refine sx_RP.gf (v := .ref 96) rfl rfl hI.1.o0 rfl rfl (show _ = 4 from rfl) ?_
  refine sx_RP.callp (as2 := [.ref 96]) (rest2 := []) rfl rfl (sx_inv_v2 (mi := 90) (k := 289) (st := [.ref 96]) (w := w) rfl rfl hI.1.o96 rfl rfl rfl) rfl rfl rfl (X91 hI en) (show _ = 7 from rfl) ?_
  rintro r4 w3 ⟨⟨rfl, hv1⟩, hI4, hs2⟩
  show sx_RP _ _ _ _ _ [.int (nI n)] _ _
  refine sx_RP.ret (r := (some (.int (nI n)))) rfl rfl ?_
  exact ⟨⟨by rw [← en], tapC_nil hv1⟩, hI4, hs2⟩
set_option maxRecDepth 20000 in
set_option maxHeartbeats 4000000 in
theorem F87 {xs : Option (List Int32)} {d : Nat} {w : List sx_C} (hI : WI w) (a1 a2 : Int32) : sx_RP xs (d + 7) 87 0 (lv_args 0 [.ref 0, .int a1, .int a2]) [] w (fun r w2 => WI w2 ∧ ∀ a, a ≠ 96 → a ≠ 97 → a ≠ 99 → w2[a]? = w[a]?) := by
  obtain ⟨n, h120, hn⟩ := hI.t.1
  refine sx_RP.step (pc2 := 1) (ls2 := [(0, .ref 0), (1, .int a1), (2, .int a2)]) (st2 := [.int a2]) (w3 := w) rfl rfl ?_
  refine sx_RP.step (pc2 := 2) (ls2 := [(0, .ref 0), (1, .int a1), (2, .int a2)]) (st2 := [.int 1, .int a2]) (w3 := w) rfl rfl ?_
  refine sx_RP.step (pc2 := 3) (ls2 := [(0, .ref 0), (1, .int a1), (2, .int a2)]) (st2 := [.int 4, .int 1, .int a2]) (w3 := w) rfl rfl ?_
  rcases in_cases a2 1 4 (m := 1) (n := 4) rfl rfl (by decide) (by decide) with q1 | ⟨x2, hx3, hx4, rfl⟩
  · refine sx_RP.cu (as := [.int a2, .int 1, .int 4]) (rest2 := []) (st3 := [.int 0]) rfl rfl rfl rfl rfl (cx_8n q1) rfl ?_
    refine sx_RP.step (pc2 := 9) (ls2 := [(0, .ref 0), (1, .int a1), (2, .int a2)]) (st2 := []) (w3 := w) rfl rfl ?_
    refine sx_RP.step (pc2 := 10) (ls2 := [(0, .ref 0), (1, .int a1), (2, .int a2)]) (st2 := [.ref 0]) (w3 := w) rfl rfl ?_
    refine sx_RP.step (pc2 := 12) (ls2 := [(0, .ref 0), (1, .int a1), (2, .int a2)]) (st2 := [.int (-1000000001), .ref 0]) (w3 := w) rfl rfl ?_
    refine sx_RP.callp (as2 := [.ref 0, .int (-1000000001)]) (rest2 := []) rfl rfl (sx_inv_v2 (mi := 87) (k := 78) (st := [.int (-1000000001), .ref 0]) (w := w) rfl rfl hI.1.o0 rfl rfl rfl) rfl rfl rfl (S9_0 hI) (show _ = 15 from rfl) ?_
    rintro r4 w7 ⟨rfl, hI8, hs6⟩
    show sx_RP _ _ _ _ _ [.int (-1000000001)] _ _
    refine sx_RP.ret (r := (some (.int (-1000000001)))) rfl rfl ?_
    exact ⟨hI8, fun a _ _ h => hs6 a h⟩
  · refine sx_RP.cu (as := [.int (nI x2), .int 1, .int 4]) (rest2 := []) (st3 := [.int 1]) rfl rfl rfl rfl rfl (cx_8p ⟨nI_le (a := 1) hx3 (by omega), nI_le (b := 4) hx4 (by decide)⟩) rfl ?_
    refine sx_RP.step (pc2 := 16) (ls2 := [(0, .ref 0), (1, .int a1), (2, .int (nI x2))]) (st2 := []) (w3 := w) rfl rfl ?_
    refine sx_RP.step (pc2 := 17) (ls2 := [(0, .ref 0), (1, .int a1), (2, .int (nI x2))]) (st2 := [.ref 0]) (w3 := w) rfl rfl ?_
    refine sx_RP.gf (v := .ref 96) rfl rfl hI.1.o0 rfl rfl (show _ = 20 from rfl) ?_
    refine sx_RP.step (pc2 := 21) (ls2 := [(0, .ref 0), (1, .int a1), (2, .int (nI x2))]) (st2 := [.int (nI x2), .ref 96]) (w3 := w) rfl rfl ?_
    rcases Decidable.em (n + x2 ≤ 120) with c9 | c9
    · refine sx_RP.cu (as := [.ref 96, .int (nI x2)]) (rest2 := []) (st3 := [.int 1]) rfl rfl (sx_inv_v2 (mi := 87) (k := 279) (st := [.int (nI x2), .ref 96]) (w := w) rfl rfl hI.1.o96 rfl rfl rfl) rfl rfl (p88y hI hn h120 (by omega) c9) rfl ?_
      refine sx_RP.step (pc2 := 34) (ls2 := [(0, .ref 0), (1, .int a1), (2, .int (nI x2))]) (st2 := []) (w3 := w) rfl rfl ?_
      refine sx_RP.step (pc2 := 35) (ls2 := [(0, .ref 0), (1, .int a1), (2, .int (nI x2))]) (st2 := [.int (nI x2)]) (w3 := w) rfl rfl ?_
      refine sx_RP.step (pc2 := 36) (ls2 := [(0, .ref 0), (1, .int a1), (2, .int (nI x2))]) (st2 := [.int 1, .int (nI x2)]) (w3 := w) rfl rfl ?_
      refine sx_RP.step (pc2 := 37) (ls2 := [(0, .ref 0), (1, .int a1), (2, .int (nI x2))]) (st2 := [.int ((nI x2) - 1)]) (w3 := w) rfl rfl ?_
      refine sx_RP.step (pc2 := 38) (ls2 := [(3, .int ((nI x2) - 1)), (0, .ref 0), (1, .int a1), (2, .int (nI x2))]) (st2 := []) (w3 := w) rfl rfl ?_
      have key : ∀ k, k = x2 → sx_RP xs (d + 7) 87 38 [(0, .ref 0), (1, .int a1), (2, .int (nI k)), (3, .int (nI k - 1))] [] w (fun r w2 => (r = some (.int (nI (n + k))) ∧ tapC w2 = tapC w ++ bytesOf a1 k) ∧ WI w2 ∧ Off w w2) := by
        intro k hk
        rcases (show k = 1 ∨ k = 2 ∨ k = 3 ∨ k = 4 by omega) with rfl | rfl | rfl | rfl
        · exact X87_0 hI (by omega) hn
        · exact X87_1 hI (by omega) hn
        · exact X87_2 hI (by omega) hn
        · exact X87_3 hI (by omega) hn
      exact sx_RP.ls (sx_lr.cons rfl (sx_lr.cons rfl (sx_lr.cons rfl (sx_lr.cons rfl sx_lr.nil)))) ((key x2 rfl).mono (fun r w2 q => ⟨q.2.1, fun a h1 h2 _ => q.2.2 a h1 h2⟩))
    · refine sx_RP.cu (as := [.ref 96, .int (nI x2)]) (rest2 := []) (st3 := [.int 0]) rfl rfl (sx_inv_v2 (mi := 87) (k := 279) (st := [.int (nI x2), .ref 96]) (w := w) rfl rfl hI.1.o96 rfl rfl rfl) rfl rfl (p88n hI hn h120 (by omega) c9) rfl ?_
      refine sx_RP.step (pc2 := 27) (ls2 := [(0, .ref 0), (1, .int a1), (2, .int (nI x2))]) (st2 := []) (w3 := w) rfl rfl ?_
      refine sx_RP.step (pc2 := 28) (ls2 := [(0, .ref 0), (1, .int a1), (2, .int (nI x2))]) (st2 := [.ref 0]) (w3 := w) rfl rfl ?_
      refine sx_RP.step (pc2 := 30) (ls2 := [(0, .ref 0), (1, .int a1), (2, .int (nI x2))]) (st2 := [.int (-1000000002), .ref 0]) (w3 := w) rfl rfl ?_
      refine sx_RP.callp (as2 := [.ref 0, .int (-1000000002)]) (rest2 := []) rfl rfl (sx_inv_v2 (mi := 87) (k := 78) (st := [.int (-1000000002), .ref 0]) (w := w) rfl rfl hI.1.o0 rfl rfl rfl) rfl rfl rfl (S9_1 hI) (show _ = 33 from rfl) ?_
      rintro r4 w11 ⟨rfl, hI12, hs10⟩
      show sx_RP _ _ _ _ _ [.int (-1000000002)] _ _
      refine sx_RP.ret (r := (some (.int (-1000000002)))) rfl rfl ?_
      exact ⟨hI12, fun a _ _ h => hs10 a h⟩
set_option maxRecDepth 20000 in
set_option maxHeartbeats 4000000 in
theorem Y240 {xs : Option (List Int32)} {d : Nat} {w : List sx_C} (hI : WI w) : sx_RP xs (d + 7) 240 0 (lv_args 0 [.ref 111]) [] w (fun r w2 => (r = some (.int 1) ∧ fi w2 111 4 = 1 ∧ ia w2 113 = ia w 112 ∧ fi w2 111 11 = fi w 111 11) ∧ WI w2 ∧ ∀ a, a ≠ 111 → a ≠ 113 → w2[a]? = w[a]?) := by
  refine sx_RP.step (pc2 := 1) (ls2 := [(0, .ref 111)]) (st2 := [.ref 111]) (w3 := w) rfl rfl ?_
  refine sx_RP.gf (v := .ref 112) rfl rfl hI.1.o111 rfl rfl (show _ = 4 from rfl) ?_
  refine sx_RP.step (pc2 := 5) (ls2 := [(0, .ref 111)]) (st2 := [.ref 111, .ref 112]) (w3 := w) rfl rfl ?_
  refine sx_RP.gf (v := .ref 113) rfl rfl hI.1.o111 rfl rfl (show _ = 8 from rfl) ?_
  refine sx_RP.callp (as2 := [.ref 112, .ref 113]) (rest2 := []) rfl rfl rfl rfl rfl rfl (K175 hI (a := 112) (b := 113) (by decide) (by decide) (by decide)) (show _ = 11 from rfl) ?_
  rintro r4 w2 ⟨rfl, hI3, hl1⟩
  show sx_RP _ _ _ _ _ [] _ _
  refine sx_RP.step (pc2 := 12) (ls2 := [(0, .ref 111)]) (st2 := [.ref 111]) (w3 := w2) rfl rfl ?_
  refine sx_RP.step (pc2 := 13) (ls2 := [(0, .ref 111)]) (st2 := [.int 1, .ref 111]) (w3 := w2) rfl rfl ?_
  refine sx_RP.xJ (k := 4) hI3 rfl rfl (by decide) rfl ⟨1, by decide, rfl⟩ (show _ = 16 from rfl) (fun w4 hI5 hs6 hv7 hr8 => ?_)
  refine sx_RP.step (pc2 := 17) (ls2 := [(0, .ref 111)]) (st2 := [.int 1]) (w3 := w4) rfl rfl ?_
  refine sx_RP.ret (r := (some (.int 1))) rfl rfl ?_
  exact ⟨⟨rfl, hv7, (ia_of (hs6 113 (by decide))).trans hl1.2, (hr8 11 (by decide)).trans (fi_same 11 (hl1.1 111 (by decide)))⟩, hI5, fun a h1 h2 => (hs6 a h1).trans (hl1.1 a h2)⟩
set_option maxRecDepth 20000 in
set_option maxHeartbeats 4000000 in
theorem Y241_0 {xs : Option (List Int32)} {d : Nat} {w : List sx_C} (hI : WI w) (ek : fi w 111 4 = 0) : sx_RP xs (d + 7) 241 0 (lv_args 0 [.ref 111]) [] w (fun r w2 => r = some (.int (-1000000004)) ∧ WI w2 ∧ Same 116 w w2) := by
  refine sx_RP.step (pc2 := 1) (ls2 := [(0, .ref 111)]) (st2 := [.ref 111]) (w3 := w) rfl rfl ?_
  refine sx_RP.gf (v := .int (fi w 111 4)) rfl rfl hI.1.o111 rfl rfl (show _ = 4 from rfl) ?_
  rw [ek]
  refine sx_RP.step (pc2 := 7) (ls2 := [(0, .ref 111)]) (st2 := []) (w3 := w) rfl rfl ?_
  refine sx_RP.step (pc2 := 8) (ls2 := [(0, .ref 111)]) (st2 := [.ref 111]) (w3 := w) rfl rfl ?_
  refine sx_RP.step (pc2 := 9) (ls2 := [(0, .ref 111)]) (st2 := [.int 3, .ref 111]) (w3 := w) rfl rfl ?_
  refine sx_RP.callp (as2 := [.ref 111, .int 3]) (rest2 := []) rfl rfl (sx_inv_v2 (mi := 241) (k := 70) (st := [.int 3, .ref 111]) (w := w) rfl rfl hI.1.o111 rfl rfl rfl) rfl rfl rfl (S133_3 hI) (show _ = 12 from rfl) ?_
  rintro r4 w2 ⟨rfl, hI3, hs1⟩
  show sx_RP _ _ _ _ _ [.int (-1000000004)] _ _
  refine sx_RP.ret (r := (some (.int (-1000000004)))) rfl rfl ?_
  exact ⟨rfl, hI3, hs1⟩
set_option maxRecDepth 20000 in
set_option maxHeartbeats 4000000 in
theorem Y241_1 {xs : Option (List Int32)} {d : Nat} {w : List sx_C} (hI : WI w) (ek : fi w 111 4 = 1) : sx_RP xs (d + 7) 241 0 (lv_args 0 [.ref 111]) [] w (fun r w2 => (r = some (.int ((ia w 113).getD 1 0)) ∧ ia w2 112 = ia w 113) ∧ WI w2 ∧ Same 112 w w2) := by
  refine sx_RP.step (pc2 := 1) (ls2 := [(0, .ref 111)]) (st2 := [.ref 111]) (w3 := w) rfl rfl ?_
  refine sx_RP.gf (v := .int (fi w 111 4)) rfl rfl hI.1.o111 rfl rfl (show _ = 4 from rfl) ?_
  rw [ek]
  refine sx_RP.step (pc2 := 13) (ls2 := [(0, .ref 111)]) (st2 := []) (w3 := w) rfl rfl ?_
  refine sx_RP.step (pc2 := 14) (ls2 := [(0, .ref 111)]) (st2 := [.ref 111]) (w3 := w) rfl rfl ?_
  refine sx_RP.gf (v := .ref 113) rfl rfl hI.1.o111 rfl rfl (show _ = 17 from rfl) ?_
  refine sx_RP.step (pc2 := 18) (ls2 := [(0, .ref 111)]) (st2 := [.ref 111, .ref 113]) (w3 := w) rfl rfl ?_
  refine sx_RP.gf (v := .ref 112) rfl rfl hI.1.o111 rfl rfl (show _ = 21 from rfl) ?_
  refine sx_RP.callp (as2 := [.ref 113, .ref 112]) (rest2 := []) rfl rfl rfl rfl rfl rfl (K175 hI (a := 113) (b := 112) (by decide) (by decide) (by decide)) (show _ = 24 from rfl) ?_
  rintro r4 w2 ⟨rfl, hI3, hl1⟩
  show sx_RP _ _ _ _ _ [] _ _
  refine sx_RP.step (pc2 := 25) (ls2 := [(0, .ref 111)]) (st2 := [.ref 111]) (w3 := w2) rfl rfl ?_
  refine sx_RP.gf (v := .ref 112) rfl rfl hI3.1.o111 rfl rfl (show _ = 28 from rfl) ?_
  refine sx_RP.step (pc2 := 29) (ls2 := [(0, .ref 111)]) (st2 := [.int 1, .ref 112]) (w3 := w2) rfl rfl ?_
  refine sx_RP.ild (c := 1) rfl hI3.1.a112.1 hI3.1.a112.2 (sx_in_nI (show 1 < 172 by omega) (by decide)) (show (nI 1).toNatClampNeg = 1 from nI_clamp (by omega)) (show _ = 30 from rfl) ?_
  obtain ⟨x4, hx5, ex6⟩ : inR ((ia w2 112).getD 1 0) 10 := (hI3.s (1) (by omega)).1 rfl
  rw [ex6]
  refine sx_RP.ret (r := (some (.int (nI x4)))) rfl rfl ?_
  exact ⟨⟨by rw [← ex6, hl1.2], hl1.2⟩, hI3, hl1.1⟩
set_option maxRecDepth 20000 in
set_option maxHeartbeats 4000000 in
theorem Y242 {xs : Option (List Int32)} {d : Nat} {w : List sx_C} (hI : WI w) : sx_RP xs (d + 7) 242 0 (lv_args 0 [.ref 111]) [] w (fun r w2 => (r = some (.int (fi w 111 4)) ∧ fi w2 111 4 = 0 ∧ fi w2 111 11 = fi w 111 11) ∧ WI w2 ∧ Same 111 w w2) := by
  rcases kept_01 hI with ek | ek
  · refine sx_RP.step (pc2 := 1) (ls2 := [(0, .ref 111)]) (st2 := [.ref 111]) (w3 := w) rfl rfl ?_
    refine sx_RP.gf (v := .int (fi w 111 4)) rfl rfl hI.1.o111 rfl rfl (show _ = 4 from rfl) ?_
    rw [ek]
    refine sx_RP.step (pc2 := 11) (ls2 := [(0, .ref 111)]) (st2 := []) (w3 := w) rfl rfl ?_
    refine sx_RP.step (pc2 := 12) (ls2 := [(0, .ref 111)]) (st2 := [.int 0]) (w3 := w) rfl rfl ?_
    refine sx_RP.step (pc2 := 13) (ls2 := [(1, .int 0), (0, .ref 111)]) (st2 := []) (w3 := w) rfl rfl ?_
    refine sx_RP.step (pc2 := 14) (ls2 := [(1, .int 0), (0, .ref 111)]) (st2 := [.ref 111]) (w3 := w) rfl rfl ?_
    refine sx_RP.step (pc2 := 15) (ls2 := [(1, .int 0), (0, .ref 111)]) (st2 := [.int 0, .ref 111]) (w3 := w) rfl rfl ?_
    refine sx_RP.xJ (k := 4) hI rfl rfl (by decide) rfl ⟨0, by decide, rfl⟩ (show _ = 18 from rfl) (fun w1 hI2 hs3 hv4 hr5 => ?_)
    refine sx_RP.step (pc2 := 19) (ls2 := [(1, .int 0), (0, .ref 111)]) (st2 := [.int 0]) (w3 := w1) rfl rfl ?_
    refine sx_RP.ret (r := (some (.int 0))) rfl rfl ?_
    exact ⟨⟨rfl, hv4, hr5 11 (by decide)⟩, hI2, hs3⟩
  · refine sx_RP.step (pc2 := 1) (ls2 := [(0, .ref 111)]) (st2 := [.ref 111]) (w3 := w) rfl rfl ?_
    refine sx_RP.gf (v := .int (fi w 111 4)) rfl rfl hI.1.o111 rfl rfl (show _ = 4 from rfl) ?_
    rw [ek]
    refine sx_RP.step (pc2 := 7) (ls2 := [(0, .ref 111)]) (st2 := []) (w3 := w) rfl rfl ?_
    refine sx_RP.step (pc2 := 8) (ls2 := [(0, .ref 111)]) (st2 := [.int 1]) (w3 := w) rfl rfl ?_
    refine sx_RP.step (pc2 := 12) (ls2 := [(0, .ref 111)]) (st2 := [.int 1]) (w3 := w) rfl rfl ?_
    refine sx_RP.step (pc2 := 13) (ls2 := [(1, .int 1), (0, .ref 111)]) (st2 := []) (w3 := w) rfl rfl ?_
    refine sx_RP.step (pc2 := 14) (ls2 := [(1, .int 1), (0, .ref 111)]) (st2 := [.ref 111]) (w3 := w) rfl rfl ?_
    refine sx_RP.step (pc2 := 15) (ls2 := [(1, .int 1), (0, .ref 111)]) (st2 := [.int 0, .ref 111]) (w3 := w) rfl rfl ?_
    refine sx_RP.xJ (k := 4) hI rfl rfl (by decide) rfl ⟨0, by decide, rfl⟩ (show _ = 18 from rfl) (fun w6 hI7 hs8 hv9 hr10 => ?_)
    refine sx_RP.step (pc2 := 19) (ls2 := [(1, .int 1), (0, .ref 111)]) (st2 := [.int 1]) (w3 := w6) rfl rfl ?_
    refine sx_RP.ret (r := (some (.int 1))) rfl rfl ?_
    exact ⟨⟨rfl, hv9, hr10 11 (by decide)⟩, hI7, hs8⟩
set_option maxRecDepth 20000 in
set_option maxHeartbeats 4000000 in
theorem Y209 {xs : Option (List Int32)} {d : Nat} {w : List sx_C} (hI : WI w) : sx_RP xs (d + 7) 209 0 (lv_args 0 [.ref 111]) [] w (fun r w2 => (r = some (.int (fi w 111 11)) ∧ tapM w2 = [] ∧ fi w2 111 4 = fi w 111 4) ∧ WI w2 ∧ Same 111 w w2) := by
  obtain ⟨n, hn, en⟩ := hI.m.2.1
  refine sx_RP.step (pc2 := 1) (ls2 := [(0, .ref 111)]) (st2 := [.ref 111]) (w3 := w) rfl rfl ?_
  refine sx_RP.gf (v := .int (fi w 111 11)) rfl rfl hI.1.o111 rfl rfl (show _ = 4 from rfl) ?_
  rw [en]
  refine sx_RP.step (pc2 := 5) (ls2 := [(1, .int (nI n)), (0, .ref 111)]) (st2 := []) (w3 := w) rfl rfl ?_
  refine sx_RP.step (pc2 := 6) (ls2 := [(1, .int (nI n)), (0, .ref 111)]) (st2 := [.ref 111]) (w3 := w) rfl rfl ?_
  refine sx_RP.step (pc2 := 7) (ls2 := [(1, .int (nI n)), (0, .ref 111)]) (st2 := [.int 0, .ref 111]) (w3 := w) rfl rfl ?_
  refine sx_RP.xJ (k := 11) hI rfl rfl (by decide) rfl ⟨0, by decide, rfl⟩ (show _ = 10 from rfl) (fun w1 hI2 hs3 hv4 hr5 => ?_)
  refine sx_RP.step (pc2 := 11) (ls2 := [(1, .int (nI n)), (0, .ref 111)]) (st2 := [.int (nI n)]) (w3 := w1) rfl rfl ?_
  refine sx_RP.ret (r := (some (.int (nI n)))) rfl rfl ?_
  exact ⟨⟨by rw [← en], tapM_nil hv4, hr5 4 (by decide)⟩, hI2, hs3⟩
set_option maxRecDepth 20000 in
set_option maxHeartbeats 4000000 in
theorem F208 {xs : Option (List Int32)} {d : Nat} {w : List sx_C} (hI : WI w) (a1 a2 : Int32) : sx_RP xs (d + 7) 208 0 (lv_args 0 [.ref 111, .int a1, .int a2]) [] w (fun r w2 => WI w2 ∧ fi w2 111 4 = fi w 111 4 ∧ ∀ a, a ≠ 111 → a ≠ 121 → a ≠ 116 → w2[a]? = w[a]?) := by
  obtain ⟨n, h120, hn⟩ := hI.m.2.1
  refine sx_RP.step (pc2 := 1) (ls2 := [(0, .ref 111), (1, .int a1), (2, .int a2)]) (st2 := [.int a2]) (w3 := w) rfl rfl ?_
  refine sx_RP.step (pc2 := 2) (ls2 := [(0, .ref 111), (1, .int a1), (2, .int a2)]) (st2 := [.int 1, .int a2]) (w3 := w) rfl rfl ?_
  refine sx_RP.step (pc2 := 3) (ls2 := [(0, .ref 111), (1, .int a1), (2, .int a2)]) (st2 := [.int 4, .int 1, .int a2]) (w3 := w) rfl rfl ?_
  rcases in_cases a2 1 4 (m := 1) (n := 4) rfl rfl (by decide) (by decide) with q1 | ⟨x2, hx3, hx4, rfl⟩
  · refine sx_RP.cu (as := [.int a2, .int 1, .int 4]) (rest2 := []) (st3 := [.int 0]) rfl rfl rfl rfl rfl (cx_132o q1) rfl ?_
    refine sx_RP.step (pc2 := 9) (ls2 := [(0, .ref 111), (1, .int a1), (2, .int a2)]) (st2 := []) (w3 := w) rfl rfl ?_
    refine sx_RP.step (pc2 := 10) (ls2 := [(0, .ref 111), (1, .int a1), (2, .int a2)]) (st2 := [.ref 111]) (w3 := w) rfl rfl ?_
    refine sx_RP.step (pc2 := 11) (ls2 := [(0, .ref 111), (1, .int a1), (2, .int a2)]) (st2 := [.int 0, .ref 111]) (w3 := w) rfl rfl ?_
    refine sx_RP.callp (as2 := [.ref 111, .int 0]) (rest2 := []) rfl rfl (sx_inv_v2 (mi := 208) (k := 70) (st := [.int 0, .ref 111]) (w := w) rfl rfl hI.1.o111 rfl rfl rfl) rfl rfl rfl (S133_0 hI) (show _ = 14 from rfl) ?_
    rintro r4 w7 ⟨rfl, hI8, hs6⟩
    show sx_RP _ _ _ _ _ [.int (-1000000001)] _ _
    refine sx_RP.ret (r := (some (.int (-1000000001)))) rfl rfl ?_
    exact ⟨hI8, fi_same 4 (hs6 111 (by decide)), fun a _ _ h => hs6 a h⟩
  · refine sx_RP.cu (as := [.int (nI x2), .int 1, .int 4]) (rest2 := []) (st3 := [.int 1]) rfl rfl rfl rfl rfl (cx_132p ⟨nI_le (a := 1) hx3 (by omega), nI_le (b := 4) hx4 (by decide)⟩) rfl ?_
    refine sx_RP.step (pc2 := 15) (ls2 := [(0, .ref 111), (1, .int a1), (2, .int (nI x2))]) (st2 := []) (w3 := w) rfl rfl ?_
    refine sx_RP.step (pc2 := 16) (ls2 := [(0, .ref 111), (1, .int a1), (2, .int (nI x2))]) (st2 := [.ref 111]) (w3 := w) rfl rfl ?_
    refine sx_RP.gf (v := .int (fi w 111 11)) rfl rfl hI.1.o111 rfl rfl (show _ = 19 from rfl) ?_
    rw [hn]
    refine sx_RP.step (pc2 := 20) (ls2 := [(0, .ref 111), (1, .int a1), (2, .int (nI x2))]) (st2 := [.int (nI x2), .int (nI n)]) (w3 := w) rfl rfl ?_
    refine sx_RP.step (pc2 := 21) (ls2 := [(0, .ref 111), (1, .int a1), (2, .int (nI x2))]) (st2 := [.int ((nI n) + (nI x2))]) (w3 := w) rfl rfl ?_
    rw [show ((nI n) + (nI x2) : Int32) = nI (n + x2) from nI_add n x2]
    refine sx_RP.step (pc2 := 23) (ls2 := [(0, .ref 111), (1, .int a1), (2, .int (nI x2))]) (st2 := [.int 120, .int (nI (n + x2))]) (w3 := w) rfl rfl ?_
    refine sx_RP.br (p1 := 32) (l1 := [(0, .ref 111), (1, .int a1), (2, .int (nI x2))]) (s1 := []) (v1 := w) (p2 := 26) (l2 := [(0, .ref 111), (1, .int a1), (2, .int (nI x2))]) (s2 := []) (v2 := w) rfl rfl (fun q9 => ?_) (fun q9 => ?_)
    · replace q9 := of_decide_eq_true q9
      replace q9 := (nI_leI (a := (n + x2)) (b := 120) (by omega) (by omega)).mp q9
      refine sx_RP.step (pc2 := 33) (ls2 := [(0, .ref 111), (1, .int a1), (2, .int (nI x2))]) (st2 := [.int (nI x2)]) (w3 := w) rfl rfl ?_
      refine sx_RP.step (pc2 := 34) (ls2 := [(0, .ref 111), (1, .int a1), (2, .int (nI x2))]) (st2 := [.int 1, .int (nI x2)]) (w3 := w) rfl rfl ?_
      refine sx_RP.step (pc2 := 35) (ls2 := [(0, .ref 111), (1, .int a1), (2, .int (nI x2))]) (st2 := [.int ((nI x2) - 1)]) (w3 := w) rfl rfl ?_
      refine sx_RP.step (pc2 := 36) (ls2 := [(3, .int ((nI x2) - 1)), (0, .ref 111), (1, .int a1), (2, .int (nI x2))]) (st2 := []) (w3 := w) rfl rfl ?_
      exact sx_RP.ls (sx_lr.cons rfl (sx_lr.cons rfl (sx_lr.cons rfl sx_lr.nil))) ((X208L a1 x2 n w q9 hn hI).mono (fun r w2 q => ⟨q.2.1, q.1.2.2, fun a h1 h2 _ => q.2.2 a h1 h2⟩))
    · replace q9 := of_decide_eq_false q9
      replace q9 := mt (nI_leI (a := (n + x2)) (b := 120) (by omega) (by omega)).mpr q9
      refine sx_RP.step (pc2 := 27) (ls2 := [(0, .ref 111), (1, .int a1), (2, .int (nI x2))]) (st2 := [.ref 111]) (w3 := w) rfl rfl ?_
      refine sx_RP.step (pc2 := 28) (ls2 := [(0, .ref 111), (1, .int a1), (2, .int (nI x2))]) (st2 := [.int 1, .ref 111]) (w3 := w) rfl rfl ?_
      refine sx_RP.callp (as2 := [.ref 111, .int 1]) (rest2 := []) rfl rfl (sx_inv_v2 (mi := 208) (k := 70) (st := [.int 1, .ref 111]) (w := w) rfl rfl hI.1.o111 rfl rfl rfl) rfl rfl rfl (S133_1 hI) (show _ = 31 from rfl) ?_
      rintro r4 w11 ⟨rfl, hI12, hs10⟩
      show sx_RP _ _ _ _ _ [.int (-1000000002)] _ _
      refine sx_RP.ret (r := (some (.int (-1000000002)))) rfl rfl ?_
      exact ⟨hI12, fi_same 4 (hs10 111 (by decide)), fun a _ _ h => hs10 a h⟩
