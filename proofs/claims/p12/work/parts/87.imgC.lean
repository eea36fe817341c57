-- image, undo, tear, wipe, feed
def imgU (t : BT) : BT := (t.1, 1, t.1, t.2.2.2)
def undA (t : BT) : Int32 := if t.2.1 = 1 then nI t.2.2.1.1.length else -1000000004
def undU (t : BT) : BT := if t.2.1 = 1 then (t.2.2.1, t.2) else t
def teaU (t : BT) : BT := (t.1, 0, nilB, t.2.2.2)
def wipU (t : BT) : BT := (t.1, t.2.1, t.2.2.1, [])
def byteOf (x : Int32) (i : Nat) : Int32 := (x >>> (nI (8 * i) &&& 31)) &&& 255
/-- the bytes of the low n, the greatest first -/
def bytesOf (x : Int32) (n : Nat) : List Int32 := (List.range n).map (fun j => byteOf x (n - 1 - j))
def feeA (t : BT) (a2 : Int32) : Int32 := feedA t.2.2.2.length a2
def feeU (t : BT) (a1 a2 : Int32) : BT := if 1 ≤ a2 ∧ a2 ≤ 4 then (if t.2.2.2.length + iN a2 ≤ 120 then (t.1, t.2.1, t.2.2.1, t.2.2.2 ++ bytesOf a1 (iN a2)) else t) else t
section SXEE
variable {xs : Option (List Int32)} {d mi pc pc2 a idx p : Nat} {ls : sx_L} {r : List Value} {w w0 : List sx_C} {P : Option Value → List sx_C → Prop}
theorem sx_RP.xK {v : Int32} (hI : WI w) (hi : sx_ins mi pc = some (.putfield idx, 3)) (hq : sx_lk (sx_fl (sx_own mi)) idx = some (0, 3, p)) (hf : sx_fin mi 0 3 = true) (hv : inR v 1) (hp : pc + 3 = pc2) (kk : ∀ w2, WI w2 → Same 0 w w2 → fi w2 0 3 = v → sx_RP xs d mi pc2 ls r w2 P) : sx_RP xs d mi pc ls (.int v :: .ref 0 :: r) w P := by
  have hw := hI.1.o0
  exact sx_RP.pf hi hq hw (by rw [hf, show sx_okv (sx_ty 0 3) (.int v) = (v == 0 || v == 1) from rfl, inR.bo hv]; rfl) rfl rfl hp (kk _ (hI.set hw rfl (cOK.o hv)) Same.set (by unfold fi; rw [fs_set hw]; rfl))
theorem sx_RP.xN {v : Int32} (hI : WI w) (hi : sx_ins mi pc = some (.putfield idx, 3)) (hq : sx_lk (sx_fl (sx_own mi)) idx = some (4, 1, p)) (hf : sx_fin mi 4 1 = true) (hv : inR v 120) (hp : pc + 3 = pc2) (kk : ∀ w2, WI w2 → Same 96 w w2 → fi w2 96 1 = v → sx_RP xs d mi pc2 ls r w2 P) : sx_RP xs d mi pc ls (.int v :: .ref 96 :: r) w P := by
  have hw := hI.1.o96
  have q := hI.t
  exact sx_RP.pf hi hq hw (by rw [hf]; rfl) rfl rfl hp (kk _ (hI.set hw rfl (cOK.t ⟨hv, q.2⟩)) Same.set (by unfold fi; rw [fs_set hw]; rfl))
end SXEE
theorem keeps_01 {w : List sx_C} (hI : WI w) : fi w 0 3 = 0 ∨ fi w 0 3 = 1 := by
  obtain ⟨j, hj, e⟩ := hI.kp
  rcases (show j = 0 ∨ j = 1 by omega) with rfl | rfl
  · exact Or.inl e
  · exact Or.inr e
set_option maxRecDepth 20000 in
set_option maxHeartbeats 4000000 in
theorem B124 {xs : Option (List Int32)} {d : Nat} {w : List sx_C} (hI : WI w) : sx_RP xs (d + 7) 124 0 (lv_args 0 [.ref 0]) [] w (fun r w2 => (r = some (.int (1)) ∧ FCb w2 = imgU (FCb w)) ∧ WI w2 ∧ ∀ a, 111 ≤ a → w2[a]? = w[a]?) := by
  refine sx_RP.step (pc2 := 1) (ls2 := [(0, .ref 0)]) (st2 := [.ref 0]) (w3 := w) rfl rfl ?_
  refine sx_RP.gf (v := .ref 15) rfl rfl hI.1.o0 rfl rfl (show _ = 4 from rfl) ?_
  refine sx_RP.step (pc2 := 5) (ls2 := [(0, .ref 0)]) (st2 := [.ref 0, .ref 15]) (w3 := w) rfl rfl ?_
  refine sx_RP.gf (v := .ref 1) rfl rfl hI.1.o0 rfl rfl (show _ = 8 from rfl) ?_
  refine sx_RP.callp (as2 := [.ref 15, .ref 1]) (rest2 := []) rfl rfl (sx_inv_v2 (mi := 124) (k := 179) (st := [.ref 1, .ref 15]) (w := w) rfl rfl (hI.1.oC (Or.inr (Or.inl rfl))) rfl rfl rfl) rfl rfl rfl (X50 hI (Or.inr (Or.inl rfl)) (Or.inl rfl) (by omega)) (show _ = 11 from rfl) ?_
  rintro r4 w2 ⟨rfl, hI3, ht1⟩
  show sx_RP _ _ _ _ _ [] _ _
  refine sx_RP.step (pc2 := 12) (ls2 := [(0, .ref 0)]) (st2 := [.ref 0]) (w3 := w2) rfl rfl ?_
  refine sx_RP.step (pc2 := 13) (ls2 := [(0, .ref 0)]) (st2 := [.int 1, .ref 0]) (w3 := w2) rfl rfl ?_
  refine sx_RP.xK hI3 rfl rfl rfl ⟨1, by decide, rfl⟩ (show _ = 16 from rfl) (fun w4 hI5 hs6 hv7 => ?_)
  refine sx_RP.step (pc2 := 17) (ls2 := [(0, .ref 0)]) (st2 := [.int 1]) (w3 := w4) rfl rfl ?_
  refine sx_RP.ret (r := (some (.int 1))) rfl rfl ?_
  have e1 : campB w4 1 = campB w 1 := campB_same (fun a h1 h2 => (hs6 a (by omega)).trans (ht1.1 a (by omega))) (hI.many (Or.inl rfl))
  have e2 : campB w4 15 = campB w 1 := (campB_same (A := 15) (fun a h1 h2 => hs6 a (by omega)) (hI3.many (Or.inr (Or.inl rfl)))).trans ht1.b
  refine ⟨⟨rfl, ?_⟩, hI5, fun a ha => (hs6 a (by omega)).trans (ht1.1 a (by omega))⟩
  unfold FCb imgU
  rw [e1, e2, hv7, if_pos rfl, tapC_same ((hs6 96 (by omega)).trans (ht1.1 96 (by omega))) ((hs6 97 (by omega)).trans (ht1.1 97 (by omega)))]
set_option maxRecDepth 20000 in
set_option maxHeartbeats 4000000 in
theorem B125 {xs : Option (List Int32)} {d : Nat} {w : List sx_C} (hI : WI w) : sx_RP xs (d + 7) 125 0 (lv_args 0 [.ref 0]) [] w (fun r w2 => (r = some (.int (undA (FCb w))) ∧ FCb w2 = undU (FCb w)) ∧ WI w2 ∧ ∀ a, 111 ≤ a → w2[a]? = w[a]?) := by
  rcases keeps_01 hI with ek | ek
  · refine sx_RP.step (pc2 := 1) (ls2 := [(0, .ref 0)]) (st2 := [.ref 0]) (w3 := w) rfl rfl ?_
    refine sx_RP.gf (v := .int (fi w 0 3)) rfl rfl hI.1.o0 rfl rfl (show _ = 4 from rfl) ?_
    rw [ek]
    refine sx_RP.step (pc2 := 7) (ls2 := [(0, .ref 0)]) (st2 := []) (w3 := w) rfl rfl ?_
    refine sx_RP.step (pc2 := 8) (ls2 := [(0, .ref 0)]) (st2 := [.ref 0]) (w3 := w) rfl rfl ?_
    refine sx_RP.step (pc2 := 10) (ls2 := [(0, .ref 0)]) (st2 := [.int (-1000000004), .ref 0]) (w3 := w) rfl rfl ?_
    refine sx_RP.callp (as2 := [.ref 0, .int (-1000000004)]) (rest2 := []) rfl rfl (sx_inv_v2 (mi := 125) (k := 78) (st := [.int (-1000000004), .ref 0]) (w := w) rfl rfl hI.1.o0 rfl rfl rfl) rfl rfl rfl (Q9_3 hI) (show _ = 13 from rfl) ?_
    rintro r4 w2 ⟨rfl, hI3, hE1⟩
    show sx_RP _ _ _ _ _ [.int (-1000000004)] _ _
    refine sx_RP.ret (r := (some (.int (-1000000004)))) rfl rfl ?_
    exact ⟨⟨by unfold undA; rw [if_neg (show ¬ (FCb w).2.1 = 1 by show ¬ fi w 0 3 = 1; rw [ek]; decide)], by unfold undU; rw [if_neg (show ¬ (FCb w).2.1 = 1 by show ¬ fi w 0 3 = 1; rw [ek]; decide)]; exact FCb_en hI hE1.en⟩, hI3, fun a ha => hE1 a (Or.inr (Or.inr (by omega)))⟩
  · refine sx_RP.step (pc2 := 1) (ls2 := [(0, .ref 0)]) (st2 := [.ref 0]) (w3 := w) rfl rfl ?_
    refine sx_RP.gf (v := .int (fi w 0 3)) rfl rfl hI.1.o0 rfl rfl (show _ = 4 from rfl) ?_
    rw [ek]
    refine sx_RP.step (pc2 := 14) (ls2 := [(0, .ref 0)]) (st2 := []) (w3 := w) rfl rfl ?_
    refine sx_RP.step (pc2 := 15) (ls2 := [(0, .ref 0)]) (st2 := [.ref 0]) (w3 := w) rfl rfl ?_
    refine sx_RP.gf (v := .ref 1) rfl rfl hI.1.o0 rfl rfl (show _ = 18 from rfl) ?_
    refine sx_RP.step (pc2 := 19) (ls2 := [(0, .ref 0)]) (st2 := [.ref 0, .ref 1]) (w3 := w) rfl rfl ?_
    refine sx_RP.gf (v := .ref 15) rfl rfl hI.1.o0 rfl rfl (show _ = 22 from rfl) ?_
    refine sx_RP.callp (as2 := [.ref 1, .ref 15]) (rest2 := []) rfl rfl (sx_inv_v2 (mi := 125) (k := 179) (st := [.ref 15, .ref 1]) (w := w) rfl rfl (hI.1.oC (Or.inl rfl)) rfl rfl rfl) rfl rfl rfl (X50 hI (Or.inl rfl) (Or.inr (Or.inl rfl)) (by omega)) (show _ = 25 from rfl) ?_
    rintro r4 w5 ⟨rfl, hI6, ht4⟩
    show sx_RP _ _ _ _ _ [] _ _
    refine sx_RP.step (pc2 := 26) (ls2 := [(0, .ref 0)]) (st2 := [.ref 0]) (w3 := w5) rfl rfl ?_
    refine sx_RP.gf (v := .ref 1) rfl rfl hI6.1.o0 rfl rfl (show _ = 29 from rfl) ?_
    refine sx_RP.gc (k := 3) hI6 (Or.inl rfl) rfl rfl (by omega) (show _ = 32 from rfl) ?_
    obtain ⟨x7, hx8, ex9⟩ : inR (fi w5 1 3) 10 := (hI6.c (Or.inl rfl)).1
    rw [ex9]
    refine sx_RP.ret (r := (some (.int (nI x7)))) rfl rfl ?_
    have e1 := ht4.b
    refine ⟨⟨?_, ?_⟩, hI6, fun a ha => ht4.1 a (by omega)⟩
    · unfold undA FCb
      rw [if_pos ek, if_pos ek]
      show some (Value.int (nI x7)) = some (Value.int (nI (campB w 15).1.length))
      rw [← e1]
      unfold campB
      rw [mkB_len1, ex9, iN_n (by omega)]
    · rw [FCb_camp hI ht4.1, e1]
      unfold undU FCb
      rw [if_pos ek, if_pos ek]
set_option maxRecDepth 20000 in
set_option maxHeartbeats 4000000 in
theorem B126 {xs : Option (List Int32)} {d : Nat} {w : List sx_C} (hI : WI w) : sx_RP xs (d + 7) 126 0 (lv_args 0 [.ref 0]) [] w (fun r w2 => (r = some (.int ((FCb w).2.1)) ∧ FCb w2 = teaU (FCb w)) ∧ WI w2 ∧ ∀ a, 111 ≤ a → w2[a]? = w[a]?) := by
  rcases keeps_01 hI with ek | ek
  · refine sx_RP.step (pc2 := 1) (ls2 := [(0, .ref 0)]) (st2 := [.ref 0]) (w3 := w) rfl rfl ?_
    refine sx_RP.gf (v := .int (fi w 0 3)) rfl rfl hI.1.o0 rfl rfl (show _ = 4 from rfl) ?_
    rw [ek]
    refine sx_RP.step (pc2 := 11) (ls2 := [(0, .ref 0)]) (st2 := []) (w3 := w) rfl rfl ?_
    refine sx_RP.step (pc2 := 12) (ls2 := [(0, .ref 0)]) (st2 := [.int 0]) (w3 := w) rfl rfl ?_
    refine sx_RP.step (pc2 := 13) (ls2 := [(1, .int 0), (0, .ref 0)]) (st2 := []) (w3 := w) rfl rfl ?_
    refine sx_RP.step (pc2 := 14) (ls2 := [(1, .int 0), (0, .ref 0)]) (st2 := [.ref 0]) (w3 := w) rfl rfl ?_
    refine sx_RP.step (pc2 := 15) (ls2 := [(1, .int 0), (0, .ref 0)]) (st2 := [.int 0, .ref 0]) (w3 := w) rfl rfl ?_
    refine sx_RP.xK hI rfl rfl rfl ⟨0, by decide, rfl⟩ (show _ = 18 from rfl) (fun w1 hI2 hs3 hv4 => ?_)
    refine sx_RP.step (pc2 := 19) (ls2 := [(1, .int 0), (0, .ref 0)]) (st2 := [.int 0]) (w3 := w1) rfl rfl ?_
    refine sx_RP.ret (r := (some (.int 0))) rfl rfl ?_
    refine ⟨⟨by show some (Value.int 0) = some (Value.int (fi w 0 3)); rw [ek], ?_⟩, hI2, fun a ha => hs3 a (by omega)⟩
    unfold FCb teaU
    rw [hv4, if_neg (by decide), campB_same (A := 1) (fun a h1 h2 => hs3 a (by omega)) (hI.many (Or.inl rfl)), tapC_same (hs3 96 (by omega)) (hs3 97 (by omega))]
  · refine sx_RP.step (pc2 := 1) (ls2 := [(0, .ref 0)]) (st2 := [.ref 0]) (w3 := w) rfl rfl ?_
    refine sx_RP.gf (v := .int (fi w 0 3)) rfl rfl hI.1.o0 rfl rfl (show _ = 4 from rfl) ?_
    rw [ek]
    refine sx_RP.step (pc2 := 7) (ls2 := [(0, .ref 0)]) (st2 := []) (w3 := w) rfl rfl ?_
    refine sx_RP.step (pc2 := 8) (ls2 := [(0, .ref 0)]) (st2 := [.int 1]) (w3 := w) rfl rfl ?_
    refine sx_RP.step (pc2 := 12) (ls2 := [(0, .ref 0)]) (st2 := [.int 1]) (w3 := w) rfl rfl ?_
    refine sx_RP.step (pc2 := 13) (ls2 := [(1, .int 1), (0, .ref 0)]) (st2 := []) (w3 := w) rfl rfl ?_
    refine sx_RP.step (pc2 := 14) (ls2 := [(1, .int 1), (0, .ref 0)]) (st2 := [.ref 0]) (w3 := w) rfl rfl ?_
    refine sx_RP.step (pc2 := 15) (ls2 := [(1, .int 1), (0, .ref 0)]) (st2 := [.int 0, .ref 0]) (w3 := w) rfl rfl ?_
    refine sx_RP.xK hI rfl rfl rfl ⟨0, by decide, rfl⟩ (show _ = 18 from rfl) (fun w5 hI6 hs7 hv8 => ?_)
    refine sx_RP.step (pc2 := 19) (ls2 := [(1, .int 1), (0, .ref 0)]) (st2 := [.int 1]) (w3 := w5) rfl rfl ?_
    refine sx_RP.ret (r := (some (.int 1))) rfl rfl ?_
    refine ⟨⟨by show some (Value.int 1) = some (Value.int (fi w 0 3)); rw [ek], ?_⟩, hI6, fun a ha => hs7 a (by omega)⟩
    unfold FCb teaU
    rw [hv8, if_neg (by decide), campB_same (A := 1) (fun a h1 h2 => hs7 a (by omega)) (hI.many (Or.inl rfl)), tapC_same (hs7 96 (by omega)) (hs7 97 (by omega))]
set_option maxRecDepth 20000 in
set_option maxHeartbeats 4000000 in
theorem X91 {xs : Option (List Int32)} {d : Nat} {w : List sx_C} (hI : WI w) {n : Nat} (en : fi w 96 1 = nI n) : sx_RP xs d 91 0 (lv_args 0 [.ref 96]) [] w (fun r w2 => (r = some (.int (nI n)) ∧ fi w2 96 1 = 0) ∧ WI w2 ∧ Same 96 w w2) := by
  refine sx_RP.step (pc2 := 1) (ls2 := [(0, .ref 96)]) (st2 := [.ref 96]) (w3 := w) rfl rfl ?_
  refine sx_RP.gt (k := 1) hI rfl rfl (by decide) (show _ = 4 from rfl) ?_
  rw [en]
  refine sx_RP.step (pc2 := 5) (ls2 := [(1, .int (nI n)), (0, .ref 96)]) (st2 := []) (w3 := w) rfl rfl ?_
  refine sx_RP.step (pc2 := 6) (ls2 := [(1, .int (nI n)), (0, .ref 96)]) (st2 := [.ref 96]) (w3 := w) rfl rfl ?_
  refine sx_RP.step (pc2 := 7) (ls2 := [(1, .int (nI n)), (0, .ref 96)]) (st2 := [.int 0, .ref 96]) (w3 := w) rfl rfl ?_
  refine sx_RP.xN hI rfl rfl rfl ⟨0, by decide, rfl⟩ (show _ = 10 from rfl) (fun w1 hI2 hs3 hv4 => ?_)
  refine sx_RP.step (pc2 := 11) (ls2 := [(1, .int (nI n)), (0, .ref 96)]) (st2 := [.int (nI n)]) (w3 := w1) rfl rfl ?_
  refine sx_RP.ret (r := (some (.int (nI n)))) rfl rfl ?_
  exact ⟨⟨rfl, hv4⟩, hI2, hs3⟩
theorem FCb_tap {w w2 : List sx_C} (hI : WI w) (h : ∀ a, a < 96 → w2[a]? = w[a]?) : FCb w2 = ((FCb w).1, (FCb w).2.1, (FCb w).2.2.1, tapC w2) := by
  unfold FCb
  rw [fi_same 3 (h 0 (by omega)), campB_same (A := 1) (fun a h1 h2 => h a (by omega)) (hI.many (Or.inl rfl)), campB_same (A := 15) (fun a h1 h2 => h a (by omega)) (hI.many (Or.inr (Or.inl rfl)))]
theorem tapC_len {w : List sx_C} {n : Nat} (en : fi w 96 1 = nI n) (hn : n ≤ 120) : (FCb w).2.2.2.length = n := by
  show (tapC w).length = n
  unfold tapC
  rw [List.length_map, List.length_range, en, iN_n (by omega)]
theorem tapC_nil {w : List sx_C} (en : fi w 96 1 = 0) : tapC w = [] := by
  unfold tapC
  rw [en]
  rfl
set_option maxRecDepth 20000 in
set_option maxHeartbeats 4000000 in
theorem B90 {xs : Option (List Int32)} {d : Nat} {w : List sx_C} (hI : WI w) : sx_RP xs (d + 7) 90 0 (lv_args 0 [.ref 0]) [] w (fun r w2 => (r = some (.int (nI (FCb w).2.2.2.length)) ∧ FCb w2 = wipU (FCb w)) ∧ WI w2 ∧ ∀ a, 111 ≤ a → w2[a]? = w[a]?) := by
  obtain ⟨n, hn, en⟩ := hI.t.1
  refine sx_RP.step (pc2 := 1) (ls2 := [(0, .ref 0)]) (st2 := [.ref 0]) (w3 := w) rfl rfl ?_
  refine sx_RP.gf (v := .ref 96) rfl rfl hI.1.o0 rfl rfl (show _ = 4 from rfl) ?_
  refine sx_RP.callp (as2 := [.ref 96]) (rest2 := []) rfl rfl (sx_inv_v2 (mi := 90) (k := 289) (st := [.ref 96]) (w := w) rfl rfl hI.1.o96 rfl rfl rfl) rfl rfl rfl (X91 hI en) (show _ = 7 from rfl) ?_
  rintro r4 w3 ⟨⟨rfl, hv1⟩, hI4, hs2⟩
  show sx_RP _ _ _ _ _ [.int (nI n)] _ _
  refine sx_RP.ret (r := (some (.int (nI n)))) rfl rfl ?_
  exact ⟨⟨by rw [tapC_len en hn], by rw [FCb_tap hI (fun a ha => hs2 a (by omega)), tapC_nil hv1]; rfl⟩, hI4, fun a ha => hs2 a (by omega)⟩
