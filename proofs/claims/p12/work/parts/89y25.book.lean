-- book
def bkN (N : Nat → Nat → Int64) (s : Nat) (b : Int32) (p : Nat → Int32) (n : Nat) : Nat → Nat → Int64 := fun s2 i => if s2 = s ∧ i < n then ptF b (p i).toInt64 else N s2 i
theorem bkN_0 {N : Nat → Nat → Int64} {s : Nat} {b : Int32} {p : Nat → Int32} : bkN N s b p 0 = N := by
  funext s2 i
  exact if_neg (by omega)
theorem bkN_s {N : Nat → Nat → Int64} {s j : Nat} {b : Int32} {p : Nat → Int32} : wrN (bkN N s b p j) s j (ptF b (p j).toInt64) = bkN N s b p (j + 1) := by
  funext s2 i
  unfold wrN bkN
  by_cases h : s2 = s ∧ i = j
  · rw [if_pos h, if_pos (by omega), h.2]
  · rw [if_neg h]
    by_cases h2 : s2 = s ∧ i < j
    · rw [if_pos h2, if_pos (by omega)]
    · rw [if_neg h2, if_neg (by omega)]
def dpF (l : List Int32) (d : Nat) : Int32 := pesF l (iN (l.getD (163 + d) 0))
theorem dp_n {l : List Int32} {d x : Nat} (hx : x < 48) (e : l.getD (163 + d) 0 = nI x) : dpF l d = pesF l x := by
  unfold dpF
  rw [e, iN_n (by omega)]
def bokA (F : Nat → Int32 × Int32) (l : List Int32) (a1 : Int32) : Int32 := if 0 ≤ a1 ∧ a1 ≤ 3 then (if (F (iN a1)).1 = 0 then -1000000006 else nI (min (iN (F (iN a1)).2) (iN (l.getD 2 0)))) else -1000000001
def bokR (F : Nat → Int32 × Int32) (N : Nat → Nat → Int64) (l : List Int32) (a1 : Int32) : Nat → Nat → Int64 := if 0 ≤ a1 ∧ a1 ≤ 3 then (if (F (iN a1)).1 = 0 then N else bkN N (iN a1) (F (iN a1)).1 (dpF l) (min (iN (F (iN a1)).2) (iN (l.getD 2 0)))) else N
section SXBK
variable {F : Nat → Int32 × Int32} {N : Nat → Nat → Int64} {l : List Int32} {a1 b : Int32} {s z m : Nat}
theorem bok_1 (h : ¬ (0 ≤ a1 ∧ a1 ≤ 3)) : bokA F l a1 = -1000000001 ∧ bokR F N l a1 = N := ⟨if_neg h, if_neg h⟩
theorem bok_2 {y : Int32} (hs : s < 4) (e : F s = (b, y)) (h : b = 0) : bokA F l (nI s) = -1000000006 ∧ bokR F N l (nI s) = N := by
  unfold bokA bokR
  rw [iN_n (by omega), e, if_pos (cp_r hs), if_pos (cp_r hs), if_pos h, if_pos h]
  exact ⟨rfl, rfl⟩
theorem bok_3 (hs : s < 4) (hz : z ≤ 40) (hm : m ≤ 9) (e : F s = (b, nI z)) (h : ¬ b = 0) (em : l.getD 2 0 = nI m) : bokA F l (nI s) = nI (min z m) ∧ bokR F N l (nI s) = bkN N s b (dpF l) (min z m) := by
  unfold bokA bokR
  rw [iN_n (by omega), e, if_pos (cp_r hs), if_pos (cp_r hs), if_neg h, if_neg h, em, iN_n (by omega), iN_n (by omega)]
  exact ⟨rfl, rfl⟩
end SXBK
set_option maxRecDepth 20000 in
set_option maxHeartbeats 4000000 in
theorem x97m {xs : Option (List Int32)} {d : Nat} {w : List sx_C} (hI : WI w) {a b : Nat} (ha : a < 2 ^ 31) (hb : b < 2 ^ 31) : sx_RU xs d 97 0 (lv_args 0 [.int (nI a), .int (nI b)]) [] w (some (.int (nI (min a b)))) w := by
  have h : sx_RP xs d 97 0 (lv_args 0 [.int (nI a), .int (nI b)]) [] w (fun r9 w2 => r9 = some (.int (nI (min a b))) ∧ w2 = w) := by
    refine sx_RP.step (pc2 := 1) (ls2 := [(0, .int (nI a)), (1, .int (nI b))]) (st2 := [.int (nI a)]) (w3 := w) rfl rfl ?_
    refine sx_RP.step (pc2 := 2) (ls2 := [(0, .int (nI a)), (1, .int (nI b))]) (st2 := [.int (nI b), .int (nI a)]) (w3 := w) rfl rfl ?_
    refine sx_RP.br (p1 := 9) (l1 := [(0, .int (nI a)), (1, .int (nI b))]) (s1 := []) (v1 := w) (p2 := 5) (l2 := [(0, .int (nI a)), (1, .int (nI b))]) (s2 := []) (v2 := w) rfl rfl (fun q1 => ?_) (fun q1 => ?_)
    · replace q1 := of_decide_eq_true q1
      replace q1 := (nI_ltI (a := b) (b := a) (by omega) (by omega)).mp q1
      refine sx_RP.step (pc2 := 10) (ls2 := [(0, .int (nI a)), (1, .int (nI b))]) (st2 := [.int (nI b)]) (w3 := w) rfl rfl ?_
      refine sx_RP.ret (r := (some (.int (nI b)))) rfl rfl ?_
      exact ⟨by rw [show min a b = b by omega], rfl⟩
    · replace q1 := of_decide_eq_false q1
      replace q1 := mt (nI_ltI (a := b) (b := a) (by omega) (by omega)).mpr q1
      refine sx_RP.step (pc2 := 6) (ls2 := [(0, .int (nI a)), (1, .int (nI b))]) (st2 := [.int (nI a)]) (w3 := w) rfl rfl ?_
      refine sx_RP.step (pc2 := 10) (ls2 := [(0, .int (nI a)), (1, .int (nI b))]) (st2 := [.int (nI a)]) (w3 := w) rfl rfl ?_
      refine sx_RP.ret (r := (some (.int (nI a)))) rfl rfl ?_
      exact ⟨by rw [show min a b = a by omega], rfl⟩
  obtain ⟨r9, w2, h1, rfl, rfl⟩ := h
  exact h1
set_option maxRecDepth 20000 in
set_option maxHeartbeats 4000000 in
theorem X121L {xs : Option (List Int32)} {d s n m : Nat} {l : List Int32} {w0 : List sx_C} (hs : s < 4) (hn : n ≤ m) (h40 : n ≤ 40) (hm : m ≤ 9) (em : l.getD 2 0 = nI m) : ∀ (q j : Nat) (w : List sx_C), j + q = n → WI w → rel w 1 l → FIT w 1 → SK w → NCs w = bkN (NCs w0) s (fi w0 (103 + 2 * s) 1) (dpF l) j → FCs w = FCs w0 → (∀ a, a ≠ 99 → (a < 44 ∨ (96 ≤ a ∧ a < 104) ∨ 111 ≤ a) → w[a]? = w0[a]?) → sx_RP xs (d + 7) 121 68 [(0, .ref 0), (1, .int (nI s)), (2, .ref (103 + 2 * s)), (3, .int (nI n)), (4, .int (nI j))] [] w (fun r w2 => (r = some (.int (nI n)) ∧ NCs w2 = bkN (NCs w0) s (fi w0 (103 + 2 * s) 1) (dpF l) n ∧ FCs w2 = FCs w0) ∧ WI w2 ∧ SK w2 ∧ ∀ a, a ≠ 99 → (a < 44 ∨ (96 ≤ a ∧ a < 104) ∨ 111 ≤ a) → w2[a]? = w0[a]?)
  | 0, j, w, hj, hI, hR, hF, hK, hN, hC, hO => by
    obtain rfl : j = n := by omega
    refine sx_RP.step (pc2 := 70) (ls2 := [(0, .ref 0), (1, .int (nI s)), (2, .ref (103 + 2 * s)), (3, .int (nI j)), (4, .int (nI j))]) (st2 := [.int (nI j)]) (w3 := w) rfl rfl ?_
    refine sx_RP.step (pc2 := 71) (ls2 := [(0, .ref 0), (1, .int (nI s)), (2, .ref (103 + 2 * s)), (3, .int (nI j)), (4, .int (nI j))]) (st2 := [.int (nI j), .int (nI j)]) (w3 := w) rfl rfl ?_
    refine sx_RP.br (p1 := 105) (l1 := [(0, .ref 0), (1, .int (nI s)), (2, .ref (103 + 2 * s)), (3, .int (nI j)), (4, .int (nI j))]) (s1 := []) (v1 := w) rfl rfl (fun _ => ?_) (fun q => absurd (nI_le (a := j) (b := j) (by omega) (by omega)) (of_decide_eq_false q))
    refine sx_RP.step (pc2 := 106) (ls2 := [(0, .ref 0), (1, .int (nI s)), (2, .ref (103 + 2 * s)), (3, .int (nI j)), (4, .int (nI j))]) (st2 := [.int (nI j)]) (w3 := w) rfl rfl ?_
    refine sx_RP.ret (r := (some (.int (nI j)))) rfl rfl ?_
    exact ⟨⟨rfl, hN, hC⟩, hI, hK, hO⟩
  | q + 1, j, w, hj, hI, hR, hF, hK, hN, hC, hO => by
    refine sx_RP.step (pc2 := 70) (ls2 := [(0, .ref 0), (1, .int (nI s)), (2, .ref (103 + 2 * s)), (3, .int (nI n)), (4, .int (nI j))]) (st2 := [.int (nI j)]) (w3 := w) rfl rfl ?_
    refine sx_RP.step (pc2 := 71) (ls2 := [(0, .ref 0), (1, .int (nI s)), (2, .ref (103 + 2 * s)), (3, .int (nI n)), (4, .int (nI j))]) (st2 := [.int (nI n), .int (nI j)]) (w3 := w) rfl rfl ?_
    refine sx_RP.br (p2 := 74) (l2 := [(0, .ref 0), (1, .int (nI s)), (2, .ref (103 + 2 * s)), (3, .int (nI n)), (4, .int (nI j))]) (s2 := []) (v2 := w) rfl rfl (fun q => absurd (of_decide_eq_true q) (fun z => absurd ((nI_leI (a := n) (b := j) (by omega) (by omega)).mp z) (by omega))) (fun _ => ?_)
    refine sx_RP.step (pc2 := 75) (ls2 := [(0, .ref 0), (1, .int (nI s)), (2, .ref (103 + 2 * s)), (3, .int (nI n)), (4, .int (nI j))]) (st2 := [.ref (103 + 2 * s)]) (w3 := w) rfl rfl ?_
    refine sx_RP.step (pc2 := 77) (ls2 := [(0, .ref 0), (1, .int (nI s)), (2, .ref (103 + 2 * s)), (3, .int (nI n)), (4, .int (nI j))]) (st2 := [.int (nI j), .ref (103 + 2 * s)]) (w3 := w) rfl rfl ?_
    refine sx_RP.step (pc2 := 78) (ls2 := [(0, .ref 0), (1, .int (nI s)), (2, .ref (103 + 2 * s)), (3, .int (nI n)), (4, .int (nI j))]) (st2 := [.ref 0, .int (nI j), .ref (103 + 2 * s)]) (w3 := w) rfl rfl ?_
    refine sx_RP.step (pc2 := 79) (ls2 := [(0, .ref 0), (1, .int (nI s)), (2, .ref (103 + 2 * s)), (3, .int (nI n)), (4, .int (nI j))]) (st2 := [.ref 0, .ref 0, .int (nI j), .ref (103 + 2 * s)]) (w3 := w) rfl rfl ?_
    refine sx_RP.gf (v := .ref 1) rfl rfl hI.1.o0 rfl rfl (show _ = 82 from rfl) ?_
    refine sx_RP.step (pc2 := 83) (ls2 := [(0, .ref 0), (1, .int (nI s)), (2, .ref (103 + 2 * s)), (3, .int (nI n)), (4, .int (nI j))]) (st2 := [.ref 0, .ref 1, .ref 0, .int (nI j), .ref (103 + 2 * s)]) (w3 := w) rfl rfl ?_
    refine sx_RP.gf (v := .ref 1) rfl rfl hI.1.o0 rfl rfl (show _ = 86 from rfl) ?_
    refine sx_RP.gref (k := 4) (b := 4) hI (Or.inl rfl) rfl rfl (by omega) (show _ = 89 from rfl) ?_
    refine sx_RP.step (pc2 := 91) (ls2 := [(0, .ref 0), (1, .int (nI s)), (2, .ref (103 + 2 * s)), (3, .int (nI n)), (4, .int (nI j))]) (st2 := [.int (nI j), .ref 4, .ref 1, .ref 0, .int (nI j), .ref (103 + 2 * s)]) (w3 := w) rfl rfl ?_
    refine sx_RP.ild (c := j) rfl (hI.1.aD (Or.inl rfl)).1 (hI.1.aD (Or.inl rfl)).2 (sx_in_nI (show j < 9 by omega) (by decide)) (show (nI j).toNatClampNeg = j from nI_clamp (by omega)) (show _ = 92 from rfl) ?_
    obtain ⟨x1, hx2, ex3⟩ : inR ((ia w 4).getD j 0) 47 := hI.di (Or.inl rfl) (show j < 9 by omega)
    rw [ex3]
    have ed : l.getD (163 + j) 0 = nI x1 := (hR.di (by rw [em, iN_n (by omega)]; omega)).symm.trans ex3
    refine sx_RP.callp (as2 := [.ref 0, .ref 1, .int (nI x1)]) (rest2 := [.int (nI j), .ref (103 + 2 * s)]) rfl rfl (sx_inv_v2 (mi := 121) (k := 231) (st := [.int (nI x1), .ref 1, .ref 0, .int (nI j), .ref (103 + 2 * s)]) (w := w) rfl rfl hI.1.o0 rfl rfl rfl) rfl rfl rfl (X68 hI l hR hF hK (show x1 < 48 by omega)) (show _ = 95 from rfl) ?_
    rintro r4 w6 ⟨rfl, hI7, hS4, hf5⟩
    show sx_RP _ _ _ _ _ [.int (pesF l x1), .int (nI j), .ref (103 + 2 * s)] _ _
    refine sx_RP.step (pc2 := 96) (ls2 := [(0, .ref 0), (1, .int (nI s)), (2, .ref (103 + 2 * s)), (3, .int (nI n)), (4, .int (nI j))]) (st2 := [.long ((pesF l x1).toInt64), .int (nI j), .ref (103 + 2 * s)]) (w3 := w6) rfl rfl ?_
    refine sx_RP.callp (as2 := [.ref (103 + 2 * s), .int (nI j), .long ((pesF l x1).toInt64)]) (rest2 := []) rfl rfl (sx_inv_v2 (mi := 121) (k := 318) (st := [.long ((pesF l x1).toInt64), .int (nI j), .ref (103 + 2 * s)]) (w := w6) rfl rfl (hI7.1.oS (show s < 4 by omega)) rfl rfl rfl) rfl rfl rfl (X117 hI7 hs (show j < 40 by omega) ((pesF l x1).toInt64)) (show _ = 99 from rfl) ?_
    rintro r4 w10 ⟨⟨rfl, hv8⟩, hI11, hs9⟩
    show sx_RP _ _ _ _ _ [] _ _
    refine sx_RP.step (pc2 := 102) (ls2 := [(4, .int ((nI j) + 1)), (0, .ref 0), (1, .int (nI s)), (2, .ref (103 + 2 * s)), (3, .int (nI n))]) (st2 := []) (w3 := w10) rfl rfl ?_
    rw [nI_1 j]
    refine sx_RP.step (pc2 := 68) (ls2 := [(4, .int (nI (j + 1))), (0, .ref 0), (1, .int (nI s)), (2, .ref (103 + 2 * s)), (3, .int (nI n))]) (st2 := []) (w3 := w10) rfl rfl ?_
    have hO2 : ∀ a, (a < 44 ∨ (96 ≤ a ∧ a < 104) ∨ 111 ≤ a) → w10[a]? = w[a]? := fun a h => (hs9 a (by omega)).trans (hf5 a (by omega))
    have eb : fi w6 (103 + 2 * s) 1 = fi w0 (103 + 2 * s) 1 := (fi_same 1 (hf5 _ (by omega))).trans (congrArg Prod.fst (((FCs_at hs).symm.trans (congrFun hC s)).trans (FCs_at hs)))
    have hC1 : FCs w6 = FCs w := FCs_eq (fun q hq => hf5 _ (by omega))
    have hN1 : NCs w6 = NCs w := NCs_eq (fun q hq => hf5 _ (by omega))
    have hN2 := NCs_wr hI7 hs (show j < 40 by omega) hs9 hv8
    have hF2 : FIT w10 1 := fun c hc => by rw [ia_of (hs9 45 (by omega)), ia_of (hs9 (1 + 1) (by omega))]; exact hS4.1 c hc
    refine sx_RP.ls (sx_lr.cons rfl (sx_lr.cons rfl (sx_lr.cons rfl (sx_lr.cons rfl (sx_lr.cons rfl sx_lr.nil))))) (X121L hs hn h40 hm em q (j + 1) w10 (by omega) hI11 (hR.same hI (Or.inl rfl) (fun a h1 h2 => hO2 a (by omega))) hF2 (hS4.2.same (fun a h1 h2 => hs9 a (by omega))) ?_ ?_ (fun a h1 h2 => (hO2 a h2).trans (hO a h1 h2)))
    · rw [hN2, hN1, hN, eb, ← dp_n (by omega) ed, bkN_s]
    · rw [FCs_eq (w := w6) (fun q hq => hs9 _ (by omega)), hC1, hC]
set_option maxRecDepth 20000 in
set_option maxHeartbeats 4000000 in
theorem Z121 {xs : Option (List Int32)} {d : Nat} {w : List sx_C} (hI : WI w) (l : List Int32) (hR : rel w 1 l) (hK : SK w) (a1 : Int32) : sx_RP xs (d + 7) 121 0 (lv_args 0 [.ref 0, .int a1]) [] w (fun r w2 => (r = some (.int (bokA (FCs w) l a1)) ∧ NCs w2 = bokR (FCs w) (NCs w) l a1 ∧ FCs w2 = FCs w) ∧ WI w2 ∧ SK w2 ∧ ∀ a, a ≠ 99 → (a < 44 ∨ (96 ≤ a ∧ a < 104) ∨ 111 ≤ a) → w2[a]? = w[a]?) := by
  obtain ⟨m, hm, em⟩ := hR.m9 hI (Or.inl rfl)
  refine sx_RP.step (pc2 := 1) (ls2 := [(0, .ref 0), (1, .int a1)]) (st2 := [.int a1]) (w3 := w) rfl rfl ?_
  rcases in_cases a1 0 3 (m := 0) (n := 3) rfl rfl (by decide) (by decide) with q1 | ⟨x2, hx3, hx4, rfl⟩
  · refine sx_RP.cu (as := [.int a1]) (rest2 := []) (st3 := [.int 0]) rfl rfl rfl rfl rfl (cx_112n q1) rfl ?_
    refine sx_RP.step (pc2 := 7) (ls2 := [(0, .ref 0), (1, .int a1)]) (st2 := []) (w3 := w) rfl rfl ?_
    refine sx_RP.step (pc2 := 8) (ls2 := [(0, .ref 0), (1, .int a1)]) (st2 := [.ref 0]) (w3 := w) rfl rfl ?_
    refine sx_RP.step (pc2 := 10) (ls2 := [(0, .ref 0), (1, .int a1)]) (st2 := [.int (-1000000001), .ref 0]) (w3 := w) rfl rfl ?_
    refine sx_RP.callp (as2 := [.ref 0, .int (-1000000001)]) (rest2 := []) rfl rfl (sx_inv_v2 (mi := 121) (k := 78) (st := [.int (-1000000001), .ref 0]) (w := w) rfl rfl hI.1.o0 rfl rfl rfl) rfl rfl rfl (S9_0 hI) (show _ = 13 from rfl) ?_
    rintro r4 w7 ⟨rfl, hI8, hs6⟩
    show sx_RP _ _ _ _ _ [.int (-1000000001)] _ _
    refine sx_RP.ret (r := (some (.int (-1000000001)))) rfl rfl ?_
    exact ⟨⟨by rw [(bok_1 (F := FCs w) (N := NCs w) (l := l) q1).1], by rw [(bok_1 (F := FCs w) (N := NCs w) (l := l) q1).2]; exact NCs_eq (fun q hq => hs6 _ (by omega)), FCs_eq (fun q hq => hs6 _ (by omega))⟩, hI8, hK.same (fun a h1 h2 => hs6 a (by omega)), fun a h1 h2 => hs6 a h1⟩
  · refine sx_RP.cu (as := [.int (nI x2)]) (rest2 := []) (st3 := [.int 1]) rfl rfl rfl rfl rfl (cx_112p ⟨nI_le (a := 0) hx3 (by omega), nI_le (b := 3) hx4 (by decide)⟩) rfl ?_
    refine sx_RP.step (pc2 := 14) (ls2 := [(0, .ref 0), (1, .int (nI x2))]) (st2 := []) (w3 := w) rfl rfl ?_
    refine sx_RP.step (pc2 := 15) (ls2 := [(0, .ref 0), (1, .int (nI x2))]) (st2 := [.ref 0]) (w3 := w) rfl rfl ?_
    refine sx_RP.gf (v := .ref 98) rfl rfl hI.1.o0 rfl rfl (show _ = 18 from rfl) ?_
    refine sx_RP.step (pc2 := 19) (ls2 := [(0, .ref 0), (1, .int (nI x2))]) (st2 := [.int (nI x2), .ref 98]) (w3 := w) rfl rfl ?_
    refine sx_RP.ald (v := .ref (103 + 2 * x2)) rfl hI.1.a98 rfl (shA_at (show x2 < 4 by omega)) (show _ = 20 from rfl) ?_
    refine sx_RP.step (pc2 := 21) (ls2 := [(2, .ref (103 + 2 * x2)), (0, .ref 0), (1, .int (nI x2))]) (st2 := []) (w3 := w) rfl rfl ?_
    refine sx_RP.step (pc2 := 22) (ls2 := [(2, .ref (103 + 2 * x2)), (0, .ref 0), (1, .int (nI x2))]) (st2 := [.ref (103 + 2 * x2)]) (w3 := w) rfl rfl ?_
    rcases Decidable.em (fi w (103 + 2 * x2) 1 = 0) with c9 | c9
    · refine sx_RP.cu (as := [.ref (103 + 2 * x2)]) (rest2 := []) (st3 := [.int 1]) rfl rfl (sx_inv_v2 (mi := 121) (k := 310) (st := [.ref (103 + 2 * x2)]) (w := w) rfl rfl (hI.1.oS (show x2 < 4 by omega)) rfl rfl rfl) rfl rfl (p116y hI (show x2 < 4 by omega) c9) rfl ?_
      refine sx_RP.step (pc2 := 28) (ls2 := [(2, .ref (103 + 2 * x2)), (0, .ref 0), (1, .int (nI x2))]) (st2 := []) (w3 := w) rfl rfl ?_
      refine sx_RP.step (pc2 := 29) (ls2 := [(2, .ref (103 + 2 * x2)), (0, .ref 0), (1, .int (nI x2))]) (st2 := [.ref 0]) (w3 := w) rfl rfl ?_
      refine sx_RP.step (pc2 := 32) (ls2 := [(2, .ref (103 + 2 * x2)), (0, .ref 0), (1, .int (nI x2))]) (st2 := [.int (-1000000006), .ref 0]) (w3 := w) rfl rfl ?_
      refine sx_RP.callp (as2 := [.ref 0, .int (-1000000006)]) (rest2 := []) rfl rfl (sx_inv_v2 (mi := 121) (k := 78) (st := [.int (-1000000006), .ref 0]) (w := w) rfl rfl hI.1.o0 rfl rfl rfl) rfl rfl rfl (S9_5 hI) (show _ = 35 from rfl) ?_
      rintro r4 w11 ⟨rfl, hI12, hs10⟩
      show sx_RP _ _ _ _ _ [.int (-1000000006)] _ _
      refine sx_RP.ret (r := (some (.int (-1000000006)))) rfl rfl ?_
      exact ⟨⟨by rw [(bok_2 (F := FCs w) (N := NCs w) (l := l) (show x2 < 4 by omega) (FCs_at (by omega)) c9).1], by rw [(bok_2 (F := FCs w) (N := NCs w) (l := l) (show x2 < 4 by omega) (FCs_at (by omega)) c9).2]; exact NCs_eq (fun q hq => hs10 _ (by omega)), FCs_eq (fun q hq => hs10 _ (by omega))⟩, hI12, hK.same (fun a h1 h2 => hs10 a (by omega)), fun a h1 h2 => hs10 a h1⟩
    · refine sx_RP.cu (as := [.ref (103 + 2 * x2)]) (rest2 := []) (st3 := [.int 0]) rfl rfl (sx_inv_v2 (mi := 121) (k := 310) (st := [.ref (103 + 2 * x2)]) (w := w) rfl rfl (hI.1.oS (show x2 < 4 by omega)) rfl rfl rfl) rfl rfl (p116n hI (show x2 < 4 by omega) c9) rfl ?_
      refine sx_RP.step (pc2 := 36) (ls2 := [(2, .ref (103 + 2 * x2)), (0, .ref 0), (1, .int (nI x2))]) (st2 := []) (w3 := w) rfl rfl ?_
      refine sx_RP.step (pc2 := 37) (ls2 := [(2, .ref (103 + 2 * x2)), (0, .ref 0), (1, .int (nI x2))]) (st2 := [.ref 0]) (w3 := w) rfl rfl ?_
      refine sx_RP.gf (v := .ref 44) rfl rfl hI.1.o0 rfl rfl (show _ = 40 from rfl) ?_
      refine sx_RP.step (pc2 := 41) (ls2 := [(2, .ref (103 + 2 * x2)), (0, .ref 0), (1, .int (nI x2))]) (st2 := [.ref 0, .ref 44]) (w3 := w) rfl rfl ?_
      refine sx_RP.gf (v := .ref 1) rfl rfl hI.1.o0 rfl rfl (show _ = 44 from rfl) ?_
      refine sx_RP.gref (k := 0) (b := 2) hI (Or.inl rfl) rfl rfl (by omega) (show _ = 47 from rfl) ?_
      refine sx_RP.callp (as2 := [.ref 44, .ref 2]) (rest2 := []) rfl rfl (sx_inv_v2 (mi := 121) (k := 95) (st := [.ref 2, .ref 44]) (w := w) rfl rfl hI.1.o44 rfl rfl rfl) rfl rfl rfl (G16 (A := 1) hI (Or.inl rfl)) (show _ = 50 from rfl) ?_
      rintro r4 w16 ⟨rfl, hI17, hS13, hF14, hf15⟩
      show sx_RP _ _ _ _ _ [] _ _
      have hR1 : rel w16 1 l := hR.same hI (Or.inl rfl) (fun a h1 h2 => hf15 a (by omega))
      obtain ⟨z, hz, ez⟩ := hI.sh (show x2 < 4 by omega)
      have ez1 : fi w16 (103 + 2 * x2) 2 = nI z := (fi_same 2 (hf15 _ (by omega))).trans ez
      refine sx_RP.step (pc2 := 51) (ls2 := [(2, .ref (103 + 2 * x2)), (0, .ref 0), (1, .int (nI x2))]) (st2 := [.ref (103 + 2 * x2)]) (w3 := w16) rfl rfl ?_
      refine sx_RP.gf (v := .int (fi w16 (103 + 2 * x2) 2)) rfl rfl (hI17.1.oS (show x2 < 4 by omega)) rfl rfl (show _ = 54 from rfl) ?_
      rw [ez1]
      refine sx_RP.step (pc2 := 55) (ls2 := [(2, .ref (103 + 2 * x2)), (0, .ref 0), (1, .int (nI x2))]) (st2 := [.ref 0, .int (nI z)]) (w3 := w16) rfl rfl ?_
      refine sx_RP.gf (v := .ref 1) rfl rfl hI17.1.o0 rfl rfl (show _ = 58 from rfl) ?_
      refine sx_RP.gc (k := 5) hI17 (Or.inl rfl) rfl rfl (by omega) (show _ = 61 from rfl) ?_
      rw [(hR1.dished.trans em)]
      refine sx_RP.cu (as := [.int (nI z), .int (nI m)]) (rest2 := []) (st3 := [.int (nI (min z m))]) rfl rfl rfl rfl rfl (x97m hI17 (by omega) (by omega)) rfl ?_
      refine sx_RP.step (pc2 := 65) (ls2 := [(3, .int (nI (min z m))), (2, .ref (103 + 2 * x2)), (0, .ref 0), (1, .int (nI x2))]) (st2 := []) (w3 := w16) rfl rfl ?_
      refine sx_RP.step (pc2 := 66) (ls2 := [(3, .int (nI (min z m))), (2, .ref (103 + 2 * x2)), (0, .ref 0), (1, .int (nI x2))]) (st2 := [.int 0]) (w3 := w16) rfl rfl ?_
      refine sx_RP.step (pc2 := 68) (ls2 := [(4, .int 0), (3, .int (nI (min z m))), (2, .ref (103 + 2 * x2)), (0, .ref 0), (1, .int (nI x2))]) (st2 := []) (w3 := w16) rfl rfl ?_
      have hC1 : FCs w16 = FCs w := FCs_eq (fun q hq => hf15 _ (by omega))
      have hN1 : NCs w16 = NCs w := NCs_eq (fun q hq => hf15 _ (by omega))
      rw [(bok_3 (F := FCs w) (N := NCs w) (l := l) (show x2 < 4 by omega) hz hm ((FCs_at (by omega)).trans (by rw [ez])) c9 em).1, (bok_3 (F := FCs w) (N := NCs w) (l := l) (show x2 < 4 by omega) hz hm ((FCs_at (by omega)).trans (by rw [ez])) c9 em).2]
      refine sx_RP.ls (sx_lr.cons rfl (sx_lr.cons rfl (sx_lr.cons rfl (sx_lr.cons rfl (sx_lr.cons rfl sx_lr.nil))))) ((X121L (w0 := w) (l := l) (s := x2) (n := min z m) (show x2 < 4 by omega) (by omega) (by omega) hm em (min z m) 0 w16 (by omega) hI17 hR1 hF14 (hS13.2 hK) (by rw [hN1, bkN_0]) hC1 (fun a h1 h2 => hf15 a (by omega))).mono9 (fun r w2 q => q))
set_option maxRecDepth 20000 in
set_option maxHeartbeats 4000000 in
theorem x181y {xs : Option (List Int32)} {d : Nat} {w : List sx_C} (hI : WI w) {g : Nat} (hg : g < 10) (hh : gF (ia w 112) g 1 = 0 ∧ gF (ia w 112) g 5 = 0) : sx_RU xs (d + 2) 181 0 (lv_args 0 [.ref 111, .int (nI g), .int 0]) [] w (some (.int (1))) w := by
  have h : sx_RP xs (d + 2) 181 0 (lv_args 0 [.ref 111, .int (nI g), .int 0]) [] w (fun r9 w2 => r9 = some (.int (1)) ∧ w2 = w) := by
    refine sx_RP.step (pc2 := 1) (ls2 := [(0, .ref 111), (1, .int (nI g)), (2, .int 0)]) (st2 := [.ref 111]) (w3 := w) rfl rfl ?_
    refine sx_RP.step (pc2 := 2) (ls2 := [(0, .ref 111), (1, .int (nI g)), (2, .int 0)]) (st2 := [.int (nI g), .ref 111]) (w3 := w) rfl rfl ?_
    rcases Decidable.em ((ia w 112).getD (103 + 6 * g + 5) 0 = 0) with ci | ci
    · refine sx_RP.cu (as := [.ref 111, .int (nI g)]) (rest2 := []) (st3 := [.int 1]) rfl rfl (sx_inv_v2 (mi := 181) (k := 74) (st := [.int (nI g), .ref 111]) (w := w) rfl rfl hI.1.o111 rfl rfl rfl) rfl rfl (x137y hI (by omega) ci) rfl ?_
      refine sx_RP.step (pc2 := 8) (ls2 := [(0, .ref 111), (1, .int (nI g)), (2, .int 0)]) (st2 := []) (w3 := w) rfl rfl ?_
      refine sx_RP.step (pc2 := 9) (ls2 := [(0, .ref 111), (1, .int (nI g)), (2, .int 0)]) (st2 := [.ref 111]) (w3 := w) rfl rfl ?_
      refine sx_RP.step (pc2 := 10) (ls2 := [(0, .ref 111), (1, .int (nI g)), (2, .int 0)]) (st2 := [.int (nI g), .ref 111]) (w3 := w) rfl rfl ?_
      refine sx_RP.step (pc2 := 11) (ls2 := [(0, .ref 111), (1, .int (nI g)), (2, .int 0)]) (st2 := [.int 1, .int (nI g), .ref 111]) (w3 := w) rfl rfl ?_
      refine sx_RP.cu (as := [.ref 111, .int (nI g), .int 1]) (rest2 := []) (st3 := [.int ((ia w 112).getD (103 + 6 * g + 1) 0)]) rfl rfl (sx_inv_v2 (mi := 181) (k := 59) (st := [.int 1, .int (nI g), .ref 111]) (w := w) rfl rfl hI.1.o111 rfl rfl rfl) rfl rfl (x138 hI hg (show 1 < 6 by decide)) rfl ?_
      refine sx_RP.step (pc2 := 15) (ls2 := [(0, .ref 111), (1, .int (nI g)), (2, .int 0)]) (st2 := [.int 0, .int ((ia w 112).getD (103 + 6 * g + 1) 0)]) (w3 := w) rfl rfl ?_
      refine sx_RP.br (p1 := 22) (l1 := [(0, .ref 111), (1, .int (nI g)), (2, .int 0)]) (s1 := []) (v1 := w) (p2 := 18) (l2 := [(0, .ref 111), (1, .int (nI g)), (2, .int 0)]) (s2 := []) (v2 := w) rfl rfl (fun q1 => ?_) (fun q1 => ?_)
      · replace q1 := of_decide_eq_true q1
        refine sx_RP.step (pc2 := 23) (ls2 := [(0, .ref 111), (1, .int (nI g)), (2, .int 0)]) (st2 := [.int 0]) (w3 := w) rfl rfl ?_
        refine sx_RP.ret (r := (some (.int 0))) rfl rfl ?_
        first | exact ⟨rfl, rfl⟩ | exact absurd hh.2 (by assumption) | exact absurd hh.1 (by assumption) | exact absurd ⟨by assumption, by assumption⟩ hh
      · replace q1 := Decidable.not_not.mp (of_decide_eq_false q1)
        refine sx_RP.step (pc2 := 19) (ls2 := [(0, .ref 111), (1, .int (nI g)), (2, .int 0)]) (st2 := [.int 1]) (w3 := w) rfl rfl ?_
        refine sx_RP.step (pc2 := 23) (ls2 := [(0, .ref 111), (1, .int (nI g)), (2, .int 0)]) (st2 := [.int 1]) (w3 := w) rfl rfl ?_
        refine sx_RP.ret (r := (some (.int 1))) rfl rfl ?_
        first | exact ⟨rfl, rfl⟩ | exact absurd hh.2 (by assumption) | exact absurd hh.1 (by assumption) | exact absurd ⟨by assumption, by assumption⟩ hh
    · refine sx_RP.cu (as := [.ref 111, .int (nI g)]) (rest2 := []) (st3 := [.int 0]) rfl rfl (sx_inv_v2 (mi := 181) (k := 74) (st := [.int (nI g), .ref 111]) (w := w) rfl rfl hI.1.o111 rfl rfl rfl) rfl rfl (x137n hI (by omega) ci) rfl ?_
      refine sx_RP.step (pc2 := 22) (ls2 := [(0, .ref 111), (1, .int (nI g)), (2, .int 0)]) (st2 := []) (w3 := w) rfl rfl ?_
      refine sx_RP.step (pc2 := 23) (ls2 := [(0, .ref 111), (1, .int (nI g)), (2, .int 0)]) (st2 := [.int 0]) (w3 := w) rfl rfl ?_
      refine sx_RP.ret (r := (some (.int 0))) rfl rfl ?_
      first | exact ⟨rfl, rfl⟩ | exact absurd hh.2 (by assumption) | exact absurd hh.1 (by assumption) | exact absurd ⟨by assumption, by assumption⟩ hh
  obtain ⟨r9, w2, h1, rfl, rfl⟩ := h
  exact h1
set_option maxRecDepth 20000 in
set_option maxHeartbeats 4000000 in
theorem x181n {xs : Option (List Int32)} {d : Nat} {w : List sx_C} (hI : WI w) {g : Nat} (hg : g < 10) (hh : ¬ (gF (ia w 112) g 1 = 0 ∧ gF (ia w 112) g 5 = 0)) : sx_RU xs (d + 2) 181 0 (lv_args 0 [.ref 111, .int (nI g), .int 0]) [] w (some (.int (0))) w := by
  have h : sx_RP xs (d + 2) 181 0 (lv_args 0 [.ref 111, .int (nI g), .int 0]) [] w (fun r9 w2 => r9 = some (.int (0)) ∧ w2 = w) := by
    refine sx_RP.step (pc2 := 1) (ls2 := [(0, .ref 111), (1, .int (nI g)), (2, .int 0)]) (st2 := [.ref 111]) (w3 := w) rfl rfl ?_
    refine sx_RP.step (pc2 := 2) (ls2 := [(0, .ref 111), (1, .int (nI g)), (2, .int 0)]) (st2 := [.int (nI g), .ref 111]) (w3 := w) rfl rfl ?_
    rcases Decidable.em ((ia w 112).getD (103 + 6 * g + 5) 0 = 0) with ci | ci
    · refine sx_RP.cu (as := [.ref 111, .int (nI g)]) (rest2 := []) (st3 := [.int 1]) rfl rfl (sx_inv_v2 (mi := 181) (k := 74) (st := [.int (nI g), .ref 111]) (w := w) rfl rfl hI.1.o111 rfl rfl rfl) rfl rfl (x137y hI (by omega) ci) rfl ?_
      refine sx_RP.step (pc2 := 8) (ls2 := [(0, .ref 111), (1, .int (nI g)), (2, .int 0)]) (st2 := []) (w3 := w) rfl rfl ?_
      refine sx_RP.step (pc2 := 9) (ls2 := [(0, .ref 111), (1, .int (nI g)), (2, .int 0)]) (st2 := [.ref 111]) (w3 := w) rfl rfl ?_
      refine sx_RP.step (pc2 := 10) (ls2 := [(0, .ref 111), (1, .int (nI g)), (2, .int 0)]) (st2 := [.int (nI g), .ref 111]) (w3 := w) rfl rfl ?_
      refine sx_RP.step (pc2 := 11) (ls2 := [(0, .ref 111), (1, .int (nI g)), (2, .int 0)]) (st2 := [.int 1, .int (nI g), .ref 111]) (w3 := w) rfl rfl ?_
      refine sx_RP.cu (as := [.ref 111, .int (nI g), .int 1]) (rest2 := []) (st3 := [.int ((ia w 112).getD (103 + 6 * g + 1) 0)]) rfl rfl (sx_inv_v2 (mi := 181) (k := 59) (st := [.int 1, .int (nI g), .ref 111]) (w := w) rfl rfl hI.1.o111 rfl rfl rfl) rfl rfl (x138 hI hg (show 1 < 6 by decide)) rfl ?_
      refine sx_RP.step (pc2 := 15) (ls2 := [(0, .ref 111), (1, .int (nI g)), (2, .int 0)]) (st2 := [.int 0, .int ((ia w 112).getD (103 + 6 * g + 1) 0)]) (w3 := w) rfl rfl ?_
      refine sx_RP.br (p1 := 22) (l1 := [(0, .ref 111), (1, .int (nI g)), (2, .int 0)]) (s1 := []) (v1 := w) (p2 := 18) (l2 := [(0, .ref 111), (1, .int (nI g)), (2, .int 0)]) (s2 := []) (v2 := w) rfl rfl (fun q1 => ?_) (fun q1 => ?_)
      · replace q1 := of_decide_eq_true q1
        refine sx_RP.step (pc2 := 23) (ls2 := [(0, .ref 111), (1, .int (nI g)), (2, .int 0)]) (st2 := [.int 0]) (w3 := w) rfl rfl ?_
        refine sx_RP.ret (r := (some (.int 0))) rfl rfl ?_
        first | exact ⟨rfl, rfl⟩ | exact absurd hh.2 (by assumption) | exact absurd hh.1 (by assumption) | exact absurd ⟨by assumption, by assumption⟩ hh
      · replace q1 := Decidable.not_not.mp (of_decide_eq_false q1)
        refine sx_RP.step (pc2 := 19) (ls2 := [(0, .ref 111), (1, .int (nI g)), (2, .int 0)]) (st2 := [.int 1]) (w3 := w) rfl rfl ?_
        refine sx_RP.step (pc2 := 23) (ls2 := [(0, .ref 111), (1, .int (nI g)), (2, .int 0)]) (st2 := [.int 1]) (w3 := w) rfl rfl ?_
        refine sx_RP.ret (r := (some (.int 1))) rfl rfl ?_
        first | exact ⟨rfl, rfl⟩ | exact absurd hh.2 (by assumption) | exact absurd hh.1 (by assumption) | exact absurd ⟨by assumption, by assumption⟩ hh
    · refine sx_RP.cu (as := [.ref 111, .int (nI g)]) (rest2 := []) (st3 := [.int 0]) rfl rfl (sx_inv_v2 (mi := 181) (k := 74) (st := [.int (nI g), .ref 111]) (w := w) rfl rfl hI.1.o111 rfl rfl rfl) rfl rfl (x137n hI (by omega) ci) rfl ?_
      refine sx_RP.step (pc2 := 22) (ls2 := [(0, .ref 111), (1, .int (nI g)), (2, .int 0)]) (st2 := []) (w3 := w) rfl rfl ?_
      refine sx_RP.step (pc2 := 23) (ls2 := [(0, .ref 111), (1, .int (nI g)), (2, .int 0)]) (st2 := [.int 0]) (w3 := w) rfl rfl ?_
      refine sx_RP.ret (r := (some (.int 0))) rfl rfl ?_
      first | exact ⟨rfl, rfl⟩ | exact absurd hh.2 (by assumption) | exact absurd hh.1 (by assumption) | exact absurd ⟨by assumption, by assumption⟩ hh
  obtain ⟨r9, w2, h1, rfl, rfl⟩ := h
  exact h1
set_option maxRecDepth 20000 in
set_option maxHeartbeats 4000000 in
theorem X190 {xs : Option (List Int32)} {d : Nat} {w : List sx_C} (hI : WI w) {c g : Nat} (hc : c < 48) (hg : g < 10) : sx_RP xs (d + 3) 190 0 (lv_args 0 [.ref 111, .int (nI c), .int (nI g)]) [] w (fun r w2 => r = some (.int (heF (ia w 112) c g)) ∧ WI w2 ∧ ∀ a, a ≠ 117 → a ≠ 118 → w2[a]? = w[a]?) := by
  obtain ⟨k, hk, ek⟩ : inR ((ia w 112).getD (103 + 6 * g + 0) 0) 5 := (hI.s (103 + 6 * g + 0) (by omega)).2.2.2.1 (by omega)
  obtain ⟨h, hh, eh⟩ : inR ((ia w 112).getD (103 + 6 * g + 2) 0) 47 := (hI.s (103 + 6 * g + 2) (by omega)).2.2.2.2.2.1 (by omega)
  obtain ⟨s, hs, es⟩ : inR ((ia w 112).getD (7 + h) 0) 3 := (hI.s (7 + h) (by omega)).2.2.1 (by omega)
  refine sx_RP.step (pc2 := 1) (ls2 := [(0, .ref 111), (1, .int (nI c)), (2, .int (nI g))]) (st2 := [.ref 111]) (w3 := w) rfl rfl ?_
  refine sx_RP.step (pc2 := 2) (ls2 := [(0, .ref 111), (1, .int (nI c)), (2, .int (nI g))]) (st2 := [.int (nI g), .ref 111]) (w3 := w) rfl rfl ?_
  refine sx_RP.step (pc2 := 3) (ls2 := [(0, .ref 111), (1, .int (nI c)), (2, .int (nI g))]) (st2 := [.int 0, .int (nI g), .ref 111]) (w3 := w) rfl rfl ?_
  rcases Decidable.em (gF (ia w 112) g 1 = 0 ∧ gF (ia w 112) g 5 = 0) with hc2 | hc2
  · refine sx_RP.cu (as := [.ref 111, .int (nI g), .int 0]) (rest2 := []) (st3 := [.int 1]) rfl rfl (sx_inv_v2 (mi := 190) (k := 165) (st := [.int 0, .int (nI g), .ref 111]) (w := w) rfl rfl hI.1.o111 rfl rfl rfl) rfl rfl (x181y hI hg hc2) rfl ?_
    refine sx_RP.step (pc2 := 11) (ls2 := [(0, .ref 111), (1, .int (nI c)), (2, .int (nI g))]) (st2 := []) (w3 := w) rfl rfl ?_
    refine sx_RP.step (pc2 := 12) (ls2 := [(0, .ref 111), (1, .int (nI c)), (2, .int (nI g))]) (st2 := [.ref 111]) (w3 := w) rfl rfl ?_
    refine sx_RP.step (pc2 := 13) (ls2 := [(0, .ref 111), (1, .int (nI c)), (2, .int (nI g))]) (st2 := [.int (nI g), .ref 111]) (w3 := w) rfl rfl ?_
    refine sx_RP.step (pc2 := 14) (ls2 := [(0, .ref 111), (1, .int (nI c)), (2, .int (nI g))]) (st2 := [.int 2, .int (nI g), .ref 111]) (w3 := w) rfl rfl ?_
    refine sx_RP.cu (as := [.ref 111, .int (nI g), .int 2]) (rest2 := []) (st3 := [.int (nI h)]) rfl rfl (sx_inv_v2 (mi := 190) (k := 59) (st := [.int 2, .int (nI g), .ref 111]) (w := w) rfl rfl hI.1.o111 rfl rfl rfl) rfl rfl (x138e hI hg (show 2 < 6 by decide) eh) rfl ?_
    refine sx_RP.step (pc2 := 18) (ls2 := [(3, .int (nI h)), (0, .ref 111), (1, .int (nI c)), (2, .int (nI g))]) (st2 := []) (w3 := w) rfl rfl ?_
    refine sx_RP.step (pc2 := 19) (ls2 := [(3, .int (nI h)), (0, .ref 111), (1, .int (nI c)), (2, .int (nI g))]) (st2 := [.ref 111]) (w3 := w) rfl rfl ?_
    refine sx_RP.step (pc2 := 20) (ls2 := [(3, .int (nI h)), (0, .ref 111), (1, .int (nI c)), (2, .int (nI g))]) (st2 := [.int (nI h), .ref 111]) (w3 := w) rfl rfl ?_
    refine sx_RP.step (pc2 := 21) (ls2 := [(3, .int (nI h)), (0, .ref 111), (1, .int (nI c)), (2, .int (nI g))]) (st2 := [.int (-1), .int (nI h), .ref 111]) (w3 := w) rfl rfl ?_
    refine sx_RP.callp (as2 := [.ref 111, .int (nI h), .int (-1)]) (rest2 := []) rfl rfl (sx_inv_v2 (mi := 190) (k := 94) (st := [.int (-1), .int (nI h), .ref 111]) (w := w) rfl rfl hI.1.o111 rfl rfl rfl) rfl rfl rfl (X141s hI (show h < 48 by omega)) (show _ = 24 from rfl) ?_
    rintro r4 w3 ⟨⟨rfl, hw1⟩, hI4, hf2⟩
    show sx_RP _ _ _ _ _ [] _ _
    have ei : ia w3 112 = ia w 112 := ia_of (hf2 112 (by decide) (by decide))
    have ek1 : (ia w3 112).getD (103 + 6 * g + 0) 0 = nI k := by rw [ei]; exact ek
    have es1 : (ia w3 112).getD (7 + h) 0 = nI s := by rw [ei]; exact es
    have hF9 := far_fin (gdR (ia w 112)) (show h < 48 by omega) hc
    have eF9 := hw1 c hc
    generalize hG9 : farN (gdR (ia w 112)) h c = F9 at hF9 eF9
    refine sx_RP.step (pc2 := 25) (ls2 := [(3, .int (nI h)), (0, .ref 111), (1, .int (nI c)), (2, .int (nI g))]) (st2 := [.ref 111]) (w3 := w3) rfl rfl ?_
    refine sx_RP.step (pc2 := 26) (ls2 := [(3, .int (nI h)), (0, .ref 111), (1, .int (nI c)), (2, .int (nI g))]) (st2 := [.ref 111, .ref 111]) (w3 := w3) rfl rfl ?_
    refine sx_RP.step (pc2 := 27) (ls2 := [(3, .int (nI h)), (0, .ref 111), (1, .int (nI c)), (2, .int (nI g))]) (st2 := [.int (nI g), .ref 111, .ref 111]) (w3 := w3) rfl rfl ?_
    refine sx_RP.step (pc2 := 28) (ls2 := [(3, .int (nI h)), (0, .ref 111), (1, .int (nI c)), (2, .int (nI g))]) (st2 := [.int 0, .int (nI g), .ref 111, .ref 111]) (w3 := w3) rfl rfl ?_
    refine sx_RP.cu (as := [.ref 111, .int (nI g), .int 0]) (rest2 := [.ref 111]) (st3 := [.int (nI k), .ref 111]) rfl rfl (sx_inv_v2 (mi := 190) (k := 59) (st := [.int 0, .int (nI g), .ref 111, .ref 111]) (w := w3) rfl rfl hI4.1.o111 rfl rfl rfl) rfl rfl (x138e hI4 hg (show 0 < 6 by decide) (ek1)) rfl ?_
    refine sx_RP.step (pc2 := 32) (ls2 := [(3, .int (nI h)), (0, .ref 111), (1, .int (nI c)), (2, .int (nI g))]) (st2 := [.int (nI h), .int (nI k), .ref 111]) (w3 := w3) rfl rfl ?_
    refine sx_RP.cu (as := [.ref 111, .int (nI k), .int (nI h)]) (rest2 := []) (st3 := [.int (ldV k s)]) rfl rfl (sx_inv_v2 (mi := 190) (k := 130) (st := [.int (nI h), .int (nI k), .ref 111]) (w := w3) rfl rfl hI4.1.o111 rfl rfl rfl) rfl rfl (x162 hI4 (show h < 48 by omega) (show k < 6 by omega) (show s < 4 by omega) es1) rfl ?_
    refine sx_RP.step (pc2 := 36) (ls2 := [(3, .int (nI h)), (0, .ref 111), (1, .int (nI c)), (2, .int (nI g))]) (st2 := [.int 1, .int (ldV k s)]) (w3 := w3) rfl rfl ?_
    refine sx_RP.step (pc2 := 37) (ls2 := [(3, .int (nI h)), (0, .ref 111), (1, .int (nI c)), (2, .int (nI g))]) (st2 := [.ref 111, .int 1, .int (ldV k s)]) (w3 := w3) rfl rfl ?_
    refine sx_RP.gf (v := .ref 117) rfl rfl hI4.1.o111 rfl rfl (show _ = 40 from rfl) ?_
    refine sx_RP.step (pc2 := 41) (ls2 := [(3, .int (nI h)), (0, .ref 111), (1, .int (nI c)), (2, .int (nI g))]) (st2 := [.int (nI c), .ref 117, .int 1, .int (ldV k s)]) (w3 := w3) rfl rfl ?_
    refine sx_RP.ild (c := c) rfl hI4.1.a117.1 hI4.1.a117.2 (sx_in_nI (show c < 48 by omega) (by decide)) (show (nI c).toNatClampNeg = c from nI_clamp (by omega)) (show _ = 42 from rfl) ?_
    rw [eF9]
    refine sx_RP.step (pc2 := 43) (ls2 := [(3, .int (nI h)), (0, .ref 111), (1, .int (nI c)), (2, .int (nI g))]) (st2 := [.int (1 + (nI F9)), .int (ldV k s)]) (w3 := w3) rfl rfl ?_
    rw [show (1 + (nI F9) : Int32) = nI (1 + F9) from nI_add 1 F9]
    refine sx_RP.idiv (pc2 := 44) rfl (fun z => absurd ((nI_eq (a := 1 + F9) (b := 0) (by omega) (by decide)).mp z) (by omega)) rfl ?_
    refine sx_RP.ret (r := (some (.int ((ldV k s) / (nI (1 + F9)))))) rfl rfl ?_
    exact ⟨by rw [he_y (k := k) (h := h) (s := s) hc2 (by omega) (by omega) (by omega) ek eh es, hG9], hI4, hf2⟩
  · refine sx_RP.cu (as := [.ref 111, .int (nI g), .int 0]) (rest2 := []) (st3 := [.int 0]) rfl rfl (sx_inv_v2 (mi := 190) (k := 165) (st := [.int 0, .int (nI g), .ref 111]) (w := w) rfl rfl hI.1.o111 rfl rfl rfl) rfl rfl (x181n hI hg hc2) rfl ?_
    refine sx_RP.step (pc2 := 9) (ls2 := [(0, .ref 111), (1, .int (nI c)), (2, .int (nI g))]) (st2 := []) (w3 := w) rfl rfl ?_
    refine sx_RP.step (pc2 := 10) (ls2 := [(0, .ref 111), (1, .int (nI c)), (2, .int (nI g))]) (st2 := [.int 0]) (w3 := w) rfl rfl ?_
    refine sx_RP.ret (r := (some (.int 0))) rfl rfl ?_
    exact ⟨by rw [he_n hc2], hI, fun _ _ _ => rfl⟩
set_option maxRecDepth 20000 in
set_option maxHeartbeats 4000000 in
theorem X189L {xs : Option (List Int32)} {d c n : Nat} {w0 : List sx_C} (hc : c < 48) (hn : n ≤ 10) (en : (ia w0 112).getD 1 0 = nI n) : ∀ (q j : Nat) (w : List sx_C), j + q = n → WI w → (∀ a, a ≠ 117 → a ≠ 118 → w[a]? = w0[a]?) → sx_RP xs (d + 4) 189 4 [(0, .ref 111), (1, .int (nI c)), (2, .int (peF (ia w0 112) c j)), (3, .int (nI j))] [] w (fun r w2 => r = some (.int (peF (ia w0 112) c n)) ∧ WI w2 ∧ ∀ a, a ≠ 117 → a ≠ 118 → w2[a]? = w0[a]?)
  | 0, j, w, hj, hI, hO => by
    obtain rfl : j = n := by omega
    have ei : ia w 112 = ia w0 112 := ia_of (hO 112 (by decide) (by decide))
    have en1 : (ia w 112).getD 1 0 = nI j := by rw [ei]; exact en
    refine sx_RP.step (pc2 := 5) (ls2 := [(0, .ref 111), (1, .int (nI c)), (2, .int (peF (ia w0 112) c j)), (3, .int (nI j))]) (st2 := [.int (nI j)]) (w3 := w) rfl rfl ?_
    refine sx_RP.step (pc2 := 6) (ls2 := [(0, .ref 111), (1, .int (nI c)), (2, .int (peF (ia w0 112) c j)), (3, .int (nI j))]) (st2 := [.ref 111, .int (nI j)]) (w3 := w) rfl rfl ?_
    refine sx_RP.gf (v := .ref 112) rfl rfl hI.1.o111 rfl rfl (show _ = 9 from rfl) ?_
    refine sx_RP.step (pc2 := 10) (ls2 := [(0, .ref 111), (1, .int (nI c)), (2, .int (peF (ia w0 112) c j)), (3, .int (nI j))]) (st2 := [.int 1, .ref 112, .int (nI j)]) (w3 := w) rfl rfl ?_
    refine sx_RP.ild (c := 1) rfl hI.1.a112.1 hI.1.a112.2 (sx_in_nI (show 1 < 172 by omega) (by decide)) (show (nI 1).toNatClampNeg = 1 from nI_clamp (by omega)) (show _ = 11 from rfl) ?_
    rw [en1]
    refine sx_RP.br (p1 := 29) (l1 := [(0, .ref 111), (1, .int (nI c)), (2, .int (peF (ia w0 112) c j)), (3, .int (nI j))]) (s1 := []) (v1 := w) rfl rfl (fun _ => ?_) (fun q => absurd (nI_le (a := j) (b := j) (by omega) (by omega)) (of_decide_eq_false q))
    refine sx_RP.step (pc2 := 30) (ls2 := [(0, .ref 111), (1, .int (nI c)), (2, .int (peF (ia w0 112) c j)), (3, .int (nI j))]) (st2 := [.int (peF (ia w0 112) c j)]) (w3 := w) rfl rfl ?_
    refine sx_RP.ret (r := (some (.int (peF (ia w0 112) c j)))) rfl rfl ?_
    exact ⟨rfl, hI, hO⟩
  | q + 1, j, w, hj, hI, hO => by
    have ei : ia w 112 = ia w0 112 := ia_of (hO 112 (by decide) (by decide))
    have en1 : (ia w 112).getD 1 0 = nI n := by rw [ei]; exact en
    refine sx_RP.step (pc2 := 5) (ls2 := [(0, .ref 111), (1, .int (nI c)), (2, .int (peF (ia w0 112) c j)), (3, .int (nI j))]) (st2 := [.int (nI j)]) (w3 := w) rfl rfl ?_
    refine sx_RP.step (pc2 := 6) (ls2 := [(0, .ref 111), (1, .int (nI c)), (2, .int (peF (ia w0 112) c j)), (3, .int (nI j))]) (st2 := [.ref 111, .int (nI j)]) (w3 := w) rfl rfl ?_
    refine sx_RP.gf (v := .ref 112) rfl rfl hI.1.o111 rfl rfl (show _ = 9 from rfl) ?_
    refine sx_RP.step (pc2 := 10) (ls2 := [(0, .ref 111), (1, .int (nI c)), (2, .int (peF (ia w0 112) c j)), (3, .int (nI j))]) (st2 := [.int 1, .ref 112, .int (nI j)]) (w3 := w) rfl rfl ?_
    refine sx_RP.ild (c := 1) rfl hI.1.a112.1 hI.1.a112.2 (sx_in_nI (show 1 < 172 by omega) (by decide)) (show (nI 1).toNatClampNeg = 1 from nI_clamp (by omega)) (show _ = 11 from rfl) ?_
    rw [en1]
    refine sx_RP.br (p2 := 14) (l2 := [(0, .ref 111), (1, .int (nI c)), (2, .int (peF (ia w0 112) c j)), (3, .int (nI j))]) (s2 := []) (v2 := w) rfl rfl (fun q => absurd (of_decide_eq_true q) (fun z => absurd ((nI_leI (a := n) (b := j) (by omega) (by omega)).mp z) (by omega))) (fun _ => ?_)
    refine sx_RP.step (pc2 := 15) (ls2 := [(0, .ref 111), (1, .int (nI c)), (2, .int (peF (ia w0 112) c j)), (3, .int (nI j))]) (st2 := [.int (peF (ia w0 112) c j)]) (w3 := w) rfl rfl ?_
    refine sx_RP.step (pc2 := 16) (ls2 := [(0, .ref 111), (1, .int (nI c)), (2, .int (peF (ia w0 112) c j)), (3, .int (nI j))]) (st2 := [.ref 111, .int (peF (ia w0 112) c j)]) (w3 := w) rfl rfl ?_
    refine sx_RP.step (pc2 := 17) (ls2 := [(0, .ref 111), (1, .int (nI c)), (2, .int (peF (ia w0 112) c j)), (3, .int (nI j))]) (st2 := [.int (nI c), .ref 111, .int (peF (ia w0 112) c j)]) (w3 := w) rfl rfl ?_
    refine sx_RP.step (pc2 := 18) (ls2 := [(0, .ref 111), (1, .int (nI c)), (2, .int (peF (ia w0 112) c j)), (3, .int (nI j))]) (st2 := [.int (nI j), .int (nI c), .ref 111, .int (peF (ia w0 112) c j)]) (w3 := w) rfl rfl ?_
    refine sx_RP.callp (as2 := [.ref 111, .int (nI c), .int (nI j)]) (rest2 := [.int (peF (ia w0 112) c j)]) rfl rfl (sx_inv_v2 (mi := 189) (k := 174) (st := [.int (nI j), .int (nI c), .ref 111, .int (peF (ia w0 112) c j)]) (w := w) rfl rfl hI.1.o111 rfl rfl rfl) rfl rfl rfl (X190 hI hc (show j < 10 by omega)) (show _ = 21 from rfl) ?_
    rintro r4 w2 ⟨rfl, hI3, hf1⟩
    show sx_RP _ _ _ _ _ [.int (heF (ia w 112) c j), .int (peF (ia w0 112) c j)] _ _
    refine sx_RP.step (pc2 := 22) (ls2 := [(0, .ref 111), (1, .int (nI c)), (2, .int (peF (ia w0 112) c j)), (3, .int (nI j))]) (st2 := [.int ((peF (ia w0 112) c j) + (heF (ia w 112) c j))]) (w3 := w2) rfl rfl ?_
    refine sx_RP.step (pc2 := 23) (ls2 := [(2, .int ((peF (ia w0 112) c j) + (heF (ia w 112) c j))), (0, .ref 111), (1, .int (nI c)), (3, .int (nI j))]) (st2 := []) (w3 := w2) rfl rfl ?_
    refine sx_RP.step (pc2 := 26) (ls2 := [(3, .int ((nI j) + 1)), (2, .int ((peF (ia w0 112) c j) + (heF (ia w 112) c j))), (0, .ref 111), (1, .int (nI c))]) (st2 := []) (w3 := w2) rfl rfl ?_
    rw [nI_1 j]
    refine sx_RP.step (pc2 := 4) (ls2 := [(3, .int (nI (j + 1))), (2, .int ((peF (ia w0 112) c j) + (heF (ia w 112) c j))), (0, .ref 111), (1, .int (nI c))]) (st2 := []) (w3 := w2) rfl rfl ?_
    have e9 : peF (ia w0 112) c j + heF (ia w 112) c j = peF (ia w0 112) c (j + 1) := by rw [ei]; rfl
    rw [e9]
    exact sx_RP.ls (sx_lr.cons rfl (sx_lr.cons rfl (sx_lr.cons rfl (sx_lr.cons rfl sx_lr.nil)))) (X189L hc hn en q (j + 1) w2 (by omega) hI3 (fun a h1 h2 => (hf1 a h1 h2).trans (hO a h1 h2)))
set_option maxRecDepth 20000 in
set_option maxHeartbeats 4000000 in
theorem X189 {xs : Option (List Int32)} {d : Nat} {w : List sx_C} (hI : WI w) {c : Nat} (hc : c < 48) : sx_RP xs (d + 4) 189 0 (lv_args 0 [.ref 111, .int (nI c)]) [] w (fun r w2 => r = some (.int (pesF (ia w 112) c)) ∧ WI w2 ∧ ∀ a, a ≠ 117 → a ≠ 118 → w2[a]? = w[a]?) := by
  obtain ⟨n, hn, en⟩ := (hI.sA (a := 112) (by decide) 1 (by decide)).1 rfl
  refine sx_RP.step (pc2 := 1) (ls2 := [(0, .ref 111), (1, .int (nI c))]) (st2 := [.int 0]) (w3 := w) rfl rfl ?_
  refine sx_RP.step (pc2 := 2) (ls2 := [(2, .int 0), (0, .ref 111), (1, .int (nI c))]) (st2 := []) (w3 := w) rfl rfl ?_
  refine sx_RP.step (pc2 := 3) (ls2 := [(2, .int 0), (0, .ref 111), (1, .int (nI c))]) (st2 := [.int 0]) (w3 := w) rfl rfl ?_
  refine sx_RP.step (pc2 := 4) (ls2 := [(3, .int 0), (2, .int 0), (0, .ref 111), (1, .int (nI c))]) (st2 := []) (w3 := w) rfl rfl ?_
  refine (sx_RP.ls (sx_lr.cons rfl (sx_lr.cons rfl (sx_lr.cons rfl (sx_lr.cons rfl sx_lr.nil)))) (X189L (w0 := w) hc hn en n 0 w (by omega) hI (fun _ _ _ => rfl))).mono9 (fun r w2 z => ⟨?_, z.2.1, z.2.2⟩)
  rw [z.1]
  unfold pesF
  rw [en, iN_n (by omega)]
set_option maxRecDepth 20000 in
set_option maxHeartbeats 4000000 in
theorem X188 {xs : Option (List Int32)} {d : Nat} {w : List sx_C} (hI : WI w) {j : Nat} (hj : j < 9) : sx_RP xs (d + 5) 188 0 (lv_args 0 [.ref 111, .int (nI j)]) [] w (fun r w2 => r = some (.int (dpF (ia w 112) j)) ∧ WI w2 ∧ ∀ a, a ≠ 117 → a ≠ 118 → w2[a]? = w[a]?) := by
  obtain ⟨x, hx, ex⟩ : inR ((ia w 112).getD (163 + j) 0) 47 := (hI.s (163 + j) (by omega)).2.2.2.2.2.2.2.2 (by omega)
  refine sx_RP.step (pc2 := 1) (ls2 := [(0, .ref 111), (1, .int (nI j))]) (st2 := [.ref 111]) (w3 := w) rfl rfl ?_
  refine sx_RP.step (pc2 := 2) (ls2 := [(0, .ref 111), (1, .int (nI j))]) (st2 := [.ref 111, .ref 111]) (w3 := w) rfl rfl ?_
  refine sx_RP.gf (v := .ref 112) rfl rfl hI.1.o111 rfl rfl (show _ = 5 from rfl) ?_
  refine sx_RP.step (pc2 := 8) (ls2 := [(0, .ref 111), (1, .int (nI j))]) (st2 := [.int 163, .ref 112, .ref 111]) (w3 := w) rfl rfl ?_
  refine sx_RP.step (pc2 := 9) (ls2 := [(0, .ref 111), (1, .int (nI j))]) (st2 := [.int (nI j), .int 163, .ref 112, .ref 111]) (w3 := w) rfl rfl ?_
  refine sx_RP.step (pc2 := 10) (ls2 := [(0, .ref 111), (1, .int (nI j))]) (st2 := [.int (163 + (nI j)), .ref 112, .ref 111]) (w3 := w) rfl rfl ?_
  rw [show (163 + (nI j) : Int32) = nI (163 + j) from nI_add 163 j]
  refine sx_RP.ild (c := (163 + j)) rfl hI.1.a112.1 hI.1.a112.2 (sx_in_nI (show (163 + j) < 172 by omega) (by decide)) (show (nI (163 + j)).toNatClampNeg = (163 + j) from nI_clamp (by omega)) (show _ = 11 from rfl) ?_
  obtain ⟨x1, hx2, ex3⟩ : inR ((ia w 112).getD (163 + j) 0) 47 := (hI.s ((163 + j)) (by omega)).2.2.2.2.2.2.2.2 (by omega)
  rw [ex3]
  refine sx_RP.callp (as2 := [.ref 111, .int (nI x1)]) (rest2 := []) rfl rfl (sx_inv_v2 (mi := 188) (k := 177) (st := [.int (nI x1), .ref 111]) (w := w) rfl rfl hI.1.o111 rfl rfl rfl) rfl rfl rfl (X189 hI (show x1 < 48 by omega)) (show _ = 14 from rfl) ?_
  rintro r4 w5 ⟨rfl, hI6, hf4⟩
  show sx_RP _ _ _ _ _ [.int (pesF (ia w 112) x1)] _ _
  refine sx_RP.ret (r := (some (.int (pesF (ia w 112) x1)))) rfl rfl ?_
  exact ⟨by rw [dp_n (show x1 < 48 by omega) ex3], hI6, hf4⟩
set_option maxRecDepth 20000 in
set_option maxHeartbeats 4000000 in
theorem x237 {xs : Option (List Int32)} {d : Nat} {w : List sx_C} (hI : WI w) {s z m : Nat} (hs : s < 4) (hz : z ≤ 40) (hm : m ≤ 9) (ez : (ia w 123).getD s 0 = nI z) (em : (ia w 112).getD 2 0 = nI m) : sx_RU xs d 237 0 (lv_args 0 [.ref 111, .int (nI s)]) [] w (some (.int (nI (min z m)))) w := by
  have h : sx_RP xs d 237 0 (lv_args 0 [.ref 111, .int (nI s)]) [] w (fun r9 w2 => r9 = some (.int (nI (min z m))) ∧ w2 = w) := by
    refine sx_RP.step (pc2 := 1) (ls2 := [(0, .ref 111), (1, .int (nI s))]) (st2 := [.ref 111]) (w3 := w) rfl rfl ?_
    refine sx_RP.gf (v := .ref 123) rfl rfl hI.1.o111 rfl rfl (show _ = 4 from rfl) ?_
    refine sx_RP.step (pc2 := 5) (ls2 := [(0, .ref 111), (1, .int (nI s))]) (st2 := [.int (nI s), .ref 123]) (w3 := w) rfl rfl ?_
    refine sx_RP.ild (c := s) rfl hI.1.a123.1 hI.1.a123.2 (sx_in_nI (show s < 4 by omega) (by decide)) (show (nI s).toNatClampNeg = s from nI_clamp (by omega)) (show _ = 6 from rfl) ?_
    rw [ez]
    refine sx_RP.step (pc2 := 7) (ls2 := [(0, .ref 111), (1, .int (nI s))]) (st2 := [.ref 111, .int (nI z)]) (w3 := w) rfl rfl ?_
    refine sx_RP.gf (v := .ref 112) rfl rfl hI.1.o111 rfl rfl (show _ = 10 from rfl) ?_
    refine sx_RP.step (pc2 := 11) (ls2 := [(0, .ref 111), (1, .int (nI s))]) (st2 := [.int 2, .ref 112, .int (nI z)]) (w3 := w) rfl rfl ?_
    refine sx_RP.ild (c := 2) rfl hI.1.a112.1 hI.1.a112.2 (sx_in_nI (show 2 < 172 by omega) (by decide)) (show (nI 2).toNatClampNeg = 2 from nI_clamp (by omega)) (show _ = 12 from rfl) ?_
    rw [em]
    refine sx_RP.br (p1 := 24) (l1 := [(0, .ref 111), (1, .int (nI s))]) (s1 := []) (v1 := w) (p2 := 15) (l2 := [(0, .ref 111), (1, .int (nI s))]) (s2 := []) (v2 := w) rfl rfl (fun q1 => ?_) (fun q1 => ?_)
    · replace q1 := of_decide_eq_true q1
      replace q1 := (nI_leI (a := m) (b := z) (by omega) (by omega)).mp q1
      refine sx_RP.step (pc2 := 25) (ls2 := [(0, .ref 111), (1, .int (nI s))]) (st2 := [.ref 111]) (w3 := w) rfl rfl ?_
      refine sx_RP.gf (v := .ref 112) rfl rfl hI.1.o111 rfl rfl (show _ = 28 from rfl) ?_
      refine sx_RP.step (pc2 := 29) (ls2 := [(0, .ref 111), (1, .int (nI s))]) (st2 := [.int 2, .ref 112]) (w3 := w) rfl rfl ?_
      refine sx_RP.ild (c := 2) rfl hI.1.a112.1 hI.1.a112.2 (sx_in_nI (show 2 < 172 by omega) (by decide)) (show (nI 2).toNatClampNeg = 2 from nI_clamp (by omega)) (show _ = 30 from rfl) ?_
      rw [em]
      refine sx_RP.ret (r := (some (.int (nI m)))) rfl rfl ?_
      exact ⟨by rw [show min z m = m by omega], rfl⟩
    · replace q1 := of_decide_eq_false q1
      replace q1 := mt (nI_leI (a := m) (b := z) (by omega) (by omega)).mpr q1
      refine sx_RP.step (pc2 := 16) (ls2 := [(0, .ref 111), (1, .int (nI s))]) (st2 := [.ref 111]) (w3 := w) rfl rfl ?_
      refine sx_RP.gf (v := .ref 123) rfl rfl hI.1.o111 rfl rfl (show _ = 19 from rfl) ?_
      refine sx_RP.step (pc2 := 20) (ls2 := [(0, .ref 111), (1, .int (nI s))]) (st2 := [.int (nI s), .ref 123]) (w3 := w) rfl rfl ?_
      refine sx_RP.ild (c := s) rfl hI.1.a123.1 hI.1.a123.2 (sx_in_nI (show s < 4 by omega) (by decide)) (show (nI s).toNatClampNeg = s from nI_clamp (by omega)) (show _ = 21 from rfl) ?_
      rw [ez]
      refine sx_RP.step (pc2 := 30) (ls2 := [(0, .ref 111), (1, .int (nI s))]) (st2 := [.int (nI z)]) (w3 := w) rfl rfl ?_
      refine sx_RP.ret (r := (some (.int (nI z)))) rfl rfl ?_
      exact ⟨by rw [show min z m = z by omega], rfl⟩
  obtain ⟨r9, w2, h1, rfl, rfl⟩ := h
  exact h1
set_option maxRecDepth 20000 in
set_option maxHeartbeats 4000000 in
theorem X236L {xs : Option (List Int32)} {d s z m : Nat} {w0 : List sx_C} (hs : s < 4) (hz : z ≤ 40) (hm : m ≤ 9) (ez : (ia w0 123).getD s 0 = nI z) (em : (ia w0 112).getD 2 0 = nI m) : ∀ (q j : Nat) (w : List sx_C), j + q = min z m → WI w → NMs w = bkN (NMs w0) s ((ia w0 122).getD s 0) (dpF (ia w0 112)) j → FMs w = FMs w0 → (∀ a, a ≠ 116 → a ≠ 117 → a ≠ 118 → a ≠ 124 → w[a]? = w0[a]?) → sx_RP xs (d + 7) 236 30 [(0, .ref 111), (1, .int (nI s)), (2, .int (nI j))] [] w (fun r w2 => (r = some (.int (nI (min z m))) ∧ NMs w2 = bkN (NMs w0) s ((ia w0 122).getD s 0) (dpF (ia w0 112)) (min z m) ∧ FMs w2 = FMs w0) ∧ WI w2 ∧ ∀ a, a ≠ 116 → a ≠ 117 → a ≠ 118 → a ≠ 124 → w2[a]? = w0[a]?)
  | 0, j, w, hj, hI, hN, hC, hO => by
    obtain rfl : j = min z m := by omega
    have ez1 : (ia w 123).getD s 0 = nI z := by rw [ia_of (hO 123 (by decide) (by decide) (by decide) (by decide))]; exact ez
    have ei : ia w 112 = ia w0 112 := ia_of (hO 112 (by decide) (by decide) (by decide) (by decide))
    have em1 : (ia w 112).getD 2 0 = nI m := by rw [ei]; exact em
    refine sx_RP.step (pc2 := 31) (ls2 := [(0, .ref 111), (1, .int (nI s)), (2, .int (nI (min z m)))]) (st2 := [.int (nI (min z m))]) (w3 := w) rfl rfl ?_
    refine sx_RP.step (pc2 := 32) (ls2 := [(0, .ref 111), (1, .int (nI s)), (2, .int (nI (min z m)))]) (st2 := [.ref 111, .int (nI (min z m))]) (w3 := w) rfl rfl ?_
    refine sx_RP.step (pc2 := 33) (ls2 := [(0, .ref 111), (1, .int (nI s)), (2, .int (nI (min z m)))]) (st2 := [.int (nI s), .ref 111, .int (nI (min z m))]) (w3 := w) rfl rfl ?_
    refine sx_RP.cu (as := [.ref 111, .int (nI s)]) (rest2 := [.int (nI (min z m))]) (st3 := [.int (nI (min z m)), .int (nI (min z m))]) rfl rfl (sx_inv_v2 (mi := 236) (k := 345) (st := [.int (nI s), .ref 111, .int (nI (min z m))]) (w := w) rfl rfl hI.1.o111 rfl rfl rfl) rfl rfl (x237 hI hs hz hm ez1 em1) rfl ?_
    refine sx_RP.br (p1 := 57) (l1 := [(0, .ref 111), (1, .int (nI s)), (2, .int (nI (min z m)))]) (s1 := []) (v1 := w) rfl rfl (fun _ => ?_) (fun q => absurd (nI_le (a := min z m) (b := min z m) (by omega) (by omega)) (of_decide_eq_false q))
    refine sx_RP.step (pc2 := 58) (ls2 := [(0, .ref 111), (1, .int (nI s)), (2, .int (nI (min z m)))]) (st2 := [.ref 111]) (w3 := w) rfl rfl ?_
    refine sx_RP.step (pc2 := 59) (ls2 := [(0, .ref 111), (1, .int (nI s)), (2, .int (nI (min z m)))]) (st2 := [.int (nI s), .ref 111]) (w3 := w) rfl rfl ?_
    refine sx_RP.cu (as := [.ref 111, .int (nI s)]) (rest2 := []) (st3 := [.int (nI (min z m))]) rfl rfl (sx_inv_v2 (mi := 236) (k := 345) (st := [.int (nI s), .ref 111]) (w := w) rfl rfl hI.1.o111 rfl rfl rfl) rfl rfl (x237 hI hs hz hm ez1 em1) rfl ?_
    refine sx_RP.ret (r := (some (.int (nI (min z m))))) rfl rfl ?_
    exact ⟨⟨rfl, hN, hC⟩, hI, hO⟩
  | q + 1, j, w, hj, hI, hN, hC, hO => by
    have ez1 : (ia w 123).getD s 0 = nI z := by rw [ia_of (hO 123 (by decide) (by decide) (by decide) (by decide))]; exact ez
    have ei : ia w 112 = ia w0 112 := ia_of (hO 112 (by decide) (by decide) (by decide) (by decide))
    have em1 : (ia w 112).getD 2 0 = nI m := by rw [ei]; exact em
    refine sx_RP.step (pc2 := 31) (ls2 := [(0, .ref 111), (1, .int (nI s)), (2, .int (nI j))]) (st2 := [.int (nI j)]) (w3 := w) rfl rfl ?_
    refine sx_RP.step (pc2 := 32) (ls2 := [(0, .ref 111), (1, .int (nI s)), (2, .int (nI j))]) (st2 := [.ref 111, .int (nI j)]) (w3 := w) rfl rfl ?_
    refine sx_RP.step (pc2 := 33) (ls2 := [(0, .ref 111), (1, .int (nI s)), (2, .int (nI j))]) (st2 := [.int (nI s), .ref 111, .int (nI j)]) (w3 := w) rfl rfl ?_
    refine sx_RP.cu (as := [.ref 111, .int (nI s)]) (rest2 := [.int (nI j)]) (st3 := [.int (nI (min z m)), .int (nI j)]) rfl rfl (sx_inv_v2 (mi := 236) (k := 345) (st := [.int (nI s), .ref 111, .int (nI j)]) (w := w) rfl rfl hI.1.o111 rfl rfl rfl) rfl rfl (x237 hI hs hz hm ez1 em1) rfl ?_
    refine sx_RP.br (p2 := 39) (l2 := [(0, .ref 111), (1, .int (nI s)), (2, .int (nI j))]) (s2 := []) (v2 := w) rfl rfl (fun q => absurd (of_decide_eq_true q) (fun q => absurd ((nI_leI (a := min z m) (b := j) (by omega) (by omega)).mp q) (by omega))) (fun _ => ?_)
    refine sx_RP.step (pc2 := 40) (ls2 := [(0, .ref 111), (1, .int (nI s)), (2, .int (nI j))]) (st2 := [.ref 111]) (w3 := w) rfl rfl ?_
    refine sx_RP.step (pc2 := 41) (ls2 := [(0, .ref 111), (1, .int (nI s)), (2, .int (nI j))]) (st2 := [.int (nI s), .ref 111]) (w3 := w) rfl rfl ?_
    refine sx_RP.step (pc2 := 42) (ls2 := [(0, .ref 111), (1, .int (nI s)), (2, .int (nI j))]) (st2 := [.int (nI j), .int (nI s), .ref 111]) (w3 := w) rfl rfl ?_
    refine sx_RP.step (pc2 := 43) (ls2 := [(0, .ref 111), (1, .int (nI s)), (2, .int (nI j))]) (st2 := [.ref 111, .int (nI j), .int (nI s), .ref 111]) (w3 := w) rfl rfl ?_
    refine sx_RP.step (pc2 := 44) (ls2 := [(0, .ref 111), (1, .int (nI s)), (2, .int (nI j))]) (st2 := [.int (nI j), .ref 111, .int (nI j), .int (nI s), .ref 111]) (w3 := w) rfl rfl ?_
    refine sx_RP.callp (as2 := [.ref 111, .int (nI j)]) (rest2 := [.int (nI j), .int (nI s), .ref 111]) rfl rfl (sx_inv_v2 (mi := 236) (k := 180) (st := [.int (nI j), .ref 111, .int (nI j), .int (nI s), .ref 111]) (w := w) rfl rfl hI.1.o111 rfl rfl rfl) rfl rfl rfl (X188 (d := d + 1) hI (show j < 9 by omega)) (show _ = 47 from rfl) ?_
    rintro r4 w2 ⟨rfl, hI3, hf1⟩
    show sx_RP _ _ _ _ _ [.int (dpF (ia w 112) j), .int (nI j), .int (nI s), .ref 111] _ _
    refine sx_RP.step (pc2 := 48) (ls2 := [(0, .ref 111), (1, .int (nI s)), (2, .int (nI j))]) (st2 := [.long ((dpF (ia w 112) j).toInt64), .int (nI j), .int (nI s), .ref 111]) (w3 := w2) rfl rfl ?_
    refine sx_RP.callp (as2 := [.ref 111, .int (nI s), .int (nI j), .long ((dpF (ia w 112) j).toInt64)]) (rest2 := []) rfl rfl (sx_inv_v2 (mi := 236) (k := 339) (st := [.long ((dpF (ia w 112) j).toInt64), .int (nI j), .int (nI s), .ref 111]) (w := w2) rfl rfl hI3.1.o111 rfl rfl rfl) rfl rfl rfl (X233 hI3 hs (show j < 40 by omega) ((dpF (ia w 112) j).toInt64)) (show _ = 51 from rfl) ?_
    rintro r4 w6 ⟨⟨rfl, hv4⟩, hI7, hs5⟩
    show sx_RP _ _ _ _ _ [] _ _
    refine sx_RP.step (pc2 := 54) (ls2 := [(2, .int ((nI j) + 1)), (0, .ref 111), (1, .int (nI s))]) (st2 := []) (w3 := w6) rfl rfl ?_
    rw [nI_1 j]
    refine sx_RP.step (pc2 := 30) (ls2 := [(2, .int (nI (j + 1))), (0, .ref 111), (1, .int (nI s))]) (st2 := []) (w3 := w6) rfl rfl ?_
    have eb : (ia w2 122).getD s 0 = (ia w0 122).getD s 0 := by rw [ia_of (hf1 122 (by decide) (by decide)), ia_of (hO 122 (by decide) (by decide) (by decide) (by decide))]
    have hN1 : NMs w2 = NMs w := NMs_eq (hf1 124 (by decide) (by decide))
    have hN2 := NMs_wr hI3 hs (show j < 40 by omega) hv4
    refine sx_RP.ls (sx_lr.cons rfl (sx_lr.cons rfl (sx_lr.cons rfl sx_lr.nil))) (X236L hs hz hm ez em q (j + 1) w6 (by omega) hI7 ?_ ?_ (fun a h1 h2 h3 h4 => (hs5 a h4).trans ((hf1 a h2 h3).trans (hO a h1 h2 h3 h4))))
    · rw [hN2, hN1, hN, eb, ei, bkN_s]
    · rw [FMs_eq (w := w2) (hs5 122 (by decide)) (hs5 123 (by decide)), FMs_eq (w := w) (hf1 122 (by decide) (by decide)) (hf1 123 (by decide) (by decide)), hC]
set_option maxRecDepth 20000 in
set_option maxHeartbeats 4000000 in
theorem Y236 {xs : Option (List Int32)} {d : Nat} {w : List sx_C} (hI : WI w) (a1 : Int32) : sx_RP xs (d + 7) 236 0 (lv_args 0 [.ref 111, .int a1]) [] w (fun r w2 => (r = some (.int (bokA (FMs w) (ia w 112) a1)) ∧ NMs w2 = bokR (FMs w) (NMs w) (ia w 112) a1 ∧ FMs w2 = FMs w) ∧ WI w2 ∧ ∀ a, a ≠ 116 → a ≠ 117 → a ≠ 118 → a ≠ 124 → w2[a]? = w[a]?) := by
  obtain ⟨m, hm, em⟩ := (hI.sA (a := 112) (by decide) 2 (by decide)).2.1 rfl
  refine sx_RP.step (pc2 := 1) (ls2 := [(0, .ref 111), (1, .int a1)]) (st2 := [.int a1]) (w3 := w) rfl rfl ?_
  rcases in_cases a1 0 3 (m := 0) (n := 3) rfl rfl (by decide) (by decide) with q1 | ⟨x2, hx3, hx4, rfl⟩
  · refine sx_RP.cu (as := [.int a1]) (rest2 := []) (st3 := [.int 0]) rfl rfl rfl rfl rfl (cx_231n q1) rfl ?_
    refine sx_RP.step (pc2 := 7) (ls2 := [(0, .ref 111), (1, .int a1)]) (st2 := []) (w3 := w) rfl rfl ?_
    refine sx_RP.step (pc2 := 8) (ls2 := [(0, .ref 111), (1, .int a1)]) (st2 := [.ref 111]) (w3 := w) rfl rfl ?_
    refine sx_RP.step (pc2 := 9) (ls2 := [(0, .ref 111), (1, .int a1)]) (st2 := [.int 0, .ref 111]) (w3 := w) rfl rfl ?_
    refine sx_RP.callp (as2 := [.ref 111, .int 0]) (rest2 := []) rfl rfl (sx_inv_v2 (mi := 236) (k := 70) (st := [.int 0, .ref 111]) (w := w) rfl rfl hI.1.o111 rfl rfl rfl) rfl rfl rfl (S133_0 hI) (show _ = 12 from rfl) ?_
    rintro r4 w7 ⟨rfl, hI8, hs6⟩
    show sx_RP _ _ _ _ _ [.int (-1000000001)] _ _
    refine sx_RP.ret (r := (some (.int (-1000000001)))) rfl rfl ?_
    exact ⟨⟨by rw [(bok_1 (F := FMs w) (N := NMs w) (l := ia w 112) q1).1], by rw [(bok_1 (F := FMs w) (N := NMs w) (l := ia w 112) q1).2]; exact NMs_eq (hs6 124 (by decide)), FMs_eq (hs6 122 (by decide)) (hs6 123 (by decide))⟩, hI8, fun a h1 h2 h3 h4 => hs6 a h1⟩
  · refine sx_RP.cu (as := [.int (nI x2)]) (rest2 := []) (st3 := [.int 1]) rfl rfl rfl rfl rfl (cx_231p ⟨nI_le (a := 0) hx3 (by omega), nI_le (b := 3) hx4 (by decide)⟩) rfl ?_
    refine sx_RP.step (pc2 := 13) (ls2 := [(0, .ref 111), (1, .int (nI x2))]) (st2 := []) (w3 := w) rfl rfl ?_
    refine sx_RP.step (pc2 := 14) (ls2 := [(0, .ref 111), (1, .int (nI x2))]) (st2 := [.ref 111]) (w3 := w) rfl rfl ?_
    refine sx_RP.gf (v := .ref 122) rfl rfl hI.1.o111 rfl rfl (show _ = 17 from rfl) ?_
    refine sx_RP.step (pc2 := 18) (ls2 := [(0, .ref 111), (1, .int (nI x2))]) (st2 := [.int (nI x2), .ref 122]) (w3 := w) rfl rfl ?_
    refine sx_RP.ild (c := x2) rfl hI.1.a122.1 hI.1.a122.2 (sx_in_nI (show x2 < 4 by omega) (by decide)) (show (nI x2).toNatClampNeg = x2 from nI_clamp (by omega)) (show _ = 19 from rfl) ?_
    refine sx_RP.br (p1 := 28) (l1 := [(0, .ref 111), (1, .int (nI x2))]) (s1 := []) (v1 := w) (p2 := 22) (l2 := [(0, .ref 111), (1, .int (nI x2))]) (s2 := []) (v2 := w) rfl rfl (fun q9 => ?_) (fun q9 => ?_)
    · replace q9 := of_decide_eq_true q9
      refine sx_RP.step (pc2 := 29) (ls2 := [(0, .ref 111), (1, .int (nI x2))]) (st2 := [.int 0]) (w3 := w) rfl rfl ?_
      refine sx_RP.step (pc2 := 30) (ls2 := [(2, .int 0), (0, .ref 111), (1, .int (nI x2))]) (st2 := []) (w3 := w) rfl rfl ?_
      obtain ⟨z, hz, ez⟩ := hI.l (show x2 < 4 by omega)
      rw [(bok_3 (F := FMs w) (N := NMs w) (l := ia w 112) (show x2 < 4 by omega) hz hm (FMs_at (by omega) ez) q9 em).1, (bok_3 (F := FMs w) (N := NMs w) (l := ia w 112) (show x2 < 4 by omega) hz hm (FMs_at (by omega) ez) q9 em).2]
      exact sx_RP.ls (sx_lr.cons rfl (sx_lr.cons rfl (sx_lr.cons rfl sx_lr.nil))) (X236L (w0 := w) (show x2 < 4 by omega) hz hm ez em (min z m) 0 w (by omega) hI bkN_0.symm rfl (fun _ _ _ _ _ => rfl))
    · replace q9 := Decidable.not_not.mp (of_decide_eq_false q9)
      refine sx_RP.step (pc2 := 23) (ls2 := [(0, .ref 111), (1, .int (nI x2))]) (st2 := [.ref 111]) (w3 := w) rfl rfl ?_
      refine sx_RP.step (pc2 := 24) (ls2 := [(0, .ref 111), (1, .int (nI x2))]) (st2 := [.int 5, .ref 111]) (w3 := w) rfl rfl ?_
      refine sx_RP.callp (as2 := [.ref 111, .int 5]) (rest2 := []) rfl rfl (sx_inv_v2 (mi := 236) (k := 70) (st := [.int 5, .ref 111]) (w := w) rfl rfl hI.1.o111 rfl rfl rfl) rfl rfl rfl (S133_5 hI) (show _ = 27 from rfl) ?_
      rintro r4 w11 ⟨rfl, hI12, hs10⟩
      show sx_RP _ _ _ _ _ [.int (-1000000006)] _ _
      refine sx_RP.ret (r := (some (.int (-1000000006)))) rfl rfl ?_
      exact ⟨⟨by rw [(bok_2 (F := FMs w) (N := NMs w) (l := ia w 112) (show x2 < 4 by omega) (FMs_at0 (by omega)) q9).1], by rw [(bok_2 (F := FMs w) (N := NMs w) (l := ia w 112) (show x2 < 4 by omega) (FMs_at0 (by omega)) q9).2]; exact NMs_eq (hs10 124 (by decide)), FMs_eq (hs10 122 (by decide)) (hs10 123 (by decide))⟩, hI12, fun a h1 h2 h3 h4 => hs10 a h1⟩
