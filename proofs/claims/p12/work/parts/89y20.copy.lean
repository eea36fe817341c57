-- copy
def cpR (F : Nat → Int32 × Int32) (N : Nat → Nat → Int64) (a1 a2 a3 a4 a5 : Int32) : Nat → Nat → Int64 := if 0 ≤ cpAns F a1 a2 a3 a4 a5 then cpN N (iN a1) (iN a2) (iN a3) (iN a4) (iN a5) else N
theorem cpR_n {F : Nat → Int32 × Int32} {N : Nat → Nat → Int64} {a1 a2 a3 a4 a5 x : Int32} (h : cpAns F a1 a2 a3 a4 a5 = x) (hx : ¬ 0 ≤ x) : cpR F N a1 a2 a3 a4 a5 = N := by
  unfold cpR
  rw [h, if_neg hx]
theorem cpR_y {F : Nat → Int32 × Int32} {N : Nat → Nat → Int64} {s f t g n : Nat} (h : cpAns F (nI s) (nI f) (nI t) (nI g) (nI n) = nI n) (hs : s < 4) (ht : t < 4) (h1 : f + n ≤ 40) (h2 : g + n ≤ 40) : cpR F N (nI s) (nI f) (nI t) (nI g) (nI n) = cpN N s f t g n := by
  unfold cpR
  rw [h, if_pos (show (0 : Int32) ≤ nI n from nI_le (a := 0) (Nat.zero_le _) (by omega)), iN_n (by omega), iN_n (by omega), iN_n (by omega), iN_n (by omega), iN_n (by omega)]
theorem NMs_cp {w w2 : List sx_C} {s t f g n : Nat} (hs : s < 4) (ht : t < 4) (h1 : f + n ≤ 40) (h2 : g + n ≤ 40) (hv : ∀ k, k < 160 → (ja w2 124).getD k 0 = if 40 * t + g ≤ k ∧ k < 40 * t + g + n then (ja w 124).getD (40 * s + f + (k - (40 * t + g))) 0 else (ja w 124).getD k 0) : NMs w2 = cpN (NMs w) s f t g n := by
  funext s2 i
  unfold cpN NMs
  by_cases h : s2 < 4 ∧ i < 40
  · rw [if_pos h, hv _ (by omega)]
    by_cases e : s2 = t ∧ g ≤ i ∧ i < g + n
    · rw [if_pos (by omega), if_pos e, if_pos (by omega), show 40 * s + f + (40 * s2 + i - (40 * t + g)) = 40 * s + (f + (i - g)) by omega]
    · rw [if_neg (by omega), if_neg e, if_pos h]
  · rw [if_neg h, if_neg (by omega), if_neg h]
set_option maxRecDepth 20000 in
set_option maxHeartbeats 4000000 in
theorem Z118 {xs : Option (List Int32)} {d : Nat} {w : List sx_C} (hI : WI w) (a1 a2 a3 a4 a5 : Int32) : sx_RP xs (d + 7) 118 0 (lv_args 0 [.ref 0, .int a1, .int a2, .int a3, .int a4, .int a5]) [] w (fun r w2 => (r = some (.int (cpAns (FCs w) a1 a2 a3 a4 a5)) ∧ NCs w2 = cpR (FCs w) (NCs w) a1 a2 a3 a4 a5 ∧ FCs w2 = FCs w) ∧ WI w2 ∧ ∀ a, a ≠ 99 → (a < 104 ∨ 111 ≤ a) → w2[a]? = w[a]?) := by
  refine sx_RP.step (pc2 := 1) (ls2 := [(0, .ref 0), (1, .int a1), (2, .int a2), (3, .int a3), (4, .int a4), (5, .int a5)]) (st2 := [.int a1]) (w3 := w) rfl rfl ?_
  rcases in_cases a1 0 3 (m := 0) (n := 3) rfl rfl (by decide) (by decide) with q1 | ⟨x2, hx3, hx4, rfl⟩
  · refine sx_RP.cu (as := [.int a1]) (rest2 := []) (st3 := [.int 0]) rfl rfl rfl rfl rfl (cx_112n q1) rfl ?_
    refine sx_RP.step (pc2 := 14) (ls2 := [(0, .ref 0), (1, .int a1), (2, .int a2), (3, .int a3), (4, .int a4), (5, .int a5)]) (st2 := []) (w3 := w) rfl rfl ?_
    refine sx_RP.step (pc2 := 15) (ls2 := [(0, .ref 0), (1, .int a1), (2, .int a2), (3, .int a3), (4, .int a4), (5, .int a5)]) (st2 := [.ref 0]) (w3 := w) rfl rfl ?_
    refine sx_RP.step (pc2 := 17) (ls2 := [(0, .ref 0), (1, .int a1), (2, .int a2), (3, .int a3), (4, .int a4), (5, .int a5)]) (st2 := [.int (-1000000001), .ref 0]) (w3 := w) rfl rfl ?_
    refine sx_RP.callp (as2 := [.ref 0, .int (-1000000001)]) (rest2 := []) rfl rfl (sx_inv_v2 (mi := 118) (k := 78) (st := [.int (-1000000001), .ref 0]) (w := w) rfl rfl hI.1.o0 rfl rfl rfl) rfl rfl rfl (S9_0 hI) (show _ = 20 from rfl) ?_
    rintro r4 w7 ⟨rfl, hI8, hs6⟩
    show sx_RP _ _ _ _ _ [.int (-1000000001)] _ _
    refine sx_RP.ret (r := (some (.int (-1000000001)))) rfl rfl ?_
    exact ⟨⟨by rw [cp_1 (g := FCs w) (fun z => q1 z.1)], by rw [cpR_n (cp_1 (g := FCs w) (fun z => q1 z.1)) (by decide)]; exact NCs_eq (fun q hq => hs6 _ (by omega)), FCs_eq (fun q hq => hs6 _ (by omega))⟩, hI8, fun a h1 h2 => hs6 a h1⟩
  · refine sx_RP.cu (as := [.int (nI x2)]) (rest2 := []) (st3 := [.int 1]) rfl rfl rfl rfl rfl (cx_112p ⟨nI_le (a := 0) hx3 (by omega), nI_le (b := 3) hx4 (by decide)⟩) rfl ?_
    refine sx_RP.step (pc2 := 7) (ls2 := [(0, .ref 0), (1, .int (nI x2)), (2, .int a2), (3, .int a3), (4, .int a4), (5, .int a5)]) (st2 := []) (w3 := w) rfl rfl ?_
    refine sx_RP.step (pc2 := 8) (ls2 := [(0, .ref 0), (1, .int (nI x2)), (2, .int a2), (3, .int a3), (4, .int a4), (5, .int a5)]) (st2 := [.int a3]) (w3 := w) rfl rfl ?_
    rcases in_cases a3 0 3 (m := 0) (n := 3) rfl rfl (by decide) (by decide) with q10 | ⟨x11, hx12, hx13, rfl⟩
    · refine sx_RP.cu (as := [.int a3]) (rest2 := []) (st3 := [.int 0]) rfl rfl rfl rfl rfl (cx_112n q10) rfl ?_
      refine sx_RP.step (pc2 := 14) (ls2 := [(0, .ref 0), (1, .int (nI x2)), (2, .int a2), (3, .int a3), (4, .int a4), (5, .int a5)]) (st2 := []) (w3 := w) rfl rfl ?_
      refine sx_RP.step (pc2 := 15) (ls2 := [(0, .ref 0), (1, .int (nI x2)), (2, .int a2), (3, .int a3), (4, .int a4), (5, .int a5)]) (st2 := [.ref 0]) (w3 := w) rfl rfl ?_
      refine sx_RP.step (pc2 := 17) (ls2 := [(0, .ref 0), (1, .int (nI x2)), (2, .int a2), (3, .int a3), (4, .int a4), (5, .int a5)]) (st2 := [.int (-1000000001), .ref 0]) (w3 := w) rfl rfl ?_
      refine sx_RP.callp (as2 := [.ref 0, .int (-1000000001)]) (rest2 := []) rfl rfl (sx_inv_v2 (mi := 118) (k := 78) (st := [.int (-1000000001), .ref 0]) (w := w) rfl rfl hI.1.o0 rfl rfl rfl) rfl rfl rfl (S9_0 hI) (show _ = 20 from rfl) ?_
      rintro r4 w16 ⟨rfl, hI17, hs15⟩
      show sx_RP _ _ _ _ _ [.int (-1000000001)] _ _
      refine sx_RP.ret (r := (some (.int (-1000000001)))) rfl rfl ?_
      exact ⟨⟨by rw [cp_1 (g := FCs w) (fun z => q10 z.2)], by rw [cpR_n (cp_1 (g := FCs w) (fun z => q10 z.2)) (by decide)]; exact NCs_eq (fun q hq => hs15 _ (by omega)), FCs_eq (fun q hq => hs15 _ (by omega))⟩, hI17, fun a h1 h2 => hs15 a h1⟩
    · refine sx_RP.cu (as := [.int (nI x11)]) (rest2 := []) (st3 := [.int 1]) rfl rfl rfl rfl rfl (cx_112p ⟨nI_le (a := 0) hx12 (by omega), nI_le (b := 3) hx13 (by decide)⟩) rfl ?_
      refine sx_RP.step (pc2 := 21) (ls2 := [(0, .ref 0), (1, .int (nI x2)), (2, .int a2), (3, .int (nI x11)), (4, .int a4), (5, .int a5)]) (st2 := []) (w3 := w) rfl rfl ?_
      refine sx_RP.step (pc2 := 22) (ls2 := [(0, .ref 0), (1, .int (nI x2)), (2, .int a2), (3, .int (nI x11)), (4, .int a4), (5, .int a5)]) (st2 := [.ref 0]) (w3 := w) rfl rfl ?_
      refine sx_RP.gf (v := .ref 98) rfl rfl hI.1.o0 rfl rfl (show _ = 25 from rfl) ?_
      refine sx_RP.step (pc2 := 26) (ls2 := [(0, .ref 0), (1, .int (nI x2)), (2, .int a2), (3, .int (nI x11)), (4, .int a4), (5, .int a5)]) (st2 := [.int (nI x2), .ref 98]) (w3 := w) rfl rfl ?_
      refine sx_RP.ald (v := .ref (103 + 2 * x2)) rfl hI.1.a98 rfl (shA_at (show x2 < 4 by omega)) (show _ = 27 from rfl) ?_
      refine sx_RP.step (pc2 := 29) (ls2 := [(6, .ref (103 + 2 * x2)), (0, .ref 0), (1, .int (nI x2)), (2, .int a2), (3, .int (nI x11)), (4, .int a4), (5, .int a5)]) (st2 := []) (w3 := w) rfl rfl ?_
      refine sx_RP.step (pc2 := 30) (ls2 := [(6, .ref (103 + 2 * x2)), (0, .ref 0), (1, .int (nI x2)), (2, .int a2), (3, .int (nI x11)), (4, .int a4), (5, .int a5)]) (st2 := [.ref 0]) (w3 := w) rfl rfl ?_
      refine sx_RP.gf (v := .ref 98) rfl rfl hI.1.o0 rfl rfl (show _ = 33 from rfl) ?_
      refine sx_RP.step (pc2 := 34) (ls2 := [(6, .ref (103 + 2 * x2)), (0, .ref 0), (1, .int (nI x2)), (2, .int a2), (3, .int (nI x11)), (4, .int a4), (5, .int a5)]) (st2 := [.int (nI x11), .ref 98]) (w3 := w) rfl rfl ?_
      refine sx_RP.ald (v := .ref (103 + 2 * x11)) rfl hI.1.a98 rfl (shA_at (show x11 < 4 by omega)) (show _ = 35 from rfl) ?_
      refine sx_RP.step (pc2 := 37) (ls2 := [(7, .ref (103 + 2 * x11)), (6, .ref (103 + 2 * x2)), (0, .ref 0), (1, .int (nI x2)), (2, .int a2), (3, .int (nI x11)), (4, .int a4), (5, .int a5)]) (st2 := []) (w3 := w) rfl rfl ?_
      refine sx_RP.step (pc2 := 39) (ls2 := [(7, .ref (103 + 2 * x11)), (6, .ref (103 + 2 * x2)), (0, .ref 0), (1, .int (nI x2)), (2, .int a2), (3, .int (nI x11)), (4, .int a4), (5, .int a5)]) (st2 := [.ref (103 + 2 * x2)]) (w3 := w) rfl rfl ?_
      rcases Decidable.em (fi w (103 + 2 * x2) 1 = 0) with c19 | c19
      · refine sx_RP.cu (as := [.ref (103 + 2 * x2)]) (rest2 := []) (st3 := [.int 1]) rfl rfl (sx_inv_v2 (mi := 118) (k := 310) (st := [.ref (103 + 2 * x2)]) (w := w) rfl rfl (hI.1.oS (show x2 < 4 by omega)) rfl rfl rfl) rfl rfl (p116y hI (show x2 < 4 by omega) c19) rfl ?_
        refine sx_RP.step (pc2 := 53) (ls2 := [(7, .ref (103 + 2 * x11)), (6, .ref (103 + 2 * x2)), (0, .ref 0), (1, .int (nI x2)), (2, .int a2), (3, .int (nI x11)), (4, .int a4), (5, .int a5)]) (st2 := []) (w3 := w) rfl rfl ?_
        refine sx_RP.step (pc2 := 54) (ls2 := [(7, .ref (103 + 2 * x11)), (6, .ref (103 + 2 * x2)), (0, .ref 0), (1, .int (nI x2)), (2, .int a2), (3, .int (nI x11)), (4, .int a4), (5, .int a5)]) (st2 := [.ref 0]) (w3 := w) rfl rfl ?_
        refine sx_RP.step (pc2 := 57) (ls2 := [(7, .ref (103 + 2 * x11)), (6, .ref (103 + 2 * x2)), (0, .ref 0), (1, .int (nI x2)), (2, .int a2), (3, .int (nI x11)), (4, .int a4), (5, .int a5)]) (st2 := [.int (-1000000006), .ref 0]) (w3 := w) rfl rfl ?_
        refine sx_RP.callp (as2 := [.ref 0, .int (-1000000006)]) (rest2 := []) rfl rfl (sx_inv_v2 (mi := 118) (k := 78) (st := [.int (-1000000006), .ref 0]) (w := w) rfl rfl hI.1.o0 rfl rfl rfl) rfl rfl rfl (S9_5 hI) (show _ = 60 from rfl) ?_
        rintro r4 w21 ⟨rfl, hI22, hs20⟩
        show sx_RP _ _ _ _ _ [.int (-1000000006)] _ _
        refine sx_RP.ret (r := (some (.int (-1000000006)))) rfl rfl ?_
        exact ⟨⟨by rw [cp_2 (g := FCs w) (show x2 < 4 by omega) (show x11 < 4 by omega) (FCs_at (by omega)) (FCs_at (by omega)) (Or.inl c19)], by rw [cpR_n (cp_2 (g := FCs w) (show x2 < 4 by omega) (show x11 < 4 by omega) (FCs_at (by omega)) (FCs_at (by omega)) (Or.inl c19)) (by decide)]; exact NCs_eq (fun q hq => hs20 _ (by omega)), FCs_eq (fun q hq => hs20 _ (by omega))⟩, hI22, fun a h1 h2 => hs20 a h1⟩
      · refine sx_RP.cu (as := [.ref (103 + 2 * x2)]) (rest2 := []) (st3 := [.int 0]) rfl rfl (sx_inv_v2 (mi := 118) (k := 310) (st := [.ref (103 + 2 * x2)]) (w := w) rfl rfl (hI.1.oS (show x2 < 4 by omega)) rfl rfl rfl) rfl rfl (p116n hI (show x2 < 4 by omega) c19) rfl ?_
        refine sx_RP.step (pc2 := 45) (ls2 := [(7, .ref (103 + 2 * x11)), (6, .ref (103 + 2 * x2)), (0, .ref 0), (1, .int (nI x2)), (2, .int a2), (3, .int (nI x11)), (4, .int a4), (5, .int a5)]) (st2 := []) (w3 := w) rfl rfl ?_
        refine sx_RP.step (pc2 := 47) (ls2 := [(7, .ref (103 + 2 * x11)), (6, .ref (103 + 2 * x2)), (0, .ref 0), (1, .int (nI x2)), (2, .int a2), (3, .int (nI x11)), (4, .int a4), (5, .int a5)]) (st2 := [.ref (103 + 2 * x11)]) (w3 := w) rfl rfl ?_
        rcases Decidable.em (fi w (103 + 2 * x11) 1 = 0) with c24 | c24
        · refine sx_RP.cu (as := [.ref (103 + 2 * x11)]) (rest2 := []) (st3 := [.int 1]) rfl rfl (sx_inv_v2 (mi := 118) (k := 310) (st := [.ref (103 + 2 * x11)]) (w := w) rfl rfl (hI.1.oS (show x11 < 4 by omega)) rfl rfl rfl) rfl rfl (p116y hI (show x11 < 4 by omega) c24) rfl ?_
          refine sx_RP.step (pc2 := 53) (ls2 := [(7, .ref (103 + 2 * x11)), (6, .ref (103 + 2 * x2)), (0, .ref 0), (1, .int (nI x2)), (2, .int a2), (3, .int (nI x11)), (4, .int a4), (5, .int a5)]) (st2 := []) (w3 := w) rfl rfl ?_
          refine sx_RP.step (pc2 := 54) (ls2 := [(7, .ref (103 + 2 * x11)), (6, .ref (103 + 2 * x2)), (0, .ref 0), (1, .int (nI x2)), (2, .int a2), (3, .int (nI x11)), (4, .int a4), (5, .int a5)]) (st2 := [.ref 0]) (w3 := w) rfl rfl ?_
          refine sx_RP.step (pc2 := 57) (ls2 := [(7, .ref (103 + 2 * x11)), (6, .ref (103 + 2 * x2)), (0, .ref 0), (1, .int (nI x2)), (2, .int a2), (3, .int (nI x11)), (4, .int a4), (5, .int a5)]) (st2 := [.int (-1000000006), .ref 0]) (w3 := w) rfl rfl ?_
          refine sx_RP.callp (as2 := [.ref 0, .int (-1000000006)]) (rest2 := []) rfl rfl (sx_inv_v2 (mi := 118) (k := 78) (st := [.int (-1000000006), .ref 0]) (w := w) rfl rfl hI.1.o0 rfl rfl rfl) rfl rfl rfl (S9_5 hI) (show _ = 60 from rfl) ?_
          rintro r4 w26 ⟨rfl, hI27, hs25⟩
          show sx_RP _ _ _ _ _ [.int (-1000000006)] _ _
          refine sx_RP.ret (r := (some (.int (-1000000006)))) rfl rfl ?_
          exact ⟨⟨by rw [cp_2 (g := FCs w) (show x2 < 4 by omega) (show x11 < 4 by omega) (FCs_at (by omega)) (FCs_at (by omega)) (Or.inr c24)], by rw [cpR_n (cp_2 (g := FCs w) (show x2 < 4 by omega) (show x11 < 4 by omega) (FCs_at (by omega)) (FCs_at (by omega)) (Or.inr c24)) (by decide)]; exact NCs_eq (fun q hq => hs25 _ (by omega)), FCs_eq (fun q hq => hs25 _ (by omega))⟩, hI27, fun a h1 h2 => hs25 a h1⟩
        · refine sx_RP.cu (as := [.ref (103 + 2 * x11)]) (rest2 := []) (st3 := [.int 0]) rfl rfl (sx_inv_v2 (mi := 118) (k := 310) (st := [.ref (103 + 2 * x11)]) (w := w) rfl rfl (hI.1.oS (show x11 < 4 by omega)) rfl rfl rfl) rfl rfl (p116n hI (show x11 < 4 by omega) c24) rfl ?_
          refine sx_RP.step (pc2 := 61) (ls2 := [(7, .ref (103 + 2 * x11)), (6, .ref (103 + 2 * x2)), (0, .ref 0), (1, .int (nI x2)), (2, .int a2), (3, .int (nI x11)), (4, .int a4), (5, .int a5)]) (st2 := []) (w3 := w) rfl rfl ?_
          refine sx_RP.step (pc2 := 63) (ls2 := [(7, .ref (103 + 2 * x11)), (6, .ref (103 + 2 * x2)), (0, .ref 0), (1, .int (nI x2)), (2, .int a2), (3, .int (nI x11)), (4, .int a4), (5, .int a5)]) (st2 := [.ref (103 + 2 * x2)]) (w3 := w) rfl rfl ?_
          refine sx_RP.gf (v := .int (fi w (103 + 2 * x2) 1)) rfl rfl (hI.1.oS (show x2 < 4 by omega)) rfl rfl (show _ = 66 from rfl) ?_
          refine sx_RP.step (pc2 := 68) (ls2 := [(7, .ref (103 + 2 * x11)), (6, .ref (103 + 2 * x2)), (0, .ref 0), (1, .int (nI x2)), (2, .int a2), (3, .int (nI x11)), (4, .int a4), (5, .int a5)]) (st2 := [.ref (103 + 2 * x11), .int (fi w (103 + 2 * x2) 1)]) (w3 := w) rfl rfl ?_
          refine sx_RP.gf (v := .int (fi w (103 + 2 * x11) 1)) rfl rfl (hI.1.oS (show x11 < 4 by omega)) rfl rfl (show _ = 71 from rfl) ?_
          refine sx_RP.br (p1 := 81) (l1 := [(7, .ref (103 + 2 * x11)), (6, .ref (103 + 2 * x2)), (0, .ref 0), (1, .int (nI x2)), (2, .int a2), (3, .int (nI x11)), (4, .int a4), (5, .int a5)]) (s1 := []) (v1 := w) (p2 := 74) (l2 := [(7, .ref (103 + 2 * x11)), (6, .ref (103 + 2 * x2)), (0, .ref 0), (1, .int (nI x2)), (2, .int a2), (3, .int (nI x11)), (4, .int a4), (5, .int a5)]) (s2 := []) (v2 := w) rfl rfl (fun q29 => ?_) (fun q29 => ?_)
          · replace q29 := of_decide_eq_true q29
            refine sx_RP.step (pc2 := 83) (ls2 := [(7, .ref (103 + 2 * x11)), (6, .ref (103 + 2 * x2)), (0, .ref 0), (1, .int (nI x2)), (2, .int a2), (3, .int (nI x11)), (4, .int a4), (5, .int a5)]) (st2 := [.ref (103 + 2 * x2)]) (w3 := w) rfl rfl ?_
            refine sx_RP.step (pc2 := 84) (ls2 := [(7, .ref (103 + 2 * x11)), (6, .ref (103 + 2 * x2)), (0, .ref 0), (1, .int (nI x2)), (2, .int a2), (3, .int (nI x11)), (4, .int a4), (5, .int a5)]) (st2 := [.int a2, .ref (103 + 2 * x2)]) (w3 := w) rfl rfl ?_
            refine sx_RP.step (pc2 := 86) (ls2 := [(7, .ref (103 + 2 * x11)), (6, .ref (103 + 2 * x2)), (0, .ref 0), (1, .int (nI x2)), (2, .int a2), (3, .int (nI x11)), (4, .int a4), (5, .int a5)]) (st2 := [.int a5, .int a2, .ref (103 + 2 * x2)]) (w3 := w) rfl rfl ?_
            rcases Decidable.em (runB (fi w (103 + 2 * x2) 2) a2 a5 = true) with c30 | c30
            · obtain ⟨x31, x32, rfl, rfl, hx34⟩ := run_nat (hI.sh (show x2 < 4 by omega)) c30
              refine sx_RP.cu (as := [.ref (103 + 2 * x2), .int (nI x31), .int (nI x32)]) (rest2 := []) (st3 := [.int 1]) rfl rfl (sx_inv_v2 (mi := 118) (k := 325) (st := [.int (nI x32), .int (nI x31), .ref (103 + 2 * x2)]) (w := w) rfl rfl (hI.1.oS (show x2 < 4 by omega)) rfl rfl rfl) rfl rfl (p119y hI (show x2 < 4 by omega) c30) rfl ?_
              refine sx_RP.step (pc2 := 92) (ls2 := [(7, .ref (103 + 2 * x11)), (6, .ref (103 + 2 * x2)), (0, .ref 0), (1, .int (nI x2)), (2, .int (nI x31)), (3, .int (nI x11)), (4, .int a4), (5, .int (nI x32))]) (st2 := []) (w3 := w) rfl rfl ?_
              refine sx_RP.step (pc2 := 94) (ls2 := [(7, .ref (103 + 2 * x11)), (6, .ref (103 + 2 * x2)), (0, .ref 0), (1, .int (nI x2)), (2, .int (nI x31)), (3, .int (nI x11)), (4, .int a4), (5, .int (nI x32))]) (st2 := [.ref (103 + 2 * x11)]) (w3 := w) rfl rfl ?_
              refine sx_RP.step (pc2 := 96) (ls2 := [(7, .ref (103 + 2 * x11)), (6, .ref (103 + 2 * x2)), (0, .ref 0), (1, .int (nI x2)), (2, .int (nI x31)), (3, .int (nI x11)), (4, .int a4), (5, .int (nI x32))]) (st2 := [.int a4, .ref (103 + 2 * x11)]) (w3 := w) rfl rfl ?_
              refine sx_RP.step (pc2 := 98) (ls2 := [(7, .ref (103 + 2 * x11)), (6, .ref (103 + 2 * x2)), (0, .ref 0), (1, .int (nI x2)), (2, .int (nI x31)), (3, .int (nI x11)), (4, .int a4), (5, .int (nI x32))]) (st2 := [.int (nI x32), .int a4, .ref (103 + 2 * x11)]) (w3 := w) rfl rfl ?_
              rcases Decidable.em (runB (fi w (103 + 2 * x11) 2) a4 (nI x32) = true) with c36 | c36
              · obtain ⟨x37, x38, rfl, ex39, hx40⟩ := run_nat (hI.sh (show x11 < 4 by omega)) c36
                have hx41 := (nI_eq (a := x32) (b := x38) (by omega) (by omega)).mp ex39
                refine sx_RP.cu (as := [.ref (103 + 2 * x11), .int (nI x37), .int (nI x32)]) (rest2 := []) (st3 := [.int 1]) rfl rfl (sx_inv_v2 (mi := 118) (k := 325) (st := [.int (nI x32), .int (nI x37), .ref (103 + 2 * x11)]) (w := w) rfl rfl (hI.1.oS (show x11 < 4 by omega)) rfl rfl rfl) rfl rfl (p119y hI (show x11 < 4 by omega) c36) rfl ?_
                refine sx_RP.step (pc2 := 111) (ls2 := [(7, .ref (103 + 2 * x11)), (6, .ref (103 + 2 * x2)), (0, .ref 0), (1, .int (nI x2)), (2, .int (nI x31)), (3, .int (nI x11)), (4, .int (nI x37)), (5, .int (nI x32))]) (st2 := []) (w3 := w) rfl rfl ?_
                refine sx_RP.step (pc2 := 113) (ls2 := [(7, .ref (103 + 2 * x11)), (6, .ref (103 + 2 * x2)), (0, .ref 0), (1, .int (nI x2)), (2, .int (nI x31)), (3, .int (nI x11)), (4, .int (nI x37)), (5, .int (nI x32))]) (st2 := [.ref (103 + 2 * x2)]) (w3 := w) rfl rfl ?_
                refine sx_RP.gf (v := .ref (104 + 2 * x2)) rfl rfl (hI.1.oS (show x2 < 4 by omega)) rfl rfl (show _ = 116 from rfl) ?_
                refine sx_RP.step (pc2 := 117) (ls2 := [(7, .ref (103 + 2 * x11)), (6, .ref (103 + 2 * x2)), (0, .ref 0), (1, .int (nI x2)), (2, .int (nI x31)), (3, .int (nI x11)), (4, .int (nI x37)), (5, .int (nI x32))]) (st2 := [.int (nI x31), .ref (104 + 2 * x2)]) (w3 := w) rfl rfl ?_
                refine sx_RP.step (pc2 := 119) (ls2 := [(7, .ref (103 + 2 * x11)), (6, .ref (103 + 2 * x2)), (0, .ref 0), (1, .int (nI x2)), (2, .int (nI x31)), (3, .int (nI x11)), (4, .int (nI x37)), (5, .int (nI x32))]) (st2 := [.ref (103 + 2 * x11), .int (nI x31), .ref (104 + 2 * x2)]) (w3 := w) rfl rfl ?_
                refine sx_RP.gf (v := .ref (104 + 2 * x11)) rfl rfl (hI.1.oS (show x11 < 4 by omega)) rfl rfl (show _ = 122 from rfl) ?_
                refine sx_RP.step (pc2 := 124) (ls2 := [(7, .ref (103 + 2 * x11)), (6, .ref (103 + 2 * x2)), (0, .ref 0), (1, .int (nI x2)), (2, .int (nI x31)), (3, .int (nI x11)), (4, .int (nI x37)), (5, .int (nI x32))]) (st2 := [.int (nI x37), .ref (104 + 2 * x11), .int (nI x31), .ref (104 + 2 * x2)]) (w3 := w) rfl rfl ?_
                refine sx_RP.step (pc2 := 126) (ls2 := [(7, .ref (103 + 2 * x11)), (6, .ref (103 + 2 * x2)), (0, .ref 0), (1, .int (nI x2)), (2, .int (nI x31)), (3, .int (nI x11)), (4, .int (nI x37)), (5, .int (nI x32))]) (st2 := [.int (nI x32), .int (nI x37), .ref (104 + 2 * x11), .int (nI x31), .ref (104 + 2 * x2)]) (w3 := w) rfl rfl ?_
                refine sx_RP.acX hI (show x2 < 4 by omega) (show x11 < 4 by omega) (show x31 + x32 ≤ 40 by omega) (show x37 + x32 ≤ 40 by omega) rfl rfl rfl (show _ = 129 from rfl) (fun w42 hI43 hs44 hv45 => ?_)
                refine sx_RP.step (pc2 := 131) (ls2 := [(7, .ref (103 + 2 * x11)), (6, .ref (103 + 2 * x2)), (0, .ref 0), (1, .int (nI x2)), (2, .int (nI x31)), (3, .int (nI x11)), (4, .int (nI x37)), (5, .int (nI x32))]) (st2 := [.int (nI x32)]) (w3 := w42) rfl rfl ?_
                refine sx_RP.ret (r := (some (.int (nI x32)))) rfl rfl ?_
                have ea46 : cpAns (FCs w) (nI x2) (nI x31) (nI x11) (nI x37) (nI x32) = nI x32 := cp_5 (show x2 < 4 by omega) (show x11 < 4 by omega) (FCs_at (by omega)) (FCs_at (by omega)) c19 c24 q29 c30 c36
                exact ⟨⟨by rw [ea46], by rw [cpR_y ea46 (by omega) (by omega) (by omega) (by omega)]; exact NCs_cp hI (by omega) (by omega) (by omega) (by omega) hs44 hv45, FCs_eq (fun q hq => hs44 _ (by omega))⟩, hI43, fun a h1 h2 => hs44 a (by omega)⟩
              · refine sx_RP.cu (as := [.ref (103 + 2 * x11), .int a4, .int (nI x32)]) (rest2 := []) (st3 := [.int 0]) rfl rfl (sx_inv_v2 (mi := 118) (k := 325) (st := [.int (nI x32), .int a4, .ref (103 + 2 * x11)]) (w := w) rfl rfl (hI.1.oS (show x11 < 4 by omega)) rfl rfl rfl) rfl rfl (p119n hI (show x11 < 4 by omega) c36) rfl ?_
                refine sx_RP.step (pc2 := 104) (ls2 := [(7, .ref (103 + 2 * x11)), (6, .ref (103 + 2 * x2)), (0, .ref 0), (1, .int (nI x2)), (2, .int (nI x31)), (3, .int (nI x11)), (4, .int a4), (5, .int (nI x32))]) (st2 := []) (w3 := w) rfl rfl ?_
                refine sx_RP.step (pc2 := 105) (ls2 := [(7, .ref (103 + 2 * x11)), (6, .ref (103 + 2 * x2)), (0, .ref 0), (1, .int (nI x2)), (2, .int (nI x31)), (3, .int (nI x11)), (4, .int a4), (5, .int (nI x32))]) (st2 := [.ref 0]) (w3 := w) rfl rfl ?_
                refine sx_RP.step (pc2 := 107) (ls2 := [(7, .ref (103 + 2 * x11)), (6, .ref (103 + 2 * x2)), (0, .ref 0), (1, .int (nI x2)), (2, .int (nI x31)), (3, .int (nI x11)), (4, .int a4), (5, .int (nI x32))]) (st2 := [.int (-1000000001), .ref 0]) (w3 := w) rfl rfl ?_
                refine sx_RP.callp (as2 := [.ref 0, .int (-1000000001)]) (rest2 := []) rfl rfl (sx_inv_v2 (mi := 118) (k := 78) (st := [.int (-1000000001), .ref 0]) (w := w) rfl rfl hI.1.o0 rfl rfl rfl) rfl rfl rfl (S9_0 hI) (show _ = 110 from rfl) ?_
                rintro r4 w48 ⟨rfl, hI49, hs47⟩
                show sx_RP _ _ _ _ _ [.int (-1000000001)] _ _
                refine sx_RP.ret (r := (some (.int (-1000000001)))) rfl rfl ?_
                exact ⟨⟨by rw [cp_4 (g := FCs w) (show x2 < 4 by omega) (show x11 < 4 by omega) (FCs_at (by omega)) (FCs_at (by omega)) c19 c24 q29 (fun z => c36 z.2)], by rw [cpR_n (cp_4 (g := FCs w) (show x2 < 4 by omega) (show x11 < 4 by omega) (FCs_at (by omega)) (FCs_at (by omega)) c19 c24 q29 (fun z => c36 z.2)) (by decide)]; exact NCs_eq (fun q hq => hs47 _ (by omega)), FCs_eq (fun q hq => hs47 _ (by omega))⟩, hI49, fun a h1 h2 => hs47 a h1⟩
            · refine sx_RP.cu (as := [.ref (103 + 2 * x2), .int a2, .int a5]) (rest2 := []) (st3 := [.int 0]) rfl rfl (sx_inv_v2 (mi := 118) (k := 325) (st := [.int a5, .int a2, .ref (103 + 2 * x2)]) (w := w) rfl rfl (hI.1.oS (show x2 < 4 by omega)) rfl rfl rfl) rfl rfl (p119n hI (show x2 < 4 by omega) c30) rfl ?_
              refine sx_RP.step (pc2 := 104) (ls2 := [(7, .ref (103 + 2 * x11)), (6, .ref (103 + 2 * x2)), (0, .ref 0), (1, .int (nI x2)), (2, .int a2), (3, .int (nI x11)), (4, .int a4), (5, .int a5)]) (st2 := []) (w3 := w) rfl rfl ?_
              refine sx_RP.step (pc2 := 105) (ls2 := [(7, .ref (103 + 2 * x11)), (6, .ref (103 + 2 * x2)), (0, .ref 0), (1, .int (nI x2)), (2, .int a2), (3, .int (nI x11)), (4, .int a4), (5, .int a5)]) (st2 := [.ref 0]) (w3 := w) rfl rfl ?_
              refine sx_RP.step (pc2 := 107) (ls2 := [(7, .ref (103 + 2 * x11)), (6, .ref (103 + 2 * x2)), (0, .ref 0), (1, .int (nI x2)), (2, .int a2), (3, .int (nI x11)), (4, .int a4), (5, .int a5)]) (st2 := [.int (-1000000001), .ref 0]) (w3 := w) rfl rfl ?_
              refine sx_RP.callp (as2 := [.ref 0, .int (-1000000001)]) (rest2 := []) rfl rfl (sx_inv_v2 (mi := 118) (k := 78) (st := [.int (-1000000001), .ref 0]) (w := w) rfl rfl hI.1.o0 rfl rfl rfl) rfl rfl rfl (S9_0 hI) (show _ = 110 from rfl) ?_
              rintro r4 w52 ⟨rfl, hI53, hs51⟩
              show sx_RP _ _ _ _ _ [.int (-1000000001)] _ _
              refine sx_RP.ret (r := (some (.int (-1000000001)))) rfl rfl ?_
              exact ⟨⟨by rw [cp_4 (g := FCs w) (show x2 < 4 by omega) (show x11 < 4 by omega) (FCs_at (by omega)) (FCs_at (by omega)) c19 c24 q29 (fun z => c30 z.1)], by rw [cpR_n (cp_4 (g := FCs w) (show x2 < 4 by omega) (show x11 < 4 by omega) (FCs_at (by omega)) (FCs_at (by omega)) c19 c24 q29 (fun z => c30 z.1)) (by decide)]; exact NCs_eq (fun q hq => hs51 _ (by omega)), FCs_eq (fun q hq => hs51 _ (by omega))⟩, hI53, fun a h1 h2 => hs51 a h1⟩
          · replace q29 := of_decide_eq_false q29
            refine sx_RP.step (pc2 := 75) (ls2 := [(7, .ref (103 + 2 * x11)), (6, .ref (103 + 2 * x2)), (0, .ref 0), (1, .int (nI x2)), (2, .int a2), (3, .int (nI x11)), (4, .int a4), (5, .int a5)]) (st2 := [.ref 0]) (w3 := w) rfl rfl ?_
            refine sx_RP.step (pc2 := 77) (ls2 := [(7, .ref (103 + 2 * x11)), (6, .ref (103 + 2 * x2)), (0, .ref 0), (1, .int (nI x2)), (2, .int a2), (3, .int (nI x11)), (4, .int a4), (5, .int a5)]) (st2 := [.int (-1000000003), .ref 0]) (w3 := w) rfl rfl ?_
            refine sx_RP.callp (as2 := [.ref 0, .int (-1000000003)]) (rest2 := []) rfl rfl (sx_inv_v2 (mi := 118) (k := 78) (st := [.int (-1000000003), .ref 0]) (w := w) rfl rfl hI.1.o0 rfl rfl rfl) rfl rfl rfl (S9_2 hI) (show _ = 80 from rfl) ?_
            rintro r4 w56 ⟨rfl, hI57, hs55⟩
            show sx_RP _ _ _ _ _ [.int (-1000000003)] _ _
            refine sx_RP.ret (r := (some (.int (-1000000003)))) rfl rfl ?_
            exact ⟨⟨by rw [cp_3 (g := FCs w) (show x2 < 4 by omega) (show x11 < 4 by omega) (FCs_at (by omega)) (FCs_at (by omega)) c19 c24 q29], by rw [cpR_n (cp_3 (g := FCs w) (show x2 < 4 by omega) (show x11 < 4 by omega) (FCs_at (by omega)) (FCs_at (by omega)) c19 c24 q29) (by decide)]; exact NCs_eq (fun q hq => hs55 _ (by omega)), FCs_eq (fun q hq => hs55 _ (by omega))⟩, hI57, fun a h1 h2 => hs55 a h1⟩
set_option maxRecDepth 20000 in
set_option maxHeartbeats 4000000 in
theorem X234b {xs : Option (List Int32)} {d : Nat} {w0 : List sx_C} {s f t g n : Nat} (hs : s < 4) (ht : t < 4) (hf : f + n ≤ 40) (hg : g + n ≤ 40) : ∀ (q j : Nat) (w : List sx_C), j + q = n → WI w → (∀ i, i < n → (ja w 125).getD i 0 = (ja w0 124).getD (40 * s + f + i) 0) → (∀ k, k < 160 → (ja w 124).getD k 0 = if 40 * t + g ≤ k ∧ k < 40 * t + g + j then (ja w0 124).getD (40 * s + f + (k - (40 * t + g))) 0 else (ja w0 124).getD k 0) → sx_RP xs (d + 7) 234 152 [(0, .ref 111), (1, .int (nI s)), (2, .int (nI f)), (3, .int (nI t)), (4, .int (nI g)), (5, .int (nI n)), (6, .int (nI j))] [] w (fun r w2 => (r = some (.int (nI n)) ∧ ∀ k, k < 160 → (ja w2 124).getD k 0 = if 40 * t + g ≤ k ∧ k < 40 * t + g + n then (ja w0 124).getD (40 * s + f + (k - (40 * t + g))) 0 else (ja w0 124).getD k 0) ∧ WI w2 ∧ Same 124 w w2)
  | 0, j, w, hj, hI, hc, hz => by
    obtain rfl : j = n := by omega
    refine sx_RP.step (pc2 := 154) (ls2 := [(0, .ref 111), (1, .int (nI s)), (2, .int (nI f)), (3, .int (nI t)), (4, .int (nI g)), (5, .int (nI j)), (6, .int (nI j))]) (st2 := [.int (nI j)]) (w3 := w) rfl rfl ?_
    refine sx_RP.step (pc2 := 156) (ls2 := [(0, .ref 111), (1, .int (nI s)), (2, .int (nI f)), (3, .int (nI t)), (4, .int (nI g)), (5, .int (nI j)), (6, .int (nI j))]) (st2 := [.int (nI j), .int (nI j)]) (w3 := w) rfl rfl ?_
    refine sx_RP.br (p1 := 187) (l1 := [(0, .ref 111), (1, .int (nI s)), (2, .int (nI f)), (3, .int (nI t)), (4, .int (nI g)), (5, .int (nI j)), (6, .int (nI j))]) (s1 := []) (v1 := w) rfl rfl (fun _ => ?_) (fun q => absurd (nI_le (a := j) (b := j) (by omega) (by omega)) (of_decide_eq_false q))
    refine sx_RP.step (pc2 := 189) (ls2 := [(0, .ref 111), (1, .int (nI s)), (2, .int (nI f)), (3, .int (nI t)), (4, .int (nI g)), (5, .int (nI j)), (6, .int (nI j))]) (st2 := [.int (nI j)]) (w3 := w) rfl rfl ?_
    refine sx_RP.ret (r := (some (.int (nI j)))) rfl rfl ?_
    exact ⟨⟨rfl, hz⟩, hI, Same.rf⟩
  | q + 1, j, w, hj, hI, hc, hz => by
    refine sx_RP.step (pc2 := 154) (ls2 := [(0, .ref 111), (1, .int (nI s)), (2, .int (nI f)), (3, .int (nI t)), (4, .int (nI g)), (5, .int (nI n)), (6, .int (nI j))]) (st2 := [.int (nI j)]) (w3 := w) rfl rfl ?_
    refine sx_RP.step (pc2 := 156) (ls2 := [(0, .ref 111), (1, .int (nI s)), (2, .int (nI f)), (3, .int (nI t)), (4, .int (nI g)), (5, .int (nI n)), (6, .int (nI j))]) (st2 := [.int (nI n), .int (nI j)]) (w3 := w) rfl rfl ?_
    refine sx_RP.br (p2 := 159) (l2 := [(0, .ref 111), (1, .int (nI s)), (2, .int (nI f)), (3, .int (nI t)), (4, .int (nI g)), (5, .int (nI n)), (6, .int (nI j))]) (s2 := []) (v2 := w) rfl rfl (fun q => absurd (of_decide_eq_true q) (fun z => absurd ((nI_leI (a := n) (b := j) (by omega) (by omega)).mp z) (by omega))) (fun _ => ?_)
    refine sx_RP.step (pc2 := 160) (ls2 := [(0, .ref 111), (1, .int (nI s)), (2, .int (nI f)), (3, .int (nI t)), (4, .int (nI g)), (5, .int (nI n)), (6, .int (nI j))]) (st2 := [.ref 111]) (w3 := w) rfl rfl ?_
    refine sx_RP.gf (v := .ref 124) rfl rfl hI.1.o111 rfl rfl (show _ = 163 from rfl) ?_
    refine sx_RP.step (pc2 := 165) (ls2 := [(0, .ref 111), (1, .int (nI s)), (2, .int (nI f)), (3, .int (nI t)), (4, .int (nI g)), (5, .int (nI n)), (6, .int (nI j))]) (st2 := [.int 40, .ref 124]) (w3 := w) rfl rfl ?_
    refine sx_RP.step (pc2 := 166) (ls2 := [(0, .ref 111), (1, .int (nI s)), (2, .int (nI f)), (3, .int (nI t)), (4, .int (nI g)), (5, .int (nI n)), (6, .int (nI j))]) (st2 := [.int (nI t), .int 40, .ref 124]) (w3 := w) rfl rfl ?_
    refine sx_RP.step (pc2 := 167) (ls2 := [(0, .ref 111), (1, .int (nI s)), (2, .int (nI f)), (3, .int (nI t)), (4, .int (nI g)), (5, .int (nI n)), (6, .int (nI j))]) (st2 := [.int (40 * (nI t)), .ref 124]) (w3 := w) rfl rfl ?_
    rw [show (40 * (nI t) : Int32) = nI (40 * t) from nI_mul 40 t]
    refine sx_RP.step (pc2 := 169) (ls2 := [(0, .ref 111), (1, .int (nI s)), (2, .int (nI f)), (3, .int (nI t)), (4, .int (nI g)), (5, .int (nI n)), (6, .int (nI j))]) (st2 := [.int (nI g), .int (nI (40 * t)), .ref 124]) (w3 := w) rfl rfl ?_
    refine sx_RP.step (pc2 := 170) (ls2 := [(0, .ref 111), (1, .int (nI s)), (2, .int (nI f)), (3, .int (nI t)), (4, .int (nI g)), (5, .int (nI n)), (6, .int (nI j))]) (st2 := [.int ((nI (40 * t)) + (nI g)), .ref 124]) (w3 := w) rfl rfl ?_
    rw [show ((nI (40 * t)) + (nI g) : Int32) = nI ((40 * t) + g) from nI_add (40 * t) g]
    refine sx_RP.step (pc2 := 172) (ls2 := [(0, .ref 111), (1, .int (nI s)), (2, .int (nI f)), (3, .int (nI t)), (4, .int (nI g)), (5, .int (nI n)), (6, .int (nI j))]) (st2 := [.int (nI j), .int (nI ((40 * t) + g)), .ref 124]) (w3 := w) rfl rfl ?_
    refine sx_RP.step (pc2 := 173) (ls2 := [(0, .ref 111), (1, .int (nI s)), (2, .int (nI f)), (3, .int (nI t)), (4, .int (nI g)), (5, .int (nI n)), (6, .int (nI j))]) (st2 := [.int ((nI ((40 * t) + g)) + (nI j)), .ref 124]) (w3 := w) rfl rfl ?_
    rw [show ((nI ((40 * t) + g)) + (nI j) : Int32) = nI (((40 * t) + g) + j) from nI_add ((40 * t) + g) j]
    refine sx_RP.step (pc2 := 174) (ls2 := [(0, .ref 111), (1, .int (nI s)), (2, .int (nI f)), (3, .int (nI t)), (4, .int (nI g)), (5, .int (nI n)), (6, .int (nI j))]) (st2 := [.ref 111, .int (nI (((40 * t) + g) + j)), .ref 124]) (w3 := w) rfl rfl ?_
    refine sx_RP.gf (v := .ref 125) rfl rfl hI.1.o111 rfl rfl (show _ = 177 from rfl) ?_
    refine sx_RP.step (pc2 := 179) (ls2 := [(0, .ref 111), (1, .int (nI s)), (2, .int (nI f)), (3, .int (nI t)), (4, .int (nI g)), (5, .int (nI n)), (6, .int (nI j))]) (st2 := [.int (nI j), .ref 125, .int (nI (((40 * t) + g) + j)), .ref 124]) (w3 := w) rfl rfl ?_
    refine sx_RP.lld (c := j) rfl hI.1.a125.1 hI.1.a125.2 (sx_in_nI (show j < 40 by omega) (by decide)) (show (nI j).toNatClampNeg = j from nI_clamp (by omega)) (show _ = 180 from rfl) ?_
    refine sx_RP.xL (c := (((40 * t) + g) + j)) hI rfl hI.1.a124 (show (((40 * t) + g) + j) < 160 by omega) (by decide) (by omega) (show _ = 181 from rfl) (fun w1 hI2 hs3 hv4 => ?_)
    refine sx_RP.step (pc2 := 184) (ls2 := [(6, .int ((nI j) + 1)), (0, .ref 111), (1, .int (nI s)), (2, .int (nI f)), (3, .int (nI t)), (4, .int (nI g)), (5, .int (nI n))]) (st2 := []) (w3 := w1) rfl rfl ?_
    rw [nI_1 j]
    refine sx_RP.step (pc2 := 152) (ls2 := [(6, .int (nI (j + 1))), (0, .ref 111), (1, .int (nI s)), (2, .int (nI f)), (3, .int (nI t)), (4, .int (nI g)), (5, .int (nI n))]) (st2 := []) (w3 := w1) rfl rfl ?_
    refine sx_RP.ls (sx_lr.cons rfl (sx_lr.cons rfl (sx_lr.cons rfl (sx_lr.cons rfl (sx_lr.cons rfl (sx_lr.cons rfl (sx_lr.cons rfl sx_lr.nil))))))) ((X234b hs ht hf hg q (j + 1) w1 (by omega) hI2 (fun i hi => by rw [ja_of (hs3 125 (by decide))]; exact hc i hi) (fun k hk => ?_)).mono9 (fun r w2 z => ⟨z.1, z.2.1, hs3.tr z.2.2⟩))
    rw [hv4, gj_set (by rw [hI.1.a124.2]; omega)]
    by_cases e : k = 40 * t + g + j
    · rw [if_pos (by omega), if_pos (by omega), hc j (by omega), show 40 * s + f + (k - (40 * t + g)) = 40 * s + f + j by omega]
    · rw [if_neg (by omega), hz k hk]
      by_cases e2 : 40 * t + g ≤ k ∧ k < 40 * t + g + j
      · rw [if_pos e2, if_pos (by omega)]
      · rw [if_neg e2, if_neg (by omega)]
set_option maxRecDepth 20000 in
set_option maxHeartbeats 4000000 in
theorem X234a {xs : Option (List Int32)} {d : Nat} {s f t g n : Nat} (hs : s < 4) (ht : t < 4) (hf : f + n ≤ 40) (hg : g + n ≤ 40) : ∀ (q j : Nat) (w : List sx_C), j + q = n → WI w → (∀ i, i < j → (ja w 125).getD i 0 = (ja w 124).getD (40 * s + f + i) 0) → sx_RP xs (d + 7) 234 115 [(0, .ref 111), (1, .int (nI s)), (2, .int (nI f)), (3, .int (nI t)), (4, .int (nI g)), (5, .int (nI n)), (6, .int (nI j))] [] w (fun r w2 => (r = some (.int (nI n)) ∧ ∀ k, k < 160 → (ja w2 124).getD k 0 = if 40 * t + g ≤ k ∧ k < 40 * t + g + n then (ja w 124).getD (40 * s + f + (k - (40 * t + g))) 0 else (ja w 124).getD k 0) ∧ WI w2 ∧ ∀ a, a ≠ 124 → a ≠ 125 → w2[a]? = w[a]?)
  | 0, j, w, hj, hI, hc => by
    obtain rfl : j = n := by omega
    refine sx_RP.step (pc2 := 117) (ls2 := [(0, .ref 111), (1, .int (nI s)), (2, .int (nI f)), (3, .int (nI t)), (4, .int (nI g)), (5, .int (nI j)), (6, .int (nI j))]) (st2 := [.int (nI j)]) (w3 := w) rfl rfl ?_
    refine sx_RP.step (pc2 := 119) (ls2 := [(0, .ref 111), (1, .int (nI s)), (2, .int (nI f)), (3, .int (nI t)), (4, .int (nI g)), (5, .int (nI j)), (6, .int (nI j))]) (st2 := [.int (nI j), .int (nI j)]) (w3 := w) rfl rfl ?_
    refine sx_RP.br (p1 := 149) (l1 := [(0, .ref 111), (1, .int (nI s)), (2, .int (nI f)), (3, .int (nI t)), (4, .int (nI g)), (5, .int (nI j)), (6, .int (nI j))]) (s1 := []) (v1 := w) rfl rfl (fun _ => ?_) (fun q => absurd (nI_le (a := j) (b := j) (by omega) (by omega)) (of_decide_eq_false q))
    refine sx_RP.step (pc2 := 150) (ls2 := [(0, .ref 111), (1, .int (nI s)), (2, .int (nI f)), (3, .int (nI t)), (4, .int (nI g)), (5, .int (nI j)), (6, .int (nI j))]) (st2 := [.int 0]) (w3 := w) rfl rfl ?_
    refine sx_RP.step (pc2 := 152) (ls2 := [(6, .int 0), (0, .ref 111), (1, .int (nI s)), (2, .int (nI f)), (3, .int (nI t)), (4, .int (nI g)), (5, .int (nI j))]) (st2 := []) (w3 := w) rfl rfl ?_
    exact sx_RP.ls (sx_lr.cons rfl (sx_lr.cons rfl (sx_lr.cons rfl (sx_lr.cons rfl (sx_lr.cons rfl (sx_lr.cons rfl (sx_lr.cons rfl sx_lr.nil))))))) ((X234b (w0 := w) hs ht hf hg j 0 w (by omega) hI hc (fun k hk => by rw [if_neg (by omega)])).mono9 (fun r w2 z => ⟨z.1, z.2.1, fun a h1 h2 => z.2.2 a h1⟩))
  | q + 1, j, w, hj, hI, hc => by
    refine sx_RP.step (pc2 := 117) (ls2 := [(0, .ref 111), (1, .int (nI s)), (2, .int (nI f)), (3, .int (nI t)), (4, .int (nI g)), (5, .int (nI n)), (6, .int (nI j))]) (st2 := [.int (nI j)]) (w3 := w) rfl rfl ?_
    refine sx_RP.step (pc2 := 119) (ls2 := [(0, .ref 111), (1, .int (nI s)), (2, .int (nI f)), (3, .int (nI t)), (4, .int (nI g)), (5, .int (nI n)), (6, .int (nI j))]) (st2 := [.int (nI n), .int (nI j)]) (w3 := w) rfl rfl ?_
    refine sx_RP.br (p2 := 122) (l2 := [(0, .ref 111), (1, .int (nI s)), (2, .int (nI f)), (3, .int (nI t)), (4, .int (nI g)), (5, .int (nI n)), (6, .int (nI j))]) (s2 := []) (v2 := w) rfl rfl (fun q => absurd (of_decide_eq_true q) (fun z => absurd ((nI_leI (a := n) (b := j) (by omega) (by omega)).mp z) (by omega))) (fun _ => ?_)
    refine sx_RP.step (pc2 := 123) (ls2 := [(0, .ref 111), (1, .int (nI s)), (2, .int (nI f)), (3, .int (nI t)), (4, .int (nI g)), (5, .int (nI n)), (6, .int (nI j))]) (st2 := [.ref 111]) (w3 := w) rfl rfl ?_
    refine sx_RP.gf (v := .ref 125) rfl rfl hI.1.o111 rfl rfl (show _ = 126 from rfl) ?_
    refine sx_RP.step (pc2 := 128) (ls2 := [(0, .ref 111), (1, .int (nI s)), (2, .int (nI f)), (3, .int (nI t)), (4, .int (nI g)), (5, .int (nI n)), (6, .int (nI j))]) (st2 := [.int (nI j), .ref 125]) (w3 := w) rfl rfl ?_
    refine sx_RP.step (pc2 := 129) (ls2 := [(0, .ref 111), (1, .int (nI s)), (2, .int (nI f)), (3, .int (nI t)), (4, .int (nI g)), (5, .int (nI n)), (6, .int (nI j))]) (st2 := [.ref 111, .int (nI j), .ref 125]) (w3 := w) rfl rfl ?_
    refine sx_RP.gf (v := .ref 124) rfl rfl hI.1.o111 rfl rfl (show _ = 132 from rfl) ?_
    refine sx_RP.step (pc2 := 134) (ls2 := [(0, .ref 111), (1, .int (nI s)), (2, .int (nI f)), (3, .int (nI t)), (4, .int (nI g)), (5, .int (nI n)), (6, .int (nI j))]) (st2 := [.int 40, .ref 124, .int (nI j), .ref 125]) (w3 := w) rfl rfl ?_
    refine sx_RP.step (pc2 := 135) (ls2 := [(0, .ref 111), (1, .int (nI s)), (2, .int (nI f)), (3, .int (nI t)), (4, .int (nI g)), (5, .int (nI n)), (6, .int (nI j))]) (st2 := [.int (nI s), .int 40, .ref 124, .int (nI j), .ref 125]) (w3 := w) rfl rfl ?_
    refine sx_RP.step (pc2 := 136) (ls2 := [(0, .ref 111), (1, .int (nI s)), (2, .int (nI f)), (3, .int (nI t)), (4, .int (nI g)), (5, .int (nI n)), (6, .int (nI j))]) (st2 := [.int (40 * (nI s)), .ref 124, .int (nI j), .ref 125]) (w3 := w) rfl rfl ?_
    rw [show (40 * (nI s) : Int32) = nI (40 * s) from nI_mul 40 s]
    refine sx_RP.step (pc2 := 137) (ls2 := [(0, .ref 111), (1, .int (nI s)), (2, .int (nI f)), (3, .int (nI t)), (4, .int (nI g)), (5, .int (nI n)), (6, .int (nI j))]) (st2 := [.int (nI f), .int (nI (40 * s)), .ref 124, .int (nI j), .ref 125]) (w3 := w) rfl rfl ?_
    refine sx_RP.step (pc2 := 138) (ls2 := [(0, .ref 111), (1, .int (nI s)), (2, .int (nI f)), (3, .int (nI t)), (4, .int (nI g)), (5, .int (nI n)), (6, .int (nI j))]) (st2 := [.int ((nI (40 * s)) + (nI f)), .ref 124, .int (nI j), .ref 125]) (w3 := w) rfl rfl ?_
    rw [show ((nI (40 * s)) + (nI f) : Int32) = nI ((40 * s) + f) from nI_add (40 * s) f]
    refine sx_RP.step (pc2 := 140) (ls2 := [(0, .ref 111), (1, .int (nI s)), (2, .int (nI f)), (3, .int (nI t)), (4, .int (nI g)), (5, .int (nI n)), (6, .int (nI j))]) (st2 := [.int (nI j), .int (nI ((40 * s) + f)), .ref 124, .int (nI j), .ref 125]) (w3 := w) rfl rfl ?_
    refine sx_RP.step (pc2 := 141) (ls2 := [(0, .ref 111), (1, .int (nI s)), (2, .int (nI f)), (3, .int (nI t)), (4, .int (nI g)), (5, .int (nI n)), (6, .int (nI j))]) (st2 := [.int ((nI ((40 * s) + f)) + (nI j)), .ref 124, .int (nI j), .ref 125]) (w3 := w) rfl rfl ?_
    rw [show ((nI ((40 * s) + f)) + (nI j) : Int32) = nI (((40 * s) + f) + j) from nI_add ((40 * s) + f) j]
    refine sx_RP.lld (c := (((40 * s) + f) + j)) rfl hI.1.a124.1 hI.1.a124.2 (sx_in_nI (show (((40 * s) + f) + j) < 160 by omega) (by decide)) (show (nI (((40 * s) + f) + j)).toNatClampNeg = (((40 * s) + f) + j) from nI_clamp (by omega)) (show _ = 142 from rfl) ?_
    refine sx_RP.xL (c := j) hI rfl hI.1.a125 (show j < 40 by omega) (by decide) (by omega) (show _ = 143 from rfl) (fun w1 hI2 hs3 hv4 => ?_)
    refine sx_RP.step (pc2 := 146) (ls2 := [(6, .int ((nI j) + 1)), (0, .ref 111), (1, .int (nI s)), (2, .int (nI f)), (3, .int (nI t)), (4, .int (nI g)), (5, .int (nI n))]) (st2 := []) (w3 := w1) rfl rfl ?_
    rw [nI_1 j]
    refine sx_RP.step (pc2 := 115) (ls2 := [(6, .int (nI (j + 1))), (0, .ref 111), (1, .int (nI s)), (2, .int (nI f)), (3, .int (nI t)), (4, .int (nI g)), (5, .int (nI n))]) (st2 := []) (w3 := w1) rfl rfl ?_
    refine sx_RP.ls (sx_lr.cons rfl (sx_lr.cons rfl (sx_lr.cons rfl (sx_lr.cons rfl (sx_lr.cons rfl (sx_lr.cons rfl (sx_lr.cons rfl sx_lr.nil))))))) ((X234a hs ht hf hg q (j + 1) w1 (by omega) hI2 (fun i hi => ?_)).mono9 (fun r w2 z => ⟨⟨z.1.1, fun k hk => by rw [z.1.2 k hk, ja_of (hs3 124 (by decide))]⟩, z.2.1, fun a h1 h2 => (z.2.2 a h1 h2).trans (hs3 a h2)⟩))
    rw [hv4, gj_set (by rw [hI.1.a125.2]; omega), ja_of (hs3 124 (by decide))]
    by_cases e : i = j
    · rw [if_pos e, e]
    · rw [if_neg e]
      exact hc i (by omega)
set_option maxRecDepth 20000 in
set_option maxHeartbeats 4000000 in
theorem Y234 {xs : Option (List Int32)} {d : Nat} {w : List sx_C} (hI : WI w) (a1 a2 a3 a4 a5 : Int32) : sx_RP xs (d + 7) 234 0 (lv_args 0 [.ref 111, .int a1, .int a2, .int a3, .int a4, .int a5]) [] w (fun r w2 => (r = some (.int (cpAns (FMs w) a1 a2 a3 a4 a5)) ∧ NMs w2 = cpR (FMs w) (NMs w) a1 a2 a3 a4 a5 ∧ FMs w2 = FMs w) ∧ WI w2 ∧ ∀ a, a ≠ 116 → a ≠ 124 → a ≠ 125 → w2[a]? = w[a]?) := by
  refine sx_RP.step (pc2 := 1) (ls2 := [(0, .ref 111), (1, .int a1), (2, .int a2), (3, .int a3), (4, .int a4), (5, .int a5)]) (st2 := [.int a1]) (w3 := w) rfl rfl ?_
  rcases in_cases a1 0 3 (m := 0) (n := 3) rfl rfl (by decide) (by decide) with q1 | ⟨x2, hx3, hx4, rfl⟩
  · refine sx_RP.cu (as := [.int a1]) (rest2 := []) (st3 := [.int 0]) rfl rfl rfl rfl rfl (cx_231n q1) rfl ?_
    refine sx_RP.step (pc2 := 14) (ls2 := [(0, .ref 111), (1, .int a1), (2, .int a2), (3, .int a3), (4, .int a4), (5, .int a5)]) (st2 := []) (w3 := w) rfl rfl ?_
    refine sx_RP.step (pc2 := 15) (ls2 := [(0, .ref 111), (1, .int a1), (2, .int a2), (3, .int a3), (4, .int a4), (5, .int a5)]) (st2 := [.ref 111]) (w3 := w) rfl rfl ?_
    refine sx_RP.step (pc2 := 16) (ls2 := [(0, .ref 111), (1, .int a1), (2, .int a2), (3, .int a3), (4, .int a4), (5, .int a5)]) (st2 := [.int 0, .ref 111]) (w3 := w) rfl rfl ?_
    refine sx_RP.callp (as2 := [.ref 111, .int 0]) (rest2 := []) rfl rfl (sx_inv_v2 (mi := 234) (k := 70) (st := [.int 0, .ref 111]) (w := w) rfl rfl hI.1.o111 rfl rfl rfl) rfl rfl rfl (S133_0 hI) (show _ = 19 from rfl) ?_
    rintro r4 w7 ⟨rfl, hI8, hs6⟩
    show sx_RP _ _ _ _ _ [.int (-1000000001)] _ _
    refine sx_RP.ret (r := (some (.int (-1000000001)))) rfl rfl ?_
    exact ⟨⟨by rw [cp_1 (g := FMs w) (fun z => q1 z.1)], by rw [cpR_n (cp_1 (g := FMs w) (fun z => q1 z.1)) (by decide)]; exact NMs_eq (hs6 124 (by decide)), FMs_eq (hs6 122 (by decide)) (hs6 123 (by decide))⟩, hI8, fun a h1 h2 h3 => hs6 a h1⟩
  · refine sx_RP.cu (as := [.int (nI x2)]) (rest2 := []) (st3 := [.int 1]) rfl rfl rfl rfl rfl (cx_231p ⟨nI_le (a := 0) hx3 (by omega), nI_le (b := 3) hx4 (by decide)⟩) rfl ?_
    refine sx_RP.step (pc2 := 7) (ls2 := [(0, .ref 111), (1, .int (nI x2)), (2, .int a2), (3, .int a3), (4, .int a4), (5, .int a5)]) (st2 := []) (w3 := w) rfl rfl ?_
    refine sx_RP.step (pc2 := 8) (ls2 := [(0, .ref 111), (1, .int (nI x2)), (2, .int a2), (3, .int a3), (4, .int a4), (5, .int a5)]) (st2 := [.int a3]) (w3 := w) rfl rfl ?_
    rcases in_cases a3 0 3 (m := 0) (n := 3) rfl rfl (by decide) (by decide) with q9 | ⟨x10, hx11, hx12, rfl⟩
    · refine sx_RP.cu (as := [.int a3]) (rest2 := []) (st3 := [.int 0]) rfl rfl rfl rfl rfl (cx_231n q9) rfl ?_
      refine sx_RP.step (pc2 := 14) (ls2 := [(0, .ref 111), (1, .int (nI x2)), (2, .int a2), (3, .int a3), (4, .int a4), (5, .int a5)]) (st2 := []) (w3 := w) rfl rfl ?_
      refine sx_RP.step (pc2 := 15) (ls2 := [(0, .ref 111), (1, .int (nI x2)), (2, .int a2), (3, .int a3), (4, .int a4), (5, .int a5)]) (st2 := [.ref 111]) (w3 := w) rfl rfl ?_
      refine sx_RP.step (pc2 := 16) (ls2 := [(0, .ref 111), (1, .int (nI x2)), (2, .int a2), (3, .int a3), (4, .int a4), (5, .int a5)]) (st2 := [.int 0, .ref 111]) (w3 := w) rfl rfl ?_
      refine sx_RP.callp (as2 := [.ref 111, .int 0]) (rest2 := []) rfl rfl (sx_inv_v2 (mi := 234) (k := 70) (st := [.int 0, .ref 111]) (w := w) rfl rfl hI.1.o111 rfl rfl rfl) rfl rfl rfl (S133_0 hI) (show _ = 19 from rfl) ?_
      rintro r4 w15 ⟨rfl, hI16, hs14⟩
      show sx_RP _ _ _ _ _ [.int (-1000000001)] _ _
      refine sx_RP.ret (r := (some (.int (-1000000001)))) rfl rfl ?_
      exact ⟨⟨by rw [cp_1 (g := FMs w) (fun z => q9 z.2)], by rw [cpR_n (cp_1 (g := FMs w) (fun z => q9 z.2)) (by decide)]; exact NMs_eq (hs14 124 (by decide)), FMs_eq (hs14 122 (by decide)) (hs14 123 (by decide))⟩, hI16, fun a h1 h2 h3 => hs14 a h1⟩
    · refine sx_RP.cu (as := [.int (nI x10)]) (rest2 := []) (st3 := [.int 1]) rfl rfl rfl rfl rfl (cx_231p ⟨nI_le (a := 0) hx11 (by omega), nI_le (b := 3) hx12 (by decide)⟩) rfl ?_
      refine sx_RP.step (pc2 := 20) (ls2 := [(0, .ref 111), (1, .int (nI x2)), (2, .int a2), (3, .int (nI x10)), (4, .int a4), (5, .int a5)]) (st2 := []) (w3 := w) rfl rfl ?_
      refine sx_RP.step (pc2 := 21) (ls2 := [(0, .ref 111), (1, .int (nI x2)), (2, .int a2), (3, .int (nI x10)), (4, .int a4), (5, .int a5)]) (st2 := [.ref 111]) (w3 := w) rfl rfl ?_
      refine sx_RP.gf (v := .ref 122) rfl rfl hI.1.o111 rfl rfl (show _ = 24 from rfl) ?_
      refine sx_RP.step (pc2 := 25) (ls2 := [(0, .ref 111), (1, .int (nI x2)), (2, .int a2), (3, .int (nI x10)), (4, .int a4), (5, .int a5)]) (st2 := [.int (nI x2), .ref 122]) (w3 := w) rfl rfl ?_
      refine sx_RP.ild (c := x2) rfl hI.1.a122.1 hI.1.a122.2 (sx_in_nI (show x2 < 4 by omega) (by decide)) (show (nI x2).toNatClampNeg = x2 from nI_clamp (by omega)) (show _ = 26 from rfl) ?_
      refine sx_RP.br (p1 := 38) (l1 := [(0, .ref 111), (1, .int (nI x2)), (2, .int a2), (3, .int (nI x10)), (4, .int a4), (5, .int a5)]) (s1 := []) (v1 := w) (p2 := 29) (l2 := [(0, .ref 111), (1, .int (nI x2)), (2, .int a2), (3, .int (nI x10)), (4, .int a4), (5, .int a5)]) (s2 := []) (v2 := w) rfl rfl (fun q17 => ?_) (fun q17 => ?_)
      · replace q17 := of_decide_eq_true q17
        refine sx_RP.step (pc2 := 39) (ls2 := [(0, .ref 111), (1, .int (nI x2)), (2, .int a2), (3, .int (nI x10)), (4, .int a4), (5, .int a5)]) (st2 := [.ref 111]) (w3 := w) rfl rfl ?_
        refine sx_RP.step (pc2 := 40) (ls2 := [(0, .ref 111), (1, .int (nI x2)), (2, .int a2), (3, .int (nI x10)), (4, .int a4), (5, .int a5)]) (st2 := [.int 5, .ref 111]) (w3 := w) rfl rfl ?_
        refine sx_RP.callp (as2 := [.ref 111, .int 5]) (rest2 := []) rfl rfl (sx_inv_v2 (mi := 234) (k := 70) (st := [.int 5, .ref 111]) (w := w) rfl rfl hI.1.o111 rfl rfl rfl) rfl rfl rfl (S133_5 hI) (show _ = 43 from rfl) ?_
        rintro r4 w19 ⟨rfl, hI20, hs18⟩
        show sx_RP _ _ _ _ _ [.int (-1000000006)] _ _
        refine sx_RP.ret (r := (some (.int (-1000000006)))) rfl rfl ?_
        exact ⟨⟨by rw [cp_2 (g := FMs w) (show x2 < 4 by omega) (show x10 < 4 by omega) (FMs_at0 (by omega)) (FMs_at0 (by omega)) (Or.inl q17)], by rw [cpR_n (cp_2 (g := FMs w) (show x2 < 4 by omega) (show x10 < 4 by omega) (FMs_at0 (by omega)) (FMs_at0 (by omega)) (Or.inl q17)) (by decide)]; exact NMs_eq (hs18 124 (by decide)), FMs_eq (hs18 122 (by decide)) (hs18 123 (by decide))⟩, hI20, fun a h1 h2 h3 => hs18 a h1⟩
      · replace q17 := of_decide_eq_false q17
        refine sx_RP.step (pc2 := 30) (ls2 := [(0, .ref 111), (1, .int (nI x2)), (2, .int a2), (3, .int (nI x10)), (4, .int a4), (5, .int a5)]) (st2 := [.ref 111]) (w3 := w) rfl rfl ?_
        refine sx_RP.gf (v := .ref 122) rfl rfl hI.1.o111 rfl rfl (show _ = 33 from rfl) ?_
        refine sx_RP.step (pc2 := 34) (ls2 := [(0, .ref 111), (1, .int (nI x2)), (2, .int a2), (3, .int (nI x10)), (4, .int a4), (5, .int a5)]) (st2 := [.int (nI x10), .ref 122]) (w3 := w) rfl rfl ?_
        refine sx_RP.ild (c := x10) rfl hI.1.a122.1 hI.1.a122.2 (sx_in_nI (show x10 < 4 by omega) (by decide)) (show (nI x10).toNatClampNeg = x10 from nI_clamp (by omega)) (show _ = 35 from rfl) ?_
        refine sx_RP.br (p1 := 44) (l1 := [(0, .ref 111), (1, .int (nI x2)), (2, .int a2), (3, .int (nI x10)), (4, .int a4), (5, .int a5)]) (s1 := []) (v1 := w) (p2 := 38) (l2 := [(0, .ref 111), (1, .int (nI x2)), (2, .int a2), (3, .int (nI x10)), (4, .int a4), (5, .int a5)]) (s2 := []) (v2 := w) rfl rfl (fun q21 => ?_) (fun q21 => ?_)
        · replace q21 := of_decide_eq_true q21
          refine sx_RP.step (pc2 := 45) (ls2 := [(0, .ref 111), (1, .int (nI x2)), (2, .int a2), (3, .int (nI x10)), (4, .int a4), (5, .int a5)]) (st2 := [.ref 111]) (w3 := w) rfl rfl ?_
          refine sx_RP.gf (v := .ref 122) rfl rfl hI.1.o111 rfl rfl (show _ = 48 from rfl) ?_
          refine sx_RP.step (pc2 := 49) (ls2 := [(0, .ref 111), (1, .int (nI x2)), (2, .int a2), (3, .int (nI x10)), (4, .int a4), (5, .int a5)]) (st2 := [.int (nI x2), .ref 122]) (w3 := w) rfl rfl ?_
          refine sx_RP.ild (c := x2) rfl hI.1.a122.1 hI.1.a122.2 (sx_in_nI (show x2 < 4 by omega) (by decide)) (show (nI x2).toNatClampNeg = x2 from nI_clamp (by omega)) (show _ = 50 from rfl) ?_
          refine sx_RP.step (pc2 := 51) (ls2 := [(0, .ref 111), (1, .int (nI x2)), (2, .int a2), (3, .int (nI x10)), (4, .int a4), (5, .int a5)]) (st2 := [.ref 111, .int ((ia w 122).getD x2 0)]) (w3 := w) rfl rfl ?_
          refine sx_RP.gf (v := .ref 122) rfl rfl hI.1.o111 rfl rfl (show _ = 54 from rfl) ?_
          refine sx_RP.step (pc2 := 55) (ls2 := [(0, .ref 111), (1, .int (nI x2)), (2, .int a2), (3, .int (nI x10)), (4, .int a4), (5, .int a5)]) (st2 := [.int (nI x10), .ref 122, .int ((ia w 122).getD x2 0)]) (w3 := w) rfl rfl ?_
          refine sx_RP.ild (c := x10) rfl hI.1.a122.1 hI.1.a122.2 (sx_in_nI (show x10 < 4 by omega) (by decide)) (show (nI x10).toNatClampNeg = x10 from nI_clamp (by omega)) (show _ = 56 from rfl) ?_
          refine sx_RP.br (p1 := 65) (l1 := [(0, .ref 111), (1, .int (nI x2)), (2, .int a2), (3, .int (nI x10)), (4, .int a4), (5, .int a5)]) (s1 := []) (v1 := w) (p2 := 59) (l2 := [(0, .ref 111), (1, .int (nI x2)), (2, .int a2), (3, .int (nI x10)), (4, .int a4), (5, .int a5)]) (s2 := []) (v2 := w) rfl rfl (fun q22 => ?_) (fun q22 => ?_)
          · replace q22 := of_decide_eq_true q22
            obtain ⟨x23, hx24, ex25⟩ := hI.l (show x2 < 4 by omega)
            obtain ⟨x26, hx27, ex28⟩ := hI.l (show x10 < 4 by omega)
            refine sx_RP.step (pc2 := 67) (ls2 := [(0, .ref 111), (1, .int (nI x2)), (2, .int a2), (3, .int (nI x10)), (4, .int a4), (5, .int a5)]) (st2 := [.int a5]) (w3 := w) rfl rfl ?_
            refine sx_RP.br (p1 := 106) (l1 := [(0, .ref 111), (1, .int (nI x2)), (2, .int a2), (3, .int (nI x10)), (4, .int a4), (5, .int a5)]) (s1 := []) (v1 := w) (p2 := 70) (l2 := [(0, .ref 111), (1, .int (nI x2)), (2, .int a2), (3, .int (nI x10)), (4, .int a4), (5, .int a5)]) (s2 := []) (v2 := w) rfl rfl (fun q29 => ?_) (fun q29 => ?_)
            · replace q29 := of_decide_eq_true q29
              refine sx_RP.step (pc2 := 107) (ls2 := [(0, .ref 111), (1, .int (nI x2)), (2, .int a2), (3, .int (nI x10)), (4, .int a4), (5, .int a5)]) (st2 := [.ref 111]) (w3 := w) rfl rfl ?_
              refine sx_RP.step (pc2 := 108) (ls2 := [(0, .ref 111), (1, .int (nI x2)), (2, .int a2), (3, .int (nI x10)), (4, .int a4), (5, .int a5)]) (st2 := [.int 0, .ref 111]) (w3 := w) rfl rfl ?_
              refine sx_RP.callp (as2 := [.ref 111, .int 0]) (rest2 := []) rfl rfl (sx_inv_v2 (mi := 234) (k := 70) (st := [.int 0, .ref 111]) (w := w) rfl rfl hI.1.o111 rfl rfl rfl) rfl rfl rfl (S133_0 hI) (show _ = 111 from rfl) ?_
              rintro r4 w31 ⟨rfl, hI32, hs30⟩
              show sx_RP _ _ _ _ _ [.int (-1000000001)] _ _
              refine sx_RP.ret (r := (some (.int (-1000000001)))) rfl rfl ?_
              exact ⟨⟨by rw [cp_4 (g := FMs w) (show x2 < 4 by omega) (show x10 < 4 by omega) (FMs_at (by omega) ex25) (FMs_at (by omega) ex28) q17 q21 q22 (fun z => ((run_iff2 (by omega)).mp z.1).1 q29)], by rw [cpR_n (cp_4 (g := FMs w) (show x2 < 4 by omega) (show x10 < 4 by omega) (FMs_at (by omega) ex25) (FMs_at (by omega) ex28) q17 q21 q22 (fun z => ((run_iff2 (by omega)).mp z.1).1 q29)) (by decide)]; exact NMs_eq (hs30 124 (by decide)), FMs_eq (hs30 122 (by decide)) (hs30 123 (by decide))⟩, hI32, fun a h1 h2 h3 => hs30 a h1⟩
            · replace q29 := of_decide_eq_false q29
              refine sx_RP.step (pc2 := 71) (ls2 := [(0, .ref 111), (1, .int (nI x2)), (2, .int a2), (3, .int (nI x10)), (4, .int a4), (5, .int a5)]) (st2 := [.int a2]) (w3 := w) rfl rfl ?_
              refine sx_RP.br (p1 := 106) (l1 := [(0, .ref 111), (1, .int (nI x2)), (2, .int a2), (3, .int (nI x10)), (4, .int a4), (5, .int a5)]) (s1 := []) (v1 := w) (p2 := 74) (l2 := [(0, .ref 111), (1, .int (nI x2)), (2, .int a2), (3, .int (nI x10)), (4, .int a4), (5, .int a5)]) (s2 := []) (v2 := w) rfl rfl (fun q33 => ?_) (fun q33 => ?_)
              · replace q33 := of_decide_eq_true q33
                refine sx_RP.step (pc2 := 107) (ls2 := [(0, .ref 111), (1, .int (nI x2)), (2, .int a2), (3, .int (nI x10)), (4, .int a4), (5, .int a5)]) (st2 := [.ref 111]) (w3 := w) rfl rfl ?_
                refine sx_RP.step (pc2 := 108) (ls2 := [(0, .ref 111), (1, .int (nI x2)), (2, .int a2), (3, .int (nI x10)), (4, .int a4), (5, .int a5)]) (st2 := [.int 0, .ref 111]) (w3 := w) rfl rfl ?_
                refine sx_RP.callp (as2 := [.ref 111, .int 0]) (rest2 := []) rfl rfl (sx_inv_v2 (mi := 234) (k := 70) (st := [.int 0, .ref 111]) (w := w) rfl rfl hI.1.o111 rfl rfl rfl) rfl rfl rfl (S133_0 hI) (show _ = 111 from rfl) ?_
                rintro r4 w35 ⟨rfl, hI36, hs34⟩
                show sx_RP _ _ _ _ _ [.int (-1000000001)] _ _
                refine sx_RP.ret (r := (some (.int (-1000000001)))) rfl rfl ?_
                exact ⟨⟨by rw [cp_4 (g := FMs w) (show x2 < 4 by omega) (show x10 < 4 by omega) (FMs_at (by omega) ex25) (FMs_at (by omega) ex28) q17 q21 q22 (fun z => ((run_iff2 (by omega)).mp z.1).2.1 q33)], by rw [cpR_n (cp_4 (g := FMs w) (show x2 < 4 by omega) (show x10 < 4 by omega) (FMs_at (by omega) ex25) (FMs_at (by omega) ex28) q17 q21 q22 (fun z => ((run_iff2 (by omega)).mp z.1).2.1 q33)) (by decide)]; exact NMs_eq (hs34 124 (by decide)), FMs_eq (hs34 122 (by decide)) (hs34 123 (by decide))⟩, hI36, fun a h1 h2 h3 => hs34 a h1⟩
              · replace q33 := of_decide_eq_false q33
                refine sx_RP.step (pc2 := 76) (ls2 := [(0, .ref 111), (1, .int (nI x2)), (2, .int a2), (3, .int (nI x10)), (4, .int a4), (5, .int a5)]) (st2 := [.int a4]) (w3 := w) rfl rfl ?_
                refine sx_RP.br (p1 := 106) (l1 := [(0, .ref 111), (1, .int (nI x2)), (2, .int a2), (3, .int (nI x10)), (4, .int a4), (5, .int a5)]) (s1 := []) (v1 := w) (p2 := 79) (l2 := [(0, .ref 111), (1, .int (nI x2)), (2, .int a2), (3, .int (nI x10)), (4, .int a4), (5, .int a5)]) (s2 := []) (v2 := w) rfl rfl (fun q37 => ?_) (fun q37 => ?_)
                · replace q37 := of_decide_eq_true q37
                  refine sx_RP.step (pc2 := 107) (ls2 := [(0, .ref 111), (1, .int (nI x2)), (2, .int a2), (3, .int (nI x10)), (4, .int a4), (5, .int a5)]) (st2 := [.ref 111]) (w3 := w) rfl rfl ?_
                  refine sx_RP.step (pc2 := 108) (ls2 := [(0, .ref 111), (1, .int (nI x2)), (2, .int a2), (3, .int (nI x10)), (4, .int a4), (5, .int a5)]) (st2 := [.int 0, .ref 111]) (w3 := w) rfl rfl ?_
                  refine sx_RP.callp (as2 := [.ref 111, .int 0]) (rest2 := []) rfl rfl (sx_inv_v2 (mi := 234) (k := 70) (st := [.int 0, .ref 111]) (w := w) rfl rfl hI.1.o111 rfl rfl rfl) rfl rfl rfl (S133_0 hI) (show _ = 111 from rfl) ?_
                  rintro r4 w39 ⟨rfl, hI40, hs38⟩
                  show sx_RP _ _ _ _ _ [.int (-1000000001)] _ _
                  refine sx_RP.ret (r := (some (.int (-1000000001)))) rfl rfl ?_
                  exact ⟨⟨by rw [cp_4 (g := FMs w) (show x2 < 4 by omega) (show x10 < 4 by omega) (FMs_at (by omega) ex25) (FMs_at (by omega) ex28) q17 q21 q22 (fun z => ((run_iff2 (by omega)).mp z.2).2.1 q37)], by rw [cpR_n (cp_4 (g := FMs w) (show x2 < 4 by omega) (show x10 < 4 by omega) (FMs_at (by omega) ex25) (FMs_at (by omega) ex28) q17 q21 q22 (fun z => ((run_iff2 (by omega)).mp z.2).2.1 q37)) (by decide)]; exact NMs_eq (hs38 124 (by decide)), FMs_eq (hs38 122 (by decide)) (hs38 123 (by decide))⟩, hI40, fun a h1 h2 h3 => hs38 a h1⟩
                · replace q37 := of_decide_eq_false q37
                  refine sx_RP.step (pc2 := 80) (ls2 := [(0, .ref 111), (1, .int (nI x2)), (2, .int a2), (3, .int (nI x10)), (4, .int a4), (5, .int a5)]) (st2 := [.int a2]) (w3 := w) rfl rfl ?_
                  refine sx_RP.step (pc2 := 81) (ls2 := [(0, .ref 111), (1, .int (nI x2)), (2, .int a2), (3, .int (nI x10)), (4, .int a4), (5, .int a5)]) (st2 := [.ref 111, .int a2]) (w3 := w) rfl rfl ?_
                  refine sx_RP.gf (v := .ref 123) rfl rfl hI.1.o111 rfl rfl (show _ = 84 from rfl) ?_
                  refine sx_RP.step (pc2 := 85) (ls2 := [(0, .ref 111), (1, .int (nI x2)), (2, .int a2), (3, .int (nI x10)), (4, .int a4), (5, .int a5)]) (st2 := [.int (nI x2), .ref 123, .int a2]) (w3 := w) rfl rfl ?_
                  refine sx_RP.ild (c := x2) rfl hI.1.a123.1 hI.1.a123.2 (sx_in_nI (show x2 < 4 by omega) (by decide)) (show (nI x2).toNatClampNeg = x2 from nI_clamp (by omega)) (show _ = 86 from rfl) ?_
                  rw [ex25]
                  refine sx_RP.step (pc2 := 88) (ls2 := [(0, .ref 111), (1, .int (nI x2)), (2, .int a2), (3, .int (nI x10)), (4, .int a4), (5, .int a5)]) (st2 := [.int a5, .int (nI x23), .int a2]) (w3 := w) rfl rfl ?_
                  refine sx_RP.step (pc2 := 89) (ls2 := [(0, .ref 111), (1, .int (nI x2)), (2, .int a2), (3, .int (nI x10)), (4, .int a4), (5, .int a5)]) (st2 := [.int ((nI x23) - a5), .int a2]) (w3 := w) rfl rfl ?_
                  refine sx_RP.br (p1 := 106) (l1 := [(0, .ref 111), (1, .int (nI x2)), (2, .int a2), (3, .int (nI x10)), (4, .int a4), (5, .int a5)]) (s1 := []) (v1 := w) (p2 := 92) (l2 := [(0, .ref 111), (1, .int (nI x2)), (2, .int a2), (3, .int (nI x10)), (4, .int a4), (5, .int a5)]) (s2 := []) (v2 := w) rfl rfl (fun q41 => ?_) (fun q41 => ?_)
                  · replace q41 := of_decide_eq_true q41
                    refine sx_RP.step (pc2 := 107) (ls2 := [(0, .ref 111), (1, .int (nI x2)), (2, .int a2), (3, .int (nI x10)), (4, .int a4), (5, .int a5)]) (st2 := [.ref 111]) (w3 := w) rfl rfl ?_
                    refine sx_RP.step (pc2 := 108) (ls2 := [(0, .ref 111), (1, .int (nI x2)), (2, .int a2), (3, .int (nI x10)), (4, .int a4), (5, .int a5)]) (st2 := [.int 0, .ref 111]) (w3 := w) rfl rfl ?_
                    refine sx_RP.callp (as2 := [.ref 111, .int 0]) (rest2 := []) rfl rfl (sx_inv_v2 (mi := 234) (k := 70) (st := [.int 0, .ref 111]) (w := w) rfl rfl hI.1.o111 rfl rfl rfl) rfl rfl rfl (S133_0 hI) (show _ = 111 from rfl) ?_
                    rintro r4 w43 ⟨rfl, hI44, hs42⟩
                    show sx_RP _ _ _ _ _ [.int (-1000000001)] _ _
                    refine sx_RP.ret (r := (some (.int (-1000000001)))) rfl rfl ?_
                    exact ⟨⟨by rw [cp_4 (g := FMs w) (show x2 < 4 by omega) (show x10 < 4 by omega) (FMs_at (by omega) ex25) (FMs_at (by omega) ex28) q17 q21 q22 (fun z => ((run_iff2 (by omega)).mp z.1).2.2 q41)], by rw [cpR_n (cp_4 (g := FMs w) (show x2 < 4 by omega) (show x10 < 4 by omega) (FMs_at (by omega) ex25) (FMs_at (by omega) ex28) q17 q21 q22 (fun z => ((run_iff2 (by omega)).mp z.1).2.2 q41)) (by decide)]; exact NMs_eq (hs42 124 (by decide)), FMs_eq (hs42 122 (by decide)) (hs42 123 (by decide))⟩, hI44, fun a h1 h2 h3 => hs42 a h1⟩
                  · replace q41 := of_decide_eq_false q41
                    refine sx_RP.step (pc2 := 94) (ls2 := [(0, .ref 111), (1, .int (nI x2)), (2, .int a2), (3, .int (nI x10)), (4, .int a4), (5, .int a5)]) (st2 := [.int a4]) (w3 := w) rfl rfl ?_
                    refine sx_RP.step (pc2 := 95) (ls2 := [(0, .ref 111), (1, .int (nI x2)), (2, .int a2), (3, .int (nI x10)), (4, .int a4), (5, .int a5)]) (st2 := [.ref 111, .int a4]) (w3 := w) rfl rfl ?_
                    refine sx_RP.gf (v := .ref 123) rfl rfl hI.1.o111 rfl rfl (show _ = 98 from rfl) ?_
                    refine sx_RP.step (pc2 := 99) (ls2 := [(0, .ref 111), (1, .int (nI x2)), (2, .int a2), (3, .int (nI x10)), (4, .int a4), (5, .int a5)]) (st2 := [.int (nI x10), .ref 123, .int a4]) (w3 := w) rfl rfl ?_
                    refine sx_RP.ild (c := x10) rfl hI.1.a123.1 hI.1.a123.2 (sx_in_nI (show x10 < 4 by omega) (by decide)) (show (nI x10).toNatClampNeg = x10 from nI_clamp (by omega)) (show _ = 100 from rfl) ?_
                    rw [ex28]
                    refine sx_RP.step (pc2 := 102) (ls2 := [(0, .ref 111), (1, .int (nI x2)), (2, .int a2), (3, .int (nI x10)), (4, .int a4), (5, .int a5)]) (st2 := [.int a5, .int (nI x26), .int a4]) (w3 := w) rfl rfl ?_
                    refine sx_RP.step (pc2 := 103) (ls2 := [(0, .ref 111), (1, .int (nI x2)), (2, .int a2), (3, .int (nI x10)), (4, .int a4), (5, .int a5)]) (st2 := [.int ((nI x26) - a5), .int a4]) (w3 := w) rfl rfl ?_
                    refine sx_RP.br (p1 := 112) (l1 := [(0, .ref 111), (1, .int (nI x2)), (2, .int a2), (3, .int (nI x10)), (4, .int a4), (5, .int a5)]) (s1 := []) (v1 := w) (p2 := 106) (l2 := [(0, .ref 111), (1, .int (nI x2)), (2, .int a2), (3, .int (nI x10)), (4, .int a4), (5, .int a5)]) (s2 := []) (v2 := w) rfl rfl (fun q45 => ?_) (fun q45 => ?_)
                    · replace q45 := of_decide_eq_true q45
                      refine sx_RP.step (pc2 := 113) (ls2 := [(0, .ref 111), (1, .int (nI x2)), (2, .int a2), (3, .int (nI x10)), (4, .int a4), (5, .int a5)]) (st2 := [.int 0]) (w3 := w) rfl rfl ?_
                      refine sx_RP.step (pc2 := 115) (ls2 := [(6, .int 0), (0, .ref 111), (1, .int (nI x2)), (2, .int a2), (3, .int (nI x10)), (4, .int a4), (5, .int a5)]) (st2 := []) (w3 := w) rfl rfl ?_
                      have hr54 : runB (nI x23) a2 a5 = true := (run_iff2 (by omega)).mpr ⟨q29, q33, q41⟩
                      have hr55 : runB (nI x26) a4 a5 = true := (run_iff2 (by omega)).mpr ⟨q29, q37, Int32.not_lt.mpr q45⟩
                      have ea56 := cp_5 (g := FMs w) (show x2 < 4 by omega) (show x10 < 4 by omega) (FMs_at (by omega) ex25) (FMs_at (by omega) ex28) q17 q21 q22 hr54 hr55
                      obtain ⟨x46, x47, rfl, rfl, hx48⟩ := cop_of (by omega) q33 q29 q41
                      obtain ⟨x49, x50, rfl, ex51, hx52⟩ := cop_of (by omega) q37 q29 (Int32.not_lt.mpr q45)
                      have ex53 := (nI_eq (a := x47) (b := x50) (by omega) (by omega)).mp ex51
                      refine sx_RP.ls (sx_lr.cons rfl (sx_lr.cons rfl (sx_lr.cons rfl (sx_lr.cons rfl (sx_lr.cons rfl (sx_lr.cons rfl (sx_lr.cons rfl sx_lr.nil))))))) ((X234a (show x2 < 4 by omega) (show x10 < 4 by omega) (show x46 + x47 ≤ 40 by omega) (show x49 + x47 ≤ 40 by omega) x47 0 w (by omega) hI (fun i hi => absurd hi (by omega))).mono9 (fun r w2 z => ⟨⟨by rw [z.1.1, ea56], ?_, FMs_eq (z.2.2 122 (by decide) (by decide)) (z.2.2 123 (by decide) (by decide))⟩, z.2.1, fun a h1 h2 h3 => z.2.2 a h2 h3⟩))
                      rw [cpR_y ea56 (by omega) (by omega) (by omega) (by omega)]
                      exact NMs_cp (by omega) (by omega) (by omega) (by omega) z.1.2
                    · replace q45 := of_decide_eq_false q45
                      refine sx_RP.step (pc2 := 107) (ls2 := [(0, .ref 111), (1, .int (nI x2)), (2, .int a2), (3, .int (nI x10)), (4, .int a4), (5, .int a5)]) (st2 := [.ref 111]) (w3 := w) rfl rfl ?_
                      refine sx_RP.step (pc2 := 108) (ls2 := [(0, .ref 111), (1, .int (nI x2)), (2, .int a2), (3, .int (nI x10)), (4, .int a4), (5, .int a5)]) (st2 := [.int 0, .ref 111]) (w3 := w) rfl rfl ?_
                      refine sx_RP.callp (as2 := [.ref 111, .int 0]) (rest2 := []) rfl rfl (sx_inv_v2 (mi := 234) (k := 70) (st := [.int 0, .ref 111]) (w := w) rfl rfl hI.1.o111 rfl rfl rfl) rfl rfl rfl (S133_0 hI) (show _ = 111 from rfl) ?_
                      rintro r4 w58 ⟨rfl, hI59, hs57⟩
                      show sx_RP _ _ _ _ _ [.int (-1000000001)] _ _
                      refine sx_RP.ret (r := (some (.int (-1000000001)))) rfl rfl ?_
                      exact ⟨⟨by rw [cp_4 (g := FMs w) (show x2 < 4 by omega) (show x10 < 4 by omega) (FMs_at (by omega) ex25) (FMs_at (by omega) ex28) q17 q21 q22 (fun z => ((run_iff2 (by omega)).mp z.2).2.2 (Int32.not_le.mp q45))], by rw [cpR_n (cp_4 (g := FMs w) (show x2 < 4 by omega) (show x10 < 4 by omega) (FMs_at (by omega) ex25) (FMs_at (by omega) ex28) q17 q21 q22 (fun z => ((run_iff2 (by omega)).mp z.2).2.2 (Int32.not_le.mp q45))) (by decide)]; exact NMs_eq (hs57 124 (by decide)), FMs_eq (hs57 122 (by decide)) (hs57 123 (by decide))⟩, hI59, fun a h1 h2 h3 => hs57 a h1⟩
          · replace q22 := of_decide_eq_false q22
            refine sx_RP.step (pc2 := 60) (ls2 := [(0, .ref 111), (1, .int (nI x2)), (2, .int a2), (3, .int (nI x10)), (4, .int a4), (5, .int a5)]) (st2 := [.ref 111]) (w3 := w) rfl rfl ?_
            refine sx_RP.step (pc2 := 61) (ls2 := [(0, .ref 111), (1, .int (nI x2)), (2, .int a2), (3, .int (nI x10)), (4, .int a4), (5, .int a5)]) (st2 := [.int 2, .ref 111]) (w3 := w) rfl rfl ?_
            refine sx_RP.callp (as2 := [.ref 111, .int 2]) (rest2 := []) rfl rfl (sx_inv_v2 (mi := 234) (k := 70) (st := [.int 2, .ref 111]) (w := w) rfl rfl hI.1.o111 rfl rfl rfl) rfl rfl rfl (S133_2 hI) (show _ = 64 from rfl) ?_
            rintro r4 w61 ⟨rfl, hI62, hs60⟩
            show sx_RP _ _ _ _ _ [.int (-1000000003)] _ _
            refine sx_RP.ret (r := (some (.int (-1000000003)))) rfl rfl ?_
            exact ⟨⟨by rw [cp_3 (g := FMs w) (show x2 < 4 by omega) (show x10 < 4 by omega) (FMs_at0 (by omega)) (FMs_at0 (by omega)) q17 q21 q22], by rw [cpR_n (cp_3 (g := FMs w) (show x2 < 4 by omega) (show x10 < 4 by omega) (FMs_at0 (by omega)) (FMs_at0 (by omega)) q17 q21 q22) (by decide)]; exact NMs_eq (hs60 124 (by decide)), FMs_eq (hs60 122 (by decide)) (hs60 123 (by decide))⟩, hI62, fun a h1 h2 h3 => hs60 a h1⟩
        · replace q21 := Decidable.not_not.mp (of_decide_eq_false q21)
          refine sx_RP.step (pc2 := 39) (ls2 := [(0, .ref 111), (1, .int (nI x2)), (2, .int a2), (3, .int (nI x10)), (4, .int a4), (5, .int a5)]) (st2 := [.ref 111]) (w3 := w) rfl rfl ?_
          refine sx_RP.step (pc2 := 40) (ls2 := [(0, .ref 111), (1, .int (nI x2)), (2, .int a2), (3, .int (nI x10)), (4, .int a4), (5, .int a5)]) (st2 := [.int 5, .ref 111]) (w3 := w) rfl rfl ?_
          refine sx_RP.callp (as2 := [.ref 111, .int 5]) (rest2 := []) rfl rfl (sx_inv_v2 (mi := 234) (k := 70) (st := [.int 5, .ref 111]) (w := w) rfl rfl hI.1.o111 rfl rfl rfl) rfl rfl rfl (S133_5 hI) (show _ = 43 from rfl) ?_
          rintro r4 w64 ⟨rfl, hI65, hs63⟩
          show sx_RP _ _ _ _ _ [.int (-1000000006)] _ _
          refine sx_RP.ret (r := (some (.int (-1000000006)))) rfl rfl ?_
          exact ⟨⟨by rw [cp_2 (g := FMs w) (show x2 < 4 by omega) (show x10 < 4 by omega) (FMs_at0 (by omega)) (FMs_at0 (by omega)) (Or.inr q21)], by rw [cpR_n (cp_2 (g := FMs w) (show x2 < 4 by omega) (show x10 < 4 by omega) (FMs_at0 (by omega)) (FMs_at0 (by omega)) (Or.inr q21)) (by decide)]; exact NMs_eq (hs63 124 (by decide)), FMs_eq (hs63 122 (by decide)) (hs63 123 (by decide))⟩, hI65, fun a h1 h2 h3 => hs63 a h1⟩
