-- answers: as
theorem t160 : ∀ k, k < 6 → ∀ o, o < 6 → o ≠ 1 → frI 120 160 [.int (nI k), .int (nI o)] (b01 (unB k o)) = true := by decide +kernel
theorem b01_r160 (b : Bool) : sx_ret 160 .ireturn [.int (b01 b)] = some (some (.int (b01 b))) := by cases b <;> rfl
def asA (l : List Int32) (a1 a2 : Int32) : Int32 := if (0 ≤ a1 ∧ a1 < l.getD 1 0) ∧ (0 ≤ a2 ∧ a2 ≤ 5) then (if unB (iN (gF l (iN a1) 0)) (iN a2) = true then gF l (iN a1) 2 else -1000000003) else -1000000001
theorem asA_1 {l : List Int32} {a1 a2 : Int32} {n : Nat} (en : l.getD 1 0 = nI n) (h : ¬ ((0 ≤ a1 ∧ a1 < nI n) ∧ (0 ≤ a2 ∧ a2 ≤ 5))) : asA l a1 a2 = -1000000001 := by
  unfold asA
  rw [en, if_neg h]
theorem asA_0 {l : List Int32} {n x k o : Nat} (en : l.getD 1 0 = nI n) (hx : x < 2 ^ 31) (h : 0 ≤ nI x ∧ nI x < nI n) (hk : k ≤ 5) (ho : o ≤ 5) (ek : gF l x 0 = nI k) : asA l (nI x) (nI o) = if unB k o = true then gF l x 2 else -1000000003 := by
  unfold asA
  rw [en, if_pos ⟨h, nI_le (a := 0) (Nat.zero_le _) (by omega), nI_le (b := 5) (by omega) (by decide)⟩, iN_n hx, ek, iN_n (by omega), iN_n (by omega)]
set_option maxRecDepth 20000 in
set_option maxHeartbeats 4000000 in
theorem x160_1 {xs : Option (List Int32)} {d : Nat} {w : List sx_C} (hI : WI w) {k : Nat} (hk : k < 6) : sx_RU xs (d + 1) 160 0 (lv_args 0 [.int (nI k), .int 1]) [] w (some (.int (b01 (prB k)))) w := by
  have h : sx_RP xs (d + 1) 160 0 (lv_args 0 [.int (nI k), .int 1]) [] w (fun r9 w2 => r9 = some (.int (b01 (prB k))) ∧ w2 = w) := by
    refine sx_RP.step (pc2 := 1) (ls2 := [(0, .int (nI k)), (1, .int 1)]) (st2 := [.int 1]) (w3 := w) rfl rfl ?_
    refine sx_RP.step (pc2 := 34) (ls2 := [(0, .int (nI k)), (1, .int 1)]) (st2 := []) (w3 := w) rfl rfl ?_
    refine sx_RP.step (pc2 := 35) (ls2 := [(0, .int (nI k)), (1, .int 1)]) (st2 := [.int (nI k)]) (w3 := w) rfl rfl ?_
    refine sx_RP.cu (as := [.int (nI k)]) (rest2 := []) (st3 := [.int (b01 (prB k))]) rfl rfl rfl rfl rfl (frI_ok (t145 k (by omega)) _ _ _) rfl ?_
    refine sx_RP.ret (r := (some (.int (b01 (prB k))))) rfl (b01_r160 _) ?_
    exact ⟨rfl, rfl⟩
  obtain ⟨r9, w2, h1, rfl, rfl⟩ := h
  exact h1
theorem x160 {xs : Option (List Int32)} {d : Nat} {w : List sx_C} (hI : WI w) {k o : Nat} (hk : k < 6) (ho : o < 6) : sx_RU xs (d + 1) 160 0 (lv_args 0 [.int (nI k), .int (nI o)]) [] w (some (.int (b01 (unB k o)))) w := by
  by_cases e : o = 1
  · subst e
    exact x160_1 hI hk
  · exact frI_ok (t160 k hk o ho e) _ _ _
set_option maxRecDepth 20000 in
set_option maxHeartbeats 4000000 in
theorem A30 {xs : Option (List Int32)} {d : Nat} {w : List sx_C} (hI : WI w) (l : List Int32) (hR : rel w 1 l) (a1 a2 : Int32) : sx_RP xs (d + 7) 30 0 (lv_args 0 [.ref 0, .int a1, .int a2]) [] w (fun r w2 => r = some (.int (asA l a1 a2)) ∧ WI w2) := by
  obtain ⟨n, hn, en⟩ := hR.n10 hI (Or.inl rfl)
  have en0 := hR.many.trans en
  refine sx_RP.step (pc2 := 1) (ls2 := [(0, .ref 0), (1, .int a1), (2, .int a2)]) (st2 := [.ref 0]) (w3 := w) rfl rfl ?_
  refine sx_RP.gf (v := .ref 1) rfl rfl hI.1.o0 rfl rfl (show _ = 4 from rfl) ?_
  refine sx_RP.step (pc2 := 5) (ls2 := [(0, .ref 0), (1, .int a1), (2, .int a2)]) (st2 := [.int a1, .ref 1]) (w3 := w) rfl rfl ?_
  rcases Decidable.em (0 ≤ a1 ∧ a1 < nI n) with c1 | c1
  · obtain ⟨x2, hx3, rfl⟩ := idx_get c1 (by omega)
    refine sx_RP.cu (as := [.ref 1, .int (nI x2)]) (rest2 := []) (st3 := [.int 1]) rfl rfl (sx_inv_v2 (mi := 30) (k := 120) (st := [.int (nI x2), .ref 1]) (w := w) rfl rfl (hI.1.oC (Or.inl rfl)) rfl rfl rfl) rfl rfl (p27y hI (Or.inl rfl) en0 hn c1) rfl ?_
    refine sx_RP.step (pc2 := 11) (ls2 := [(0, .ref 0), (1, .int (nI x2)), (2, .int a2)]) (st2 := []) (w3 := w) rfl rfl ?_
    refine sx_RP.step (pc2 := 12) (ls2 := [(0, .ref 0), (1, .int (nI x2)), (2, .int a2)]) (st2 := [.int a2]) (w3 := w) rfl rfl ?_
    rcases in_cases a2 0 5 (m := 0) (n := 5) rfl rfl (by decide) (by decide) with q4 | ⟨x5, hx6, hx7, rfl⟩
    · refine sx_RP.cu (as := [.int a2]) (rest2 := []) (st3 := [.int 0]) rfl rfl rfl rfl rfl (cx_22n q4) rfl ?_
      refine sx_RP.step (pc2 := 18) (ls2 := [(0, .ref 0), (1, .int (nI x2)), (2, .int a2)]) (st2 := []) (w3 := w) rfl rfl ?_
      refine sx_RP.step (pc2 := 19) (ls2 := [(0, .ref 0), (1, .int (nI x2)), (2, .int a2)]) (st2 := [.ref 0]) (w3 := w) rfl rfl ?_
      refine sx_RP.step (pc2 := 21) (ls2 := [(0, .ref 0), (1, .int (nI x2)), (2, .int a2)]) (st2 := [.int (-1000000001), .ref 0]) (w3 := w) rfl rfl ?_
      refine sx_RP.callp (as2 := [.ref 0, .int (-1000000001)]) (rest2 := []) rfl rfl (sx_inv_v2 (mi := 30) (k := 78) (st := [.int (-1000000001), .ref 0]) (w := w) rfl rfl hI.1.o0 rfl rfl rfl) rfl rfl rfl (S9_0 hI) (show _ = 24 from rfl) ?_
      rintro r4 w10 ⟨rfl, hI11, hs9⟩
      show sx_RP _ _ _ _ _ [.int (-1000000001)] _ _
      refine sx_RP.ret (r := (some (.int (-1000000001)))) rfl rfl ?_
      exact ⟨by rw [asA_1 en (fun z => q4 z.2)], hI11⟩
    · refine sx_RP.cu (as := [.int (nI x5)]) (rest2 := []) (st3 := [.int 1]) rfl rfl rfl rfl rfl (cx_22p ⟨nI_le (a := 0) hx6 (by omega), nI_le (b := 5) hx7 (by decide)⟩) rfl ?_
      refine sx_RP.step (pc2 := 25) (ls2 := [(0, .ref 0), (1, .int (nI x2)), (2, .int (nI x5))]) (st2 := []) (w3 := w) rfl rfl ?_
      refine sx_RP.step (pc2 := 26) (ls2 := [(0, .ref 0), (1, .int (nI x2)), (2, .int (nI x5))]) (st2 := [.ref 0]) (w3 := w) rfl rfl ?_
      refine sx_RP.gf (v := .ref 1) rfl rfl hI.1.o0 rfl rfl (show _ = 29 from rfl) ?_
      refine sx_RP.gref (k := 2) (b := 3) hI (Or.inl rfl) rfl rfl (by omega) (show _ = 32 from rfl) ?_
      refine sx_RP.step (pc2 := 33) (ls2 := [(0, .ref 0), (1, .int (nI x2)), (2, .int (nI x5))]) (st2 := [.int (nI x2), .ref 3]) (w3 := w) rfl rfl ?_
      refine sx_RP.ald (v := .ref (1 + 4 + x2)) rfl (hI.1.aG (Or.inl rfl)) rfl (grA_at (show x2 < 10 by omega)) (show _ = 34 from rfl) ?_
      refine sx_RP.step (pc2 := 35) (ls2 := [(3, .ref (1 + 4 + x2)), (0, .ref 0), (1, .int (nI x2)), (2, .int (nI x5))]) (st2 := []) (w3 := w) rfl rfl ?_
      refine sx_RP.step (pc2 := 36) (ls2 := [(3, .ref (1 + 4 + x2)), (0, .ref 0), (1, .int (nI x2)), (2, .int (nI x5))]) (st2 := [.ref (1 + 4 + x2)]) (w3 := w) rfl rfl ?_
      refine sx_RP.gg (k := 0) hI (gAd.of (Or.inl rfl) (show x2 < 10 by omega)) rfl rfl (by decide) (show _ = 39 from rfl) ?_
      obtain ⟨x12, hx13, ex14⟩ : inR (fi w (1 + 4 + x2) 0) 5 := hI.gk (k := 0) (gAd.of (Or.inl rfl) (show x2 < 10 by omega)) (by decide)
      rw [ex14]
      refine sx_RP.step (pc2 := 40) (ls2 := [(3, .ref (1 + 4 + x2)), (0, .ref 0), (1, .int (nI x2)), (2, .int (nI x5))]) (st2 := [.int (nI x5), .int (nI x12)]) (w3 := w) rfl rfl ?_
      rcases Bool.eq_false_or_eq_true (unB x12 x5) with c15 | c15
      · refine sx_RP.cu (as := [.int (nI x12), .int (nI x5)]) (rest2 := []) (st3 := [.int 1]) rfl rfl rfl rfl rfl ((by have z := frI_ok (t31 x12 (by omega) x5 (by omega)) xs (d + 6) w; rw [c15] at z; exact z)) rfl ?_
        refine sx_RP.step (pc2 := 53) (ls2 := [(3, .ref (1 + 4 + x2)), (0, .ref 0), (1, .int (nI x2)), (2, .int (nI x5))]) (st2 := []) (w3 := w) rfl rfl ?_
        refine sx_RP.step (pc2 := 54) (ls2 := [(3, .ref (1 + 4 + x2)), (0, .ref 0), (1, .int (nI x2)), (2, .int (nI x5))]) (st2 := [.ref (1 + 4 + x2)]) (w3 := w) rfl rfl ?_
        refine sx_RP.gg (k := 2) hI (gAd.of (Or.inl rfl) (show x2 < 10 by omega)) rfl rfl (by decide) (show _ = 57 from rfl) ?_
        obtain ⟨x16, hx17, ex18⟩ : inR (fi w (1 + 4 + x2) 2) 47 := hI.gk (k := 2) (gAd.of (Or.inl rfl) (show x2 < 10 by omega)) (by decide)
        rw [ex18]
        refine sx_RP.ret (r := (some (.int (nI x16)))) rfl rfl ?_
        exact ⟨by rw [asA_0 (k := x12) (o := x5) en (by omega) c1 (by omega) (by omega) ((hR.ga (i := x2) (k := 0) (by rw [en, iN_n (by omega)]; omega) (by decide)).symm.trans ex14), if_pos c15]; exact congrArg (fun v => some (Value.int v)) (ex18.symm.trans (hR.ga (i := x2) (k := 2) (by rw [en, iN_n (by omega)]; omega) (by decide))), hI⟩
      · refine sx_RP.cu (as := [.int (nI x12), .int (nI x5)]) (rest2 := []) (st3 := [.int 0]) rfl rfl rfl rfl rfl ((by have z := frI_ok (t31 x12 (by omega) x5 (by omega)) xs (d + 6) w; rw [c15] at z; exact z)) rfl ?_
        refine sx_RP.step (pc2 := 46) (ls2 := [(3, .ref (1 + 4 + x2)), (0, .ref 0), (1, .int (nI x2)), (2, .int (nI x5))]) (st2 := []) (w3 := w) rfl rfl ?_
        refine sx_RP.step (pc2 := 47) (ls2 := [(3, .ref (1 + 4 + x2)), (0, .ref 0), (1, .int (nI x2)), (2, .int (nI x5))]) (st2 := [.ref 0]) (w3 := w) rfl rfl ?_
        refine sx_RP.step (pc2 := 49) (ls2 := [(3, .ref (1 + 4 + x2)), (0, .ref 0), (1, .int (nI x2)), (2, .int (nI x5))]) (st2 := [.int (-1000000003), .ref 0]) (w3 := w) rfl rfl ?_
        refine sx_RP.callp (as2 := [.ref 0, .int (-1000000003)]) (rest2 := []) rfl rfl (sx_inv_v2 (mi := 30) (k := 78) (st := [.int (-1000000003), .ref 0]) (w := w) rfl rfl hI.1.o0 rfl rfl rfl) rfl rfl rfl (S9_2 hI) (show _ = 52 from rfl) ?_
        rintro r4 w20 ⟨rfl, hI21, hs19⟩
        show sx_RP _ _ _ _ _ [.int (-1000000003)] _ _
        refine sx_RP.ret (r := (some (.int (-1000000003)))) rfl rfl ?_
        exact ⟨by rw [asA_0 (k := x12) (o := x5) en (by omega) c1 (by omega) (by omega) ((hR.ga (i := x2) (k := 0) (by rw [en, iN_n (by omega)]; omega) (by decide)).symm.trans ex14), if_neg (by rw [c15]; decide)], hI21⟩
  · refine sx_RP.cu (as := [.ref 1, .int a1]) (rest2 := []) (st3 := [.int 0]) rfl rfl (sx_inv_v2 (mi := 30) (k := 120) (st := [.int a1, .ref 1]) (w := w) rfl rfl (hI.1.oC (Or.inl rfl)) rfl rfl rfl) rfl rfl (p27n hI (Or.inl rfl) en0 hn c1) rfl ?_
    refine sx_RP.step (pc2 := 18) (ls2 := [(0, .ref 0), (1, .int a1), (2, .int a2)]) (st2 := []) (w3 := w) rfl rfl ?_
    refine sx_RP.step (pc2 := 19) (ls2 := [(0, .ref 0), (1, .int a1), (2, .int a2)]) (st2 := [.ref 0]) (w3 := w) rfl rfl ?_
    refine sx_RP.step (pc2 := 21) (ls2 := [(0, .ref 0), (1, .int a1), (2, .int a2)]) (st2 := [.int (-1000000001), .ref 0]) (w3 := w) rfl rfl ?_
    refine sx_RP.callp (as2 := [.ref 0, .int (-1000000001)]) (rest2 := []) rfl rfl (sx_inv_v2 (mi := 30) (k := 78) (st := [.int (-1000000001), .ref 0]) (w := w) rfl rfl hI.1.o0 rfl rfl rfl) rfl rfl rfl (S9_0 hI) (show _ = 24 from rfl) ?_
    rintro r4 w23 ⟨rfl, hI24, hs22⟩
    show sx_RP _ _ _ _ _ [.int (-1000000001)] _ _
    refine sx_RP.ret (r := (some (.int (-1000000001)))) rfl rfl ?_
    exact ⟨by rw [asA_1 en (fun z => c1 z.1)], hI24⟩
set_option maxRecDepth 20000 in
set_option maxHeartbeats 4000000 in
theorem A159 {xs : Option (List Int32)} {d : Nat} {w : List sx_C} (hI : WI w) (a1 a2 : Int32) : sx_RP xs (d + 7) 159 0 (lv_args 0 [.ref 111, .int a1, .int a2]) [] w (fun r w2 => r = some (.int (asA (ia w 112) a1 a2)) ∧ WI w2) := by
  obtain ⟨n, hn, en⟩ := (hI.sA (a := 112) (by decide) 1 (by decide)).1 rfl
  refine sx_RP.step (pc2 := 1) (ls2 := [(0, .ref 111), (1, .int a1), (2, .int a2)]) (st2 := [.ref 111]) (w3 := w) rfl rfl ?_
  refine sx_RP.step (pc2 := 2) (ls2 := [(0, .ref 111), (1, .int a1), (2, .int a2)]) (st2 := [.int a1, .ref 111]) (w3 := w) rfl rfl ?_
  rcases Decidable.em (0 ≤ a1 ∧ a1 < nI n) with c1 | c1
  · obtain ⟨x2, hx3, rfl⟩ := idx_get c1 (by omega)
    refine sx_RP.cu (as := [.ref 111, .int (nI x2)]) (rest2 := []) (st3 := [.int 1]) rfl rfl (sx_inv_v2 (mi := 159) (k := 124) (st := [.int (nI x2), .ref 111]) (w := w) rfl rfl hI.1.o111 rfl rfl rfl) rfl rfl (p156y hI en hn c1) rfl ?_
    refine sx_RP.step (pc2 := 8) (ls2 := [(0, .ref 111), (1, .int (nI x2)), (2, .int a2)]) (st2 := []) (w3 := w) rfl rfl ?_
    refine sx_RP.step (pc2 := 9) (ls2 := [(0, .ref 111), (1, .int (nI x2)), (2, .int a2)]) (st2 := [.int a2]) (w3 := w) rfl rfl ?_
    rcases in_cases a2 0 5 (m := 0) (n := 5) rfl rfl (by decide) (by decide) with q4 | ⟨x5, hx6, hx7, rfl⟩
    · refine sx_RP.cu (as := [.int a2]) (rest2 := []) (st3 := [.int 0]) rfl rfl rfl rfl rfl (cx_151n q4) rfl ?_
      refine sx_RP.step (pc2 := 15) (ls2 := [(0, .ref 111), (1, .int (nI x2)), (2, .int a2)]) (st2 := []) (w3 := w) rfl rfl ?_
      refine sx_RP.step (pc2 := 16) (ls2 := [(0, .ref 111), (1, .int (nI x2)), (2, .int a2)]) (st2 := [.ref 111]) (w3 := w) rfl rfl ?_
      refine sx_RP.step (pc2 := 17) (ls2 := [(0, .ref 111), (1, .int (nI x2)), (2, .int a2)]) (st2 := [.int 0, .ref 111]) (w3 := w) rfl rfl ?_
      refine sx_RP.callp (as2 := [.ref 111, .int 0]) (rest2 := []) rfl rfl (sx_inv_v2 (mi := 159) (k := 70) (st := [.int 0, .ref 111]) (w := w) rfl rfl hI.1.o111 rfl rfl rfl) rfl rfl rfl (S133_0 hI) (show _ = 20 from rfl) ?_
      rintro r4 w10 ⟨rfl, hI11, hs9⟩
      show sx_RP _ _ _ _ _ [.int (-1000000001)] _ _
      refine sx_RP.ret (r := (some (.int (-1000000001)))) rfl rfl ?_
      exact ⟨by rw [asA_1 en (fun z => q4 z.2)], hI11⟩
    · refine sx_RP.cu (as := [.int (nI x5)]) (rest2 := []) (st3 := [.int 1]) rfl rfl rfl rfl rfl (cx_151p ⟨nI_le (a := 0) hx6 (by omega), nI_le (b := 5) hx7 (by decide)⟩) rfl ?_
      refine sx_RP.step (pc2 := 21) (ls2 := [(0, .ref 111), (1, .int (nI x2)), (2, .int (nI x5))]) (st2 := []) (w3 := w) rfl rfl ?_
      obtain ⟨k9, hk9, ek⟩ : inR ((ia w 112).getD (103 + 6 * x2 + 0) 0) 5 := (hI.s (103 + 6 * x2 + 0) (by omega)).2.2.2.1 (by omega)
      refine sx_RP.step (pc2 := 22) (ls2 := [(0, .ref 111), (1, .int (nI x2)), (2, .int (nI x5))]) (st2 := [.ref 111]) (w3 := w) rfl rfl ?_
      refine sx_RP.step (pc2 := 23) (ls2 := [(0, .ref 111), (1, .int (nI x2)), (2, .int (nI x5))]) (st2 := [.int (nI x2), .ref 111]) (w3 := w) rfl rfl ?_
      refine sx_RP.step (pc2 := 24) (ls2 := [(0, .ref 111), (1, .int (nI x2)), (2, .int (nI x5))]) (st2 := [.int 0, .int (nI x2), .ref 111]) (w3 := w) rfl rfl ?_
      refine sx_RP.cu (as := [.ref 111, .int (nI x2), .int 0]) (rest2 := []) (st3 := [.int (nI k9)]) rfl rfl (sx_inv_v2 (mi := 159) (k := 59) (st := [.int 0, .int (nI x2), .ref 111]) (w := w) rfl rfl hI.1.o111 rfl rfl rfl) rfl rfl (x138e hI (show x2 < 10 by omega) (show 0 < 6 by decide) ek) rfl ?_
      refine sx_RP.step (pc2 := 28) (ls2 := [(0, .ref 111), (1, .int (nI x2)), (2, .int (nI x5))]) (st2 := [.int (nI x5), .int (nI k9)]) (w3 := w) rfl rfl ?_
      rcases Bool.eq_false_or_eq_true (unB k9 x5) with c12 | c12
      · refine sx_RP.cu (as := [.int (nI k9), .int (nI x5)]) (rest2 := []) (st3 := [.int 1]) rfl rfl rfl rfl rfl ((by have z := x160 (xs := xs) (d := d + 5) hI (k := k9) (o := x5) (by omega) (by omega); rw [c12] at z; exact z)) rfl ?_
        refine sx_RP.step (pc2 := 34) (ls2 := [(0, .ref 111), (1, .int (nI x2)), (2, .int (nI x5))]) (st2 := []) (w3 := w) rfl rfl ?_
        refine sx_RP.step (pc2 := 35) (ls2 := [(0, .ref 111), (1, .int (nI x2)), (2, .int (nI x5))]) (st2 := [.ref 111]) (w3 := w) rfl rfl ?_
        refine sx_RP.step (pc2 := 36) (ls2 := [(0, .ref 111), (1, .int (nI x2)), (2, .int (nI x5))]) (st2 := [.int (nI x2), .ref 111]) (w3 := w) rfl rfl ?_
        refine sx_RP.step (pc2 := 37) (ls2 := [(0, .ref 111), (1, .int (nI x2)), (2, .int (nI x5))]) (st2 := [.int 2, .int (nI x2), .ref 111]) (w3 := w) rfl rfl ?_
        refine sx_RP.cu (as := [.ref 111, .int (nI x2), .int 2]) (rest2 := []) (st3 := [.int ((ia w 112).getD (103 + 6 * x2 + 2) 0)]) rfl rfl (sx_inv_v2 (mi := 159) (k := 59) (st := [.int 2, .int (nI x2), .ref 111]) (w := w) rfl rfl hI.1.o111 rfl rfl rfl) rfl rfl (x138 hI (show x2 < 10 by omega) (show 2 < 6 by decide)) rfl ?_
        refine sx_RP.step (pc2 := 48) (ls2 := [(0, .ref 111), (1, .int (nI x2)), (2, .int (nI x5))]) (st2 := [.int ((ia w 112).getD (103 + 6 * x2 + 2) 0)]) (w3 := w) rfl rfl ?_
        refine sx_RP.ret (r := (some (.int ((ia w 112).getD (103 + 6 * x2 + 2) 0)))) rfl rfl ?_
        exact ⟨by rw [asA_0 (k := k9) (o := x5) en (by omega) c1 (by omega) (by omega) ek, if_pos c12]; rfl, hI⟩
      · refine sx_RP.cu (as := [.int (nI k9), .int (nI x5)]) (rest2 := []) (st3 := [.int 0]) rfl rfl rfl rfl rfl ((by have z := x160 (xs := xs) (d := d + 5) hI (k := k9) (o := x5) (by omega) (by omega); rw [c12] at z; exact z)) rfl ?_
        refine sx_RP.step (pc2 := 43) (ls2 := [(0, .ref 111), (1, .int (nI x2)), (2, .int (nI x5))]) (st2 := []) (w3 := w) rfl rfl ?_
        refine sx_RP.step (pc2 := 44) (ls2 := [(0, .ref 111), (1, .int (nI x2)), (2, .int (nI x5))]) (st2 := [.ref 111]) (w3 := w) rfl rfl ?_
        refine sx_RP.step (pc2 := 45) (ls2 := [(0, .ref 111), (1, .int (nI x2)), (2, .int (nI x5))]) (st2 := [.int 2, .ref 111]) (w3 := w) rfl rfl ?_
        refine sx_RP.callp (as2 := [.ref 111, .int 2]) (rest2 := []) rfl rfl (sx_inv_v2 (mi := 159) (k := 70) (st := [.int 2, .ref 111]) (w := w) rfl rfl hI.1.o111 rfl rfl rfl) rfl rfl rfl (S133_2 hI) (show _ = 48 from rfl) ?_
        rintro r4 w14 ⟨rfl, hI15, hs13⟩
        show sx_RP _ _ _ _ _ [.int (-1000000003)] _ _
        refine sx_RP.ret (r := (some (.int (-1000000003)))) rfl rfl ?_
        exact ⟨by rw [asA_0 (k := k9) (o := x5) en (by omega) c1 (by omega) (by omega) ek, if_neg (by rw [c12]; decide)], hI15⟩
  · refine sx_RP.cu (as := [.ref 111, .int a1]) (rest2 := []) (st3 := [.int 0]) rfl rfl (sx_inv_v2 (mi := 159) (k := 124) (st := [.int a1, .ref 111]) (w := w) rfl rfl hI.1.o111 rfl rfl rfl) rfl rfl (p156n hI en hn c1) rfl ?_
    refine sx_RP.step (pc2 := 15) (ls2 := [(0, .ref 111), (1, .int a1), (2, .int a2)]) (st2 := []) (w3 := w) rfl rfl ?_
    refine sx_RP.step (pc2 := 16) (ls2 := [(0, .ref 111), (1, .int a1), (2, .int a2)]) (st2 := [.ref 111]) (w3 := w) rfl rfl ?_
    refine sx_RP.step (pc2 := 17) (ls2 := [(0, .ref 111), (1, .int a1), (2, .int a2)]) (st2 := [.int 0, .ref 111]) (w3 := w) rfl rfl ?_
    refine sx_RP.callp (as2 := [.ref 111, .int 0]) (rest2 := []) rfl rfl (sx_inv_v2 (mi := 159) (k := 70) (st := [.int 0, .ref 111]) (w := w) rfl rfl hI.1.o111 rfl rfl rfl) rfl rfl rfl (S133_0 hI) (show _ = 20 from rfl) ?_
    rintro r4 w17 ⟨rfl, hI18, hs16⟩
    show sx_RP _ _ _ _ _ [.int (-1000000001)] _ _
    refine sx_RP.ret (r := (some (.int (-1000000001)))) rfl rfl ?_
    exact ⟨by rw [asA_1 en (fun z => c1 z.1)], hI18⟩
theorem a30 {xs : Option (List Int32)} {d : Nat} {w : List sx_C} {s : ST} (hI : WI w) (hC : CLS w s) (a1 a2 : Int32) : sx_RP xs (d + 7) 30 0 (lv_args 0 [.ref 0, .int a1, .int a2]) [] w (fun r w2 => r = some (.int (asA s.1 a1 a2)) ∧ WI w2 ∧ CLS w2 (s) ∧ ∀ a, 111 ≤ a → w2[a]? = w[a]?) :=
  ((c30 (xs := xs) (d := d) hI hC a1 a2).and (A30 hI s.1 hC.1.1 a1 a2)).mono9 (fun r w2 z => ⟨z.2.1, z.1.2.1, z.1.2.2.1, z.1.2.2.2⟩)
theorem a159 {xs : Option (List Int32)} {d : Nat} {w : List sx_C} {s : ST} (hI : WI w) (hR : REF w s) (a1 a2 : Int32) : sx_RP xs (d + 7) 159 0 (lv_args 0 [.ref 111, .int a1, .int a2]) [] w (fun r w2 => r = some (.int (asA s.1 a1 a2)) ∧ WI w2 ∧ REF w2 (s) ∧ ∀ a, a < 111 → w2[a]? = w[a]?) := by
  refine ((r159 (xs := xs) (d := d) hI hR a1 a2).and (A159 hI a1 a2)).mono9 (fun r w2 z => ⟨?_, z.1.2.1, z.1.2.2.1, z.1.2.2.2⟩)
  rw [z.2.1, hR.1.1]
