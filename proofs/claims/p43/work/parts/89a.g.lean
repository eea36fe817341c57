-- 89a.actM.lean.txt
section
theorem in_lt {x : Int32} {n : Nat} (hn : n ≤ 10) : (0 ≤ x ∧ x ≤ nI n - 1) ↔ (0 ≤ x ∧ x < nI n) := by
  have e : (nI n - 1).toInt = (n : Int) - 1 := by
    rw [Int32.toInt_sub, nI_toInt (by omega), show (1 : Int32).toInt = 1 by decide, Int.bmod_def]
    split <;> omega
  rw [Int32.le_iff_toInt_le (x := x), Int32.lt_iff_toInt_lt (x := x), e, nI_toInt (by omega)]
  constructor <;> intro h <;> exact ⟨h.1, by omega⟩
section SXRE
variable {xs : Option (List Int32)} {d mi pc pc2 a idx p : Nat} {ls : sx_L} {r : List Value} {w w0 : List sx_C} {P : Option Value → List sx_C → Prop}
theorem sx_RP.xJ {k : Nat} {v : Int32} (hI : WI w) (hi : sx_ins mi pc = some (.putfield idx, 3)) (hq : sx_lk (sx_fl (sx_own mi)) idx = some (6, k, p)) (hk : k = 4 ∨ k = 11) (hf : sx_fin mi 6 k = true) (hv : inR v (if k = 4 then 1 else 120)) (hp : pc + 3 = pc2) (kk : ∀ w2, WI w2 → Same 111 w w2 → fi w2 111 k = v → (∀ j, j ≠ k → fi w2 111 j = fi w 111 j) → sx_RP xs d mi pc2 ls r w2 P) : sx_RP xs d mi pc ls (.int v :: .ref 111 :: r) w P := by
  have hw := hI.1.o111
  have q := hI.m
  have hfs : fs_ w 111 = [.ref 112, .ref 113, .ref 114, .ref 115, .int (fi w 111 4), .ref 116, .ref 117, .ref 118, .ref 119, .ref 120, .ref 121, .int (fi w 111 11), .int (fi w 111 12), .int (fi w 111 13), .int (fi w 111 14), .ref 122, .ref 123, .ref 124, .ref 125] := by unfold fs_; rw [hw]
  have hne : ∀ (fs : List Value) (j : Nat), fs_ w 111 = fs → j ≠ k → fi (w.set 111 (.inr (.inr (.inr (6, fs.set k (.int v)))))) 111 j = fi w 111 j := by
    intro fs j e hj
    unfold fi
    rw [fs_set hw, List.getElem?_set_ne (Ne.symm hj), e]
  rcases hk with rfl | rfl
  · rw [if_pos rfl] at hv
    exact sx_RP.pf hi hq hw (by rw [hf, show sx_okv (sx_ty 6 4) (.int v) = (v == 0 || v == 1) from rfl, inR.bo hv]; rfl) rfl rfl hp (kk _ (hI.set hw rfl (cOK.m ⟨hv, q.2⟩)) Same.set (by unfold fi; rw [fs_set hw]; rfl) (fun j hj => hne _ j hfs hj))
  · rw [if_neg (by decide)] at hv
    exact sx_RP.pf hi hq hw (by rw [hf]; rfl) rfl rfl hp (kk _ (hI.set hw rfl (cOK.m ⟨q.1, hv, q.2.2⟩)) Same.set (by unfold fi; rw [fs_set hw]; rfl) (fun j hj => hne _ j hfs hj))
end SXRE
theorem kept_01 {w : List sx_C} (hI : WI w) : fi w 111 4 = 0 ∨ fi w 111 4 = 1 := by
  obtain ⟨j, hj, e⟩ := hI.m.1
  rcases (show j = 0 ∨ j = 1 by omega) with rfl | rfl
  · exact Or.inl e
  · exact Or.inr e
theorem tapM_len {w : List sx_C} {n : Nat} (en : fi w 111 11 = nI n) (hn : n ≤ 120) : (FMb w).2.2.2.length = n := by
  show (tapM w).length = n
  unfold tapM
  rw [List.length_map, List.length_range, en, iN_n (by omega)]
theorem tapM_nil {w : List sx_C} (en : fi w 111 11 = 0) : tapM w = [] := by
  unfold tapM
  rw [en]
  rfl
set_option maxRecDepth 20000 in
set_option maxHeartbeats 4000000 in
theorem p156y {xs : Option (List Int32)} {d n : Nat} {w : List sx_C} (hI : WI w) (en : (ia w 112).getD 1 0 = nI n) (hn : n ≤ 10) {x : Int32} (hh : 0 ≤ x ∧ x < nI n) : sx_RU xs (d + 1) 156 0 (lv_args 0 [.ref 111, .int x]) [] w (some (.int 1)) w := by
  have h : sx_RP xs (d + 1) 156 0 (lv_args 0 [.ref 111, .int x]) [] w (fun r w2 => r = some (.int 1) ∧ w2 = w) := by
    refine sx_RP.step (pc2 := 1) (ls2 := [(0, .ref 111), (1, .int x)]) (st2 := [.int x]) (w3 := w) rfl rfl ?_
    refine sx_RP.step (pc2 := 2) (ls2 := [(0, .ref 111), (1, .int x)]) (st2 := [.int 0, .int x]) (w3 := w) rfl rfl ?_
    refine sx_RP.step (pc2 := 3) (ls2 := [(0, .ref 111), (1, .int x)]) (st2 := [.ref 111, .int 0, .int x]) (w3 := w) rfl rfl ?_
    refine sx_RP.gf (v := .ref 112) rfl rfl hI.1.o111 rfl rfl (show _ = 6 from rfl) ?_
    refine sx_RP.step (pc2 := 7) (ls2 := [(0, .ref 111), (1, .int x)]) (st2 := [.int 1, .ref 112, .int 0, .int x]) (w3 := w) rfl rfl ?_
    refine sx_RP.ild (c := 1) rfl hI.1.a112.1 hI.1.a112.2 (sx_in_nI (show 1 < 172 by omega) (by decide)) (show (nI 1).toNatClampNeg = 1 from nI_clamp (by omega)) (show _ = 8 from rfl) ?_
    rw [en]
    refine sx_RP.step (pc2 := 9) (ls2 := [(0, .ref 111), (1, .int x)]) (st2 := [.int 1, .int (nI n), .int 0, .int x]) (w3 := w) rfl rfl ?_
    refine sx_RP.step (pc2 := 10) (ls2 := [(0, .ref 111), (1, .int x)]) (st2 := [.int ((nI n) - 1), .int 0, .int x]) (w3 := w) rfl rfl ?_
    refine sx_RP.cu (as := [.int x, .int 0, .int ((nI n) - 1)]) (rest2 := []) (st3 := [.int 1]) rfl rfl rfl rfl rfl (cx_132p ((in_lt (by omega)).mpr hh)) rfl ?_
    refine sx_RP.ret (r := (some (.int 1))) rfl rfl ?_
    exact ⟨rfl, rfl⟩
  obtain ⟨r, w2, h1, rfl, rfl⟩ := h
  exact h1
set_option maxRecDepth 20000 in
set_option maxHeartbeats 4000000 in
theorem p156n {xs : Option (List Int32)} {d n : Nat} {w : List sx_C} (hI : WI w) (en : (ia w 112).getD 1 0 = nI n) (hn : n ≤ 10) {x : Int32} (hh : ¬ (0 ≤ x ∧ x < nI n)) : sx_RU xs (d + 1) 156 0 (lv_args 0 [.ref 111, .int x]) [] w (some (.int 0)) w := by
  have h : sx_RP xs (d + 1) 156 0 (lv_args 0 [.ref 111, .int x]) [] w (fun r w2 => r = some (.int 0) ∧ w2 = w) := by
    refine sx_RP.step (pc2 := 1) (ls2 := [(0, .ref 111), (1, .int x)]) (st2 := [.int x]) (w3 := w) rfl rfl ?_
    refine sx_RP.step (pc2 := 2) (ls2 := [(0, .ref 111), (1, .int x)]) (st2 := [.int 0, .int x]) (w3 := w) rfl rfl ?_
    refine sx_RP.step (pc2 := 3) (ls2 := [(0, .ref 111), (1, .int x)]) (st2 := [.ref 111, .int 0, .int x]) (w3 := w) rfl rfl ?_
    refine sx_RP.gf (v := .ref 112) rfl rfl hI.1.o111 rfl rfl (show _ = 6 from rfl) ?_
    refine sx_RP.step (pc2 := 7) (ls2 := [(0, .ref 111), (1, .int x)]) (st2 := [.int 1, .ref 112, .int 0, .int x]) (w3 := w) rfl rfl ?_
    refine sx_RP.ild (c := 1) rfl hI.1.a112.1 hI.1.a112.2 (sx_in_nI (show 1 < 172 by omega) (by decide)) (show (nI 1).toNatClampNeg = 1 from nI_clamp (by omega)) (show _ = 8 from rfl) ?_
    rw [en]
    refine sx_RP.step (pc2 := 9) (ls2 := [(0, .ref 111), (1, .int x)]) (st2 := [.int 1, .int (nI n), .int 0, .int x]) (w3 := w) rfl rfl ?_
    refine sx_RP.step (pc2 := 10) (ls2 := [(0, .ref 111), (1, .int x)]) (st2 := [.int ((nI n) - 1), .int 0, .int x]) (w3 := w) rfl rfl ?_
    refine sx_RP.cu (as := [.int x, .int 0, .int ((nI n) - 1)]) (rest2 := []) (st3 := [.int 0]) rfl rfl rfl rfl rfl (cx_132o (fun z => hh ((in_lt (by omega)).mp z))) rfl ?_
    refine sx_RP.ret (r := (some (.int 0))) rfl rfl ?_
    exact ⟨rfl, rfl⟩
  obtain ⟨r, w2, h1, rfl, rfl⟩ := h
  exact h1
set_option maxRecDepth 20000 in
set_option maxHeartbeats 4000000 in
theorem p186y {xs : Option (List Int32)} {d n : Nat} {w : List sx_C} (hI : WI w) (en : (ia w 112).getD 2 0 = nI n) (hn : n ≤ 9) {x : Int32} (hh : 0 ≤ x ∧ x < nI n) : sx_RU xs (d + 1) 186 0 (lv_args 0 [.ref 111, .int x]) [] w (some (.int 1)) w := by
  have h : sx_RP xs (d + 1) 186 0 (lv_args 0 [.ref 111, .int x]) [] w (fun r w2 => r = some (.int 1) ∧ w2 = w) := by
    refine sx_RP.step (pc2 := 1) (ls2 := [(0, .ref 111), (1, .int x)]) (st2 := [.int x]) (w3 := w) rfl rfl ?_
    refine sx_RP.step (pc2 := 2) (ls2 := [(0, .ref 111), (1, .int x)]) (st2 := [.int 0, .int x]) (w3 := w) rfl rfl ?_
    refine sx_RP.step (pc2 := 3) (ls2 := [(0, .ref 111), (1, .int x)]) (st2 := [.ref 111, .int 0, .int x]) (w3 := w) rfl rfl ?_
    refine sx_RP.gf (v := .ref 112) rfl rfl hI.1.o111 rfl rfl (show _ = 6 from rfl) ?_
    refine sx_RP.step (pc2 := 7) (ls2 := [(0, .ref 111), (1, .int x)]) (st2 := [.int 2, .ref 112, .int 0, .int x]) (w3 := w) rfl rfl ?_
    refine sx_RP.ild (c := 2) rfl hI.1.a112.1 hI.1.a112.2 (sx_in_nI (show 2 < 172 by omega) (by decide)) (show (nI 2).toNatClampNeg = 2 from nI_clamp (by omega)) (show _ = 8 from rfl) ?_
    rw [en]
    refine sx_RP.step (pc2 := 9) (ls2 := [(0, .ref 111), (1, .int x)]) (st2 := [.int 1, .int (nI n), .int 0, .int x]) (w3 := w) rfl rfl ?_
    refine sx_RP.step (pc2 := 10) (ls2 := [(0, .ref 111), (1, .int x)]) (st2 := [.int ((nI n) - 1), .int 0, .int x]) (w3 := w) rfl rfl ?_
    refine sx_RP.cu (as := [.int x, .int 0, .int ((nI n) - 1)]) (rest2 := []) (st3 := [.int 1]) rfl rfl rfl rfl rfl (cx_132p ((in_lt (by omega)).mpr hh)) rfl ?_
    refine sx_RP.ret (r := (some (.int 1))) rfl rfl ?_
    exact ⟨rfl, rfl⟩
  obtain ⟨r, w2, h1, rfl, rfl⟩ := h
  exact h1
set_option maxRecDepth 20000 in
set_option maxHeartbeats 4000000 in
theorem p186n {xs : Option (List Int32)} {d n : Nat} {w : List sx_C} (hI : WI w) (en : (ia w 112).getD 2 0 = nI n) (hn : n ≤ 9) {x : Int32} (hh : ¬ (0 ≤ x ∧ x < nI n)) : sx_RU xs (d + 1) 186 0 (lv_args 0 [.ref 111, .int x]) [] w (some (.int 0)) w := by
  have h : sx_RP xs (d + 1) 186 0 (lv_args 0 [.ref 111, .int x]) [] w (fun r w2 => r = some (.int 0) ∧ w2 = w) := by
    refine sx_RP.step (pc2 := 1) (ls2 := [(0, .ref 111), (1, .int x)]) (st2 := [.int x]) (w3 := w) rfl rfl ?_
    refine sx_RP.step (pc2 := 2) (ls2 := [(0, .ref 111), (1, .int x)]) (st2 := [.int 0, .int x]) (w3 := w) rfl rfl ?_
    refine sx_RP.step (pc2 := 3) (ls2 := [(0, .ref 111), (1, .int x)]) (st2 := [.ref 111, .int 0, .int x]) (w3 := w) rfl rfl ?_
    refine sx_RP.gf (v := .ref 112) rfl rfl hI.1.o111 rfl rfl (show _ = 6 from rfl) ?_
    refine sx_RP.step (pc2 := 7) (ls2 := [(0, .ref 111), (1, .int x)]) (st2 := [.int 2, .ref 112, .int 0, .int x]) (w3 := w) rfl rfl ?_
    refine sx_RP.ild (c := 2) rfl hI.1.a112.1 hI.1.a112.2 (sx_in_nI (show 2 < 172 by omega) (by decide)) (show (nI 2).toNatClampNeg = 2 from nI_clamp (by omega)) (show _ = 8 from rfl) ?_
    rw [en]
    refine sx_RP.step (pc2 := 9) (ls2 := [(0, .ref 111), (1, .int x)]) (st2 := [.int 1, .int (nI n), .int 0, .int x]) (w3 := w) rfl rfl ?_
    refine sx_RP.step (pc2 := 10) (ls2 := [(0, .ref 111), (1, .int x)]) (st2 := [.int ((nI n) - 1), .int 0, .int x]) (w3 := w) rfl rfl ?_
    refine sx_RP.cu (as := [.int x, .int 0, .int ((nI n) - 1)]) (rest2 := []) (st3 := [.int 0]) rfl rfl rfl rfl rfl (cx_132o (fun z => hh ((in_lt (by omega)).mp z))) rfl ?_
    refine sx_RP.ret (r := (some (.int 0))) rfl rfl ?_
    exact ⟨rfl, rfl⟩
  obtain ⟨r, w2, h1, rfl, rfl⟩ := h
  exact h1
theorem addRow_1 {l : List Int32} {n : Nat} {k s c y : Int32} (hl : l.length = 172) : (addRow l n k s c y).getD 1 0 = nI (n + 1) := by
  unfold addRow
  rw [gd_ne (by omega), gd_ne (by omega), gd_ne (by omega), gd_ne (by omega), gd_ne (by omega), gd_ne (by omega), gd_eq (by omega)]
set_option maxRecDepth 20000 in
set_option maxHeartbeats 4000000 in
theorem B150 {xs : Option (List Int32)} {d : Nat} {w : List sx_C} (hI : WI w) (a1 a2 a3 a4 : Int32) : sx_RP xs (d + 7) 150 0 (lv_args 0 [.ref 111, .int a1, .int a2, .int a3, .int a4]) [] w (fun r w2 => (r = some (.int (galA (FMb w) a1 a2 a3 a4)) ∧ FMb w2 = galU (FMb w) a1 a2 a3 a4) ∧ WI w2 ∧ ∀ a, a < 111 → w2[a]? = w[a]?) := by
  obtain ⟨n, hn, en⟩ := (hI.sA (a := 112) (by decide) 1 (by decide)).1 rfl
  refine sx_RP.step (pc2 := 1) (ls2 := [(0, .ref 111), (1, .int a1), (2, .int a2), (3, .int a3), (4, .int a4)]) (st2 := [.int a1]) (w3 := w) rfl rfl ?_
  rcases in_cases a1 0 5 (m := 0) (n := 5) rfl rfl (by decide) (by decide) with q1 | ⟨x2, hx3, hx4, rfl⟩
  · refine sx_RP.cu (as := [.int a1]) (rest2 := []) (st3 := [.int 0]) rfl rfl rfl rfl rfl (cx_151n q1) rfl ?_
    refine sx_RP.step (pc2 := 31) (ls2 := [(0, .ref 111), (1, .int a1), (2, .int a2), (3, .int a3), (4, .int a4)]) (st2 := []) (w3 := w) rfl rfl ?_
    refine sx_RP.step (pc2 := 32) (ls2 := [(0, .ref 111), (1, .int a1), (2, .int a2), (3, .int a3), (4, .int a4)]) (st2 := [.ref 111]) (w3 := w) rfl rfl ?_
    refine sx_RP.step (pc2 := 33) (ls2 := [(0, .ref 111), (1, .int a1), (2, .int a2), (3, .int a3), (4, .int a4)]) (st2 := [.int 0, .ref 111]) (w3 := w) rfl rfl ?_
    refine sx_RP.callp (as2 := [.ref 111, .int 0]) (rest2 := []) rfl rfl (sx_inv_v2 (mi := 150) (k := 70) (st := [.int 0, .ref 111]) (w := w) rfl rfl hI.1.o111 rfl rfl rfl) rfl rfl rfl (K133_0 hI) (show _ = 36 from rfl) ?_
    rintro r4 w7 ⟨rfl, hI8, hE6⟩
    show sx_RP _ _ _ _ _ [.int (-1000000001)] _ _
    refine sx_RP.ret (r := (some (.int (-1000000001)))) rfl rfl ?_
    exact ⟨⟨by rw [(gal_1 (fun z => q1 z.1)).1], by rw [(gal_1 (fun z => q1 z.1)).2]; exact FMb_el hI hE6.el⟩, hI8, fun a ha => hE6.1 a (Or.inl (by omega))⟩
  · refine sx_RP.cu (as := [.int (nI x2)]) (rest2 := []) (st3 := [.int 1]) rfl rfl rfl rfl rfl (cx_151p ⟨nI_le (a := 0) hx3 (by omega), nI_le (b := 5) hx4 (by decide)⟩) rfl ?_
    refine sx_RP.step (pc2 := 7) (ls2 := [(0, .ref 111), (1, .int (nI x2)), (2, .int a2), (3, .int a3), (4, .int a4)]) (st2 := []) (w3 := w) rfl rfl ?_
    refine sx_RP.step (pc2 := 8) (ls2 := [(0, .ref 111), (1, .int (nI x2)), (2, .int a2), (3, .int a3), (4, .int a4)]) (st2 := [.int a2]) (w3 := w) rfl rfl ?_
    refine sx_RP.step (pc2 := 9) (ls2 := [(0, .ref 111), (1, .int (nI x2)), (2, .int a2), (3, .int a3), (4, .int a4)]) (st2 := [.int 0, .int a2]) (w3 := w) rfl rfl ?_
    refine sx_RP.step (pc2 := 10) (ls2 := [(0, .ref 111), (1, .int (nI x2)), (2, .int a2), (3, .int a3), (4, .int a4)]) (st2 := [.int 1, .int 0, .int a2]) (w3 := w) rfl rfl ?_
    rcases in_cases a2 0 1 (m := 0) (n := 1) rfl rfl (by decide) (by decide) with q9 | ⟨x10, hx11, hx12, rfl⟩
    · refine sx_RP.cu (as := [.int a2, .int 0, .int 1]) (rest2 := []) (st3 := [.int 0]) rfl rfl rfl rfl rfl (cx_132o q9) rfl ?_
      refine sx_RP.step (pc2 := 31) (ls2 := [(0, .ref 111), (1, .int (nI x2)), (2, .int a2), (3, .int a3), (4, .int a4)]) (st2 := []) (w3 := w) rfl rfl ?_
      refine sx_RP.step (pc2 := 32) (ls2 := [(0, .ref 111), (1, .int (nI x2)), (2, .int a2), (3, .int a3), (4, .int a4)]) (st2 := [.ref 111]) (w3 := w) rfl rfl ?_
      refine sx_RP.step (pc2 := 33) (ls2 := [(0, .ref 111), (1, .int (nI x2)), (2, .int a2), (3, .int a3), (4, .int a4)]) (st2 := [.int 0, .ref 111]) (w3 := w) rfl rfl ?_
      refine sx_RP.callp (as2 := [.ref 111, .int 0]) (rest2 := []) rfl rfl (sx_inv_v2 (mi := 150) (k := 70) (st := [.int 0, .ref 111]) (w := w) rfl rfl hI.1.o111 rfl rfl rfl) rfl rfl rfl (K133_0 hI) (show _ = 36 from rfl) ?_
      rintro r4 w15 ⟨rfl, hI16, hE14⟩
      show sx_RP _ _ _ _ _ [.int (-1000000001)] _ _
      refine sx_RP.ret (r := (some (.int (-1000000001)))) rfl rfl ?_
      exact ⟨⟨by rw [(gal_1 (fun z => q9 z.2.1)).1], by rw [(gal_1 (fun z => q9 z.2.1)).2]; exact FMb_el hI hE14.el⟩, hI16, fun a ha => hE14.1 a (Or.inl (by omega))⟩
    · refine sx_RP.cu (as := [.int (nI x10), .int 0, .int 1]) (rest2 := []) (st3 := [.int 1]) rfl rfl rfl rfl rfl (cx_132p ⟨nI_le (a := 0) hx11 (by omega), nI_le (b := 1) hx12 (by decide)⟩) rfl ?_
      refine sx_RP.step (pc2 := 16) (ls2 := [(0, .ref 111), (1, .int (nI x2)), (2, .int (nI x10)), (3, .int a3), (4, .int a4)]) (st2 := []) (w3 := w) rfl rfl ?_
      refine sx_RP.step (pc2 := 17) (ls2 := [(0, .ref 111), (1, .int (nI x2)), (2, .int (nI x10)), (3, .int a3), (4, .int a4)]) (st2 := [.int a3]) (w3 := w) rfl rfl ?_
      rcases in_cases a3 0 47 (m := 0) (n := 47) rfl rfl (by decide) (by decide) with q17 | ⟨x18, hx19, hx20, rfl⟩
      · refine sx_RP.cu (as := [.int a3]) (rest2 := []) (st3 := [.int 0]) rfl rfl rfl rfl rfl (cx_131n q17) rfl ?_
        refine sx_RP.step (pc2 := 31) (ls2 := [(0, .ref 111), (1, .int (nI x2)), (2, .int (nI x10)), (3, .int a3), (4, .int a4)]) (st2 := []) (w3 := w) rfl rfl ?_
        refine sx_RP.step (pc2 := 32) (ls2 := [(0, .ref 111), (1, .int (nI x2)), (2, .int (nI x10)), (3, .int a3), (4, .int a4)]) (st2 := [.ref 111]) (w3 := w) rfl rfl ?_
        refine sx_RP.step (pc2 := 33) (ls2 := [(0, .ref 111), (1, .int (nI x2)), (2, .int (nI x10)), (3, .int a3), (4, .int a4)]) (st2 := [.int 0, .ref 111]) (w3 := w) rfl rfl ?_
        refine sx_RP.callp (as2 := [.ref 111, .int 0]) (rest2 := []) rfl rfl (sx_inv_v2 (mi := 150) (k := 70) (st := [.int 0, .ref 111]) (w := w) rfl rfl hI.1.o111 rfl rfl rfl) rfl rfl rfl (K133_0 hI) (show _ = 36 from rfl) ?_
        rintro r4 w23 ⟨rfl, hI24, hE22⟩
        show sx_RP _ _ _ _ _ [.int (-1000000001)] _ _
        refine sx_RP.ret (r := (some (.int (-1000000001)))) rfl rfl ?_
        exact ⟨⟨by rw [(gal_1 (fun z => q17 z.2.2.1)).1], by rw [(gal_1 (fun z => q17 z.2.2.1)).2]; exact FMb_el hI hE22.el⟩, hI24, fun a ha => hE22.1 a (Or.inl (by omega))⟩
      · refine sx_RP.cu (as := [.int (nI x18)]) (rest2 := []) (st3 := [.int 1]) rfl rfl rfl rfl rfl (cx_131p ⟨nI_le (a := 0) hx19 (by omega), nI_le (b := 47) hx20 (by decide)⟩) rfl ?_
        refine sx_RP.step (pc2 := 23) (ls2 := [(0, .ref 111), (1, .int (nI x2)), (2, .int (nI x10)), (3, .int (nI x18)), (4, .int a4)]) (st2 := []) (w3 := w) rfl rfl ?_
        refine sx_RP.step (pc2 := 25) (ls2 := [(0, .ref 111), (1, .int (nI x2)), (2, .int (nI x10)), (3, .int (nI x18)), (4, .int a4)]) (st2 := [.int a4]) (w3 := w) rfl rfl ?_
        rcases in_cases a4 0 3 (m := 0) (n := 3) rfl rfl (by decide) (by decide) with q25 | ⟨x26, hx27, hx28, rfl⟩
        · refine sx_RP.cu (as := [.int a4]) (rest2 := []) (st3 := [.int 0]) rfl rfl rfl rfl rfl (cx_152n q25) rfl ?_
          refine sx_RP.step (pc2 := 31) (ls2 := [(0, .ref 111), (1, .int (nI x2)), (2, .int (nI x10)), (3, .int (nI x18)), (4, .int a4)]) (st2 := []) (w3 := w) rfl rfl ?_
          refine sx_RP.step (pc2 := 32) (ls2 := [(0, .ref 111), (1, .int (nI x2)), (2, .int (nI x10)), (3, .int (nI x18)), (4, .int a4)]) (st2 := [.ref 111]) (w3 := w) rfl rfl ?_
          refine sx_RP.step (pc2 := 33) (ls2 := [(0, .ref 111), (1, .int (nI x2)), (2, .int (nI x10)), (3, .int (nI x18)), (4, .int a4)]) (st2 := [.int 0, .ref 111]) (w3 := w) rfl rfl ?_
          refine sx_RP.callp (as2 := [.ref 111, .int 0]) (rest2 := []) rfl rfl (sx_inv_v2 (mi := 150) (k := 70) (st := [.int 0, .ref 111]) (w := w) rfl rfl hI.1.o111 rfl rfl rfl) rfl rfl rfl (K133_0 hI) (show _ = 36 from rfl) ?_
          rintro r4 w31 ⟨rfl, hI32, hE30⟩
          show sx_RP _ _ _ _ _ [.int (-1000000001)] _ _
          refine sx_RP.ret (r := (some (.int (-1000000001)))) rfl rfl ?_
          exact ⟨⟨by rw [(gal_1 (fun z => q25 z.2.2.2)).1], by rw [(gal_1 (fun z => q25 z.2.2.2)).2]; exact FMb_el hI hE30.el⟩, hI32, fun a ha => hE30.1 a (Or.inl (by omega))⟩
        · refine sx_RP.cu (as := [.int (nI x26)]) (rest2 := []) (st3 := [.int 1]) rfl rfl rfl rfl rfl (cx_152p ⟨nI_le (a := 0) hx27 (by omega), nI_le (b := 3) hx28 (by decide)⟩) rfl ?_
          refine sx_RP.step (pc2 := 37) (ls2 := [(0, .ref 111), (1, .int (nI x2)), (2, .int (nI x10)), (3, .int (nI x18)), (4, .int (nI x26))]) (st2 := []) (w3 := w) rfl rfl ?_
          refine sx_RP.step (pc2 := 38) (ls2 := [(0, .ref 111), (1, .int (nI x2)), (2, .int (nI x10)), (3, .int (nI x18)), (4, .int (nI x26))]) (st2 := [.ref 111]) (w3 := w) rfl rfl ?_
          refine sx_RP.gf (v := .ref 112) rfl rfl hI.1.o111 rfl rfl (show _ = 41 from rfl) ?_
          refine sx_RP.step (pc2 := 42) (ls2 := [(0, .ref 111), (1, .int (nI x2)), (2, .int (nI x10)), (3, .int (nI x18)), (4, .int (nI x26))]) (st2 := [.int 1, .ref 112]) (w3 := w) rfl rfl ?_
          refine sx_RP.ild (c := 1) rfl hI.1.a112.1 hI.1.a112.2 (sx_in_nI (show 1 < 172 by omega) (by decide)) (show (nI 1).toNatClampNeg = 1 from nI_clamp (by omega)) (show _ = 43 from rfl) ?_
          rw [en]
          refine sx_RP.step (pc2 := 45) (ls2 := [(0, .ref 111), (1, .int (nI x2)), (2, .int (nI x10)), (3, .int (nI x18)), (4, .int (nI x26))]) (st2 := [.int 10, .int (nI n)]) (w3 := w) rfl rfl ?_
          refine sx_RP.br (p1 := 54) (l1 := [(0, .ref 111), (1, .int (nI x2)), (2, .int (nI x10)), (3, .int (nI x18)), (4, .int (nI x26))]) (s1 := []) (v1 := w) (p2 := 48) (l2 := [(0, .ref 111), (1, .int (nI x2)), (2, .int (nI x10)), (3, .int (nI x18)), (4, .int (nI x26))]) (s2 := []) (v2 := w) rfl rfl (fun q33 => ?_) (fun q33 => ?_)
          · replace q33 := of_decide_eq_true q33
            replace q33 := mt (nI_eq (a := n) (b := 10) (by omega) (by omega)).mpr q33
            refine sx_RP.step (pc2 := 55) (ls2 := [(0, .ref 111), (1, .int (nI x2)), (2, .int (nI x10)), (3, .int (nI x18)), (4, .int (nI x26))]) (st2 := [.ref 111]) (w3 := w) rfl rfl ?_
            refine sx_RP.step (pc2 := 56) (ls2 := [(0, .ref 111), (1, .int (nI x2)), (2, .int (nI x10)), (3, .int (nI x18)), (4, .int (nI x26))]) (st2 := [.int (nI x2), .ref 111]) (w3 := w) rfl rfl ?_
            refine sx_RP.step (pc2 := 57) (ls2 := [(0, .ref 111), (1, .int (nI x2)), (2, .int (nI x10)), (3, .int (nI x18)), (4, .int (nI x26))]) (st2 := [.int (nI x10), .int (nI x2), .ref 111]) (w3 := w) rfl rfl ?_
            refine sx_RP.step (pc2 := 58) (ls2 := [(0, .ref 111), (1, .int (nI x2)), (2, .int (nI x10)), (3, .int (nI x18)), (4, .int (nI x26))]) (st2 := [.int (nI x18), .int (nI x10), .int (nI x2), .ref 111]) (w3 := w) rfl rfl ?_
            refine sx_RP.step (pc2 := 60) (ls2 := [(0, .ref 111), (1, .int (nI x2)), (2, .int (nI x10)), (3, .int (nI x18)), (4, .int (nI x26))]) (st2 := [.int (nI x26), .int (nI x18), .int (nI x10), .int (nI x2), .ref 111]) (w3 := w) rfl rfl ?_
            refine sx_RP.callp (as2 := [.ref 111, .int (nI x2), .int (nI x10), .int (nI x18), .int (nI x26)]) (rest2 := []) rfl rfl (sx_inv_v2 (mi := 150) (k := 120) (st := [.int (nI x26), .int (nI x18), .int (nI x10), .int (nI x2), .ref 111]) (w := w) rfl rfl hI.1.o111 rfl rfl rfl) rfl rfl rfl (X153 hI (by omega) en (show x2 ≤ 5 by omega) (show x10 ≤ 1 by omega) (show x18 < 48 by omega) (show x26 ≤ 3 by omega)) (show _ = 63 from rfl) ?_
            rintro r4 w36 ⟨⟨rfl, hc34⟩, hI37, hs35⟩
            show sx_RP _ _ _ _ _ [] _ _
            have ex38 : (ia w36 112).getD 1 0 = nI (n + 1) := by rw [hc34]; exact addRow_1 hI.1.a112.2
            refine sx_RP.step (pc2 := 64) (ls2 := [(0, .ref 111), (1, .int (nI x2)), (2, .int (nI x10)), (3, .int (nI x18)), (4, .int (nI x26))]) (st2 := [.ref 111]) (w3 := w36) rfl rfl ?_
            refine sx_RP.gf (v := .ref 112) rfl rfl hI37.1.o111 rfl rfl (show _ = 67 from rfl) ?_
            refine sx_RP.step (pc2 := 68) (ls2 := [(0, .ref 111), (1, .int (nI x2)), (2, .int (nI x10)), (3, .int (nI x18)), (4, .int (nI x26))]) (st2 := [.int 1, .ref 112]) (w3 := w36) rfl rfl ?_
            refine sx_RP.ild (c := 1) rfl hI37.1.a112.1 hI37.1.a112.2 (sx_in_nI (show 1 < 172 by omega) (by decide)) (show (nI 1).toNatClampNeg = 1 from nI_clamp (by omega)) (show _ = 69 from rfl) ?_
            rw [ex38]
            refine sx_RP.step (pc2 := 70) (ls2 := [(0, .ref 111), (1, .int (nI x2)), (2, .int (nI x10)), (3, .int (nI x18)), (4, .int (nI x26))]) (st2 := [.int 1, .int (nI (n + 1))]) (w3 := w36) rfl rfl ?_
            refine sx_RP.step (pc2 := 71) (ls2 := [(0, .ref 111), (1, .int (nI x2)), (2, .int (nI x10)), (3, .int (nI x18)), (4, .int (nI x26))]) (st2 := [.int ((nI (n + 1)) - 1)]) (w3 := w36) rfl rfl ?_
            rw [show ((nI (n + 1)) - 1 : Int32) = nI ((n + 1) - 1) from nI_sub (a := (n + 1)) (b := 1) (by omega)]
            refine sx_RP.ret (r := (some (.int (nI ((n + 1) - 1))))) rfl rfl ?_
            have hr := addRow_b (k := nI x2) (s := nI x10) (c := nI x18) (y := nI x26) hI.1.a112.2 en (by omega)
            exact ⟨⟨by rw [(gal_3 ⟨⟨nI_le (a := 0) (show 0 ≤ x2 by omega) (by omega), nI_le (b := 5) (show x2 ≤ 5 by omega) (by decide)⟩, ⟨nI_le (a := 0) (show 0 ≤ x10 by omega) (by omega), nI_le (b := 1) (show x10 ≤ 1 by omega) (by decide)⟩, ⟨nI_le (a := 0) (show 0 ≤ x18 by omega) (by omega), nI_le (b := 47) (show x18 ≤ 47 by omega) (by decide)⟩, ⟨nI_le (a := 0) (show 0 ≤ x26 by omega) (by omega), nI_le (b := 3) (show x26 ≤ 3 by omega) (by decide)⟩⟩ (by rw [FMb_len en hn]; omega)).1, FMb_len en hn, Nat.add_sub_cancel], by rw [(gal_3 ⟨⟨nI_le (a := 0) (show 0 ≤ x2 by omega) (by omega), nI_le (b := 5) (show x2 ≤ 5 by omega) (by decide)⟩, ⟨nI_le (a := 0) (show 0 ≤ x10 by omega) (by omega), nI_le (b := 1) (show x10 ≤ 1 by omega) (by decide)⟩, ⟨nI_le (a := 0) (show 0 ≤ x18 by omega) (by omega), nI_le (b := 47) (show x18 ≤ 47 by omega) (by decide)⟩, ⟨nI_le (a := 0) (show 0 ≤ x26 by omega) (by omega), nI_le (b := 3) (show x26 ≤ 3 by omega) (by decide)⟩⟩ (by rw [FMb_len en hn]; omega)).2, FMb_row hs35, hc34, hr]; rfl⟩, hI37, fun a ha => hs35 a (by omega)⟩
          · replace q33 := Decidable.not_not.mp (of_decide_eq_false q33)
            replace q33 := (nI_eq (a := n) (b := 10) (by omega) (by omega)).mp q33
            refine sx_RP.step (pc2 := 49) (ls2 := [(0, .ref 111), (1, .int (nI x2)), (2, .int (nI x10)), (3, .int (nI x18)), (4, .int (nI x26))]) (st2 := [.ref 111]) (w3 := w) rfl rfl ?_
            refine sx_RP.step (pc2 := 50) (ls2 := [(0, .ref 111), (1, .int (nI x2)), (2, .int (nI x10)), (3, .int (nI x18)), (4, .int (nI x26))]) (st2 := [.int 1, .ref 111]) (w3 := w) rfl rfl ?_
            refine sx_RP.callp (as2 := [.ref 111, .int 1]) (rest2 := []) rfl rfl (sx_inv_v2 (mi := 150) (k := 70) (st := [.int 1, .ref 111]) (w := w) rfl rfl hI.1.o111 rfl rfl rfl) rfl rfl rfl (K133_1 hI) (show _ = 53 from rfl) ?_
            rintro r4 w40 ⟨rfl, hI41, hE39⟩
            show sx_RP _ _ _ _ _ [.int (-1000000002)] _ _
            refine sx_RP.ret (r := (some (.int (-1000000002)))) rfl rfl ?_
            exact ⟨⟨by rw [(gal_2 ⟨⟨nI_le (a := 0) (show 0 ≤ x2 by omega) (by omega), nI_le (b := 5) (show x2 ≤ 5 by omega) (by decide)⟩, ⟨nI_le (a := 0) (show 0 ≤ x10 by omega) (by omega), nI_le (b := 1) (show x10 ≤ 1 by omega) (by decide)⟩, ⟨nI_le (a := 0) (show 0 ≤ x18 by omega) (by omega), nI_le (b := 47) (show x18 ≤ 47 by omega) (by decide)⟩, ⟨nI_le (a := 0) (show 0 ≤ x26 by omega) (by omega), nI_le (b := 3) (show x26 ≤ 3 by omega) (by decide)⟩⟩ (by rw [FMb_len en hn]; omega)).1], by rw [(gal_2 ⟨⟨nI_le (a := 0) (show 0 ≤ x2 by omega) (by omega), nI_le (b := 5) (show x2 ≤ 5 by omega) (by decide)⟩, ⟨nI_le (a := 0) (show 0 ≤ x10 by omega) (by omega), nI_le (b := 1) (show x10 ≤ 1 by omega) (by decide)⟩, ⟨nI_le (a := 0) (show 0 ≤ x18 by omega) (by omega), nI_le (b := 47) (show x18 ≤ 47 by omega) (by decide)⟩, ⟨nI_le (a := 0) (show 0 ≤ x26 by omega) (by omega), nI_le (b := 3) (show x26 ≤ 3 by omega) (by decide)⟩⟩ (by rw [FMb_len en hn]; omega)).2]; exact FMb_el hI hE39.el⟩, hI41, fun a ha => hE39.1 a (Or.inl (by omega))⟩
set_option maxRecDepth 20000 in
set_option maxHeartbeats 4000000 in
theorem B158 {xs : Option (List Int32)} {d : Nat} {w : List sx_C} (hI : WI w) (a1 a2 : Int32) : sx_RP xs (d + 7) 158 0 (lv_args 0 [.ref 111, .int a1, .int a2]) [] w (fun r w2 => (r = some (.int (becA (FMb w) a1 a2)) ∧ FMb w2 = becU (FMb w) a1 a2) ∧ WI w2 ∧ ∀ a, a < 111 → w2[a]? = w[a]?) := by
  obtain ⟨n, hn, en⟩ := (hI.sA (a := 112) (by decide) 1 (by decide)).1 rfl
  refine sx_RP.step (pc2 := 1) (ls2 := [(0, .ref 111), (1, .int a1), (2, .int a2)]) (st2 := [.ref 111]) (w3 := w) rfl rfl ?_
  refine sx_RP.step (pc2 := 2) (ls2 := [(0, .ref 111), (1, .int a1), (2, .int a2)]) (st2 := [.int a1, .ref 111]) (w3 := w) rfl rfl ?_
  rcases Decidable.em (0 ≤ a1 ∧ a1 < nI n) with c1 | c1
  · obtain ⟨x2, hx3, rfl⟩ := idx_get c1 (by omega)
    refine sx_RP.cu (as := [.ref 111, .int (nI x2)]) (rest2 := []) (st3 := [.int 1]) rfl rfl (sx_inv_v2 (mi := 158) (k := 124) (st := [.int (nI x2), .ref 111]) (w := w) rfl rfl hI.1.o111 rfl rfl rfl) rfl rfl (p156y hI en hn c1) rfl ?_
    refine sx_RP.step (pc2 := 8) (ls2 := [(0, .ref 111), (1, .int (nI x2)), (2, .int a2)]) (st2 := []) (w3 := w) rfl rfl ?_
    refine sx_RP.step (pc2 := 9) (ls2 := [(0, .ref 111), (1, .int (nI x2)), (2, .int a2)]) (st2 := [.int a2]) (w3 := w) rfl rfl ?_
    rcases in_cases a2 0 5 (m := 0) (n := 5) rfl rfl (by decide) (by decide) with q4 | ⟨x5, hx6, hx7, rfl⟩
    · refine sx_RP.cu (as := [.int a2]) (rest2 := []) (st3 := [.int 0]) rfl rfl rfl rfl rfl (cx_151n q4) rfl ?_
      refine sx_RP.step (pc2 := 25) (ls2 := [(0, .ref 111), (1, .int (nI x2)), (2, .int a2)]) (st2 := []) (w3 := w) rfl rfl ?_
      refine sx_RP.step (pc2 := 26) (ls2 := [(0, .ref 111), (1, .int (nI x2)), (2, .int a2)]) (st2 := [.ref 111]) (w3 := w) rfl rfl ?_
      refine sx_RP.step (pc2 := 27) (ls2 := [(0, .ref 111), (1, .int (nI x2)), (2, .int a2)]) (st2 := [.int 0, .ref 111]) (w3 := w) rfl rfl ?_
      refine sx_RP.callp (as2 := [.ref 111, .int 0]) (rest2 := []) rfl rfl (sx_inv_v2 (mi := 158) (k := 70) (st := [.int 0, .ref 111]) (w := w) rfl rfl hI.1.o111 rfl rfl rfl) rfl rfl rfl (K133_0 hI) (show _ = 30 from rfl) ?_
      rintro r4 w10 ⟨rfl, hI11, hE9⟩
      show sx_RP _ _ _ _ _ [.int (-1000000001)] _ _
      refine sx_RP.ret (r := (some (.int (-1000000001)))) rfl rfl ?_
      exact ⟨⟨by rw [(bec_1 (fun z => q4 z.2)).1], by rw [(bec_1 (fun z => q4 z.2)).2]; exact FMb_el hI hE9.el⟩, hI11, fun a ha => hE9.1 a (Or.inl (by omega))⟩
    · refine sx_RP.cu (as := [.int (nI x5)]) (rest2 := []) (st3 := [.int 1]) rfl rfl rfl rfl rfl (cx_151p ⟨nI_le (a := 0) hx6 (by omega), nI_le (b := 5) hx7 (by decide)⟩) rfl ?_
      refine sx_RP.step (pc2 := 15) (ls2 := [(0, .ref 111), (1, .int (nI x2)), (2, .int (nI x5))]) (st2 := []) (w3 := w) rfl rfl ?_
      refine sx_RP.step (pc2 := 16) (ls2 := [(0, .ref 111), (1, .int (nI x2)), (2, .int (nI x5))]) (st2 := [.ref 111]) (w3 := w) rfl rfl ?_
      refine sx_RP.step (pc2 := 17) (ls2 := [(0, .ref 111), (1, .int (nI x2)), (2, .int (nI x5))]) (st2 := [.int (nI x2), .ref 111]) (w3 := w) rfl rfl ?_
      refine sx_RP.step (pc2 := 18) (ls2 := [(0, .ref 111), (1, .int (nI x2)), (2, .int (nI x5))]) (st2 := [.int 0, .int (nI x2), .ref 111]) (w3 := w) rfl rfl ?_
      refine sx_RP.step (pc2 := 19) (ls2 := [(0, .ref 111), (1, .int (nI x2)), (2, .int (nI x5))]) (st2 := [.int (nI x5), .int 0, .int (nI x2), .ref 111]) (w3 := w) rfl rfl ?_
      refine sx_RP.callp (as2 := [.ref 111, .int (nI x2), .int 0, .int (nI x5)]) (rest2 := []) rfl rfl (sx_inv_v2 (mi := 158) (k := 110) (st := [.int (nI x5), .int 0, .int (nI x2), .ref 111]) (w := w) rfl rfl hI.1.o111 rfl rfl rfl) rfl rfl rfl (X154 (c := 0) hI (show x2 < 10 by omega) (by decide) (eOK_g (g := x2) (c := 0) (by omega) (by decide) (inR.n (show x5 ≤ 5 by omega)))) (show _ = 22 from rfl) ?_
      rintro r4 w14 ⟨⟨rfl, hv12⟩, hI15, hs13⟩
      show sx_RP _ _ _ _ _ [.int ((ia w 112).getD (103 + 6 * x2 + 0) 0)] _ _
      refine sx_RP.step (pc2 := 30) (ls2 := [(0, .ref 111), (1, .int (nI x2)), (2, .int (nI x5))]) (st2 := [.int ((ia w 112).getD (103 + 6 * x2 + 0) 0)]) (w3 := w14) rfl rfl ?_
      refine sx_RP.ret (r := (some (.int ((ia w 112).getD (103 + 6 * x2 + 0) 0)))) rfl rfl ?_
      exact ⟨⟨by rw [(bec_2 ⟨by rw [FMb_len en hn]; exact c1, ⟨nI_le (a := 0) (show 0 ≤ x5 by omega) (by omega), nI_le (b := 5) (show x5 ≤ 5 by omega) (by decide)⟩⟩).1, FMb_kind en hn hx3]; rfl, by rw [(bec_2 ⟨by rw [FMb_len en hn]; exact c1, ⟨nI_le (a := 0) (show 0 ≤ x5 by omega) (by omega), nI_le (b := 5) (show x5 ≤ 5 by omega) (by decide)⟩⟩).2, FMb_row hs13, hv12, rowB_setK hI.1.a112.2 en hn hx3, iN_n (show x2 < 2 ^ 31 by omega)]; rfl⟩, hI15, fun a ha => hs13 a (by omega)⟩
  · refine sx_RP.cu (as := [.ref 111, .int a1]) (rest2 := []) (st3 := [.int 0]) rfl rfl (sx_inv_v2 (mi := 158) (k := 124) (st := [.int a1, .ref 111]) (w := w) rfl rfl hI.1.o111 rfl rfl rfl) rfl rfl (p156n hI en hn c1) rfl ?_
    refine sx_RP.step (pc2 := 25) (ls2 := [(0, .ref 111), (1, .int a1), (2, .int a2)]) (st2 := []) (w3 := w) rfl rfl ?_
    refine sx_RP.step (pc2 := 26) (ls2 := [(0, .ref 111), (1, .int a1), (2, .int a2)]) (st2 := [.ref 111]) (w3 := w) rfl rfl ?_
    refine sx_RP.step (pc2 := 27) (ls2 := [(0, .ref 111), (1, .int a1), (2, .int a2)]) (st2 := [.int 0, .ref 111]) (w3 := w) rfl rfl ?_
    refine sx_RP.callp (as2 := [.ref 111, .int 0]) (rest2 := []) rfl rfl (sx_inv_v2 (mi := 158) (k := 70) (st := [.int 0, .ref 111]) (w := w) rfl rfl hI.1.o111 rfl rfl rfl) rfl rfl rfl (K133_0 hI) (show _ = 30 from rfl) ?_
    rintro r4 w17 ⟨rfl, hI18, hE16⟩
    show sx_RP _ _ _ _ _ [.int (-1000000001)] _ _
    refine sx_RP.ret (r := (some (.int (-1000000001)))) rfl rfl ?_
    exact ⟨⟨by rw [(bec_1 (fun z => c1 (by rw [← FMb_len en hn]; exact z.1))).1], by rw [(bec_1 (fun z => c1 (by rw [← FMb_len en hn]; exact z.1))).2]; exact FMb_el hI hE16.el⟩, hI18, fun a ha => hE16.1 a (Or.inl (by omega))⟩
set_option maxRecDepth 20000 in
set_option maxHeartbeats 4000000 in
theorem B184 {xs : Option (List Int32)} {d : Nat} {w : List sx_C} (hI : WI w) (a1 : Int32) : sx_RP xs (d + 7) 184 0 (lv_args 0 [.ref 111, .int a1]) [] w (fun r w2 => (r = some (.int (disA (FMb w) a1)) ∧ FMb w2 = disU (FMb w) a1) ∧ WI w2 ∧ ∀ a, a < 111 → w2[a]? = w[a]?) := by
  obtain ⟨n, hn, en⟩ := (hI.sA (a := 112) (by decide) 2 (by decide)).2.1 rfl
  refine sx_RP.step (pc2 := 1) (ls2 := [(0, .ref 111), (1, .int a1)]) (st2 := [.int a1]) (w3 := w) rfl rfl ?_
  rcases in_cases a1 0 47 (m := 0) (n := 47) rfl rfl (by decide) (by decide) with q1 | ⟨x2, hx3, hx4, rfl⟩
  · refine sx_RP.cu (as := [.int a1]) (rest2 := []) (st3 := [.int 0]) rfl rfl rfl rfl rfl (cx_131n q1) rfl ?_
    refine sx_RP.step (pc2 := 7) (ls2 := [(0, .ref 111), (1, .int a1)]) (st2 := []) (w3 := w) rfl rfl ?_
    refine sx_RP.step (pc2 := 8) (ls2 := [(0, .ref 111), (1, .int a1)]) (st2 := [.ref 111]) (w3 := w) rfl rfl ?_
    refine sx_RP.step (pc2 := 9) (ls2 := [(0, .ref 111), (1, .int a1)]) (st2 := [.int 0, .ref 111]) (w3 := w) rfl rfl ?_
    refine sx_RP.callp (as2 := [.ref 111, .int 0]) (rest2 := []) rfl rfl (sx_inv_v2 (mi := 184) (k := 70) (st := [.int 0, .ref 111]) (w := w) rfl rfl hI.1.o111 rfl rfl rfl) rfl rfl rfl (K133_0 hI) (show _ = 12 from rfl) ?_
    rintro r4 w7 ⟨rfl, hI8, hE6⟩
    show sx_RP _ _ _ _ _ [.int (-1000000001)] _ _
    refine sx_RP.ret (r := (some (.int (-1000000001)))) rfl rfl ?_
    exact ⟨⟨by rw [(dis_1 q1).1], by rw [(dis_1 q1).2]; exact FMb_el hI hE6.el⟩, hI8, fun a ha => hE6.1 a (Or.inl (by omega))⟩
  · refine sx_RP.cu (as := [.int (nI x2)]) (rest2 := []) (st3 := [.int 1]) rfl rfl rfl rfl rfl (cx_131p ⟨nI_le (a := 0) hx3 (by omega), nI_le (b := 47) hx4 (by decide)⟩) rfl ?_
    refine sx_RP.step (pc2 := 13) (ls2 := [(0, .ref 111), (1, .int (nI x2))]) (st2 := []) (w3 := w) rfl rfl ?_
    refine sx_RP.step (pc2 := 14) (ls2 := [(0, .ref 111), (1, .int (nI x2))]) (st2 := [.ref 111]) (w3 := w) rfl rfl ?_
    refine sx_RP.gf (v := .ref 112) rfl rfl hI.1.o111 rfl rfl (show _ = 17 from rfl) ?_
    refine sx_RP.step (pc2 := 18) (ls2 := [(0, .ref 111), (1, .int (nI x2))]) (st2 := [.int 2, .ref 112]) (w3 := w) rfl rfl ?_
    refine sx_RP.ild (c := 2) rfl hI.1.a112.1 hI.1.a112.2 (sx_in_nI (show 2 < 172 by omega) (by decide)) (show (nI 2).toNatClampNeg = 2 from nI_clamp (by omega)) (show _ = 19 from rfl) ?_
    rw [en]
    refine sx_RP.step (pc2 := 21) (ls2 := [(0, .ref 111), (1, .int (nI x2))]) (st2 := [.int 9, .int (nI n)]) (w3 := w) rfl rfl ?_
    refine sx_RP.br (p1 := 30) (l1 := [(0, .ref 111), (1, .int (nI x2))]) (s1 := []) (v1 := w) (p2 := 24) (l2 := [(0, .ref 111), (1, .int (nI x2))]) (s2 := []) (v2 := w) rfl rfl (fun q9 => ?_) (fun q9 => ?_)
    · replace q9 := of_decide_eq_true q9
      replace q9 := mt (nI_eq (a := n) (b := 9) (by omega) (by omega)).mpr q9
      refine sx_RP.step (pc2 := 31) (ls2 := [(0, .ref 111), (1, .int (nI x2))]) (st2 := [.ref 111]) (w3 := w) rfl rfl ?_
      refine sx_RP.gf (v := .ref 112) rfl rfl hI.1.o111 rfl rfl (show _ = 34 from rfl) ?_
      refine sx_RP.step (pc2 := 37) (ls2 := [(0, .ref 111), (1, .int (nI x2))]) (st2 := [.int 163, .ref 112]) (w3 := w) rfl rfl ?_
      refine sx_RP.step (pc2 := 38) (ls2 := [(0, .ref 111), (1, .int (nI x2))]) (st2 := [.ref 111, .int 163, .ref 112]) (w3 := w) rfl rfl ?_
      refine sx_RP.gf (v := .ref 112) rfl rfl hI.1.o111 rfl rfl (show _ = 41 from rfl) ?_
      refine sx_RP.step (pc2 := 42) (ls2 := [(0, .ref 111), (1, .int (nI x2))]) (st2 := [.int 2, .ref 112, .int 163, .ref 112]) (w3 := w) rfl rfl ?_
      refine sx_RP.ild (c := 2) rfl hI.1.a112.1 hI.1.a112.2 (sx_in_nI (show 2 < 172 by omega) (by decide)) (show (nI 2).toNatClampNeg = 2 from nI_clamp (by omega)) (show _ = 43 from rfl) ?_
      rw [en]
      refine sx_RP.step (pc2 := 44) (ls2 := [(0, .ref 111), (1, .int (nI x2))]) (st2 := [.int (163 + (nI n)), .ref 112]) (w3 := w) rfl rfl ?_
      rw [show (163 + (nI n) : Int32) = nI (163 + n) from nI_add 163 n]
      refine sx_RP.step (pc2 := 45) (ls2 := [(0, .ref 111), (1, .int (nI x2))]) (st2 := [.int (nI x2), .int (nI (163 + n)), .ref 112]) (w3 := w) rfl rfl ?_
      refine sx_RP.xM (k := (163 + n)) hI (by decide) rfl (by omega) (eOK_d (by omega) (inR.n (show x2 ≤ 47 by omega))) (show _ = 46 from rfl) (fun w10 hI11 hs12 hv13 => ?_)
      have ex14 : (ia w10 112).getD 2 0 = nI n := by rw [hv13, gd_ne (by omega)]; exact en
      have ex15 : (ia w10 112).getD (163 + n) 0 = nI x2 := by rw [hv13, gd_eq (by rw [hI.1.a112.2]; omega)]
      refine sx_RP.step (pc2 := 47) (ls2 := [(0, .ref 111), (1, .int (nI x2))]) (st2 := [.ref 111]) (w3 := w10) rfl rfl ?_
      refine sx_RP.gf (v := .ref 112) rfl rfl hI11.1.o111 rfl rfl (show _ = 50 from rfl) ?_
      refine sx_RP.step (pc2 := 51) (ls2 := [(0, .ref 111), (1, .int (nI x2))]) (st2 := [.int 2, .ref 112]) (w3 := w10) rfl rfl ?_
      refine sx_RP.step (pc2 := 52) (ls2 := [(0, .ref 111), (1, .int (nI x2))]) (st2 := [.int 2, .ref 112, .int 2, .ref 112]) (w3 := w10) rfl rfl ?_
      refine sx_RP.ild (c := 2) rfl hI11.1.a112.1 hI11.1.a112.2 (sx_in_nI (show 2 < 172 by omega) (by decide)) (show (nI 2).toNatClampNeg = 2 from nI_clamp (by omega)) (show _ = 53 from rfl) ?_
      rw [ex14]
      refine sx_RP.step (pc2 := 54) (ls2 := [(0, .ref 111), (1, .int (nI x2))]) (st2 := [.int 1, .int (nI n), .int 2, .ref 112]) (w3 := w10) rfl rfl ?_
      refine sx_RP.step (pc2 := 55) (ls2 := [(0, .ref 111), (1, .int (nI x2))]) (st2 := [.int ((nI n) + 1), .int 2, .ref 112]) (w3 := w10) rfl rfl ?_
      rw [show ((nI n) + 1 : Int32) = nI (n + 1) from nI_add n 1]
      refine sx_RP.xM (k := 2) hI11 (by decide) rfl (by omega) (eOK_2 (inR.n (show (n + 1) ≤ 9 by omega))) (show _ = 56 from rfl) (fun w16 hI17 hs18 hv19 => ?_)
      have ex20 : (ia w16 112).getD (163 + n) 0 = nI x2 := by rw [hv19, gd_ne (by omega)]; exact ex15
      have ex21 : (ia w16 112).getD 2 0 = nI (n + 1) := by rw [hv19, gd_eq (by rw [hI11.1.a112.2]; omega)]
      refine sx_RP.step (pc2 := 57) (ls2 := [(0, .ref 111), (1, .int (nI x2))]) (st2 := [.ref 111]) (w3 := w16) rfl rfl ?_
      refine sx_RP.gf (v := .ref 112) rfl rfl hI17.1.o111 rfl rfl (show _ = 60 from rfl) ?_
      refine sx_RP.step (pc2 := 61) (ls2 := [(0, .ref 111), (1, .int (nI x2))]) (st2 := [.int 2, .ref 112]) (w3 := w16) rfl rfl ?_
      refine sx_RP.ild (c := 2) rfl hI17.1.a112.1 hI17.1.a112.2 (sx_in_nI (show 2 < 172 by omega) (by decide)) (show (nI 2).toNatClampNeg = 2 from nI_clamp (by omega)) (show _ = 62 from rfl) ?_
      rw [ex21]
      refine sx_RP.step (pc2 := 63) (ls2 := [(0, .ref 111), (1, .int (nI x2))]) (st2 := [.int 1, .int (nI (n + 1))]) (w3 := w16) rfl rfl ?_
      refine sx_RP.step (pc2 := 64) (ls2 := [(0, .ref 111), (1, .int (nI x2))]) (st2 := [.int ((nI (n + 1)) - 1)]) (w3 := w16) rfl rfl ?_
      rw [show ((nI (n + 1)) - 1 : Int32) = nI ((n + 1) - 1) from nI_sub (a := (n + 1)) (b := 1) (by omega)]
      refine sx_RP.ret (r := (some (.int (nI ((n + 1) - 1))))) rfl rfl ?_
      have hr := rowB_addD (v := nI x2) hI.1.a112.2 en (by omega) (hI.manyM (by decide))
      exact ⟨⟨by rw [(dis_3 ⟨nI_le (a := 0) (show 0 ≤ x2 by omega) (by omega), nI_le (b := 47) (show x2 ≤ 47 by omega) (by decide)⟩ (by rw [FMb_dlen en (by omega)]; omega)).1, FMb_dlen en (by omega), Nat.add_sub_cancel], by rw [(dis_3 ⟨nI_le (a := 0) (show 0 ≤ x2 by omega) (by omega), nI_le (b := 47) (show x2 ≤ 47 by omega) (by decide)⟩ (by rw [FMb_dlen en (by omega)]; omega)).2, FMb_row (hs12.tr hs18), hv19, hv13, hr]; rfl⟩, hI17, fun a ha => (hs12.tr hs18) a (by omega)⟩
    · replace q9 := Decidable.not_not.mp (of_decide_eq_false q9)
      replace q9 := (nI_eq (a := n) (b := 9) (by omega) (by omega)).mp q9
      refine sx_RP.step (pc2 := 25) (ls2 := [(0, .ref 111), (1, .int (nI x2))]) (st2 := [.ref 111]) (w3 := w) rfl rfl ?_
      refine sx_RP.step (pc2 := 26) (ls2 := [(0, .ref 111), (1, .int (nI x2))]) (st2 := [.int 1, .ref 111]) (w3 := w) rfl rfl ?_
      refine sx_RP.callp (as2 := [.ref 111, .int 1]) (rest2 := []) rfl rfl (sx_inv_v2 (mi := 184) (k := 70) (st := [.int 1, .ref 111]) (w := w) rfl rfl hI.1.o111 rfl rfl rfl) rfl rfl rfl (K133_1 hI) (show _ = 29 from rfl) ?_
      rintro r4 w23 ⟨rfl, hI24, hE22⟩
      show sx_RP _ _ _ _ _ [.int (-1000000002)] _ _
      refine sx_RP.ret (r := (some (.int (-1000000002)))) rfl rfl ?_
      exact ⟨⟨by rw [(dis_2 ⟨nI_le (a := 0) (show 0 ≤ x2 by omega) (by omega), nI_le (b := 47) (show x2 ≤ 47 by omega) (by decide)⟩ (by rw [FMb_dlen en (by omega)]; omega)).1], by rw [(dis_2 ⟨nI_le (a := 0) (show 0 ≤ x2 by omega) (by omega), nI_le (b := 47) (show x2 ≤ 47 by omega) (by decide)⟩ (by rw [FMb_dlen en (by omega)]; omega)).2]; exact FMb_el hI hE22.el⟩, hI24, fun a ha => hE22.1 a (Or.inl (by omega))⟩
set_option maxRecDepth 20000 in
set_option maxHeartbeats 4000000 in
theorem B185 {xs : Option (List Int32)} {d : Nat} {w : List sx_C} (hI : WI w) (a1 a2 : Int32) : sx_RP xs (d + 7) 185 0 (lv_args 0 [.ref 111, .int a1, .int a2]) [] w (fun r w2 => (r = some (.int (movA (FMb w) a1 a2)) ∧ FMb w2 = movU (FMb w) a1 a2) ∧ WI w2 ∧ ∀ a, a < 111 → w2[a]? = w[a]?) := by
  obtain ⟨n, hn, en⟩ := (hI.sA (a := 112) (by decide) 2 (by decide)).2.1 rfl
  refine sx_RP.step (pc2 := 1) (ls2 := [(0, .ref 111), (1, .int a1), (2, .int a2)]) (st2 := [.ref 111]) (w3 := w) rfl rfl ?_
  refine sx_RP.step (pc2 := 2) (ls2 := [(0, .ref 111), (1, .int a1), (2, .int a2)]) (st2 := [.int a1, .ref 111]) (w3 := w) rfl rfl ?_
  rcases Decidable.em (0 ≤ a1 ∧ a1 < nI n) with c1 | c1
  · obtain ⟨x2, hx3, rfl⟩ := idx_get c1 (by omega)
    refine sx_RP.cu (as := [.ref 111, .int (nI x2)]) (rest2 := []) (st3 := [.int 1]) rfl rfl (sx_inv_v2 (mi := 185) (k := 171) (st := [.int (nI x2), .ref 111]) (w := w) rfl rfl hI.1.o111 rfl rfl rfl) rfl rfl (p186y hI en hn c1) rfl ?_
    refine sx_RP.step (pc2 := 8) (ls2 := [(0, .ref 111), (1, .int (nI x2)), (2, .int a2)]) (st2 := []) (w3 := w) rfl rfl ?_
    refine sx_RP.step (pc2 := 9) (ls2 := [(0, .ref 111), (1, .int (nI x2)), (2, .int a2)]) (st2 := [.int a2]) (w3 := w) rfl rfl ?_
    rcases in_cases a2 0 47 (m := 0) (n := 47) rfl rfl (by decide) (by decide) with q4 | ⟨x5, hx6, hx7, rfl⟩
    · refine sx_RP.cu (as := [.int a2]) (rest2 := []) (st3 := [.int 0]) rfl rfl rfl rfl rfl (cx_131n q4) rfl ?_
      refine sx_RP.step (pc2 := 15) (ls2 := [(0, .ref 111), (1, .int (nI x2)), (2, .int a2)]) (st2 := []) (w3 := w) rfl rfl ?_
      refine sx_RP.step (pc2 := 16) (ls2 := [(0, .ref 111), (1, .int (nI x2)), (2, .int a2)]) (st2 := [.ref 111]) (w3 := w) rfl rfl ?_
      refine sx_RP.step (pc2 := 17) (ls2 := [(0, .ref 111), (1, .int (nI x2)), (2, .int a2)]) (st2 := [.int 0, .ref 111]) (w3 := w) rfl rfl ?_
      refine sx_RP.callp (as2 := [.ref 111, .int 0]) (rest2 := []) rfl rfl (sx_inv_v2 (mi := 185) (k := 70) (st := [.int 0, .ref 111]) (w := w) rfl rfl hI.1.o111 rfl rfl rfl) rfl rfl rfl (K133_0 hI) (show _ = 20 from rfl) ?_
      rintro r4 w10 ⟨rfl, hI11, hE9⟩
      show sx_RP _ _ _ _ _ [.int (-1000000001)] _ _
      refine sx_RP.ret (r := (some (.int (-1000000001)))) rfl rfl ?_
      exact ⟨⟨by rw [(mov_1 (fun z => q4 z.2)).1], by rw [(mov_1 (fun z => q4 z.2)).2]; exact FMb_el hI hE9.el⟩, hI11, fun a ha => hE9.1 a (Or.inl (by omega))⟩
    · refine sx_RP.cu (as := [.int (nI x5)]) (rest2 := []) (st3 := [.int 1]) rfl rfl rfl rfl rfl (cx_131p ⟨nI_le (a := 0) hx6 (by omega), nI_le (b := 47) hx7 (by decide)⟩) rfl ?_
      refine sx_RP.step (pc2 := 21) (ls2 := [(0, .ref 111), (1, .int (nI x2)), (2, .int (nI x5))]) (st2 := []) (w3 := w) rfl rfl ?_
      refine sx_RP.step (pc2 := 22) (ls2 := [(0, .ref 111), (1, .int (nI x2)), (2, .int (nI x5))]) (st2 := [.ref 111]) (w3 := w) rfl rfl ?_
      refine sx_RP.gf (v := .ref 112) rfl rfl hI.1.o111 rfl rfl (show _ = 25 from rfl) ?_
      refine sx_RP.step (pc2 := 28) (ls2 := [(0, .ref 111), (1, .int (nI x2)), (2, .int (nI x5))]) (st2 := [.int 163, .ref 112]) (w3 := w) rfl rfl ?_
      refine sx_RP.step (pc2 := 29) (ls2 := [(0, .ref 111), (1, .int (nI x2)), (2, .int (nI x5))]) (st2 := [.int (nI x2), .int 163, .ref 112]) (w3 := w) rfl rfl ?_
      refine sx_RP.step (pc2 := 30) (ls2 := [(0, .ref 111), (1, .int (nI x2)), (2, .int (nI x5))]) (st2 := [.int (163 + (nI x2)), .ref 112]) (w3 := w) rfl rfl ?_
      rw [show (163 + (nI x2) : Int32) = nI (163 + x2) from nI_add 163 x2]
      refine sx_RP.ild (c := (163 + x2)) rfl hI.1.a112.1 hI.1.a112.2 (sx_in_nI (show (163 + x2) < 172 by omega) (by decide)) (show (nI ((163 + x2))).toNatClampNeg = (163 + x2) from nI_clamp (by omega)) (show _ = 31 from rfl) ?_
      refine sx_RP.step (pc2 := 32) (ls2 := [(3, .int ((ia w 112).getD ((163 + x2)) 0)), (0, .ref 111), (1, .int (nI x2)), (2, .int (nI x5))]) (st2 := []) (w3 := w) rfl rfl ?_
      refine sx_RP.step (pc2 := 33) (ls2 := [(3, .int ((ia w 112).getD ((163 + x2)) 0)), (0, .ref 111), (1, .int (nI x2)), (2, .int (nI x5))]) (st2 := [.ref 111]) (w3 := w) rfl rfl ?_
      refine sx_RP.gf (v := .ref 112) rfl rfl hI.1.o111 rfl rfl (show _ = 36 from rfl) ?_
      refine sx_RP.step (pc2 := 39) (ls2 := [(3, .int ((ia w 112).getD ((163 + x2)) 0)), (0, .ref 111), (1, .int (nI x2)), (2, .int (nI x5))]) (st2 := [.int 163, .ref 112]) (w3 := w) rfl rfl ?_
      refine sx_RP.step (pc2 := 40) (ls2 := [(3, .int ((ia w 112).getD ((163 + x2)) 0)), (0, .ref 111), (1, .int (nI x2)), (2, .int (nI x5))]) (st2 := [.int (nI x2), .int 163, .ref 112]) (w3 := w) rfl rfl ?_
      refine sx_RP.step (pc2 := 41) (ls2 := [(3, .int ((ia w 112).getD ((163 + x2)) 0)), (0, .ref 111), (1, .int (nI x2)), (2, .int (nI x5))]) (st2 := [.int (163 + (nI x2)), .ref 112]) (w3 := w) rfl rfl ?_
      rw [show (163 + (nI x2) : Int32) = nI (163 + x2) from nI_add 163 x2]
      refine sx_RP.step (pc2 := 42) (ls2 := [(3, .int ((ia w 112).getD ((163 + x2)) 0)), (0, .ref 111), (1, .int (nI x2)), (2, .int (nI x5))]) (st2 := [.int (nI x5), .int (nI (163 + x2)), .ref 112]) (w3 := w) rfl rfl ?_
      refine sx_RP.xM (k := (163 + x2)) hI (by decide) rfl (by omega) (eOK_d (by omega) (inR.n (show x5 ≤ 47 by omega))) (show _ = 43 from rfl) (fun w12 hI13 hs14 hv15 => ?_)
      refine sx_RP.step (pc2 := 44) (ls2 := [(3, .int ((ia w 112).getD ((163 + x2)) 0)), (0, .ref 111), (1, .int (nI x2)), (2, .int (nI x5))]) (st2 := [.int ((ia w 112).getD ((163 + x2)) 0)]) (w3 := w12) rfl rfl ?_
      refine sx_RP.ret (r := (some (.int ((ia w 112).getD ((163 + x2)) 0)))) rfl rfl ?_
      exact ⟨⟨by rw [(mov_2 ⟨by rw [FMb_dlen en (by omega)]; exact c1, ⟨nI_le (a := 0) (show 0 ≤ x5 by omega) (by omega), nI_le (b := 47) (show x5 ≤ 47 by omega) (by decide)⟩⟩).1, FMb_dish en hn hx3], by rw [(mov_2 ⟨by rw [FMb_dlen en (by omega)]; exact c1, ⟨nI_le (a := 0) (show 0 ≤ x5 by omega) (by omega), nI_le (b := 47) (show x5 ≤ 47 by omega) (by decide)⟩⟩).2, FMb_row hs14, hv15, rowB_setD hI.1.a112.2 en hn hx3 (hI.manyM (by decide)), iN_n (show x2 < 2 ^ 31 by omega)]; rfl⟩, hI13, fun a ha => hs14 a (by omega)⟩
  · refine sx_RP.cu (as := [.ref 111, .int a1]) (rest2 := []) (st3 := [.int 0]) rfl rfl (sx_inv_v2 (mi := 185) (k := 171) (st := [.int a1, .ref 111]) (w := w) rfl rfl hI.1.o111 rfl rfl rfl) rfl rfl (p186n hI en hn c1) rfl ?_
    refine sx_RP.step (pc2 := 15) (ls2 := [(0, .ref 111), (1, .int a1), (2, .int a2)]) (st2 := []) (w3 := w) rfl rfl ?_
    refine sx_RP.step (pc2 := 16) (ls2 := [(0, .ref 111), (1, .int a1), (2, .int a2)]) (st2 := [.ref 111]) (w3 := w) rfl rfl ?_
    refine sx_RP.step (pc2 := 17) (ls2 := [(0, .ref 111), (1, .int a1), (2, .int a2)]) (st2 := [.int 0, .ref 111]) (w3 := w) rfl rfl ?_
    refine sx_RP.callp (as2 := [.ref 111, .int 0]) (rest2 := []) rfl rfl (sx_inv_v2 (mi := 185) (k := 70) (st := [.int 0, .ref 111]) (w := w) rfl rfl hI.1.o111 rfl rfl rfl) rfl rfl rfl (K133_0 hI) (show _ = 20 from rfl) ?_
    rintro r4 w17 ⟨rfl, hI18, hE16⟩
    show sx_RP _ _ _ _ _ [.int (-1000000001)] _ _
    refine sx_RP.ret (r := (some (.int (-1000000001)))) rfl rfl ?_
    exact ⟨⟨by rw [(mov_1 (fun z => c1 (by rw [← FMb_dlen en (by omega)]; exact z.1))).1], by rw [(mov_1 (fun z => c1 (by rw [← FMb_dlen en (by omega)]; exact z.1))).2]; exact FMb_el hI hE16.el⟩, hI18, fun a ha => hE16.1 a (Or.inl (by omega))⟩
set_option maxRecDepth 20000 in
set_option maxHeartbeats 4000000 in
theorem p204y0 {xs : Option (List Int32)} {d : Nat} {w : List sx_C} {v : Int32} (hh : (0 : Int32) ≤ v ∧ v ≤ 999999) : sx_RU xs (d + 1) 204 0 (lv_args 0 [.int 0, .int v]) [] w (some (.int 1)) w := by
  have h : sx_RP xs (d + 1) 204 0 (lv_args 0 [.int 0, .int v]) [] w (fun r w2 => r = some (.int 1) ∧ w2 = w) := by
    refine sx_RP.step (pc2 := 1) (ls2 := [(0, .int 0), (1, .int v)]) (st2 := [.int 0]) (w3 := w) rfl rfl ?_
    refine sx_RP.step (pc2 := 4) (ls2 := [(0, .int 0), (1, .int v)]) (st2 := []) (w3 := w) rfl rfl ?_
    refine sx_RP.step (pc2 := 5) (ls2 := [(0, .int 0), (1, .int v)]) (st2 := [.int v]) (w3 := w) rfl rfl ?_
    refine sx_RP.step (pc2 := 6) (ls2 := [(0, .int 0), (1, .int v)]) (st2 := [.int 0, .int v]) (w3 := w) rfl rfl ?_
    refine sx_RP.step (pc2 := 8) (ls2 := [(0, .int 0), (1, .int v)]) (st2 := [.int 999999, .int 0, .int v]) (w3 := w) rfl rfl ?_
    refine sx_RP.cu (as := [.int v, .int 0, .int 999999]) (rest2 := []) (st3 := [.int 1]) rfl rfl rfl rfl rfl (cx_132p hh) rfl ?_
    refine sx_RP.step (pc2 := 32) (ls2 := [(0, .int 0), (1, .int v)]) (st2 := [.int 1]) (w3 := w) rfl rfl ?_
    refine sx_RP.ret (r := (some (.int 1))) rfl rfl ?_
    exact ⟨rfl, rfl⟩
  obtain ⟨r, w2, h1, rfl, rfl⟩ := h
  exact h1
set_option maxRecDepth 20000 in
set_option maxHeartbeats 4000000 in
theorem p204n0 {xs : Option (List Int32)} {d : Nat} {w : List sx_C} {v : Int32} (hh : ¬ ((0 : Int32) ≤ v ∧ v ≤ 999999)) : sx_RU xs (d + 1) 204 0 (lv_args 0 [.int 0, .int v]) [] w (some (.int 0)) w := by
  have h : sx_RP xs (d + 1) 204 0 (lv_args 0 [.int 0, .int v]) [] w (fun r w2 => r = some (.int 0) ∧ w2 = w) := by
    refine sx_RP.step (pc2 := 1) (ls2 := [(0, .int 0), (1, .int v)]) (st2 := [.int 0]) (w3 := w) rfl rfl ?_
    refine sx_RP.step (pc2 := 4) (ls2 := [(0, .int 0), (1, .int v)]) (st2 := []) (w3 := w) rfl rfl ?_
    refine sx_RP.step (pc2 := 5) (ls2 := [(0, .int 0), (1, .int v)]) (st2 := [.int v]) (w3 := w) rfl rfl ?_
    refine sx_RP.step (pc2 := 6) (ls2 := [(0, .int 0), (1, .int v)]) (st2 := [.int 0, .int v]) (w3 := w) rfl rfl ?_
    refine sx_RP.step (pc2 := 8) (ls2 := [(0, .int 0), (1, .int v)]) (st2 := [.int 999999, .int 0, .int v]) (w3 := w) rfl rfl ?_
    refine sx_RP.cu (as := [.int v, .int 0, .int 999999]) (rest2 := []) (st3 := [.int 0]) rfl rfl rfl rfl rfl (cx_132o hh) rfl ?_
    refine sx_RP.step (pc2 := 32) (ls2 := [(0, .int 0), (1, .int v)]) (st2 := [.int 0]) (w3 := w) rfl rfl ?_
    refine sx_RP.ret (r := (some (.int 0))) rfl rfl ?_
    exact ⟨rfl, rfl⟩
  obtain ⟨r, w2, h1, rfl, rfl⟩ := h
  exact h1
set_option maxRecDepth 20000 in
set_option maxHeartbeats 4000000 in
theorem p204y1 {xs : Option (List Int32)} {d : Nat} {w : List sx_C} {v : Int32} (hh : (1 : Int32) ≤ v ∧ v ≤ 999) : sx_RU xs (d + 1) 204 0 (lv_args 0 [.int 1, .int v]) [] w (some (.int 1)) w := by
  have h : sx_RP xs (d + 1) 204 0 (lv_args 0 [.int 1, .int v]) [] w (fun r w2 => r = some (.int 1) ∧ w2 = w) := by
    refine sx_RP.step (pc2 := 1) (ls2 := [(0, .int 1), (1, .int v)]) (st2 := [.int 1]) (w3 := w) rfl rfl ?_
    refine sx_RP.step (pc2 := 14) (ls2 := [(0, .int 1), (1, .int v)]) (st2 := []) (w3 := w) rfl rfl ?_
    refine sx_RP.step (pc2 := 15) (ls2 := [(0, .int 1), (1, .int v)]) (st2 := [.int v]) (w3 := w) rfl rfl ?_
    refine sx_RP.step (pc2 := 16) (ls2 := [(0, .int 1), (1, .int v)]) (st2 := [.int 1, .int v]) (w3 := w) rfl rfl ?_
    refine sx_RP.step (pc2 := 17) (ls2 := [(0, .int 1), (1, .int v)]) (st2 := [.int 1, .int 1, .int v]) (w3 := w) rfl rfl ?_
    refine sx_RP.step (pc2 := 18) (ls2 := [(0, .int 1), (1, .int v)]) (st2 := [.int 1, .int 1, .int 1, .int v]) (w3 := w) rfl rfl ?_
    refine sx_RP.step (pc2 := 21) (ls2 := [(0, .int 1), (1, .int v)]) (st2 := [.int 1, .int v]) (w3 := w) rfl rfl ?_
    refine sx_RP.step (pc2 := 24) (ls2 := [(0, .int 1), (1, .int v)]) (st2 := [.int 999, .int 1, .int v]) (w3 := w) rfl rfl ?_
    refine sx_RP.step (pc2 := 29) (ls2 := [(0, .int 1), (1, .int v)]) (st2 := [.int 999, .int 1, .int v]) (w3 := w) rfl rfl ?_
    refine sx_RP.cu (as := [.int v, .int 1, .int 999]) (rest2 := []) (st3 := [.int 1]) rfl rfl rfl rfl rfl (cx_132p hh) rfl ?_
    refine sx_RP.ret (r := (some (.int 1))) rfl rfl ?_
    exact ⟨rfl, rfl⟩
  obtain ⟨r, w2, h1, rfl, rfl⟩ := h
  exact h1
set_option maxRecDepth 20000 in
set_option maxHeartbeats 4000000 in
theorem p204n1 {xs : Option (List Int32)} {d : Nat} {w : List sx_C} {v : Int32} (hh : ¬ ((1 : Int32) ≤ v ∧ v ≤ 999)) : sx_RU xs (d + 1) 204 0 (lv_args 0 [.int 1, .int v]) [] w (some (.int 0)) w := by
  have h : sx_RP xs (d + 1) 204 0 (lv_args 0 [.int 1, .int v]) [] w (fun r w2 => r = some (.int 0) ∧ w2 = w) := by
    refine sx_RP.step (pc2 := 1) (ls2 := [(0, .int 1), (1, .int v)]) (st2 := [.int 1]) (w3 := w) rfl rfl ?_
    refine sx_RP.step (pc2 := 14) (ls2 := [(0, .int 1), (1, .int v)]) (st2 := []) (w3 := w) rfl rfl ?_
    refine sx_RP.step (pc2 := 15) (ls2 := [(0, .int 1), (1, .int v)]) (st2 := [.int v]) (w3 := w) rfl rfl ?_
    refine sx_RP.step (pc2 := 16) (ls2 := [(0, .int 1), (1, .int v)]) (st2 := [.int 1, .int v]) (w3 := w) rfl rfl ?_
    refine sx_RP.step (pc2 := 17) (ls2 := [(0, .int 1), (1, .int v)]) (st2 := [.int 1, .int 1, .int v]) (w3 := w) rfl rfl ?_
    refine sx_RP.step (pc2 := 18) (ls2 := [(0, .int 1), (1, .int v)]) (st2 := [.int 1, .int 1, .int 1, .int v]) (w3 := w) rfl rfl ?_
    refine sx_RP.step (pc2 := 21) (ls2 := [(0, .int 1), (1, .int v)]) (st2 := [.int 1, .int v]) (w3 := w) rfl rfl ?_
    refine sx_RP.step (pc2 := 24) (ls2 := [(0, .int 1), (1, .int v)]) (st2 := [.int 999, .int 1, .int v]) (w3 := w) rfl rfl ?_
    refine sx_RP.step (pc2 := 29) (ls2 := [(0, .int 1), (1, .int v)]) (st2 := [.int 999, .int 1, .int v]) (w3 := w) rfl rfl ?_
    refine sx_RP.cu (as := [.int v, .int 1, .int 999]) (rest2 := []) (st3 := [.int 0]) rfl rfl rfl rfl rfl (cx_132o hh) rfl ?_
    refine sx_RP.ret (r := (some (.int 0))) rfl rfl ?_
    exact ⟨rfl, rfl⟩
  obtain ⟨r, w2, h1, rfl, rfl⟩ := h
  exact h1
set_option maxRecDepth 20000 in
set_option maxHeartbeats 4000000 in
theorem p204y2 {xs : Option (List Int32)} {d : Nat} {w : List sx_C} {v : Int32} (hh : (1 : Int32) ≤ v ∧ v ≤ 99) : sx_RU xs (d + 1) 204 0 (lv_args 0 [.int 2, .int v]) [] w (some (.int 1)) w := by
  have h : sx_RP xs (d + 1) 204 0 (lv_args 0 [.int 2, .int v]) [] w (fun r w2 => r = some (.int 1) ∧ w2 = w) := by
    refine sx_RP.step (pc2 := 1) (ls2 := [(0, .int 2), (1, .int v)]) (st2 := [.int 2]) (w3 := w) rfl rfl ?_
    refine sx_RP.step (pc2 := 14) (ls2 := [(0, .int 2), (1, .int v)]) (st2 := []) (w3 := w) rfl rfl ?_
    refine sx_RP.step (pc2 := 15) (ls2 := [(0, .int 2), (1, .int v)]) (st2 := [.int v]) (w3 := w) rfl rfl ?_
    refine sx_RP.step (pc2 := 16) (ls2 := [(0, .int 2), (1, .int v)]) (st2 := [.int 1, .int v]) (w3 := w) rfl rfl ?_
    refine sx_RP.step (pc2 := 17) (ls2 := [(0, .int 2), (1, .int v)]) (st2 := [.int 2, .int 1, .int v]) (w3 := w) rfl rfl ?_
    refine sx_RP.step (pc2 := 18) (ls2 := [(0, .int 2), (1, .int v)]) (st2 := [.int 1, .int 2, .int 1, .int v]) (w3 := w) rfl rfl ?_
    refine sx_RP.step (pc2 := 27) (ls2 := [(0, .int 2), (1, .int v)]) (st2 := [.int 1, .int v]) (w3 := w) rfl rfl ?_
    refine sx_RP.step (pc2 := 29) (ls2 := [(0, .int 2), (1, .int v)]) (st2 := [.int 99, .int 1, .int v]) (w3 := w) rfl rfl ?_
    refine sx_RP.cu (as := [.int v, .int 1, .int 99]) (rest2 := []) (st3 := [.int 1]) rfl rfl rfl rfl rfl (cx_132p hh) rfl ?_
    refine sx_RP.ret (r := (some (.int 1))) rfl rfl ?_
    exact ⟨rfl, rfl⟩
  obtain ⟨r, w2, h1, rfl, rfl⟩ := h
  exact h1
set_option maxRecDepth 20000 in
set_option maxHeartbeats 4000000 in
theorem p204n2 {xs : Option (List Int32)} {d : Nat} {w : List sx_C} {v : Int32} (hh : ¬ ((1 : Int32) ≤ v ∧ v ≤ 99)) : sx_RU xs (d + 1) 204 0 (lv_args 0 [.int 2, .int v]) [] w (some (.int 0)) w := by
  have h : sx_RP xs (d + 1) 204 0 (lv_args 0 [.int 2, .int v]) [] w (fun r w2 => r = some (.int 0) ∧ w2 = w) := by
    refine sx_RP.step (pc2 := 1) (ls2 := [(0, .int 2), (1, .int v)]) (st2 := [.int 2]) (w3 := w) rfl rfl ?_
    refine sx_RP.step (pc2 := 14) (ls2 := [(0, .int 2), (1, .int v)]) (st2 := []) (w3 := w) rfl rfl ?_
    refine sx_RP.step (pc2 := 15) (ls2 := [(0, .int 2), (1, .int v)]) (st2 := [.int v]) (w3 := w) rfl rfl ?_
    refine sx_RP.step (pc2 := 16) (ls2 := [(0, .int 2), (1, .int v)]) (st2 := [.int 1, .int v]) (w3 := w) rfl rfl ?_
    refine sx_RP.step (pc2 := 17) (ls2 := [(0, .int 2), (1, .int v)]) (st2 := [.int 2, .int 1, .int v]) (w3 := w) rfl rfl ?_
    refine sx_RP.step (pc2 := 18) (ls2 := [(0, .int 2), (1, .int v)]) (st2 := [.int 1, .int 2, .int 1, .int v]) (w3 := w) rfl rfl ?_
    refine sx_RP.step (pc2 := 27) (ls2 := [(0, .int 2), (1, .int v)]) (st2 := [.int 1, .int v]) (w3 := w) rfl rfl ?_
    refine sx_RP.step (pc2 := 29) (ls2 := [(0, .int 2), (1, .int v)]) (st2 := [.int 99, .int 1, .int v]) (w3 := w) rfl rfl ?_
    refine sx_RP.cu (as := [.int v, .int 1, .int 99]) (rest2 := []) (st3 := [.int 0]) rfl rfl rfl rfl rfl (cx_132o hh) rfl ?_
    refine sx_RP.ret (r := (some (.int 0))) rfl rfl ?_
    exact ⟨rfl, rfl⟩
  obtain ⟨r, w2, h1, rfl, rfl⟩ := h
  exact h1
set_option maxRecDepth 20000 in
set_option maxHeartbeats 4000000 in
theorem B203_0 {xs : Option (List Int32)} {d : Nat} {w : List sx_C} (hI : WI w) (a2 : Int32) : sx_RP xs (d + 7) 203 0 (lv_args 0 [.ref 111, .int 0, .int a2]) [] w (fun r w2 => (r = some (.int (breA (FMb w) 0 a2)) ∧ FMb w2 = breU (FMb w) 0 a2) ∧ WI w2 ∧ ∀ a, a < 111 → w2[a]? = w[a]?) := by
  refine sx_RP.step (pc2 := 1) (ls2 := [(0, .ref 111), (1, .int 0), (2, .int a2)]) (st2 := [.int 0]) (w3 := w) rfl rfl ?_
  refine sx_RP.step (pc2 := 2) (ls2 := [(0, .ref 111), (1, .int 0), (2, .int a2)]) (st2 := [.int 0, .int 0]) (w3 := w) rfl rfl ?_
  refine sx_RP.step (pc2 := 3) (ls2 := [(0, .ref 111), (1, .int 0), (2, .int a2)]) (st2 := [.int 2, .int 0, .int 0]) (w3 := w) rfl rfl ?_
  refine sx_RP.cu (as := [.int 0, .int 0, .int 2]) (rest2 := []) (st3 := [.int 1]) rfl rfl rfl rfl rfl (cx_132p (by decide)) rfl ?_
  refine sx_RP.step (pc2 := 9) (ls2 := [(0, .ref 111), (1, .int 0), (2, .int a2)]) (st2 := []) (w3 := w) rfl rfl ?_
  refine sx_RP.step (pc2 := 10) (ls2 := [(0, .ref 111), (1, .int 0), (2, .int a2)]) (st2 := [.int 0]) (w3 := w) rfl rfl ?_
  refine sx_RP.step (pc2 := 11) (ls2 := [(0, .ref 111), (1, .int 0), (2, .int a2)]) (st2 := [.int a2, .int 0]) (w3 := w) rfl rfl ?_
  rcases Decidable.em ((0 : Int32) ≤ a2 ∧ a2 ≤ 999999) with c1 | c1
  · refine sx_RP.cu (as := [.int 0, .int a2]) (rest2 := []) (st3 := [.int 1]) rfl rfl rfl rfl rfl (p204y0 c1) rfl ?_
    refine sx_RP.step (pc2 := 23) (ls2 := [(0, .ref 111), (1, .int 0), (2, .int a2)]) (st2 := []) (w3 := w) rfl rfl ?_
    refine sx_RP.step (pc2 := 24) (ls2 := [(0, .ref 111), (1, .int 0), (2, .int a2)]) (st2 := [.ref 111]) (w3 := w) rfl rfl ?_
    refine sx_RP.gf (v := .ref 112) rfl rfl hI.1.o111 rfl rfl (show _ = 27 from rfl) ?_
    refine sx_RP.step (pc2 := 28) (ls2 := [(0, .ref 111), (1, .int 0), (2, .int a2)]) (st2 := [.int 4, .ref 112]) (w3 := w) rfl rfl ?_
    refine sx_RP.step (pc2 := 29) (ls2 := [(0, .ref 111), (1, .int 0), (2, .int a2)]) (st2 := [.int 0, .int 4, .ref 112]) (w3 := w) rfl rfl ?_
    refine sx_RP.step (pc2 := 30) (ls2 := [(0, .ref 111), (1, .int 0), (2, .int a2)]) (st2 := [.int 4, .ref 112]) (w3 := w) rfl rfl ?_
    refine sx_RP.ild (c := 4) rfl hI.1.a112.1 hI.1.a112.2 (sx_in_nI (show 4 < 172 by omega) (by decide)) (show (nI (4)).toNatClampNeg = 4 from nI_clamp (by omega)) (show _ = 31 from rfl) ?_
    refine sx_RP.step (pc2 := 32) (ls2 := [(3, .int ((ia w 112).getD (4) 0)), (0, .ref 111), (1, .int 0), (2, .int a2)]) (st2 := []) (w3 := w) rfl rfl ?_
    refine sx_RP.step (pc2 := 33) (ls2 := [(3, .int ((ia w 112).getD (4) 0)), (0, .ref 111), (1, .int 0), (2, .int a2)]) (st2 := [.ref 111]) (w3 := w) rfl rfl ?_
    refine sx_RP.gf (v := .ref 112) rfl rfl hI.1.o111 rfl rfl (show _ = 36 from rfl) ?_
    refine sx_RP.step (pc2 := 37) (ls2 := [(3, .int ((ia w 112).getD (4) 0)), (0, .ref 111), (1, .int 0), (2, .int a2)]) (st2 := [.int 4, .ref 112]) (w3 := w) rfl rfl ?_
    refine sx_RP.step (pc2 := 38) (ls2 := [(3, .int ((ia w 112).getD (4) 0)), (0, .ref 111), (1, .int 0), (2, .int a2)]) (st2 := [.int 0, .int 4, .ref 112]) (w3 := w) rfl rfl ?_
    refine sx_RP.step (pc2 := 39) (ls2 := [(3, .int ((ia w 112).getD (4) 0)), (0, .ref 111), (1, .int 0), (2, .int a2)]) (st2 := [.int 4, .ref 112]) (w3 := w) rfl rfl ?_
    refine sx_RP.step (pc2 := 40) (ls2 := [(3, .int ((ia w 112).getD (4) 0)), (0, .ref 111), (1, .int 0), (2, .int a2)]) (st2 := [.int a2, .int 4, .ref 112]) (w3 := w) rfl rfl ?_
    refine sx_RP.xM (k := 4) hI (by decide) rfl (by omega) (eOK_n (by omega)) (show _ = 41 from rfl) (fun w2 hI3 hs4 hv5 => ?_)
    refine sx_RP.step (pc2 := 42) (ls2 := [(3, .int ((ia w 112).getD (4) 0)), (0, .ref 111), (1, .int 0), (2, .int a2)]) (st2 := [.int ((ia w 112).getD (4) 0)]) (w3 := w2) rfl rfl ?_
    refine sx_RP.ret (r := (some (.int ((ia w 112).getD (4) 0)))) rfl rfl ?_
    exact ⟨⟨by rw [(bre_0 ⟨rfl, c1⟩).1]; rfl, by rw [(bre_0 ⟨rfl, c1⟩).2, FMb_row hs4, hv5, show (4 : Nat) = 4 + 0 from rfl, rowB_setF hI.1.a112.2 (by decide) (hI.manyM (by decide))]; rfl⟩, hI3, fun a ha => hs4 a (by omega)⟩
  · refine sx_RP.cu (as := [.int 0, .int a2]) (rest2 := []) (st3 := [.int 0]) rfl rfl rfl rfl rfl (p204n0 c1) rfl ?_
    refine sx_RP.step (pc2 := 17) (ls2 := [(0, .ref 111), (1, .int 0), (2, .int a2)]) (st2 := []) (w3 := w) rfl rfl ?_
    refine sx_RP.step (pc2 := 18) (ls2 := [(0, .ref 111), (1, .int 0), (2, .int a2)]) (st2 := [.ref 111]) (w3 := w) rfl rfl ?_
    refine sx_RP.step (pc2 := 19) (ls2 := [(0, .ref 111), (1, .int 0), (2, .int a2)]) (st2 := [.int 0, .ref 111]) (w3 := w) rfl rfl ?_
    refine sx_RP.callp (as2 := [.ref 111, .int 0]) (rest2 := []) rfl rfl (sx_inv_v2 (mi := 203) (k := 70) (st := [.int 0, .ref 111]) (w := w) rfl rfl hI.1.o111 rfl rfl rfl) rfl rfl rfl (K133_0 hI) (show _ = 22 from rfl) ?_
    rintro r4 w7 ⟨rfl, hI8, hE6⟩
    show sx_RP _ _ _ _ _ [.int (-1000000001)] _ _
    refine sx_RP.ret (r := (some (.int (-1000000001)))) rfl rfl ?_
    exact ⟨⟨by rw [(bre_3 (fun z => c1 z.2) (fun z => absurd z.1 (by decide)) (fun z => absurd z.1 (by decide))).1], by rw [(bre_3 (fun z => c1 z.2) (fun z => absurd z.1 (by decide)) (fun z => absurd z.1 (by decide))).2]; exact FMb_el hI hE6.el⟩, hI8, fun a ha => hE6.1 a (Or.inl (by omega))⟩
set_option maxRecDepth 20000 in
set_option maxHeartbeats 4000000 in
theorem B203_1 {xs : Option (List Int32)} {d : Nat} {w : List sx_C} (hI : WI w) (a2 : Int32) : sx_RP xs (d + 7) 203 0 (lv_args 0 [.ref 111, .int 1, .int a2]) [] w (fun r w2 => (r = some (.int (breA (FMb w) 1 a2)) ∧ FMb w2 = breU (FMb w) 1 a2) ∧ WI w2 ∧ ∀ a, a < 111 → w2[a]? = w[a]?) := by
  refine sx_RP.step (pc2 := 1) (ls2 := [(0, .ref 111), (1, .int 1), (2, .int a2)]) (st2 := [.int 1]) (w3 := w) rfl rfl ?_
  refine sx_RP.step (pc2 := 2) (ls2 := [(0, .ref 111), (1, .int 1), (2, .int a2)]) (st2 := [.int 0, .int 1]) (w3 := w) rfl rfl ?_
  refine sx_RP.step (pc2 := 3) (ls2 := [(0, .ref 111), (1, .int 1), (2, .int a2)]) (st2 := [.int 2, .int 0, .int 1]) (w3 := w) rfl rfl ?_
  refine sx_RP.cu (as := [.int 1, .int 0, .int 2]) (rest2 := []) (st3 := [.int 1]) rfl rfl rfl rfl rfl (cx_132p (by decide)) rfl ?_
  refine sx_RP.step (pc2 := 9) (ls2 := [(0, .ref 111), (1, .int 1), (2, .int a2)]) (st2 := []) (w3 := w) rfl rfl ?_
  refine sx_RP.step (pc2 := 10) (ls2 := [(0, .ref 111), (1, .int 1), (2, .int a2)]) (st2 := [.int 1]) (w3 := w) rfl rfl ?_
  refine sx_RP.step (pc2 := 11) (ls2 := [(0, .ref 111), (1, .int 1), (2, .int a2)]) (st2 := [.int a2, .int 1]) (w3 := w) rfl rfl ?_
  rcases Decidable.em ((1 : Int32) ≤ a2 ∧ a2 ≤ 999) with c1 | c1
  · refine sx_RP.cu (as := [.int 1, .int a2]) (rest2 := []) (st3 := [.int 1]) rfl rfl rfl rfl rfl (p204y1 c1) rfl ?_
    refine sx_RP.step (pc2 := 23) (ls2 := [(0, .ref 111), (1, .int 1), (2, .int a2)]) (st2 := []) (w3 := w) rfl rfl ?_
    refine sx_RP.step (pc2 := 24) (ls2 := [(0, .ref 111), (1, .int 1), (2, .int a2)]) (st2 := [.ref 111]) (w3 := w) rfl rfl ?_
    refine sx_RP.gf (v := .ref 112) rfl rfl hI.1.o111 rfl rfl (show _ = 27 from rfl) ?_
    refine sx_RP.step (pc2 := 28) (ls2 := [(0, .ref 111), (1, .int 1), (2, .int a2)]) (st2 := [.int 4, .ref 112]) (w3 := w) rfl rfl ?_
    refine sx_RP.step (pc2 := 29) (ls2 := [(0, .ref 111), (1, .int 1), (2, .int a2)]) (st2 := [.int 1, .int 4, .ref 112]) (w3 := w) rfl rfl ?_
    refine sx_RP.step (pc2 := 30) (ls2 := [(0, .ref 111), (1, .int 1), (2, .int a2)]) (st2 := [.int 5, .ref 112]) (w3 := w) rfl rfl ?_
    refine sx_RP.ild (c := 5) rfl hI.1.a112.1 hI.1.a112.2 (sx_in_nI (show 5 < 172 by omega) (by decide)) (show (nI (5)).toNatClampNeg = 5 from nI_clamp (by omega)) (show _ = 31 from rfl) ?_
    refine sx_RP.step (pc2 := 32) (ls2 := [(3, .int ((ia w 112).getD (5) 0)), (0, .ref 111), (1, .int 1), (2, .int a2)]) (st2 := []) (w3 := w) rfl rfl ?_
    refine sx_RP.step (pc2 := 33) (ls2 := [(3, .int ((ia w 112).getD (5) 0)), (0, .ref 111), (1, .int 1), (2, .int a2)]) (st2 := [.ref 111]) (w3 := w) rfl rfl ?_
    refine sx_RP.gf (v := .ref 112) rfl rfl hI.1.o111 rfl rfl (show _ = 36 from rfl) ?_
    refine sx_RP.step (pc2 := 37) (ls2 := [(3, .int ((ia w 112).getD (5) 0)), (0, .ref 111), (1, .int 1), (2, .int a2)]) (st2 := [.int 4, .ref 112]) (w3 := w) rfl rfl ?_
    refine sx_RP.step (pc2 := 38) (ls2 := [(3, .int ((ia w 112).getD (5) 0)), (0, .ref 111), (1, .int 1), (2, .int a2)]) (st2 := [.int 1, .int 4, .ref 112]) (w3 := w) rfl rfl ?_
    refine sx_RP.step (pc2 := 39) (ls2 := [(3, .int ((ia w 112).getD (5) 0)), (0, .ref 111), (1, .int 1), (2, .int a2)]) (st2 := [.int 5, .ref 112]) (w3 := w) rfl rfl ?_
    refine sx_RP.step (pc2 := 40) (ls2 := [(3, .int ((ia w 112).getD (5) 0)), (0, .ref 111), (1, .int 1), (2, .int a2)]) (st2 := [.int a2, .int 5, .ref 112]) (w3 := w) rfl rfl ?_
    refine sx_RP.xM (k := 5) hI (by decide) rfl (by omega) (eOK_n (by omega)) (show _ = 41 from rfl) (fun w2 hI3 hs4 hv5 => ?_)
    refine sx_RP.step (pc2 := 42) (ls2 := [(3, .int ((ia w 112).getD (5) 0)), (0, .ref 111), (1, .int 1), (2, .int a2)]) (st2 := [.int ((ia w 112).getD (5) 0)]) (w3 := w2) rfl rfl ?_
    refine sx_RP.ret (r := (some (.int ((ia w 112).getD (5) 0)))) rfl rfl ?_
    exact ⟨⟨by rw [(bre_1 ⟨rfl, c1⟩).1]; rfl, by rw [(bre_1 ⟨rfl, c1⟩).2, FMb_row hs4, hv5, show (5 : Nat) = 4 + 1 from rfl, rowB_setF hI.1.a112.2 (by decide) (hI.manyM (by decide))]; rfl⟩, hI3, fun a ha => hs4 a (by omega)⟩
  · refine sx_RP.cu (as := [.int 1, .int a2]) (rest2 := []) (st3 := [.int 0]) rfl rfl rfl rfl rfl (p204n1 c1) rfl ?_
    refine sx_RP.step (pc2 := 17) (ls2 := [(0, .ref 111), (1, .int 1), (2, .int a2)]) (st2 := []) (w3 := w) rfl rfl ?_
    refine sx_RP.step (pc2 := 18) (ls2 := [(0, .ref 111), (1, .int 1), (2, .int a2)]) (st2 := [.ref 111]) (w3 := w) rfl rfl ?_
    refine sx_RP.step (pc2 := 19) (ls2 := [(0, .ref 111), (1, .int 1), (2, .int a2)]) (st2 := [.int 0, .ref 111]) (w3 := w) rfl rfl ?_
    refine sx_RP.callp (as2 := [.ref 111, .int 0]) (rest2 := []) rfl rfl (sx_inv_v2 (mi := 203) (k := 70) (st := [.int 0, .ref 111]) (w := w) rfl rfl hI.1.o111 rfl rfl rfl) rfl rfl rfl (K133_0 hI) (show _ = 22 from rfl) ?_
    rintro r4 w7 ⟨rfl, hI8, hE6⟩
    show sx_RP _ _ _ _ _ [.int (-1000000001)] _ _
    refine sx_RP.ret (r := (some (.int (-1000000001)))) rfl rfl ?_
    exact ⟨⟨by rw [(bre_3 (fun z => absurd z.1 (by decide)) (fun z => c1 z.2) (fun z => absurd z.1 (by decide))).1], by rw [(bre_3 (fun z => absurd z.1 (by decide)) (fun z => c1 z.2) (fun z => absurd z.1 (by decide))).2]; exact FMb_el hI hE6.el⟩, hI8, fun a ha => hE6.1 a (Or.inl (by omega))⟩
set_option maxRecDepth 20000 in
set_option maxHeartbeats 4000000 in
theorem B203_2 {xs : Option (List Int32)} {d : Nat} {w : List sx_C} (hI : WI w) (a2 : Int32) : sx_RP xs (d + 7) 203 0 (lv_args 0 [.ref 111, .int 2, .int a2]) [] w (fun r w2 => (r = some (.int (breA (FMb w) 2 a2)) ∧ FMb w2 = breU (FMb w) 2 a2) ∧ WI w2 ∧ ∀ a, a < 111 → w2[a]? = w[a]?) := by
  refine sx_RP.step (pc2 := 1) (ls2 := [(0, .ref 111), (1, .int 2), (2, .int a2)]) (st2 := [.int 2]) (w3 := w) rfl rfl ?_
  refine sx_RP.step (pc2 := 2) (ls2 := [(0, .ref 111), (1, .int 2), (2, .int a2)]) (st2 := [.int 0, .int 2]) (w3 := w) rfl rfl ?_
  refine sx_RP.step (pc2 := 3) (ls2 := [(0, .ref 111), (1, .int 2), (2, .int a2)]) (st2 := [.int 2, .int 0, .int 2]) (w3 := w) rfl rfl ?_
  refine sx_RP.cu (as := [.int 2, .int 0, .int 2]) (rest2 := []) (st3 := [.int 1]) rfl rfl rfl rfl rfl (cx_132p (by decide)) rfl ?_
  refine sx_RP.step (pc2 := 9) (ls2 := [(0, .ref 111), (1, .int 2), (2, .int a2)]) (st2 := []) (w3 := w) rfl rfl ?_
  refine sx_RP.step (pc2 := 10) (ls2 := [(0, .ref 111), (1, .int 2), (2, .int a2)]) (st2 := [.int 2]) (w3 := w) rfl rfl ?_
  refine sx_RP.step (pc2 := 11) (ls2 := [(0, .ref 111), (1, .int 2), (2, .int a2)]) (st2 := [.int a2, .int 2]) (w3 := w) rfl rfl ?_
  rcases Decidable.em ((1 : Int32) ≤ a2 ∧ a2 ≤ 99) with c1 | c1
  · refine sx_RP.cu (as := [.int 2, .int a2]) (rest2 := []) (st3 := [.int 1]) rfl rfl rfl rfl rfl (p204y2 c1) rfl ?_
    refine sx_RP.step (pc2 := 23) (ls2 := [(0, .ref 111), (1, .int 2), (2, .int a2)]) (st2 := []) (w3 := w) rfl rfl ?_
    refine sx_RP.step (pc2 := 24) (ls2 := [(0, .ref 111), (1, .int 2), (2, .int a2)]) (st2 := [.ref 111]) (w3 := w) rfl rfl ?_
    refine sx_RP.gf (v := .ref 112) rfl rfl hI.1.o111 rfl rfl (show _ = 27 from rfl) ?_
    refine sx_RP.step (pc2 := 28) (ls2 := [(0, .ref 111), (1, .int 2), (2, .int a2)]) (st2 := [.int 4, .ref 112]) (w3 := w) rfl rfl ?_
    refine sx_RP.step (pc2 := 29) (ls2 := [(0, .ref 111), (1, .int 2), (2, .int a2)]) (st2 := [.int 2, .int 4, .ref 112]) (w3 := w) rfl rfl ?_
    refine sx_RP.step (pc2 := 30) (ls2 := [(0, .ref 111), (1, .int 2), (2, .int a2)]) (st2 := [.int 6, .ref 112]) (w3 := w) rfl rfl ?_
    refine sx_RP.ild (c := 6) rfl hI.1.a112.1 hI.1.a112.2 (sx_in_nI (show 6 < 172 by omega) (by decide)) (show (nI (6)).toNatClampNeg = 6 from nI_clamp (by omega)) (show _ = 31 from rfl) ?_
    refine sx_RP.step (pc2 := 32) (ls2 := [(3, .int ((ia w 112).getD (6) 0)), (0, .ref 111), (1, .int 2), (2, .int a2)]) (st2 := []) (w3 := w) rfl rfl ?_
    refine sx_RP.step (pc2 := 33) (ls2 := [(3, .int ((ia w 112).getD (6) 0)), (0, .ref 111), (1, .int 2), (2, .int a2)]) (st2 := [.ref 111]) (w3 := w) rfl rfl ?_
    refine sx_RP.gf (v := .ref 112) rfl rfl hI.1.o111 rfl rfl (show _ = 36 from rfl) ?_
    refine sx_RP.step (pc2 := 37) (ls2 := [(3, .int ((ia w 112).getD (6) 0)), (0, .ref 111), (1, .int 2), (2, .int a2)]) (st2 := [.int 4, .ref 112]) (w3 := w) rfl rfl ?_
    refine sx_RP.step (pc2 := 38) (ls2 := [(3, .int ((ia w 112).getD (6) 0)), (0, .ref 111), (1, .int 2), (2, .int a2)]) (st2 := [.int 2, .int 4, .ref 112]) (w3 := w) rfl rfl ?_
    refine sx_RP.step (pc2 := 39) (ls2 := [(3, .int ((ia w 112).getD (6) 0)), (0, .ref 111), (1, .int 2), (2, .int a2)]) (st2 := [.int 6, .ref 112]) (w3 := w) rfl rfl ?_
    refine sx_RP.step (pc2 := 40) (ls2 := [(3, .int ((ia w 112).getD (6) 0)), (0, .ref 111), (1, .int 2), (2, .int a2)]) (st2 := [.int a2, .int 6, .ref 112]) (w3 := w) rfl rfl ?_
    refine sx_RP.xM (k := 6) hI (by decide) rfl (by omega) (eOK_n (by omega)) (show _ = 41 from rfl) (fun w2 hI3 hs4 hv5 => ?_)
    refine sx_RP.step (pc2 := 42) (ls2 := [(3, .int ((ia w 112).getD (6) 0)), (0, .ref 111), (1, .int 2), (2, .int a2)]) (st2 := [.int ((ia w 112).getD (6) 0)]) (w3 := w2) rfl rfl ?_
    refine sx_RP.ret (r := (some (.int ((ia w 112).getD (6) 0)))) rfl rfl ?_
    exact ⟨⟨by rw [(bre_2 ⟨rfl, c1⟩).1]; rfl, by rw [(bre_2 ⟨rfl, c1⟩).2, FMb_row hs4, hv5, show (6 : Nat) = 4 + 2 from rfl, rowB_setF hI.1.a112.2 (by decide) (hI.manyM (by decide))]; rfl⟩, hI3, fun a ha => hs4 a (by omega)⟩
  · refine sx_RP.cu (as := [.int 2, .int a2]) (rest2 := []) (st3 := [.int 0]) rfl rfl rfl rfl rfl (p204n2 c1) rfl ?_
    refine sx_RP.step (pc2 := 17) (ls2 := [(0, .ref 111), (1, .int 2), (2, .int a2)]) (st2 := []) (w3 := w) rfl rfl ?_
    refine sx_RP.step (pc2 := 18) (ls2 := [(0, .ref 111), (1, .int 2), (2, .int a2)]) (st2 := [.ref 111]) (w3 := w) rfl rfl ?_
    refine sx_RP.step (pc2 := 19) (ls2 := [(0, .ref 111), (1, .int 2), (2, .int a2)]) (st2 := [.int 0, .ref 111]) (w3 := w) rfl rfl ?_
    refine sx_RP.callp (as2 := [.ref 111, .int 0]) (rest2 := []) rfl rfl (sx_inv_v2 (mi := 203) (k := 70) (st := [.int 0, .ref 111]) (w := w) rfl rfl hI.1.o111 rfl rfl rfl) rfl rfl rfl (K133_0 hI) (show _ = 22 from rfl) ?_
    rintro r4 w7 ⟨rfl, hI8, hE6⟩
    show sx_RP _ _ _ _ _ [.int (-1000000001)] _ _
    refine sx_RP.ret (r := (some (.int (-1000000001)))) rfl rfl ?_
    exact ⟨⟨by rw [(bre_3 (fun z => absurd z.1 (by decide)) (fun z => absurd z.1 (by decide)) (fun z => c1 z.2)).1], by rw [(bre_3 (fun z => absurd z.1 (by decide)) (fun z => absurd z.1 (by decide)) (fun z => c1 z.2)).2]; exact FMb_el hI hE6.el⟩, hI8, fun a ha => hE6.1 a (Or.inl (by omega))⟩
set_option maxRecDepth 20000 in
set_option maxHeartbeats 4000000 in
theorem B203_n {xs : Option (List Int32)} {d : Nat} {w : List sx_C} (hI : WI w) (a1 a2 : Int32) (hh : ¬ (0 ≤ a1 ∧ a1 ≤ 2)) : sx_RP xs (d + 7) 203 0 (lv_args 0 [.ref 111, .int a1, .int a2]) [] w (fun r w2 => (r = some (.int (breA (FMb w) a1 a2)) ∧ FMb w2 = breU (FMb w) a1 a2) ∧ WI w2 ∧ ∀ a, a < 111 → w2[a]? = w[a]?) := by
  refine sx_RP.step (pc2 := 1) (ls2 := [(0, .ref 111), (1, .int a1), (2, .int a2)]) (st2 := [.int a1]) (w3 := w) rfl rfl ?_
  refine sx_RP.step (pc2 := 2) (ls2 := [(0, .ref 111), (1, .int a1), (2, .int a2)]) (st2 := [.int 0, .int a1]) (w3 := w) rfl rfl ?_
  refine sx_RP.step (pc2 := 3) (ls2 := [(0, .ref 111), (1, .int a1), (2, .int a2)]) (st2 := [.int 2, .int 0, .int a1]) (w3 := w) rfl rfl ?_
  refine sx_RP.cu (as := [.int a1, .int 0, .int 2]) (rest2 := []) (st3 := [.int 0]) rfl rfl rfl rfl rfl (cx_132o hh) rfl ?_
  refine sx_RP.step (pc2 := 17) (ls2 := [(0, .ref 111), (1, .int a1), (2, .int a2)]) (st2 := []) (w3 := w) rfl rfl ?_
  refine sx_RP.step (pc2 := 18) (ls2 := [(0, .ref 111), (1, .int a1), (2, .int a2)]) (st2 := [.ref 111]) (w3 := w) rfl rfl ?_
  refine sx_RP.step (pc2 := 19) (ls2 := [(0, .ref 111), (1, .int a1), (2, .int a2)]) (st2 := [.int 0, .ref 111]) (w3 := w) rfl rfl ?_
  refine sx_RP.callp (as2 := [.ref 111, .int 0]) (rest2 := []) rfl rfl (sx_inv_v2 (mi := 203) (k := 70) (st := [.int 0, .ref 111]) (w := w) rfl rfl hI.1.o111 rfl rfl rfl) rfl rfl rfl (K133_0 hI) (show _ = 22 from rfl) ?_
  rintro r4 w2 ⟨rfl, hI3, hE1⟩
  show sx_RP _ _ _ _ _ [.int (-1000000001)] _ _
  refine sx_RP.ret (r := (some (.int (-1000000001)))) rfl rfl ?_
  exact ⟨⟨by rw [(bre_3 (fun z => hh (by rw [z.1]; decide)) (fun z => hh (by rw [z.1]; decide)) (fun z => hh (by rw [z.1]; decide))).1], by rw [(bre_3 (fun z => hh (by rw [z.1]; decide)) (fun z => hh (by rw [z.1]; decide)) (fun z => hh (by rw [z.1]; decide))).2]; exact FMb_el hI hE1.el⟩, hI3, fun a ha => hE1.1 a (Or.inl (by omega))⟩
theorem B203 {xs : Option (List Int32)} {d : Nat} {w : List sx_C} (hI : WI w) (a1 a2 : Int32) : sx_RP xs (d + 7) 203 0 (lv_args 0 [.ref 111, .int a1, .int a2]) [] w (fun r w2 => (r = some (.int (breA (FMb w) a1 a2)) ∧ FMb w2 = breU (FMb w) a1 a2) ∧ WI w2 ∧ ∀ a, a < 111 → w2[a]? = w[a]?) := by
  by_cases hh : 0 ≤ a1 ∧ a1 ≤ 2
  · rcases in_cases a1 0 2 (m := 0) (n := 2) rfl rfl (by decide) (by decide) with q | ⟨x, h1, h2, rfl⟩
    · exact absurd hh q
    · rcases (show x = 0 ∨ x = 1 ∨ x = 2 by omega) with rfl | rfl | rfl
      · exact B203_0 hI a2
      · exact B203_1 hI a2
      · exact B203_2 hI a2
  · exact B203_n hI a1 a2 hh
set_option maxRecDepth 20000 in
set_option maxHeartbeats 4000000 in
theorem B240 {xs : Option (List Int32)} {d : Nat} {w : List sx_C} (hI : WI w) : sx_RP xs (d + 7) 240 0 (lv_args 0 [.ref 111]) [] w (fun r w2 => (r = some (.int (1)) ∧ FMb w2 = imgU (FMb w)) ∧ WI w2 ∧ ∀ a, a < 111 → w2[a]? = w[a]?) := by
  refine sx_RP.step (pc2 := 1) (ls2 := [(0, .ref 111)]) (st2 := [.ref 111]) (w3 := w) rfl rfl ?_
  refine sx_RP.gf (v := .ref 112) rfl rfl hI.1.o111 rfl rfl (show _ = 4 from rfl) ?_
  refine sx_RP.step (pc2 := 5) (ls2 := [(0, .ref 111)]) (st2 := [.ref 111, .ref 112]) (w3 := w) rfl rfl ?_
  refine sx_RP.gf (v := .ref 113) rfl rfl hI.1.o111 rfl rfl (show _ = 8 from rfl) ?_
  refine sx_RP.callp (as2 := [.ref 112, .ref 113]) (rest2 := []) rfl rfl rfl rfl rfl rfl (K175 hI (a := 112) (b := 113) (by decide) (by decide) (by decide)) (show _ = 11 from rfl) ?_
  rintro r4 w2 ⟨rfl, hI3, hl1⟩
  show sx_RP _ _ _ _ _ [] _ _
  refine sx_RP.step (pc2 := 12) (ls2 := [(0, .ref 111)]) (st2 := [.ref 111]) (w3 := w2) rfl rfl ?_
  refine sx_RP.step (pc2 := 13) (ls2 := [(0, .ref 111)]) (st2 := [.int 1, .ref 111]) (w3 := w2) rfl rfl ?_
  refine sx_RP.xJ (k := 4) hI3 rfl rfl (by decide) rfl ⟨1, by decide, rfl⟩ (show _ = 16 from rfl) (fun w4 hI5 hs6 hv7 hr8 => ?_)
  refine sx_RP.step (pc2 := 17) (ls2 := [(0, .ref 111)]) (st2 := [.int 1]) (w3 := w4) rfl rfl ?_
  refine sx_RP.ret (r := (some (.int 1))) rfl rfl ?_
  refine ⟨⟨rfl, ?_⟩, hI5, fun a ha => (hs6 a (by omega)).trans (hl1.1 a (by omega))⟩
  unfold FMb imgU
  rw [hv7, if_pos rfl, ia_of (hs6 112 (by decide)), ia_of (hl1.1 112 (by decide)), ia_of (hs6 113 (by decide)), hl1.2]
  unfold tapM
  rw [hr8 11 (by decide), fi_same 11 (hl1.1 111 (by decide)), ia_of (hs6 121 (by decide)), ia_of (hl1.1 121 (by decide))]
set_option maxRecDepth 20000 in
set_option maxHeartbeats 4000000 in
theorem B241 {xs : Option (List Int32)} {d : Nat} {w : List sx_C} (hI : WI w) : sx_RP xs (d + 7) 241 0 (lv_args 0 [.ref 111]) [] w (fun r w2 => (r = some (.int (undA (FMb w))) ∧ FMb w2 = undU (FMb w)) ∧ WI w2 ∧ ∀ a, a < 111 → w2[a]? = w[a]?) := by
  rcases kept_01 hI with ek | ek
  · refine sx_RP.step (pc2 := 1) (ls2 := [(0, .ref 111)]) (st2 := [.ref 111]) (w3 := w) rfl rfl ?_
    refine sx_RP.gf (v := .int (fi w 111 4)) rfl rfl hI.1.o111 rfl rfl (show _ = 4 from rfl) ?_
    rw [ek]
    refine sx_RP.step (pc2 := 7) (ls2 := [(0, .ref 111)]) (st2 := []) (w3 := w) rfl rfl ?_
    refine sx_RP.step (pc2 := 8) (ls2 := [(0, .ref 111)]) (st2 := [.ref 111]) (w3 := w) rfl rfl ?_
    refine sx_RP.step (pc2 := 9) (ls2 := [(0, .ref 111)]) (st2 := [.int 3, .ref 111]) (w3 := w) rfl rfl ?_
    refine sx_RP.callp (as2 := [.ref 111, .int 3]) (rest2 := []) rfl rfl (sx_inv_v2 (mi := 241) (k := 70) (st := [.int 3, .ref 111]) (w := w) rfl rfl hI.1.o111 rfl rfl rfl) rfl rfl rfl (K133_3 hI) (show _ = 12 from rfl) ?_
    rintro r4 w2 ⟨rfl, hI3, hE1⟩
    show sx_RP _ _ _ _ _ [.int (-1000000004)] _ _
    refine sx_RP.ret (r := (some (.int (-1000000004)))) rfl rfl ?_
    exact ⟨⟨by unfold undA; rw [if_neg (show ¬ (FMb w).2.1 = 1 by show ¬ fi w 111 4 = 1; rw [ek]; decide)], by unfold undU; rw [if_neg (show ¬ (FMb w).2.1 = 1 by show ¬ fi w 111 4 = 1; rw [ek]; decide)]; exact FMb_el hI hE1.el⟩, hI3, fun a ha => hE1.1 a (Or.inl (by omega))⟩
  · refine sx_RP.step (pc2 := 1) (ls2 := [(0, .ref 111)]) (st2 := [.ref 111]) (w3 := w) rfl rfl ?_
    refine sx_RP.gf (v := .int (fi w 111 4)) rfl rfl hI.1.o111 rfl rfl (show _ = 4 from rfl) ?_
    rw [ek]
    refine sx_RP.step (pc2 := 13) (ls2 := [(0, .ref 111)]) (st2 := []) (w3 := w) rfl rfl ?_
    refine sx_RP.step (pc2 := 14) (ls2 := [(0, .ref 111)]) (st2 := [.ref 111]) (w3 := w) rfl rfl ?_
    refine sx_RP.gf (v := .ref 113) rfl rfl hI.1.o111 rfl rfl (show _ = 17 from rfl) ?_
    refine sx_RP.step (pc2 := 18) (ls2 := [(0, .ref 111)]) (st2 := [.ref 111, .ref 113]) (w3 := w) rfl rfl ?_
    refine sx_RP.gf (v := .ref 112) rfl rfl hI.1.o111 rfl rfl (show _ = 21 from rfl) ?_
    refine sx_RP.callp (as2 := [.ref 113, .ref 112]) (rest2 := []) rfl rfl rfl rfl rfl rfl (K175 hI (a := 113) (b := 112) (by decide) (by decide) (by decide)) (show _ = 24 from rfl) ?_
    rintro r4 w5 ⟨rfl, hI6, hl4⟩
    show sx_RP _ _ _ _ _ [] _ _
    refine sx_RP.step (pc2 := 25) (ls2 := [(0, .ref 111)]) (st2 := [.ref 111]) (w3 := w5) rfl rfl ?_
    refine sx_RP.gf (v := .ref 112) rfl rfl hI6.1.o111 rfl rfl (show _ = 28 from rfl) ?_
    refine sx_RP.step (pc2 := 29) (ls2 := [(0, .ref 111)]) (st2 := [.int 1, .ref 112]) (w3 := w5) rfl rfl ?_
    refine sx_RP.ild (c := 1) rfl hI6.1.a112.1 hI6.1.a112.2 (sx_in_nI (show 1 < 172 by omega) (by decide)) (show (nI 1).toNatClampNeg = 1 from nI_clamp (by omega)) (show _ = 30 from rfl) ?_
    obtain ⟨x7, hx8, ex9⟩ : inR ((ia w5 112).getD 1 0) 10 := (hI6.s (1) (by omega)).1 rfl
    rw [ex9]
    refine sx_RP.ret (r := (some (.int (nI x7)))) rfl rfl ?_
    refine ⟨⟨?_, ?_⟩, hI6, fun a ha => hl4.1 a (by omega)⟩
    · unfold undA FMb
      rw [if_pos ek, if_pos ek]
      show some (Value.int (nI x7)) = some (Value.int (nI (rowB (ia w 113)).1.length))
      rw [← hl4.2]
      unfold rowB
      rw [mkB_len1, ex9, iN_n (by omega)]
    · rw [FMb_row hl4.1, hl4.2]
      unfold undU FMb
      rw [if_pos ek, if_pos ek]
set_option maxRecDepth 20000 in
set_option maxHeartbeats 4000000 in
theorem B242 {xs : Option (List Int32)} {d : Nat} {w : List sx_C} (hI : WI w) : sx_RP xs (d + 7) 242 0 (lv_args 0 [.ref 111]) [] w (fun r w2 => (r = some (.int ((FMb w).2.1)) ∧ FMb w2 = teaU (FMb w)) ∧ WI w2 ∧ ∀ a, a < 111 → w2[a]? = w[a]?) := by
  rcases kept_01 hI with ek | ek
  · refine sx_RP.step (pc2 := 1) (ls2 := [(0, .ref 111)]) (st2 := [.ref 111]) (w3 := w) rfl rfl ?_
    refine sx_RP.gf (v := .int (fi w 111 4)) rfl rfl hI.1.o111 rfl rfl (show _ = 4 from rfl) ?_
    rw [ek]
    refine sx_RP.step (pc2 := 11) (ls2 := [(0, .ref 111)]) (st2 := []) (w3 := w) rfl rfl ?_
    refine sx_RP.step (pc2 := 12) (ls2 := [(0, .ref 111)]) (st2 := [.int 0]) (w3 := w) rfl rfl ?_
    refine sx_RP.step (pc2 := 13) (ls2 := [(1, .int 0), (0, .ref 111)]) (st2 := []) (w3 := w) rfl rfl ?_
    refine sx_RP.step (pc2 := 14) (ls2 := [(1, .int 0), (0, .ref 111)]) (st2 := [.ref 111]) (w3 := w) rfl rfl ?_
    refine sx_RP.step (pc2 := 15) (ls2 := [(1, .int 0), (0, .ref 111)]) (st2 := [.int 0, .ref 111]) (w3 := w) rfl rfl ?_
    refine sx_RP.xJ (k := 4) hI rfl rfl (by decide) rfl ⟨0, by decide, rfl⟩ (show _ = 18 from rfl) (fun w1 hI2 hs3 hv4 hr5 => ?_)
    refine sx_RP.step (pc2 := 19) (ls2 := [(1, .int 0), (0, .ref 111)]) (st2 := [.int 0]) (w3 := w1) rfl rfl ?_
    refine sx_RP.ret (r := (some (.int 0))) rfl rfl ?_
    refine ⟨⟨by show some (Value.int 0) = some (Value.int (fi w 111 4)); rw [ek], ?_⟩, hI2, fun a ha => hs3 a (by omega)⟩
    unfold FMb teaU
    rw [hv4, if_neg (by decide), ia_of (hs3 112 (by decide))]
    unfold tapM
    rw [hr5 11 (by decide), ia_of (hs3 121 (by decide))]
  · refine sx_RP.step (pc2 := 1) (ls2 := [(0, .ref 111)]) (st2 := [.ref 111]) (w3 := w) rfl rfl ?_
    refine sx_RP.gf (v := .int (fi w 111 4)) rfl rfl hI.1.o111 rfl rfl (show _ = 4 from rfl) ?_
    rw [ek]
    refine sx_RP.step (pc2 := 7) (ls2 := [(0, .ref 111)]) (st2 := []) (w3 := w) rfl rfl ?_
    refine sx_RP.step (pc2 := 8) (ls2 := [(0, .ref 111)]) (st2 := [.int 1]) (w3 := w) rfl rfl ?_
    refine sx_RP.step (pc2 := 12) (ls2 := [(0, .ref 111)]) (st2 := [.int 1]) (w3 := w) rfl rfl ?_
    refine sx_RP.step (pc2 := 13) (ls2 := [(1, .int 1), (0, .ref 111)]) (st2 := []) (w3 := w) rfl rfl ?_
    refine sx_RP.step (pc2 := 14) (ls2 := [(1, .int 1), (0, .ref 111)]) (st2 := [.ref 111]) (w3 := w) rfl rfl ?_
    refine sx_RP.step (pc2 := 15) (ls2 := [(1, .int 1), (0, .ref 111)]) (st2 := [.int 0, .ref 111]) (w3 := w) rfl rfl ?_
    refine sx_RP.xJ (k := 4) hI rfl rfl (by decide) rfl ⟨0, by decide, rfl⟩ (show _ = 18 from rfl) (fun w6 hI7 hs8 hv9 hr10 => ?_)
    refine sx_RP.step (pc2 := 19) (ls2 := [(1, .int 1), (0, .ref 111)]) (st2 := [.int 1]) (w3 := w6) rfl rfl ?_
    refine sx_RP.ret (r := (some (.int 1))) rfl rfl ?_
    refine ⟨⟨by show some (Value.int 1) = some (Value.int (fi w 111 4)); rw [ek], ?_⟩, hI7, fun a ha => hs8 a (by omega)⟩
    unfold FMb teaU
    rw [hv9, if_neg (by decide), ia_of (hs8 112 (by decide))]
    unfold tapM
    rw [hr10 11 (by decide), ia_of (hs8 121 (by decide))]
set_option maxRecDepth 20000 in
set_option maxHeartbeats 4000000 in
theorem B209 {xs : Option (List Int32)} {d : Nat} {w : List sx_C} (hI : WI w) : sx_RP xs (d + 7) 209 0 (lv_args 0 [.ref 111]) [] w (fun r w2 => (r = some (.int (nI (FMb w).2.2.2.length)) ∧ FMb w2 = wipU (FMb w)) ∧ WI w2 ∧ ∀ a, a < 111 → w2[a]? = w[a]?) := by
  obtain ⟨n, hn, en⟩ := hI.m.2.1
  refine sx_RP.step (pc2 := 1) (ls2 := [(0, .ref 111)]) (st2 := [.ref 111]) (w3 := w) rfl rfl ?_
  refine sx_RP.gf (v := .int (fi w 111 11)) rfl rfl hI.1.o111 rfl rfl (show _ = 4 from rfl) ?_
  rw [en]
  refine sx_RP.step (pc2 := 5) (ls2 := [(1, .int (nI n)), (0, .ref 111)]) (st2 := []) (w3 := w) rfl rfl ?_
  refine sx_RP.step (pc2 := 6) (ls2 := [(1, .int (nI n)), (0, .ref 111)]) (st2 := [.ref 111]) (w3 := w) rfl rfl ?_
  refine sx_RP.step (pc2 := 7) (ls2 := [(1, .int (nI n)), (0, .ref 111)]) (st2 := [.int 0, .ref 111]) (w3 := w) rfl rfl ?_
  refine sx_RP.xJ (k := 11) hI rfl rfl (by decide) rfl ⟨0, by decide, rfl⟩ (show _ = 10 from rfl) (fun w1 hI2 hs3 hv4 hr5 => ?_)
  refine sx_RP.step (pc2 := 11) (ls2 := [(1, .int (nI n)), (0, .ref 111)]) (st2 := [.int (nI n)]) (w3 := w1) rfl rfl ?_
  refine sx_RP.ret (r := (some (.int (nI n)))) rfl rfl ?_
  refine ⟨⟨by rw [tapM_len en hn], ?_⟩, hI2, fun a ha => hs3 a (by omega)⟩
  unfold FMb wipU
  rw [tapM_nil hv4, hr5 4 (by decide), ia_of (hs3 112 (by decide)), ia_of (hs3 113 (by decide))]
end
-- 89b.feed.lean.txt
section
theorem byte_hi : ∀ i : Fin 32, 8 ≤ i.val → (BitVec.ofNat 32 255).getLsbD i.val = false := by decide
theorem byte_eq {x : Int32} : (vp_nar .byte (x.toInt8.toInt32)) &&& 255 = x &&& 255 := by
  show (x.toInt8.toInt32.toInt8.toInt32) &&& 255 = x &&& 255
  apply Int32.toBitVec_inj.mp
  simp only [Int32.toBitVec_and, Int8.toBitVec_toInt32, Int32.toBitVec_toInt8]
  apply BitVec.eq_of_getLsbD_eq
  intro i hi
  rw [BitVec.getLsbD_and, BitVec.getLsbD_and]
  rcases (show i < 8 ∨ 8 ≤ i by omega) with h | h
  · congr 1
    rw [BitVec.getLsbD_signExtend, if_pos h, BitVec.getLsbD_signExtend, if_pos hi, BitVec.getLsbD_signExtend, if_pos h, BitVec.getLsbD_signExtend, if_pos hi]
    simp [h, hi]
  · have e := byte_hi ⟨i, hi⟩ h
    rw [show (Int32.toBitVec 255) = BitVec.ofNat 32 255 from rfl, e, Bool.and_false, Bool.and_false]
theorem tapC_add {w w2 : List sx_C} {n : Nat} {x : Int32} (hI : WI w) (en : fi w 96 1 = nI n) (hn : n < 120) (h1 : fi w2 96 1 = nI (n + 1)) (h2 : ia w2 97 = (ia w 97).set n x) : tapC w2 = tapC w ++ [x &&& 255] := by
  have hl := hI.1.a97.2
  unfold tapC
  rw [h1, en, iN_n (by omega), iN_n (by omega)]
  exact map_add (fun i hi => by rw [h2, gd_ne (by omega)]) (by rw [h2, gd_eq (by omega)])
theorem tapM_add {w w2 : List sx_C} {n : Nat} {x : Int32} (hI : WI w) (en : fi w 111 11 = nI n) (hn : n < 120) (h1 : fi w2 111 11 = nI (n + 1)) (h2 : ia w2 121 = (ia w 121).set n x) : tapM w2 = tapM w ++ [x] := by
  have hl := hI.1.a121.2
  unfold tapM
  rw [h1, en, iN_n (by omega), iN_n (by omega)]
  exact map_add (fun i hi => by rw [h2, gd_ne (by omega)]) (by rw [h2, gd_eq (by omega)])
section SXFE
variable {t : BT} {a1 a2 : Int32}
theorem fee_1 (q : ¬ (1 ≤ a2 ∧ a2 ≤ 4)) : feeA t a2 = -1000000001 ∧ feeU t a1 a2 = t := ⟨(feed_n q).1, if_neg q⟩
theorem fee_2 {n x : Nat} (hl : t.2.2.2.length = n) (h1 : 1 ≤ x) (h4 : x ≤ 4) (h : ¬ n + x ≤ 120) : feeA t (nI x) = -1000000002 ∧ feeU t a1 (nI x) = t := by
  refine ⟨by unfold feeA; rw [hl]; exact (feed_f h1 h4 h).1, ?_⟩
  unfold feeU
  rw [if_pos (feed_in h1 h4), iN_n (by omega), hl, if_neg h]
theorem fee_3 {n x : Nat} (hl : t.2.2.2.length = n) (h1 : 1 ≤ x) (h4 : x ≤ 4) (h : n + x ≤ 120) : feeA t (nI x) = nI (n + x) ∧ feeU t a1 (nI x) = (t.1, t.2.1, t.2.2.1, t.2.2.2 ++ bytesOf a1 x) := by
  refine ⟨by unfold feeA; rw [hl]; exact (feed_y h1 h4 h).1, ?_⟩
  unfold feeU
  rw [if_pos (feed_in h1 h4), iN_n (by omega), hl, if_pos h]
end SXFE
theorem bytesOf_s {a : Int32} {n : Nat} : bytesOf a (n + 1) = byteOf a n :: bytesOf a n := by
  unfold bytesOf
  rw [List.range_succ_eq_map, List.map_cons, List.map_map]
  congr 1
  exact List.map_congr_left (fun j hj => by show byteOf a (n + 1 - 1 - (j + 1)) = byteOf a (n - 1 - j); congr 1; omega)
def Off (w w2 : List sx_C) : Prop := ∀ a, a ≠ 96 → a ≠ 97 → w2[a]? = w[a]?
set_option maxRecDepth 20000 in
set_option maxHeartbeats 4000000 in
theorem X89 {xs : Option (List Int32)} {d : Nat} {w : List sx_C} (hI : WI w) {n : Nat} (hn : fi w 96 1 = nI n) (hn1 : n < 120) (b : Int32) : sx_RP xs d 89 0 (lv_args 0 [.ref 96, .int b]) [] w (fun r w2 => (r = none ∧ tapC w2 = tapC w ++ [vp_nar .byte b &&& 255] ∧ fi w2 96 1 = nI (n + 1)) ∧ WI w2 ∧ Off w w2) := by
  refine sx_RP.step (pc2 := 1) (ls2 := [(0, .ref 96), (1, .int b)]) (st2 := [.ref 96]) (w3 := w) rfl rfl ?_
  refine sx_RP.gt (k := 1) hI rfl rfl (by decide) (show _ = 4 from rfl) ?_
  rw [hn]
  refine sx_RP.step (pc2 := 6) (ls2 := [(0, .ref 96), (1, .int b)]) (st2 := [.int 120, .int (nI n)]) (w3 := w) rfl rfl ?_
  refine sx_RP.br (p1 := 29) (l1 := [(0, .ref 96), (1, .int b)]) (s1 := []) (v1 := w) (p2 := 9) (l2 := [(0, .ref 96), (1, .int b)]) (s2 := []) (v2 := w) rfl rfl (fun q1 => ?_) (fun q1 => ?_)
  · replace q1 := of_decide_eq_true q1
    replace q1 := (nI_leI (a := 120) (b := n) (by omega) (by omega)).mp q1
    refine sx_RP.ret (r := none) rfl rfl ?_
    exact absurd hn1 (by omega)
  · replace q1 := of_decide_eq_false q1
    replace q1 := mt (nI_leI (a := 120) (b := n) (by omega) (by omega)).mpr q1
    refine sx_RP.step (pc2 := 10) (ls2 := [(0, .ref 96), (1, .int b)]) (st2 := [.ref 96]) (w3 := w) rfl rfl ?_
    refine sx_RP.gf (v := .ref 97) rfl rfl hI.1.o96 rfl rfl (show _ = 13 from rfl) ?_
    refine sx_RP.step (pc2 := 14) (ls2 := [(0, .ref 96), (1, .int b)]) (st2 := [.ref 96, .ref 97]) (w3 := w) rfl rfl ?_
    refine sx_RP.gt (k := 1) hI rfl rfl (by decide) (show _ = 17 from rfl) ?_
    rw [hn]
    refine sx_RP.step (pc2 := 18) (ls2 := [(0, .ref 96), (1, .int b)]) (st2 := [.int b, .int (nI n), .ref 97]) (w3 := w) rfl rfl ?_
    refine sx_RP.xT (c := n) hI rfl (by omega) (show _ = 19 from rfl) (fun w2 hI3 hs4 hv5 => ?_)
    have ex6 := (fi_same 1 (hs4 96 (by omega))).trans hn
    refine sx_RP.step (pc2 := 20) (ls2 := [(0, .ref 96), (1, .int b)]) (st2 := [.ref 96]) (w3 := w2) rfl rfl ?_
    refine sx_RP.step (pc2 := 21) (ls2 := [(0, .ref 96), (1, .int b)]) (st2 := [.ref 96, .ref 96]) (w3 := w2) rfl rfl ?_
    refine sx_RP.gt (k := 1) hI3 rfl rfl (by decide) (show _ = 24 from rfl) ?_
    rw [ex6]
    refine sx_RP.step (pc2 := 25) (ls2 := [(0, .ref 96), (1, .int b)]) (st2 := [.int 1, .int (nI n), .ref 96]) (w3 := w2) rfl rfl ?_
    refine sx_RP.step (pc2 := 26) (ls2 := [(0, .ref 96), (1, .int b)]) (st2 := [.int ((nI n) + 1), .ref 96]) (w3 := w2) rfl rfl ?_
    rw [show ((nI n) + 1 : Int32) = nI (n + 1) from nI_add n 1]
    refine sx_RP.xN hI3 rfl rfl rfl ⟨(n + 1), by omega, rfl⟩ (show _ = 29 from rfl) (fun w7 hI8 hs9 hv10 => ?_)
    refine sx_RP.ret (r := none) rfl rfl ?_
    exact ⟨⟨rfl, tapC_add hI hn hn1 hv10 ((ia_of (hs9 97 (by decide))).trans hv5), hv10⟩, hI8, fun a h1 h2 => (hs9 a h1).trans (hs4 a h2)⟩
set_option maxRecDepth 20000 in
set_option maxHeartbeats 4000000 in
theorem X87_m1 {xs : Option (List Int32)} {d n m : Nat} {a1 : Int32} {w : List sx_C} (hI : WI w) (h120 : m + 0 ≤ 120) (hm : fi w 96 1 = nI m) : sx_RP xs (d + 7) 87 38 [(0, .ref 0), (1, .int a1), (2, .int (nI n)), (3, .int (-1))] [] w (fun r w2 => (r = some (.int (nI (m + 0))) ∧ tapC w2 = tapC w ++ bytesOf a1 0) ∧ WI w2 ∧ Off w w2) := by
  refine sx_RP.step (pc2 := 39) (ls2 := [(0, .ref 0), (1, .int a1), (2, .int (nI n)), (3, .int (-1))]) (st2 := [.int (-1)]) (w3 := w) rfl rfl ?_
  refine sx_RP.step (pc2 := 62) (ls2 := [(0, .ref 0), (1, .int a1), (2, .int (nI n)), (3, .int (-1))]) (st2 := []) (w3 := w) rfl rfl ?_
  refine sx_RP.step (pc2 := 63) (ls2 := [(0, .ref 0), (1, .int a1), (2, .int (nI n)), (3, .int (-1))]) (st2 := [.ref 0]) (w3 := w) rfl rfl ?_
  refine sx_RP.gf (v := .ref 96) rfl rfl hI.1.o0 rfl rfl (show _ = 66 from rfl) ?_
  refine sx_RP.gt (k := 1) hI rfl rfl (by decide) (show _ = 69 from rfl) ?_
  rw [hm]
  refine sx_RP.ret (r := (some (.int (nI m)))) rfl rfl ?_
  exact ⟨⟨by rw [Nat.add_zero], by rw [show bytesOf a1 0 = [] from rfl, List.append_nil]⟩, hI, fun _ _ _ => rfl⟩
set_option maxRecDepth 20000 in
set_option maxHeartbeats 4000000 in
theorem X87_0 {xs : Option (List Int32)} {d n m : Nat} {a1 : Int32} {w : List sx_C} (hI : WI w) (h120 : m + 1 ≤ 120) (hm : fi w 96 1 = nI m) : sx_RP xs (d + 7) 87 38 [(0, .ref 0), (1, .int a1), (2, .int (nI n)), (3, .int 0)] [] w (fun r w2 => (r = some (.int (nI (m + 1))) ∧ tapC w2 = tapC w ++ bytesOf a1 1) ∧ WI w2 ∧ Off w w2) := by
  refine sx_RP.step (pc2 := 39) (ls2 := [(0, .ref 0), (1, .int a1), (2, .int (nI n)), (3, .int 0)]) (st2 := [.int 0]) (w3 := w) rfl rfl ?_
  refine sx_RP.step (pc2 := 42) (ls2 := [(0, .ref 0), (1, .int a1), (2, .int (nI n)), (3, .int 0)]) (st2 := []) (w3 := w) rfl rfl ?_
  refine sx_RP.step (pc2 := 43) (ls2 := [(0, .ref 0), (1, .int a1), (2, .int (nI n)), (3, .int 0)]) (st2 := [.ref 0]) (w3 := w) rfl rfl ?_
  refine sx_RP.gf (v := .ref 96) rfl rfl hI.1.o0 rfl rfl (show _ = 46 from rfl) ?_
  refine sx_RP.step (pc2 := 47) (ls2 := [(0, .ref 0), (1, .int a1), (2, .int (nI n)), (3, .int 0)]) (st2 := [.int a1, .ref 96]) (w3 := w) rfl rfl ?_
  refine sx_RP.step (pc2 := 49) (ls2 := [(0, .ref 0), (1, .int a1), (2, .int (nI n)), (3, .int 0)]) (st2 := [.int 8, .int a1, .ref 96]) (w3 := w) rfl rfl ?_
  refine sx_RP.step (pc2 := 50) (ls2 := [(0, .ref 0), (1, .int a1), (2, .int (nI n)), (3, .int 0)]) (st2 := [.int 0, .int 8, .int a1, .ref 96]) (w3 := w) rfl rfl ?_
  refine sx_RP.step (pc2 := 51) (ls2 := [(0, .ref 0), (1, .int a1), (2, .int (nI n)), (3, .int 0)]) (st2 := [.int 0, .int a1, .ref 96]) (w3 := w) rfl rfl ?_
  refine sx_RP.step (pc2 := 52) (ls2 := [(0, .ref 0), (1, .int a1), (2, .int (nI n)), (3, .int 0)]) (st2 := [.int (a1 >>> (0 &&& 31)), .ref 96]) (w3 := w) rfl rfl ?_
  refine sx_RP.step (pc2 := 53) (ls2 := [(0, .ref 0), (1, .int a1), (2, .int (nI n)), (3, .int 0)]) (st2 := [.int ((a1 >>> (0 &&& 31)).toInt8.toInt32), .ref 96]) (w3 := w) rfl rfl ?_
  refine sx_RP.callp (as2 := [.ref 96, .int ((a1 >>> (0 &&& 31)).toInt8.toInt32)]) (rest2 := []) rfl rfl (sx_inv_v2 (mi := 87) (k := 282) (st := [.int ((a1 >>> (0 &&& 31)).toInt8.toInt32), .ref 96]) (w := w) rfl rfl hI.1.o96 rfl rfl rfl) rfl rfl rfl (X89 hI hm (by omega) ((a1 >>> (0 &&& 31)).toInt8.toInt32)) (show _ = 56 from rfl) ?_
  rintro r4 w4 ⟨⟨rfl, ht1, hv2⟩, hI5, ho3⟩
  show sx_RP _ _ _ _ _ [] _ _
  refine sx_RP.step (pc2 := 59) (ls2 := [(3, .int (-1)), (0, .ref 0), (1, .int a1), (2, .int (nI n))]) (st2 := []) (w3 := w4) rfl rfl ?_
  refine sx_RP.step (pc2 := 38) (ls2 := [(3, .int (-1)), (0, .ref 0), (1, .int a1), (2, .int (nI n))]) (st2 := []) (w3 := w4) rfl rfl ?_
  refine sx_RP.ls (sx_lr.cons rfl (sx_lr.cons rfl (sx_lr.cons rfl (sx_lr.cons rfl sx_lr.nil)))) ((X87_m1 (m := m + 1) (n := n) (a1 := a1) hI5 (by omega) hv2).mono (fun r w2 q => ⟨⟨q.1.1.trans (by congr 3 <;> omega), ?_⟩, q.2.1, fun a h1 h2 => (q.2.2 a h1 h2).trans (ho3 a h1 h2)⟩))
  rw [q.1.2, ht1, byte_eq, List.append_assoc, bytesOf_s]
  rfl
set_option maxRecDepth 20000 in
set_option maxHeartbeats 4000000 in
theorem X87_1 {xs : Option (List Int32)} {d n m : Nat} {a1 : Int32} {w : List sx_C} (hI : WI w) (h120 : m + 2 ≤ 120) (hm : fi w 96 1 = nI m) : sx_RP xs (d + 7) 87 38 [(0, .ref 0), (1, .int a1), (2, .int (nI n)), (3, .int 1)] [] w (fun r w2 => (r = some (.int (nI (m + 2))) ∧ tapC w2 = tapC w ++ bytesOf a1 2) ∧ WI w2 ∧ Off w w2) := by
  refine sx_RP.step (pc2 := 39) (ls2 := [(0, .ref 0), (1, .int a1), (2, .int (nI n)), (3, .int 1)]) (st2 := [.int 1]) (w3 := w) rfl rfl ?_
  refine sx_RP.step (pc2 := 42) (ls2 := [(0, .ref 0), (1, .int a1), (2, .int (nI n)), (3, .int 1)]) (st2 := []) (w3 := w) rfl rfl ?_
  refine sx_RP.step (pc2 := 43) (ls2 := [(0, .ref 0), (1, .int a1), (2, .int (nI n)), (3, .int 1)]) (st2 := [.ref 0]) (w3 := w) rfl rfl ?_
  refine sx_RP.gf (v := .ref 96) rfl rfl hI.1.o0 rfl rfl (show _ = 46 from rfl) ?_
  refine sx_RP.step (pc2 := 47) (ls2 := [(0, .ref 0), (1, .int a1), (2, .int (nI n)), (3, .int 1)]) (st2 := [.int a1, .ref 96]) (w3 := w) rfl rfl ?_
  refine sx_RP.step (pc2 := 49) (ls2 := [(0, .ref 0), (1, .int a1), (2, .int (nI n)), (3, .int 1)]) (st2 := [.int 8, .int a1, .ref 96]) (w3 := w) rfl rfl ?_
  refine sx_RP.step (pc2 := 50) (ls2 := [(0, .ref 0), (1, .int a1), (2, .int (nI n)), (3, .int 1)]) (st2 := [.int 1, .int 8, .int a1, .ref 96]) (w3 := w) rfl rfl ?_
  refine sx_RP.step (pc2 := 51) (ls2 := [(0, .ref 0), (1, .int a1), (2, .int (nI n)), (3, .int 1)]) (st2 := [.int 8, .int a1, .ref 96]) (w3 := w) rfl rfl ?_
  refine sx_RP.step (pc2 := 52) (ls2 := [(0, .ref 0), (1, .int a1), (2, .int (nI n)), (3, .int 1)]) (st2 := [.int (a1 >>> (8 &&& 31)), .ref 96]) (w3 := w) rfl rfl ?_
  refine sx_RP.step (pc2 := 53) (ls2 := [(0, .ref 0), (1, .int a1), (2, .int (nI n)), (3, .int 1)]) (st2 := [.int ((a1 >>> (8 &&& 31)).toInt8.toInt32), .ref 96]) (w3 := w) rfl rfl ?_
  refine sx_RP.callp (as2 := [.ref 96, .int ((a1 >>> (8 &&& 31)).toInt8.toInt32)]) (rest2 := []) rfl rfl (sx_inv_v2 (mi := 87) (k := 282) (st := [.int ((a1 >>> (8 &&& 31)).toInt8.toInt32), .ref 96]) (w := w) rfl rfl hI.1.o96 rfl rfl rfl) rfl rfl rfl (X89 hI hm (by omega) ((a1 >>> (8 &&& 31)).toInt8.toInt32)) (show _ = 56 from rfl) ?_
  rintro r4 w4 ⟨⟨rfl, ht1, hv2⟩, hI5, ho3⟩
  show sx_RP _ _ _ _ _ [] _ _
  refine sx_RP.step (pc2 := 59) (ls2 := [(3, .int 0), (0, .ref 0), (1, .int a1), (2, .int (nI n))]) (st2 := []) (w3 := w4) rfl rfl ?_
  refine sx_RP.step (pc2 := 38) (ls2 := [(3, .int 0), (0, .ref 0), (1, .int a1), (2, .int (nI n))]) (st2 := []) (w3 := w4) rfl rfl ?_
  refine sx_RP.ls (sx_lr.cons rfl (sx_lr.cons rfl (sx_lr.cons rfl (sx_lr.cons rfl sx_lr.nil)))) ((X87_0 (m := m + 1) (n := n) (a1 := a1) hI5 (by omega) hv2).mono (fun r w2 q => ⟨⟨q.1.1.trans (by congr 3 <;> omega), ?_⟩, q.2.1, fun a h1 h2 => (q.2.2 a h1 h2).trans (ho3 a h1 h2)⟩))
  rw [q.1.2, ht1, byte_eq, List.append_assoc, bytesOf_s]
  rfl
set_option maxRecDepth 20000 in
set_option maxHeartbeats 4000000 in
theorem X87_2 {xs : Option (List Int32)} {d n m : Nat} {a1 : Int32} {w : List sx_C} (hI : WI w) (h120 : m + 3 ≤ 120) (hm : fi w 96 1 = nI m) : sx_RP xs (d + 7) 87 38 [(0, .ref 0), (1, .int a1), (2, .int (nI n)), (3, .int 2)] [] w (fun r w2 => (r = some (.int (nI (m + 3))) ∧ tapC w2 = tapC w ++ bytesOf a1 3) ∧ WI w2 ∧ Off w w2) := by
  refine sx_RP.step (pc2 := 39) (ls2 := [(0, .ref 0), (1, .int a1), (2, .int (nI n)), (3, .int 2)]) (st2 := [.int 2]) (w3 := w) rfl rfl ?_
  refine sx_RP.step (pc2 := 42) (ls2 := [(0, .ref 0), (1, .int a1), (2, .int (nI n)), (3, .int 2)]) (st2 := []) (w3 := w) rfl rfl ?_
  refine sx_RP.step (pc2 := 43) (ls2 := [(0, .ref 0), (1, .int a1), (2, .int (nI n)), (3, .int 2)]) (st2 := [.ref 0]) (w3 := w) rfl rfl ?_
  refine sx_RP.gf (v := .ref 96) rfl rfl hI.1.o0 rfl rfl (show _ = 46 from rfl) ?_
  refine sx_RP.step (pc2 := 47) (ls2 := [(0, .ref 0), (1, .int a1), (2, .int (nI n)), (3, .int 2)]) (st2 := [.int a1, .ref 96]) (w3 := w) rfl rfl ?_
  refine sx_RP.step (pc2 := 49) (ls2 := [(0, .ref 0), (1, .int a1), (2, .int (nI n)), (3, .int 2)]) (st2 := [.int 8, .int a1, .ref 96]) (w3 := w) rfl rfl ?_
  refine sx_RP.step (pc2 := 50) (ls2 := [(0, .ref 0), (1, .int a1), (2, .int (nI n)), (3, .int 2)]) (st2 := [.int 2, .int 8, .int a1, .ref 96]) (w3 := w) rfl rfl ?_
  refine sx_RP.step (pc2 := 51) (ls2 := [(0, .ref 0), (1, .int a1), (2, .int (nI n)), (3, .int 2)]) (st2 := [.int 16, .int a1, .ref 96]) (w3 := w) rfl rfl ?_
  refine sx_RP.step (pc2 := 52) (ls2 := [(0, .ref 0), (1, .int a1), (2, .int (nI n)), (3, .int 2)]) (st2 := [.int (a1 >>> (16 &&& 31)), .ref 96]) (w3 := w) rfl rfl ?_
  refine sx_RP.step (pc2 := 53) (ls2 := [(0, .ref 0), (1, .int a1), (2, .int (nI n)), (3, .int 2)]) (st2 := [.int ((a1 >>> (16 &&& 31)).toInt8.toInt32), .ref 96]) (w3 := w) rfl rfl ?_
  refine sx_RP.callp (as2 := [.ref 96, .int ((a1 >>> (16 &&& 31)).toInt8.toInt32)]) (rest2 := []) rfl rfl (sx_inv_v2 (mi := 87) (k := 282) (st := [.int ((a1 >>> (16 &&& 31)).toInt8.toInt32), .ref 96]) (w := w) rfl rfl hI.1.o96 rfl rfl rfl) rfl rfl rfl (X89 hI hm (by omega) ((a1 >>> (16 &&& 31)).toInt8.toInt32)) (show _ = 56 from rfl) ?_
  rintro r4 w4 ⟨⟨rfl, ht1, hv2⟩, hI5, ho3⟩
  show sx_RP _ _ _ _ _ [] _ _
  refine sx_RP.step (pc2 := 59) (ls2 := [(3, .int 1), (0, .ref 0), (1, .int a1), (2, .int (nI n))]) (st2 := []) (w3 := w4) rfl rfl ?_
  refine sx_RP.step (pc2 := 38) (ls2 := [(3, .int 1), (0, .ref 0), (1, .int a1), (2, .int (nI n))]) (st2 := []) (w3 := w4) rfl rfl ?_
  refine sx_RP.ls (sx_lr.cons rfl (sx_lr.cons rfl (sx_lr.cons rfl (sx_lr.cons rfl sx_lr.nil)))) ((X87_1 (m := m + 1) (n := n) (a1 := a1) hI5 (by omega) hv2).mono (fun r w2 q => ⟨⟨q.1.1.trans (by congr 3 <;> omega), ?_⟩, q.2.1, fun a h1 h2 => (q.2.2 a h1 h2).trans (ho3 a h1 h2)⟩))
  rw [q.1.2, ht1, byte_eq, List.append_assoc, bytesOf_s]
  rfl
set_option maxRecDepth 20000 in
set_option maxHeartbeats 4000000 in
theorem X87_3 {xs : Option (List Int32)} {d n m : Nat} {a1 : Int32} {w : List sx_C} (hI : WI w) (h120 : m + 4 ≤ 120) (hm : fi w 96 1 = nI m) : sx_RP xs (d + 7) 87 38 [(0, .ref 0), (1, .int a1), (2, .int (nI n)), (3, .int 3)] [] w (fun r w2 => (r = some (.int (nI (m + 4))) ∧ tapC w2 = tapC w ++ bytesOf a1 4) ∧ WI w2 ∧ Off w w2) := by
  refine sx_RP.step (pc2 := 39) (ls2 := [(0, .ref 0), (1, .int a1), (2, .int (nI n)), (3, .int 3)]) (st2 := [.int 3]) (w3 := w) rfl rfl ?_
  refine sx_RP.step (pc2 := 42) (ls2 := [(0, .ref 0), (1, .int a1), (2, .int (nI n)), (3, .int 3)]) (st2 := []) (w3 := w) rfl rfl ?_
  refine sx_RP.step (pc2 := 43) (ls2 := [(0, .ref 0), (1, .int a1), (2, .int (nI n)), (3, .int 3)]) (st2 := [.ref 0]) (w3 := w) rfl rfl ?_
  refine sx_RP.gf (v := .ref 96) rfl rfl hI.1.o0 rfl rfl (show _ = 46 from rfl) ?_
  refine sx_RP.step (pc2 := 47) (ls2 := [(0, .ref 0), (1, .int a1), (2, .int (nI n)), (3, .int 3)]) (st2 := [.int a1, .ref 96]) (w3 := w) rfl rfl ?_
  refine sx_RP.step (pc2 := 49) (ls2 := [(0, .ref 0), (1, .int a1), (2, .int (nI n)), (3, .int 3)]) (st2 := [.int 8, .int a1, .ref 96]) (w3 := w) rfl rfl ?_
  refine sx_RP.step (pc2 := 50) (ls2 := [(0, .ref 0), (1, .int a1), (2, .int (nI n)), (3, .int 3)]) (st2 := [.int 3, .int 8, .int a1, .ref 96]) (w3 := w) rfl rfl ?_
  refine sx_RP.step (pc2 := 51) (ls2 := [(0, .ref 0), (1, .int a1), (2, .int (nI n)), (3, .int 3)]) (st2 := [.int 24, .int a1, .ref 96]) (w3 := w) rfl rfl ?_
  refine sx_RP.step (pc2 := 52) (ls2 := [(0, .ref 0), (1, .int a1), (2, .int (nI n)), (3, .int 3)]) (st2 := [.int (a1 >>> (24 &&& 31)), .ref 96]) (w3 := w) rfl rfl ?_
  refine sx_RP.step (pc2 := 53) (ls2 := [(0, .ref 0), (1, .int a1), (2, .int (nI n)), (3, .int 3)]) (st2 := [.int ((a1 >>> (24 &&& 31)).toInt8.toInt32), .ref 96]) (w3 := w) rfl rfl ?_
  refine sx_RP.callp (as2 := [.ref 96, .int ((a1 >>> (24 &&& 31)).toInt8.toInt32)]) (rest2 := []) rfl rfl (sx_inv_v2 (mi := 87) (k := 282) (st := [.int ((a1 >>> (24 &&& 31)).toInt8.toInt32), .ref 96]) (w := w) rfl rfl hI.1.o96 rfl rfl rfl) rfl rfl rfl (X89 hI hm (by omega) ((a1 >>> (24 &&& 31)).toInt8.toInt32)) (show _ = 56 from rfl) ?_
  rintro r4 w4 ⟨⟨rfl, ht1, hv2⟩, hI5, ho3⟩
  show sx_RP _ _ _ _ _ [] _ _
  refine sx_RP.step (pc2 := 59) (ls2 := [(3, .int 2), (0, .ref 0), (1, .int a1), (2, .int (nI n))]) (st2 := []) (w3 := w4) rfl rfl ?_
  refine sx_RP.step (pc2 := 38) (ls2 := [(3, .int 2), (0, .ref 0), (1, .int a1), (2, .int (nI n))]) (st2 := []) (w3 := w4) rfl rfl ?_
  refine sx_RP.ls (sx_lr.cons rfl (sx_lr.cons rfl (sx_lr.cons rfl (sx_lr.cons rfl sx_lr.nil)))) ((X87_2 (m := m + 1) (n := n) (a1 := a1) hI5 (by omega) hv2).mono (fun r w2 q => ⟨⟨q.1.1.trans (by congr 3 <;> omega), ?_⟩, q.2.1, fun a h1 h2 => (q.2.2 a h1 h2).trans (ho3 a h1 h2)⟩))
  rw [q.1.2, ht1, byte_eq, List.append_assoc, bytesOf_s]
  rfl
set_option maxRecDepth 20000 in
set_option maxHeartbeats 4000000 in
theorem B87 {xs : Option (List Int32)} {d : Nat} {w : List sx_C} (hI : WI w) (a1 a2 : Int32) : sx_RP xs (d + 7) 87 0 (lv_args 0 [.ref 0, .int a1, .int a2]) [] w (fun r w2 => (r = some (.int (feeA (FCb w) a2)) ∧ FCb w2 = feeU (FCb w) a1 a2) ∧ WI w2 ∧ ∀ a, 111 ≤ a → w2[a]? = w[a]?) := by
  obtain ⟨n, h120, hn⟩ := hI.t.1
  refine sx_RP.step (pc2 := 1) (ls2 := [(0, .ref 0), (1, .int a1), (2, .int a2)]) (st2 := [.int a2]) (w3 := w) rfl rfl ?_
  refine sx_RP.step (pc2 := 2) (ls2 := [(0, .ref 0), (1, .int a1), (2, .int a2)]) (st2 := [.int 1, .int a2]) (w3 := w) rfl rfl ?_
  refine sx_RP.step (pc2 := 3) (ls2 := [(0, .ref 0), (1, .int a1), (2, .int a2)]) (st2 := [.int 4, .int 1, .int a2]) (w3 := w) rfl rfl ?_
  rcases in_cases a2 1 4 (m := 1) (n := 4) rfl rfl (by decide) (by decide) with q1 | ⟨x2, hx3, hx4, rfl⟩
  · refine sx_RP.cu (as := [.int a2, .int 1, .int 4]) (rest2 := []) (st3 := [.int 0]) rfl rfl rfl rfl rfl (cx_8n q1) rfl ?_
    refine sx_RP.step (pc2 := 9) (ls2 := [(0, .ref 0), (1, .int a1), (2, .int a2)]) (st2 := []) (w3 := w) rfl rfl ?_
    refine sx_RP.step (pc2 := 10) (ls2 := [(0, .ref 0), (1, .int a1), (2, .int a2)]) (st2 := [.ref 0]) (w3 := w) rfl rfl ?_
    refine sx_RP.step (pc2 := 12) (ls2 := [(0, .ref 0), (1, .int a1), (2, .int a2)]) (st2 := [.int (-1000000001), .ref 0]) (w3 := w) rfl rfl ?_
    refine sx_RP.callp (as2 := [.ref 0, .int (-1000000001)]) (rest2 := []) rfl rfl (sx_inv_v2 (mi := 87) (k := 78) (st := [.int (-1000000001), .ref 0]) (w := w) rfl rfl hI.1.o0 rfl rfl rfl) rfl rfl rfl (Q9_0 hI) (show _ = 15 from rfl) ?_
    rintro r4 w7 ⟨rfl, hI8, hE6⟩
    show sx_RP _ _ _ _ _ [.int (-1000000001)] _ _
    refine sx_RP.ret (r := (some (.int (-1000000001)))) rfl rfl ?_
    exact ⟨⟨by rw [(fee_1 (a1 := a1) q1).1], by rw [(fee_1 (a1 := a1) q1).2]; exact FCb_en hI hE6.en⟩, hI8, fun a ha => hE6 a (Or.inr (Or.inr (by omega)))⟩
  · refine sx_RP.cu (as := [.int (nI x2), .int 1, .int 4]) (rest2 := []) (st3 := [.int 1]) rfl rfl rfl rfl rfl (cx_8p ⟨nI_le (a := 1) hx3 (by omega), nI_le (b := 4) hx4 (by decide)⟩) rfl ?_
    refine sx_RP.step (pc2 := 16) (ls2 := [(0, .ref 0), (1, .int a1), (2, .int (nI x2))]) (st2 := []) (w3 := w) rfl rfl ?_
    refine sx_RP.step (pc2 := 17) (ls2 := [(0, .ref 0), (1, .int a1), (2, .int (nI x2))]) (st2 := [.ref 0]) (w3 := w) rfl rfl ?_
    refine sx_RP.gf (v := .ref 96) rfl rfl hI.1.o0 rfl rfl (show _ = 20 from rfl) ?_
    refine sx_RP.step (pc2 := 21) (ls2 := [(0, .ref 0), (1, .int a1), (2, .int (nI x2))]) (st2 := [.int (nI x2), .ref 96]) (w3 := w) rfl rfl ?_
    rcases Decidable.em (n + x2 ≤ 120) with c9 | c9
    · refine sx_RP.cu (as := [.ref 96, .int (nI x2)]) (rest2 := []) (st3 := [.int 1]) rfl rfl (sx_inv_v2 (mi := 87) (k := 279) (st := [.int (nI x2), .ref 96]) (w := w) rfl rfl hI.1.o96 rfl rfl rfl) rfl rfl (p88y hI hn h120 (by omega) c9) rfl ?_
      refine sx_RP.step (pc2 := 34) (ls2 := [(0, .ref 0), (1, .int a1), (2, .int (nI x2))]) (st2 := []) (w3 := w) rfl rfl ?_
      refine sx_RP.step (pc2 := 35) (ls2 := [(0, .ref 0), (1, .int a1), (2, .int (nI x2))]) (st2 := [.int (nI x2)]) (w3 := w) rfl rfl ?_
      refine sx_RP.step (pc2 := 36) (ls2 := [(0, .ref 0), (1, .int a1), (2, .int (nI x2))]) (st2 := [.int 1, .int (nI x2)]) (w3 := w) rfl rfl ?_
      refine sx_RP.step (pc2 := 37) (ls2 := [(0, .ref 0), (1, .int a1), (2, .int (nI x2))]) (st2 := [.int ((nI x2) - 1)]) (w3 := w) rfl rfl ?_
      refine sx_RP.step (pc2 := 38) (ls2 := [(3, .int ((nI x2) - 1)), (0, .ref 0), (1, .int a1), (2, .int (nI x2))]) (st2 := []) (w3 := w) rfl rfl ?_
      rw [(fee_3 (t := FCb w) (a1 := a1) (tapC_len hn h120) (x := x2) (by omega) (by omega) c9).1, (fee_3 (t := FCb w) (a1 := a1) (tapC_len hn h120) (x := x2) (by omega) (by omega) c9).2]
      have key : ∀ k, k = x2 → sx_RP xs (d + 7) 87 38 [(0, .ref 0), (1, .int a1), (2, .int (nI k)), (3, .int (nI k - 1))] [] w (fun r w2 => (r = some (.int (nI (n + k))) ∧ tapC w2 = tapC w ++ bytesOf a1 k) ∧ WI w2 ∧ Off w w2) := by
        intro k hk
        rcases (show k = 1 ∨ k = 2 ∨ k = 3 ∨ k = 4 by omega) with rfl | rfl | rfl | rfl
        · exact X87_0 hI (by omega) hn
        · exact X87_1 hI (by omega) hn
        · exact X87_2 hI (by omega) hn
        · exact X87_3 hI (by omega) hn
      refine sx_RP.ls (sx_lr.cons rfl (sx_lr.cons rfl (sx_lr.cons rfl (sx_lr.cons rfl sx_lr.nil)))) ((key x2 rfl).mono (fun r w2 q => ⟨⟨q.1.1, ?_⟩, q.2.1, fun a ha => q.2.2 a (by omega) (by omega)⟩))
      rw [FCb_tap hI (fun a ha => q.2.2 a (by omega) (by omega)), q.1.2]
      rfl
    · refine sx_RP.cu (as := [.ref 96, .int (nI x2)]) (rest2 := []) (st3 := [.int 0]) rfl rfl (sx_inv_v2 (mi := 87) (k := 279) (st := [.int (nI x2), .ref 96]) (w := w) rfl rfl hI.1.o96 rfl rfl rfl) rfl rfl (p88n hI hn h120 (by omega) c9) rfl ?_
      refine sx_RP.step (pc2 := 27) (ls2 := [(0, .ref 0), (1, .int a1), (2, .int (nI x2))]) (st2 := []) (w3 := w) rfl rfl ?_
      refine sx_RP.step (pc2 := 28) (ls2 := [(0, .ref 0), (1, .int a1), (2, .int (nI x2))]) (st2 := [.ref 0]) (w3 := w) rfl rfl ?_
      refine sx_RP.step (pc2 := 30) (ls2 := [(0, .ref 0), (1, .int a1), (2, .int (nI x2))]) (st2 := [.int (-1000000002), .ref 0]) (w3 := w) rfl rfl ?_
      refine sx_RP.callp (as2 := [.ref 0, .int (-1000000002)]) (rest2 := []) rfl rfl (sx_inv_v2 (mi := 87) (k := 78) (st := [.int (-1000000002), .ref 0]) (w := w) rfl rfl hI.1.o0 rfl rfl rfl) rfl rfl rfl (Q9_1 hI) (show _ = 33 from rfl) ?_
      rintro r4 w11 ⟨rfl, hI12, hE10⟩
      show sx_RP _ _ _ _ _ [.int (-1000000002)] _ _
      refine sx_RP.ret (r := (some (.int (-1000000002)))) rfl rfl ?_
      exact ⟨⟨by rw [(fee_2 (a1 := a1) (tapC_len hn h120) (x := x2) (by omega) (by omega) c9).1], by rw [(fee_2 (a1 := a1) (tapC_len hn h120) (x := x2) (by omega) (by omega) c9).2]; exact FCb_en hI hE10.en⟩, hI12, fun a ha => hE10 a (Or.inr (Or.inr (by omega)))⟩
set_option maxRecDepth 20000 in
set_option maxHeartbeats 4000000 in
theorem X208L {xs : Option (List Int32)} {d : Nat} (x : Int32) : ∀ (kz t : Nat) (w : List sx_C), t + kz ≤ 120 → fi w 111 11 = nI t → WI w → sx_RP xs (d + 7) 208 36 [(0, .ref 111), (1, .int x), (3, .int (nI kz - 1))] [] w (fun r w2 => (r = some (.int (nI (t + kz))) ∧ tapM w2 = tapM w ++ bytesOf x kz ∧ fi w2 111 4 = fi w 111 4) ∧ WI w2 ∧ ∀ a, a ≠ 111 → a ≠ 121 → w2[a]? = w[a]?)
  | 0, t, w, ht, et, hI => by
    rw [show nI 0 - 1 = -1 from rfl]
    refine sx_RP.step (pc2 := 37) (ls2 := [(0, .ref 111), (1, .int x), (3, .int (-1))]) (st2 := [.int (-1)]) (w3 := w) rfl rfl ?_
    refine sx_RP.step (pc2 := 75) (ls2 := [(0, .ref 111), (1, .int x), (3, .int (-1))]) (st2 := []) (w3 := w) rfl rfl ?_
    refine sx_RP.step (pc2 := 76) (ls2 := [(0, .ref 111), (1, .int x), (3, .int (-1))]) (st2 := [.ref 111]) (w3 := w) rfl rfl ?_
    refine sx_RP.gf (v := .int (fi w 111 11)) rfl rfl hI.1.o111 rfl rfl (show _ = 79 from rfl) ?_
    rw [et]
    refine sx_RP.ret (r := (some (.int (nI t)))) rfl rfl ?_
    exact ⟨⟨by rw [Nat.add_zero], by rw [show bytesOf x 0 = [] from rfl, List.append_nil], rfl⟩, hI, fun _ _ _ => rfl⟩
  | kz + 1, t, w, ht, et, hI => by
    rw [show nI (kz + 1) - 1 = nI kz from fd_s1]
    refine sx_RP.step (pc2 := 37) (ls2 := [(0, .ref 111), (1, .int x), (3, .int (nI kz))]) (st2 := [.int (nI kz)]) (w3 := w) rfl rfl ?_
    refine sx_RP.br (p2 := 40) (l2 := [(0, .ref 111), (1, .int x), (3, .int (nI kz))]) (s2 := []) (v2 := w) rfl rfl (fun q => absurd (of_decide_eq_true q) (nI_pos (by omega))) (fun _ => ?_)
    refine sx_RP.step (pc2 := 41) (ls2 := [(0, .ref 111), (1, .int x), (3, .int (nI kz))]) (st2 := [.ref 111]) (w3 := w) rfl rfl ?_
    refine sx_RP.gf (v := .ref 121) rfl rfl hI.1.o111 rfl rfl (show _ = 44 from rfl) ?_
    refine sx_RP.step (pc2 := 45) (ls2 := [(0, .ref 111), (1, .int x), (3, .int (nI kz))]) (st2 := [.ref 111, .ref 121]) (w3 := w) rfl rfl ?_
    refine sx_RP.gf (v := .int (fi w 111 11)) rfl rfl hI.1.o111 rfl rfl (show _ = 48 from rfl) ?_
    rw [et]
    refine sx_RP.step (pc2 := 49) (ls2 := [(0, .ref 111), (1, .int x), (3, .int (nI kz))]) (st2 := [.int x, .int (nI t), .ref 121]) (w3 := w) rfl rfl ?_
    refine sx_RP.step (pc2 := 51) (ls2 := [(0, .ref 111), (1, .int x), (3, .int (nI kz))]) (st2 := [.int 8, .int x, .int (nI t), .ref 121]) (w3 := w) rfl rfl ?_
    refine sx_RP.step (pc2 := 52) (ls2 := [(0, .ref 111), (1, .int x), (3, .int (nI kz))]) (st2 := [.int (nI kz), .int 8, .int x, .int (nI t), .ref 121]) (w3 := w) rfl rfl ?_
    refine sx_RP.step (pc2 := 53) (ls2 := [(0, .ref 111), (1, .int x), (3, .int (nI kz))]) (st2 := [.int (8 * (nI kz)), .int x, .int (nI t), .ref 121]) (w3 := w) rfl rfl ?_
    rw [show (8 * (nI kz) : Int32) = nI (8 * kz) from nI_mul 8 kz]
    refine sx_RP.step (pc2 := 54) (ls2 := [(0, .ref 111), (1, .int x), (3, .int (nI kz))]) (st2 := [.int (x >>> ((nI (8 * kz)) &&& 31)), .int (nI t), .ref 121]) (w3 := w) rfl rfl ?_
    refine sx_RP.step (pc2 := 57) (ls2 := [(0, .ref 111), (1, .int x), (3, .int (nI kz))]) (st2 := [.int 255, .int (x >>> ((nI (8 * kz)) &&& 31)), .int (nI t), .ref 121]) (w3 := w) rfl rfl ?_
    refine sx_RP.step (pc2 := 58) (ls2 := [(0, .ref 111), (1, .int x), (3, .int (nI kz))]) (st2 := [.int ((x >>> ((nI (8 * kz)) &&& 31)) &&& 255), .int (nI t), .ref 121]) (w3 := w) rfl rfl ?_
    refine sx_RP.xF (a := 121) (c := t) (n := 120) hI rfl hI.1.a121 (by omega) (by decide) (by decide) (show _ = 59 from rfl) (fun w1 hI2 hs3 hv4 => ?_)
    have ex5 := (fi_same 11 (hs3 111 (by omega))).trans et
    refine sx_RP.step (pc2 := 60) (ls2 := [(0, .ref 111), (1, .int x), (3, .int (nI kz))]) (st2 := [.ref 111]) (w3 := w1) rfl rfl ?_
    refine sx_RP.step (pc2 := 61) (ls2 := [(0, .ref 111), (1, .int x), (3, .int (nI kz))]) (st2 := [.ref 111, .ref 111]) (w3 := w1) rfl rfl ?_
    refine sx_RP.gf (v := .int (fi w1 111 11)) rfl rfl hI2.1.o111 rfl rfl (show _ = 64 from rfl) ?_
    rw [ex5]
    refine sx_RP.step (pc2 := 65) (ls2 := [(0, .ref 111), (1, .int x), (3, .int (nI kz))]) (st2 := [.int 1, .int (nI t), .ref 111]) (w3 := w1) rfl rfl ?_
    refine sx_RP.step (pc2 := 66) (ls2 := [(0, .ref 111), (1, .int x), (3, .int (nI kz))]) (st2 := [.int ((nI t) + 1), .ref 111]) (w3 := w1) rfl rfl ?_
    rw [show ((nI t) + 1 : Int32) = nI (t + 1) from nI_add t 1]
    refine sx_RP.xJ (k := 11) hI2 rfl rfl (by decide) rfl ⟨(t + 1), by rw [if_neg (by decide)]; omega, rfl⟩ (show _ = 69 from rfl) (fun w6 hI7 hs8 hv9 hr10 => ?_)
    refine sx_RP.step (pc2 := 72) (ls2 := [(3, .int ((nI kz) + (-1))), (0, .ref 111), (1, .int x)]) (st2 := []) (w3 := w6) rfl rfl ?_
    refine sx_RP.step (pc2 := 36) (ls2 := [(3, .int ((nI kz) + (-1))), (0, .ref 111), (1, .int x)]) (st2 := []) (w3 := w6) rfl rfl ?_
    rw [fd_m1]
    refine sx_RP.ls (sx_lr.cons rfl (sx_lr.cons rfl (sx_lr.cons rfl sx_lr.nil))) ((X208L x kz (t + 1) w6 (by omega) hv9 hI7).mono (fun r w2 q => ⟨⟨by rw [q.1.1]; first | rfl | (congr 3; omega), ?_, q.1.2.2.trans ((hr10 4 (by decide)).trans (fi_same 4 (hs3 111 (by decide))))⟩, q.2.1, fun a h1 h3 => (q.2.2 a h1 h3).trans ((hs8 a h1).trans (hs3 a h3))⟩))
    rw [q.1.2.1, tapM_add hI et (by omega) hv9 ((ia_of (hs8 121 (by decide))).trans hv4), List.append_assoc, bytesOf_s]
    rfl
set_option maxRecDepth 20000 in
set_option maxHeartbeats 4000000 in
theorem B208 {xs : Option (List Int32)} {d : Nat} {w : List sx_C} (hI : WI w) (a1 a2 : Int32) : sx_RP xs (d + 7) 208 0 (lv_args 0 [.ref 111, .int a1, .int a2]) [] w (fun r w2 => (r = some (.int (feeA (FMb w) a2)) ∧ FMb w2 = feeU (FMb w) a1 a2) ∧ WI w2 ∧ ∀ a, a < 111 → w2[a]? = w[a]?) := by
  obtain ⟨n, h120, hn⟩ := hI.m.2.1
  refine sx_RP.step (pc2 := 1) (ls2 := [(0, .ref 111), (1, .int a1), (2, .int a2)]) (st2 := [.int a2]) (w3 := w) rfl rfl ?_
  refine sx_RP.step (pc2 := 2) (ls2 := [(0, .ref 111), (1, .int a1), (2, .int a2)]) (st2 := [.int 1, .int a2]) (w3 := w) rfl rfl ?_
  refine sx_RP.step (pc2 := 3) (ls2 := [(0, .ref 111), (1, .int a1), (2, .int a2)]) (st2 := [.int 4, .int 1, .int a2]) (w3 := w) rfl rfl ?_
  rcases in_cases a2 1 4 (m := 1) (n := 4) rfl rfl (by decide) (by decide) with q1 | ⟨x2, hx3, hx4, rfl⟩
  · refine sx_RP.cu (as := [.int a2, .int 1, .int 4]) (rest2 := []) (st3 := [.int 0]) rfl rfl rfl rfl rfl (cx_132o q1) rfl ?_
    refine sx_RP.step (pc2 := 9) (ls2 := [(0, .ref 111), (1, .int a1), (2, .int a2)]) (st2 := []) (w3 := w) rfl rfl ?_
    refine sx_RP.step (pc2 := 10) (ls2 := [(0, .ref 111), (1, .int a1), (2, .int a2)]) (st2 := [.ref 111]) (w3 := w) rfl rfl ?_
    refine sx_RP.step (pc2 := 11) (ls2 := [(0, .ref 111), (1, .int a1), (2, .int a2)]) (st2 := [.int 0, .ref 111]) (w3 := w) rfl rfl ?_
    refine sx_RP.callp (as2 := [.ref 111, .int 0]) (rest2 := []) rfl rfl (sx_inv_v2 (mi := 208) (k := 70) (st := [.int 0, .ref 111]) (w := w) rfl rfl hI.1.o111 rfl rfl rfl) rfl rfl rfl (K133_0 hI) (show _ = 14 from rfl) ?_
    rintro r4 w7 ⟨rfl, hI8, hE6⟩
    show sx_RP _ _ _ _ _ [.int (-1000000001)] _ _
    refine sx_RP.ret (r := (some (.int (-1000000001)))) rfl rfl ?_
    exact ⟨⟨by rw [(fee_1 (a1 := a1) q1).1], by rw [(fee_1 (a1 := a1) q1).2]; exact FMb_el hI hE6.el⟩, hI8, fun a ha => hE6.1 a (Or.inl (by omega))⟩
  · refine sx_RP.cu (as := [.int (nI x2), .int 1, .int 4]) (rest2 := []) (st3 := [.int 1]) rfl rfl rfl rfl rfl (cx_132p ⟨nI_le (a := 1) hx3 (by omega), nI_le (b := 4) hx4 (by decide)⟩) rfl ?_
    refine sx_RP.step (pc2 := 15) (ls2 := [(0, .ref 111), (1, .int a1), (2, .int (nI x2))]) (st2 := []) (w3 := w) rfl rfl ?_
    refine sx_RP.step (pc2 := 16) (ls2 := [(0, .ref 111), (1, .int a1), (2, .int (nI x2))]) (st2 := [.ref 111]) (w3 := w) rfl rfl ?_
    refine sx_RP.gf (v := .int (fi w 111 11)) rfl rfl hI.1.o111 rfl rfl (show _ = 19 from rfl) ?_
    rw [hn]
    refine sx_RP.step (pc2 := 20) (ls2 := [(0, .ref 111), (1, .int a1), (2, .int (nI x2))]) (st2 := [.int (nI x2), .int (nI n)]) (w3 := w) rfl rfl ?_
    refine sx_RP.step (pc2 := 21) (ls2 := [(0, .ref 111), (1, .int a1), (2, .int (nI x2))]) (st2 := [.int ((nI n) + (nI x2))]) (w3 := w) rfl rfl ?_
    rw [show ((nI n) + (nI x2) : Int32) = nI (n + x2) from nI_add n x2]
    refine sx_RP.step (pc2 := 23) (ls2 := [(0, .ref 111), (1, .int a1), (2, .int (nI x2))]) (st2 := [.int 120, .int (nI (n + x2))]) (w3 := w) rfl rfl ?_
    refine sx_RP.br (p1 := 32) (l1 := [(0, .ref 111), (1, .int a1), (2, .int (nI x2))]) (s1 := []) (v1 := w) (p2 := 26) (l2 := [(0, .ref 111), (1, .int a1), (2, .int (nI x2))]) (s2 := []) (v2 := w) rfl rfl (fun q9 => ?_) (fun q9 => ?_)
    · replace q9 := of_decide_eq_true q9
      replace q9 := (nI_leI (a := (n + x2)) (b := 120) (by omega) (by omega)).mp q9
      refine sx_RP.step (pc2 := 33) (ls2 := [(0, .ref 111), (1, .int a1), (2, .int (nI x2))]) (st2 := [.int (nI x2)]) (w3 := w) rfl rfl ?_
      refine sx_RP.step (pc2 := 34) (ls2 := [(0, .ref 111), (1, .int a1), (2, .int (nI x2))]) (st2 := [.int 1, .int (nI x2)]) (w3 := w) rfl rfl ?_
      refine sx_RP.step (pc2 := 35) (ls2 := [(0, .ref 111), (1, .int a1), (2, .int (nI x2))]) (st2 := [.int ((nI x2) - 1)]) (w3 := w) rfl rfl ?_
      refine sx_RP.step (pc2 := 36) (ls2 := [(3, .int ((nI x2) - 1)), (0, .ref 111), (1, .int a1), (2, .int (nI x2))]) (st2 := []) (w3 := w) rfl rfl ?_
      rw [(fee_3 (t := FMb w) (a1 := a1) (tapM_len hn h120) (x := x2) (by omega) (by omega) q9).1, (fee_3 (t := FMb w) (a1 := a1) (tapM_len hn h120) (x := x2) (by omega) (by omega) q9).2]
      refine sx_RP.ls (sx_lr.cons rfl (sx_lr.cons rfl (sx_lr.cons rfl sx_lr.nil))) ((X208L a1 x2 n w q9 hn hI).mono (fun r w2 q => ⟨⟨q.1.1, ?_⟩, q.2.1, fun a ha => q.2.2 a (by omega) (by omega)⟩))
      unfold FMb
      rw [q.1.2.1, q.1.2.2, ia_of (q.2.2 112 (by decide) (by decide)), ia_of (q.2.2 113 (by decide) (by decide))]
    · replace q9 := of_decide_eq_false q9
      replace q9 := mt (nI_leI (a := (n + x2)) (b := 120) (by omega) (by omega)).mpr q9
      refine sx_RP.step (pc2 := 27) (ls2 := [(0, .ref 111), (1, .int a1), (2, .int (nI x2))]) (st2 := [.ref 111]) (w3 := w) rfl rfl ?_
      refine sx_RP.step (pc2 := 28) (ls2 := [(0, .ref 111), (1, .int a1), (2, .int (nI x2))]) (st2 := [.int 1, .ref 111]) (w3 := w) rfl rfl ?_
      refine sx_RP.callp (as2 := [.ref 111, .int 1]) (rest2 := []) rfl rfl (sx_inv_v2 (mi := 208) (k := 70) (st := [.int 1, .ref 111]) (w := w) rfl rfl hI.1.o111 rfl rfl rfl) rfl rfl rfl (K133_1 hI) (show _ = 31 from rfl) ?_
      rintro r4 w11 ⟨rfl, hI12, hE10⟩
      show sx_RP _ _ _ _ _ [.int (-1000000002)] _ _
      refine sx_RP.ret (r := (some (.int (-1000000002)))) rfl rfl ?_
      exact ⟨⟨by rw [(fee_2 (a1 := a1) (tapM_len hn h120) (x := x2) (by omega) (by omega) q9).1], by rw [(fee_2 (a1 := a1) (tapM_len hn h120) (x := x2) (by omega) (by omega) q9).2]; exact FMb_el hI hE10.el⟩, hI12, fun a ha => hE10.1 a (Or.inl (by omega))⟩
end
-- 89c.breads.lean.txt
section
def eatN (m r d : Nat) : Nat := m * max 1 (r - d / 5)
def dayN (m r : Nat) : Nat → Nat → Nat → Nat
  | 0, d, _ => d
  | f + 1, d, l => if l < eatN m r d then d else dayN m r f (d + 1) (l - eatN m r d)
def daysN (o m r : Nat) : Nat := dayN m r 999 0 o
theorem dayN_ge (m r : Nat) : ∀ f d l : Nat, d ≤ dayN m r f d l
  | 0, d, l => Nat.le_refl _
  | f + 1, d, l => by
    unfold dayN
    split
    · exact Nat.le_refl _
    · exact Nat.le_trans (Nat.le_succ d) (dayN_ge m r f (d + 1) _)
theorem dayN_le (m r : Nat) : ∀ f d l : Nat, dayN m r f d l ≤ d + f
  | 0, d, l => Nat.le_refl _
  | f + 1, d, l => by
    unfold dayN
    split
    · omega
    · have := dayN_le m r f (d + 1) (l - eatN m r d)
      omega
theorem eatN_mono {m r r2 d : Nat} (h : r ≤ r2) : eatN m r d ≤ eatN m r2 d := by
  unfold eatN
  exact Nat.mul_le_mul_left m (by omega)
theorem dayN_anti {m r r2 : Nat} (h : r ≤ r2) : ∀ f d l l2 : Nat, l2 ≤ l → dayN m r2 f d l2 ≤ dayN m r f d l
  | 0, d, l, l2, _ => Nat.le_refl _
  | f + 1, d, l, l2, hl => by
    have he := eatN_mono (m := m) (d := d) h
    unfold dayN
    by_cases h1 : l < eatN m r d
    · rw [if_pos h1, if_pos (by omega)]
      exact Nat.le_refl _
    · rw [if_neg h1]
      by_cases h2 : l2 < eatN m r2 d
      · rw [if_pos h2]
        exact Nat.le_trans (Nat.le_succ d) (dayN_ge m r f (d + 1) _)
      · rw [if_neg h2]
        exact dayN_anti h f (d + 1) _ _ (by omega)
theorem daysN_anti {o m r r2 : Nat} (h : r ≤ r2) : daysN o m r2 ≤ daysN o m r := dayN_anti h 999 0 o o (Nat.le_refl _)
theorem daysN_le {o m r : Nat} : daysN o m r ≤ 999 := by
  have := dayN_le m r 999 0 o
  unfold daysN
  omega
def topN (p : Nat → Bool) : Nat → Nat
  | 0 => 0
  | v + 1 => if p (v + 1) = true then v + 1 else topN p v
theorem topN_le (p : Nat → Bool) : ∀ v, topN p v ≤ v
  | 0 => Nat.le_refl _
  | v + 1 => by
    unfold topN
    split
    · exact Nat.le_refl _
    · exact Nat.le_succ_of_le (topN_le p v)
theorem topN_no (p : Nat → Bool) : ∀ v x, topN p v < x → x ≤ v → p x = false
  | 0, x, h1, h2 => by omega
  | v + 1, x, h1, h2 => by
    unfold topN at h1
    split at h1
    · omega
    · rename_i hq
      by_cases e : x = v + 1
      · subst e
        exact Bool.eq_false_iff.mpr hq
      · exact topN_no p v x h1 (by omega)
theorem topN_yes (p : Nat → Bool) : ∀ v, 0 < topN p v → p (topN p v) = true
  | 0, h => absurd h (Nat.lt_irrefl 0)
  | v + 1, h => by
    unfold topN at h ⊢
    split
    · rename_i hq
      exact hq
    · rename_i hq
      rw [if_neg hq] at h
      exact topN_yes p v h
def halfN (p : Nat → Bool) (g s : Nat) : Nat := if g + s ≤ 99 ∧ p (g + s) = true then g + s else g
def halvesN (p : Nat → Bool) : Nat := halfN p (halfN p (halfN p (halfN p (halfN p (halfN p (halfN p 0 64) 32) 16) 8) 4) 2) 1
theorem halfN_ok {p : Nat → Bool} {g s t : Nat} (ha : ∀ x y, 1 ≤ x → x ≤ y → p y = true → p x = true) (ht : t = topN p 99) (h1 : g ≤ t) (h2 : t < g + 2 * s) (hs : 1 ≤ s) : halfN p g s ≤ t ∧ t < halfN p g s + s := by
  have h99 := topN_le p 99
  unfold halfN
  by_cases c : g + s ≤ 99 ∧ p (g + s) = true
  · rw [if_pos c]
    refine ⟨?_, by omega⟩
    by_cases hlt : t < g + s
    · have := topN_no p 99 (g + s) (by omega) c.1
      rw [this] at c
      exact absurd c.2 (by decide)
    · omega
  · rw [if_neg c]
    refine ⟨h1, ?_⟩
    by_cases hlt : t < g + s
    · exact hlt
    · exfalso
      apply c
      refine ⟨by omega, ha (g + s) t (by omega) (by omega) ?_⟩
      rw [ht]
      exact topN_yes p 99 (by omega)
theorem halves_top {p : Nat → Bool} (ha : ∀ x y, 1 ≤ x → x ≤ y → p y = true → p x = true) : halvesN p = topN p 99 := by
  have h99 := topN_le p 99
  obtain ⟨a1, b1⟩ := halfN_ok (g := 0) (s := 64) ha rfl (Nat.zero_le _) (by omega) (by decide)
  obtain ⟨a2, b2⟩ := halfN_ok (s := 32) ha rfl a1 (by omega) (by decide)
  obtain ⟨a3, b3⟩ := halfN_ok (s := 16) ha rfl a2 (by omega) (by decide)
  obtain ⟨a4, b4⟩ := halfN_ok (s := 8) ha rfl a3 (by omega) (by decide)
  obtain ⟨a5, b5⟩ := halfN_ok (s := 4) ha rfl a4 (by omega) (by decide)
  obtain ⟨a6, b6⟩ := halfN_ok (s := 2) ha rfl a5 (by omega) (by decide)
  obtain ⟨a7, b7⟩ := halfN_ok (s := 1) ha rfl a6 (by omega) (by decide)
  unfold halvesN
  omega
theorem div5_all : ∀ j : Fin 1000, nI j.val / 5 = nI (j.val / 5) := by decide +kernel
theorem rem5_all : ∀ j : Fin 1000, nI j.val - nI j.val / 5 * 5 = nI (j.val % 5) := by decide +kernel
theorem nI_div5 {j : Nat} (h : j < 1000) : nI j / 5 = nI (j / 5) := div5_all ⟨j, h⟩
theorem nI_rem5 {j : Nat} (h : j < 1000) : nI j - nI j / 5 * 5 = nI (j % 5) := rem5_all ⟨j, h⟩
theorem max_1 {r q : Nat} (hr : r < 2 ^ 31) (hq : q < 2 ^ 31) : (if (1 : Int32) < nI r - nI q then nI r - nI q else 1) = nI (max 1 (r - q)) := by
  by_cases h : q ≤ r
  · rw [nI_sub h, show (1 : Int32) = nI 1 from rfl]
    by_cases h2 : 1 < r - q
    · rw [if_pos ((nI_ltI (by decide) (by omega)).mpr h2), show max 1 (r - q) = r - q by omega]
    · rw [if_neg (fun z => h2 ((nI_ltI (by decide) (by omega)).mp z)), show max 1 (r - q) = 1 by omega]
  · have e : (nI r - nI q).toInt < 0 := by
      rw [Int32.toInt_sub, nI_toInt hr, nI_toInt hq, Int.bmod_def]
      split <;> omega
    rw [if_neg (fun z => by
      rw [Int32.lt_iff_toInt_lt, show (1 : Int32).toInt = 1 by decide] at z
      omega), show max 1 (r - q) = 1 by omega]
    rfl
end
-- 89d.days.lean.txt
section
set_option maxRecDepth 20000 in
set_option maxHeartbeats 4000000 in
theorem x85 {xs : Option (List Int32)} {d : Nat} {w : List sx_C} (hI : WI w) (x y : Int32) : sx_RU xs d 85 0 (lv_args 0 [.int x, .int y]) [] w (some (.int (if x < y then y else x))) w := by
  have h : sx_RP xs d 85 0 (lv_args 0 [.int x, .int y]) [] w (fun r9 w2 => r9 = some (.int (if x < y then y else x)) ∧ w2 = w) := by
    refine sx_RP.step (pc2 := 1) (ls2 := [(0, .int x), (1, .int y)]) (st2 := [.int x]) (w3 := w) rfl rfl ?_
    refine sx_RP.step (pc2 := 2) (ls2 := [(0, .int x), (1, .int y)]) (st2 := [.int y, .int x]) (w3 := w) rfl rfl ?_
    refine sx_RP.br (p1 := 9) (l1 := [(0, .int x), (1, .int y)]) (s1 := []) (v1 := w) (p2 := 5) (l2 := [(0, .int x), (1, .int y)]) (s2 := []) (v2 := w) rfl rfl (fun q1 => ?_) (fun q1 => ?_)
    · replace q1 := of_decide_eq_true q1
      refine sx_RP.step (pc2 := 10) (ls2 := [(0, .int x), (1, .int y)]) (st2 := [.int y]) (w3 := w) rfl rfl ?_
      refine sx_RP.ret (r := (some (.int y))) rfl rfl ?_
      exact ⟨by rw [if_pos q1], rfl⟩
    · replace q1 := of_decide_eq_false q1
      refine sx_RP.step (pc2 := 6) (ls2 := [(0, .int x), (1, .int y)]) (st2 := [.int x]) (w3 := w) rfl rfl ?_
      refine sx_RP.step (pc2 := 10) (ls2 := [(0, .int x), (1, .int y)]) (st2 := [.int x]) (w3 := w) rfl rfl ?_
      refine sx_RP.ret (r := (some (.int x))) rfl rfl ?_
      exact ⟨by rw [if_neg q1], rfl⟩
  obtain ⟨r9, w2, h1, rfl, rfl⟩ := h
  exact h1
set_option maxRecDepth 20000 in
set_option maxHeartbeats 4000000 in
theorem x84L {xs : Option (List Int32)} {d m r : Nat} {w : List sx_C} (hI : WI w) {A : Nat} (hA : isA A) (hm : fi w A 9 = nI m) (hm1 : m ≤ 999) (hr : r ≤ 127) : ∀ (fz j l : Nat), j + fz = 999 → l ≤ 999999 → sx_RP xs (d + 1) 84 7 [(0, .ref A), (1, .int (nI r)), (2, .int (nI l)), (3, .int (nI j))] [] w (fun r2 w2 => r2 = some (.int (nI (dayN m r fz j l))) ∧ w2 = w)
  | 0, j, l, hj, hl => by
    obtain rfl : j = 999 := by omega
    refine sx_RP.step (pc2 := 8) (ls2 := [(0, .ref A), (1, .int (nI r)), (2, .int (nI l)), (3, .int 999)]) (st2 := [.int 999]) (w3 := w) rfl rfl ?_
    refine sx_RP.step (pc2 := 11) (ls2 := [(0, .ref A), (1, .int (nI r)), (2, .int (nI l)), (3, .int 999)]) (st2 := [.int 999, .int 999]) (w3 := w) rfl rfl ?_
    refine sx_RP.step (pc2 := 49) (ls2 := [(0, .ref A), (1, .int (nI r)), (2, .int (nI l)), (3, .int 999)]) (st2 := []) (w3 := w) rfl rfl ?_
    refine sx_RP.step (pc2 := 52) (ls2 := [(0, .ref A), (1, .int (nI r)), (2, .int (nI l)), (3, .int 999)]) (st2 := [.int 999]) (w3 := w) rfl rfl ?_
    refine sx_RP.ret (r := (some (.int 999))) rfl rfl ?_
    exact ⟨rfl, rfl⟩
  | fz + 1, j, l, hj, hl => by
    have hb : m * max 1 (r - j / 5) ≤ 999 * 127 := Nat.mul_le_mul hm1 (by omega)
    refine sx_RP.step (pc2 := 8) (ls2 := [(0, .ref A), (1, .int (nI r)), (2, .int (nI l)), (3, .int (nI j))]) (st2 := [.int (nI j)]) (w3 := w) rfl rfl ?_
    refine sx_RP.step (pc2 := 11) (ls2 := [(0, .ref A), (1, .int (nI r)), (2, .int (nI l)), (3, .int (nI j))]) (st2 := [.int 999, .int (nI j)]) (w3 := w) rfl rfl ?_
    refine sx_RP.br (p2 := 14) (l2 := [(0, .ref A), (1, .int (nI r)), (2, .int (nI l)), (3, .int (nI j))]) (s2 := []) (v2 := w) rfl rfl (fun q => absurd (of_decide_eq_true q) (fun z => absurd ((nI_leI (a := 999) (b := j) (by omega) (by omega)).mp z) (by omega))) (fun _ => ?_)
    refine sx_RP.step (pc2 := 15) (ls2 := [(0, .ref A), (1, .int (nI r)), (2, .int (nI l)), (3, .int (nI j))]) (st2 := [.ref A]) (w3 := w) rfl rfl ?_
    refine sx_RP.gc (k := 9) hI hA rfl rfl (by omega) (show _ = 18 from rfl) ?_
    rw [hm]
    refine sx_RP.step (pc2 := 19) (ls2 := [(0, .ref A), (1, .int (nI r)), (2, .int (nI l)), (3, .int (nI j))]) (st2 := [.int 1, .int (nI m)]) (w3 := w) rfl rfl ?_
    refine sx_RP.step (pc2 := 20) (ls2 := [(0, .ref A), (1, .int (nI r)), (2, .int (nI l)), (3, .int (nI j))]) (st2 := [.int (nI r), .int 1, .int (nI m)]) (w3 := w) rfl rfl ?_
    refine sx_RP.step (pc2 := 21) (ls2 := [(0, .ref A), (1, .int (nI r)), (2, .int (nI l)), (3, .int (nI j))]) (st2 := [.int (nI j), .int (nI r), .int 1, .int (nI m)]) (w3 := w) rfl rfl ?_
    refine sx_RP.step (pc2 := 22) (ls2 := [(0, .ref A), (1, .int (nI r)), (2, .int (nI l)), (3, .int (nI j))]) (st2 := [.int 5, .int (nI j), .int (nI r), .int 1, .int (nI m)]) (w3 := w) rfl rfl ?_
    refine sx_RP.step (pc2 := 23) (ls2 := [(0, .ref A), (1, .int (nI r)), (2, .int (nI l)), (3, .int (nI j))]) (st2 := [.int ((nI j) / 5), .int (nI r), .int 1, .int (nI m)]) (w3 := w) rfl rfl ?_
    rw [nI_div5 (show j < 1000 by omega)]
    refine sx_RP.step (pc2 := 24) (ls2 := [(0, .ref A), (1, .int (nI r)), (2, .int (nI l)), (3, .int (nI j))]) (st2 := [.int ((nI r) - (nI (j / 5))), .int 1, .int (nI m)]) (w3 := w) rfl rfl ?_
    refine sx_RP.cu (as := [.int 1, .int ((nI r) - (nI (j / 5)))]) (rest2 := [.int (nI m)]) (st3 := [.int (nI (max 1 (r - j / 5))), .int (nI m)]) rfl rfl rfl rfl rfl ((by have c := x85 (xs := xs) (d := d) hI 1 (nI r - nI (j / 5)); rw [max_1 (by omega) (by omega)] at c; exact c)) rfl ?_
    refine sx_RP.step (pc2 := 28) (ls2 := [(0, .ref A), (1, .int (nI r)), (2, .int (nI l)), (3, .int (nI j))]) (st2 := [.int ((nI m) * (nI (max 1 (r - j / 5))))]) (w3 := w) rfl rfl ?_
    rw [show ((nI m) * (nI (max 1 (r - j / 5))) : Int32) = nI (m * (max 1 (r - j / 5))) from nI_mul m (max 1 (r - j / 5))]
    refine sx_RP.step (pc2 := 30) (ls2 := [(4, .int (nI (m * (max 1 (r - j / 5))))), (0, .ref A), (1, .int (nI r)), (2, .int (nI l)), (3, .int (nI j))]) (st2 := []) (w3 := w) rfl rfl ?_
    refine sx_RP.step (pc2 := 32) (ls2 := [(4, .int (nI (m * (max 1 (r - j / 5))))), (0, .ref A), (1, .int (nI r)), (2, .int (nI l)), (3, .int (nI j))]) (st2 := [.int (nI (m * (max 1 (r - j / 5))))]) (w3 := w) rfl rfl ?_
    refine sx_RP.step (pc2 := 33) (ls2 := [(4, .int (nI (m * (max 1 (r - j / 5))))), (0, .ref A), (1, .int (nI r)), (2, .int (nI l)), (3, .int (nI j))]) (st2 := [.int (nI l), .int (nI (m * (max 1 (r - j / 5))))]) (w3 := w) rfl rfl ?_
    refine sx_RP.br (p1 := 38) (l1 := [(4, .int (nI (m * (max 1 (r - j / 5))))), (0, .ref A), (1, .int (nI r)), (2, .int (nI l)), (3, .int (nI j))]) (s1 := []) (v1 := w) (p2 := 36) (l2 := [(4, .int (nI (m * (max 1 (r - j / 5))))), (0, .ref A), (1, .int (nI r)), (2, .int (nI l)), (3, .int (nI j))]) (s2 := []) (v2 := w) rfl rfl (fun q1 => ?_) (fun q1 => ?_)
    · replace q1 := of_decide_eq_true q1
      replace q1 := (nI_leI (a := (m * (max 1 (r - j / 5)))) (b := l) (by omega) (by omega)).mp q1
      refine sx_RP.step (pc2 := 39) (ls2 := [(4, .int (nI (m * (max 1 (r - j / 5))))), (0, .ref A), (1, .int (nI r)), (2, .int (nI l)), (3, .int (nI j))]) (st2 := [.int (nI l)]) (w3 := w) rfl rfl ?_
      refine sx_RP.step (pc2 := 41) (ls2 := [(4, .int (nI (m * (max 1 (r - j / 5))))), (0, .ref A), (1, .int (nI r)), (2, .int (nI l)), (3, .int (nI j))]) (st2 := [.int (nI (m * (max 1 (r - j / 5)))), .int (nI l)]) (w3 := w) rfl rfl ?_
      refine sx_RP.step (pc2 := 42) (ls2 := [(4, .int (nI (m * (max 1 (r - j / 5))))), (0, .ref A), (1, .int (nI r)), (2, .int (nI l)), (3, .int (nI j))]) (st2 := [.int ((nI l) - (nI (m * (max 1 (r - j / 5)))))]) (w3 := w) rfl rfl ?_
      refine sx_RP.step (pc2 := 43) (ls2 := [(2, .int ((nI l) - (nI (m * (max 1 (r - j / 5)))))), (4, .int (nI (m * (max 1 (r - j / 5))))), (0, .ref A), (1, .int (nI r)), (3, .int (nI j))]) (st2 := []) (w3 := w) rfl rfl ?_
      refine sx_RP.step (pc2 := 46) (ls2 := [(3, .int ((nI j) + 1)), (2, .int ((nI l) - (nI (m * (max 1 (r - j / 5)))))), (4, .int (nI (m * (max 1 (r - j / 5))))), (0, .ref A), (1, .int (nI r))]) (st2 := []) (w3 := w) rfl rfl ?_
      rw [nI_1 j]
      refine sx_RP.step (pc2 := 7) (ls2 := [(3, .int (nI (j + 1))), (2, .int ((nI l) - (nI (m * (max 1 (r - j / 5)))))), (4, .int (nI (m * (max 1 (r - j / 5))))), (0, .ref A), (1, .int (nI r))]) (st2 := []) (w3 := w) rfl rfl ?_
      unfold dayN
      rw [if_neg (show ¬ l < eatN m r j by unfold eatN; omega)]
      rw [show (nI l - nI (m * max 1 (r - j / 5)) : Int32) = nI (l - eatN m r j) from nI_sub (a := l) (b := m * max 1 (r - j / 5)) (by omega)]
      exact sx_RP.ls (sx_lr.cons rfl (sx_lr.cons rfl (sx_lr.cons rfl (sx_lr.cons rfl sx_lr.nil)))) (x84L hI hA hm hm1 hr fz (j + 1) (l - eatN m r j) (by omega) (by omega))
    · replace q1 := of_decide_eq_false q1
      replace q1 := mt (nI_leI (a := (m * (max 1 (r - j / 5)))) (b := l) (by omega) (by omega)).mpr q1
      refine sx_RP.step (pc2 := 37) (ls2 := [(4, .int (nI (m * (max 1 (r - j / 5))))), (0, .ref A), (1, .int (nI r)), (2, .int (nI l)), (3, .int (nI j))]) (st2 := [.int (nI j)]) (w3 := w) rfl rfl ?_
      refine sx_RP.ret (r := (some (.int (nI j)))) rfl rfl ?_
      exact ⟨by unfold dayN; rw [if_pos (show l < eatN m r j by unfold eatN; omega)], rfl⟩
set_option maxRecDepth 20000 in
set_option maxHeartbeats 4000000 in
theorem x84 {xs : Option (List Int32)} {d : Nat} {w : List sx_C} (hI : WI w) {A : Nat} (hA : isA A) {o m r : Nat} (ho : fi w A 8 = nI o) (ho1 : o ≤ 999999) (hm : fi w A 9 = nI m) (hm1 : m ≤ 999) (hr : r ≤ 127) : sx_RU xs (d + 1) 84 0 (lv_args 0 [.ref A, .int (nI r)]) [] w (some (.int (nI (daysN o m r)))) w := by
  have h : sx_RP xs (d + 1) 84 0 (lv_args 0 [.ref A, .int (nI r)]) [] w (fun r9 w2 => r9 = some (.int (nI (daysN o m r))) ∧ w2 = w) := by
    refine sx_RP.step (pc2 := 1) (ls2 := [(0, .ref A), (1, .int (nI r))]) (st2 := [.ref A]) (w3 := w) rfl rfl ?_
    refine sx_RP.gc (k := 8) hI hA rfl rfl (by omega) (show _ = 4 from rfl) ?_
    rw [ho]
    refine sx_RP.step (pc2 := 5) (ls2 := [(2, .int (nI o)), (0, .ref A), (1, .int (nI r))]) (st2 := []) (w3 := w) rfl rfl ?_
    refine sx_RP.step (pc2 := 6) (ls2 := [(2, .int (nI o)), (0, .ref A), (1, .int (nI r))]) (st2 := [.int 0]) (w3 := w) rfl rfl ?_
    refine sx_RP.step (pc2 := 7) (ls2 := [(3, .int 0), (2, .int (nI o)), (0, .ref A), (1, .int (nI r))]) (st2 := []) (w3 := w) rfl rfl ?_
    exact sx_RP.ls (sx_lr.cons rfl (sx_lr.cons rfl (sx_lr.cons rfl (sx_lr.cons rfl sx_lr.nil)))) (x84L hI hA hm hm1 hr 999 0 o (by omega) ho1)
  obtain ⟨r9, w2, h1, rfl, rfl⟩ := h
  exact h1
set_option maxRecDepth 20000 in
set_option maxHeartbeats 4000000 in
theorem x206L {xs : Option (List Int32)} {d m r : Nat} {w : List sx_C} (hI : WI w) (hm : (ia w 112).getD 5 0 = nI m) (hm1 : m ≤ 999) (hr1 : 1 ≤ r) (hr : r ≤ 99) : ∀ (fz j l e : Nat), j + fz = 999 → l ≤ 999999 → e = max 1 (r - j / 5) → sx_RP xs d 206 12 [(0, .ref 111), (1, .int (nI r)), (2, .int (nI l)), (3, .int (nI e)), (4, .int (nI j))] [] w (fun r2 w2 => r2 = some (.int (nI (dayN m r fz j l))) ∧ w2 = w)
  | 0, j, l, e, hj, hl, he => by
    obtain rfl : j = 999 := by omega
    refine sx_RP.step (pc2 := 14) (ls2 := [(0, .ref 111), (1, .int (nI r)), (2, .int (nI l)), (3, .int (nI e)), (4, .int 999)]) (st2 := [.int 999]) (w3 := w) rfl rfl ?_
    refine sx_RP.step (pc2 := 17) (ls2 := [(0, .ref 111), (1, .int (nI r)), (2, .int (nI l)), (3, .int (nI e)), (4, .int 999)]) (st2 := [.int 999, .int 999]) (w3 := w) rfl rfl ?_
    refine sx_RP.step (pc2 := 69) (ls2 := [(0, .ref 111), (1, .int (nI r)), (2, .int (nI l)), (3, .int (nI e)), (4, .int 999)]) (st2 := []) (w3 := w) rfl rfl ?_
    refine sx_RP.step (pc2 := 71) (ls2 := [(0, .ref 111), (1, .int (nI r)), (2, .int (nI l)), (3, .int (nI e)), (4, .int 999)]) (st2 := [.int 999]) (w3 := w) rfl rfl ?_
    refine sx_RP.ret (r := (some (.int 999))) rfl rfl ?_
    exact ⟨rfl, rfl⟩
  | fz + 1, j, l, e, hj, hl, he => by
    have he1 : e ≤ 99 ∧ 1 ≤ e := by omega
    have hb : m * e ≤ 999 * 99 := Nat.mul_le_mul hm1 he1.1
    refine sx_RP.step (pc2 := 14) (ls2 := [(0, .ref 111), (1, .int (nI r)), (2, .int (nI l)), (3, .int (nI e)), (4, .int (nI j))]) (st2 := [.int (nI j)]) (w3 := w) rfl rfl ?_
    refine sx_RP.step (pc2 := 17) (ls2 := [(0, .ref 111), (1, .int (nI r)), (2, .int (nI l)), (3, .int (nI e)), (4, .int (nI j))]) (st2 := [.int 999, .int (nI j)]) (w3 := w) rfl rfl ?_
    refine sx_RP.br (p2 := 20) (l2 := [(0, .ref 111), (1, .int (nI r)), (2, .int (nI l)), (3, .int (nI e)), (4, .int (nI j))]) (s2 := []) (v2 := w) rfl rfl (fun q => absurd (of_decide_eq_true q) (fun z => absurd ((nI_leI (a := 999) (b := j) (by omega) (by omega)).mp z) (by omega))) (fun _ => ?_)
    refine sx_RP.step (pc2 := 21) (ls2 := [(0, .ref 111), (1, .int (nI r)), (2, .int (nI l)), (3, .int (nI e)), (4, .int (nI j))]) (st2 := [.int (nI l)]) (w3 := w) rfl rfl ?_
    refine sx_RP.step (pc2 := 22) (ls2 := [(0, .ref 111), (1, .int (nI r)), (2, .int (nI l)), (3, .int (nI e)), (4, .int (nI j))]) (st2 := [.ref 111, .int (nI l)]) (w3 := w) rfl rfl ?_
    refine sx_RP.gf (v := .ref 112) rfl rfl hI.1.o111 rfl rfl (show _ = 25 from rfl) ?_
    refine sx_RP.step (pc2 := 26) (ls2 := [(0, .ref 111), (1, .int (nI r)), (2, .int (nI l)), (3, .int (nI e)), (4, .int (nI j))]) (st2 := [.int 5, .ref 112, .int (nI l)]) (w3 := w) rfl rfl ?_
    refine sx_RP.ild (c := 5) rfl hI.1.a112.1 hI.1.a112.2 (sx_in_nI (show 5 < 172 by omega) (by decide)) (show (nI 5).toNatClampNeg = 5 from nI_clamp (by omega)) (show _ = 27 from rfl) ?_
    rw [hm]
    refine sx_RP.step (pc2 := 28) (ls2 := [(0, .ref 111), (1, .int (nI r)), (2, .int (nI l)), (3, .int (nI e)), (4, .int (nI j))]) (st2 := [.int (nI e), .int (nI m), .int (nI l)]) (w3 := w) rfl rfl ?_
    refine sx_RP.step (pc2 := 29) (ls2 := [(0, .ref 111), (1, .int (nI r)), (2, .int (nI l)), (3, .int (nI e)), (4, .int (nI j))]) (st2 := [.int ((nI m) * (nI e)), .int (nI l)]) (w3 := w) rfl rfl ?_
    rw [show ((nI m) * (nI e) : Int32) = nI (m * e) from nI_mul m e]
    refine sx_RP.br (p1 := 69) (l1 := [(0, .ref 111), (1, .int (nI r)), (2, .int (nI l)), (3, .int (nI e)), (4, .int (nI j))]) (s1 := []) (v1 := w) (p2 := 32) (l2 := [(0, .ref 111), (1, .int (nI r)), (2, .int (nI l)), (3, .int (nI e)), (4, .int (nI j))]) (s2 := []) (v2 := w) rfl rfl (fun q1 => ?_) (fun q1 => ?_)
    · replace q1 := of_decide_eq_true q1
      replace q1 := (nI_ltI (a := l) (b := (m * e)) (by omega) (by omega)).mp q1
      refine sx_RP.step (pc2 := 71) (ls2 := [(0, .ref 111), (1, .int (nI r)), (2, .int (nI l)), (3, .int (nI e)), (4, .int (nI j))]) (st2 := [.int (nI j)]) (w3 := w) rfl rfl ?_
      refine sx_RP.ret (r := (some (.int (nI j)))) rfl rfl ?_
      exact ⟨by unfold dayN; rw [if_pos (show l < eatN m r j by unfold eatN; rw [← he]; omega)], rfl⟩
    · replace q1 := of_decide_eq_false q1
      replace q1 := mt (nI_ltI (a := l) (b := (m * e)) (by omega) (by omega)).mpr q1
      refine sx_RP.step (pc2 := 33) (ls2 := [(0, .ref 111), (1, .int (nI r)), (2, .int (nI l)), (3, .int (nI e)), (4, .int (nI j))]) (st2 := [.int (nI l)]) (w3 := w) rfl rfl ?_
      refine sx_RP.step (pc2 := 34) (ls2 := [(0, .ref 111), (1, .int (nI r)), (2, .int (nI l)), (3, .int (nI e)), (4, .int (nI j))]) (st2 := [.ref 111, .int (nI l)]) (w3 := w) rfl rfl ?_
      refine sx_RP.gf (v := .ref 112) rfl rfl hI.1.o111 rfl rfl (show _ = 37 from rfl) ?_
      refine sx_RP.step (pc2 := 38) (ls2 := [(0, .ref 111), (1, .int (nI r)), (2, .int (nI l)), (3, .int (nI e)), (4, .int (nI j))]) (st2 := [.int 5, .ref 112, .int (nI l)]) (w3 := w) rfl rfl ?_
      refine sx_RP.ild (c := 5) rfl hI.1.a112.1 hI.1.a112.2 (sx_in_nI (show 5 < 172 by omega) (by decide)) (show (nI 5).toNatClampNeg = 5 from nI_clamp (by omega)) (show _ = 39 from rfl) ?_
      rw [hm]
      refine sx_RP.step (pc2 := 40) (ls2 := [(0, .ref 111), (1, .int (nI r)), (2, .int (nI l)), (3, .int (nI e)), (4, .int (nI j))]) (st2 := [.int (nI e), .int (nI m), .int (nI l)]) (w3 := w) rfl rfl ?_
      refine sx_RP.step (pc2 := 41) (ls2 := [(0, .ref 111), (1, .int (nI r)), (2, .int (nI l)), (3, .int (nI e)), (4, .int (nI j))]) (st2 := [.int ((nI m) * (nI e)), .int (nI l)]) (w3 := w) rfl rfl ?_
      rw [show ((nI m) * (nI e) : Int32) = nI (m * e) from nI_mul m e]
      refine sx_RP.step (pc2 := 42) (ls2 := [(0, .ref 111), (1, .int (nI r)), (2, .int (nI l)), (3, .int (nI e)), (4, .int (nI j))]) (st2 := [.int ((nI l) - (nI (m * e)))]) (w3 := w) rfl rfl ?_
      rw [show ((nI l) - (nI (m * e)) : Int32) = nI (l - (m * e)) from nI_sub (a := l) (b := (m * e)) (by omega)]
      refine sx_RP.step (pc2 := 43) (ls2 := [(2, .int (nI (l - (m * e)))), (0, .ref 111), (1, .int (nI r)), (3, .int (nI e)), (4, .int (nI j))]) (st2 := []) (w3 := w) rfl rfl ?_
      refine sx_RP.step (pc2 := 46) (ls2 := [(4, .int ((nI j) + 1)), (2, .int (nI (l - (m * e)))), (0, .ref 111), (1, .int (nI r)), (3, .int (nI e))]) (st2 := []) (w3 := w) rfl rfl ?_
      rw [nI_1 j]
      refine sx_RP.step (pc2 := 47) (ls2 := [(4, .int (nI (j + 1))), (2, .int (nI (l - (m * e)))), (0, .ref 111), (1, .int (nI r)), (3, .int (nI e))]) (st2 := [.int (nI e)]) (w3 := w) rfl rfl ?_
      refine sx_RP.step (pc2 := 49) (ls2 := [(4, .int (nI (j + 1))), (2, .int (nI (l - (m * e)))), (0, .ref 111), (1, .int (nI r)), (3, .int (nI e))]) (st2 := [.int (nI (j + 1)), .int (nI e)]) (w3 := w) rfl rfl ?_
      refine sx_RP.step (pc2 := 50) (ls2 := [(4, .int (nI (j + 1))), (2, .int (nI (l - (m * e)))), (0, .ref 111), (1, .int (nI r)), (3, .int (nI e))]) (st2 := [.int 5, .int (nI (j + 1)), .int (nI e)]) (w3 := w) rfl rfl ?_
      refine sx_RP.step (pc2 := 51) (ls2 := [(4, .int (nI (j + 1))), (2, .int (nI (l - (m * e)))), (0, .ref 111), (1, .int (nI r)), (3, .int (nI e))]) (st2 := [.int ((nI (j + 1)) - (nI (j + 1)) / 5 * 5), .int (nI e)]) (w3 := w) rfl rfl ?_
      rw [nI_rem5 (show j + 1 < 1000 by omega)]
      refine sx_RP.br (p1 := 63) (l1 := [(4, .int (nI (j + 1))), (2, .int (nI (l - (m * e)))), (0, .ref 111), (1, .int (nI r)), (3, .int (nI e))]) (s1 := [.int (nI e)]) (v1 := w) (p2 := 54) (l2 := [(4, .int (nI (j + 1))), (2, .int (nI (l - (m * e)))), (0, .ref 111), (1, .int (nI r)), (3, .int (nI e))]) (s2 := [.int (nI e)]) (v2 := w) rfl rfl (fun q2 => ?_) (fun q2 => ?_)
      · replace q2 := of_decide_eq_true q2
        replace q2 := mt (nI_eq (a := ((j + 1) % 5)) (b := 0) (by omega) (by omega)).mpr q2
        refine sx_RP.step (pc2 := 64) (ls2 := [(4, .int (nI (j + 1))), (2, .int (nI (l - (m * e)))), (0, .ref 111), (1, .int (nI r)), (3, .int (nI e))]) (st2 := [.int 0, .int (nI e)]) (w3 := w) rfl rfl ?_
        refine sx_RP.step (pc2 := 65) (ls2 := [(4, .int (nI (j + 1))), (2, .int (nI (l - (m * e)))), (0, .ref 111), (1, .int (nI r)), (3, .int (nI e))]) (st2 := [.int ((nI e) - 0)]) (w3 := w) rfl rfl ?_
        rw [show ((nI e) - 0 : Int32) = nI (e - 0) from nI_sub (a := e) (b := 0) (by omega)]
        refine sx_RP.step (pc2 := 66) (ls2 := [(3, .int (nI (e - 0))), (4, .int (nI (j + 1))), (2, .int (nI (l - (m * e)))), (0, .ref 111), (1, .int (nI r))]) (st2 := []) (w3 := w) rfl rfl ?_
        refine sx_RP.step (pc2 := 12) (ls2 := [(3, .int (nI (e - 0))), (4, .int (nI (j + 1))), (2, .int (nI (l - (m * e)))), (0, .ref 111), (1, .int (nI r))]) (st2 := []) (w3 := w) rfl rfl ?_
        unfold dayN
        rw [if_neg (show ¬ l < eatN m r j by unfold eatN; rw [← he]; omega)]
        have hl2 : l - eatN m r j = l - m * e := by unfold eatN; rw [← he]
        rw [hl2]
        exact sx_RP.ls (sx_lr.cons rfl (sx_lr.cons rfl (sx_lr.cons rfl (sx_lr.cons rfl (sx_lr.cons rfl sx_lr.nil))))) (x206L hI hm hm1 hr1 hr fz (j + 1) (l - m * e) ((e - 0)) (by omega) (by omega) (by omega))
      · replace q2 := Decidable.not_not.mp (of_decide_eq_false q2)
        replace q2 := (nI_eq (a := ((j + 1) % 5)) (b := 0) (by omega) (by omega)).mp q2
        refine sx_RP.step (pc2 := 55) (ls2 := [(4, .int (nI (j + 1))), (2, .int (nI (l - (m * e)))), (0, .ref 111), (1, .int (nI r)), (3, .int (nI e))]) (st2 := [.int (nI e), .int (nI e)]) (w3 := w) rfl rfl ?_
        refine sx_RP.step (pc2 := 56) (ls2 := [(4, .int (nI (j + 1))), (2, .int (nI (l - (m * e)))), (0, .ref 111), (1, .int (nI r)), (3, .int (nI e))]) (st2 := [.int 1, .int (nI e), .int (nI e)]) (w3 := w) rfl rfl ?_
        refine sx_RP.br (p1 := 63) (l1 := [(4, .int (nI (j + 1))), (2, .int (nI (l - (m * e)))), (0, .ref 111), (1, .int (nI r)), (3, .int (nI e))]) (s1 := [.int (nI e)]) (v1 := w) (p2 := 59) (l2 := [(4, .int (nI (j + 1))), (2, .int (nI (l - (m * e)))), (0, .ref 111), (1, .int (nI r)), (3, .int (nI e))]) (s2 := [.int (nI e)]) (v2 := w) rfl rfl (fun q3 => ?_) (fun q3 => ?_)
        · replace q3 := of_decide_eq_true q3
          replace q3 := (nI_leI (a := e) (b := 1) (by omega) (by omega)).mp q3
          refine sx_RP.step (pc2 := 64) (ls2 := [(4, .int (nI (j + 1))), (2, .int (nI (l - (m * e)))), (0, .ref 111), (1, .int (nI r)), (3, .int (nI e))]) (st2 := [.int 0, .int (nI e)]) (w3 := w) rfl rfl ?_
          refine sx_RP.step (pc2 := 65) (ls2 := [(4, .int (nI (j + 1))), (2, .int (nI (l - (m * e)))), (0, .ref 111), (1, .int (nI r)), (3, .int (nI e))]) (st2 := [.int ((nI e) - 0)]) (w3 := w) rfl rfl ?_
          rw [show ((nI e) - 0 : Int32) = nI (e - 0) from nI_sub (a := e) (b := 0) (by omega)]
          refine sx_RP.step (pc2 := 66) (ls2 := [(3, .int (nI (e - 0))), (4, .int (nI (j + 1))), (2, .int (nI (l - (m * e)))), (0, .ref 111), (1, .int (nI r))]) (st2 := []) (w3 := w) rfl rfl ?_
          refine sx_RP.step (pc2 := 12) (ls2 := [(3, .int (nI (e - 0))), (4, .int (nI (j + 1))), (2, .int (nI (l - (m * e)))), (0, .ref 111), (1, .int (nI r))]) (st2 := []) (w3 := w) rfl rfl ?_
          unfold dayN
          rw [if_neg (show ¬ l < eatN m r j by unfold eatN; rw [← he]; omega)]
          have hl2 : l - eatN m r j = l - m * e := by unfold eatN; rw [← he]
          rw [hl2]
          exact sx_RP.ls (sx_lr.cons rfl (sx_lr.cons rfl (sx_lr.cons rfl (sx_lr.cons rfl (sx_lr.cons rfl sx_lr.nil))))) (x206L hI hm hm1 hr1 hr fz (j + 1) (l - m * e) ((e - 0)) (by omega) (by omega) (by omega))
        · replace q3 := of_decide_eq_false q3
          replace q3 := mt (nI_leI (a := e) (b := 1) (by omega) (by omega)).mpr q3
          refine sx_RP.step (pc2 := 60) (ls2 := [(4, .int (nI (j + 1))), (2, .int (nI (l - (m * e)))), (0, .ref 111), (1, .int (nI r)), (3, .int (nI e))]) (st2 := [.int 1, .int (nI e)]) (w3 := w) rfl rfl ?_
          refine sx_RP.step (pc2 := 64) (ls2 := [(4, .int (nI (j + 1))), (2, .int (nI (l - (m * e)))), (0, .ref 111), (1, .int (nI r)), (3, .int (nI e))]) (st2 := [.int 1, .int (nI e)]) (w3 := w) rfl rfl ?_
          refine sx_RP.step (pc2 := 65) (ls2 := [(4, .int (nI (j + 1))), (2, .int (nI (l - (m * e)))), (0, .ref 111), (1, .int (nI r)), (3, .int (nI e))]) (st2 := [.int ((nI e) - 1)]) (w3 := w) rfl rfl ?_
          rw [show ((nI e) - 1 : Int32) = nI (e - 1) from nI_sub (a := e) (b := 1) (by omega)]
          refine sx_RP.step (pc2 := 66) (ls2 := [(3, .int (nI (e - 1))), (4, .int (nI (j + 1))), (2, .int (nI (l - (m * e)))), (0, .ref 111), (1, .int (nI r))]) (st2 := []) (w3 := w) rfl rfl ?_
          refine sx_RP.step (pc2 := 12) (ls2 := [(3, .int (nI (e - 1))), (4, .int (nI (j + 1))), (2, .int (nI (l - (m * e)))), (0, .ref 111), (1, .int (nI r))]) (st2 := []) (w3 := w) rfl rfl ?_
          unfold dayN
          rw [if_neg (show ¬ l < eatN m r j by unfold eatN; rw [← he]; omega)]
          have hl2 : l - eatN m r j = l - m * e := by unfold eatN; rw [← he]
          rw [hl2]
          exact sx_RP.ls (sx_lr.cons rfl (sx_lr.cons rfl (sx_lr.cons rfl (sx_lr.cons rfl (sx_lr.cons rfl sx_lr.nil))))) (x206L hI hm hm1 hr1 hr fz (j + 1) (l - m * e) ((e - 1)) (by omega) (by omega) (by omega))
set_option maxRecDepth 20000 in
set_option maxHeartbeats 4000000 in
theorem x206 {xs : Option (List Int32)} {d : Nat} {w : List sx_C} (hI : WI w) {o m r : Nat} (ho : (ia w 112).getD 4 0 = nI o) (ho1 : o ≤ 999999) (hm : (ia w 112).getD 5 0 = nI m) (hm1 : m ≤ 999) (hr1 : 1 ≤ r) (hr : r ≤ 99) : sx_RU xs d 206 0 (lv_args 0 [.ref 111, .int (nI r)]) [] w (some (.int (nI (daysN o m r)))) w := by
  have h : sx_RP xs d 206 0 (lv_args 0 [.ref 111, .int (nI r)]) [] w (fun r9 w2 => r9 = some (.int (nI (daysN o m r))) ∧ w2 = w) := by
    refine sx_RP.step (pc2 := 1) (ls2 := [(0, .ref 111), (1, .int (nI r))]) (st2 := [.ref 111]) (w3 := w) rfl rfl ?_
    refine sx_RP.gf (v := .ref 112) rfl rfl hI.1.o111 rfl rfl (show _ = 4 from rfl) ?_
    refine sx_RP.step (pc2 := 5) (ls2 := [(0, .ref 111), (1, .int (nI r))]) (st2 := [.int 4, .ref 112]) (w3 := w) rfl rfl ?_
    refine sx_RP.ild (c := 4) rfl hI.1.a112.1 hI.1.a112.2 (sx_in_nI (show 4 < 172 by omega) (by decide)) (show (nI 4).toNatClampNeg = 4 from nI_clamp (by omega)) (show _ = 6 from rfl) ?_
    rw [ho]
    refine sx_RP.step (pc2 := 7) (ls2 := [(2, .int (nI o)), (0, .ref 111), (1, .int (nI r))]) (st2 := []) (w3 := w) rfl rfl ?_
    refine sx_RP.step (pc2 := 8) (ls2 := [(2, .int (nI o)), (0, .ref 111), (1, .int (nI r))]) (st2 := [.int (nI r)]) (w3 := w) rfl rfl ?_
    refine sx_RP.step (pc2 := 9) (ls2 := [(3, .int (nI r)), (2, .int (nI o)), (0, .ref 111), (1, .int (nI r))]) (st2 := []) (w3 := w) rfl rfl ?_
    refine sx_RP.step (pc2 := 10) (ls2 := [(3, .int (nI r)), (2, .int (nI o)), (0, .ref 111), (1, .int (nI r))]) (st2 := [.int 0]) (w3 := w) rfl rfl ?_
    refine sx_RP.step (pc2 := 12) (ls2 := [(4, .int 0), (3, .int (nI r)), (2, .int (nI o)), (0, .ref 111), (1, .int (nI r))]) (st2 := []) (w3 := w) rfl rfl ?_
    exact sx_RP.ls (sx_lr.cons rfl (sx_lr.cons rfl (sx_lr.cons rfl (sx_lr.cons rfl (sx_lr.cons rfl sx_lr.nil))))) (x206L hI hm hm1 hr1 hr 999 0 o r (by omega) ho1 (by omega))
  obtain ⟨r9, w2, h1, rfl, rfl⟩ := h
  exact h1
end
-- 89e.ration.lean.txt
section
def BR (b : BB) : Prop := ∃ o m r, b.2.2.1 = nI o ∧ o ≤ 999999 ∧ b.2.2.2.1 = nI m ∧ 1 ≤ m ∧ m ≤ 999 ∧ b.2.2.2.2 = nI r ∧ 1 ≤ r ∧ r ≤ 99
def lasA (t : BT) : Int32 := nI (daysN (iN t.1.2.2.1) (iN t.1.2.2.2.1) (iN t.1.2.2.2.2))
def okN (o m x v : Nat) : Bool := decide (x ≤ daysN o m v)
def rat0 (v : Nat) : Int32 := if v = 0 then -1000000004 else nI v
def ratA (t : BT) (a1 : Int32) : Int32 := if 1 ≤ a1 ∧ a1 ≤ 999 then rat0 (topN (okN (iN t.1.2.2.1) (iN t.1.2.2.2.1) (iN a1)) 99) else -1000000001
theorem okN_anti {o m x : Nat} : ∀ a b, 1 ≤ a → a ≤ b → okN o m x b = true → okN o m x a = true := fun _ _ _ h2 h => decide_eq_true (Nat.le_trans (of_decide_eq_true h) (daysN_anti h2))
theorem nI_999 {x : Nat} (h1 : 1 ≤ x) (h2 : x ≤ 999) : (1 : Int32) ≤ nI x ∧ nI x ≤ 999 := ⟨nI_le (a := 1) h1 (by omega), nI_le (b := 999) h2 (by decide)⟩
theorem lasA_c {w : List sx_C} {o m r : Nat} (ho : fi w 1 8 = nI o) (ho1 : o ≤ 999999) (hm : fi w 1 9 = nI m) (hm1 : m ≤ 999) (hr : fi w 1 10 = nI r) (hr1 : r ≤ 99) : lasA (FCb w) = nI (daysN o m r) := by
  show nI (daysN (iN (fi w 1 8)) (iN (fi w 1 9)) (iN (fi w 1 10))) = _
  rw [ho, hm, hr, iN_n (by omega), iN_n (by omega), iN_n (by omega)]
theorem lasA_m {w : List sx_C} {o m r : Nat} (ho : (ia w 112).getD 4 0 = nI o) (ho1 : o ≤ 999999) (hm : (ia w 112).getD 5 0 = nI m) (hm1 : m ≤ 999) (hr : (ia w 112).getD 6 0 = nI r) (hr1 : r ≤ 99) : lasA (FMb w) = nI (daysN o m r) := by
  show nI (daysN (iN ((ia w 112).getD 4 0)) (iN ((ia w 112).getD 5 0)) (iN ((ia w 112).getD 6 0))) = _
  rw [ho, hm, hr, iN_n (by omega), iN_n (by omega), iN_n (by omega)]
theorem ratA_c {w : List sx_C} {o m x : Nat} (ho : fi w 1 8 = nI o) (ho1 : o ≤ 999999) (hm : fi w 1 9 = nI m) (hm1 : m ≤ 999) (h1 : 1 ≤ x) (h2 : x ≤ 999) : ratA (FCb w) (nI x) = rat0 (topN (okN o m x) 99) := by
  unfold ratA
  rw [if_pos (nI_999 h1 h2)]
  show rat0 (topN (okN (iN (fi w 1 8)) (iN (fi w 1 9)) (iN (nI x))) 99) = _
  rw [ho, hm, iN_n (by omega), iN_n (by omega), iN_n (by omega)]
theorem ratA_m {w : List sx_C} {o m x : Nat} (ho : (ia w 112).getD 4 0 = nI o) (ho1 : o ≤ 999999) (hm : (ia w 112).getD 5 0 = nI m) (hm1 : m ≤ 999) (h1 : 1 ≤ x) (h2 : x ≤ 999) : ratA (FMb w) (nI x) = rat0 (topN (okN o m x) 99) := by
  unfold ratA
  rw [if_pos (nI_999 h1 h2)]
  show rat0 (topN (okN (iN ((ia w 112).getD 4 0)) (iN ((ia w 112).getD 5 0)) (iN (nI x))) 99) = _
  rw [ho, hm, iN_n (by omega), iN_n (by omega), iN_n (by omega)]
theorem ratA_n {t : BT} {a1 : Int32} (h : ¬ (1 ≤ a1 ∧ a1 ≤ 999)) : ratA t a1 = -1000000001 := if_neg h
set_option maxRecDepth 20000 in
set_option maxHeartbeats 4000000 in
theorem C83 {xs : Option (List Int32)} {d : Nat} {w : List sx_C} (hI : WI w) (hb : BR (FCb w).1) : sx_RP xs (d + 7) 83 0 (lv_args 0 [.ref 0]) [] w (fun r w2 => (r = some (.int (lasA (FCb w)))) ∧ WI w2 ∧ EQ w w2) := by
  obtain ⟨o, m, r, ho, ho1, hm, hm0, hm1, hr, hr0, hr1⟩ := hb
  replace ho : fi w 1 8 = nI o := ho
  replace hm : fi w 1 9 = nI m := hm
  replace hr : fi w 1 10 = nI r := hr
  refine sx_RP.step (pc2 := 1) (ls2 := [(0, .ref 0)]) (st2 := [.ref 0]) (w3 := w) rfl rfl ?_
  refine sx_RP.gf (v := .ref 1) rfl rfl hI.1.o0 rfl rfl (show _ = 4 from rfl) ?_
  refine sx_RP.step (pc2 := 5) (ls2 := [(0, .ref 0)]) (st2 := [.ref 0, .ref 1]) (w3 := w) rfl rfl ?_
  refine sx_RP.gf (v := .ref 1) rfl rfl hI.1.o0 rfl rfl (show _ = 8 from rfl) ?_
  refine sx_RP.gc (k := 10) hI (Or.inl rfl) rfl rfl (by omega) (show _ = 11 from rfl) ?_
  rw [hr]
  refine sx_RP.cu (as := [.ref 1, .int (nI r)]) (rest2 := []) (st3 := [.int (nI (daysN o m r))]) rfl rfl (sx_inv_v2 (mi := 83) (k := 276) (st := [.int (nI r), .ref 1]) (w := w) rfl rfl (hI.1.oC (Or.inl rfl)) rfl rfl rfl) rfl rfl (x84 hI (Or.inl rfl) ho ho1 hm hm1 (by omega)) rfl ?_
  refine sx_RP.ret (r := (some (.int (nI (daysN o m r))))) rfl rfl ?_
  exact ⟨by rw [lasA_c ho ho1 hm hm1 hr hr1], hI, EQ.rf⟩
set_option maxRecDepth 20000 in
set_option maxHeartbeats 4000000 in
theorem C205 {xs : Option (List Int32)} {d : Nat} {w : List sx_C} (hI : WI w) (hb : BR (FMb w).1) : sx_RP xs (d + 7) 205 0 (lv_args 0 [.ref 111]) [] w (fun r w2 => (r = some (.int (lasA (FMb w)))) ∧ WI w2 ∧ EL w w2) := by
  obtain ⟨o, m, r, ho, ho1, hm, hm0, hm1, hr, hr0, hr1⟩ := hb
  replace ho : (ia w 112).getD 4 0 = nI o := ho
  replace hm : (ia w 112).getD 5 0 = nI m := hm
  replace hr : (ia w 112).getD 6 0 = nI r := hr
  refine sx_RP.step (pc2 := 1) (ls2 := [(0, .ref 111)]) (st2 := [.ref 111]) (w3 := w) rfl rfl ?_
  refine sx_RP.step (pc2 := 2) (ls2 := [(0, .ref 111)]) (st2 := [.ref 111, .ref 111]) (w3 := w) rfl rfl ?_
  refine sx_RP.gf (v := .ref 112) rfl rfl hI.1.o111 rfl rfl (show _ = 5 from rfl) ?_
  refine sx_RP.step (pc2 := 7) (ls2 := [(0, .ref 111)]) (st2 := [.int 6, .ref 112, .ref 111]) (w3 := w) rfl rfl ?_
  refine sx_RP.ild (c := 6) rfl hI.1.a112.1 hI.1.a112.2 (sx_in_nI (show 6 < 172 by omega) (by decide)) (show (nI 6).toNatClampNeg = 6 from nI_clamp (by omega)) (show _ = 8 from rfl) ?_
  rw [hr]
  refine sx_RP.cu (as := [.ref 111, .int (nI r)]) (rest2 := []) (st3 := [.int (nI (daysN o m r))]) rfl rfl (sx_inv_v2 (mi := 205) (k := 205) (st := [.int (nI r), .ref 111]) (w := w) rfl rfl hI.1.o111 rfl rfl rfl) rfl rfl (x206 hI ho ho1 hm hm1 (by omega) (by omega)) rfl ?_
  refine sx_RP.ret (r := (some (.int (nI (daysN o m r))))) rfl rfl ?_
  exact ⟨by rw [lasA_m ho ho1 hm hm1 hr hr1], hI, EL.rf⟩
set_option maxRecDepth 20000 in
set_option maxHeartbeats 4000000 in
theorem x86_0 {xs : Option (List Int32)} {d o m x : Nat} {w : List sx_C} (hI : WI w) (ho : fi w 1 8 = nI o) (ho1 : o ≤ 999999) (hm : fi w 1 9 = nI m) (hm1 : m ≤ 999) (hx : x ≤ 999) {g : Nat} (hg : g ≤ 99) : sx_RP xs (d + 7) 86 23 [(0, .ref 0), (1, .int (nI x)), (2, .int (nI g)), (3, .int 0)] [] w (fun r2 w2 => (r2 = some (.int (rat0 (g)))) ∧ WI w2 ∧ EQ w w2) := by
  refine sx_RP.step (pc2 := 24) (ls2 := [(0, .ref 0), (1, .int (nI x)), (2, .int (nI g)), (3, .int 0)]) (st2 := [.int 0]) (w3 := w) rfl rfl ?_
  refine sx_RP.step (pc2 := 62) (ls2 := [(0, .ref 0), (1, .int (nI x)), (2, .int (nI g)), (3, .int 0)]) (st2 := []) (w3 := w) rfl rfl ?_
  refine sx_RP.step (pc2 := 63) (ls2 := [(0, .ref 0), (1, .int (nI x)), (2, .int (nI g)), (3, .int 0)]) (st2 := [.int (nI g)]) (w3 := w) rfl rfl ?_
  refine sx_RP.br (p1 := 75) (l1 := [(0, .ref 0), (1, .int (nI x)), (2, .int (nI g)), (3, .int 0)]) (s1 := []) (v1 := w) (p2 := 66) (l2 := [(0, .ref 0), (1, .int (nI x)), (2, .int (nI g)), (3, .int 0)]) (s2 := []) (v2 := w) rfl rfl (fun q1 => ?_) (fun q1 => ?_)
  · replace q1 := of_decide_eq_true q1
    replace q1 := mt (nI_eq (a := g) (b := 0) (by omega) (by omega)).mpr q1
    refine sx_RP.step (pc2 := 76) (ls2 := [(0, .ref 0), (1, .int (nI x)), (2, .int (nI g)), (3, .int 0)]) (st2 := [.int (nI g)]) (w3 := w) rfl rfl ?_
    refine sx_RP.ret (r := (some (.int (nI g)))) rfl rfl ?_
    exact ⟨by unfold rat0; rw [if_neg q1], hI, EQ.rf⟩
  · replace q1 := Decidable.not_not.mp (of_decide_eq_false q1)
    replace q1 := (nI_eq (a := g) (b := 0) (by omega) (by omega)).mp q1
    refine sx_RP.step (pc2 := 67) (ls2 := [(0, .ref 0), (1, .int (nI x)), (2, .int (nI g)), (3, .int 0)]) (st2 := [.ref 0]) (w3 := w) rfl rfl ?_
    refine sx_RP.step (pc2 := 69) (ls2 := [(0, .ref 0), (1, .int (nI x)), (2, .int (nI g)), (3, .int 0)]) (st2 := [.int (-1000000004), .ref 0]) (w3 := w) rfl rfl ?_
    refine sx_RP.callp (as2 := [.ref 0, .int (-1000000004)]) (rest2 := []) rfl rfl (sx_inv_v2 (mi := 86) (k := 78) (st := [.int (-1000000004), .ref 0]) (w := w) rfl rfl hI.1.o0 rfl rfl rfl) rfl rfl rfl (Q9_3 hI) (show _ = 72 from rfl) ?_
    rintro r4 w3 ⟨rfl, hI4, hE2⟩
    show sx_RP _ _ _ _ _ [.int (-1000000004)] _ _
    refine sx_RP.step (pc2 := 76) (ls2 := [(0, .ref 0), (1, .int (nI x)), (2, .int (nI g)), (3, .int 0)]) (st2 := [.int (-1000000004)]) (w3 := w3) rfl rfl ?_
    refine sx_RP.ret (r := (some (.int (-1000000004)))) rfl rfl ?_
    exact ⟨by unfold rat0; rw [if_pos q1], hI4, hE2⟩
set_option maxRecDepth 20000 in
set_option maxHeartbeats 4000000 in
theorem x86_1 {xs : Option (List Int32)} {d o m x : Nat} {w : List sx_C} (hI : WI w) (ho : fi w 1 8 = nI o) (ho1 : o ≤ 999999) (hm : fi w 1 9 = nI m) (hm1 : m ≤ 999) (hx : x ≤ 999) {g : Nat} (hg : g ≤ 99) : sx_RP xs (d + 7) 86 23 [(0, .ref 0), (1, .int (nI x)), (2, .int (nI g)), (3, .int 1)] [] w (fun r2 w2 => (r2 = some (.int (rat0 ((halfN (okN o m x) g 1))))) ∧ WI w2 ∧ EQ w w2) := by
  have hdd : daysN o m (g + 1) ≤ 999 := daysN_le
  refine sx_RP.step (pc2 := 24) (ls2 := [(0, .ref 0), (1, .int (nI x)), (2, .int (nI g)), (3, .int 1)]) (st2 := [.int 1]) (w3 := w) rfl rfl ?_
  refine sx_RP.step (pc2 := 27) (ls2 := [(0, .ref 0), (1, .int (nI x)), (2, .int (nI g)), (3, .int 1)]) (st2 := []) (w3 := w) rfl rfl ?_
  refine sx_RP.step (pc2 := 28) (ls2 := [(0, .ref 0), (1, .int (nI x)), (2, .int (nI g)), (3, .int 1)]) (st2 := [.int (nI g)]) (w3 := w) rfl rfl ?_
  refine sx_RP.step (pc2 := 29) (ls2 := [(0, .ref 0), (1, .int (nI x)), (2, .int (nI g)), (3, .int 1)]) (st2 := [.int 1, .int (nI g)]) (w3 := w) rfl rfl ?_
  refine sx_RP.step (pc2 := 30) (ls2 := [(0, .ref 0), (1, .int (nI x)), (2, .int (nI g)), (3, .int 1)]) (st2 := [.int ((nI g) + 1)]) (w3 := w) rfl rfl ?_
  rw [show ((nI g) + 1 : Int32) = nI (g + 1) from nI_add g 1]
  refine sx_RP.step (pc2 := 32) (ls2 := [(4, .int (nI (g + 1))), (0, .ref 0), (1, .int (nI x)), (2, .int (nI g)), (3, .int 1)]) (st2 := []) (w3 := w) rfl rfl ?_
  refine sx_RP.step (pc2 := 34) (ls2 := [(4, .int (nI (g + 1))), (0, .ref 0), (1, .int (nI x)), (2, .int (nI g)), (3, .int 1)]) (st2 := [.int (nI (g + 1))]) (w3 := w) rfl rfl ?_
  refine sx_RP.step (pc2 := 36) (ls2 := [(4, .int (nI (g + 1))), (0, .ref 0), (1, .int (nI x)), (2, .int (nI g)), (3, .int 1)]) (st2 := [.int 99, .int (nI (g + 1))]) (w3 := w) rfl rfl ?_
  refine sx_RP.br (p1 := 55) (l1 := [(4, .int (nI (g + 1))), (0, .ref 0), (1, .int (nI x)), (2, .int (nI g)), (3, .int 1)]) (s1 := []) (v1 := w) (p2 := 39) (l2 := [(4, .int (nI (g + 1))), (0, .ref 0), (1, .int (nI x)), (2, .int (nI g)), (3, .int 1)]) (s2 := []) (v2 := w) rfl rfl (fun q1 => ?_) (fun q1 => ?_)
  · replace q1 := of_decide_eq_true q1
    replace q1 := (nI_ltI (a := 99) (b := (g + 1)) (by omega) (by omega)).mp q1
    refine sx_RP.step (pc2 := 56) (ls2 := [(4, .int (nI (g + 1))), (0, .ref 0), (1, .int (nI x)), (2, .int (nI g)), (3, .int 1)]) (st2 := [.int 1]) (w3 := w) rfl rfl ?_
    refine sx_RP.step (pc2 := 57) (ls2 := [(4, .int (nI (g + 1))), (0, .ref 0), (1, .int (nI x)), (2, .int (nI g)), (3, .int 1)]) (st2 := [.int 2, .int 1]) (w3 := w) rfl rfl ?_
    refine sx_RP.step (pc2 := 58) (ls2 := [(4, .int (nI (g + 1))), (0, .ref 0), (1, .int (nI x)), (2, .int (nI g)), (3, .int 1)]) (st2 := [.int 0]) (w3 := w) rfl rfl ?_
    refine sx_RP.step (pc2 := 59) (ls2 := [(3, .int 0), (4, .int (nI (g + 1))), (0, .ref 0), (1, .int (nI x)), (2, .int (nI g))]) (st2 := []) (w3 := w) rfl rfl ?_
    refine sx_RP.step (pc2 := 23) (ls2 := [(3, .int 0), (4, .int (nI (g + 1))), (0, .ref 0), (1, .int (nI x)), (2, .int (nI g))]) (st2 := []) (w3 := w) rfl rfl ?_
    rw [show halfN (okN o m x) g 1 = g from if_neg (fun z => by have z2 := of_decide_eq_true z.2; omega)]
    exact sx_RP.ls (sx_lr.cons rfl (sx_lr.cons rfl (sx_lr.cons rfl (sx_lr.cons rfl sx_lr.nil)))) (x86_0 hI ho ho1 hm hm1 hx (g := g) (by omega))
  · replace q1 := of_decide_eq_false q1
    replace q1 := mt (nI_ltI (a := 99) (b := (g + 1)) (by omega) (by omega)).mpr q1
    refine sx_RP.step (pc2 := 40) (ls2 := [(4, .int (nI (g + 1))), (0, .ref 0), (1, .int (nI x)), (2, .int (nI g)), (3, .int 1)]) (st2 := [.ref 0]) (w3 := w) rfl rfl ?_
    refine sx_RP.gf (v := .ref 1) rfl rfl hI.1.o0 rfl rfl (show _ = 43 from rfl) ?_
    refine sx_RP.step (pc2 := 45) (ls2 := [(4, .int (nI (g + 1))), (0, .ref 0), (1, .int (nI x)), (2, .int (nI g)), (3, .int 1)]) (st2 := [.int (nI (g + 1)), .ref 1]) (w3 := w) rfl rfl ?_
    refine sx_RP.cu (as := [.ref 1, .int (nI (g + 1))]) (rest2 := []) (st3 := [.int (nI (daysN o m (g + 1)))]) rfl rfl (sx_inv_v2 (mi := 86) (k := 276) (st := [.int (nI (g + 1)), .ref 1]) (w := w) rfl rfl (hI.1.oC (Or.inl rfl)) rfl rfl rfl) rfl rfl (x84 hI (Or.inl rfl) ho ho1 hm hm1 (by omega)) rfl ?_
    refine sx_RP.step (pc2 := 49) (ls2 := [(4, .int (nI (g + 1))), (0, .ref 0), (1, .int (nI x)), (2, .int (nI g)), (3, .int 1)]) (st2 := [.int (nI x), .int (nI (daysN o m (g + 1)))]) (w3 := w) rfl rfl ?_
    refine sx_RP.br (p1 := 55) (l1 := [(4, .int (nI (g + 1))), (0, .ref 0), (1, .int (nI x)), (2, .int (nI g)), (3, .int 1)]) (s1 := []) (v1 := w) (p2 := 52) (l2 := [(4, .int (nI (g + 1))), (0, .ref 0), (1, .int (nI x)), (2, .int (nI g)), (3, .int 1)]) (s2 := []) (v2 := w) rfl rfl (fun q2 => ?_) (fun q2 => ?_)
    · replace q2 := of_decide_eq_true q2
      replace q2 := (nI_ltI (a := (daysN o m (g + 1))) (b := x) (by omega) (by omega)).mp q2
      refine sx_RP.step (pc2 := 56) (ls2 := [(4, .int (nI (g + 1))), (0, .ref 0), (1, .int (nI x)), (2, .int (nI g)), (3, .int 1)]) (st2 := [.int 1]) (w3 := w) rfl rfl ?_
      refine sx_RP.step (pc2 := 57) (ls2 := [(4, .int (nI (g + 1))), (0, .ref 0), (1, .int (nI x)), (2, .int (nI g)), (3, .int 1)]) (st2 := [.int 2, .int 1]) (w3 := w) rfl rfl ?_
      refine sx_RP.step (pc2 := 58) (ls2 := [(4, .int (nI (g + 1))), (0, .ref 0), (1, .int (nI x)), (2, .int (nI g)), (3, .int 1)]) (st2 := [.int 0]) (w3 := w) rfl rfl ?_
      refine sx_RP.step (pc2 := 59) (ls2 := [(3, .int 0), (4, .int (nI (g + 1))), (0, .ref 0), (1, .int (nI x)), (2, .int (nI g))]) (st2 := []) (w3 := w) rfl rfl ?_
      refine sx_RP.step (pc2 := 23) (ls2 := [(3, .int 0), (4, .int (nI (g + 1))), (0, .ref 0), (1, .int (nI x)), (2, .int (nI g))]) (st2 := []) (w3 := w) rfl rfl ?_
      rw [show halfN (okN o m x) g 1 = g from if_neg (fun z => by have z2 := of_decide_eq_true z.2; omega)]
      exact sx_RP.ls (sx_lr.cons rfl (sx_lr.cons rfl (sx_lr.cons rfl (sx_lr.cons rfl sx_lr.nil)))) (x86_0 hI ho ho1 hm hm1 hx (g := g) (by omega))
    · replace q2 := of_decide_eq_false q2
      replace q2 := mt (nI_ltI (a := (daysN o m (g + 1))) (b := x) (by omega) (by omega)).mpr q2
      refine sx_RP.step (pc2 := 54) (ls2 := [(4, .int (nI (g + 1))), (0, .ref 0), (1, .int (nI x)), (2, .int (nI g)), (3, .int 1)]) (st2 := [.int (nI (g + 1))]) (w3 := w) rfl rfl ?_
      refine sx_RP.step (pc2 := 55) (ls2 := [(2, .int (nI (g + 1))), (4, .int (nI (g + 1))), (0, .ref 0), (1, .int (nI x)), (3, .int 1)]) (st2 := []) (w3 := w) rfl rfl ?_
      refine sx_RP.step (pc2 := 56) (ls2 := [(2, .int (nI (g + 1))), (4, .int (nI (g + 1))), (0, .ref 0), (1, .int (nI x)), (3, .int 1)]) (st2 := [.int 1]) (w3 := w) rfl rfl ?_
      refine sx_RP.step (pc2 := 57) (ls2 := [(2, .int (nI (g + 1))), (4, .int (nI (g + 1))), (0, .ref 0), (1, .int (nI x)), (3, .int 1)]) (st2 := [.int 2, .int 1]) (w3 := w) rfl rfl ?_
      refine sx_RP.step (pc2 := 58) (ls2 := [(2, .int (nI (g + 1))), (4, .int (nI (g + 1))), (0, .ref 0), (1, .int (nI x)), (3, .int 1)]) (st2 := [.int 0]) (w3 := w) rfl rfl ?_
      refine sx_RP.step (pc2 := 59) (ls2 := [(3, .int 0), (2, .int (nI (g + 1))), (4, .int (nI (g + 1))), (0, .ref 0), (1, .int (nI x))]) (st2 := []) (w3 := w) rfl rfl ?_
      refine sx_RP.step (pc2 := 23) (ls2 := [(3, .int 0), (2, .int (nI (g + 1))), (4, .int (nI (g + 1))), (0, .ref 0), (1, .int (nI x))]) (st2 := []) (w3 := w) rfl rfl ?_
      rw [show halfN (okN o m x) g 1 = g + 1 from if_pos ⟨by omega, decide_eq_true (by omega)⟩]
      exact sx_RP.ls (sx_lr.cons rfl (sx_lr.cons rfl (sx_lr.cons rfl (sx_lr.cons rfl sx_lr.nil)))) (x86_0 hI ho ho1 hm hm1 hx (g := (g + 1)) (by omega))
set_option maxRecDepth 20000 in
set_option maxHeartbeats 4000000 in
theorem x86_2 {xs : Option (List Int32)} {d o m x : Nat} {w : List sx_C} (hI : WI w) (ho : fi w 1 8 = nI o) (ho1 : o ≤ 999999) (hm : fi w 1 9 = nI m) (hm1 : m ≤ 999) (hx : x ≤ 999) {g : Nat} (hg : g ≤ 99) : sx_RP xs (d + 7) 86 23 [(0, .ref 0), (1, .int (nI x)), (2, .int (nI g)), (3, .int 2)] [] w (fun r2 w2 => (r2 = some (.int (rat0 ((halfN (okN o m x) (halfN (okN o m x) g 2) 1))))) ∧ WI w2 ∧ EQ w w2) := by
  have hdd : daysN o m (g + 2) ≤ 999 := daysN_le
  refine sx_RP.step (pc2 := 24) (ls2 := [(0, .ref 0), (1, .int (nI x)), (2, .int (nI g)), (3, .int 2)]) (st2 := [.int 2]) (w3 := w) rfl rfl ?_
  refine sx_RP.step (pc2 := 27) (ls2 := [(0, .ref 0), (1, .int (nI x)), (2, .int (nI g)), (3, .int 2)]) (st2 := []) (w3 := w) rfl rfl ?_
  refine sx_RP.step (pc2 := 28) (ls2 := [(0, .ref 0), (1, .int (nI x)), (2, .int (nI g)), (3, .int 2)]) (st2 := [.int (nI g)]) (w3 := w) rfl rfl ?_
  refine sx_RP.step (pc2 := 29) (ls2 := [(0, .ref 0), (1, .int (nI x)), (2, .int (nI g)), (3, .int 2)]) (st2 := [.int 2, .int (nI g)]) (w3 := w) rfl rfl ?_
  refine sx_RP.step (pc2 := 30) (ls2 := [(0, .ref 0), (1, .int (nI x)), (2, .int (nI g)), (3, .int 2)]) (st2 := [.int ((nI g) + 2)]) (w3 := w) rfl rfl ?_
  rw [show ((nI g) + 2 : Int32) = nI (g + 2) from nI_add g 2]
  refine sx_RP.step (pc2 := 32) (ls2 := [(4, .int (nI (g + 2))), (0, .ref 0), (1, .int (nI x)), (2, .int (nI g)), (3, .int 2)]) (st2 := []) (w3 := w) rfl rfl ?_
  refine sx_RP.step (pc2 := 34) (ls2 := [(4, .int (nI (g + 2))), (0, .ref 0), (1, .int (nI x)), (2, .int (nI g)), (3, .int 2)]) (st2 := [.int (nI (g + 2))]) (w3 := w) rfl rfl ?_
  refine sx_RP.step (pc2 := 36) (ls2 := [(4, .int (nI (g + 2))), (0, .ref 0), (1, .int (nI x)), (2, .int (nI g)), (3, .int 2)]) (st2 := [.int 99, .int (nI (g + 2))]) (w3 := w) rfl rfl ?_
  refine sx_RP.br (p1 := 55) (l1 := [(4, .int (nI (g + 2))), (0, .ref 0), (1, .int (nI x)), (2, .int (nI g)), (3, .int 2)]) (s1 := []) (v1 := w) (p2 := 39) (l2 := [(4, .int (nI (g + 2))), (0, .ref 0), (1, .int (nI x)), (2, .int (nI g)), (3, .int 2)]) (s2 := []) (v2 := w) rfl rfl (fun q1 => ?_) (fun q1 => ?_)
  · replace q1 := of_decide_eq_true q1
    replace q1 := (nI_ltI (a := 99) (b := (g + 2)) (by omega) (by omega)).mp q1
    refine sx_RP.step (pc2 := 56) (ls2 := [(4, .int (nI (g + 2))), (0, .ref 0), (1, .int (nI x)), (2, .int (nI g)), (3, .int 2)]) (st2 := [.int 2]) (w3 := w) rfl rfl ?_
    refine sx_RP.step (pc2 := 57) (ls2 := [(4, .int (nI (g + 2))), (0, .ref 0), (1, .int (nI x)), (2, .int (nI g)), (3, .int 2)]) (st2 := [.int 2, .int 2]) (w3 := w) rfl rfl ?_
    refine sx_RP.step (pc2 := 58) (ls2 := [(4, .int (nI (g + 2))), (0, .ref 0), (1, .int (nI x)), (2, .int (nI g)), (3, .int 2)]) (st2 := [.int 1]) (w3 := w) rfl rfl ?_
    refine sx_RP.step (pc2 := 59) (ls2 := [(3, .int 1), (4, .int (nI (g + 2))), (0, .ref 0), (1, .int (nI x)), (2, .int (nI g))]) (st2 := []) (w3 := w) rfl rfl ?_
    refine sx_RP.step (pc2 := 23) (ls2 := [(3, .int 1), (4, .int (nI (g + 2))), (0, .ref 0), (1, .int (nI x)), (2, .int (nI g))]) (st2 := []) (w3 := w) rfl rfl ?_
    rw [show halfN (okN o m x) g 2 = g from if_neg (fun z => by have z2 := of_decide_eq_true z.2; omega)]
    exact sx_RP.ls (sx_lr.cons rfl (sx_lr.cons rfl (sx_lr.cons rfl (sx_lr.cons rfl sx_lr.nil)))) (x86_1 hI ho ho1 hm hm1 hx (g := g) (by omega))
  · replace q1 := of_decide_eq_false q1
    replace q1 := mt (nI_ltI (a := 99) (b := (g + 2)) (by omega) (by omega)).mpr q1
    refine sx_RP.step (pc2 := 40) (ls2 := [(4, .int (nI (g + 2))), (0, .ref 0), (1, .int (nI x)), (2, .int (nI g)), (3, .int 2)]) (st2 := [.ref 0]) (w3 := w) rfl rfl ?_
    refine sx_RP.gf (v := .ref 1) rfl rfl hI.1.o0 rfl rfl (show _ = 43 from rfl) ?_
    refine sx_RP.step (pc2 := 45) (ls2 := [(4, .int (nI (g + 2))), (0, .ref 0), (1, .int (nI x)), (2, .int (nI g)), (3, .int 2)]) (st2 := [.int (nI (g + 2)), .ref 1]) (w3 := w) rfl rfl ?_
    refine sx_RP.cu (as := [.ref 1, .int (nI (g + 2))]) (rest2 := []) (st3 := [.int (nI (daysN o m (g + 2)))]) rfl rfl (sx_inv_v2 (mi := 86) (k := 276) (st := [.int (nI (g + 2)), .ref 1]) (w := w) rfl rfl (hI.1.oC (Or.inl rfl)) rfl rfl rfl) rfl rfl (x84 hI (Or.inl rfl) ho ho1 hm hm1 (by omega)) rfl ?_
    refine sx_RP.step (pc2 := 49) (ls2 := [(4, .int (nI (g + 2))), (0, .ref 0), (1, .int (nI x)), (2, .int (nI g)), (3, .int 2)]) (st2 := [.int (nI x), .int (nI (daysN o m (g + 2)))]) (w3 := w) rfl rfl ?_
    refine sx_RP.br (p1 := 55) (l1 := [(4, .int (nI (g + 2))), (0, .ref 0), (1, .int (nI x)), (2, .int (nI g)), (3, .int 2)]) (s1 := []) (v1 := w) (p2 := 52) (l2 := [(4, .int (nI (g + 2))), (0, .ref 0), (1, .int (nI x)), (2, .int (nI g)), (3, .int 2)]) (s2 := []) (v2 := w) rfl rfl (fun q2 => ?_) (fun q2 => ?_)
    · replace q2 := of_decide_eq_true q2
      replace q2 := (nI_ltI (a := (daysN o m (g + 2))) (b := x) (by omega) (by omega)).mp q2
      refine sx_RP.step (pc2 := 56) (ls2 := [(4, .int (nI (g + 2))), (0, .ref 0), (1, .int (nI x)), (2, .int (nI g)), (3, .int 2)]) (st2 := [.int 2]) (w3 := w) rfl rfl ?_
      refine sx_RP.step (pc2 := 57) (ls2 := [(4, .int (nI (g + 2))), (0, .ref 0), (1, .int (nI x)), (2, .int (nI g)), (3, .int 2)]) (st2 := [.int 2, .int 2]) (w3 := w) rfl rfl ?_
      refine sx_RP.step (pc2 := 58) (ls2 := [(4, .int (nI (g + 2))), (0, .ref 0), (1, .int (nI x)), (2, .int (nI g)), (3, .int 2)]) (st2 := [.int 1]) (w3 := w) rfl rfl ?_
      refine sx_RP.step (pc2 := 59) (ls2 := [(3, .int 1), (4, .int (nI (g + 2))), (0, .ref 0), (1, .int (nI x)), (2, .int (nI g))]) (st2 := []) (w3 := w) rfl rfl ?_
      refine sx_RP.step (pc2 := 23) (ls2 := [(3, .int 1), (4, .int (nI (g + 2))), (0, .ref 0), (1, .int (nI x)), (2, .int (nI g))]) (st2 := []) (w3 := w) rfl rfl ?_
      rw [show halfN (okN o m x) g 2 = g from if_neg (fun z => by have z2 := of_decide_eq_true z.2; omega)]
      exact sx_RP.ls (sx_lr.cons rfl (sx_lr.cons rfl (sx_lr.cons rfl (sx_lr.cons rfl sx_lr.nil)))) (x86_1 hI ho ho1 hm hm1 hx (g := g) (by omega))
    · replace q2 := of_decide_eq_false q2
      replace q2 := mt (nI_ltI (a := (daysN o m (g + 2))) (b := x) (by omega) (by omega)).mpr q2
      refine sx_RP.step (pc2 := 54) (ls2 := [(4, .int (nI (g + 2))), (0, .ref 0), (1, .int (nI x)), (2, .int (nI g)), (3, .int 2)]) (st2 := [.int (nI (g + 2))]) (w3 := w) rfl rfl ?_
      refine sx_RP.step (pc2 := 55) (ls2 := [(2, .int (nI (g + 2))), (4, .int (nI (g + 2))), (0, .ref 0), (1, .int (nI x)), (3, .int 2)]) (st2 := []) (w3 := w) rfl rfl ?_
      refine sx_RP.step (pc2 := 56) (ls2 := [(2, .int (nI (g + 2))), (4, .int (nI (g + 2))), (0, .ref 0), (1, .int (nI x)), (3, .int 2)]) (st2 := [.int 2]) (w3 := w) rfl rfl ?_
      refine sx_RP.step (pc2 := 57) (ls2 := [(2, .int (nI (g + 2))), (4, .int (nI (g + 2))), (0, .ref 0), (1, .int (nI x)), (3, .int 2)]) (st2 := [.int 2, .int 2]) (w3 := w) rfl rfl ?_
      refine sx_RP.step (pc2 := 58) (ls2 := [(2, .int (nI (g + 2))), (4, .int (nI (g + 2))), (0, .ref 0), (1, .int (nI x)), (3, .int 2)]) (st2 := [.int 1]) (w3 := w) rfl rfl ?_
      refine sx_RP.step (pc2 := 59) (ls2 := [(3, .int 1), (2, .int (nI (g + 2))), (4, .int (nI (g + 2))), (0, .ref 0), (1, .int (nI x))]) (st2 := []) (w3 := w) rfl rfl ?_
      refine sx_RP.step (pc2 := 23) (ls2 := [(3, .int 1), (2, .int (nI (g + 2))), (4, .int (nI (g + 2))), (0, .ref 0), (1, .int (nI x))]) (st2 := []) (w3 := w) rfl rfl ?_
      rw [show halfN (okN o m x) g 2 = g + 2 from if_pos ⟨by omega, decide_eq_true (by omega)⟩]
      exact sx_RP.ls (sx_lr.cons rfl (sx_lr.cons rfl (sx_lr.cons rfl (sx_lr.cons rfl sx_lr.nil)))) (x86_1 hI ho ho1 hm hm1 hx (g := (g + 2)) (by omega))
set_option maxRecDepth 20000 in
set_option maxHeartbeats 4000000 in
theorem x86_4 {xs : Option (List Int32)} {d o m x : Nat} {w : List sx_C} (hI : WI w) (ho : fi w 1 8 = nI o) (ho1 : o ≤ 999999) (hm : fi w 1 9 = nI m) (hm1 : m ≤ 999) (hx : x ≤ 999) {g : Nat} (hg : g ≤ 99) : sx_RP xs (d + 7) 86 23 [(0, .ref 0), (1, .int (nI x)), (2, .int (nI g)), (3, .int 4)] [] w (fun r2 w2 => (r2 = some (.int (rat0 ((halfN (okN o m x) (halfN (okN o m x) (halfN (okN o m x) g 4) 2) 1))))) ∧ WI w2 ∧ EQ w w2) := by
  have hdd : daysN o m (g + 4) ≤ 999 := daysN_le
  refine sx_RP.step (pc2 := 24) (ls2 := [(0, .ref 0), (1, .int (nI x)), (2, .int (nI g)), (3, .int 4)]) (st2 := [.int 4]) (w3 := w) rfl rfl ?_
  refine sx_RP.step (pc2 := 27) (ls2 := [(0, .ref 0), (1, .int (nI x)), (2, .int (nI g)), (3, .int 4)]) (st2 := []) (w3 := w) rfl rfl ?_
  refine sx_RP.step (pc2 := 28) (ls2 := [(0, .ref 0), (1, .int (nI x)), (2, .int (nI g)), (3, .int 4)]) (st2 := [.int (nI g)]) (w3 := w) rfl rfl ?_
  refine sx_RP.step (pc2 := 29) (ls2 := [(0, .ref 0), (1, .int (nI x)), (2, .int (nI g)), (3, .int 4)]) (st2 := [.int 4, .int (nI g)]) (w3 := w) rfl rfl ?_
  refine sx_RP.step (pc2 := 30) (ls2 := [(0, .ref 0), (1, .int (nI x)), (2, .int (nI g)), (3, .int 4)]) (st2 := [.int ((nI g) + 4)]) (w3 := w) rfl rfl ?_
  rw [show ((nI g) + 4 : Int32) = nI (g + 4) from nI_add g 4]
  refine sx_RP.step (pc2 := 32) (ls2 := [(4, .int (nI (g + 4))), (0, .ref 0), (1, .int (nI x)), (2, .int (nI g)), (3, .int 4)]) (st2 := []) (w3 := w) rfl rfl ?_
  refine sx_RP.step (pc2 := 34) (ls2 := [(4, .int (nI (g + 4))), (0, .ref 0), (1, .int (nI x)), (2, .int (nI g)), (3, .int 4)]) (st2 := [.int (nI (g + 4))]) (w3 := w) rfl rfl ?_
  refine sx_RP.step (pc2 := 36) (ls2 := [(4, .int (nI (g + 4))), (0, .ref 0), (1, .int (nI x)), (2, .int (nI g)), (3, .int 4)]) (st2 := [.int 99, .int (nI (g + 4))]) (w3 := w) rfl rfl ?_
  refine sx_RP.br (p1 := 55) (l1 := [(4, .int (nI (g + 4))), (0, .ref 0), (1, .int (nI x)), (2, .int (nI g)), (3, .int 4)]) (s1 := []) (v1 := w) (p2 := 39) (l2 := [(4, .int (nI (g + 4))), (0, .ref 0), (1, .int (nI x)), (2, .int (nI g)), (3, .int 4)]) (s2 := []) (v2 := w) rfl rfl (fun q1 => ?_) (fun q1 => ?_)
  · replace q1 := of_decide_eq_true q1
    replace q1 := (nI_ltI (a := 99) (b := (g + 4)) (by omega) (by omega)).mp q1
    refine sx_RP.step (pc2 := 56) (ls2 := [(4, .int (nI (g + 4))), (0, .ref 0), (1, .int (nI x)), (2, .int (nI g)), (3, .int 4)]) (st2 := [.int 4]) (w3 := w) rfl rfl ?_
    refine sx_RP.step (pc2 := 57) (ls2 := [(4, .int (nI (g + 4))), (0, .ref 0), (1, .int (nI x)), (2, .int (nI g)), (3, .int 4)]) (st2 := [.int 2, .int 4]) (w3 := w) rfl rfl ?_
    refine sx_RP.step (pc2 := 58) (ls2 := [(4, .int (nI (g + 4))), (0, .ref 0), (1, .int (nI x)), (2, .int (nI g)), (3, .int 4)]) (st2 := [.int 2]) (w3 := w) rfl rfl ?_
    refine sx_RP.step (pc2 := 59) (ls2 := [(3, .int 2), (4, .int (nI (g + 4))), (0, .ref 0), (1, .int (nI x)), (2, .int (nI g))]) (st2 := []) (w3 := w) rfl rfl ?_
    refine sx_RP.step (pc2 := 23) (ls2 := [(3, .int 2), (4, .int (nI (g + 4))), (0, .ref 0), (1, .int (nI x)), (2, .int (nI g))]) (st2 := []) (w3 := w) rfl rfl ?_
    rw [show halfN (okN o m x) g 4 = g from if_neg (fun z => by have z2 := of_decide_eq_true z.2; omega)]
    exact sx_RP.ls (sx_lr.cons rfl (sx_lr.cons rfl (sx_lr.cons rfl (sx_lr.cons rfl sx_lr.nil)))) (x86_2 hI ho ho1 hm hm1 hx (g := g) (by omega))
  · replace q1 := of_decide_eq_false q1
    replace q1 := mt (nI_ltI (a := 99) (b := (g + 4)) (by omega) (by omega)).mpr q1
    refine sx_RP.step (pc2 := 40) (ls2 := [(4, .int (nI (g + 4))), (0, .ref 0), (1, .int (nI x)), (2, .int (nI g)), (3, .int 4)]) (st2 := [.ref 0]) (w3 := w) rfl rfl ?_
    refine sx_RP.gf (v := .ref 1) rfl rfl hI.1.o0 rfl rfl (show _ = 43 from rfl) ?_
    refine sx_RP.step (pc2 := 45) (ls2 := [(4, .int (nI (g + 4))), (0, .ref 0), (1, .int (nI x)), (2, .int (nI g)), (3, .int 4)]) (st2 := [.int (nI (g + 4)), .ref 1]) (w3 := w) rfl rfl ?_
    refine sx_RP.cu (as := [.ref 1, .int (nI (g + 4))]) (rest2 := []) (st3 := [.int (nI (daysN o m (g + 4)))]) rfl rfl (sx_inv_v2 (mi := 86) (k := 276) (st := [.int (nI (g + 4)), .ref 1]) (w := w) rfl rfl (hI.1.oC (Or.inl rfl)) rfl rfl rfl) rfl rfl (x84 hI (Or.inl rfl) ho ho1 hm hm1 (by omega)) rfl ?_
    refine sx_RP.step (pc2 := 49) (ls2 := [(4, .int (nI (g + 4))), (0, .ref 0), (1, .int (nI x)), (2, .int (nI g)), (3, .int 4)]) (st2 := [.int (nI x), .int (nI (daysN o m (g + 4)))]) (w3 := w) rfl rfl ?_
    refine sx_RP.br (p1 := 55) (l1 := [(4, .int (nI (g + 4))), (0, .ref 0), (1, .int (nI x)), (2, .int (nI g)), (3, .int 4)]) (s1 := []) (v1 := w) (p2 := 52) (l2 := [(4, .int (nI (g + 4))), (0, .ref 0), (1, .int (nI x)), (2, .int (nI g)), (3, .int 4)]) (s2 := []) (v2 := w) rfl rfl (fun q2 => ?_) (fun q2 => ?_)
    · replace q2 := of_decide_eq_true q2
      replace q2 := (nI_ltI (a := (daysN o m (g + 4))) (b := x) (by omega) (by omega)).mp q2
      refine sx_RP.step (pc2 := 56) (ls2 := [(4, .int (nI (g + 4))), (0, .ref 0), (1, .int (nI x)), (2, .int (nI g)), (3, .int 4)]) (st2 := [.int 4]) (w3 := w) rfl rfl ?_
      refine sx_RP.step (pc2 := 57) (ls2 := [(4, .int (nI (g + 4))), (0, .ref 0), (1, .int (nI x)), (2, .int (nI g)), (3, .int 4)]) (st2 := [.int 2, .int 4]) (w3 := w) rfl rfl ?_
      refine sx_RP.step (pc2 := 58) (ls2 := [(4, .int (nI (g + 4))), (0, .ref 0), (1, .int (nI x)), (2, .int (nI g)), (3, .int 4)]) (st2 := [.int 2]) (w3 := w) rfl rfl ?_
      refine sx_RP.step (pc2 := 59) (ls2 := [(3, .int 2), (4, .int (nI (g + 4))), (0, .ref 0), (1, .int (nI x)), (2, .int (nI g))]) (st2 := []) (w3 := w) rfl rfl ?_
      refine sx_RP.step (pc2 := 23) (ls2 := [(3, .int 2), (4, .int (nI (g + 4))), (0, .ref 0), (1, .int (nI x)), (2, .int (nI g))]) (st2 := []) (w3 := w) rfl rfl ?_
      rw [show halfN (okN o m x) g 4 = g from if_neg (fun z => by have z2 := of_decide_eq_true z.2; omega)]
      exact sx_RP.ls (sx_lr.cons rfl (sx_lr.cons rfl (sx_lr.cons rfl (sx_lr.cons rfl sx_lr.nil)))) (x86_2 hI ho ho1 hm hm1 hx (g := g) (by omega))
    · replace q2 := of_decide_eq_false q2
      replace q2 := mt (nI_ltI (a := (daysN o m (g + 4))) (b := x) (by omega) (by omega)).mpr q2
      refine sx_RP.step (pc2 := 54) (ls2 := [(4, .int (nI (g + 4))), (0, .ref 0), (1, .int (nI x)), (2, .int (nI g)), (3, .int 4)]) (st2 := [.int (nI (g + 4))]) (w3 := w) rfl rfl ?_
      refine sx_RP.step (pc2 := 55) (ls2 := [(2, .int (nI (g + 4))), (4, .int (nI (g + 4))), (0, .ref 0), (1, .int (nI x)), (3, .int 4)]) (st2 := []) (w3 := w) rfl rfl ?_
      refine sx_RP.step (pc2 := 56) (ls2 := [(2, .int (nI (g + 4))), (4, .int (nI (g + 4))), (0, .ref 0), (1, .int (nI x)), (3, .int 4)]) (st2 := [.int 4]) (w3 := w) rfl rfl ?_
      refine sx_RP.step (pc2 := 57) (ls2 := [(2, .int (nI (g + 4))), (4, .int (nI (g + 4))), (0, .ref 0), (1, .int (nI x)), (3, .int 4)]) (st2 := [.int 2, .int 4]) (w3 := w) rfl rfl ?_
      refine sx_RP.step (pc2 := 58) (ls2 := [(2, .int (nI (g + 4))), (4, .int (nI (g + 4))), (0, .ref 0), (1, .int (nI x)), (3, .int 4)]) (st2 := [.int 2]) (w3 := w) rfl rfl ?_
      refine sx_RP.step (pc2 := 59) (ls2 := [(3, .int 2), (2, .int (nI (g + 4))), (4, .int (nI (g + 4))), (0, .ref 0), (1, .int (nI x))]) (st2 := []) (w3 := w) rfl rfl ?_
      refine sx_RP.step (pc2 := 23) (ls2 := [(3, .int 2), (2, .int (nI (g + 4))), (4, .int (nI (g + 4))), (0, .ref 0), (1, .int (nI x))]) (st2 := []) (w3 := w) rfl rfl ?_
      rw [show halfN (okN o m x) g 4 = g + 4 from if_pos ⟨by omega, decide_eq_true (by omega)⟩]
      exact sx_RP.ls (sx_lr.cons rfl (sx_lr.cons rfl (sx_lr.cons rfl (sx_lr.cons rfl sx_lr.nil)))) (x86_2 hI ho ho1 hm hm1 hx (g := (g + 4)) (by omega))
set_option maxRecDepth 20000 in
set_option maxHeartbeats 4000000 in
theorem x86_8 {xs : Option (List Int32)} {d o m x : Nat} {w : List sx_C} (hI : WI w) (ho : fi w 1 8 = nI o) (ho1 : o ≤ 999999) (hm : fi w 1 9 = nI m) (hm1 : m ≤ 999) (hx : x ≤ 999) {g : Nat} (hg : g ≤ 99) : sx_RP xs (d + 7) 86 23 [(0, .ref 0), (1, .int (nI x)), (2, .int (nI g)), (3, .int 8)] [] w (fun r2 w2 => (r2 = some (.int (rat0 ((halfN (okN o m x) (halfN (okN o m x) (halfN (okN o m x) (halfN (okN o m x) g 8) 4) 2) 1))))) ∧ WI w2 ∧ EQ w w2) := by
  have hdd : daysN o m (g + 8) ≤ 999 := daysN_le
  refine sx_RP.step (pc2 := 24) (ls2 := [(0, .ref 0), (1, .int (nI x)), (2, .int (nI g)), (3, .int 8)]) (st2 := [.int 8]) (w3 := w) rfl rfl ?_
  refine sx_RP.step (pc2 := 27) (ls2 := [(0, .ref 0), (1, .int (nI x)), (2, .int (nI g)), (3, .int 8)]) (st2 := []) (w3 := w) rfl rfl ?_
  refine sx_RP.step (pc2 := 28) (ls2 := [(0, .ref 0), (1, .int (nI x)), (2, .int (nI g)), (3, .int 8)]) (st2 := [.int (nI g)]) (w3 := w) rfl rfl ?_
  refine sx_RP.step (pc2 := 29) (ls2 := [(0, .ref 0), (1, .int (nI x)), (2, .int (nI g)), (3, .int 8)]) (st2 := [.int 8, .int (nI g)]) (w3 := w) rfl rfl ?_
  refine sx_RP.step (pc2 := 30) (ls2 := [(0, .ref 0), (1, .int (nI x)), (2, .int (nI g)), (3, .int 8)]) (st2 := [.int ((nI g) + 8)]) (w3 := w) rfl rfl ?_
  rw [show ((nI g) + 8 : Int32) = nI (g + 8) from nI_add g 8]
  refine sx_RP.step (pc2 := 32) (ls2 := [(4, .int (nI (g + 8))), (0, .ref 0), (1, .int (nI x)), (2, .int (nI g)), (3, .int 8)]) (st2 := []) (w3 := w) rfl rfl ?_
  refine sx_RP.step (pc2 := 34) (ls2 := [(4, .int (nI (g + 8))), (0, .ref 0), (1, .int (nI x)), (2, .int (nI g)), (3, .int 8)]) (st2 := [.int (nI (g + 8))]) (w3 := w) rfl rfl ?_
  refine sx_RP.step (pc2 := 36) (ls2 := [(4, .int (nI (g + 8))), (0, .ref 0), (1, .int (nI x)), (2, .int (nI g)), (3, .int 8)]) (st2 := [.int 99, .int (nI (g + 8))]) (w3 := w) rfl rfl ?_
  refine sx_RP.br (p1 := 55) (l1 := [(4, .int (nI (g + 8))), (0, .ref 0), (1, .int (nI x)), (2, .int (nI g)), (3, .int 8)]) (s1 := []) (v1 := w) (p2 := 39) (l2 := [(4, .int (nI (g + 8))), (0, .ref 0), (1, .int (nI x)), (2, .int (nI g)), (3, .int 8)]) (s2 := []) (v2 := w) rfl rfl (fun q1 => ?_) (fun q1 => ?_)
  · replace q1 := of_decide_eq_true q1
    replace q1 := (nI_ltI (a := 99) (b := (g + 8)) (by omega) (by omega)).mp q1
    refine sx_RP.step (pc2 := 56) (ls2 := [(4, .int (nI (g + 8))), (0, .ref 0), (1, .int (nI x)), (2, .int (nI g)), (3, .int 8)]) (st2 := [.int 8]) (w3 := w) rfl rfl ?_
    refine sx_RP.step (pc2 := 57) (ls2 := [(4, .int (nI (g + 8))), (0, .ref 0), (1, .int (nI x)), (2, .int (nI g)), (3, .int 8)]) (st2 := [.int 2, .int 8]) (w3 := w) rfl rfl ?_
    refine sx_RP.step (pc2 := 58) (ls2 := [(4, .int (nI (g + 8))), (0, .ref 0), (1, .int (nI x)), (2, .int (nI g)), (3, .int 8)]) (st2 := [.int 4]) (w3 := w) rfl rfl ?_
    refine sx_RP.step (pc2 := 59) (ls2 := [(3, .int 4), (4, .int (nI (g + 8))), (0, .ref 0), (1, .int (nI x)), (2, .int (nI g))]) (st2 := []) (w3 := w) rfl rfl ?_
    refine sx_RP.step (pc2 := 23) (ls2 := [(3, .int 4), (4, .int (nI (g + 8))), (0, .ref 0), (1, .int (nI x)), (2, .int (nI g))]) (st2 := []) (w3 := w) rfl rfl ?_
    rw [show halfN (okN o m x) g 8 = g from if_neg (fun z => by have z2 := of_decide_eq_true z.2; omega)]
    exact sx_RP.ls (sx_lr.cons rfl (sx_lr.cons rfl (sx_lr.cons rfl (sx_lr.cons rfl sx_lr.nil)))) (x86_4 hI ho ho1 hm hm1 hx (g := g) (by omega))
  · replace q1 := of_decide_eq_false q1
    replace q1 := mt (nI_ltI (a := 99) (b := (g + 8)) (by omega) (by omega)).mpr q1
    refine sx_RP.step (pc2 := 40) (ls2 := [(4, .int (nI (g + 8))), (0, .ref 0), (1, .int (nI x)), (2, .int (nI g)), (3, .int 8)]) (st2 := [.ref 0]) (w3 := w) rfl rfl ?_
    refine sx_RP.gf (v := .ref 1) rfl rfl hI.1.o0 rfl rfl (show _ = 43 from rfl) ?_
    refine sx_RP.step (pc2 := 45) (ls2 := [(4, .int (nI (g + 8))), (0, .ref 0), (1, .int (nI x)), (2, .int (nI g)), (3, .int 8)]) (st2 := [.int (nI (g + 8)), .ref 1]) (w3 := w) rfl rfl ?_
    refine sx_RP.cu (as := [.ref 1, .int (nI (g + 8))]) (rest2 := []) (st3 := [.int (nI (daysN o m (g + 8)))]) rfl rfl (sx_inv_v2 (mi := 86) (k := 276) (st := [.int (nI (g + 8)), .ref 1]) (w := w) rfl rfl (hI.1.oC (Or.inl rfl)) rfl rfl rfl) rfl rfl (x84 hI (Or.inl rfl) ho ho1 hm hm1 (by omega)) rfl ?_
    refine sx_RP.step (pc2 := 49) (ls2 := [(4, .int (nI (g + 8))), (0, .ref 0), (1, .int (nI x)), (2, .int (nI g)), (3, .int 8)]) (st2 := [.int (nI x), .int (nI (daysN o m (g + 8)))]) (w3 := w) rfl rfl ?_
    refine sx_RP.br (p1 := 55) (l1 := [(4, .int (nI (g + 8))), (0, .ref 0), (1, .int (nI x)), (2, .int (nI g)), (3, .int 8)]) (s1 := []) (v1 := w) (p2 := 52) (l2 := [(4, .int (nI (g + 8))), (0, .ref 0), (1, .int (nI x)), (2, .int (nI g)), (3, .int 8)]) (s2 := []) (v2 := w) rfl rfl (fun q2 => ?_) (fun q2 => ?_)
    · replace q2 := of_decide_eq_true q2
      replace q2 := (nI_ltI (a := (daysN o m (g + 8))) (b := x) (by omega) (by omega)).mp q2
      refine sx_RP.step (pc2 := 56) (ls2 := [(4, .int (nI (g + 8))), (0, .ref 0), (1, .int (nI x)), (2, .int (nI g)), (3, .int 8)]) (st2 := [.int 8]) (w3 := w) rfl rfl ?_
      refine sx_RP.step (pc2 := 57) (ls2 := [(4, .int (nI (g + 8))), (0, .ref 0), (1, .int (nI x)), (2, .int (nI g)), (3, .int 8)]) (st2 := [.int 2, .int 8]) (w3 := w) rfl rfl ?_
      refine sx_RP.step (pc2 := 58) (ls2 := [(4, .int (nI (g + 8))), (0, .ref 0), (1, .int (nI x)), (2, .int (nI g)), (3, .int 8)]) (st2 := [.int 4]) (w3 := w) rfl rfl ?_
      refine sx_RP.step (pc2 := 59) (ls2 := [(3, .int 4), (4, .int (nI (g + 8))), (0, .ref 0), (1, .int (nI x)), (2, .int (nI g))]) (st2 := []) (w3 := w) rfl rfl ?_
      refine sx_RP.step (pc2 := 23) (ls2 := [(3, .int 4), (4, .int (nI (g + 8))), (0, .ref 0), (1, .int (nI x)), (2, .int (nI g))]) (st2 := []) (w3 := w) rfl rfl ?_
      rw [show halfN (okN o m x) g 8 = g from if_neg (fun z => by have z2 := of_decide_eq_true z.2; omega)]
      exact sx_RP.ls (sx_lr.cons rfl (sx_lr.cons rfl (sx_lr.cons rfl (sx_lr.cons rfl sx_lr.nil)))) (x86_4 hI ho ho1 hm hm1 hx (g := g) (by omega))
    · replace q2 := of_decide_eq_false q2
      replace q2 := mt (nI_ltI (a := (daysN o m (g + 8))) (b := x) (by omega) (by omega)).mpr q2
      refine sx_RP.step (pc2 := 54) (ls2 := [(4, .int (nI (g + 8))), (0, .ref 0), (1, .int (nI x)), (2, .int (nI g)), (3, .int 8)]) (st2 := [.int (nI (g + 8))]) (w3 := w) rfl rfl ?_
      refine sx_RP.step (pc2 := 55) (ls2 := [(2, .int (nI (g + 8))), (4, .int (nI (g + 8))), (0, .ref 0), (1, .int (nI x)), (3, .int 8)]) (st2 := []) (w3 := w) rfl rfl ?_
      refine sx_RP.step (pc2 := 56) (ls2 := [(2, .int (nI (g + 8))), (4, .int (nI (g + 8))), (0, .ref 0), (1, .int (nI x)), (3, .int 8)]) (st2 := [.int 8]) (w3 := w) rfl rfl ?_
      refine sx_RP.step (pc2 := 57) (ls2 := [(2, .int (nI (g + 8))), (4, .int (nI (g + 8))), (0, .ref 0), (1, .int (nI x)), (3, .int 8)]) (st2 := [.int 2, .int 8]) (w3 := w) rfl rfl ?_
      refine sx_RP.step (pc2 := 58) (ls2 := [(2, .int (nI (g + 8))), (4, .int (nI (g + 8))), (0, .ref 0), (1, .int (nI x)), (3, .int 8)]) (st2 := [.int 4]) (w3 := w) rfl rfl ?_
      refine sx_RP.step (pc2 := 59) (ls2 := [(3, .int 4), (2, .int (nI (g + 8))), (4, .int (nI (g + 8))), (0, .ref 0), (1, .int (nI x))]) (st2 := []) (w3 := w) rfl rfl ?_
      refine sx_RP.step (pc2 := 23) (ls2 := [(3, .int 4), (2, .int (nI (g + 8))), (4, .int (nI (g + 8))), (0, .ref 0), (1, .int (nI x))]) (st2 := []) (w3 := w) rfl rfl ?_
      rw [show halfN (okN o m x) g 8 = g + 8 from if_pos ⟨by omega, decide_eq_true (by omega)⟩]
      exact sx_RP.ls (sx_lr.cons rfl (sx_lr.cons rfl (sx_lr.cons rfl (sx_lr.cons rfl sx_lr.nil)))) (x86_4 hI ho ho1 hm hm1 hx (g := (g + 8)) (by omega))
set_option maxRecDepth 20000 in
set_option maxHeartbeats 4000000 in
theorem x86_16 {xs : Option (List Int32)} {d o m x : Nat} {w : List sx_C} (hI : WI w) (ho : fi w 1 8 = nI o) (ho1 : o ≤ 999999) (hm : fi w 1 9 = nI m) (hm1 : m ≤ 999) (hx : x ≤ 999) {g : Nat} (hg : g ≤ 99) : sx_RP xs (d + 7) 86 23 [(0, .ref 0), (1, .int (nI x)), (2, .int (nI g)), (3, .int 16)] [] w (fun r2 w2 => (r2 = some (.int (rat0 ((halfN (okN o m x) (halfN (okN o m x) (halfN (okN o m x) (halfN (okN o m x) (halfN (okN o m x) g 16) 8) 4) 2) 1))))) ∧ WI w2 ∧ EQ w w2) := by
  have hdd : daysN o m (g + 16) ≤ 999 := daysN_le
  refine sx_RP.step (pc2 := 24) (ls2 := [(0, .ref 0), (1, .int (nI x)), (2, .int (nI g)), (3, .int 16)]) (st2 := [.int 16]) (w3 := w) rfl rfl ?_
  refine sx_RP.step (pc2 := 27) (ls2 := [(0, .ref 0), (1, .int (nI x)), (2, .int (nI g)), (3, .int 16)]) (st2 := []) (w3 := w) rfl rfl ?_
  refine sx_RP.step (pc2 := 28) (ls2 := [(0, .ref 0), (1, .int (nI x)), (2, .int (nI g)), (3, .int 16)]) (st2 := [.int (nI g)]) (w3 := w) rfl rfl ?_
  refine sx_RP.step (pc2 := 29) (ls2 := [(0, .ref 0), (1, .int (nI x)), (2, .int (nI g)), (3, .int 16)]) (st2 := [.int 16, .int (nI g)]) (w3 := w) rfl rfl ?_
  refine sx_RP.step (pc2 := 30) (ls2 := [(0, .ref 0), (1, .int (nI x)), (2, .int (nI g)), (3, .int 16)]) (st2 := [.int ((nI g) + 16)]) (w3 := w) rfl rfl ?_
  rw [show ((nI g) + 16 : Int32) = nI (g + 16) from nI_add g 16]
  refine sx_RP.step (pc2 := 32) (ls2 := [(4, .int (nI (g + 16))), (0, .ref 0), (1, .int (nI x)), (2, .int (nI g)), (3, .int 16)]) (st2 := []) (w3 := w) rfl rfl ?_
  refine sx_RP.step (pc2 := 34) (ls2 := [(4, .int (nI (g + 16))), (0, .ref 0), (1, .int (nI x)), (2, .int (nI g)), (3, .int 16)]) (st2 := [.int (nI (g + 16))]) (w3 := w) rfl rfl ?_
  refine sx_RP.step (pc2 := 36) (ls2 := [(4, .int (nI (g + 16))), (0, .ref 0), (1, .int (nI x)), (2, .int (nI g)), (3, .int 16)]) (st2 := [.int 99, .int (nI (g + 16))]) (w3 := w) rfl rfl ?_
  refine sx_RP.br (p1 := 55) (l1 := [(4, .int (nI (g + 16))), (0, .ref 0), (1, .int (nI x)), (2, .int (nI g)), (3, .int 16)]) (s1 := []) (v1 := w) (p2 := 39) (l2 := [(4, .int (nI (g + 16))), (0, .ref 0), (1, .int (nI x)), (2, .int (nI g)), (3, .int 16)]) (s2 := []) (v2 := w) rfl rfl (fun q1 => ?_) (fun q1 => ?_)
  · replace q1 := of_decide_eq_true q1
    replace q1 := (nI_ltI (a := 99) (b := (g + 16)) (by omega) (by omega)).mp q1
    refine sx_RP.step (pc2 := 56) (ls2 := [(4, .int (nI (g + 16))), (0, .ref 0), (1, .int (nI x)), (2, .int (nI g)), (3, .int 16)]) (st2 := [.int 16]) (w3 := w) rfl rfl ?_
    refine sx_RP.step (pc2 := 57) (ls2 := [(4, .int (nI (g + 16))), (0, .ref 0), (1, .int (nI x)), (2, .int (nI g)), (3, .int 16)]) (st2 := [.int 2, .int 16]) (w3 := w) rfl rfl ?_
    refine sx_RP.step (pc2 := 58) (ls2 := [(4, .int (nI (g + 16))), (0, .ref 0), (1, .int (nI x)), (2, .int (nI g)), (3, .int 16)]) (st2 := [.int 8]) (w3 := w) rfl rfl ?_
    refine sx_RP.step (pc2 := 59) (ls2 := [(3, .int 8), (4, .int (nI (g + 16))), (0, .ref 0), (1, .int (nI x)), (2, .int (nI g))]) (st2 := []) (w3 := w) rfl rfl ?_
    refine sx_RP.step (pc2 := 23) (ls2 := [(3, .int 8), (4, .int (nI (g + 16))), (0, .ref 0), (1, .int (nI x)), (2, .int (nI g))]) (st2 := []) (w3 := w) rfl rfl ?_
    rw [show halfN (okN o m x) g 16 = g from if_neg (fun z => by have z2 := of_decide_eq_true z.2; omega)]
    exact sx_RP.ls (sx_lr.cons rfl (sx_lr.cons rfl (sx_lr.cons rfl (sx_lr.cons rfl sx_lr.nil)))) (x86_8 hI ho ho1 hm hm1 hx (g := g) (by omega))
  · replace q1 := of_decide_eq_false q1
    replace q1 := mt (nI_ltI (a := 99) (b := (g + 16)) (by omega) (by omega)).mpr q1
    refine sx_RP.step (pc2 := 40) (ls2 := [(4, .int (nI (g + 16))), (0, .ref 0), (1, .int (nI x)), (2, .int (nI g)), (3, .int 16)]) (st2 := [.ref 0]) (w3 := w) rfl rfl ?_
    refine sx_RP.gf (v := .ref 1) rfl rfl hI.1.o0 rfl rfl (show _ = 43 from rfl) ?_
    refine sx_RP.step (pc2 := 45) (ls2 := [(4, .int (nI (g + 16))), (0, .ref 0), (1, .int (nI x)), (2, .int (nI g)), (3, .int 16)]) (st2 := [.int (nI (g + 16)), .ref 1]) (w3 := w) rfl rfl ?_
    refine sx_RP.cu (as := [.ref 1, .int (nI (g + 16))]) (rest2 := []) (st3 := [.int (nI (daysN o m (g + 16)))]) rfl rfl (sx_inv_v2 (mi := 86) (k := 276) (st := [.int (nI (g + 16)), .ref 1]) (w := w) rfl rfl (hI.1.oC (Or.inl rfl)) rfl rfl rfl) rfl rfl (x84 hI (Or.inl rfl) ho ho1 hm hm1 (by omega)) rfl ?_
    refine sx_RP.step (pc2 := 49) (ls2 := [(4, .int (nI (g + 16))), (0, .ref 0), (1, .int (nI x)), (2, .int (nI g)), (3, .int 16)]) (st2 := [.int (nI x), .int (nI (daysN o m (g + 16)))]) (w3 := w) rfl rfl ?_
    refine sx_RP.br (p1 := 55) (l1 := [(4, .int (nI (g + 16))), (0, .ref 0), (1, .int (nI x)), (2, .int (nI g)), (3, .int 16)]) (s1 := []) (v1 := w) (p2 := 52) (l2 := [(4, .int (nI (g + 16))), (0, .ref 0), (1, .int (nI x)), (2, .int (nI g)), (3, .int 16)]) (s2 := []) (v2 := w) rfl rfl (fun q2 => ?_) (fun q2 => ?_)
    · replace q2 := of_decide_eq_true q2
      replace q2 := (nI_ltI (a := (daysN o m (g + 16))) (b := x) (by omega) (by omega)).mp q2
      refine sx_RP.step (pc2 := 56) (ls2 := [(4, .int (nI (g + 16))), (0, .ref 0), (1, .int (nI x)), (2, .int (nI g)), (3, .int 16)]) (st2 := [.int 16]) (w3 := w) rfl rfl ?_
      refine sx_RP.step (pc2 := 57) (ls2 := [(4, .int (nI (g + 16))), (0, .ref 0), (1, .int (nI x)), (2, .int (nI g)), (3, .int 16)]) (st2 := [.int 2, .int 16]) (w3 := w) rfl rfl ?_
      refine sx_RP.step (pc2 := 58) (ls2 := [(4, .int (nI (g + 16))), (0, .ref 0), (1, .int (nI x)), (2, .int (nI g)), (3, .int 16)]) (st2 := [.int 8]) (w3 := w) rfl rfl ?_
      refine sx_RP.step (pc2 := 59) (ls2 := [(3, .int 8), (4, .int (nI (g + 16))), (0, .ref 0), (1, .int (nI x)), (2, .int (nI g))]) (st2 := []) (w3 := w) rfl rfl ?_
      refine sx_RP.step (pc2 := 23) (ls2 := [(3, .int 8), (4, .int (nI (g + 16))), (0, .ref 0), (1, .int (nI x)), (2, .int (nI g))]) (st2 := []) (w3 := w) rfl rfl ?_
      rw [show halfN (okN o m x) g 16 = g from if_neg (fun z => by have z2 := of_decide_eq_true z.2; omega)]
      exact sx_RP.ls (sx_lr.cons rfl (sx_lr.cons rfl (sx_lr.cons rfl (sx_lr.cons rfl sx_lr.nil)))) (x86_8 hI ho ho1 hm hm1 hx (g := g) (by omega))
    · replace q2 := of_decide_eq_false q2
      replace q2 := mt (nI_ltI (a := (daysN o m (g + 16))) (b := x) (by omega) (by omega)).mpr q2
      refine sx_RP.step (pc2 := 54) (ls2 := [(4, .int (nI (g + 16))), (0, .ref 0), (1, .int (nI x)), (2, .int (nI g)), (3, .int 16)]) (st2 := [.int (nI (g + 16))]) (w3 := w) rfl rfl ?_
      refine sx_RP.step (pc2 := 55) (ls2 := [(2, .int (nI (g + 16))), (4, .int (nI (g + 16))), (0, .ref 0), (1, .int (nI x)), (3, .int 16)]) (st2 := []) (w3 := w) rfl rfl ?_
      refine sx_RP.step (pc2 := 56) (ls2 := [(2, .int (nI (g + 16))), (4, .int (nI (g + 16))), (0, .ref 0), (1, .int (nI x)), (3, .int 16)]) (st2 := [.int 16]) (w3 := w) rfl rfl ?_
      refine sx_RP.step (pc2 := 57) (ls2 := [(2, .int (nI (g + 16))), (4, .int (nI (g + 16))), (0, .ref 0), (1, .int (nI x)), (3, .int 16)]) (st2 := [.int 2, .int 16]) (w3 := w) rfl rfl ?_
      refine sx_RP.step (pc2 := 58) (ls2 := [(2, .int (nI (g + 16))), (4, .int (nI (g + 16))), (0, .ref 0), (1, .int (nI x)), (3, .int 16)]) (st2 := [.int 8]) (w3 := w) rfl rfl ?_
      refine sx_RP.step (pc2 := 59) (ls2 := [(3, .int 8), (2, .int (nI (g + 16))), (4, .int (nI (g + 16))), (0, .ref 0), (1, .int (nI x))]) (st2 := []) (w3 := w) rfl rfl ?_
      refine sx_RP.step (pc2 := 23) (ls2 := [(3, .int 8), (2, .int (nI (g + 16))), (4, .int (nI (g + 16))), (0, .ref 0), (1, .int (nI x))]) (st2 := []) (w3 := w) rfl rfl ?_
      rw [show halfN (okN o m x) g 16 = g + 16 from if_pos ⟨by omega, decide_eq_true (by omega)⟩]
      exact sx_RP.ls (sx_lr.cons rfl (sx_lr.cons rfl (sx_lr.cons rfl (sx_lr.cons rfl sx_lr.nil)))) (x86_8 hI ho ho1 hm hm1 hx (g := (g + 16)) (by omega))
set_option maxRecDepth 20000 in
set_option maxHeartbeats 4000000 in
theorem x86_32 {xs : Option (List Int32)} {d o m x : Nat} {w : List sx_C} (hI : WI w) (ho : fi w 1 8 = nI o) (ho1 : o ≤ 999999) (hm : fi w 1 9 = nI m) (hm1 : m ≤ 999) (hx : x ≤ 999) {g : Nat} (hg : g ≤ 99) : sx_RP xs (d + 7) 86 23 [(0, .ref 0), (1, .int (nI x)), (2, .int (nI g)), (3, .int 32)] [] w (fun r2 w2 => (r2 = some (.int (rat0 ((halfN (okN o m x) (halfN (okN o m x) (halfN (okN o m x) (halfN (okN o m x) (halfN (okN o m x) (halfN (okN o m x) g 32) 16) 8) 4) 2) 1))))) ∧ WI w2 ∧ EQ w w2) := by
  have hdd : daysN o m (g + 32) ≤ 999 := daysN_le
  refine sx_RP.step (pc2 := 24) (ls2 := [(0, .ref 0), (1, .int (nI x)), (2, .int (nI g)), (3, .int 32)]) (st2 := [.int 32]) (w3 := w) rfl rfl ?_
  refine sx_RP.step (pc2 := 27) (ls2 := [(0, .ref 0), (1, .int (nI x)), (2, .int (nI g)), (3, .int 32)]) (st2 := []) (w3 := w) rfl rfl ?_
  refine sx_RP.step (pc2 := 28) (ls2 := [(0, .ref 0), (1, .int (nI x)), (2, .int (nI g)), (3, .int 32)]) (st2 := [.int (nI g)]) (w3 := w) rfl rfl ?_
  refine sx_RP.step (pc2 := 29) (ls2 := [(0, .ref 0), (1, .int (nI x)), (2, .int (nI g)), (3, .int 32)]) (st2 := [.int 32, .int (nI g)]) (w3 := w) rfl rfl ?_
  refine sx_RP.step (pc2 := 30) (ls2 := [(0, .ref 0), (1, .int (nI x)), (2, .int (nI g)), (3, .int 32)]) (st2 := [.int ((nI g) + 32)]) (w3 := w) rfl rfl ?_
  rw [show ((nI g) + 32 : Int32) = nI (g + 32) from nI_add g 32]
  refine sx_RP.step (pc2 := 32) (ls2 := [(4, .int (nI (g + 32))), (0, .ref 0), (1, .int (nI x)), (2, .int (nI g)), (3, .int 32)]) (st2 := []) (w3 := w) rfl rfl ?_
  refine sx_RP.step (pc2 := 34) (ls2 := [(4, .int (nI (g + 32))), (0, .ref 0), (1, .int (nI x)), (2, .int (nI g)), (3, .int 32)]) (st2 := [.int (nI (g + 32))]) (w3 := w) rfl rfl ?_
  refine sx_RP.step (pc2 := 36) (ls2 := [(4, .int (nI (g + 32))), (0, .ref 0), (1, .int (nI x)), (2, .int (nI g)), (3, .int 32)]) (st2 := [.int 99, .int (nI (g + 32))]) (w3 := w) rfl rfl ?_
  refine sx_RP.br (p1 := 55) (l1 := [(4, .int (nI (g + 32))), (0, .ref 0), (1, .int (nI x)), (2, .int (nI g)), (3, .int 32)]) (s1 := []) (v1 := w) (p2 := 39) (l2 := [(4, .int (nI (g + 32))), (0, .ref 0), (1, .int (nI x)), (2, .int (nI g)), (3, .int 32)]) (s2 := []) (v2 := w) rfl rfl (fun q1 => ?_) (fun q1 => ?_)
  · replace q1 := of_decide_eq_true q1
    replace q1 := (nI_ltI (a := 99) (b := (g + 32)) (by omega) (by omega)).mp q1
    refine sx_RP.step (pc2 := 56) (ls2 := [(4, .int (nI (g + 32))), (0, .ref 0), (1, .int (nI x)), (2, .int (nI g)), (3, .int 32)]) (st2 := [.int 32]) (w3 := w) rfl rfl ?_
    refine sx_RP.step (pc2 := 57) (ls2 := [(4, .int (nI (g + 32))), (0, .ref 0), (1, .int (nI x)), (2, .int (nI g)), (3, .int 32)]) (st2 := [.int 2, .int 32]) (w3 := w) rfl rfl ?_
    refine sx_RP.step (pc2 := 58) (ls2 := [(4, .int (nI (g + 32))), (0, .ref 0), (1, .int (nI x)), (2, .int (nI g)), (3, .int 32)]) (st2 := [.int 16]) (w3 := w) rfl rfl ?_
    refine sx_RP.step (pc2 := 59) (ls2 := [(3, .int 16), (4, .int (nI (g + 32))), (0, .ref 0), (1, .int (nI x)), (2, .int (nI g))]) (st2 := []) (w3 := w) rfl rfl ?_
    refine sx_RP.step (pc2 := 23) (ls2 := [(3, .int 16), (4, .int (nI (g + 32))), (0, .ref 0), (1, .int (nI x)), (2, .int (nI g))]) (st2 := []) (w3 := w) rfl rfl ?_
    rw [show halfN (okN o m x) g 32 = g from if_neg (fun z => by have z2 := of_decide_eq_true z.2; omega)]
    exact sx_RP.ls (sx_lr.cons rfl (sx_lr.cons rfl (sx_lr.cons rfl (sx_lr.cons rfl sx_lr.nil)))) (x86_16 hI ho ho1 hm hm1 hx (g := g) (by omega))
  · replace q1 := of_decide_eq_false q1
    replace q1 := mt (nI_ltI (a := 99) (b := (g + 32)) (by omega) (by omega)).mpr q1
    refine sx_RP.step (pc2 := 40) (ls2 := [(4, .int (nI (g + 32))), (0, .ref 0), (1, .int (nI x)), (2, .int (nI g)), (3, .int 32)]) (st2 := [.ref 0]) (w3 := w) rfl rfl ?_
    refine sx_RP.gf (v := .ref 1) rfl rfl hI.1.o0 rfl rfl (show _ = 43 from rfl) ?_
    refine sx_RP.step (pc2 := 45) (ls2 := [(4, .int (nI (g + 32))), (0, .ref 0), (1, .int (nI x)), (2, .int (nI g)), (3, .int 32)]) (st2 := [.int (nI (g + 32)), .ref 1]) (w3 := w) rfl rfl ?_
    refine sx_RP.cu (as := [.ref 1, .int (nI (g + 32))]) (rest2 := []) (st3 := [.int (nI (daysN o m (g + 32)))]) rfl rfl (sx_inv_v2 (mi := 86) (k := 276) (st := [.int (nI (g + 32)), .ref 1]) (w := w) rfl rfl (hI.1.oC (Or.inl rfl)) rfl rfl rfl) rfl rfl (x84 hI (Or.inl rfl) ho ho1 hm hm1 (by omega)) rfl ?_
    refine sx_RP.step (pc2 := 49) (ls2 := [(4, .int (nI (g + 32))), (0, .ref 0), (1, .int (nI x)), (2, .int (nI g)), (3, .int 32)]) (st2 := [.int (nI x), .int (nI (daysN o m (g + 32)))]) (w3 := w) rfl rfl ?_
    refine sx_RP.br (p1 := 55) (l1 := [(4, .int (nI (g + 32))), (0, .ref 0), (1, .int (nI x)), (2, .int (nI g)), (3, .int 32)]) (s1 := []) (v1 := w) (p2 := 52) (l2 := [(4, .int (nI (g + 32))), (0, .ref 0), (1, .int (nI x)), (2, .int (nI g)), (3, .int 32)]) (s2 := []) (v2 := w) rfl rfl (fun q2 => ?_) (fun q2 => ?_)
    · replace q2 := of_decide_eq_true q2
      replace q2 := (nI_ltI (a := (daysN o m (g + 32))) (b := x) (by omega) (by omega)).mp q2
      refine sx_RP.step (pc2 := 56) (ls2 := [(4, .int (nI (g + 32))), (0, .ref 0), (1, .int (nI x)), (2, .int (nI g)), (3, .int 32)]) (st2 := [.int 32]) (w3 := w) rfl rfl ?_
      refine sx_RP.step (pc2 := 57) (ls2 := [(4, .int (nI (g + 32))), (0, .ref 0), (1, .int (nI x)), (2, .int (nI g)), (3, .int 32)]) (st2 := [.int 2, .int 32]) (w3 := w) rfl rfl ?_
      refine sx_RP.step (pc2 := 58) (ls2 := [(4, .int (nI (g + 32))), (0, .ref 0), (1, .int (nI x)), (2, .int (nI g)), (3, .int 32)]) (st2 := [.int 16]) (w3 := w) rfl rfl ?_
      refine sx_RP.step (pc2 := 59) (ls2 := [(3, .int 16), (4, .int (nI (g + 32))), (0, .ref 0), (1, .int (nI x)), (2, .int (nI g))]) (st2 := []) (w3 := w) rfl rfl ?_
      refine sx_RP.step (pc2 := 23) (ls2 := [(3, .int 16), (4, .int (nI (g + 32))), (0, .ref 0), (1, .int (nI x)), (2, .int (nI g))]) (st2 := []) (w3 := w) rfl rfl ?_
      rw [show halfN (okN o m x) g 32 = g from if_neg (fun z => by have z2 := of_decide_eq_true z.2; omega)]
      exact sx_RP.ls (sx_lr.cons rfl (sx_lr.cons rfl (sx_lr.cons rfl (sx_lr.cons rfl sx_lr.nil)))) (x86_16 hI ho ho1 hm hm1 hx (g := g) (by omega))
    · replace q2 := of_decide_eq_false q2
      replace q2 := mt (nI_ltI (a := (daysN o m (g + 32))) (b := x) (by omega) (by omega)).mpr q2
      refine sx_RP.step (pc2 := 54) (ls2 := [(4, .int (nI (g + 32))), (0, .ref 0), (1, .int (nI x)), (2, .int (nI g)), (3, .int 32)]) (st2 := [.int (nI (g + 32))]) (w3 := w) rfl rfl ?_
      refine sx_RP.step (pc2 := 55) (ls2 := [(2, .int (nI (g + 32))), (4, .int (nI (g + 32))), (0, .ref 0), (1, .int (nI x)), (3, .int 32)]) (st2 := []) (w3 := w) rfl rfl ?_
      refine sx_RP.step (pc2 := 56) (ls2 := [(2, .int (nI (g + 32))), (4, .int (nI (g + 32))), (0, .ref 0), (1, .int (nI x)), (3, .int 32)]) (st2 := [.int 32]) (w3 := w) rfl rfl ?_
      refine sx_RP.step (pc2 := 57) (ls2 := [(2, .int (nI (g + 32))), (4, .int (nI (g + 32))), (0, .ref 0), (1, .int (nI x)), (3, .int 32)]) (st2 := [.int 2, .int 32]) (w3 := w) rfl rfl ?_
      refine sx_RP.step (pc2 := 58) (ls2 := [(2, .int (nI (g + 32))), (4, .int (nI (g + 32))), (0, .ref 0), (1, .int (nI x)), (3, .int 32)]) (st2 := [.int 16]) (w3 := w) rfl rfl ?_
      refine sx_RP.step (pc2 := 59) (ls2 := [(3, .int 16), (2, .int (nI (g + 32))), (4, .int (nI (g + 32))), (0, .ref 0), (1, .int (nI x))]) (st2 := []) (w3 := w) rfl rfl ?_
      refine sx_RP.step (pc2 := 23) (ls2 := [(3, .int 16), (2, .int (nI (g + 32))), (4, .int (nI (g + 32))), (0, .ref 0), (1, .int (nI x))]) (st2 := []) (w3 := w) rfl rfl ?_
      rw [show halfN (okN o m x) g 32 = g + 32 from if_pos ⟨by omega, decide_eq_true (by omega)⟩]
      exact sx_RP.ls (sx_lr.cons rfl (sx_lr.cons rfl (sx_lr.cons rfl (sx_lr.cons rfl sx_lr.nil)))) (x86_16 hI ho ho1 hm hm1 hx (g := (g + 32)) (by omega))
set_option maxRecDepth 20000 in
set_option maxHeartbeats 4000000 in
theorem x86_64 {xs : Option (List Int32)} {d o m x : Nat} {w : List sx_C} (hI : WI w) (ho : fi w 1 8 = nI o) (ho1 : o ≤ 999999) (hm : fi w 1 9 = nI m) (hm1 : m ≤ 999) (hx : x ≤ 999) {g : Nat} (hg : g ≤ 99) : sx_RP xs (d + 7) 86 23 [(0, .ref 0), (1, .int (nI x)), (2, .int (nI g)), (3, .int 64)] [] w (fun r2 w2 => (r2 = some (.int (rat0 ((halfN (okN o m x) (halfN (okN o m x) (halfN (okN o m x) (halfN (okN o m x) (halfN (okN o m x) (halfN (okN o m x) (halfN (okN o m x) g 64) 32) 16) 8) 4) 2) 1))))) ∧ WI w2 ∧ EQ w w2) := by
  have hdd : daysN o m (g + 64) ≤ 999 := daysN_le
  refine sx_RP.step (pc2 := 24) (ls2 := [(0, .ref 0), (1, .int (nI x)), (2, .int (nI g)), (3, .int 64)]) (st2 := [.int 64]) (w3 := w) rfl rfl ?_
  refine sx_RP.step (pc2 := 27) (ls2 := [(0, .ref 0), (1, .int (nI x)), (2, .int (nI g)), (3, .int 64)]) (st2 := []) (w3 := w) rfl rfl ?_
  refine sx_RP.step (pc2 := 28) (ls2 := [(0, .ref 0), (1, .int (nI x)), (2, .int (nI g)), (3, .int 64)]) (st2 := [.int (nI g)]) (w3 := w) rfl rfl ?_
  refine sx_RP.step (pc2 := 29) (ls2 := [(0, .ref 0), (1, .int (nI x)), (2, .int (nI g)), (3, .int 64)]) (st2 := [.int 64, .int (nI g)]) (w3 := w) rfl rfl ?_
  refine sx_RP.step (pc2 := 30) (ls2 := [(0, .ref 0), (1, .int (nI x)), (2, .int (nI g)), (3, .int 64)]) (st2 := [.int ((nI g) + 64)]) (w3 := w) rfl rfl ?_
  rw [show ((nI g) + 64 : Int32) = nI (g + 64) from nI_add g 64]
  refine sx_RP.step (pc2 := 32) (ls2 := [(4, .int (nI (g + 64))), (0, .ref 0), (1, .int (nI x)), (2, .int (nI g)), (3, .int 64)]) (st2 := []) (w3 := w) rfl rfl ?_
  refine sx_RP.step (pc2 := 34) (ls2 := [(4, .int (nI (g + 64))), (0, .ref 0), (1, .int (nI x)), (2, .int (nI g)), (3, .int 64)]) (st2 := [.int (nI (g + 64))]) (w3 := w) rfl rfl ?_
  refine sx_RP.step (pc2 := 36) (ls2 := [(4, .int (nI (g + 64))), (0, .ref 0), (1, .int (nI x)), (2, .int (nI g)), (3, .int 64)]) (st2 := [.int 99, .int (nI (g + 64))]) (w3 := w) rfl rfl ?_
  refine sx_RP.br (p1 := 55) (l1 := [(4, .int (nI (g + 64))), (0, .ref 0), (1, .int (nI x)), (2, .int (nI g)), (3, .int 64)]) (s1 := []) (v1 := w) (p2 := 39) (l2 := [(4, .int (nI (g + 64))), (0, .ref 0), (1, .int (nI x)), (2, .int (nI g)), (3, .int 64)]) (s2 := []) (v2 := w) rfl rfl (fun q1 => ?_) (fun q1 => ?_)
  · replace q1 := of_decide_eq_true q1
    replace q1 := (nI_ltI (a := 99) (b := (g + 64)) (by omega) (by omega)).mp q1
    refine sx_RP.step (pc2 := 56) (ls2 := [(4, .int (nI (g + 64))), (0, .ref 0), (1, .int (nI x)), (2, .int (nI g)), (3, .int 64)]) (st2 := [.int 64]) (w3 := w) rfl rfl ?_
    refine sx_RP.step (pc2 := 57) (ls2 := [(4, .int (nI (g + 64))), (0, .ref 0), (1, .int (nI x)), (2, .int (nI g)), (3, .int 64)]) (st2 := [.int 2, .int 64]) (w3 := w) rfl rfl ?_
    refine sx_RP.step (pc2 := 58) (ls2 := [(4, .int (nI (g + 64))), (0, .ref 0), (1, .int (nI x)), (2, .int (nI g)), (3, .int 64)]) (st2 := [.int 32]) (w3 := w) rfl rfl ?_
    refine sx_RP.step (pc2 := 59) (ls2 := [(3, .int 32), (4, .int (nI (g + 64))), (0, .ref 0), (1, .int (nI x)), (2, .int (nI g))]) (st2 := []) (w3 := w) rfl rfl ?_
    refine sx_RP.step (pc2 := 23) (ls2 := [(3, .int 32), (4, .int (nI (g + 64))), (0, .ref 0), (1, .int (nI x)), (2, .int (nI g))]) (st2 := []) (w3 := w) rfl rfl ?_
    rw [show halfN (okN o m x) g 64 = g from if_neg (fun z => by have z2 := of_decide_eq_true z.2; omega)]
    exact sx_RP.ls (sx_lr.cons rfl (sx_lr.cons rfl (sx_lr.cons rfl (sx_lr.cons rfl sx_lr.nil)))) (x86_32 hI ho ho1 hm hm1 hx (g := g) (by omega))
  · replace q1 := of_decide_eq_false q1
    replace q1 := mt (nI_ltI (a := 99) (b := (g + 64)) (by omega) (by omega)).mpr q1
    refine sx_RP.step (pc2 := 40) (ls2 := [(4, .int (nI (g + 64))), (0, .ref 0), (1, .int (nI x)), (2, .int (nI g)), (3, .int 64)]) (st2 := [.ref 0]) (w3 := w) rfl rfl ?_
    refine sx_RP.gf (v := .ref 1) rfl rfl hI.1.o0 rfl rfl (show _ = 43 from rfl) ?_
    refine sx_RP.step (pc2 := 45) (ls2 := [(4, .int (nI (g + 64))), (0, .ref 0), (1, .int (nI x)), (2, .int (nI g)), (3, .int 64)]) (st2 := [.int (nI (g + 64)), .ref 1]) (w3 := w) rfl rfl ?_
    refine sx_RP.cu (as := [.ref 1, .int (nI (g + 64))]) (rest2 := []) (st3 := [.int (nI (daysN o m (g + 64)))]) rfl rfl (sx_inv_v2 (mi := 86) (k := 276) (st := [.int (nI (g + 64)), .ref 1]) (w := w) rfl rfl (hI.1.oC (Or.inl rfl)) rfl rfl rfl) rfl rfl (x84 hI (Or.inl rfl) ho ho1 hm hm1 (by omega)) rfl ?_
    refine sx_RP.step (pc2 := 49) (ls2 := [(4, .int (nI (g + 64))), (0, .ref 0), (1, .int (nI x)), (2, .int (nI g)), (3, .int 64)]) (st2 := [.int (nI x), .int (nI (daysN o m (g + 64)))]) (w3 := w) rfl rfl ?_
    refine sx_RP.br (p1 := 55) (l1 := [(4, .int (nI (g + 64))), (0, .ref 0), (1, .int (nI x)), (2, .int (nI g)), (3, .int 64)]) (s1 := []) (v1 := w) (p2 := 52) (l2 := [(4, .int (nI (g + 64))), (0, .ref 0), (1, .int (nI x)), (2, .int (nI g)), (3, .int 64)]) (s2 := []) (v2 := w) rfl rfl (fun q2 => ?_) (fun q2 => ?_)
    · replace q2 := of_decide_eq_true q2
      replace q2 := (nI_ltI (a := (daysN o m (g + 64))) (b := x) (by omega) (by omega)).mp q2
      refine sx_RP.step (pc2 := 56) (ls2 := [(4, .int (nI (g + 64))), (0, .ref 0), (1, .int (nI x)), (2, .int (nI g)), (3, .int 64)]) (st2 := [.int 64]) (w3 := w) rfl rfl ?_
      refine sx_RP.step (pc2 := 57) (ls2 := [(4, .int (nI (g + 64))), (0, .ref 0), (1, .int (nI x)), (2, .int (nI g)), (3, .int 64)]) (st2 := [.int 2, .int 64]) (w3 := w) rfl rfl ?_
      refine sx_RP.step (pc2 := 58) (ls2 := [(4, .int (nI (g + 64))), (0, .ref 0), (1, .int (nI x)), (2, .int (nI g)), (3, .int 64)]) (st2 := [.int 32]) (w3 := w) rfl rfl ?_
      refine sx_RP.step (pc2 := 59) (ls2 := [(3, .int 32), (4, .int (nI (g + 64))), (0, .ref 0), (1, .int (nI x)), (2, .int (nI g))]) (st2 := []) (w3 := w) rfl rfl ?_
      refine sx_RP.step (pc2 := 23) (ls2 := [(3, .int 32), (4, .int (nI (g + 64))), (0, .ref 0), (1, .int (nI x)), (2, .int (nI g))]) (st2 := []) (w3 := w) rfl rfl ?_
      rw [show halfN (okN o m x) g 64 = g from if_neg (fun z => by have z2 := of_decide_eq_true z.2; omega)]
      exact sx_RP.ls (sx_lr.cons rfl (sx_lr.cons rfl (sx_lr.cons rfl (sx_lr.cons rfl sx_lr.nil)))) (x86_32 hI ho ho1 hm hm1 hx (g := g) (by omega))
    · replace q2 := of_decide_eq_false q2
      replace q2 := mt (nI_ltI (a := (daysN o m (g + 64))) (b := x) (by omega) (by omega)).mpr q2
      refine sx_RP.step (pc2 := 54) (ls2 := [(4, .int (nI (g + 64))), (0, .ref 0), (1, .int (nI x)), (2, .int (nI g)), (3, .int 64)]) (st2 := [.int (nI (g + 64))]) (w3 := w) rfl rfl ?_
      refine sx_RP.step (pc2 := 55) (ls2 := [(2, .int (nI (g + 64))), (4, .int (nI (g + 64))), (0, .ref 0), (1, .int (nI x)), (3, .int 64)]) (st2 := []) (w3 := w) rfl rfl ?_
      refine sx_RP.step (pc2 := 56) (ls2 := [(2, .int (nI (g + 64))), (4, .int (nI (g + 64))), (0, .ref 0), (1, .int (nI x)), (3, .int 64)]) (st2 := [.int 64]) (w3 := w) rfl rfl ?_
      refine sx_RP.step (pc2 := 57) (ls2 := [(2, .int (nI (g + 64))), (4, .int (nI (g + 64))), (0, .ref 0), (1, .int (nI x)), (3, .int 64)]) (st2 := [.int 2, .int 64]) (w3 := w) rfl rfl ?_
      refine sx_RP.step (pc2 := 58) (ls2 := [(2, .int (nI (g + 64))), (4, .int (nI (g + 64))), (0, .ref 0), (1, .int (nI x)), (3, .int 64)]) (st2 := [.int 32]) (w3 := w) rfl rfl ?_
      refine sx_RP.step (pc2 := 59) (ls2 := [(3, .int 32), (2, .int (nI (g + 64))), (4, .int (nI (g + 64))), (0, .ref 0), (1, .int (nI x))]) (st2 := []) (w3 := w) rfl rfl ?_
      refine sx_RP.step (pc2 := 23) (ls2 := [(3, .int 32), (2, .int (nI (g + 64))), (4, .int (nI (g + 64))), (0, .ref 0), (1, .int (nI x))]) (st2 := []) (w3 := w) rfl rfl ?_
      rw [show halfN (okN o m x) g 64 = g + 64 from if_pos ⟨by omega, decide_eq_true (by omega)⟩]
      exact sx_RP.ls (sx_lr.cons rfl (sx_lr.cons rfl (sx_lr.cons rfl (sx_lr.cons rfl sx_lr.nil)))) (x86_32 hI ho ho1 hm hm1 hx (g := (g + 64)) (by omega))
set_option maxRecDepth 20000 in
set_option maxHeartbeats 4000000 in
theorem C86 {xs : Option (List Int32)} {d : Nat} {w : List sx_C} (hI : WI w) (hb : BR (FCb w).1) (a1 : Int32) : sx_RP xs (d + 7) 86 0 (lv_args 0 [.ref 0, .int a1]) [] w (fun r w2 => (r = some (.int (ratA (FCb w) a1))) ∧ WI w2 ∧ EQ w w2) := by
  obtain ⟨o, m, r9, ho, ho1, hm, hm0, hm1, hr, hr0, hr1⟩ := hb
  replace ho : fi w 1 8 = nI o := ho
  replace hm : fi w 1 9 = nI m := hm
  replace hr : fi w 1 10 = nI r9 := hr
  refine sx_RP.step (pc2 := 1) (ls2 := [(0, .ref 0), (1, .int a1)]) (st2 := [.int a1]) (w3 := w) rfl rfl ?_
  refine sx_RP.step (pc2 := 2) (ls2 := [(0, .ref 0), (1, .int a1)]) (st2 := [.int 1, .int a1]) (w3 := w) rfl rfl ?_
  refine sx_RP.step (pc2 := 5) (ls2 := [(0, .ref 0), (1, .int a1)]) (st2 := [.int 999, .int 1, .int a1]) (w3 := w) rfl rfl ?_
  rcases in_cases a1 1 999 (m := 1) (n := 999) rfl rfl (by decide) (by decide) with q1 | ⟨x2, hx3, hx4, rfl⟩
  · refine sx_RP.cu (as := [.int a1, .int 1, .int 999]) (rest2 := []) (st3 := [.int 0]) rfl rfl rfl rfl rfl (cx_8n q1) rfl ?_
    refine sx_RP.step (pc2 := 11) (ls2 := [(0, .ref 0), (1, .int a1)]) (st2 := []) (w3 := w) rfl rfl ?_
    refine sx_RP.step (pc2 := 12) (ls2 := [(0, .ref 0), (1, .int a1)]) (st2 := [.ref 0]) (w3 := w) rfl rfl ?_
    refine sx_RP.step (pc2 := 14) (ls2 := [(0, .ref 0), (1, .int a1)]) (st2 := [.int (-1000000001), .ref 0]) (w3 := w) rfl rfl ?_
    refine sx_RP.callp (as2 := [.ref 0, .int (-1000000001)]) (rest2 := []) rfl rfl (sx_inv_v2 (mi := 86) (k := 78) (st := [.int (-1000000001), .ref 0]) (w := w) rfl rfl hI.1.o0 rfl rfl rfl) rfl rfl rfl (Q9_0 hI) (show _ = 17 from rfl) ?_
    rintro r4 w7 ⟨rfl, hI8, hE6⟩
    show sx_RP _ _ _ _ _ [.int (-1000000001)] _ _
    refine sx_RP.ret (r := (some (.int (-1000000001)))) rfl rfl ?_
    exact ⟨by rw [ratA_n q1], hI8, hE6⟩
  · refine sx_RP.cu (as := [.int (nI x2), .int 1, .int 999]) (rest2 := []) (st3 := [.int 1]) rfl rfl rfl rfl rfl (cx_8p ⟨nI_le (a := 1) hx3 (by omega), nI_le (b := 999) hx4 (by decide)⟩) rfl ?_
    refine sx_RP.step (pc2 := 18) (ls2 := [(0, .ref 0), (1, .int (nI x2))]) (st2 := []) (w3 := w) rfl rfl ?_
    refine sx_RP.step (pc2 := 19) (ls2 := [(0, .ref 0), (1, .int (nI x2))]) (st2 := [.int 0]) (w3 := w) rfl rfl ?_
    refine sx_RP.step (pc2 := 20) (ls2 := [(2, .int 0), (0, .ref 0), (1, .int (nI x2))]) (st2 := []) (w3 := w) rfl rfl ?_
    refine sx_RP.step (pc2 := 22) (ls2 := [(2, .int 0), (0, .ref 0), (1, .int (nI x2))]) (st2 := [.int 64]) (w3 := w) rfl rfl ?_
    refine sx_RP.step (pc2 := 23) (ls2 := [(3, .int 64), (2, .int 0), (0, .ref 0), (1, .int (nI x2))]) (st2 := []) (w3 := w) rfl rfl ?_
    rw [ratA_c ho ho1 hm hm1 (x := x2) (by omega) (by omega), ← halves_top okN_anti]
    exact sx_RP.ls (sx_lr.cons rfl (sx_lr.cons rfl (sx_lr.cons rfl (sx_lr.cons rfl sx_lr.nil)))) (x86_64 hI ho ho1 hm hm1 (x := x2) (by omega) (g := 0) (by omega))
set_option maxRecDepth 20000 in
set_option maxHeartbeats 4000000 in
theorem x207L {xs : Option (List Int32)} {d o m x : Nat} {w : List sx_C} (hI : WI w) (ho : (ia w 112).getD 4 0 = nI o) (ho1 : o ≤ 999999) (hm : (ia w 112).getD 5 0 = nI m) (hm1 : m ≤ 999) (hx : x ≤ 999) : ∀ v : Nat, v ≤ 99 → sx_RP xs (d + 7) 207 20 [(0, .ref 111), (1, .int (nI x)), (2, .int (nI v))] [] w (fun r2 w2 => (r2 = some (.int (rat0 (topN (okN o m x) v)))) ∧ WI w2 ∧ EL w w2)
  | 0, hv => by
    refine sx_RP.step (pc2 := 21) (ls2 := [(0, .ref 111), (1, .int (nI x)), (2, .int 0)]) (st2 := [.int 0]) (w3 := w) rfl rfl ?_
    refine sx_RP.step (pc2 := 39) (ls2 := [(0, .ref 111), (1, .int (nI x)), (2, .int 0)]) (st2 := []) (w3 := w) rfl rfl ?_
    refine sx_RP.step (pc2 := 40) (ls2 := [(0, .ref 111), (1, .int (nI x)), (2, .int 0)]) (st2 := [.int 0]) (w3 := w) rfl rfl ?_
    refine sx_RP.step (pc2 := 47) (ls2 := [(0, .ref 111), (1, .int (nI x)), (2, .int 0)]) (st2 := []) (w3 := w) rfl rfl ?_
    refine sx_RP.step (pc2 := 48) (ls2 := [(0, .ref 111), (1, .int (nI x)), (2, .int 0)]) (st2 := [.ref 111]) (w3 := w) rfl rfl ?_
    refine sx_RP.step (pc2 := 49) (ls2 := [(0, .ref 111), (1, .int (nI x)), (2, .int 0)]) (st2 := [.int 3, .ref 111]) (w3 := w) rfl rfl ?_
    refine sx_RP.callp (as2 := [.ref 111, .int 3]) (rest2 := []) rfl rfl (sx_inv_v2 (mi := 207) (k := 70) (st := [.int 3, .ref 111]) (w := w) rfl rfl hI.1.o111 rfl rfl rfl) rfl rfl rfl (K133_3 hI) (show _ = 52 from rfl) ?_
    rintro r4 w2 ⟨rfl, hI3, hE1⟩
    show sx_RP _ _ _ _ _ [.int (-1000000004)] _ _
    refine sx_RP.ret (r := (some (.int (-1000000004)))) rfl rfl ?_
    exact ⟨rfl, hI3, hE1.el⟩
  | v + 1, hv => by
    have hdd : daysN o m (v + 1) ≤ 999 := daysN_le
    refine sx_RP.step (pc2 := 21) (ls2 := [(0, .ref 111), (1, .int (nI x)), (2, .int (nI (v + 1)))]) (st2 := [.int (nI (v + 1))]) (w3 := w) rfl rfl ?_
    refine sx_RP.br (p2 := 24) (l2 := [(0, .ref 111), (1, .int (nI x)), (2, .int (nI (v + 1)))]) (s2 := []) (v2 := w) rfl rfl (fun q => absurd (of_decide_eq_true q) (fun z => absurd ((nI_leI (a := v + 1) (b := 0) (by omega) (by omega)).mp z) (by omega))) (fun _ => ?_)
    refine sx_RP.step (pc2 := 25) (ls2 := [(0, .ref 111), (1, .int (nI x)), (2, .int (nI (v + 1)))]) (st2 := [.ref 111]) (w3 := w) rfl rfl ?_
    refine sx_RP.step (pc2 := 26) (ls2 := [(0, .ref 111), (1, .int (nI x)), (2, .int (nI (v + 1)))]) (st2 := [.int (nI (v + 1)), .ref 111]) (w3 := w) rfl rfl ?_
    refine sx_RP.cu (as := [.ref 111, .int (nI (v + 1))]) (rest2 := []) (st3 := [.int (nI (daysN o m (v + 1)))]) rfl rfl (sx_inv_v2 (mi := 207) (k := 205) (st := [.int (nI (v + 1)), .ref 111]) (w := w) rfl rfl hI.1.o111 rfl rfl rfl) rfl rfl (x206 hI ho ho1 hm hm1 (by omega) (by omega)) rfl ?_
    refine sx_RP.step (pc2 := 30) (ls2 := [(0, .ref 111), (1, .int (nI x)), (2, .int (nI (v + 1)))]) (st2 := [.int (nI x), .int (nI (daysN o m (v + 1)))]) (w3 := w) rfl rfl ?_
    refine sx_RP.br (p1 := 39) (l1 := [(0, .ref 111), (1, .int (nI x)), (2, .int (nI (v + 1)))]) (s1 := []) (v1 := w) (p2 := 33) (l2 := [(0, .ref 111), (1, .int (nI x)), (2, .int (nI (v + 1)))]) (s2 := []) (v2 := w) rfl rfl (fun q1 => ?_) (fun q1 => ?_)
    · replace q1 := of_decide_eq_true q1
      replace q1 := (nI_leI (a := x) (b := (daysN o m (v + 1))) (by omega) (by omega)).mp q1
      refine sx_RP.step (pc2 := 40) (ls2 := [(0, .ref 111), (1, .int (nI x)), (2, .int (nI (v + 1)))]) (st2 := [.int (nI (v + 1))]) (w3 := w) rfl rfl ?_
      refine sx_RP.br (p2 := 43) (l2 := [(0, .ref 111), (1, .int (nI x)), (2, .int (nI (v + 1)))]) (s2 := []) (v2 := w) rfl rfl (fun q => absurd (of_decide_eq_true q) (fun z => absurd ((nI_leI (a := v + 1) (b := 0) (by omega) (by omega)).mp z) (by omega))) (fun _ => ?_)
      refine sx_RP.step (pc2 := 44) (ls2 := [(0, .ref 111), (1, .int (nI x)), (2, .int (nI (v + 1)))]) (st2 := [.int (nI (v + 1))]) (w3 := w) rfl rfl ?_
      refine sx_RP.step (pc2 := 52) (ls2 := [(0, .ref 111), (1, .int (nI x)), (2, .int (nI (v + 1)))]) (st2 := [.int (nI (v + 1))]) (w3 := w) rfl rfl ?_
      refine sx_RP.ret (r := (some (.int (nI (v + 1))))) rfl rfl ?_
      exact ⟨by rw [show topN (okN o m x) (v + 1) = v + 1 from if_pos (decide_eq_true (by omega))]; rfl, hI, EL.rf⟩
    · replace q1 := of_decide_eq_false q1
      replace q1 := mt (nI_leI (a := x) (b := (daysN o m (v + 1))) (by omega) (by omega)).mpr q1
      refine sx_RP.step (pc2 := 36) (ls2 := [(2, .int ((nI (v + 1)) + (-1))), (0, .ref 111), (1, .int (nI x))]) (st2 := []) (w3 := w) rfl rfl ?_
      refine sx_RP.step (pc2 := 20) (ls2 := [(2, .int ((nI (v + 1)) + (-1))), (0, .ref 111), (1, .int (nI x))]) (st2 := []) (w3 := w) rfl rfl ?_
      rw [show topN (okN o m x) (v + 1) = topN (okN o m x) v from if_neg (fun z => by have z2 := of_decide_eq_true z; omega)]
      rw [show (nI (v + 1) + (-1) : Int32) = nI v from nI_m1 (v := v + 1) (by omega)]
      exact sx_RP.ls (sx_lr.cons rfl (sx_lr.cons rfl (sx_lr.cons rfl sx_lr.nil))) (x207L hI ho ho1 hm hm1 hx v (by omega))
set_option maxRecDepth 20000 in
set_option maxHeartbeats 4000000 in
theorem C207 {xs : Option (List Int32)} {d : Nat} {w : List sx_C} (hI : WI w) (hb : BR (FMb w).1) (a1 : Int32) : sx_RP xs (d + 7) 207 0 (lv_args 0 [.ref 111, .int a1]) [] w (fun r w2 => (r = some (.int (ratA (FMb w) a1))) ∧ WI w2 ∧ EL w w2) := by
  obtain ⟨o, m, r9, ho, ho1, hm, hm0, hm1, hr, hr0, hr1⟩ := hb
  replace ho : (ia w 112).getD 4 0 = nI o := ho
  replace hm : (ia w 112).getD 5 0 = nI m := hm
  replace hr : (ia w 112).getD 6 0 = nI r9 := hr
  refine sx_RP.step (pc2 := 1) (ls2 := [(0, .ref 111), (1, .int a1)]) (st2 := [.int a1]) (w3 := w) rfl rfl ?_
  refine sx_RP.step (pc2 := 2) (ls2 := [(0, .ref 111), (1, .int a1)]) (st2 := [.int 1, .int a1]) (w3 := w) rfl rfl ?_
  refine sx_RP.step (pc2 := 5) (ls2 := [(0, .ref 111), (1, .int a1)]) (st2 := [.int 999, .int 1, .int a1]) (w3 := w) rfl rfl ?_
  rcases in_cases a1 1 999 (m := 1) (n := 999) rfl rfl (by decide) (by decide) with q1 | ⟨x2, hx3, hx4, rfl⟩
  · refine sx_RP.cu (as := [.int a1, .int 1, .int 999]) (rest2 := []) (st3 := [.int 0]) rfl rfl rfl rfl rfl (cx_132o q1) rfl ?_
    refine sx_RP.step (pc2 := 11) (ls2 := [(0, .ref 111), (1, .int a1)]) (st2 := []) (w3 := w) rfl rfl ?_
    refine sx_RP.step (pc2 := 12) (ls2 := [(0, .ref 111), (1, .int a1)]) (st2 := [.ref 111]) (w3 := w) rfl rfl ?_
    refine sx_RP.step (pc2 := 13) (ls2 := [(0, .ref 111), (1, .int a1)]) (st2 := [.int 0, .ref 111]) (w3 := w) rfl rfl ?_
    refine sx_RP.callp (as2 := [.ref 111, .int 0]) (rest2 := []) rfl rfl (sx_inv_v2 (mi := 207) (k := 70) (st := [.int 0, .ref 111]) (w := w) rfl rfl hI.1.o111 rfl rfl rfl) rfl rfl rfl (K133_0 hI) (show _ = 16 from rfl) ?_
    rintro r4 w7 ⟨rfl, hI8, hE6⟩
    show sx_RP _ _ _ _ _ [.int (-1000000001)] _ _
    refine sx_RP.ret (r := (some (.int (-1000000001)))) rfl rfl ?_
    exact ⟨by rw [ratA_n q1], hI8, hE6.el⟩
  · refine sx_RP.cu (as := [.int (nI x2), .int 1, .int 999]) (rest2 := []) (st3 := [.int 1]) rfl rfl rfl rfl rfl (cx_132p ⟨nI_le (a := 1) hx3 (by omega), nI_le (b := 999) hx4 (by decide)⟩) rfl ?_
    refine sx_RP.step (pc2 := 17) (ls2 := [(0, .ref 111), (1, .int (nI x2))]) (st2 := []) (w3 := w) rfl rfl ?_
    refine sx_RP.step (pc2 := 19) (ls2 := [(0, .ref 111), (1, .int (nI x2))]) (st2 := [.int 99]) (w3 := w) rfl rfl ?_
    refine sx_RP.step (pc2 := 20) (ls2 := [(2, .int 99), (0, .ref 111), (1, .int (nI x2))]) (st2 := []) (w3 := w) rfl rfl ?_
    rw [ratA_m ho ho1 hm hm1 (x := x2) (by omega) (by omega)]
    exact sx_RP.ls (sx_lr.cons rfl (sx_lr.cons rfl (sx_lr.cons rfl sx_lr.nil))) (x207L hI ho ho1 hm hm1 (x := x2) (by omega) 99 (by omega))
end
-- 89f.siege0.lean.txt
section
def rEnd (p : Nat → Bool) (n : Nat) (X : Nat → Nat) : Nat → Nat → Nat
  | 0, i => i
  | f + 1, i => if i < n ∧ p (X i) = true then rEnd p n X f (i + 1) else i
def rE (p : Nat → Bool) (n : Nat) (X : Nat → Nat) (i : Nat) : Nat := rEnd p n X (n - i) i
section SXRE0
variable {p : Nat → Bool} {n : Nat} {X : Nat → Nat} {i : Nat}
theorem rE_y (h : i < n) (hp : p (X i) = true) : rE p n X i = rE p n X (i + 1) := by
  unfold rE
  rw [show n - i = (n - (i + 1)) + 1 by omega]
  show (if i < n ∧ p (X i) = true then rEnd p n X (n - (i + 1)) (i + 1) else i) = _
  rw [if_pos ⟨h, hp⟩]
theorem rE_n (h : ¬ (i < n ∧ p (X i) = true)) : rE p n X i = i := by
  unfold rE
  cases hf : n - i with
  | zero => rfl
  | succ f =>
    show (if i < n ∧ p (X i) = true then rEnd p n X f (i + 1) else i) = i
    rw [if_neg h]
theorem rEnd_ge : ∀ f i, i ≤ rEnd p n X f i
  | 0, i => Nat.le_refl _
  | f + 1, i => by
    unfold rEnd
    split
    · exact Nat.le_trans (Nat.le_succ i) (rEnd_ge f (i + 1))
    · exact Nat.le_refl _
theorem rE_ge : i ≤ rE p n X i := rEnd_ge _ _
theorem rEnd_le : ∀ f i, i ≤ n → rEnd p n X f i ≤ n
  | 0, i, h => h
  | f + 1, i, h => by
    unfold rEnd
    split
    · rename_i q
      exact rEnd_le f (i + 1) q.1
    · exact h
theorem rE_le (h : i ≤ n) : rE p n X i ≤ n := rEnd_le _ _ h
theorem rEnd_in : ∀ f i j, i ≤ j → j < rEnd p n X f i → j < n ∧ p (X j) = true
  | 0, i, j, h1, h2 => absurd h2 (by unfold rEnd; omega)
  | f + 1, i, j, h1, h2 => by
    unfold rEnd at h2
    split at h2
    · rename_i q
      by_cases e : j = i
      · rw [e]
        exact q
      · exact rEnd_in f (i + 1) j (by omega) h2
    · omega
theorem rE_in {j : Nat} (h1 : i ≤ j) (h2 : j < rE p n X i) : j < n ∧ p (X j) = true := rEnd_in _ _ _ h1 h2
theorem rEnd_out : ∀ f i, n ≤ i + f → ¬ (rEnd p n X f i < n ∧ p (X (rEnd p n X f i)) = true)
  | 0, i, h => by unfold rEnd; intro q; omega
  | f + 1, i, h => by
    unfold rEnd
    split
    · exact rEnd_out f (i + 1) (by omega)
    · rename_i q
      exact q
theorem rE_out : ¬ (rE p n X i < n ∧ p (X (rE p n X i)) = true) := rEnd_out _ _ (by omega)
theorem rE_rE : rE p n X (rE p n X i) = rE p n X i := rE_n rE_out
end SXRE0
def blk (c : Nat) : Bool := c == 32
def lett (c : Nat) : Bool := Nat.ble 97 c && Nat.ble c 122
def digi (c : Nat) : Bool := Nat.ble 48 c && Nat.ble c 57
def sortN (c : Nat) : Nat := cond (lett c) 1 (cond (digi c) 2 (cond (c == 59) 3 4))
def soT (n : Nat) (X : Nat → Nat) (p : Nat) : Nat := if p < n then sortN (X p) else 0
def beT (n : Nat) (X : Nat → Nat) (p : Nat) : Nat := if p < n then (if sortN (X p) = 1 then rE lett n X (p + 1) else if sortN (X p) = 2 then rE digi n X (p + 1) else p + 1) else p
def nuV (cap : Nat) (X : Nat → Nat) (v i : Nat) : Nat → Nat
  | 0 => v
  | f + 1 => nuV cap X (min cap (10 * v + (X i - 48))) (i + 1) f
def vaT (n : Nat) (X : Nat → Nat) (p : Nat) : Nat := if soT n X p = 2 then nuV 1000000 X 0 p (beT n X p - p) else 0
def sgn (c : Nat) : Int32 := (nI c).toInt8.toInt32
theorem sort_all : ∀ c : Fin 256, nI (sortN c.val) = (if sgn c.val < 97 then (if sgn c.val < 48 then (if ¬ sgn c.val = 59 then 4 else 3) else if 57 < sgn c.val then (if ¬ sgn c.val = 59 then 4 else 3) else 2) else if 122 < sgn c.val then (if sgn c.val < 48 then (if ¬ sgn c.val = 59 then 4 else 3) else if 57 < sgn c.val then (if ¬ sgn c.val = 59 then 4 else 3) else 2) else 1) := by decide +kernel
theorem sgn32_all : ∀ c : Fin 256, (decide (sgn c.val = 32)) = blk c.val := by decide +kernel
theorem sgn_dig : ∀ c : Fin 256, digi c.val = true → sgn c.val = nI c.val ∧ 48 ≤ c.val ∧ c.val ≤ 57 := by decide +kernel
theorem sgn_let : ∀ c : Fin 256, lett c.val = true → sgn c.val = nI c.val ∧ 97 ≤ c.val ∧ c.val ≤ 122 := by decide +kernel
theorem sort_1 : ∀ c : Fin 256, sortN c.val = 1 ↔ lett c.val = true := by decide +kernel
theorem sort_2 : ∀ c : Fin 256, sortN c.val = 2 ↔ digi c.val = true := by decide +kernel
theorem sort_le : ∀ c : Fin 256, 1 ≤ sortN c.val ∧ sortN c.val ≤ 4 := by decide +kernel
def CT (n : Nat) (X : Nat → Nat) (w : List sx_C) : Prop := fi w 96 1 = nI n ∧ n ≤ 120 ∧ ∀ i, i < n → (ia w 97).getD i 0 = sgn (X i) ∧ X i < 256
def TK' (n : Nat) (X : Nat → Nat) (p : Nat) (w : List sx_C) : Prop := fi w 96 3 = nI p ∧ fi w 96 2 = nI (soT n X p) ∧ fi w 96 4 = nI (beT n X p) ∧ fi w 96 5 = nI (vaT n X p)
theorem nuV_le {cap : Nat} {X : Nat → Nat} : ∀ f v i, v ≤ cap → nuV cap X v i f ≤ cap
  | 0, v, i, h => h
  | f + 1, v, i, h => nuV_le f _ (i + 1) (Nat.min_le_left _ _)
theorem beT_le {n p : Nat} {X : Nat → Nat} (h : p ≤ n) : beT n X p ≤ n := by
  unfold beT
  split
  · split
    · exact rE_le (by omega)
    · split
      · exact rE_le (by omega)
      · omega
  · exact h
theorem beT_ge {n p : Nat} {X : Nat → Nat} : p ≤ beT n X p := by
  unfold beT
  split
  · split
    · exact Nat.le_trans (Nat.le_succ p) rE_ge
    · split
      · exact Nat.le_trans (Nat.le_succ p) rE_ge
      · omega
  · exact Nat.le_refl _
end
