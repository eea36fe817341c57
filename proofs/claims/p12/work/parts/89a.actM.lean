-- the reference's acts on group B's state
theorem in_lt {x : Int32} {n : Nat} (hn : n ≤ 10) : (0 ≤ x ∧ x ≤ nI n - 1) ↔ (0 ≤ x ∧ x < nI n) := by
  have e : (nI n - 1).toInt = (n : Int) - 1 := by
    rw [Int32.toInt_sub, nI_toInt (by omega), show (1 : Int32).toInt = 1 by decide, Int.bmod_def]
    split <;> omega
  rw [Int32.le_iff_toInt_le (x := x), Int32.lt_iff_toInt_lt (x := x), e, nI_toInt (by omega)]
  constructor <;> intro h <;> exact ⟨h.1, by omega⟩
section SXRE
variable {xs : Option (List Int32)} {d mi pc pc2 a idx p : Nat} {ls : sx_L} {r : List Value} {w w0 : List sx_C} {P : Option Value → List sx_C → Prop}
theorem sx_RP.xJ {k : Nat} {v : Int32} (hI : WI w) (hi : sx_ins mi pc = some (.putfield idx, 3)) (hq : sx_lk (sx_fl (sx_own mi)) idx = some (6, k, p)) (hk : k = 4 ∨ k = 11) (hf : sx_fin mi 6 k = true) (hv : inR v (if k = 4 then 1 else 120)) (hp : pc + 3 = pc2) (kk : ∀ w2, WI w2 → Same 111 w w2 → fi w2 111 k = v → (∀ j, j ≠ k → fi w2 111 j = fi w 111 j) → sx_RP xs d mi pc2 ls r w2 P) : sx_RP xs d mi pc ls (.int v :: .ref 111 :: r) w P := by
  have hw := hI.1.o111
  have q := hI.m
  have hfs : fs_ w 111 = [.ref 112, .ref 113, .ref 114, .ref 115, .int (fi w 111 4), .ref 116, .ref 117, .ref 118, .ref 119, .ref 120, .ref 121, .int (fi w 111 11), .int (fi w 111 12), .int (fi w 111 13), .int (fi w 111 14), .ref 122, .ref 123, .ref 124, .ref 125] := by unfold fs_; rw [hw]
  have hne : ∀ (fs : List Value) (j : Nat), fs_ w 111 = fs → j ≠ k → fi (w.set 111 (.inr (.inr (.inr (6, fs.set k (.int v)))))) 111 j = fi w 111 j := by
    intro fs j e hj
    unfold fi
    rw [fs_set hw, List.getElem?_set_ne (Ne.symm hj), e]
  rcases hk with rfl | rfl
  · rw [if_pos rfl] at hv
    exact sx_RP.pf hi hq hw (by rw [hf, show sx_okv (sx_ty 6 4) (.int v) = (v == 0 || v == 1) from rfl, inR.bo hv]; rfl) rfl rfl hp (kk _ (hI.set hw rfl (cOK.m ⟨hv, q.2⟩)) Same.set (by unfold fi; rw [fs_set hw]; rfl) (fun j hj => hne _ j hfs hj))
  · rw [if_neg (by decide)] at hv
    exact sx_RP.pf hi hq hw (by rw [hf]; rfl) rfl rfl hp (kk _ (hI.set hw rfl (cOK.m ⟨q.1, hv, q.2.2⟩)) Same.set (by unfold fi; rw [fs_set hw]; rfl) (fun j hj => hne _ j hfs hj))
end SXRE
theorem kept_01 {w : List sx_C} (hI : WI w) : fi w 111 4 = 0 ∨ fi w 111 4 = 1 := by
  obtain ⟨j, hj, e⟩ := hI.m.1
  rcases (show j = 0 ∨ j = 1 by omega) with rfl | rfl
  · exact Or.inl e
  · exact Or.inr e
theorem tapM_len {w : List sx_C} {n : Nat} (en : fi w 111 11 = nI n) (hn : n ≤ 120) : (FMb w).2.2.2.length = n := by
  show (tapM w).length = n
  unfold tapM
  rw [List.length_map, List.length_range, en, iN_n (by omega)]
theorem tapM_nil {w : List sx_C} (en : fi w 111 11 = 0) : tapM w = [] := by
  unfold tapM
  rw [en]
  rfl
set_option maxRecDepth 20000 in
set_option maxHeartbeats 4000000 in
theorem p156y {xs : Option (List Int32)} {d n : Nat} {w : List sx_C} (hI : WI w) (en : (ia w 112).getD 1 0 = nI n) (hn : n ≤ 10) {x : Int32} (hh : 0 ≤ x ∧ x < nI n) : sx_RU xs (d + 1) 156 0 (lv_args 0 [.ref 111, .int x]) [] w (some (.int 1)) w := by
  have h : sx_RP xs (d + 1) 156 0 (lv_args 0 [.ref 111, .int x]) [] w (fun r w2 => r = some (.int 1) ∧ w2 = w) := by
    refine sx_RP.step (pc2 := 1) (ls2 := [(0, .ref 111), (1, .int x)]) (st2 := [.int x]) (w3 := w) rfl rfl ?_
    refine sx_RP.step (pc2 := 2) (ls2 := [(0, .ref 111), (1, .int x)]) (st2 := [.int 0, .int x]) (w3 := w) rfl rfl ?_
    refine sx_RP.step (pc2 := 3) (ls2 := [(0, .ref 111), (1, .int x)]) (st2 := [.ref 111, .int 0, .int x]) (w3 := w) rfl rfl ?_
    refine sx_RP.gf (v := .ref 112) rfl rfl hI.1.o111 rfl rfl (show _ = 6 from rfl) ?_
    refine sx_RP.step (pc2 := 7) (ls2 := [(0, .ref 111), (1, .int x)]) (st2 := [.int 1, .ref 112, .int 0, .int x]) (w3 := w) rfl rfl ?_
    refine sx_RP.ild (c := 1) rfl hI.1.a112.1 hI.1.a112.2 (sx_in_nI (show 1 < 172 by omega) (by decide)) (show (nI 1).toNatClampNeg = 1 from nI_clamp (by omega)) (show _ = 8 from rfl) ?_
    rw [en]
    refine sx_RP.step (pc2 := 9) (ls2 := [(0, .ref 111), (1, .int x)]) (st2 := [.int 1, .int (nI n), .int 0, .int x]) (w3 := w) rfl rfl ?_
    refine sx_RP.step (pc2 := 10) (ls2 := [(0, .ref 111), (1, .int x)]) (st2 := [.int ((nI n) - 1), .int 0, .int x]) (w3 := w) rfl rfl ?_
    refine sx_RP.cu (as := [.int x, .int 0, .int ((nI n) - 1)]) (rest2 := []) (st3 := [.int 1]) rfl rfl rfl rfl rfl (cx_132p ((in_lt (by omega)).mpr hh)) rfl ?_
    refine sx_RP.ret (r := (some (.int 1))) rfl rfl ?_
    exact ⟨rfl, rfl⟩
  obtain ⟨r, w2, h1, rfl, rfl⟩ := h
  exact h1
set_option maxRecDepth 20000 in
set_option maxHeartbeats 4000000 in
theorem p156n {xs : Option (List Int32)} {d n : Nat} {w : List sx_C} (hI : WI w) (en : (ia w 112).getD 1 0 = nI n) (hn : n ≤ 10) {x : Int32} (hh : ¬ (0 ≤ x ∧ x < nI n)) : sx_RU xs (d + 1) 156 0 (lv_args 0 [.ref 111, .int x]) [] w (some (.int 0)) w := by
  have h : sx_RP xs (d + 1) 156 0 (lv_args 0 [.ref 111, .int x]) [] w (fun r w2 => r = some (.int 0) ∧ w2 = w) := by
    refine sx_RP.step (pc2 := 1) (ls2 := [(0, .ref 111), (1, .int x)]) (st2 := [.int x]) (w3 := w) rfl rfl ?_
    refine sx_RP.step (pc2 := 2) (ls2 := [(0, .ref 111), (1, .int x)]) (st2 := [.int 0, .int x]) (w3 := w) rfl rfl ?_
    refine sx_RP.step (pc2 := 3) (ls2 := [(0, .ref 111), (1, .int x)]) (st2 := [.ref 111, .int 0, .int x]) (w3 := w) rfl rfl ?_
    refine sx_RP.gf (v := .ref 112) rfl rfl hI.1.o111 rfl rfl (show _ = 6 from rfl) ?_
    refine sx_RP.step (pc2 := 7) (ls2 := [(0, .ref 111), (1, .int x)]) (st2 := [.int 1, .ref 112, .int 0, .int x]) (w3 := w) rfl rfl ?_
    refine sx_RP.ild (c := 1) rfl hI.1.a112.1 hI.1.a112.2 (sx_in_nI (show 1 < 172 by omega) (by decide)) (show (nI 1).toNatClampNeg = 1 from nI_clamp (by omega)) (show _ = 8 from rfl) ?_
    rw [en]
    refine sx_RP.step (pc2 := 9) (ls2 := [(0, .ref 111), (1, .int x)]) (st2 := [.int 1, .int (nI n), .int 0, .int x]) (w3 := w) rfl rfl ?_
    refine sx_RP.step (pc2 := 10) (ls2 := [(0, .ref 111), (1, .int x)]) (st2 := [.int ((nI n) - 1), .int 0, .int x]) (w3 := w) rfl rfl ?_
    refine sx_RP.cu (as := [.int x, .int 0, .int ((nI n) - 1)]) (rest2 := []) (st3 := [.int 0]) rfl rfl rfl rfl rfl (cx_132o (fun z => hh ((in_lt (by omega)).mp z))) rfl ?_
    refine sx_RP.ret (r := (some (.int 0))) rfl rfl ?_
    exact ⟨rfl, rfl⟩
  obtain ⟨r, w2, h1, rfl, rfl⟩ := h
  exact h1
set_option maxRecDepth 20000 in
set_option maxHeartbeats 4000000 in
theorem p186y {xs : Option (List Int32)} {d n : Nat} {w : List sx_C} (hI : WI w) (en : (ia w 112).getD 2 0 = nI n) (hn : n ≤ 9) {x : Int32} (hh : 0 ≤ x ∧ x < nI n) : sx_RU xs (d + 1) 186 0 (lv_args 0 [.ref 111, .int x]) [] w (some (.int 1)) w := by
  have h : sx_RP xs (d + 1) 186 0 (lv_args 0 [.ref 111, .int x]) [] w (fun r w2 => r = some (.int 1) ∧ w2 = w) := by
    refine sx_RP.step (pc2 := 1) (ls2 := [(0, .ref 111), (1, .int x)]) (st2 := [.int x]) (w3 := w) rfl rfl ?_
    refine sx_RP.step (pc2 := 2) (ls2 := [(0, .ref 111), (1, .int x)]) (st2 := [.int 0, .int x]) (w3 := w) rfl rfl ?_
    refine sx_RP.step (pc2 := 3) (ls2 := [(0, .ref 111), (1, .int x)]) (st2 := [.ref 111, .int 0, .int x]) (w3 := w) rfl rfl ?_
    refine sx_RP.gf (v := .ref 112) rfl rfl hI.1.o111 rfl rfl (show _ = 6 from rfl) ?_
    refine sx_RP.step (pc2 := 7) (ls2 := [(0, .ref 111), (1, .int x)]) (st2 := [.int 2, .ref 112, .int 0, .int x]) (w3 := w) rfl rfl ?_
    refine sx_RP.ild (c := 2) rfl hI.1.a112.1 hI.1.a112.2 (sx_in_nI (show 2 < 172 by omega) (by decide)) (show (nI 2).toNatClampNeg = 2 from nI_clamp (by omega)) (show _ = 8 from rfl) ?_
    rw [en]
    refine sx_RP.step (pc2 := 9) (ls2 := [(0, .ref 111), (1, .int x)]) (st2 := [.int 1, .int (nI n), .int 0, .int x]) (w3 := w) rfl rfl ?_
    refine sx_RP.step (pc2 := 10) (ls2 := [(0, .ref 111), (1, .int x)]) (st2 := [.int ((nI n) - 1), .int 0, .int x]) (w3 := w) rfl rfl ?_
    refine sx_RP.cu (as := [.int x, .int 0, .int ((nI n) - 1)]) (rest2 := []) (st3 := [.int 1]) rfl rfl rfl rfl rfl (cx_132p ((in_lt (by omega)).mpr hh)) rfl ?_
    refine sx_RP.ret (r := (some (.int 1))) rfl rfl ?_
    exact ⟨rfl, rfl⟩
  obtain ⟨r, w2, h1, rfl, rfl⟩ := h
  exact h1
set_option maxRecDepth 20000 in
set_option maxHeartbeats 4000000 in
theorem p186n {xs : Option (List Int32)} {d n : Nat} {w : List sx_C} (hI : WI w) (en : (ia w 112).getD 2 0 = nI n) (hn : n ≤ 9) {x : Int32} (hh : ¬ (0 ≤ x ∧ x < nI n)) : sx_RU xs (d + 1) 186 0 (lv_args 0 [.ref 111, .int x]) [] w (some (.int 0)) w := by
  have h : sx_RP xs (d + 1) 186 0 (lv_args 0 [.ref 111, .int x]) [] w (fun r w2 => r = some (.int 0) ∧ w2 = w) := by
    refine sx_RP.step (pc2 := 1) (ls2 := [(0, .ref 111), (1, .int x)]) (st2 := [.int x]) (w3 := w) rfl rfl ?_
    refine sx_RP.step (pc2 := 2) (ls2 := [(0, .ref 111), (1, .int x)]) (st2 := [.int 0, .int x]) (w3 := w) rfl rfl ?_
    refine sx_RP.step (pc2 := 3) (ls2 := [(0, .ref 111), (1, .int x)]) (st2 := [.ref 111, .int 0, .int x]) (w3 := w) rfl rfl ?_
    refine sx_RP.gf (v := .ref 112) rfl rfl hI.1.o111 rfl rfl (show _ = 6 from rfl) ?_
    refine sx_RP.step (pc2 := 7) (ls2 := [(0, .ref 111), (1, .int x)]) (st2 := [.int 2, .ref 112, .int 0, .int x]) (w3 := w) rfl rfl ?_
    refine sx_RP.ild (c := 2) rfl hI.1.a112.1 hI.1.a112.2 (sx_in_nI (show 2 < 172 by omega) (by decide)) (show (nI 2).toNatClampNeg = 2 from nI_clamp (by omega)) (show _ = 8 from rfl) ?_
    rw [en]
    refine sx_RP.step (pc2 := 9) (ls2 := [(0, .ref 111), (1, .int x)]) (st2 := [.int 1, .int (nI n), .int 0, .int x]) (w3 := w) rfl rfl ?_
    refine sx_RP.step (pc2 := 10) (ls2 := [(0, .ref 111), (1, .int x)]) (st2 := [.int ((nI n) - 1), .int 0, .int x]) (w3 := w) rfl rfl ?_
    refine sx_RP.cu (as := [.int x, .int 0, .int ((nI n) - 1)]) (rest2 := []) (st3 := [.int 0]) rfl rfl rfl rfl rfl (cx_132o (fun z => hh ((in_lt (by omega)).mp z))) rfl ?_
    refine sx_RP.ret (r := (some (.int 0))) rfl rfl ?_
    exact ⟨rfl, rfl⟩
  obtain ⟨r, w2, h1, rfl, rfl⟩ := h
  exact h1
theorem addRow_1 {l : List Int32} {n : Nat} {k s c y : Int32} (hl : l.length = 172) : (addRow l n k s c y).getD 1 0 = nI (n + 1) := by
  unfold addRow
  rw [gd_ne (by omega), gd_ne (by omega), gd_ne (by omega), gd_ne (by omega), gd_ne (by omega), gd_ne (by omega), gd_eq (by omega)]
set_option maxRecDepth 20000 in
set_option maxHeartbeats 4000000 in
theorem B150 {xs : Option (List Int32)} {d : Nat} {w : List sx_C} (hI : WI w) (a1 a2 a3 a4 : Int32) : sx_RP xs (d + 7) 150 0 (lv_args 0 [.ref 111, .int a1, .int a2, .int a3, .int a4]) [] w (fun r w2 => (r = some (.int (galA (FMb w) a1 a2 a3 a4)) ∧ FMb w2 = galU (FMb w) a1 a2 a3 a4) ∧ WI w2 ∧ ∀ a, a < 111 → w2[a]? = w[a]?) := by
  obtain ⟨n, hn, en⟩ := (hI.sA (a := 112) (by decide) 1 (by decide)).1 rfl
  refine sx_RP.step (pc2 := 1) (ls2 := [(0, .ref 111), (1, .int a1), (2, .int a2), (3, .int a3), (4, .int a4)]) (st2 := [.int a1]) (w3 := w) rfl rfl ?_
  rcases in_cases a1 0 5 (m := 0) (n := 5) rfl rfl (by decide) (by decide) with q1 | ⟨x2, hx3, hx4, rfl⟩
  · refine sx_RP.cu (as := [.int a1]) (rest2 := []) (st3 := [.int 0]) rfl rfl rfl rfl rfl (cx_151n q1) rfl ?_
    refine sx_RP.step (pc2 := 31) (ls2 := [(0, .ref 111), (1, .int a1), (2, .int a2), (3, .int a3), (4, .int a4)]) (st2 := []) (w3 := w) rfl rfl ?_
    refine sx_RP.step (pc2 := 32) (ls2 := [(0, .ref 111), (1, .int a1), (2, .int a2), (3, .int a3), (4, .int a4)]) (st2 := [.ref 111]) (w3 := w) rfl rfl ?_
    refine sx_RP.step (pc2 := 33) (ls2 := [(0, .ref 111), (1, .int a1), (2, .int a2), (3, .int a3), (4, .int a4)]) (st2 := [.int 0, .ref 111]) (w3 := w) rfl rfl ?_
    refine sx_RP.callp (as2 := [.ref 111, .int 0]) (rest2 := []) rfl rfl (sx_inv_v2 (mi := 150) (k := 70) (st := [.int 0, .ref 111]) (w := w) rfl rfl hI.1.o111 rfl rfl rfl) rfl rfl rfl (K133_0 hI) (show _ = 36 from rfl) ?_
    rintro r4 w7 ⟨rfl, hI8, hE6⟩
    show sx_RP _ _ _ _ _ [.int (-1000000001)] _ _
    refine sx_RP.ret (r := (some (.int (-1000000001)))) rfl rfl ?_
    exact ⟨⟨by rw [(gal_1 (fun z => q1 z.1)).1], by rw [(gal_1 (fun z => q1 z.1)).2]; exact FMb_el hI hE6.el⟩, hI8, fun a ha => hE6.1 a (Or.inl (by omega))⟩
  · refine sx_RP.cu (as := [.int (nI x2)]) (rest2 := []) (st3 := [.int 1]) rfl rfl rfl rfl rfl (cx_151p ⟨nI_le (a := 0) hx3 (by omega), nI_le (b := 5) hx4 (by decide)⟩) rfl ?_
    refine sx_RP.step (pc2 := 7) (ls2 := [(0, .ref 111), (1, .int (nI x2)), (2, .int a2), (3, .int a3), (4, .int a4)]) (st2 := []) (w3 := w) rfl rfl ?_
    refine sx_RP.step (pc2 := 8) (ls2 := [(0, .ref 111), (1, .int (nI x2)), (2, .int a2), (3, .int a3), (4, .int a4)]) (st2 := [.int a2]) (w3 := w) rfl rfl ?_
    refine sx_RP.step (pc2 := 9) (ls2 := [(0, .ref 111), (1, .int (nI x2)), (2, .int a2), (3, .int a3), (4, .int a4)]) (st2 := [.int 0, .int a2]) (w3 := w) rfl rfl ?_
    refine sx_RP.step (pc2 := 10) (ls2 := [(0, .ref 111), (1, .int (nI x2)), (2, .int a2), (3, .int a3), (4, .int a4)]) (st2 := [.int 1, .int 0, .int a2]) (w3 := w) rfl rfl ?_
    rcases in_cases a2 0 1 (m := 0) (n := 1) rfl rfl (by decide) (by decide) with q9 | ⟨x10, hx11, hx12, rfl⟩
    · refine sx_RP.cu (as := [.int a2, .int 0, .int 1]) (rest2 := []) (st3 := [.int 0]) rfl rfl rfl rfl rfl (cx_132o q9) rfl ?_
      refine sx_RP.step (pc2 := 31) (ls2 := [(0, .ref 111), (1, .int (nI x2)), (2, .int a2), (3, .int a3), (4, .int a4)]) (st2 := []) (w3 := w) rfl rfl ?_
      refine sx_RP.step (pc2 := 32) (ls2 := [(0, .ref 111), (1, .int (nI x2)), (2, .int a2), (3, .int a3), (4, .int a4)]) (st2 := [.ref 111]) (w3 := w) rfl rfl ?_
      refine sx_RP.step (pc2 := 33) (ls2 := [(0, .ref 111), (1, .int (nI x2)), (2, .int a2), (3, .int a3), (4, .int a4)]) (st2 := [.int 0, .ref 111]) (w3 := w) rfl rfl ?_
      refine sx_RP.callp (as2 := [.ref 111, .int 0]) (rest2 := []) rfl rfl (sx_inv_v2 (mi := 150) (k := 70) (st := [.int 0, .ref 111]) (w := w) rfl rfl hI.1.o111 rfl rfl rfl) rfl rfl rfl (K133_0 hI) (show _ = 36 from rfl) ?_
      rintro r4 w15 ⟨rfl, hI16, hE14⟩
      show sx_RP _ _ _ _ _ [.int (-1000000001)] _ _
      refine sx_RP.ret (r := (some (.int (-1000000001)))) rfl rfl ?_
      exact ⟨⟨by rw [(gal_1 (fun z => q9 z.2.1)).1], by rw [(gal_1 (fun z => q9 z.2.1)).2]; exact FMb_el hI hE14.el⟩, hI16, fun a ha => hE14.1 a (Or.inl (by omega))⟩
    · refine sx_RP.cu (as := [.int (nI x10), .int 0, .int 1]) (rest2 := []) (st3 := [.int 1]) rfl rfl rfl rfl rfl (cx_132p ⟨nI_le (a := 0) hx11 (by omega), nI_le (b := 1) hx12 (by decide)⟩) rfl ?_
      refine sx_RP.step (pc2 := 16) (ls2 := [(0, .ref 111), (1, .int (nI x2)), (2, .int (nI x10)), (3, .int a3), (4, .int a4)]) (st2 := []) (w3 := w) rfl rfl ?_
      refine sx_RP.step (pc2 := 17) (ls2 := [(0, .ref 111), (1, .int (nI x2)), (2, .int (nI x10)), (3, .int a3), (4, .int a4)]) (st2 := [.int a3]) (w3 := w) rfl rfl ?_
      rcases in_cases a3 0 47 (m := 0) (n := 47) rfl rfl (by decide) (by decide) with q17 | ⟨x18, hx19, hx20, rfl⟩
      · refine sx_RP.cu (as := [.int a3]) (rest2 := []) (st3 := [.int 0]) rfl rfl rfl rfl rfl (cx_131n q17) rfl ?_
        refine sx_RP.step (pc2 := 31) (ls2 := [(0, .ref 111), (1, .int (nI x2)), (2, .int (nI x10)), (3, .int a3), (4, .int a4)]) (st2 := []) (w3 := w) rfl rfl ?_
        refine sx_RP.step (pc2 := 32) (ls2 := [(0, .ref 111), (1, .int (nI x2)), (2, .int (nI x10)), (3, .int a3), (4, .int a4)]) (st2 := [.ref 111]) (w3 := w) rfl rfl ?_
        refine sx_RP.step (pc2 := 33) (ls2 := [(0, .ref 111), (1, .int (nI x2)), (2, .int (nI x10)), (3, .int a3), (4, .int a4)]) (st2 := [.int 0, .ref 111]) (w3 := w) rfl rfl ?_
        refine sx_RP.callp (as2 := [.ref 111, .int 0]) (rest2 := []) rfl rfl (sx_inv_v2 (mi := 150) (k := 70) (st := [.int 0, .ref 111]) (w := w) rfl rfl hI.1.o111 rfl rfl rfl) rfl rfl rfl (K133_0 hI) (show _ = 36 from rfl) ?_
        rintro r4 w23 ⟨rfl, hI24, hE22⟩
        show sx_RP _ _ _ _ _ [.int (-1000000001)] _ _
        refine sx_RP.ret (r := (some (.int (-1000000001)))) rfl rfl ?_
        exact ⟨⟨by rw [(gal_1 (fun z => q17 z.2.2.1)).1], by rw [(gal_1 (fun z => q17 z.2.2.1)).2]; exact FMb_el hI hE22.el⟩, hI24, fun a ha => hE22.1 a (Or.inl (by omega))⟩
      · refine sx_RP.cu (as := [.int (nI x18)]) (rest2 := []) (st3 := [.int 1]) rfl rfl rfl rfl rfl (cx_131p ⟨nI_le (a := 0) hx19 (by omega), nI_le (b := 47) hx20 (by decide)⟩) rfl ?_
        refine sx_RP.step (pc2 := 23) (ls2 := [(0, .ref 111), (1, .int (nI x2)), (2, .int (nI x10)), (3, .int (nI x18)), (4, .int a4)]) (st2 := []) (w3 := w) rfl rfl ?_
        refine sx_RP.step (pc2 := 25) (ls2 := [(0, .ref 111), (1, .int (nI x2)), (2, .int (nI x10)), (3, .int (nI x18)), (4, .int a4)]) (st2 := [.int a4]) (w3 := w) rfl rfl ?_
        rcases in_cases a4 0 3 (m := 0) (n := 3) rfl rfl (by decide) (by decide) with q25 | ⟨x26, hx27, hx28, rfl⟩
        · refine sx_RP.cu (as := [.int a4]) (rest2 := []) (st3 := [.int 0]) rfl rfl rfl rfl rfl (cx_152n q25) rfl ?_
          refine sx_RP.step (pc2 := 31) (ls2 := [(0, .ref 111), (1, .int (nI x2)), (2, .int (nI x10)), (3, .int (nI x18)), (4, .int a4)]) (st2 := []) (w3 := w) rfl rfl ?_
          refine sx_RP.step (pc2 := 32) (ls2 := [(0, .ref 111), (1, .int (nI x2)), (2, .int (nI x10)), (3, .int (nI x18)), (4, .int a4)]) (st2 := [.ref 111]) (w3 := w) rfl rfl ?_
          refine sx_RP.step (pc2 := 33) (ls2 := [(0, .ref 111), (1, .int (nI x2)), (2, .int (nI x10)), (3, .int (nI x18)), (4, .int a4)]) (st2 := [.int 0, .ref 111]) (w3 := w) rfl rfl ?_
          refine sx_RP.callp (as2 := [.ref 111, .int 0]) (rest2 := []) rfl rfl (sx_inv_v2 (mi := 150) (k := 70) (st := [.int 0, .ref 111]) (w := w) rfl rfl hI.1.o111 rfl rfl rfl) rfl rfl rfl (K133_0 hI) (show _ = 36 from rfl) ?_
          rintro r4 w31 ⟨rfl, hI32, hE30⟩
          show sx_RP _ _ _ _ _ [.int (-1000000001)] _ _
          refine sx_RP.ret (r := (some (.int (-1000000001)))) rfl rfl ?_
          exact ⟨⟨by rw [(gal_1 (fun z => q25 z.2.2.2)).1], by rw [(gal_1 (fun z => q25 z.2.2.2)).2]; exact FMb_el hI hE30.el⟩, hI32, fun a ha => hE30.1 a (Or.inl (by omega))⟩
        · refine sx_RP.cu (as := [.int (nI x26)]) (rest2 := []) (st3 := [.int 1]) rfl rfl rfl rfl rfl (cx_152p ⟨nI_le (a := 0) hx27 (by omega), nI_le (b := 3) hx28 (by decide)⟩) rfl ?_
          refine sx_RP.step (pc2 := 37) (ls2 := [(0, .ref 111), (1, .int (nI x2)), (2, .int (nI x10)), (3, .int (nI x18)), (4, .int (nI x26))]) (st2 := []) (w3 := w) rfl rfl ?_
          refine sx_RP.step (pc2 := 38) (ls2 := [(0, .ref 111), (1, .int (nI x2)), (2, .int (nI x10)), (3, .int (nI x18)), (4, .int (nI x26))]) (st2 := [.ref 111]) (w3 := w) rfl rfl ?_
          refine sx_RP.gf (v := .ref 112) rfl rfl hI.1.o111 rfl rfl (show _ = 41 from rfl) ?_
          refine sx_RP.step (pc2 := 42) (ls2 := [(0, .ref 111), (1, .int (nI x2)), (2, .int (nI x10)), (3, .int (nI x18)), (4, .int (nI x26))]) (st2 := [.int 1, .ref 112]) (w3 := w) rfl rfl ?_
          refine sx_RP.ild (c := 1) rfl hI.1.a112.1 hI.1.a112.2 (sx_in_nI (show 1 < 172 by omega) (by decide)) (show (nI 1).toNatClampNeg = 1 from nI_clamp (by omega)) (show _ = 43 from rfl) ?_
          rw [en]
          refine sx_RP.step (pc2 := 45) (ls2 := [(0, .ref 111), (1, .int (nI x2)), (2, .int (nI x10)), (3, .int (nI x18)), (4, .int (nI x26))]) (st2 := [.int 10, .int (nI n)]) (w3 := w) rfl rfl ?_
          refine sx_RP.br (p1 := 54) (l1 := [(0, .ref 111), (1, .int (nI x2)), (2, .int (nI x10)), (3, .int (nI x18)), (4, .int (nI x26))]) (s1 := []) (v1 := w) (p2 := 48) (l2 := [(0, .ref 111), (1, .int (nI x2)), (2, .int (nI x10)), (3, .int (nI x18)), (4, .int (nI x26))]) (s2 := []) (v2 := w) rfl rfl (fun q33 => ?_) (fun q33 => ?_)
          · replace q33 := of_decide_eq_true q33
            replace q33 := mt (nI_eq (a := n) (b := 10) (by omega) (by omega)).mpr q33
            refine sx_RP.step (pc2 := 55) (ls2 := [(0, .ref 111), (1, .int (nI x2)), (2, .int (nI x10)), (3, .int (nI x18)), (4, .int (nI x26))]) (st2 := [.ref 111]) (w3 := w) rfl rfl ?_
            refine sx_RP.step (pc2 := 56) (ls2 := [(0, .ref 111), (1, .int (nI x2)), (2, .int (nI x10)), (3, .int (nI x18)), (4, .int (nI x26))]) (st2 := [.int (nI x2), .ref 111]) (w3 := w) rfl rfl ?_
            refine sx_RP.step (pc2 := 57) (ls2 := [(0, .ref 111), (1, .int (nI x2)), (2, .int (nI x10)), (3, .int (nI x18)), (4, .int (nI x26))]) (st2 := [.int (nI x10), .int (nI x2), .ref 111]) (w3 := w) rfl rfl ?_
            refine sx_RP.step (pc2 := 58) (ls2 := [(0, .ref 111), (1, .int (nI x2)), (2, .int (nI x10)), (3, .int (nI x18)), (4, .int (nI x26))]) (st2 := [.int (nI x18), .int (nI x10), .int (nI x2), .ref 111]) (w3 := w) rfl rfl ?_
            refine sx_RP.step (pc2 := 60) (ls2 := [(0, .ref 111), (1, .int (nI x2)), (2, .int (nI x10)), (3, .int (nI x18)), (4, .int (nI x26))]) (st2 := [.int (nI x26), .int (nI x18), .int (nI x10), .int (nI x2), .ref 111]) (w3 := w) rfl rfl ?_
            refine sx_RP.callp (as2 := [.ref 111, .int (nI x2), .int (nI x10), .int (nI x18), .int (nI x26)]) (rest2 := []) rfl rfl (sx_inv_v2 (mi := 150) (k := 120) (st := [.int (nI x26), .int (nI x18), .int (nI x10), .int (nI x2), .ref 111]) (w := w) rfl rfl hI.1.o111 rfl rfl rfl) rfl rfl rfl (X153 hI (by omega) en (show x2 ≤ 5 by omega) (show x10 ≤ 1 by omega) (show x18 < 48 by omega) (show x26 ≤ 3 by omega)) (show _ = 63 from rfl) ?_
            rintro r4 w36 ⟨⟨rfl, hc34⟩, hI37, hs35⟩
            show sx_RP _ _ _ _ _ [] _ _
            have ex38 : (ia w36 112).getD 1 0 = nI (n + 1) := by rw [hc34]; exact addRow_1 hI.1.a112.2
            refine sx_RP.step (pc2 := 64) (ls2 := [(0, .ref 111), (1, .int (nI x2)), (2, .int (nI x10)), (3, .int (nI x18)), (4, .int (nI x26))]) (st2 := [.ref 111]) (w3 := w36) rfl rfl ?_
            refine sx_RP.gf (v := .ref 112) rfl rfl hI37.1.o111 rfl rfl (show _ = 67 from rfl) ?_
            refine sx_RP.step (pc2 := 68) (ls2 := [(0, .ref 111), (1, .int (nI x2)), (2, .int (nI x10)), (3, .int (nI x18)), (4, .int (nI x26))]) (st2 := [.int 1, .ref 112]) (w3 := w36) rfl rfl ?_
            refine sx_RP.ild (c := 1) rfl hI37.1.a112.1 hI37.1.a112.2 (sx_in_nI (show 1 < 172 by omega) (by decide)) (show (nI 1).toNatClampNeg = 1 from nI_clamp (by omega)) (show _ = 69 from rfl) ?_
            rw [ex38]
            refine sx_RP.step (pc2 := 70) (ls2 := [(0, .ref 111), (1, .int (nI x2)), (2, .int (nI x10)), (3, .int (nI x18)), (4, .int (nI x26))]) (st2 := [.int 1, .int (nI (n + 1))]) (w3 := w36) rfl rfl ?_
            refine sx_RP.step (pc2 := 71) (ls2 := [(0, .ref 111), (1, .int (nI x2)), (2, .int (nI x10)), (3, .int (nI x18)), (4, .int (nI x26))]) (st2 := [.int ((nI (n + 1)) - 1)]) (w3 := w36) rfl rfl ?_
            rw [show ((nI (n + 1)) - 1 : Int32) = nI ((n + 1) - 1) from nI_sub (a := (n + 1)) (b := 1) (by omega)]
            refine sx_RP.ret (r := (some (.int (nI ((n + 1) - 1))))) rfl rfl ?_
            have hr := addRow_b (k := nI x2) (s := nI x10) (c := nI x18) (y := nI x26) hI.1.a112.2 en (by omega)
            exact ⟨⟨by rw [(gal_3 ⟨⟨nI_le (a := 0) (show 0 ≤ x2 by omega) (by omega), nI_le (b := 5) (show x2 ≤ 5 by omega) (by decide)⟩, ⟨nI_le (a := 0) (show 0 ≤ x10 by omega) (by omega), nI_le (b := 1) (show x10 ≤ 1 by omega) (by decide)⟩, ⟨nI_le (a := 0) (show 0 ≤ x18 by omega) (by omega), nI_le (b := 47) (show x18 ≤ 47 by omega) (by decide)⟩, ⟨nI_le (a := 0) (show 0 ≤ x26 by omega) (by omega), nI_le (b := 3) (show x26 ≤ 3 by omega) (by decide)⟩⟩ (by rw [FMb_len en hn]; omega)).1, FMb_len en hn, Nat.add_sub_cancel], by rw [(gal_3 ⟨⟨nI_le (a := 0) (show 0 ≤ x2 by omega) (by omega), nI_le (b := 5) (show x2 ≤ 5 by omega) (by decide)⟩, ⟨nI_le (a := 0) (show 0 ≤ x10 by omega) (by omega), nI_le (b := 1) (show x10 ≤ 1 by omega) (by decide)⟩, ⟨nI_le (a := 0) (show 0 ≤ x18 by omega) (by omega), nI_le (b := 47) (show x18 ≤ 47 by omega) (by decide)⟩, ⟨nI_le (a := 0) (show 0 ≤ x26 by omega) (by omega), nI_le (b := 3) (show x26 ≤ 3 by omega) (by decide)⟩⟩ (by rw [FMb_len en hn]; omega)).2, FMb_row hs35, hc34, hr]; rfl⟩, hI37, fun a ha => hs35 a (by omega)⟩
          · replace q33 := Decidable.not_not.mp (of_decide_eq_false q33)
            replace q33 := (nI_eq (a := n) (b := 10) (by omega) (by omega)).mp q33
            refine sx_RP.step (pc2 := 49) (ls2 := [(0, .ref 111), (1, .int (nI x2)), (2, .int (nI x10)), (3, .int (nI x18)), (4, .int (nI x26))]) (st2 := [.ref 111]) (w3 := w) rfl rfl ?_
            refine sx_RP.step (pc2 := 50) (ls2 := [(0, .ref 111), (1, .int (nI x2)), (2, .int (nI x10)), (3, .int (nI x18)), (4, .int (nI x26))]) (st2 := [.int 1, .ref 111]) (w3 := w) rfl rfl ?_
            refine sx_RP.callp (as2 := [.ref 111, .int 1]) (rest2 := []) rfl rfl (sx_inv_v2 (mi := 150) (k := 70) (st := [.int 1, .ref 111]) (w := w) rfl rfl hI.1.o111 rfl rfl rfl) rfl rfl rfl (K133_1 hI) (show _ = 53 from rfl) ?_
            rintro r4 w40 ⟨rfl, hI41, hE39⟩
            show sx_RP _ _ _ _ _ [.int (-1000000002)] _ _
            refine sx_RP.ret (r := (some (.int (-1000000002)))) rfl rfl ?_
            exact ⟨⟨by rw [(gal_2 ⟨⟨nI_le (a := 0) (show 0 ≤ x2 by omega) (by omega), nI_le (b := 5) (show x2 ≤ 5 by omega) (by decide)⟩, ⟨nI_le (a := 0) (show 0 ≤ x10 by omega) (by omega), nI_le (b := 1) (show x10 ≤ 1 by omega) (by decide)⟩, ⟨nI_le (a := 0) (show 0 ≤ x18 by omega) (by omega), nI_le (b := 47) (show x18 ≤ 47 by omega) (by decide)⟩, ⟨nI_le (a := 0) (show 0 ≤ x26 by omega) (by omega), nI_le (b := 3) (show x26 ≤ 3 by omega) (by decide)⟩⟩ (by rw [FMb_len en hn]; omega)).1], by rw [(gal_2 ⟨⟨nI_le (a := 0) (show 0 ≤ x2 by omega) (by omega), nI_le (b := 5) (show x2 ≤ 5 by omega) (by decide)⟩, ⟨nI_le (a := 0) (show 0 ≤ x10 by omega) (by omega), nI_le (b := 1) (show x10 ≤ 1 by omega) (by decide)⟩, ⟨nI_le (a := 0) (show 0 ≤ x18 by omega) (by omega), nI_le (b := 47) (show x18 ≤ 47 by omega) (by decide)⟩, ⟨nI_le (a := 0) (show 0 ≤ x26 by omega) (by omega), nI_le (b := 3) (show x26 ≤ 3 by omega) (by decide)⟩⟩ (by rw [FMb_len en hn]; omega)).2]; exact FMb_el hI hE39.el⟩, hI41, fun a ha => hE39.1 a (Or.inl (by omega))⟩
set_option maxRecDepth 20000 in
set_option maxHeartbeats 4000000 in
theorem B158 {xs : Option (List Int32)} {d : Nat} {w : List sx_C} (hI : WI w) (a1 a2 : Int32) : sx_RP xs (d + 7) 158 0 (lv_args 0 [.ref 111, .int a1, .int a2]) [] w (fun r w2 => (r = some (.int (becA (FMb w) a1 a2)) ∧ FMb w2 = becU (FMb w) a1 a2) ∧ WI w2 ∧ ∀ a, a < 111 → w2[a]? = w[a]?) := by
  obtain ⟨n, hn, en⟩ := (hI.sA (a := 112) (by decide) 1 (by decide)).1 rfl
  refine sx_RP.step (pc2 := 1) (ls2 := [(0, .ref 111), (1, .int a1), (2, .int a2)]) (st2 := [.ref 111]) (w3 := w) rfl rfl ?_
  refine sx_RP.step (pc2 := 2) (ls2 := [(0, .ref 111), (1, .int a1), (2, .int a2)]) (st2 := [.int a1, .ref 111]) (w3 := w) rfl rfl ?_
  rcases Decidable.em (0 ≤ a1 ∧ a1 < nI n) with c1 | c1
  · obtain ⟨x2, hx3, rfl⟩ := idx_get c1 (by omega)
    refine sx_RP.cu (as := [.ref 111, .int (nI x2)]) (rest2 := []) (st3 := [.int 1]) rfl rfl (sx_inv_v2 (mi := 158) (k := 124) (st := [.int (nI x2), .ref 111]) (w := w) rfl rfl hI.1.o111 rfl rfl rfl) rfl rfl (p156y hI en hn c1) rfl ?_
    refine sx_RP.step (pc2 := 8) (ls2 := [(0, .ref 111), (1, .int (nI x2)), (2, .int a2)]) (st2 := []) (w3 := w) rfl rfl ?_
    refine sx_RP.step (pc2 := 9) (ls2 := [(0, .ref 111), (1, .int (nI x2)), (2, .int a2)]) (st2 := [.int a2]) (w3 := w) rfl rfl ?_
    rcases in_cases a2 0 5 (m := 0) (n := 5) rfl rfl (by decide) (by decide) with q4 | ⟨x5, hx6, hx7, rfl⟩
    · refine sx_RP.cu (as := [.int a2]) (rest2 := []) (st3 := [.int 0]) rfl rfl rfl rfl rfl (cx_151n q4) rfl ?_
      refine sx_RP.step (pc2 := 25) (ls2 := [(0, .ref 111), (1, .int (nI x2)), (2, .int a2)]) (st2 := []) (w3 := w) rfl rfl ?_
      refine sx_RP.step (pc2 := 26) (ls2 := [(0, .ref 111), (1, .int (nI x2)), (2, .int a2)]) (st2 := [.ref 111]) (w3 := w) rfl rfl ?_
      refine sx_RP.step (pc2 := 27) (ls2 := [(0, .ref 111), (1, .int (nI x2)), (2, .int a2)]) (st2 := [.int 0, .ref 111]) (w3 := w) rfl rfl ?_
      refine sx_RP.callp (as2 := [.ref 111, .int 0]) (rest2 := []) rfl rfl (sx_inv_v2 (mi := 158) (k := 70) (st := [.int 0, .ref 111]) (w := w) rfl rfl hI.1.o111 rfl rfl rfl) rfl rfl rfl (K133_0 hI) (show _ = 30 from rfl) ?_
      rintro r4 w10 ⟨rfl, hI11, hE9⟩
      show sx_RP _ _ _ _ _ [.int (-1000000001)] _ _
      refine sx_RP.ret (r := (some (.int (-1000000001)))) rfl rfl ?_
      exact ⟨⟨by rw [(bec_1 (fun z => q4 z.2)).1], by rw [(bec_1 (fun z => q4 z.2)).2]; exact FMb_el hI hE9.el⟩, hI11, fun a ha => hE9.1 a (Or.inl (by omega))⟩
    · refine sx_RP.cu (as := [.int (nI x5)]) (rest2 := []) (st3 := [.int 1]) rfl rfl rfl rfl rfl (cx_151p ⟨nI_le (a := 0) hx6 (by omega), nI_le (b := 5) hx7 (by decide)⟩) rfl ?_
      refine sx_RP.step (pc2 := 15) (ls2 := [(0, .ref 111), (1, .int (nI x2)), (2, .int (nI x5))]) (st2 := []) (w3 := w) rfl rfl ?_
      refine sx_RP.step (pc2 := 16) (ls2 := [(0, .ref 111), (1, .int (nI x2)), (2, .int (nI x5))]) (st2 := [.ref 111]) (w3 := w) rfl rfl ?_
      refine sx_RP.step (pc2 := 17) (ls2 := [(0, .ref 111), (1, .int (nI x2)), (2, .int (nI x5))]) (st2 := [.int (nI x2), .ref 111]) (w3 := w) rfl rfl ?_
      refine sx_RP.step (pc2 := 18) (ls2 := [(0, .ref 111), (1, .int (nI x2)), (2, .int (nI x5))]) (st2 := [.int 0, .int (nI x2), .ref 111]) (w3 := w) rfl rfl ?_
      refine sx_RP.step (pc2 := 19) (ls2 := [(0, .ref 111), (1, .int (nI x2)), (2, .int (nI x5))]) (st2 := [.int (nI x5), .int 0, .int (nI x2), .ref 111]) (w3 := w) rfl rfl ?_
      refine sx_RP.callp (as2 := [.ref 111, .int (nI x2), .int 0, .int (nI x5)]) (rest2 := []) rfl rfl (sx_inv_v2 (mi := 158) (k := 110) (st := [.int (nI x5), .int 0, .int (nI x2), .ref 111]) (w := w) rfl rfl hI.1.o111 rfl rfl rfl) rfl rfl rfl (X154 (c := 0) hI (show x2 < 10 by omega) (by decide) (eOK_g (g := x2) (c := 0) (by omega) (by decide) (inR.n (show x5 ≤ 5 by omega)))) (show _ = 22 from rfl) ?_
      rintro r4 w14 ⟨⟨rfl, hv12⟩, hI15, hs13⟩
      show sx_RP _ _ _ _ _ [.int ((ia w 112).getD (103 + 6 * x2 + 0) 0)] _ _
      refine sx_RP.step (pc2 := 30) (ls2 := [(0, .ref 111), (1, .int (nI x2)), (2, .int (nI x5))]) (st2 := [.int ((ia w 112).getD (103 + 6 * x2 + 0) 0)]) (w3 := w14) rfl rfl ?_
      refine sx_RP.ret (r := (some (.int ((ia w 112).getD (103 + 6 * x2 + 0) 0)))) rfl rfl ?_
      exact ⟨⟨by rw [(bec_2 ⟨by rw [FMb_len en hn]; exact c1, ⟨nI_le (a := 0) (show 0 ≤ x5 by omega) (by omega), nI_le (b := 5) (show x5 ≤ 5 by omega) (by decide)⟩⟩).1, FMb_kind en hn hx3]; rfl, by rw [(bec_2 ⟨by rw [FMb_len en hn]; exact c1, ⟨nI_le (a := 0) (show 0 ≤ x5 by omega) (by omega), nI_le (b := 5) (show x5 ≤ 5 by omega) (by decide)⟩⟩).2, FMb_row hs13, hv12, rowB_setK hI.1.a112.2 en hn hx3, iN_n (show x2 < 2 ^ 31 by omega)]; rfl⟩, hI15, fun a ha => hs13 a (by omega)⟩
  · refine sx_RP.cu (as := [.ref 111, .int a1]) (rest2 := []) (st3 := [.int 0]) rfl rfl (sx_inv_v2 (mi := 158) (k := 124) (st := [.int a1, .ref 111]) (w := w) rfl rfl hI.1.o111 rfl rfl rfl) rfl rfl (p156n hI en hn c1) rfl ?_
    refine sx_RP.step (pc2 := 25) (ls2 := [(0, .ref 111), (1, .int a1), (2, .int a2)]) (st2 := []) (w3 := w) rfl rfl ?_
    refine sx_RP.step (pc2 := 26) (ls2 := [(0, .ref 111), (1, .int a1), (2, .int a2)]) (st2 := [.ref 111]) (w3 := w) rfl rfl ?_
    refine sx_RP.step (pc2 := 27) (ls2 := [(0, .ref 111), (1, .int a1), (2, .int a2)]) (st2 := [.int 0, .ref 111]) (w3 := w) rfl rfl ?_
    refine sx_RP.callp (as2 := [.ref 111, .int 0]) (rest2 := []) rfl rfl (sx_inv_v2 (mi := 158) (k := 70) (st := [.int 0, .ref 111]) (w := w) rfl rfl hI.1.o111 rfl rfl rfl) rfl rfl rfl (K133_0 hI) (show _ = 30 from rfl) ?_
    rintro r4 w17 ⟨rfl, hI18, hE16⟩
    show sx_RP _ _ _ _ _ [.int (-1000000001)] _ _
    refine sx_RP.ret (r := (some (.int (-1000000001)))) rfl rfl ?_
    exact ⟨⟨by rw [(bec_1 (fun z => c1 (by rw [← FMb_len en hn]; exact z.1))).1], by rw [(bec_1 (fun z => c1 (by rw [← FMb_len en hn]; exact z.1))).2]; exact FMb_el hI hE16.el⟩, hI18, fun a ha => hE16.1 a (Or.inl (by omega))⟩
set_option maxRecDepth 20000 in
set_option maxHeartbeats 4000000 in
theorem B184 {xs : Option (List Int32)} {d : Nat} {w : List sx_C} (hI : WI w) (a1 : Int32) : sx_RP xs (d + 7) 184 0 (lv_args 0 [.ref 111, .int a1]) [] w (fun r w2 => (r = some (.int (disA (FMb w) a1)) ∧ FMb w2 = disU (FMb w) a1) ∧ WI w2 ∧ ∀ a, a < 111 → w2[a]? = w[a]?) := by
  obtain ⟨n, hn, en⟩ := (hI.sA (a := 112) (by decide) 2 (by decide)).2.1 rfl
  refine sx_RP.step (pc2 := 1) (ls2 := [(0, .ref 111), (1, .int a1)]) (st2 := [.int a1]) (w3 := w) rfl rfl ?_
  rcases in_cases a1 0 47 (m := 0) (n := 47) rfl rfl (by decide) (by decide) with q1 | ⟨x2, hx3, hx4, rfl⟩
  · refine sx_RP.cu (as := [.int a1]) (rest2 := []) (st3 := [.int 0]) rfl rfl rfl rfl rfl (cx_131n q1) rfl ?_
    refine sx_RP.step (pc2 := 7) (ls2 := [(0, .ref 111), (1, .int a1)]) (st2 := []) (w3 := w) rfl rfl ?_
    refine sx_RP.step (pc2 := 8) (ls2 := [(0, .ref 111), (1, .int a1)]) (st2 := [.ref 111]) (w3 := w) rfl rfl ?_
    refine sx_RP.step (pc2 := 9) (ls2 := [(0, .ref 111), (1, .int a1)]) (st2 := [.int 0, .ref 111]) (w3 := w) rfl rfl ?_
    refine sx_RP.callp (as2 := [.ref 111, .int 0]) (rest2 := []) rfl rfl (sx_inv_v2 (mi := 184) (k := 70) (st := [.int 0, .ref 111]) (w := w) rfl rfl hI.1.o111 rfl rfl rfl) rfl rfl rfl (K133_0 hI) (show _ = 12 from rfl) ?_
    rintro r4 w7 ⟨rfl, hI8, hE6⟩
    show sx_RP _ _ _ _ _ [.int (-1000000001)] _ _
    refine sx_RP.ret (r := (some (.int (-1000000001)))) rfl rfl ?_
    exact ⟨⟨by rw [(dis_1 q1).1], by rw [(dis_1 q1).2]; exact FMb_el hI hE6.el⟩, hI8, fun a ha => hE6.1 a (Or.inl (by omega))⟩
  · refine sx_RP.cu (as := [.int (nI x2)]) (rest2 := []) (st3 := [.int 1]) rfl rfl rfl rfl rfl (cx_131p ⟨nI_le (a := 0) hx3 (by omega), nI_le (b := 47) hx4 (by decide)⟩) rfl ?_
    refine sx_RP.step (pc2 := 13) (ls2 := [(0, .ref 111), (1, .int (nI x2))]) (st2 := []) (w3 := w) rfl rfl ?_
    refine sx_RP.step (pc2 := 14) (ls2 := [(0, .ref 111), (1, .int (nI x2))]) (st2 := [.ref 111]) (w3 := w) rfl rfl ?_
    refine sx_RP.gf (v := .ref 112) rfl rfl hI.1.o111 rfl rfl (show _ = 17 from rfl) ?_
    refine sx_RP.step (pc2 := 18) (ls2 := [(0, .ref 111), (1, .int (nI x2))]) (st2 := [.int 2, .ref 112]) (w3 := w) rfl rfl ?_
    refine sx_RP.ild (c := 2) rfl hI.1.a112.1 hI.1.a112.2 (sx_in_nI (show 2 < 172 by omega) (by decide)) (show (nI 2).toNatClampNeg = 2 from nI_clamp (by omega)) (show _ = 19 from rfl) ?_
    rw [en]
    refine sx_RP.step (pc2 := 21) (ls2 := [(0, .ref 111), (1, .int (nI x2))]) (st2 := [.int 9, .int (nI n)]) (w3 := w) rfl rfl ?_
    refine sx_RP.br (p1 := 30) (l1 := [(0, .ref 111), (1, .int (nI x2))]) (s1 := []) (v1 := w) (p2 := 24) (l2 := [(0, .ref 111), (1, .int (nI x2))]) (s2 := []) (v2 := w) rfl rfl (fun q9 => ?_) (fun q9 => ?_)
    · replace q9 := of_decide_eq_true q9
      replace q9 := mt (nI_eq (a := n) (b := 9) (by omega) (by omega)).mpr q9
      refine sx_RP.step (pc2 := 31) (ls2 := [(0, .ref 111), (1, .int (nI x2))]) (st2 := [.ref 111]) (w3 := w) rfl rfl ?_
      refine sx_RP.gf (v := .ref 112) rfl rfl hI.1.o111 rfl rfl (show _ = 34 from rfl) ?_
      refine sx_RP.step (pc2 := 37) (ls2 := [(0, .ref 111), (1, .int (nI x2))]) (st2 := [.int 163, .ref 112]) (w3 := w) rfl rfl ?_
      refine sx_RP.step (pc2 := 38) (ls2 := [(0, .ref 111), (1, .int (nI x2))]) (st2 := [.ref 111, .int 163, .ref 112]) (w3 := w) rfl rfl ?_
      refine sx_RP.gf (v := .ref 112) rfl rfl hI.1.o111 rfl rfl (show _ = 41 from rfl) ?_
      refine sx_RP.step (pc2 := 42) (ls2 := [(0, .ref 111), (1, .int (nI x2))]) (st2 := [.int 2, .ref 112, .int 163, .ref 112]) (w3 := w) rfl rfl ?_
      refine sx_RP.ild (c := 2) rfl hI.1.a112.1 hI.1.a112.2 (sx_in_nI (show 2 < 172 by omega) (by decide)) (show (nI 2).toNatClampNeg = 2 from nI_clamp (by omega)) (show _ = 43 from rfl) ?_
      rw [en]
      refine sx_RP.step (pc2 := 44) (ls2 := [(0, .ref 111), (1, .int (nI x2))]) (st2 := [.int (163 + (nI n)), .ref 112]) (w3 := w) rfl rfl ?_
      rw [show (163 + (nI n) : Int32) = nI (163 + n) from nI_add 163 n]
      refine sx_RP.step (pc2 := 45) (ls2 := [(0, .ref 111), (1, .int (nI x2))]) (st2 := [.int (nI x2), .int (nI (163 + n)), .ref 112]) (w3 := w) rfl rfl ?_
      refine sx_RP.xM (k := (163 + n)) hI (by decide) rfl (by omega) (eOK_d (by omega) (inR.n (show x2 ≤ 47 by omega))) (show _ = 46 from rfl) (fun w10 hI11 hs12 hv13 => ?_)
      have ex14 : (ia w10 112).getD 2 0 = nI n := by rw [hv13, gd_ne (by omega)]; exact en
      have ex15 : (ia w10 112).getD (163 + n) 0 = nI x2 := by rw [hv13, gd_eq (by rw [hI.1.a112.2]; omega)]
      refine sx_RP.step (pc2 := 47) (ls2 := [(0, .ref 111), (1, .int (nI x2))]) (st2 := [.ref 111]) (w3 := w10) rfl rfl ?_
      refine sx_RP.gf (v := .ref 112) rfl rfl hI11.1.o111 rfl rfl (show _ = 50 from rfl) ?_
      refine sx_RP.step (pc2 := 51) (ls2 := [(0, .ref 111), (1, .int (nI x2))]) (st2 := [.int 2, .ref 112]) (w3 := w10) rfl rfl ?_
      refine sx_RP.step (pc2 := 52) (ls2 := [(0, .ref 111), (1, .int (nI x2))]) (st2 := [.int 2, .ref 112, .int 2, .ref 112]) (w3 := w10) rfl rfl ?_
      refine sx_RP.ild (c := 2) rfl hI11.1.a112.1 hI11.1.a112.2 (sx_in_nI (show 2 < 172 by omega) (by decide)) (show (nI 2).toNatClampNeg = 2 from nI_clamp (by omega)) (show _ = 53 from rfl) ?_
      rw [ex14]
      refine sx_RP.step (pc2 := 54) (ls2 := [(0, .ref 111), (1, .int (nI x2))]) (st2 := [.int 1, .int (nI n), .int 2, .ref 112]) (w3 := w10) rfl rfl ?_
      refine sx_RP.step (pc2 := 55) (ls2 := [(0, .ref 111), (1, .int (nI x2))]) (st2 := [.int ((nI n) + 1), .int 2, .ref 112]) (w3 := w10) rfl rfl ?_
      rw [show ((nI n) + 1 : Int32) = nI (n + 1) from nI_add n 1]
      refine sx_RP.xM (k := 2) hI11 (by decide) rfl (by omega) (eOK_2 (inR.n (show (n + 1) ≤ 9 by omega))) (show _ = 56 from rfl) (fun w16 hI17 hs18 hv19 => ?_)
      have ex20 : (ia w16 112).getD (163 + n) 0 = nI x2 := by rw [hv19, gd_ne (by omega)]; exact ex15
      have ex21 : (ia w16 112).getD 2 0 = nI (n + 1) := by rw [hv19, gd_eq (by rw [hI11.1.a112.2]; omega)]
      refine sx_RP.step (pc2 := 57) (ls2 := [(0, .ref 111), (1, .int (nI x2))]) (st2 := [.ref 111]) (w3 := w16) rfl rfl ?_
      refine sx_RP.gf (v := .ref 112) rfl rfl hI17.1.o111 rfl rfl (show _ = 60 from rfl) ?_
      refine sx_RP.step (pc2 := 61) (ls2 := [(0, .ref 111), (1, .int (nI x2))]) (st2 := [.int 2, .ref 112]) (w3 := w16) rfl rfl ?_
      refine sx_RP.ild (c := 2) rfl hI17.1.a112.1 hI17.1.a112.2 (sx_in_nI (show 2 < 172 by omega) (by decide)) (show (nI 2).toNatClampNeg = 2 from nI_clamp (by omega)) (show _ = 62 from rfl) ?_
      rw [ex21]
      refine sx_RP.step (pc2 := 63) (ls2 := [(0, .ref 111), (1, .int (nI x2))]) (st2 := [.int 1, .int (nI (n + 1))]) (w3 := w16) rfl rfl ?_
      refine sx_RP.step (pc2 := 64) (ls2 := [(0, .ref 111), (1, .int (nI x2))]) (st2 := [.int ((nI (n + 1)) - 1)]) (w3 := w16) rfl rfl ?_
      rw [show ((nI (n + 1)) - 1 : Int32) = nI ((n + 1) - 1) from nI_sub (a := (n + 1)) (b := 1) (by omega)]
      refine sx_RP.ret (r := (some (.int (nI ((n + 1) - 1))))) rfl rfl ?_
      have hr := rowB_addD (v := nI x2) hI.1.a112.2 en (by omega) (hI.manyM (by decide))
      exact ⟨⟨by rw [(dis_3 ⟨nI_le (a := 0) (show 0 ≤ x2 by omega) (by omega), nI_le (b := 47) (show x2 ≤ 47 by omega) (by decide)⟩ (by rw [FMb_dlen en (by omega)]; omega)).1, FMb_dlen en (by omega), Nat.add_sub_cancel], by rw [(dis_3 ⟨nI_le (a := 0) (show 0 ≤ x2 by omega) (by omega), nI_le (b := 47) (show x2 ≤ 47 by omega) (by decide)⟩ (by rw [FMb_dlen en (by omega)]; omega)).2, FMb_row (hs12.tr hs18), hv19, hv13, hr]; rfl⟩, hI17, fun a ha => (hs12.tr hs18) a (by omega)⟩
    · replace q9 := Decidable.not_not.mp (of_decide_eq_false q9)
      replace q9 := (nI_eq (a := n) (b := 9) (by omega) (by omega)).mp q9
      refine sx_RP.step (pc2 := 25) (ls2 := [(0, .ref 111), (1, .int (nI x2))]) (st2 := [.ref 111]) (w3 := w) rfl rfl ?_
      refine sx_RP.step (pc2 := 26) (ls2 := [(0, .ref 111), (1, .int (nI x2))]) (st2 := [.int 1, .ref 111]) (w3 := w) rfl rfl ?_
      refine sx_RP.callp (as2 := [.ref 111, .int 1]) (rest2 := []) rfl rfl (sx_inv_v2 (mi := 184) (k := 70) (st := [.int 1, .ref 111]) (w := w) rfl rfl hI.1.o111 rfl rfl rfl) rfl rfl rfl (K133_1 hI) (show _ = 29 from rfl) ?_
      rintro r4 w23 ⟨rfl, hI24, hE22⟩
      show sx_RP _ _ _ _ _ [.int (-1000000002)] _ _
      refine sx_RP.ret (r := (some (.int (-1000000002)))) rfl rfl ?_
      exact ⟨⟨by rw [(dis_2 ⟨nI_le (a := 0) (show 0 ≤ x2 by omega) (by omega), nI_le (b := 47) (show x2 ≤ 47 by omega) (by decide)⟩ (by rw [FMb_dlen en (by omega)]; omega)).1], by rw [(dis_2 ⟨nI_le (a := 0) (show 0 ≤ x2 by omega) (by omega), nI_le (b := 47) (show x2 ≤ 47 by omega) (by decide)⟩ (by rw [FMb_dlen en (by omega)]; omega)).2]; exact FMb_el hI hE22.el⟩, hI24, fun a ha => hE22.1 a (Or.inl (by omega))⟩
set_option maxRecDepth 20000 in
set_option maxHeartbeats 4000000 in
theorem B185 {xs : Option (List Int32)} {d : Nat} {w : List sx_C} (hI : WI w) (a1 a2 : Int32) : sx_RP xs (d + 7) 185 0 (lv_args 0 [.ref 111, .int a1, .int a2]) [] w (fun r w2 => (r = some (.int (movA (FMb w) a1 a2)) ∧ FMb w2 = movU (FMb w) a1 a2) ∧ WI w2 ∧ ∀ a, a < 111 → w2[a]? = w[a]?) := by
  obtain ⟨n, hn, en⟩ := (hI.sA (a := 112) (by decide) 2 (by decide)).2.1 rfl
  refine sx_RP.step (pc2 := 1) (ls2 := [(0, .ref 111), (1, .int a1), (2, .int a2)]) (st2 := [.ref 111]) (w3 := w) rfl rfl ?_
  refine sx_RP.step (pc2 := 2) (ls2 := [(0, .ref 111), (1, .int a1), (2, .int a2)]) (st2 := [.int a1, .ref 111]) (w3 := w) rfl rfl ?_
  rcases Decidable.em (0 ≤ a1 ∧ a1 < nI n) with c1 | c1
  · obtain ⟨x2, hx3, rfl⟩ := idx_get c1 (by omega)
    refine sx_RP.cu (as := [.ref 111, .int (nI x2)]) (rest2 := []) (st3 := [.int 1]) rfl rfl (sx_inv_v2 (mi := 185) (k := 171) (st := [.int (nI x2), .ref 111]) (w := w) rfl rfl hI.1.o111 rfl rfl rfl) rfl rfl (p186y hI en hn c1) rfl ?_
    refine sx_RP.step (pc2 := 8) (ls2 := [(0, .ref 111), (1, .int (nI x2)), (2, .int a2)]) (st2 := []) (w3 := w) rfl rfl ?_
    refine sx_RP.step (pc2 := 9) (ls2 := [(0, .ref 111), (1, .int (nI x2)), (2, .int a2)]) (st2 := [.int a2]) (w3 := w) rfl rfl ?_
    rcases in_cases a2 0 47 (m := 0) (n := 47) rfl rfl (by decide) (by decide) with q4 | ⟨x5, hx6, hx7, rfl⟩
    · refine sx_RP.cu (as := [.int a2]) (rest2 := []) (st3 := [.int 0]) rfl rfl rfl rfl rfl (cx_131n q4) rfl ?_
      refine sx_RP.step (pc2 := 15) (ls2 := [(0, .ref 111), (1, .int (nI x2)), (2, .int a2)]) (st2 := []) (w3 := w) rfl rfl ?_
      refine sx_RP.step (pc2 := 16) (ls2 := [(0, .ref 111), (1, .int (nI x2)), (2, .int a2)]) (st2 := [.ref 111]) (w3 := w) rfl rfl ?_
      refine sx_RP.step (pc2 := 17) (ls2 := [(0, .ref 111), (1, .int (nI x2)), (2, .int a2)]) (st2 := [.int 0, .ref 111]) (w3 := w) rfl rfl ?_
      refine sx_RP.callp (as2 := [.ref 111, .int 0]) (rest2 := []) rfl rfl (sx_inv_v2 (mi := 185) (k := 70) (st := [.int 0, .ref 111]) (w := w) rfl rfl hI.1.o111 rfl rfl rfl) rfl rfl rfl (K133_0 hI) (show _ = 20 from rfl) ?_
      rintro r4 w10 ⟨rfl, hI11, hE9⟩
      show sx_RP _ _ _ _ _ [.int (-1000000001)] _ _
      refine sx_RP.ret (r := (some (.int (-1000000001)))) rfl rfl ?_
      exact ⟨⟨by rw [(mov_1 (fun z => q4 z.2)).1], by rw [(mov_1 (fun z => q4 z.2)).2]; exact FMb_el hI hE9.el⟩, hI11, fun a ha => hE9.1 a (Or.inl (by omega))⟩
    · refine sx_RP.cu (as := [.int (nI x5)]) (rest2 := []) (st3 := [.int 1]) rfl rfl rfl rfl rfl (cx_131p ⟨nI_le (a := 0) hx6 (by omega), nI_le (b := 47) hx7 (by decide)⟩) rfl ?_
      refine sx_RP.step (pc2 := 21) (ls2 := [(0, .ref 111), (1, .int (nI x2)), (2, .int (nI x5))]) (st2 := []) (w3 := w) rfl rfl ?_
      refine sx_RP.step (pc2 := 22) (ls2 := [(0, .ref 111), (1, .int (nI x2)), (2, .int (nI x5))]) (st2 := [.ref 111]) (w3 := w) rfl rfl ?_
      refine sx_RP.gf (v := .ref 112) rfl rfl hI.1.o111 rfl rfl (show _ = 25 from rfl) ?_
      refine sx_RP.step (pc2 := 28) (ls2 := [(0, .ref 111), (1, .int (nI x2)), (2, .int (nI x5))]) (st2 := [.int 163, .ref 112]) (w3 := w) rfl rfl ?_
      refine sx_RP.step (pc2 := 29) (ls2 := [(0, .ref 111), (1, .int (nI x2)), (2, .int (nI x5))]) (st2 := [.int (nI x2), .int 163, .ref 112]) (w3 := w) rfl rfl ?_
      refine sx_RP.step (pc2 := 30) (ls2 := [(0, .ref 111), (1, .int (nI x2)), (2, .int (nI x5))]) (st2 := [.int (163 + (nI x2)), .ref 112]) (w3 := w) rfl rfl ?_
      rw [show (163 + (nI x2) : Int32) = nI (163 + x2) from nI_add 163 x2]
      refine sx_RP.ild (c := (163 + x2)) rfl hI.1.a112.1 hI.1.a112.2 (sx_in_nI (show (163 + x2) < 172 by omega) (by decide)) (show (nI ((163 + x2))).toNatClampNeg = (163 + x2) from nI_clamp (by omega)) (show _ = 31 from rfl) ?_
      refine sx_RP.step (pc2 := 32) (ls2 := [(3, .int ((ia w 112).getD ((163 + x2)) 0)), (0, .ref 111), (1, .int (nI x2)), (2, .int (nI x5))]) (st2 := []) (w3 := w) rfl rfl ?_
      refine sx_RP.step (pc2 := 33) (ls2 := [(3, .int ((ia w 112).getD ((163 + x2)) 0)), (0, .ref 111), (1, .int (nI x2)), (2, .int (nI x5))]) (st2 := [.ref 111]) (w3 := w) rfl rfl ?_
      refine sx_RP.gf (v := .ref 112) rfl rfl hI.1.o111 rfl rfl (show _ = 36 from rfl) ?_
      refine sx_RP.step (pc2 := 39) (ls2 := [(3, .int ((ia w 112).getD ((163 + x2)) 0)), (0, .ref 111), (1, .int (nI x2)), (2, .int (nI x5))]) (st2 := [.int 163, .ref 112]) (w3 := w) rfl rfl ?_
      refine sx_RP.step (pc2 := 40) (ls2 := [(3, .int ((ia w 112).getD ((163 + x2)) 0)), (0, .ref 111), (1, .int (nI x2)), (2, .int (nI x5))]) (st2 := [.int (nI x2), .int 163, .ref 112]) (w3 := w) rfl rfl ?_
      refine sx_RP.step (pc2 := 41) (ls2 := [(3, .int ((ia w 112).getD ((163 + x2)) 0)), (0, .ref 111), (1, .int (nI x2)), (2, .int (nI x5))]) (st2 := [.int (163 + (nI x2)), .ref 112]) (w3 := w) rfl rfl ?_
      rw [show (163 + (nI x2) : Int32) = nI (163 + x2) from nI_add 163 x2]
      refine sx_RP.step (pc2 := 42) (ls2 := [(3, .int ((ia w 112).getD ((163 + x2)) 0)), (0, .ref 111), (1, .int (nI x2)), (2, .int (nI x5))]) (st2 := [.int (nI x5), .int (nI (163 + x2)), .ref 112]) (w3 := w) rfl rfl ?_
      refine sx_RP.xM (k := (163 + x2)) hI (by decide) rfl (by omega) (eOK_d (by omega) (inR.n (show x5 ≤ 47 by omega))) (show _ = 43 from rfl) (fun w12 hI13 hs14 hv15 => ?_)
      refine sx_RP.step (pc2 := 44) (ls2 := [(3, .int ((ia w 112).getD ((163 + x2)) 0)), (0, .ref 111), (1, .int (nI x2)), (2, .int (nI x5))]) (st2 := [.int ((ia w 112).getD ((163 + x2)) 0)]) (w3 := w12) rfl rfl ?_
      refine sx_RP.ret (r := (some (.int ((ia w 112).getD ((163 + x2)) 0)))) rfl rfl ?_
      exact ⟨⟨by rw [(mov_2 ⟨by rw [FMb_dlen en (by omega)]; exact c1, ⟨nI_le (a := 0) (show 0 ≤ x5 by omega) (by omega), nI_le (b := 47) (show x5 ≤ 47 by omega) (by decide)⟩⟩).1, FMb_dish en hn hx3], by rw [(mov_2 ⟨by rw [FMb_dlen en (by omega)]; exact c1, ⟨nI_le (a := 0) (show 0 ≤ x5 by omega) (by omega), nI_le (b := 47) (show x5 ≤ 47 by omega) (by decide)⟩⟩).2, FMb_row hs14, hv15, rowB_setD hI.1.a112.2 en hn hx3 (hI.manyM (by decide)), iN_n (show x2 < 2 ^ 31 by omega)]; rfl⟩, hI13, fun a ha => hs14 a (by omega)⟩
  · refine sx_RP.cu (as := [.ref 111, .int a1]) (rest2 := []) (st3 := [.int 0]) rfl rfl (sx_inv_v2 (mi := 185) (k := 171) (st := [.int a1, .ref 111]) (w := w) rfl rfl hI.1.o111 rfl rfl rfl) rfl rfl (p186n hI en hn c1) rfl ?_
    refine sx_RP.step (pc2 := 15) (ls2 := [(0, .ref 111), (1, .int a1), (2, .int a2)]) (st2 := []) (w3 := w) rfl rfl ?_
    refine sx_RP.step (pc2 := 16) (ls2 := [(0, .ref 111), (1, .int a1), (2, .int a2)]) (st2 := [.ref 111]) (w3 := w) rfl rfl ?_
    refine sx_RP.step (pc2 := 17) (ls2 := [(0, .ref 111), (1, .int a1), (2, .int a2)]) (st2 := [.int 0, .ref 111]) (w3 := w) rfl rfl ?_
    refine sx_RP.callp (as2 := [.ref 111, .int 0]) (rest2 := []) rfl rfl (sx_inv_v2 (mi := 185) (k := 70) (st := [.int 0, .ref 111]) (w := w) rfl rfl hI.1.o111 rfl rfl rfl) rfl rfl rfl (K133_0 hI) (show _ = 20 from rfl) ?_
    rintro r4 w17 ⟨rfl, hI18, hE16⟩
    show sx_RP _ _ _ _ _ [.int (-1000000001)] _ _
    refine sx_RP.ret (r := (some (.int (-1000000001)))) rfl rfl ?_
    exact ⟨⟨by rw [(mov_1 (fun z => c1 (by rw [← FMb_dlen en (by omega)]; exact z.1))).1], by rw [(mov_1 (fun z => c1 (by rw [← FMb_dlen en (by omega)]; exact z.1))).2]; exact FMb_el hI hE16.el⟩, hI18, fun a ha => hE16.1 a (Or.inl (by omega))⟩
set_option maxRecDepth 20000 in
set_option maxHeartbeats 4000000 in
theorem p204y0 {xs : Option (List Int32)} {d : Nat} {w : List sx_C} {v : Int32} (hh : (0 : Int32) ≤ v ∧ v ≤ 999999) : sx_RU xs (d + 1) 204 0 (lv_args 0 [.int 0, .int v]) [] w (some (.int 1)) w := by
  have h : sx_RP xs (d + 1) 204 0 (lv_args 0 [.int 0, .int v]) [] w (fun r w2 => r = some (.int 1) ∧ w2 = w) := by
    refine sx_RP.step (pc2 := 1) (ls2 := [(0, .int 0), (1, .int v)]) (st2 := [.int 0]) (w3 := w) rfl rfl ?_
    refine sx_RP.step (pc2 := 4) (ls2 := [(0, .int 0), (1, .int v)]) (st2 := []) (w3 := w) rfl rfl ?_
    refine sx_RP.step (pc2 := 5) (ls2 := [(0, .int 0), (1, .int v)]) (st2 := [.int v]) (w3 := w) rfl rfl ?_
    refine sx_RP.step (pc2 := 6) (ls2 := [(0, .int 0), (1, .int v)]) (st2 := [.int 0, .int v]) (w3 := w) rfl rfl ?_
    refine sx_RP.step (pc2 := 8) (ls2 := [(0, .int 0), (1, .int v)]) (st2 := [.int 999999, .int 0, .int v]) (w3 := w) rfl rfl ?_
    refine sx_RP.cu (as := [.int v, .int 0, .int 999999]) (rest2 := []) (st3 := [.int 1]) rfl rfl rfl rfl rfl (cx_132p hh) rfl ?_
    refine sx_RP.step (pc2 := 32) (ls2 := [(0, .int 0), (1, .int v)]) (st2 := [.int 1]) (w3 := w) rfl rfl ?_
    refine sx_RP.ret (r := (some (.int 1))) rfl rfl ?_
    exact ⟨rfl, rfl⟩
  obtain ⟨r, w2, h1, rfl, rfl⟩ := h
  exact h1
set_option maxRecDepth 20000 in
set_option maxHeartbeats 4000000 in
theorem p204n0 {xs : Option (List Int32)} {d : Nat} {w : List sx_C} {v : Int32} (hh : ¬ ((0 : Int32) ≤ v ∧ v ≤ 999999)) : sx_RU xs (d + 1) 204 0 (lv_args 0 [.int 0, .int v]) [] w (some (.int 0)) w := by
  have h : sx_RP xs (d + 1) 204 0 (lv_args 0 [.int 0, .int v]) [] w (fun r w2 => r = some (.int 0) ∧ w2 = w) := by
    refine sx_RP.step (pc2 := 1) (ls2 := [(0, .int 0), (1, .int v)]) (st2 := [.int 0]) (w3 := w) rfl rfl ?_
    refine sx_RP.step (pc2 := 4) (ls2 := [(0, .int 0), (1, .int v)]) (st2 := []) (w3 := w) rfl rfl ?_
    refine sx_RP.step (pc2 := 5) (ls2 := [(0, .int 0), (1, .int v)]) (st2 := [.int v]) (w3 := w) rfl rfl ?_
    refine sx_RP.step (pc2 := 6) (ls2 := [(0, .int 0), (1, .int v)]) (st2 := [.int 0, .int v]) (w3 := w) rfl rfl ?_
    refine sx_RP.step (pc2 := 8) (ls2 := [(0, .int 0), (1, .int v)]) (st2 := [.int 999999, .int 0, .int v]) (w3 := w) rfl rfl ?_
    refine sx_RP.cu (as := [.int v, .int 0, .int 999999]) (rest2 := []) (st3 := [.int 0]) rfl rfl rfl rfl rfl (cx_132o hh) rfl ?_
    refine sx_RP.step (pc2 := 32) (ls2 := [(0, .int 0), (1, .int v)]) (st2 := [.int 0]) (w3 := w) rfl rfl ?_
    refine sx_RP.ret (r := (some (.int 0))) rfl rfl ?_
    exact ⟨rfl, rfl⟩
  obtain ⟨r, w2, h1, rfl, rfl⟩ := h
  exact h1
set_option maxRecDepth 20000 in
set_option maxHeartbeats 4000000 in
theorem p204y1 {xs : Option (List Int32)} {d : Nat} {w : List sx_C} {v : Int32} (hh : (1 : Int32) ≤ v ∧ v ≤ 999) : sx_RU xs (d + 1) 204 0 (lv_args 0 [.int 1, .int v]) [] w (some (.int 1)) w := by
  have h : sx_RP xs (d + 1) 204 0 (lv_args 0 [.int 1, .int v]) [] w (fun r w2 => r = some (.int 1) ∧ w2 = w) := by
    refine sx_RP.step (pc2 := 1) (ls2 := [(0, .int 1), (1, .int v)]) (st2 := [.int 1]) (w3 := w) rfl rfl ?_
    refine sx_RP.step (pc2 := 14) (ls2 := [(0, .int 1), (1, .int v)]) (st2 := []) (w3 := w) rfl rfl ?_
    refine sx_RP.step (pc2 := 15) (ls2 := [(0, .int 1), (1, .int v)]) (st2 := [.int v]) (w3 := w) rfl rfl ?_
    refine sx_RP.step (pc2 := 16) (ls2 := [(0, .int 1), (1, .int v)]) (st2 := [.int 1, .int v]) (w3 := w) rfl rfl ?_
    refine sx_RP.step (pc2 := 17) (ls2 := [(0, .int 1), (1, .int v)]) (st2 := [.int 1, .int 1, .int v]) (w3 := w) rfl rfl ?_
    refine sx_RP.step (pc2 := 18) (ls2 := [(0, .int 1), (1, .int v)]) (st2 := [.int 1, .int 1, .int 1, .int v]) (w3 := w) rfl rfl ?_
    refine sx_RP.step (pc2 := 21) (ls2 := [(0, .int 1), (1, .int v)]) (st2 := [.int 1, .int v]) (w3 := w) rfl rfl ?_
    refine sx_RP.step (pc2 := 24) (ls2 := [(0, .int 1), (1, .int v)]) (st2 := [.int 999, .int 1, .int v]) (w3 := w) rfl rfl ?_
    refine sx_RP.step (pc2 := 29) (ls2 := [(0, .int 1), (1, .int v)]) (st2 := [.int 999, .int 1, .int v]) (w3 := w) rfl rfl ?_
    refine sx_RP.cu (as := [.int v, .int 1, .int 999]) (rest2 := []) (st3 := [.int 1]) rfl rfl rfl rfl rfl (cx_132p hh) rfl ?_
    refine sx_RP.ret (r := (some (.int 1))) rfl rfl ?_
    exact ⟨rfl, rfl⟩
  obtain ⟨r, w2, h1, rfl, rfl⟩ := h
  exact h1
set_option maxRecDepth 20000 in
set_option maxHeartbeats 4000000 in
theorem p204n1 {xs : Option (List Int32)} {d : Nat} {w : List sx_C} {v : Int32} (hh : ¬ ((1 : Int32) ≤ v ∧ v ≤ 999)) : sx_RU xs (d + 1) 204 0 (lv_args 0 [.int 1, .int v]) [] w (some (.int 0)) w := by
  have h : sx_RP xs (d + 1) 204 0 (lv_args 0 [.int 1, .int v]) [] w (fun r w2 => r = some (.int 0) ∧ w2 = w) := by
    refine sx_RP.step (pc2 := 1) (ls2 := [(0, .int 1), (1, .int v)]) (st2 := [.int 1]) (w3 := w) rfl rfl ?_
    refine sx_RP.step (pc2 := 14) (ls2 := [(0, .int 1), (1, .int v)]) (st2 := []) (w3 := w) rfl rfl ?_
    refine sx_RP.step (pc2 := 15) (ls2 := [(0, .int 1), (1, .int v)]) (st2 := [.int v]) (w3 := w) rfl rfl ?_
    refine sx_RP.step (pc2 := 16) (ls2 := [(0, .int 1), (1, .int v)]) (st2 := [.int 1, .int v]) (w3 := w) rfl rfl ?_
    refine sx_RP.step (pc2 := 17) (ls2 := [(0, .int 1), (1, .int v)]) (st2 := [.int 1, .int 1, .int v]) (w3 := w) rfl rfl ?_
    refine sx_RP.step (pc2 := 18) (ls2 := [(0, .int 1), (1, .int v)]) (st2 := [.int 1, .int 1, .int 1, .int v]) (w3 := w) rfl rfl ?_
    refine sx_RP.step (pc2 := 21) (ls2 := [(0, .int 1), (1, .int v)]) (st2 := [.int 1, .int v]) (w3 := w) rfl rfl ?_
    refine sx_RP.step (pc2 := 24) (ls2 := [(0, .int 1), (1, .int v)]) (st2 := [.int 999, .int 1, .int v]) (w3 := w) rfl rfl ?_
    refine sx_RP.step (pc2 := 29) (ls2 := [(0, .int 1), (1, .int v)]) (st2 := [.int 999, .int 1, .int v]) (w3 := w) rfl rfl ?_
    refine sx_RP.cu (as := [.int v, .int 1, .int 999]) (rest2 := []) (st3 := [.int 0]) rfl rfl rfl rfl rfl (cx_132o hh) rfl ?_
    refine sx_RP.ret (r := (some (.int 0))) rfl rfl ?_
    exact ⟨rfl, rfl⟩
  obtain ⟨r, w2, h1, rfl, rfl⟩ := h
  exact h1
set_option maxRecDepth 20000 in
set_option maxHeartbeats 4000000 in
theorem p204y2 {xs : Option (List Int32)} {d : Nat} {w : List sx_C} {v : Int32} (hh : (1 : Int32) ≤ v ∧ v ≤ 99) : sx_RU xs (d + 1) 204 0 (lv_args 0 [.int 2, .int v]) [] w (some (.int 1)) w := by
  have h : sx_RP xs (d + 1) 204 0 (lv_args 0 [.int 2, .int v]) [] w (fun r w2 => r = some (.int 1) ∧ w2 = w) := by
    refine sx_RP.step (pc2 := 1) (ls2 := [(0, .int 2), (1, .int v)]) (st2 := [.int 2]) (w3 := w) rfl rfl ?_
    refine sx_RP.step (pc2 := 14) (ls2 := [(0, .int 2), (1, .int v)]) (st2 := []) (w3 := w) rfl rfl ?_
    refine sx_RP.step (pc2 := 15) (ls2 := [(0, .int 2), (1, .int v)]) (st2 := [.int v]) (w3 := w) rfl rfl ?_
    refine sx_RP.step (pc2 := 16) (ls2 := [(0, .int 2), (1, .int v)]) (st2 := [.int 1, .int v]) (w3 := w) rfl rfl ?_
    refine sx_RP.step (pc2 := 17) (ls2 := [(0, .int 2), (1, .int v)]) (st2 := [.int 2, .int 1, .int v]) (w3 := w) rfl rfl ?_
    refine sx_RP.step (pc2 := 18) (ls2 := [(0, .int 2), (1, .int v)]) (st2 := [.int 1, .int 2, .int 1, .int v]) (w3 := w) rfl rfl ?_
    refine sx_RP.step (pc2 := 27) (ls2 := [(0, .int 2), (1, .int v)]) (st2 := [.int 1, .int v]) (w3 := w) rfl rfl ?_
    refine sx_RP.step (pc2 := 29) (ls2 := [(0, .int 2), (1, .int v)]) (st2 := [.int 99, .int 1, .int v]) (w3 := w) rfl rfl ?_
    refine sx_RP.cu (as := [.int v, .int 1, .int 99]) (rest2 := []) (st3 := [.int 1]) rfl rfl rfl rfl rfl (cx_132p hh) rfl ?_
    refine sx_RP.ret (r := (some (.int 1))) rfl rfl ?_
    exact ⟨rfl, rfl⟩
  obtain ⟨r, w2, h1, rfl, rfl⟩ := h
  exact h1
set_option maxRecDepth 20000 in
set_option maxHeartbeats 4000000 in
theorem p204n2 {xs : Option (List Int32)} {d : Nat} {w : List sx_C} {v : Int32} (hh : ¬ ((1 : Int32) ≤ v ∧ v ≤ 99)) : sx_RU xs (d + 1) 204 0 (lv_args 0 [.int 2, .int v]) [] w (some (.int 0)) w := by
  have h : sx_RP xs (d + 1) 204 0 (lv_args 0 [.int 2, .int v]) [] w (fun r w2 => r = some (.int 0) ∧ w2 = w) := by
    refine sx_RP.step (pc2 := 1) (ls2 := [(0, .int 2), (1, .int v)]) (st2 := [.int 2]) (w3 := w) rfl rfl ?_
    refine sx_RP.step (pc2 := 14) (ls2 := [(0, .int 2), (1, .int v)]) (st2 := []) (w3 := w) rfl rfl ?_
    refine sx_RP.step (pc2 := 15) (ls2 := [(0, .int 2), (1, .int v)]) (st2 := [.int v]) (w3 := w) rfl rfl ?_
    refine sx_RP.step (pc2 := 16) (ls2 := [(0, .int 2), (1, .int v)]) (st2 := [.int 1, .int v]) (w3 := w) rfl rfl ?_
    refine sx_RP.step (pc2 := 17) (ls2 := [(0, .int 2), (1, .int v)]) (st2 := [.int 2, .int 1, .int v]) (w3 := w) rfl rfl ?_
    refine sx_RP.step (pc2 := 18) (ls2 := [(0, .int 2), (1, .int v)]) (st2 := [.int 1, .int 2, .int 1, .int v]) (w3 := w) rfl rfl ?_
    refine sx_RP.step (pc2 := 27) (ls2 := [(0, .int 2), (1, .int v)]) (st2 := [.int 1, .int v]) (w3 := w) rfl rfl ?_
    refine sx_RP.step (pc2 := 29) (ls2 := [(0, .int 2), (1, .int v)]) (st2 := [.int 99, .int 1, .int v]) (w3 := w) rfl rfl ?_
    refine sx_RP.cu (as := [.int v, .int 1, .int 99]) (rest2 := []) (st3 := [.int 0]) rfl rfl rfl rfl rfl (cx_132o hh) rfl ?_
    refine sx_RP.ret (r := (some (.int 0))) rfl rfl ?_
    exact ⟨rfl, rfl⟩
  obtain ⟨r, w2, h1, rfl, rfl⟩ := h
  exact h1
set_option maxRecDepth 20000 in
set_option maxHeartbeats 4000000 in
theorem B203_0 {xs : Option (List Int32)} {d : Nat} {w : List sx_C} (hI : WI w) (a2 : Int32) : sx_RP xs (d + 7) 203 0 (lv_args 0 [.ref 111, .int 0, .int a2]) [] w (fun r w2 => (r = some (.int (breA (FMb w) 0 a2)) ∧ FMb w2 = breU (FMb w) 0 a2) ∧ WI w2 ∧ ∀ a, a < 111 → w2[a]? = w[a]?) := by
  refine sx_RP.step (pc2 := 1) (ls2 := [(0, .ref 111), (1, .int 0), (2, .int a2)]) (st2 := [.int 0]) (w3 := w) rfl rfl ?_
  refine sx_RP.step (pc2 := 2) (ls2 := [(0, .ref 111), (1, .int 0), (2, .int a2)]) (st2 := [.int 0, .int 0]) (w3 := w) rfl rfl ?_
  refine sx_RP.step (pc2 := 3) (ls2 := [(0, .ref 111), (1, .int 0), (2, .int a2)]) (st2 := [.int 2, .int 0, .int 0]) (w3 := w) rfl rfl ?_
  refine sx_RP.cu (as := [.int 0, .int 0, .int 2]) (rest2 := []) (st3 := [.int 1]) rfl rfl rfl rfl rfl (cx_132p (by decide)) rfl ?_
  refine sx_RP.step (pc2 := 9) (ls2 := [(0, .ref 111), (1, .int 0), (2, .int a2)]) (st2 := []) (w3 := w) rfl rfl ?_
  refine sx_RP.step (pc2 := 10) (ls2 := [(0, .ref 111), (1, .int 0), (2, .int a2)]) (st2 := [.int 0]) (w3 := w) rfl rfl ?_
  refine sx_RP.step (pc2 := 11) (ls2 := [(0, .ref 111), (1, .int 0), (2, .int a2)]) (st2 := [.int a2, .int 0]) (w3 := w) rfl rfl ?_
  rcases Decidable.em ((0 : Int32) ≤ a2 ∧ a2 ≤ 999999) with c1 | c1
  · refine sx_RP.cu (as := [.int 0, .int a2]) (rest2 := []) (st3 := [.int 1]) rfl rfl rfl rfl rfl (p204y0 c1) rfl ?_
    refine sx_RP.step (pc2 := 23) (ls2 := [(0, .ref 111), (1, .int 0), (2, .int a2)]) (st2 := []) (w3 := w) rfl rfl ?_
    refine sx_RP.step (pc2 := 24) (ls2 := [(0, .ref 111), (1, .int 0), (2, .int a2)]) (st2 := [.ref 111]) (w3 := w) rfl rfl ?_
    refine sx_RP.gf (v := .ref 112) rfl rfl hI.1.o111 rfl rfl (show _ = 27 from rfl) ?_
    refine sx_RP.step (pc2 := 28) (ls2 := [(0, .ref 111), (1, .int 0), (2, .int a2)]) (st2 := [.int 4, .ref 112]) (w3 := w) rfl rfl ?_
    refine sx_RP.step (pc2 := 29) (ls2 := [(0, .ref 111), (1, .int 0), (2, .int a2)]) (st2 := [.int 0, .int 4, .ref 112]) (w3 := w) rfl rfl ?_
    refine sx_RP.step (pc2 := 30) (ls2 := [(0, .ref 111), (1, .int 0), (2, .int a2)]) (st2 := [.int 4, .ref 112]) (w3 := w) rfl rfl ?_
    refine sx_RP.ild (c := 4) rfl hI.1.a112.1 hI.1.a112.2 (sx_in_nI (show 4 < 172 by omega) (by decide)) (show (nI (4)).toNatClampNeg = 4 from nI_clamp (by omega)) (show _ = 31 from rfl) ?_
    refine sx_RP.step (pc2 := 32) (ls2 := [(3, .int ((ia w 112).getD (4) 0)), (0, .ref 111), (1, .int 0), (2, .int a2)]) (st2 := []) (w3 := w) rfl rfl ?_
    refine sx_RP.step (pc2 := 33) (ls2 := [(3, .int ((ia w 112).getD (4) 0)), (0, .ref 111), (1, .int 0), (2, .int a2)]) (st2 := [.ref 111]) (w3 := w) rfl rfl ?_
    refine sx_RP.gf (v := .ref 112) rfl rfl hI.1.o111 rfl rfl (show _ = 36 from rfl) ?_
    refine sx_RP.step (pc2 := 37) (ls2 := [(3, .int ((ia w 112).getD (4) 0)), (0, .ref 111), (1, .int 0), (2, .int a2)]) (st2 := [.int 4, .ref 112]) (w3 := w) rfl rfl ?_
    refine sx_RP.step (pc2 := 38) (ls2 := [(3, .int ((ia w 112).getD (4) 0)), (0, .ref 111), (1, .int 0), (2, .int a2)]) (st2 := [.int 0, .int 4, .ref 112]) (w3 := w) rfl rfl ?_
    refine sx_RP.step (pc2 := 39) (ls2 := [(3, .int ((ia w 112).getD (4) 0)), (0, .ref 111), (1, .int 0), (2, .int a2)]) (st2 := [.int 4, .ref 112]) (w3 := w) rfl rfl ?_
    refine sx_RP.step (pc2 := 40) (ls2 := [(3, .int ((ia w 112).getD (4) 0)), (0, .ref 111), (1, .int 0), (2, .int a2)]) (st2 := [.int a2, .int 4, .ref 112]) (w3 := w) rfl rfl ?_
    refine sx_RP.xM (k := 4) hI (by decide) rfl (by omega) (eOK_n (by omega)) (show _ = 41 from rfl) (fun w2 hI3 hs4 hv5 => ?_)
    refine sx_RP.step (pc2 := 42) (ls2 := [(3, .int ((ia w 112).getD (4) 0)), (0, .ref 111), (1, .int 0), (2, .int a2)]) (st2 := [.int ((ia w 112).getD (4) 0)]) (w3 := w2) rfl rfl ?_
    refine sx_RP.ret (r := (some (.int ((ia w 112).getD (4) 0)))) rfl rfl ?_
    exact ⟨⟨by rw [(bre_0 ⟨rfl, c1⟩).1]; rfl, by rw [(bre_0 ⟨rfl, c1⟩).2, FMb_row hs4, hv5, show (4 : Nat) = 4 + 0 from rfl, rowB_setF hI.1.a112.2 (by decide) (hI.manyM (by decide))]; rfl⟩, hI3, fun a ha => hs4 a (by omega)⟩
  · refine sx_RP.cu (as := [.int 0, .int a2]) (rest2 := []) (st3 := [.int 0]) rfl rfl rfl rfl rfl (p204n0 c1) rfl ?_
    refine sx_RP.step (pc2 := 17) (ls2 := [(0, .ref 111), (1, .int 0), (2, .int a2)]) (st2 := []) (w3 := w) rfl rfl ?_
    refine sx_RP.step (pc2 := 18) (ls2 := [(0, .ref 111), (1, .int 0), (2, .int a2)]) (st2 := [.ref 111]) (w3 := w) rfl rfl ?_
    refine sx_RP.step (pc2 := 19) (ls2 := [(0, .ref 111), (1, .int 0), (2, .int a2)]) (st2 := [.int 0, .ref 111]) (w3 := w) rfl rfl ?_
    refine sx_RP.callp (as2 := [.ref 111, .int 0]) (rest2 := []) rfl rfl (sx_inv_v2 (mi := 203) (k := 70) (st := [.int 0, .ref 111]) (w := w) rfl rfl hI.1.o111 rfl rfl rfl) rfl rfl rfl (K133_0 hI) (show _ = 22 from rfl) ?_
    rintro r4 w7 ⟨rfl, hI8, hE6⟩
    show sx_RP _ _ _ _ _ [.int (-1000000001)] _ _
    refine sx_RP.ret (r := (some (.int (-1000000001)))) rfl rfl ?_
    exact ⟨⟨by rw [(bre_3 (fun z => c1 z.2) (fun z => absurd z.1 (by decide)) (fun z => absurd z.1 (by decide))).1], by rw [(bre_3 (fun z => c1 z.2) (fun z => absurd z.1 (by decide)) (fun z => absurd z.1 (by decide))).2]; exact FMb_el hI hE6.el⟩, hI8, fun a ha => hE6.1 a (Or.inl (by omega))⟩
set_option maxRecDepth 20000 in
set_option maxHeartbeats 4000000 in
theorem B203_1 {xs : Option (List Int32)} {d : Nat} {w : List sx_C} (hI : WI w) (a2 : Int32) : sx_RP xs (d + 7) 203 0 (lv_args 0 [.ref 111, .int 1, .int a2]) [] w (fun r w2 => (r = some (.int (breA (FMb w) 1 a2)) ∧ FMb w2 = breU (FMb w) 1 a2) ∧ WI w2 ∧ ∀ a, a < 111 → w2[a]? = w[a]?) := by
  refine sx_RP.step (pc2 := 1) (ls2 := [(0, .ref 111), (1, .int 1), (2, .int a2)]) (st2 := [.int 1]) (w3 := w) rfl rfl ?_
  refine sx_RP.step (pc2 := 2) (ls2 := [(0, .ref 111), (1, .int 1), (2, .int a2)]) (st2 := [.int 0, .int 1]) (w3 := w) rfl rfl ?_
  refine sx_RP.step (pc2 := 3) (ls2 := [(0, .ref 111), (1, .int 1), (2, .int a2)]) (st2 := [.int 2, .int 0, .int 1]) (w3 := w) rfl rfl ?_
  refine sx_RP.cu (as := [.int 1, .int 0, .int 2]) (rest2 := []) (st3 := [.int 1]) rfl rfl rfl rfl rfl (cx_132p (by decide)) rfl ?_
  refine sx_RP.step (pc2 := 9) (ls2 := [(0, .ref 111), (1, .int 1), (2, .int a2)]) (st2 := []) (w3 := w) rfl rfl ?_
  refine sx_RP.step (pc2 := 10) (ls2 := [(0, .ref 111), (1, .int 1), (2, .int a2)]) (st2 := [.int 1]) (w3 := w) rfl rfl ?_
  refine sx_RP.step (pc2 := 11) (ls2 := [(0, .ref 111), (1, .int 1), (2, .int a2)]) (st2 := [.int a2, .int 1]) (w3 := w) rfl rfl ?_
  rcases Decidable.em ((1 : Int32) ≤ a2 ∧ a2 ≤ 999) with c1 | c1
  · refine sx_RP.cu (as := [.int 1, .int a2]) (rest2 := []) (st3 := [.int 1]) rfl rfl rfl rfl rfl (p204y1 c1) rfl ?_
    refine sx_RP.step (pc2 := 23) (ls2 := [(0, .ref 111), (1, .int 1), (2, .int a2)]) (st2 := []) (w3 := w) rfl rfl ?_
    refine sx_RP.step (pc2 := 24) (ls2 := [(0, .ref 111), (1, .int 1), (2, .int a2)]) (st2 := [.ref 111]) (w3 := w) rfl rfl ?_
    refine sx_RP.gf (v := .ref 112) rfl rfl hI.1.o111 rfl rfl (show _ = 27 from rfl) ?_
    refine sx_RP.step (pc2 := 28) (ls2 := [(0, .ref 111), (1, .int 1), (2, .int a2)]) (st2 := [.int 4, .ref 112]) (w3 := w) rfl rfl ?_
    refine sx_RP.step (pc2 := 29) (ls2 := [(0, .ref 111), (1, .int 1), (2, .int a2)]) (st2 := [.int 1, .int 4, .ref 112]) (w3 := w) rfl rfl ?_
    refine sx_RP.step (pc2 := 30) (ls2 := [(0, .ref 111), (1, .int 1), (2, .int a2)]) (st2 := [.int 5, .ref 112]) (w3 := w) rfl rfl ?_
    refine sx_RP.ild (c := 5) rfl hI.1.a112.1 hI.1.a112.2 (sx_in_nI (show 5 < 172 by omega) (by decide)) (show (nI (5)).toNatClampNeg = 5 from nI_clamp (by omega)) (show _ = 31 from rfl) ?_
    refine sx_RP.step (pc2 := 32) (ls2 := [(3, .int ((ia w 112).getD (5) 0)), (0, .ref 111), (1, .int 1), (2, .int a2)]) (st2 := []) (w3 := w) rfl rfl ?_
    refine sx_RP.step (pc2 := 33) (ls2 := [(3, .int ((ia w 112).getD (5) 0)), (0, .ref 111), (1, .int 1), (2, .int a2)]) (st2 := [.ref 111]) (w3 := w) rfl rfl ?_
    refine sx_RP.gf (v := .ref 112) rfl rfl hI.1.o111 rfl rfl (show _ = 36 from rfl) ?_
    refine sx_RP.step (pc2 := 37) (ls2 := [(3, .int ((ia w 112).getD (5) 0)), (0, .ref 111), (1, .int 1), (2, .int a2)]) (st2 := [.int 4, .ref 112]) (w3 := w) rfl rfl ?_
    refine sx_RP.step (pc2 := 38) (ls2 := [(3, .int ((ia w 112).getD (5) 0)), (0, .ref 111), (1, .int 1), (2, .int a2)]) (st2 := [.int 1, .int 4, .ref 112]) (w3 := w) rfl rfl ?_
    refine sx_RP.step (pc2 := 39) (ls2 := [(3, .int ((ia w 112).getD (5) 0)), (0, .ref 111), (1, .int 1), (2, .int a2)]) (st2 := [.int 5, .ref 112]) (w3 := w) rfl rfl ?_
    refine sx_RP.step (pc2 := 40) (ls2 := [(3, .int ((ia w 112).getD (5) 0)), (0, .ref 111), (1, .int 1), (2, .int a2)]) (st2 := [.int a2, .int 5, .ref 112]) (w3 := w) rfl rfl ?_
    refine sx_RP.xM (k := 5) hI (by decide) rfl (by omega) (eOK_n (by omega)) (show _ = 41 from rfl) (fun w2 hI3 hs4 hv5 => ?_)
    refine sx_RP.step (pc2 := 42) (ls2 := [(3, .int ((ia w 112).getD (5) 0)), (0, .ref 111), (1, .int 1), (2, .int a2)]) (st2 := [.int ((ia w 112).getD (5) 0)]) (w3 := w2) rfl rfl ?_
    refine sx_RP.ret (r := (some (.int ((ia w 112).getD (5) 0)))) rfl rfl ?_
    exact ⟨⟨by rw [(bre_1 ⟨rfl, c1⟩).1]; rfl, by rw [(bre_1 ⟨rfl, c1⟩).2, FMb_row hs4, hv5, show (5 : Nat) = 4 + 1 from rfl, rowB_setF hI.1.a112.2 (by decide) (hI.manyM (by decide))]; rfl⟩, hI3, fun a ha => hs4 a (by omega)⟩
  · refine sx_RP.cu (as := [.int 1, .int a2]) (rest2 := []) (st3 := [.int 0]) rfl rfl rfl rfl rfl (p204n1 c1) rfl ?_
    refine sx_RP.step (pc2 := 17) (ls2 := [(0, .ref 111), (1, .int 1), (2, .int a2)]) (st2 := []) (w3 := w) rfl rfl ?_
    refine sx_RP.step (pc2 := 18) (ls2 := [(0, .ref 111), (1, .int 1), (2, .int a2)]) (st2 := [.ref 111]) (w3 := w) rfl rfl ?_
    refine sx_RP.step (pc2 := 19) (ls2 := [(0, .ref 111), (1, .int 1), (2, .int a2)]) (st2 := [.int 0, .ref 111]) (w3 := w) rfl rfl ?_
    refine sx_RP.callp (as2 := [.ref 111, .int 0]) (rest2 := []) rfl rfl (sx_inv_v2 (mi := 203) (k := 70) (st := [.int 0, .ref 111]) (w := w) rfl rfl hI.1.o111 rfl rfl rfl) rfl rfl rfl (K133_0 hI) (show _ = 22 from rfl) ?_
    rintro r4 w7 ⟨rfl, hI8, hE6⟩
    show sx_RP _ _ _ _ _ [.int (-1000000001)] _ _
    refine sx_RP.ret (r := (some (.int (-1000000001)))) rfl rfl ?_
    exact ⟨⟨by rw [(bre_3 (fun z => absurd z.1 (by decide)) (fun z => c1 z.2) (fun z => absurd z.1 (by decide))).1], by rw [(bre_3 (fun z => absurd z.1 (by decide)) (fun z => c1 z.2) (fun z => absurd z.1 (by decide))).2]; exact FMb_el hI hE6.el⟩, hI8, fun a ha => hE6.1 a (Or.inl (by omega))⟩
set_option maxRecDepth 20000 in
set_option maxHeartbeats 4000000 in
theorem B203_2 {xs : Option (List Int32)} {d : Nat} {w : List sx_C} (hI : WI w) (a2 : Int32) : sx_RP xs (d + 7) 203 0 (lv_args 0 [.ref 111, .int 2, .int a2]) [] w (fun r w2 => (r = some (.int (breA (FMb w) 2 a2)) ∧ FMb w2 = breU (FMb w) 2 a2) ∧ WI w2 ∧ ∀ a, a < 111 → w2[a]? = w[a]?) := by
  refine sx_RP.step (pc2 := 1) (ls2 := [(0, .ref 111), (1, .int 2), (2, .int a2)]) (st2 := [.int 2]) (w3 := w) rfl rfl ?_
  refine sx_RP.step (pc2 := 2) (ls2 := [(0, .ref 111), (1, .int 2), (2, .int a2)]) (st2 := [.int 0, .int 2]) (w3 := w) rfl rfl ?_
  refine sx_RP.step (pc2 := 3) (ls2 := [(0, .ref 111), (1, .int 2), (2, .int a2)]) (st2 := [.int 2, .int 0, .int 2]) (w3 := w) rfl rfl ?_
  refine sx_RP.cu (as := [.int 2, .int 0, .int 2]) (rest2 := []) (st3 := [.int 1]) rfl rfl rfl rfl rfl (cx_132p (by decide)) rfl ?_
  refine sx_RP.step (pc2 := 9) (ls2 := [(0, .ref 111), (1, .int 2), (2, .int a2)]) (st2 := []) (w3 := w) rfl rfl ?_
  refine sx_RP.step (pc2 := 10) (ls2 := [(0, .ref 111), (1, .int 2), (2, .int a2)]) (st2 := [.int 2]) (w3 := w) rfl rfl ?_
  refine sx_RP.step (pc2 := 11) (ls2 := [(0, .ref 111), (1, .int 2), (2, .int a2)]) (st2 := [.int a2, .int 2]) (w3 := w) rfl rfl ?_
  rcases Decidable.em ((1 : Int32) ≤ a2 ∧ a2 ≤ 99) with c1 | c1
  · refine sx_RP.cu (as := [.int 2, .int a2]) (rest2 := []) (st3 := [.int 1]) rfl rfl rfl rfl rfl (p204y2 c1) rfl ?_
    refine sx_RP.step (pc2 := 23) (ls2 := [(0, .ref 111), (1, .int 2), (2, .int a2)]) (st2 := []) (w3 := w) rfl rfl ?_
    refine sx_RP.step (pc2 := 24) (ls2 := [(0, .ref 111), (1, .int 2), (2, .int a2)]) (st2 := [.ref 111]) (w3 := w) rfl rfl ?_
    refine sx_RP.gf (v := .ref 112) rfl rfl hI.1.o111 rfl rfl (show _ = 27 from rfl) ?_
    refine sx_RP.step (pc2 := 28) (ls2 := [(0, .ref 111), (1, .int 2), (2, .int a2)]) (st2 := [.int 4, .ref 112]) (w3 := w) rfl rfl ?_
    refine sx_RP.step (pc2 := 29) (ls2 := [(0, .ref 111), (1, .int 2), (2, .int a2)]) (st2 := [.int 2, .int 4, .ref 112]) (w3 := w) rfl rfl ?_
    refine sx_RP.step (pc2 := 30) (ls2 := [(0, .ref 111), (1, .int 2), (2, .int a2)]) (st2 := [.int 6, .ref 112]) (w3 := w) rfl rfl ?_
    refine sx_RP.ild (c := 6) rfl hI.1.a112.1 hI.1.a112.2 (sx_in_nI (show 6 < 172 by omega) (by decide)) (show (nI (6)).toNatClampNeg = 6 from nI_clamp (by omega)) (show _ = 31 from rfl) ?_
    refine sx_RP.step (pc2 := 32) (ls2 := [(3, .int ((ia w 112).getD (6) 0)), (0, .ref 111), (1, .int 2), (2, .int a2)]) (st2 := []) (w3 := w) rfl rfl ?_
    refine sx_RP.step (pc2 := 33) (ls2 := [(3, .int ((ia w 112).getD (6) 0)), (0, .ref 111), (1, .int 2), (2, .int a2)]) (st2 := [.ref 111]) (w3 := w) rfl rfl ?_
    refine sx_RP.gf (v := .ref 112) rfl rfl hI.1.o111 rfl rfl (show _ = 36 from rfl) ?_
    refine sx_RP.step (pc2 := 37) (ls2 := [(3, .int ((ia w 112).getD (6) 0)), (0, .ref 111), (1, .int 2), (2, .int a2)]) (st2 := [.int 4, .ref 112]) (w3 := w) rfl rfl ?_
    refine sx_RP.step (pc2 := 38) (ls2 := [(3, .int ((ia w 112).getD (6) 0)), (0, .ref 111), (1, .int 2), (2, .int a2)]) (st2 := [.int 2, .int 4, .ref 112]) (w3 := w) rfl rfl ?_
    refine sx_RP.step (pc2 := 39) (ls2 := [(3, .int ((ia w 112).getD (6) 0)), (0, .ref 111), (1, .int 2), (2, .int a2)]) (st2 := [.int 6, .ref 112]) (w3 := w) rfl rfl ?_
    refine sx_RP.step (pc2 := 40) (ls2 := [(3, .int ((ia w 112).getD (6) 0)), (0, .ref 111), (1, .int 2), (2, .int a2)]) (st2 := [.int a2, .int 6, .ref 112]) (w3 := w) rfl rfl ?_
    refine sx_RP.xM (k := 6) hI (by decide) rfl (by omega) (eOK_n (by omega)) (show _ = 41 from rfl) (fun w2 hI3 hs4 hv5 => ?_)
    refine sx_RP.step (pc2 := 42) (ls2 := [(3, .int ((ia w 112).getD (6) 0)), (0, .ref 111), (1, .int 2), (2, .int a2)]) (st2 := [.int ((ia w 112).getD (6) 0)]) (w3 := w2) rfl rfl ?_
    refine sx_RP.ret (r := (some (.int ((ia w 112).getD (6) 0)))) rfl rfl ?_
    exact ⟨⟨by rw [(bre_2 ⟨rfl, c1⟩).1]; rfl, by rw [(bre_2 ⟨rfl, c1⟩).2, FMb_row hs4, hv5, show (6 : Nat) = 4 + 2 from rfl, rowB_setF hI.1.a112.2 (by decide) (hI.manyM (by decide))]; rfl⟩, hI3, fun a ha => hs4 a (by omega)⟩
  · refine sx_RP.cu (as := [.int 2, .int a2]) (rest2 := []) (st3 := [.int 0]) rfl rfl rfl rfl rfl (p204n2 c1) rfl ?_
    refine sx_RP.step (pc2 := 17) (ls2 := [(0, .ref 111), (1, .int 2), (2, .int a2)]) (st2 := []) (w3 := w) rfl rfl ?_
    refine sx_RP.step (pc2 := 18) (ls2 := [(0, .ref 111), (1, .int 2), (2, .int a2)]) (st2 := [.ref 111]) (w3 := w) rfl rfl ?_
    refine sx_RP.step (pc2 := 19) (ls2 := [(0, .ref 111), (1, .int 2), (2, .int a2)]) (st2 := [.int 0, .ref 111]) (w3 := w) rfl rfl ?_
    refine sx_RP.callp (as2 := [.ref 111, .int 0]) (rest2 := []) rfl rfl (sx_inv_v2 (mi := 203) (k := 70) (st := [.int 0, .ref 111]) (w := w) rfl rfl hI.1.o111 rfl rfl rfl) rfl rfl rfl (K133_0 hI) (show _ = 22 from rfl) ?_
    rintro r4 w7 ⟨rfl, hI8, hE6⟩
    show sx_RP _ _ _ _ _ [.int (-1000000001)] _ _
    refine sx_RP.ret (r := (some (.int (-1000000001)))) rfl rfl ?_
    exact ⟨⟨by rw [(bre_3 (fun z => absurd z.1 (by decide)) (fun z => absurd z.1 (by decide)) (fun z => c1 z.2)).1], by rw [(bre_3 (fun z => absurd z.1 (by decide)) (fun z => absurd z.1 (by decide)) (fun z => c1 z.2)).2]; exact FMb_el hI hE6.el⟩, hI8, fun a ha => hE6.1 a (Or.inl (by omega))⟩
set_option maxRecDepth 20000 in
set_option maxHeartbeats 4000000 in
theorem B203_n {xs : Option (List Int32)} {d : Nat} {w : List sx_C} (hI : WI w) (a1 a2 : Int32) (hh : ¬ (0 ≤ a1 ∧ a1 ≤ 2)) : sx_RP xs (d + 7) 203 0 (lv_args 0 [.ref 111, .int a1, .int a2]) [] w (fun r w2 => (r = some (.int (breA (FMb w) a1 a2)) ∧ FMb w2 = breU (FMb w) a1 a2) ∧ WI w2 ∧ ∀ a, a < 111 → w2[a]? = w[a]?) := by
  refine sx_RP.step (pc2 := 1) (ls2 := [(0, .ref 111), (1, .int a1), (2, .int a2)]) (st2 := [.int a1]) (w3 := w) rfl rfl ?_
  refine sx_RP.step (pc2 := 2) (ls2 := [(0, .ref 111), (1, .int a1), (2, .int a2)]) (st2 := [.int 0, .int a1]) (w3 := w) rfl rfl ?_
  refine sx_RP.step (pc2 := 3) (ls2 := [(0, .ref 111), (1, .int a1), (2, .int a2)]) (st2 := [.int 2, .int 0, .int a1]) (w3 := w) rfl rfl ?_
  refine sx_RP.cu (as := [.int a1, .int 0, .int 2]) (rest2 := []) (st3 := [.int 0]) rfl rfl rfl rfl rfl (cx_132o hh) rfl ?_
  refine sx_RP.step (pc2 := 17) (ls2 := [(0, .ref 111), (1, .int a1), (2, .int a2)]) (st2 := []) (w3 := w) rfl rfl ?_
  refine sx_RP.step (pc2 := 18) (ls2 := [(0, .ref 111), (1, .int a1), (2, .int a2)]) (st2 := [.ref 111]) (w3 := w) rfl rfl ?_
  refine sx_RP.step (pc2 := 19) (ls2 := [(0, .ref 111), (1, .int a1), (2, .int a2)]) (st2 := [.int 0, .ref 111]) (w3 := w) rfl rfl ?_
  refine sx_RP.callp (as2 := [.ref 111, .int 0]) (rest2 := []) rfl rfl (sx_inv_v2 (mi := 203) (k := 70) (st := [.int 0, .ref 111]) (w := w) rfl rfl hI.1.o111 rfl rfl rfl) rfl rfl rfl (K133_0 hI) (show _ = 22 from rfl) ?_
  rintro r4 w2 ⟨rfl, hI3, hE1⟩
  show sx_RP _ _ _ _ _ [.int (-1000000001)] _ _
  refine sx_RP.ret (r := (some (.int (-1000000001)))) rfl rfl ?_
  exact ⟨⟨by rw [(bre_3 (fun z => hh (by rw [z.1]; decide)) (fun z => hh (by rw [z.1]; decide)) (fun z => hh (by rw [z.1]; decide))).1], by rw [(bre_3 (fun z => hh (by rw [z.1]; decide)) (fun z => hh (by rw [z.1]; decide)) (fun z => hh (by rw [z.1]; decide))).2]; exact FMb_el hI hE1.el⟩, hI3, fun a ha => hE1.1 a (Or.inl (by omega))⟩
theorem B203 {xs : Option (List Int32)} {d : Nat} {w : List sx_C} (hI : WI w) (a1 a2 : Int32) : sx_RP xs (d + 7) 203 0 (lv_args 0 [.ref 111, .int a1, .int a2]) [] w (fun r w2 => (r = some (.int (breA (FMb w) a1 a2)) ∧ FMb w2 = breU (FMb w) a1 a2) ∧ WI w2 ∧ ∀ a, a < 111 → w2[a]? = w[a]?) := by
  by_cases hh : 0 ≤ a1 ∧ a1 ≤ 2
  · rcases in_cases a1 0 2 (m := 0) (n := 2) rfl rfl (by decide) (by decide) with q | ⟨x, h1, h2, rfl⟩
    · exact absurd hh q
    · rcases (show x = 0 ∨ x = 1 ∨ x = 2 by omega) with rfl | rfl | rfl
      · exact B203_0 hI a2
      · exact B203_1 hI a2
      · exact B203_2 hI a2
  · exact B203_n hI a1 a2 hh
set_option maxRecDepth 20000 in
set_option maxHeartbeats 4000000 in
theorem B240 {xs : Option (List Int32)} {d : Nat} {w : List sx_C} (hI : WI w) : sx_RP xs (d + 7) 240 0 (lv_args 0 [.ref 111]) [] w (fun r w2 => (r = some (.int (1)) ∧ FMb w2 = imgU (FMb w)) ∧ WI w2 ∧ ∀ a, a < 111 → w2[a]? = w[a]?) := by
  refine sx_RP.step (pc2 := 1) (ls2 := [(0, .ref 111)]) (st2 := [.ref 111]) (w3 := w) rfl rfl ?_
  refine sx_RP.gf (v := .ref 112) rfl rfl hI.1.o111 rfl rfl (show _ = 4 from rfl) ?_
  refine sx_RP.step (pc2 := 5) (ls2 := [(0, .ref 111)]) (st2 := [.ref 111, .ref 112]) (w3 := w) rfl rfl ?_
  refine sx_RP.gf (v := .ref 113) rfl rfl hI.1.o111 rfl rfl (show _ = 8 from rfl) ?_
  refine sx_RP.callp (as2 := [.ref 112, .ref 113]) (rest2 := []) rfl rfl rfl rfl rfl rfl (K175 hI (a := 112) (b := 113) (by decide) (by decide) (by decide)) (show _ = 11 from rfl) ?_
  rintro r4 w2 ⟨rfl, hI3, hl1⟩
  show sx_RP _ _ _ _ _ [] _ _
  refine sx_RP.step (pc2 := 12) (ls2 := [(0, .ref 111)]) (st2 := [.ref 111]) (w3 := w2) rfl rfl ?_
  refine sx_RP.step (pc2 := 13) (ls2 := [(0, .ref 111)]) (st2 := [.int 1, .ref 111]) (w3 := w2) rfl rfl ?_
  refine sx_RP.xJ (k := 4) hI3 rfl rfl (by decide) rfl ⟨1, by decide, rfl⟩ (show _ = 16 from rfl) (fun w4 hI5 hs6 hv7 hr8 => ?_)
  refine sx_RP.step (pc2 := 17) (ls2 := [(0, .ref 111)]) (st2 := [.int 1]) (w3 := w4) rfl rfl ?_
  refine sx_RP.ret (r := (some (.int 1))) rfl rfl ?_
  refine ⟨⟨rfl, ?_⟩, hI5, fun a ha => (hs6 a (by omega)).trans (hl1.1 a (by omega))⟩
  unfold FMb imgU
  rw [hv7, if_pos rfl, ia_of (hs6 112 (by decide)), ia_of (hl1.1 112 (by decide)), ia_of (hs6 113 (by decide)), hl1.2]
  unfold tapM
  rw [hr8 11 (by decide), fi_same 11 (hl1.1 111 (by decide)), ia_of (hs6 121 (by decide)), ia_of (hl1.1 121 (by decide))]
set_option maxRecDepth 20000 in
set_option maxHeartbeats 4000000 in
theorem B241 {xs : Option (List Int32)} {d : Nat} {w : List sx_C} (hI : WI w) : sx_RP xs (d + 7) 241 0 (lv_args 0 [.ref 111]) [] w (fun r w2 => (r = some (.int (undA (FMb w))) ∧ FMb w2 = undU (FMb w)) ∧ WI w2 ∧ ∀ a, a < 111 → w2[a]? = w[a]?) := by
  rcases kept_01 hI with ek | ek
  · refine sx_RP.step (pc2 := 1) (ls2 := [(0, .ref 111)]) (st2 := [.ref 111]) (w3 := w) rfl rfl ?_
    refine sx_RP.gf (v := .int (fi w 111 4)) rfl rfl hI.1.o111 rfl rfl (show _ = 4 from rfl) ?_
    rw [ek]
    refine sx_RP.step (pc2 := 7) (ls2 := [(0, .ref 111)]) (st2 := []) (w3 := w) rfl rfl ?_
    refine sx_RP.step (pc2 := 8) (ls2 := [(0, .ref 111)]) (st2 := [.ref 111]) (w3 := w) rfl rfl ?_
    refine sx_RP.step (pc2 := 9) (ls2 := [(0, .ref 111)]) (st2 := [.int 3, .ref 111]) (w3 := w) rfl rfl ?_
    refine sx_RP.callp (as2 := [.ref 111, .int 3]) (rest2 := []) rfl rfl (sx_inv_v2 (mi := 241) (k := 70) (st := [.int 3, .ref 111]) (w := w) rfl rfl hI.1.o111 rfl rfl rfl) rfl rfl rfl (K133_3 hI) (show _ = 12 from rfl) ?_
    rintro r4 w2 ⟨rfl, hI3, hE1⟩
    show sx_RP _ _ _ _ _ [.int (-1000000004)] _ _
    refine sx_RP.ret (r := (some (.int (-1000000004)))) rfl rfl ?_
    exact ⟨⟨by unfold undA; rw [if_neg (show ¬ (FMb w).2.1 = 1 by show ¬ fi w 111 4 = 1; rw [ek]; decide)], by unfold undU; rw [if_neg (show ¬ (FMb w).2.1 = 1 by show ¬ fi w 111 4 = 1; rw [ek]; decide)]; exact FMb_el hI hE1.el⟩, hI3, fun a ha => hE1.1 a (Or.inl (by omega))⟩
  · refine sx_RP.step (pc2 := 1) (ls2 := [(0, .ref 111)]) (st2 := [.ref 111]) (w3 := w) rfl rfl ?_
    refine sx_RP.gf (v := .int (fi w 111 4)) rfl rfl hI.1.o111 rfl rfl (show _ = 4 from rfl) ?_
    rw [ek]
    refine sx_RP.step (pc2 := 13) (ls2 := [(0, .ref 111)]) (st2 := []) (w3 := w) rfl rfl ?_
    refine sx_RP.step (pc2 := 14) (ls2 := [(0, .ref 111)]) (st2 := [.ref 111]) (w3 := w) rfl rfl ?_
    refine sx_RP.gf (v := .ref 113) rfl rfl hI.1.o111 rfl rfl (show _ = 17 from rfl) ?_
    refine sx_RP.step (pc2 := 18) (ls2 := [(0, .ref 111)]) (st2 := [.ref 111, .ref 113]) (w3 := w) rfl rfl ?_
    refine sx_RP.gf (v := .ref 112) rfl rfl hI.1.o111 rfl rfl (show _ = 21 from rfl) ?_
    refine sx_RP.callp (as2 := [.ref 113, .ref 112]) (rest2 := []) rfl rfl rfl rfl rfl rfl (K175 hI (a := 113) (b := 112) (by decide) (by decide) (by decide)) (show _ = 24 from rfl) ?_
    rintro r4 w5 ⟨rfl, hI6, hl4⟩
    show sx_RP _ _ _ _ _ [] _ _
    refine sx_RP.step (pc2 := 25) (ls2 := [(0, .ref 111)]) (st2 := [.ref 111]) (w3 := w5) rfl rfl ?_
    refine sx_RP.gf (v := .ref 112) rfl rfl hI6.1.o111 rfl rfl (show _ = 28 from rfl) ?_
    refine sx_RP.step (pc2 := 29) (ls2 := [(0, .ref 111)]) (st2 := [.int 1, .ref 112]) (w3 := w5) rfl rfl ?_
    refine sx_RP.ild (c := 1) rfl hI6.1.a112.1 hI6.1.a112.2 (sx_in_nI (show 1 < 172 by omega) (by decide)) (show (nI 1).toNatClampNeg = 1 from nI_clamp (by omega)) (show _ = 30 from rfl) ?_
    obtain ⟨x7, hx8, ex9⟩ : inR ((ia w5 112).getD 1 0) 10 := (hI6.s (1) (by omega)).1 rfl
    rw [ex9]
    refine sx_RP.ret (r := (some (.int (nI x7)))) rfl rfl ?_
    refine ⟨⟨?_, ?_⟩, hI6, fun a ha => hl4.1 a (by omega)⟩
    · unfold undA FMb
      rw [if_pos ek, if_pos ek]
      show some (Value.int (nI x7)) = some (Value.int (nI (rowB (ia w 113)).1.length))
      rw [← hl4.2]
      unfold rowB
      rw [mkB_len1, ex9, iN_n (by omega)]
    · rw [FMb_row hl4.1, hl4.2]
      unfold undU FMb
      rw [if_pos ek, if_pos ek]
set_option maxRecDepth 20000 in
set_option maxHeartbeats 4000000 in
theorem B242 {xs : Option (List Int32)} {d : Nat} {w : List sx_C} (hI : WI w) : sx_RP xs (d + 7) 242 0 (lv_args 0 [.ref 111]) [] w (fun r w2 => (r = some (.int ((FMb w).2.1)) ∧ FMb w2 = teaU (FMb w)) ∧ WI w2 ∧ ∀ a, a < 111 → w2[a]? = w[a]?) := by
  rcases kept_01 hI with ek | ek
  · refine sx_RP.step (pc2 := 1) (ls2 := [(0, .ref 111)]) (st2 := [.ref 111]) (w3 := w) rfl rfl ?_
    refine sx_RP.gf (v := .int (fi w 111 4)) rfl rfl hI.1.o111 rfl rfl (show _ = 4 from rfl) ?_
    rw [ek]
    refine sx_RP.step (pc2 := 11) (ls2 := [(0, .ref 111)]) (st2 := []) (w3 := w) rfl rfl ?_
    refine sx_RP.step (pc2 := 12) (ls2 := [(0, .ref 111)]) (st2 := [.int 0]) (w3 := w) rfl rfl ?_
    refine sx_RP.step (pc2 := 13) (ls2 := [(1, .int 0), (0, .ref 111)]) (st2 := []) (w3 := w) rfl rfl ?_
    refine sx_RP.step (pc2 := 14) (ls2 := [(1, .int 0), (0, .ref 111)]) (st2 := [.ref 111]) (w3 := w) rfl rfl ?_
    refine sx_RP.step (pc2 := 15) (ls2 := [(1, .int 0), (0, .ref 111)]) (st2 := [.int 0, .ref 111]) (w3 := w) rfl rfl ?_
    refine sx_RP.xJ (k := 4) hI rfl rfl (by decide) rfl ⟨0, by decide, rfl⟩ (show _ = 18 from rfl) (fun w1 hI2 hs3 hv4 hr5 => ?_)
    refine sx_RP.step (pc2 := 19) (ls2 := [(1, .int 0), (0, .ref 111)]) (st2 := [.int 0]) (w3 := w1) rfl rfl ?_
    refine sx_RP.ret (r := (some (.int 0))) rfl rfl ?_
    refine ⟨⟨by show some (Value.int 0) = some (Value.int (fi w 111 4)); rw [ek], ?_⟩, hI2, fun a ha => hs3 a (by omega)⟩
    unfold FMb teaU
    rw [hv4, if_neg (by decide), ia_of (hs3 112 (by decide))]
    unfold tapM
    rw [hr5 11 (by decide), ia_of (hs3 121 (by decide))]
  · refine sx_RP.step (pc2 := 1) (ls2 := [(0, .ref 111)]) (st2 := [.ref 111]) (w3 := w) rfl rfl ?_
    refine sx_RP.gf (v := .int (fi w 111 4)) rfl rfl hI.1.o111 rfl rfl (show _ = 4 from rfl) ?_
    rw [ek]
    refine sx_RP.step (pc2 := 7) (ls2 := [(0, .ref 111)]) (st2 := []) (w3 := w) rfl rfl ?_
    refine sx_RP.step (pc2 := 8) (ls2 := [(0, .ref 111)]) (st2 := [.int 1]) (w3 := w) rfl rfl ?_
    refine sx_RP.step (pc2 := 12) (ls2 := [(0, .ref 111)]) (st2 := [.int 1]) (w3 := w) rfl rfl ?_
    refine sx_RP.step (pc2 := 13) (ls2 := [(1, .int 1), (0, .ref 111)]) (st2 := []) (w3 := w) rfl rfl ?_
    refine sx_RP.step (pc2 := 14) (ls2 := [(1, .int 1), (0, .ref 111)]) (st2 := [.ref 111]) (w3 := w) rfl rfl ?_
    refine sx_RP.step (pc2 := 15) (ls2 := [(1, .int 1), (0, .ref 111)]) (st2 := [.int 0, .ref 111]) (w3 := w) rfl rfl ?_
    refine sx_RP.xJ (k := 4) hI rfl rfl (by decide) rfl ⟨0, by decide, rfl⟩ (show _ = 18 from rfl) (fun w6 hI7 hs8 hv9 hr10 => ?_)
    refine sx_RP.step (pc2 := 19) (ls2 := [(1, .int 1), (0, .ref 111)]) (st2 := [.int 1]) (w3 := w6) rfl rfl ?_
    refine sx_RP.ret (r := (some (.int 1))) rfl rfl ?_
    refine ⟨⟨by show some (Value.int 1) = some (Value.int (fi w 111 4)); rw [ek], ?_⟩, hI7, fun a ha => hs8 a (by omega)⟩
    unfold FMb teaU
    rw [hv9, if_neg (by decide), ia_of (hs8 112 (by decide))]
    unfold tapM
    rw [hr10 11 (by decide), ia_of (hs8 121 (by decide))]
set_option maxRecDepth 20000 in
set_option maxHeartbeats 4000000 in
theorem B209 {xs : Option (List Int32)} {d : Nat} {w : List sx_C} (hI : WI w) : sx_RP xs (d + 7) 209 0 (lv_args 0 [.ref 111]) [] w (fun r w2 => (r = some (.int (nI (FMb w).2.2.2.length)) ∧ FMb w2 = wipU (FMb w)) ∧ WI w2 ∧ ∀ a, a < 111 → w2[a]? = w[a]?) := by
  obtain ⟨n, hn, en⟩ := hI.m.2.1
  refine sx_RP.step (pc2 := 1) (ls2 := [(0, .ref 111)]) (st2 := [.ref 111]) (w3 := w) rfl rfl ?_
  refine sx_RP.gf (v := .int (fi w 111 11)) rfl rfl hI.1.o111 rfl rfl (show _ = 4 from rfl) ?_
  rw [en]
  refine sx_RP.step (pc2 := 5) (ls2 := [(1, .int (nI n)), (0, .ref 111)]) (st2 := []) (w3 := w) rfl rfl ?_
  refine sx_RP.step (pc2 := 6) (ls2 := [(1, .int (nI n)), (0, .ref 111)]) (st2 := [.ref 111]) (w3 := w) rfl rfl ?_
  refine sx_RP.step (pc2 := 7) (ls2 := [(1, .int (nI n)), (0, .ref 111)]) (st2 := [.int 0, .ref 111]) (w3 := w) rfl rfl ?_
  refine sx_RP.xJ (k := 11) hI rfl rfl (by decide) rfl ⟨0, by decide, rfl⟩ (show _ = 10 from rfl) (fun w1 hI2 hs3 hv4 hr5 => ?_)
  refine sx_RP.step (pc2 := 11) (ls2 := [(1, .int (nI n)), (0, .ref 111)]) (st2 := [.int (nI n)]) (w3 := w1) rfl rfl ?_
  refine sx_RP.ret (r := (some (.int (nI n)))) rfl rfl ?_
  refine ⟨⟨by rw [tapM_len en hn], ?_⟩, hI2, fun a ha => hs3 a (by omega)⟩
  unfold FMb wipU
  rw [tapM_nil hv4, hr5 4 (by decide), ia_of (hs3 112 (by decide)), ia_of (hs3 113 (by decide))]
