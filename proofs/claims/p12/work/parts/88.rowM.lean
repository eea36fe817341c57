-- the reference's row
theorem gd_ne {l : List Int32} {i k : Nat} {v : Int32} (h : k ≠ i) : (l.set i v).getD k 0 = l.getD k 0 := by
  rw [List.getD_eq_getElem?_getD, List.getElem?_set_ne (Ne.symm h), ← List.getD_eq_getElem?_getD]
theorem gd_eq {l : List Int32} {i : Nat} {v : Int32} (h : i < l.length) : (l.set i v).getD i 0 = v := by rw [gd_set h, if_pos rfl]
theorem Same.tr {a : Nat} {w w1 w2 : List sx_C} (h : Same a w w1) (h2 : Same a w1 w2) : Same a w w2 := fun b hb => (h2 b hb).trans (h b hb)
theorem FMb_row {w w2 : List sx_C} (hs : Same 112 w w2) : FMb w2 = (rowB (ia w2 112), (FMb w).2) := by
  unfold FMb
  rw [fi_same 4 (hs 111 (by decide)), ia_of (hs 113 (by decide)), tapM_same (hs 111 (by decide)) (hs 121 (by decide))]
theorem FMb_len {w : List sx_C} {n : Nat} (h : (ia w 112).getD 1 0 = nI n) (hn : n ≤ 10) : (FMb w).1.1.length = n := by
  show (rowB (ia w 112)).1.length = n
  unfold rowB
  rw [mkB_len1, h, iN_n (by omega)]
theorem FMb_dlen {w : List sx_C} {n : Nat} (h : (ia w 112).getD 2 0 = nI n) (hn : n ≤ 10) : (FMb w).1.2.1.length = n := by
  show (rowB (ia w 112)).2.1.length = n
  unfold rowB
  rw [mkB_len2, h, iN_n (by omega)]
theorem FMb_kind {w : List sx_C} {n x : Nat} (en : (ia w 112).getD 1 0 = nI n) (hn : n ≤ 10) (hx : x < n) : (FMb w).1.1.getD (iN (nI x)) 0 = (ia w 112).getD (103 + 6 * x) 0 := by
  rw [iN_n (by omega)]
  show (rowB (ia w 112)).1.getD x 0 = _
  unfold rowB
  exact mkB_at1 (by rw [en, iN_n (by omega)]; exact hx)
theorem FMb_dish {w : List sx_C} {m x : Nat} (em : (ia w 112).getD 2 0 = nI m) (hm : m ≤ 9) (hx : x < m) : (FMb w).1.2.1.getD (iN (nI x)) 0 = (ia w 112).getD (163 + x) 0 := by
  rw [iN_n (by omega)]
  show (rowB (ia w 112)).2.1.getD x 0 = _
  unfold rowB
  exact mkB_at2 (by rw [em, iN_n (by omega)]; exact hx)
def addRow (l : List Int32) (n : Nat) (k s c y : Int32) : List Int32 := ((((((l.set 1 (nI (n + 1))).set (103 + 6 * n + 0) k).set (103 + 6 * n + 1) s).set (103 + 6 * n + 2) c).set (103 + 6 * n + 3) y).set (103 + 6 * n + 4) 0).set (103 + 6 * n + 5) 0
theorem addRow_b {l : List Int32} {n : Nat} {k s c y : Int32} (hl : l.length = 172) (en : l.getD 1 0 = nI n) (hn : n ≤ 9) : rowB (addRow l n k s c y) = addK k (rowB l) := by
  unfold rowB
  have g1 : (addRow l n k s c y).getD 1 0 = nI (n + 1) := by
    unfold addRow
    rw [gd_ne (by omega), gd_ne (by omega), gd_ne (by omega), gd_ne (by omega), gd_ne (by omega), gd_ne (by omega), gd_eq (by omega)]
  have go : ∀ q, q ≠ 1 → (q < 103 + 6 * n ∨ 103 + 6 * n + 6 ≤ q) → (addRow l n k s c y).getD q 0 = l.getD q 0 := by
    intro q h1 h2
    unfold addRow
    rw [gd_ne (by omega), gd_ne (by omega), gd_ne (by omega), gd_ne (by omega), gd_ne (by omega), gd_ne (by omega), gd_ne (by omega)]
  rw [g1, en, iN_n (by omega), iN_n (by omega), go 2 (by omega) (by omega), go 4 (by omega) (by omega), go 5 (by omega) (by omega), go 6 (by omega) (by omega)]
  refine mkB_addK (fun i hi => go _ (by omega) (by omega)) ?_ (fun i hi => go _ (by omega) (by omega))
  show (addRow l n k s c y).getD (103 + 6 * n) 0 = k
  unfold addRow
  rw [gd_ne (by omega), gd_ne (by omega), gd_ne (by omega), gd_ne (by omega), gd_ne (by omega), show 103 + 6 * n = 103 + 6 * n + 0 from rfl, gd_eq (by rw [List.length_set]; omega)]
theorem rowB_setK {l : List Int32} {x n : Nat} {v : Int32} (hl : l.length = 172) (en : l.getD 1 0 = nI n) (hn : n ≤ 10) (hx : x < n) : rowB (l.set (103 + 6 * x + 0) v) = setK x v (rowB l) := by
  unfold rowB
  rw [gd_ne (by omega), gd_ne (by omega), gd_ne (by omega), gd_ne (by omega), gd_ne (by omega), en, iN_n (by omega)]
  exact mkB_setK (fun i hi hne => gd_ne (by omega)) (fun _ => gd_eq (by omega)) (fun i _ => gd_ne (by omega))
theorem rowB_addD {l : List Int32} {n : Nat} {v : Int32} (hl : l.length = 172) (em : l.getD 2 0 = nI n) (hn : n ≤ 8) (hm : iN (l.getD 1 0) ≤ 10) : rowB ((l.set (163 + n) v).set 2 (nI (n + 1))) = addD v (rowB l) := by
  unfold rowB
  rw [gd_ne (k := 1) (by omega), gd_ne (k := 1) (by omega), gd_eq (i := 2) (by rw [List.length_set]; omega), gd_ne (k := 4) (by omega), gd_ne (k := 4) (by omega), gd_ne (k := 5) (by omega), gd_ne (k := 5) (by omega), gd_ne (k := 6) (by omega), gd_ne (k := 6) (by omega), em, iN_n (by omega), iN_n (by omega)]
  exact mkB_addD (fun i hi => by rw [gd_ne (by omega), gd_ne (by omega)]) (fun i hi => by rw [gd_ne (by omega), gd_ne (by omega)]) (by rw [gd_ne (by omega), gd_eq (by omega)])
theorem rowB_setD {l : List Int32} {x n : Nat} {v : Int32} (hl : l.length = 172) (em : l.getD 2 0 = nI n) (hn : n ≤ 9) (hx : x < n) (hm : iN (l.getD 1 0) ≤ 10) : rowB (l.set (163 + x) v) = setD x v (rowB l) := by
  unfold rowB
  rw [gd_ne (by omega), gd_ne (by omega), gd_ne (by omega), gd_ne (by omega), gd_ne (by omega), em, iN_n (by omega)]
  exact mkB_setD (fun i hi => gd_ne (by omega)) (fun i hi hne => gd_ne (by omega)) (fun _ => gd_eq (by omega))
theorem rowB_setF {l : List Int32} {k : Nat} {v : Int32} (hl : l.length = 172) (hk : k = 0 ∨ k = 1 ∨ k = 2) (hm : iN (l.getD 1 0) ≤ 10) : rowB (l.set (4 + k) v) = (if k = 0 then setO v (rowB l) else if k = 1 then setM v (rowB l) else setR v (rowB l)) := by
  have hkd : ∀ i, i < iN (l.getD 1 0) → (l.set (4 + k) v).getD (103 + 6 * i) 0 = l.getD (103 + 6 * i) 0 := fun i hi => gd_ne (by omega)
  have hdd : ∀ i, i < iN (l.getD 2 0) → (l.set (4 + k) v).getD (163 + i) 0 = l.getD (163 + i) 0 := fun i hi => gd_ne (by omega)
  unfold rowB
  rw [gd_ne (k := 1) (by omega), gd_ne (k := 2) (by omega)]
  rcases hk with rfl | rfl | rfl
  · rw [if_pos rfl, gd_eq (i := 4 + 0) (by omega), gd_ne (k := 5) (by omega), gd_ne (k := 6) (by omega)]
    exact mkB_congr rfl hkd rfl hdd rfl rfl rfl
  · rw [if_neg (by decide), if_pos rfl, gd_ne (k := 4) (by omega), show (5 : Nat) = 4 + 1 from rfl, gd_eq (i := 4 + 1) (by omega), gd_ne (k := 6) (by omega)]
    exact mkB_congr rfl hkd rfl hdd rfl rfl rfl
  · rw [if_neg (by decide), if_neg (by decide), gd_ne (k := 4) (by omega), gd_ne (k := 5) (by omega), show (6 : Nat) = 4 + 2 from rfl, gd_eq (i := 4 + 2) (by omega)]
    exact mkB_congr rfl hkd rfl hdd rfl rfl rfl
set_option maxRecDepth 20000 in
set_option maxHeartbeats 4000000 in
theorem x138 {xs : Option (List Int32)} {d g c : Nat} {w : List sx_C} (hI : WI w) (hg : g < 10) (hc : c < 6) : sx_RU xs d 138 0 (lv_args 0 [.ref 111, .int (nI g), .int (nI c)]) [] w (some (.int ((ia w 112).getD (103 + 6 * g + c) 0))) w := by
  have h : sx_RP xs d 138 0 (lv_args 0 [.ref 111, .int (nI g), .int (nI c)]) [] w (fun r w2 => r = some (.int ((ia w 112).getD (103 + 6 * g + c) 0)) ∧ w2 = w) := by
    refine sx_RP.step (pc2 := 1) (ls2 := [(0, .ref 111), (1, .int (nI g)), (2, .int (nI c))]) (st2 := [.ref 111]) (w3 := w) rfl rfl ?_
    refine sx_RP.gf (v := .ref 112) rfl rfl hI.1.o111 rfl rfl (show _ = 4 from rfl) ?_
    refine sx_RP.step (pc2 := 6) (ls2 := [(0, .ref 111), (1, .int (nI g)), (2, .int (nI c))]) (st2 := [.int 103, .ref 112]) (w3 := w) rfl rfl ?_
    refine sx_RP.step (pc2 := 8) (ls2 := [(0, .ref 111), (1, .int (nI g)), (2, .int (nI c))]) (st2 := [.int 6, .int 103, .ref 112]) (w3 := w) rfl rfl ?_
    refine sx_RP.step (pc2 := 9) (ls2 := [(0, .ref 111), (1, .int (nI g)), (2, .int (nI c))]) (st2 := [.int (nI g), .int 6, .int 103, .ref 112]) (w3 := w) rfl rfl ?_
    refine sx_RP.step (pc2 := 10) (ls2 := [(0, .ref 111), (1, .int (nI g)), (2, .int (nI c))]) (st2 := [.int (6 * (nI g)), .int 103, .ref 112]) (w3 := w) rfl rfl ?_
    rw [show (6 * (nI g) : Int32) = nI (6 * g) from nI_mul 6 g]
    refine sx_RP.step (pc2 := 11) (ls2 := [(0, .ref 111), (1, .int (nI g)), (2, .int (nI c))]) (st2 := [.int (103 + (nI (6 * g))), .ref 112]) (w3 := w) rfl rfl ?_
    rw [show (103 + (nI (6 * g)) : Int32) = nI (103 + (6 * g)) from nI_add 103 (6 * g)]
    refine sx_RP.step (pc2 := 12) (ls2 := [(0, .ref 111), (1, .int (nI g)), (2, .int (nI c))]) (st2 := [.int (nI c), .int (nI (103 + (6 * g))), .ref 112]) (w3 := w) rfl rfl ?_
    refine sx_RP.step (pc2 := 13) (ls2 := [(0, .ref 111), (1, .int (nI g)), (2, .int (nI c))]) (st2 := [.int ((nI (103 + (6 * g))) + (nI c)), .ref 112]) (w3 := w) rfl rfl ?_
    rw [show ((nI (103 + (6 * g))) + (nI c) : Int32) = nI ((103 + (6 * g)) + c) from nI_add (103 + (6 * g)) c]
    refine sx_RP.ild (c := ((103 + (6 * g)) + c)) rfl hI.1.a112.1 hI.1.a112.2 (sx_in_nI (show ((103 + (6 * g)) + c) < 172 by omega) (by decide)) (nI_clamp (by omega)) (show _ = 14 from rfl) ?_
    refine sx_RP.ret (r := (some (.int ((ia w 112).getD (((103 + (6 * g)) + c)) 0)))) rfl rfl ?_
    exact ⟨rfl, rfl⟩
  obtain ⟨r, w2, h1, rfl, rfl⟩ := h
  exact h1
set_option maxRecDepth 20000 in
set_option maxHeartbeats 4000000 in
theorem X154 {xs : Option (List Int32)} {d : Nat} {w : List sx_C} (hI : WI w) {g c : Nat} (hg : g < 10) (hc : c < 6) {v : Int32} (hv : eOK (103 + 6 * g + c) v) : sx_RP xs (d + 1) 154 0 (lv_args 0 [.ref 111, .int (nI g), .int (nI c), .int v]) [] w (fun r w2 => (r = some (.int ((ia w 112).getD (103 + 6 * g + c) 0)) ∧ ia w2 112 = (ia w 112).set (103 + 6 * g + c) v) ∧ WI w2 ∧ Same 112 w w2) := by
  refine sx_RP.step (pc2 := 1) (ls2 := [(0, .ref 111), (1, .int (nI g)), (2, .int (nI c)), (3, .int v)]) (st2 := [.ref 111]) (w3 := w) rfl rfl ?_
  refine sx_RP.step (pc2 := 2) (ls2 := [(0, .ref 111), (1, .int (nI g)), (2, .int (nI c)), (3, .int v)]) (st2 := [.int (nI g), .ref 111]) (w3 := w) rfl rfl ?_
  refine sx_RP.step (pc2 := 3) (ls2 := [(0, .ref 111), (1, .int (nI g)), (2, .int (nI c)), (3, .int v)]) (st2 := [.int (nI c), .int (nI g), .ref 111]) (w3 := w) rfl rfl ?_
  refine sx_RP.cu (as := [.ref 111, .int (nI g), .int (nI c)]) (rest2 := []) (st3 := [.int ((ia w 112).getD (103 + 6 * g + c) 0)]) rfl rfl (sx_inv_v2 (mi := 154) (k := 59) (st := [.int (nI c), .int (nI g), .ref 111]) (w := w) rfl rfl hI.1.o111 rfl rfl rfl) rfl rfl (x138 hI hg hc) rfl ?_
  refine sx_RP.step (pc2 := 8) (ls2 := [(4, .int ((ia w 112).getD (103 + 6 * g + c) 0)), (0, .ref 111), (1, .int (nI g)), (2, .int (nI c)), (3, .int v)]) (st2 := []) (w3 := w) rfl rfl ?_
  refine sx_RP.step (pc2 := 9) (ls2 := [(4, .int ((ia w 112).getD (103 + 6 * g + c) 0)), (0, .ref 111), (1, .int (nI g)), (2, .int (nI c)), (3, .int v)]) (st2 := [.ref 111]) (w3 := w) rfl rfl ?_
  refine sx_RP.gf (v := .ref 112) rfl rfl hI.1.o111 rfl rfl (show _ = 12 from rfl) ?_
  refine sx_RP.step (pc2 := 14) (ls2 := [(4, .int ((ia w 112).getD (103 + 6 * g + c) 0)), (0, .ref 111), (1, .int (nI g)), (2, .int (nI c)), (3, .int v)]) (st2 := [.int 103, .ref 112]) (w3 := w) rfl rfl ?_
  refine sx_RP.step (pc2 := 16) (ls2 := [(4, .int ((ia w 112).getD (103 + 6 * g + c) 0)), (0, .ref 111), (1, .int (nI g)), (2, .int (nI c)), (3, .int v)]) (st2 := [.int 6, .int 103, .ref 112]) (w3 := w) rfl rfl ?_
  refine sx_RP.step (pc2 := 17) (ls2 := [(4, .int ((ia w 112).getD (103 + 6 * g + c) 0)), (0, .ref 111), (1, .int (nI g)), (2, .int (nI c)), (3, .int v)]) (st2 := [.int (nI g), .int 6, .int 103, .ref 112]) (w3 := w) rfl rfl ?_
  refine sx_RP.step (pc2 := 18) (ls2 := [(4, .int ((ia w 112).getD (103 + 6 * g + c) 0)), (0, .ref 111), (1, .int (nI g)), (2, .int (nI c)), (3, .int v)]) (st2 := [.int (6 * (nI g)), .int 103, .ref 112]) (w3 := w) rfl rfl ?_
  rw [show (6 * (nI g) : Int32) = nI (6 * g) from nI_mul 6 g]
  refine sx_RP.step (pc2 := 19) (ls2 := [(4, .int ((ia w 112).getD (103 + 6 * g + c) 0)), (0, .ref 111), (1, .int (nI g)), (2, .int (nI c)), (3, .int v)]) (st2 := [.int (103 + (nI (6 * g))), .ref 112]) (w3 := w) rfl rfl ?_
  rw [show (103 + (nI (6 * g)) : Int32) = nI (103 + (6 * g)) from nI_add 103 (6 * g)]
  refine sx_RP.step (pc2 := 20) (ls2 := [(4, .int ((ia w 112).getD (103 + 6 * g + c) 0)), (0, .ref 111), (1, .int (nI g)), (2, .int (nI c)), (3, .int v)]) (st2 := [.int (nI c), .int (nI (103 + (6 * g))), .ref 112]) (w3 := w) rfl rfl ?_
  refine sx_RP.step (pc2 := 21) (ls2 := [(4, .int ((ia w 112).getD (103 + 6 * g + c) 0)), (0, .ref 111), (1, .int (nI g)), (2, .int (nI c)), (3, .int v)]) (st2 := [.int ((nI (103 + (6 * g))) + (nI c)), .ref 112]) (w3 := w) rfl rfl ?_
  rw [show ((nI (103 + (6 * g))) + (nI c) : Int32) = nI ((103 + (6 * g)) + c) from nI_add (103 + (6 * g)) c]
  refine sx_RP.step (pc2 := 22) (ls2 := [(4, .int ((ia w 112).getD (103 + 6 * g + c) 0)), (0, .ref 111), (1, .int (nI g)), (2, .int (nI c)), (3, .int v)]) (st2 := [.int v, .int (nI ((103 + (6 * g)) + c)), .ref 112]) (w3 := w) rfl rfl ?_
  refine sx_RP.xM (k := ((103 + (6 * g)) + c)) hI (by decide) rfl (by omega) hv (show _ = 23 from rfl) (fun w1 hI2 hs3 hv4 => ?_)
  refine sx_RP.step (pc2 := 25) (ls2 := [(4, .int ((ia w 112).getD (103 + 6 * g + c) 0)), (0, .ref 111), (1, .int (nI g)), (2, .int (nI c)), (3, .int v)]) (st2 := [.int ((ia w 112).getD (103 + 6 * g + c) 0)]) (w3 := w1) rfl rfl ?_
  refine sx_RP.ret (r := (some (.int ((ia w 112).getD (103 + 6 * g + c) 0)))) rfl rfl ?_
  exact ⟨⟨rfl, hv4⟩, hI2, hs3⟩
theorem Same.rf {a : Nat} {w : List sx_C} : Same a w w := fun _ _ => rfl
set_option maxRecDepth 20000 in
set_option maxHeartbeats 4000000 in
theorem X153 {xs : Option (List Int32)} {d : Nat} {w : List sx_C} (hI : WI w) {n k s c y : Nat} (hn : n ≤ 9) (en : (ia w 112).getD 1 0 = nI n) (hk : k ≤ 5) (hs : s ≤ 1) (hc : c < 48) (hy : y ≤ 3) : sx_RP xs (d + 2) 153 0 (lv_args 0 [.ref 111, .int (nI k), .int (nI s), .int (nI c), .int (nI y)]) [] w (fun r w2 => (r = none ∧ ia w2 112 = addRow (ia w 112) n (nI k) (nI s) (nI c) (nI y)) ∧ WI w2 ∧ Same 112 w w2) := by
  refine sx_RP.step (pc2 := 1) (ls2 := [(0, .ref 111), (1, .int (nI k)), (2, .int (nI s)), (3, .int (nI c)), (4, .int (nI y))]) (st2 := [.ref 111]) (w3 := w) rfl rfl ?_
  refine sx_RP.gf (v := .ref 112) rfl rfl hI.1.o111 rfl rfl (show _ = 4 from rfl) ?_
  refine sx_RP.step (pc2 := 5) (ls2 := [(0, .ref 111), (1, .int (nI k)), (2, .int (nI s)), (3, .int (nI c)), (4, .int (nI y))]) (st2 := [.int 1, .ref 112]) (w3 := w) rfl rfl ?_
  refine sx_RP.ild (c := 1) rfl hI.1.a112.1 hI.1.a112.2 (sx_in_nI (show 1 < 172 by omega) (by decide)) (show (nI 1).toNatClampNeg = 1 from nI_clamp (by omega)) (show _ = 6 from rfl) ?_
  rw [en]
  refine sx_RP.step (pc2 := 8) (ls2 := [(5, .int (nI n)), (0, .ref 111), (1, .int (nI k)), (2, .int (nI s)), (3, .int (nI c)), (4, .int (nI y))]) (st2 := []) (w3 := w) rfl rfl ?_
  refine sx_RP.step (pc2 := 9) (ls2 := [(5, .int (nI n)), (0, .ref 111), (1, .int (nI k)), (2, .int (nI s)), (3, .int (nI c)), (4, .int (nI y))]) (st2 := [.ref 111]) (w3 := w) rfl rfl ?_
  refine sx_RP.gf (v := .ref 112) rfl rfl hI.1.o111 rfl rfl (show _ = 12 from rfl) ?_
  refine sx_RP.step (pc2 := 13) (ls2 := [(5, .int (nI n)), (0, .ref 111), (1, .int (nI k)), (2, .int (nI s)), (3, .int (nI c)), (4, .int (nI y))]) (st2 := [.int 1, .ref 112]) (w3 := w) rfl rfl ?_
  refine sx_RP.step (pc2 := 14) (ls2 := [(5, .int (nI n)), (0, .ref 111), (1, .int (nI k)), (2, .int (nI s)), (3, .int (nI c)), (4, .int (nI y))]) (st2 := [.int 1, .ref 112, .int 1, .ref 112]) (w3 := w) rfl rfl ?_
  refine sx_RP.ild (c := 1) rfl hI.1.a112.1 hI.1.a112.2 (sx_in_nI (show 1 < 172 by omega) (by decide)) (show (nI 1).toNatClampNeg = 1 from nI_clamp (by omega)) (show _ = 15 from rfl) ?_
  rw [en]
  refine sx_RP.step (pc2 := 16) (ls2 := [(5, .int (nI n)), (0, .ref 111), (1, .int (nI k)), (2, .int (nI s)), (3, .int (nI c)), (4, .int (nI y))]) (st2 := [.int 1, .int (nI n), .int 1, .ref 112]) (w3 := w) rfl rfl ?_
  refine sx_RP.step (pc2 := 17) (ls2 := [(5, .int (nI n)), (0, .ref 111), (1, .int (nI k)), (2, .int (nI s)), (3, .int (nI c)), (4, .int (nI y))]) (st2 := [.int ((nI n) + 1), .int 1, .ref 112]) (w3 := w) rfl rfl ?_
  rw [show ((nI n) + 1 : Int32) = nI (n + 1) from nI_add n 1]
  refine sx_RP.xM (k := 1) hI (by decide) rfl (by omega) (eOK_1 (inR.n (show (n + 1) ≤ 10 by omega))) (show _ = 18 from rfl) (fun w1 hI2 hs3 hv4 => ?_)
  have ex5 : (ia w1 112).getD 1 0 = nI (n + 1) := by rw [hv4, gd_eq (by rw [hI.1.a112.2]; omega)]
  refine sx_RP.step (pc2 := 19) (ls2 := [(5, .int (nI n)), (0, .ref 111), (1, .int (nI k)), (2, .int (nI s)), (3, .int (nI c)), (4, .int (nI y))]) (st2 := [.ref 111]) (w3 := w1) rfl rfl ?_
  refine sx_RP.step (pc2 := 21) (ls2 := [(5, .int (nI n)), (0, .ref 111), (1, .int (nI k)), (2, .int (nI s)), (3, .int (nI c)), (4, .int (nI y))]) (st2 := [.int (nI n), .ref 111]) (w3 := w1) rfl rfl ?_
  refine sx_RP.step (pc2 := 22) (ls2 := [(5, .int (nI n)), (0, .ref 111), (1, .int (nI k)), (2, .int (nI s)), (3, .int (nI c)), (4, .int (nI y))]) (st2 := [.int 0, .int (nI n), .ref 111]) (w3 := w1) rfl rfl ?_
  refine sx_RP.step (pc2 := 23) (ls2 := [(5, .int (nI n)), (0, .ref 111), (1, .int (nI k)), (2, .int (nI s)), (3, .int (nI c)), (4, .int (nI y))]) (st2 := [.int (nI k), .int 0, .int (nI n), .ref 111]) (w3 := w1) rfl rfl ?_
  refine sx_RP.callp (as2 := [.ref 111, .int (nI n), .int 0, .int (nI k)]) (rest2 := []) rfl rfl (sx_inv_v2 (mi := 153) (k := 110) (st := [.int (nI k), .int 0, .int (nI n), .ref 111]) (w := w1) rfl rfl hI2.1.o111 rfl rfl rfl) rfl rfl rfl (X154 (c := 0) hI2 (show n < 10 by omega) (by decide) (eOK_g (g := n) (c := 0) (by omega) (by decide) (inR.n (show k ≤ 5 by omega)))) (show _ = 26 from rfl) ?_
  rintro r4 w8 ⟨⟨rfl, hv6⟩, hI9, hs7⟩
  show sx_RP _ _ _ _ _ [.int ((ia w1 112).getD (103 + 6 * n + 0) 0)] _ _
  refine sx_RP.step (pc2 := 27) (ls2 := [(5, .int (nI n)), (0, .ref 111), (1, .int (nI k)), (2, .int (nI s)), (3, .int (nI c)), (4, .int (nI y))]) (st2 := []) (w3 := w8) rfl rfl ?_
  refine sx_RP.step (pc2 := 28) (ls2 := [(5, .int (nI n)), (0, .ref 111), (1, .int (nI k)), (2, .int (nI s)), (3, .int (nI c)), (4, .int (nI y))]) (st2 := [.ref 111]) (w3 := w8) rfl rfl ?_
  refine sx_RP.step (pc2 := 30) (ls2 := [(5, .int (nI n)), (0, .ref 111), (1, .int (nI k)), (2, .int (nI s)), (3, .int (nI c)), (4, .int (nI y))]) (st2 := [.int (nI n), .ref 111]) (w3 := w8) rfl rfl ?_
  refine sx_RP.step (pc2 := 31) (ls2 := [(5, .int (nI n)), (0, .ref 111), (1, .int (nI k)), (2, .int (nI s)), (3, .int (nI c)), (4, .int (nI y))]) (st2 := [.int 1, .int (nI n), .ref 111]) (w3 := w8) rfl rfl ?_
  refine sx_RP.step (pc2 := 32) (ls2 := [(5, .int (nI n)), (0, .ref 111), (1, .int (nI k)), (2, .int (nI s)), (3, .int (nI c)), (4, .int (nI y))]) (st2 := [.int (nI s), .int 1, .int (nI n), .ref 111]) (w3 := w8) rfl rfl ?_
  refine sx_RP.callp (as2 := [.ref 111, .int (nI n), .int 1, .int (nI s)]) (rest2 := []) rfl rfl (sx_inv_v2 (mi := 153) (k := 110) (st := [.int (nI s), .int 1, .int (nI n), .ref 111]) (w := w8) rfl rfl hI9.1.o111 rfl rfl rfl) rfl rfl rfl (X154 (c := 1) hI9 (show n < 10 by omega) (by decide) (eOK_g (g := n) (c := 1) (by omega) (by decide) (inR.n (show s ≤ 1 by omega)))) (show _ = 35 from rfl) ?_
  rintro r4 w12 ⟨⟨rfl, hv10⟩, hI13, hs11⟩
  show sx_RP _ _ _ _ _ [.int ((ia w8 112).getD (103 + 6 * n + 1) 0)] _ _
  refine sx_RP.step (pc2 := 36) (ls2 := [(5, .int (nI n)), (0, .ref 111), (1, .int (nI k)), (2, .int (nI s)), (3, .int (nI c)), (4, .int (nI y))]) (st2 := []) (w3 := w12) rfl rfl ?_
  refine sx_RP.step (pc2 := 37) (ls2 := [(5, .int (nI n)), (0, .ref 111), (1, .int (nI k)), (2, .int (nI s)), (3, .int (nI c)), (4, .int (nI y))]) (st2 := [.ref 111]) (w3 := w12) rfl rfl ?_
  refine sx_RP.step (pc2 := 39) (ls2 := [(5, .int (nI n)), (0, .ref 111), (1, .int (nI k)), (2, .int (nI s)), (3, .int (nI c)), (4, .int (nI y))]) (st2 := [.int (nI n), .ref 111]) (w3 := w12) rfl rfl ?_
  refine sx_RP.step (pc2 := 40) (ls2 := [(5, .int (nI n)), (0, .ref 111), (1, .int (nI k)), (2, .int (nI s)), (3, .int (nI c)), (4, .int (nI y))]) (st2 := [.int 2, .int (nI n), .ref 111]) (w3 := w12) rfl rfl ?_
  refine sx_RP.step (pc2 := 41) (ls2 := [(5, .int (nI n)), (0, .ref 111), (1, .int (nI k)), (2, .int (nI s)), (3, .int (nI c)), (4, .int (nI y))]) (st2 := [.int (nI c), .int 2, .int (nI n), .ref 111]) (w3 := w12) rfl rfl ?_
  refine sx_RP.callp (as2 := [.ref 111, .int (nI n), .int 2, .int (nI c)]) (rest2 := []) rfl rfl (sx_inv_v2 (mi := 153) (k := 110) (st := [.int (nI c), .int 2, .int (nI n), .ref 111]) (w := w12) rfl rfl hI13.1.o111 rfl rfl rfl) rfl rfl rfl (X154 (c := 2) hI13 (show n < 10 by omega) (by decide) (eOK_g (g := n) (c := 2) (by omega) (by decide) (inR.n (show c ≤ 47 by omega)))) (show _ = 44 from rfl) ?_
  rintro r4 w16 ⟨⟨rfl, hv14⟩, hI17, hs15⟩
  show sx_RP _ _ _ _ _ [.int ((ia w12 112).getD (103 + 6 * n + 2) 0)] _ _
  refine sx_RP.step (pc2 := 45) (ls2 := [(5, .int (nI n)), (0, .ref 111), (1, .int (nI k)), (2, .int (nI s)), (3, .int (nI c)), (4, .int (nI y))]) (st2 := []) (w3 := w16) rfl rfl ?_
  refine sx_RP.step (pc2 := 46) (ls2 := [(5, .int (nI n)), (0, .ref 111), (1, .int (nI k)), (2, .int (nI s)), (3, .int (nI c)), (4, .int (nI y))]) (st2 := [.ref 111]) (w3 := w16) rfl rfl ?_
  refine sx_RP.step (pc2 := 48) (ls2 := [(5, .int (nI n)), (0, .ref 111), (1, .int (nI k)), (2, .int (nI s)), (3, .int (nI c)), (4, .int (nI y))]) (st2 := [.int (nI n), .ref 111]) (w3 := w16) rfl rfl ?_
  refine sx_RP.step (pc2 := 49) (ls2 := [(5, .int (nI n)), (0, .ref 111), (1, .int (nI k)), (2, .int (nI s)), (3, .int (nI c)), (4, .int (nI y))]) (st2 := [.int 3, .int (nI n), .ref 111]) (w3 := w16) rfl rfl ?_
  refine sx_RP.step (pc2 := 51) (ls2 := [(5, .int (nI n)), (0, .ref 111), (1, .int (nI k)), (2, .int (nI s)), (3, .int (nI c)), (4, .int (nI y))]) (st2 := [.int (nI y), .int 3, .int (nI n), .ref 111]) (w3 := w16) rfl rfl ?_
  refine sx_RP.callp (as2 := [.ref 111, .int (nI n), .int 3, .int (nI y)]) (rest2 := []) rfl rfl (sx_inv_v2 (mi := 153) (k := 110) (st := [.int (nI y), .int 3, .int (nI n), .ref 111]) (w := w16) rfl rfl hI17.1.o111 rfl rfl rfl) rfl rfl rfl (X154 (c := 3) hI17 (show n < 10 by omega) (by decide) (eOK_g (g := n) (c := 3) (by omega) (by decide) (inR.n (show y ≤ 3 by omega)))) (show _ = 54 from rfl) ?_
  rintro r4 w20 ⟨⟨rfl, hv18⟩, hI21, hs19⟩
  show sx_RP _ _ _ _ _ [.int ((ia w16 112).getD (103 + 6 * n + 3) 0)] _ _
  refine sx_RP.step (pc2 := 55) (ls2 := [(5, .int (nI n)), (0, .ref 111), (1, .int (nI k)), (2, .int (nI s)), (3, .int (nI c)), (4, .int (nI y))]) (st2 := []) (w3 := w20) rfl rfl ?_
  refine sx_RP.step (pc2 := 56) (ls2 := [(5, .int (nI n)), (0, .ref 111), (1, .int (nI k)), (2, .int (nI s)), (3, .int (nI c)), (4, .int (nI y))]) (st2 := [.ref 111]) (w3 := w20) rfl rfl ?_
  refine sx_RP.step (pc2 := 58) (ls2 := [(5, .int (nI n)), (0, .ref 111), (1, .int (nI k)), (2, .int (nI s)), (3, .int (nI c)), (4, .int (nI y))]) (st2 := [.int (nI n), .ref 111]) (w3 := w20) rfl rfl ?_
  refine sx_RP.step (pc2 := 59) (ls2 := [(5, .int (nI n)), (0, .ref 111), (1, .int (nI k)), (2, .int (nI s)), (3, .int (nI c)), (4, .int (nI y))]) (st2 := [.int 4, .int (nI n), .ref 111]) (w3 := w20) rfl rfl ?_
  refine sx_RP.step (pc2 := 60) (ls2 := [(5, .int (nI n)), (0, .ref 111), (1, .int (nI k)), (2, .int (nI s)), (3, .int (nI c)), (4, .int (nI y))]) (st2 := [.int 0, .int 4, .int (nI n), .ref 111]) (w3 := w20) rfl rfl ?_
  refine sx_RP.callp (as2 := [.ref 111, .int (nI n), .int 4, .int 0]) (rest2 := []) rfl rfl (sx_inv_v2 (mi := 153) (k := 110) (st := [.int 0, .int 4, .int (nI n), .ref 111]) (w := w20) rfl rfl hI21.1.o111 rfl rfl rfl) rfl rfl rfl (X154 (c := 4) hI21 (show n < 10 by omega) (by decide) (eOK_g (g := n) (c := 4) (by omega) (by decide) trivial)) (show _ = 63 from rfl) ?_
  rintro r4 w24 ⟨⟨rfl, hv22⟩, hI25, hs23⟩
  show sx_RP _ _ _ _ _ [.int ((ia w20 112).getD (103 + 6 * n + 4) 0)] _ _
  refine sx_RP.step (pc2 := 64) (ls2 := [(5, .int (nI n)), (0, .ref 111), (1, .int (nI k)), (2, .int (nI s)), (3, .int (nI c)), (4, .int (nI y))]) (st2 := []) (w3 := w24) rfl rfl ?_
  refine sx_RP.step (pc2 := 65) (ls2 := [(5, .int (nI n)), (0, .ref 111), (1, .int (nI k)), (2, .int (nI s)), (3, .int (nI c)), (4, .int (nI y))]) (st2 := [.ref 111]) (w3 := w24) rfl rfl ?_
  refine sx_RP.step (pc2 := 67) (ls2 := [(5, .int (nI n)), (0, .ref 111), (1, .int (nI k)), (2, .int (nI s)), (3, .int (nI c)), (4, .int (nI y))]) (st2 := [.int (nI n), .ref 111]) (w3 := w24) rfl rfl ?_
  refine sx_RP.step (pc2 := 68) (ls2 := [(5, .int (nI n)), (0, .ref 111), (1, .int (nI k)), (2, .int (nI s)), (3, .int (nI c)), (4, .int (nI y))]) (st2 := [.int 5, .int (nI n), .ref 111]) (w3 := w24) rfl rfl ?_
  refine sx_RP.step (pc2 := 69) (ls2 := [(5, .int (nI n)), (0, .ref 111), (1, .int (nI k)), (2, .int (nI s)), (3, .int (nI c)), (4, .int (nI y))]) (st2 := [.int 0, .int 5, .int (nI n), .ref 111]) (w3 := w24) rfl rfl ?_
  refine sx_RP.callp (as2 := [.ref 111, .int (nI n), .int 5, .int 0]) (rest2 := []) rfl rfl (sx_inv_v2 (mi := 153) (k := 110) (st := [.int 0, .int 5, .int (nI n), .ref 111]) (w := w24) rfl rfl hI25.1.o111 rfl rfl rfl) rfl rfl rfl (X154 (c := 5) hI25 (show n < 10 by omega) (by decide) (eOK_g (g := n) (c := 5) (by omega) (by decide) (show inR 0 1 from ⟨0, by decide, rfl⟩))) (show _ = 72 from rfl) ?_
  rintro r4 w28 ⟨⟨rfl, hv26⟩, hI29, hs27⟩
  show sx_RP _ _ _ _ _ [.int ((ia w24 112).getD (103 + 6 * n + 5) 0)] _ _
  refine sx_RP.step (pc2 := 73) (ls2 := [(5, .int (nI n)), (0, .ref 111), (1, .int (nI k)), (2, .int (nI s)), (3, .int (nI c)), (4, .int (nI y))]) (st2 := []) (w3 := w28) rfl rfl ?_
  refine sx_RP.ret (r := none) rfl rfl ?_
  exact ⟨⟨rfl, by rw [hv26, hv22, hv18, hv14, hv10, hv6, hv4]; rfl⟩, hI29, (Same.tr (Same.tr (Same.tr (Same.tr (Same.tr (Same.tr (Same.tr Same.rf hs3) hs7) hs11) hs15) hs19) hs23) hs27)⟩
