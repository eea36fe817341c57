-- safety: the text of the reference: cells
/-- as EM, and here not farther back -/
def EI (w w2 : List sx_C) : Prop := EM w w2 ∧ (fi w 111 12).toInt ≤ (fi w2 111 12).toInt
theorem EI.rf {w : List sx_C} : EI w w := ⟨EM.rf, Int.le_refl _⟩
theorem EI.tr {w w1 w2 : List sx_C} (h : EI w w1) (h2 : EI w1 w2) : EI w w2 := ⟨h.1.tr h2.1, Int.le_trans h.2 h2.2⟩
theorem EH.ei {w w2 : List sx_C} (h : EH w w2) : EI w w2 := ⟨h.em, h.2.2⟩
theorem EI.set {w0 w : List sx_C} {a : Nat} {c c2 : sx_C} (h : EI w0 w) (hw : w[a]? = some c) (ha : 112 ≤ a) (hk : kp a c2 = kp a c) : EI w0 (w.set a c2) := ⟨h.1.set hw (by omega) hk, by rw [fi_ne (by omega)]; exact h.2⟩
theorem sx_RP.mSI {xs : Option (List Int32)} {d mi pc pc2 a : Nat} {ls : sx_L} {r : List Value} {w w0 : List sx_C} {P : Option Value → List sx_C → Prop} {i x : Int32} {k : Nat} (hI : WI w) (hE : EI w0 w) (ha : 112 ≤ a ∧ a ≤ 115) (hi : sx_ins mi pc = some (.iastore, 1)) (hx : i = nI k) (hk : k < 172) (hv : eOK k x) (hp : pc + 1 = pc2) (kk : ∀ w2, WI w2 → EI w0 w2 → (∀ j, j < 172 → j ≠ k → (ia w2 112).getD j 0 = (ia w 112).getD j 0) → sx_RP xs d mi pc2 ls r w2 P) : sx_RP xs d mi pc ls (.int x :: .int i :: .ref a :: r) w P := by
  subst hx
  have hw := hI.1.aM ha
  refine sx_RP.ist (c := k) hi hw.1 hw.2 (sx_in_nI hk (by decide)) (nI_clamp (by omega)) rfl hp (kk _ (hI.set hw.1 sh_set (cOK.s ha ((hI.sA ha).set hw.2 hk hv))) (hE.set hw.1 (by omega) (kp_n (by omega))) ?_)
  intro j hj hne
  by_cases e : a = 112
  · subst e
    rw [ia_set hw.1, List.getD_eq_getElem?_getD, List.getElem?_set_ne (Ne.symm hne), ← List.getD_eq_getElem?_getD]
  · rw [ia_ne (Ne.symm e)]
theorem sx_RP.mSkI {xs : Option (List Int32)} {d mi pc pc2 : Nat} {ls : sx_L} {r : List Value} {w w0 : List sx_C} {P : Option Value → List sx_C → Prop} {i x : Int32} {k : Nat} (hI : WI w) (hE : EI w0 w) (hi : sx_ins mi pc = some (.iastore, 1)) (hx : i = nI k) (hk : k < 172) (hv : eOK k x) (hp : pc + 1 = pc2) (kk : ∀ w2, WI w2 → EI w0 w2 → fi w2 111 14 = fi w 111 14 → sx_RP xs d mi pc2 ls r w2 P) : sx_RP xs d mi pc ls (.int x :: .int i :: .ref 112 :: r) w P := by
  subst hx
  have ha : 112 ≤ 112 ∧ 112 ≤ 115 := by decide
  have hw := hI.1.aM ha
  exact sx_RP.ist (c := k) hi hw.1 hw.2 (sx_in_nI hk (by decide)) (nI_clamp (by omega)) rfl hp (kk _ (hI.set hw.1 sh_set (cOK.s ha ((hI.sA ha).set hw.2 hk hv))) (hE.set hw.1 (by omega) (kp_n (by omega))) (fi_ne (by decide)))
set_option maxRecDepth 20000 in
set_option maxHeartbeats 4000000 in
theorem s154i_0 {xs : Option (List Int32)} {d : Nat} {w : List sx_C} (hI : WI w) {g : Nat} (hg : g < 10) {v : Nat} (hv : v ≤ 5) : sx_RP xs (d + 1) 154 0 (lv_args 0 [.ref 111, .int (nI g), .int 0, .int (nI v)]) [] w (fun r w2 => (∃ v : Int32, r = some (.int v)) ∧ WI w2 ∧ EI w w2) := by
  have hE : EI w w := EI.rf
  refine sx_RP.step (pc2 := 1) (ls2 := [(0, .ref 111), (1, .int (nI g)), (2, .int 0), (3, .int (nI v))]) (st2 := [.ref 111]) (w3 := w) rfl rfl ?_
  refine sx_RP.step (pc2 := 2) (ls2 := [(0, .ref 111), (1, .int (nI g)), (2, .int 0), (3, .int (nI v))]) (st2 := [.int (nI g), .ref 111]) (w3 := w) rfl rfl ?_
  refine sx_RP.step (pc2 := 3) (ls2 := [(0, .ref 111), (1, .int (nI g)), (2, .int 0), (3, .int (nI v))]) (st2 := [.int 0, .int (nI g), .ref 111]) (w3 := w) rfl rfl ?_
  obtain ⟨x1, hx2, c3⟩ := p138_0 hI (show g < 10 by omega)
  refine sx_RP.cu (as := [.ref 111, .int (nI g), .int 0]) (rest2 := []) (st3 := [.int (nI x1)]) rfl rfl (sx_inv_v2 (mi := 154) (k := 59) (st := [.int 0, .int (nI g), .ref 111]) (w := w) rfl rfl hI.1.o111 rfl rfl rfl) rfl rfl (c3) rfl ?_
  refine sx_RP.step (pc2 := 8) (ls2 := [(4, .int (nI x1)), (0, .ref 111), (1, .int (nI g)), (2, .int 0), (3, .int (nI v))]) (st2 := []) (w3 := w) rfl rfl ?_
  refine sx_RP.step (pc2 := 9) (ls2 := [(4, .int (nI x1)), (0, .ref 111), (1, .int (nI g)), (2, .int 0), (3, .int (nI v))]) (st2 := [.ref 111]) (w3 := w) rfl rfl ?_
  refine sx_RP.gf (v := .ref 112) rfl rfl hI.1.o111 rfl rfl (show _ = 12 from rfl) ?_
  refine sx_RP.step (pc2 := 14) (ls2 := [(4, .int (nI x1)), (0, .ref 111), (1, .int (nI g)), (2, .int 0), (3, .int (nI v))]) (st2 := [.int 103, .ref 112]) (w3 := w) rfl rfl ?_
  refine sx_RP.step (pc2 := 16) (ls2 := [(4, .int (nI x1)), (0, .ref 111), (1, .int (nI g)), (2, .int 0), (3, .int (nI v))]) (st2 := [.int 6, .int 103, .ref 112]) (w3 := w) rfl rfl ?_
  refine sx_RP.step (pc2 := 17) (ls2 := [(4, .int (nI x1)), (0, .ref 111), (1, .int (nI g)), (2, .int 0), (3, .int (nI v))]) (st2 := [.int (nI g), .int 6, .int 103, .ref 112]) (w3 := w) rfl rfl ?_
  refine sx_RP.step (pc2 := 18) (ls2 := [(4, .int (nI x1)), (0, .ref 111), (1, .int (nI g)), (2, .int 0), (3, .int (nI v))]) (st2 := [.int (6 * (nI g)), .int 103, .ref 112]) (w3 := w) rfl rfl ?_
  rw [show (6 * (nI g) : Int32) = nI (6 * g) from nI_mul 6 g]
  refine sx_RP.step (pc2 := 19) (ls2 := [(4, .int (nI x1)), (0, .ref 111), (1, .int (nI g)), (2, .int 0), (3, .int (nI v))]) (st2 := [.int (103 + (nI (6 * g))), .ref 112]) (w3 := w) rfl rfl ?_
  rw [show (103 + (nI (6 * g)) : Int32) = nI (103 + (6 * g)) from nI_add 103 (6 * g)]
  refine sx_RP.step (pc2 := 20) (ls2 := [(4, .int (nI x1)), (0, .ref 111), (1, .int (nI g)), (2, .int 0), (3, .int (nI v))]) (st2 := [.int 0, .int (nI (103 + (6 * g))), .ref 112]) (w3 := w) rfl rfl ?_
  refine sx_RP.step (pc2 := 21) (ls2 := [(4, .int (nI x1)), (0, .ref 111), (1, .int (nI g)), (2, .int 0), (3, .int (nI v))]) (st2 := [.int ((nI (103 + (6 * g))) + 0), .ref 112]) (w3 := w) rfl rfl ?_
  rw [show ((nI (103 + (6 * g))) + 0 : Int32) = nI ((103 + (6 * g)) + 0) from nI_add (103 + (6 * g)) 0]
  refine sx_RP.step (pc2 := 22) (ls2 := [(4, .int (nI x1)), (0, .ref 111), (1, .int (nI g)), (2, .int 0), (3, .int (nI v))]) (st2 := [.int (nI v), .int (nI ((103 + (6 * g)) + 0)), .ref 112]) (w3 := w) rfl rfl ?_
  refine sx_RP.mSI (k := ((103 + (6 * g)) + 0)) hI hE (by decide) rfl rfl (by omega) (eOK_g (g := g) (c := 0) (by omega) (by decide) (inR.n (show v ≤ 5 by omega))) (show _ = 23 from rfl) (fun w4 hI5 hE6 hk7 => ?_)
  refine sx_RP.step (pc2 := 25) (ls2 := [(4, .int (nI x1)), (0, .ref 111), (1, .int (nI g)), (2, .int 0), (3, .int (nI v))]) (st2 := [.int (nI x1)]) (w3 := w4) rfl rfl ?_
  refine sx_RP.ret (r := (some (.int (nI x1)))) rfl rfl ?_
  exact ⟨⟨_, rfl⟩, hI5, hE6⟩
set_option maxRecDepth 20000 in
set_option maxHeartbeats 4000000 in
theorem s154i_1 {xs : Option (List Int32)} {d : Nat} {w : List sx_C} (hI : WI w) {g : Nat} (hg : g < 10) {v : Nat} (hv : v ≤ 1) : sx_RP xs (d + 1) 154 0 (lv_args 0 [.ref 111, .int (nI g), .int 1, .int (nI v)]) [] w (fun r w2 => (∃ v : Int32, r = some (.int v)) ∧ WI w2 ∧ EI w w2) := by
  have hE : EI w w := EI.rf
  refine sx_RP.step (pc2 := 1) (ls2 := [(0, .ref 111), (1, .int (nI g)), (2, .int 1), (3, .int (nI v))]) (st2 := [.ref 111]) (w3 := w) rfl rfl ?_
  refine sx_RP.step (pc2 := 2) (ls2 := [(0, .ref 111), (1, .int (nI g)), (2, .int 1), (3, .int (nI v))]) (st2 := [.int (nI g), .ref 111]) (w3 := w) rfl rfl ?_
  refine sx_RP.step (pc2 := 3) (ls2 := [(0, .ref 111), (1, .int (nI g)), (2, .int 1), (3, .int (nI v))]) (st2 := [.int 1, .int (nI g), .ref 111]) (w3 := w) rfl rfl ?_
  obtain ⟨x1, hx2, c3⟩ := p138_1 hI (show g < 10 by omega)
  refine sx_RP.cu (as := [.ref 111, .int (nI g), .int 1]) (rest2 := []) (st3 := [.int (nI x1)]) rfl rfl (sx_inv_v2 (mi := 154) (k := 59) (st := [.int 1, .int (nI g), .ref 111]) (w := w) rfl rfl hI.1.o111 rfl rfl rfl) rfl rfl (c3) rfl ?_
  refine sx_RP.step (pc2 := 8) (ls2 := [(4, .int (nI x1)), (0, .ref 111), (1, .int (nI g)), (2, .int 1), (3, .int (nI v))]) (st2 := []) (w3 := w) rfl rfl ?_
  refine sx_RP.step (pc2 := 9) (ls2 := [(4, .int (nI x1)), (0, .ref 111), (1, .int (nI g)), (2, .int 1), (3, .int (nI v))]) (st2 := [.ref 111]) (w3 := w) rfl rfl ?_
  refine sx_RP.gf (v := .ref 112) rfl rfl hI.1.o111 rfl rfl (show _ = 12 from rfl) ?_
  refine sx_RP.step (pc2 := 14) (ls2 := [(4, .int (nI x1)), (0, .ref 111), (1, .int (nI g)), (2, .int 1), (3, .int (nI v))]) (st2 := [.int 103, .ref 112]) (w3 := w) rfl rfl ?_
  refine sx_RP.step (pc2 := 16) (ls2 := [(4, .int (nI x1)), (0, .ref 111), (1, .int (nI g)), (2, .int 1), (3, .int (nI v))]) (st2 := [.int 6, .int 103, .ref 112]) (w3 := w) rfl rfl ?_
  refine sx_RP.step (pc2 := 17) (ls2 := [(4, .int (nI x1)), (0, .ref 111), (1, .int (nI g)), (2, .int 1), (3, .int (nI v))]) (st2 := [.int (nI g), .int 6, .int 103, .ref 112]) (w3 := w) rfl rfl ?_
  refine sx_RP.step (pc2 := 18) (ls2 := [(4, .int (nI x1)), (0, .ref 111), (1, .int (nI g)), (2, .int 1), (3, .int (nI v))]) (st2 := [.int (6 * (nI g)), .int 103, .ref 112]) (w3 := w) rfl rfl ?_
  rw [show (6 * (nI g) : Int32) = nI (6 * g) from nI_mul 6 g]
  refine sx_RP.step (pc2 := 19) (ls2 := [(4, .int (nI x1)), (0, .ref 111), (1, .int (nI g)), (2, .int 1), (3, .int (nI v))]) (st2 := [.int (103 + (nI (6 * g))), .ref 112]) (w3 := w) rfl rfl ?_
  rw [show (103 + (nI (6 * g)) : Int32) = nI (103 + (6 * g)) from nI_add 103 (6 * g)]
  refine sx_RP.step (pc2 := 20) (ls2 := [(4, .int (nI x1)), (0, .ref 111), (1, .int (nI g)), (2, .int 1), (3, .int (nI v))]) (st2 := [.int 1, .int (nI (103 + (6 * g))), .ref 112]) (w3 := w) rfl rfl ?_
  refine sx_RP.step (pc2 := 21) (ls2 := [(4, .int (nI x1)), (0, .ref 111), (1, .int (nI g)), (2, .int 1), (3, .int (nI v))]) (st2 := [.int ((nI (103 + (6 * g))) + 1), .ref 112]) (w3 := w) rfl rfl ?_
  rw [show ((nI (103 + (6 * g))) + 1 : Int32) = nI ((103 + (6 * g)) + 1) from nI_add (103 + (6 * g)) 1]
  refine sx_RP.step (pc2 := 22) (ls2 := [(4, .int (nI x1)), (0, .ref 111), (1, .int (nI g)), (2, .int 1), (3, .int (nI v))]) (st2 := [.int (nI v), .int (nI ((103 + (6 * g)) + 1)), .ref 112]) (w3 := w) rfl rfl ?_
  refine sx_RP.mSI (k := ((103 + (6 * g)) + 1)) hI hE (by decide) rfl rfl (by omega) (eOK_g (g := g) (c := 1) (by omega) (by decide) (inR.n (show v ≤ 1 by omega))) (show _ = 23 from rfl) (fun w4 hI5 hE6 hk7 => ?_)
  refine sx_RP.step (pc2 := 25) (ls2 := [(4, .int (nI x1)), (0, .ref 111), (1, .int (nI g)), (2, .int 1), (3, .int (nI v))]) (st2 := [.int (nI x1)]) (w3 := w4) rfl rfl ?_
  refine sx_RP.ret (r := (some (.int (nI x1)))) rfl rfl ?_
  exact ⟨⟨_, rfl⟩, hI5, hE6⟩
set_option maxRecDepth 20000 in
set_option maxHeartbeats 4000000 in
theorem s154i_2 {xs : Option (List Int32)} {d : Nat} {w : List sx_C} (hI : WI w) {g : Nat} (hg : g < 10) {v : Nat} (hv : v ≤ 47) : sx_RP xs (d + 1) 154 0 (lv_args 0 [.ref 111, .int (nI g), .int 2, .int (nI v)]) [] w (fun r w2 => (∃ v : Int32, r = some (.int v)) ∧ WI w2 ∧ EI w w2) := by
  have hE : EI w w := EI.rf
  refine sx_RP.step (pc2 := 1) (ls2 := [(0, .ref 111), (1, .int (nI g)), (2, .int 2), (3, .int (nI v))]) (st2 := [.ref 111]) (w3 := w) rfl rfl ?_
  refine sx_RP.step (pc2 := 2) (ls2 := [(0, .ref 111), (1, .int (nI g)), (2, .int 2), (3, .int (nI v))]) (st2 := [.int (nI g), .ref 111]) (w3 := w) rfl rfl ?_
  refine sx_RP.step (pc2 := 3) (ls2 := [(0, .ref 111), (1, .int (nI g)), (2, .int 2), (3, .int (nI v))]) (st2 := [.int 2, .int (nI g), .ref 111]) (w3 := w) rfl rfl ?_
  obtain ⟨x1, hx2, c3⟩ := p138_2 hI (show g < 10 by omega)
  refine sx_RP.cu (as := [.ref 111, .int (nI g), .int 2]) (rest2 := []) (st3 := [.int (nI x1)]) rfl rfl (sx_inv_v2 (mi := 154) (k := 59) (st := [.int 2, .int (nI g), .ref 111]) (w := w) rfl rfl hI.1.o111 rfl rfl rfl) rfl rfl (c3) rfl ?_
  refine sx_RP.step (pc2 := 8) (ls2 := [(4, .int (nI x1)), (0, .ref 111), (1, .int (nI g)), (2, .int 2), (3, .int (nI v))]) (st2 := []) (w3 := w) rfl rfl ?_
  refine sx_RP.step (pc2 := 9) (ls2 := [(4, .int (nI x1)), (0, .ref 111), (1, .int (nI g)), (2, .int 2), (3, .int (nI v))]) (st2 := [.ref 111]) (w3 := w) rfl rfl ?_
  refine sx_RP.gf (v := .ref 112) rfl rfl hI.1.o111 rfl rfl (show _ = 12 from rfl) ?_
  refine sx_RP.step (pc2 := 14) (ls2 := [(4, .int (nI x1)), (0, .ref 111), (1, .int (nI g)), (2, .int 2), (3, .int (nI v))]) (st2 := [.int 103, .ref 112]) (w3 := w) rfl rfl ?_
  refine sx_RP.step (pc2 := 16) (ls2 := [(4, .int (nI x1)), (0, .ref 111), (1, .int (nI g)), (2, .int 2), (3, .int (nI v))]) (st2 := [.int 6, .int 103, .ref 112]) (w3 := w) rfl rfl ?_
  refine sx_RP.step (pc2 := 17) (ls2 := [(4, .int (nI x1)), (0, .ref 111), (1, .int (nI g)), (2, .int 2), (3, .int (nI v))]) (st2 := [.int (nI g), .int 6, .int 103, .ref 112]) (w3 := w) rfl rfl ?_
  refine sx_RP.step (pc2 := 18) (ls2 := [(4, .int (nI x1)), (0, .ref 111), (1, .int (nI g)), (2, .int 2), (3, .int (nI v))]) (st2 := [.int (6 * (nI g)), .int 103, .ref 112]) (w3 := w) rfl rfl ?_
  rw [show (6 * (nI g) : Int32) = nI (6 * g) from nI_mul 6 g]
  refine sx_RP.step (pc2 := 19) (ls2 := [(4, .int (nI x1)), (0, .ref 111), (1, .int (nI g)), (2, .int 2), (3, .int (nI v))]) (st2 := [.int (103 + (nI (6 * g))), .ref 112]) (w3 := w) rfl rfl ?_
  rw [show (103 + (nI (6 * g)) : Int32) = nI (103 + (6 * g)) from nI_add 103 (6 * g)]
  refine sx_RP.step (pc2 := 20) (ls2 := [(4, .int (nI x1)), (0, .ref 111), (1, .int (nI g)), (2, .int 2), (3, .int (nI v))]) (st2 := [.int 2, .int (nI (103 + (6 * g))), .ref 112]) (w3 := w) rfl rfl ?_
  refine sx_RP.step (pc2 := 21) (ls2 := [(4, .int (nI x1)), (0, .ref 111), (1, .int (nI g)), (2, .int 2), (3, .int (nI v))]) (st2 := [.int ((nI (103 + (6 * g))) + 2), .ref 112]) (w3 := w) rfl rfl ?_
  rw [show ((nI (103 + (6 * g))) + 2 : Int32) = nI ((103 + (6 * g)) + 2) from nI_add (103 + (6 * g)) 2]
  refine sx_RP.step (pc2 := 22) (ls2 := [(4, .int (nI x1)), (0, .ref 111), (1, .int (nI g)), (2, .int 2), (3, .int (nI v))]) (st2 := [.int (nI v), .int (nI ((103 + (6 * g)) + 2)), .ref 112]) (w3 := w) rfl rfl ?_
  refine sx_RP.mSI (k := ((103 + (6 * g)) + 2)) hI hE (by decide) rfl rfl (by omega) (eOK_g (g := g) (c := 2) (by omega) (by decide) (inR.n (show v ≤ 47 by omega))) (show _ = 23 from rfl) (fun w4 hI5 hE6 hk7 => ?_)
  refine sx_RP.step (pc2 := 25) (ls2 := [(4, .int (nI x1)), (0, .ref 111), (1, .int (nI g)), (2, .int 2), (3, .int (nI v))]) (st2 := [.int (nI x1)]) (w3 := w4) rfl rfl ?_
  refine sx_RP.ret (r := (some (.int (nI x1)))) rfl rfl ?_
  exact ⟨⟨_, rfl⟩, hI5, hE6⟩
set_option maxRecDepth 20000 in
set_option maxHeartbeats 4000000 in
theorem s154i_3 {xs : Option (List Int32)} {d : Nat} {w : List sx_C} (hI : WI w) {g : Nat} (hg : g < 10) {v : Nat} (hv : v ≤ 3) : sx_RP xs (d + 1) 154 0 (lv_args 0 [.ref 111, .int (nI g), .int 3, .int (nI v)]) [] w (fun r w2 => (∃ v : Int32, r = some (.int v)) ∧ WI w2 ∧ EI w w2) := by
  have hE : EI w w := EI.rf
  refine sx_RP.step (pc2 := 1) (ls2 := [(0, .ref 111), (1, .int (nI g)), (2, .int 3), (3, .int (nI v))]) (st2 := [.ref 111]) (w3 := w) rfl rfl ?_
  refine sx_RP.step (pc2 := 2) (ls2 := [(0, .ref 111), (1, .int (nI g)), (2, .int 3), (3, .int (nI v))]) (st2 := [.int (nI g), .ref 111]) (w3 := w) rfl rfl ?_
  refine sx_RP.step (pc2 := 3) (ls2 := [(0, .ref 111), (1, .int (nI g)), (2, .int 3), (3, .int (nI v))]) (st2 := [.int 3, .int (nI g), .ref 111]) (w3 := w) rfl rfl ?_
  obtain ⟨x1, hx2, c3⟩ := p138_3 hI (show g < 10 by omega)
  refine sx_RP.cu (as := [.ref 111, .int (nI g), .int 3]) (rest2 := []) (st3 := [.int (nI x1)]) rfl rfl (sx_inv_v2 (mi := 154) (k := 59) (st := [.int 3, .int (nI g), .ref 111]) (w := w) rfl rfl hI.1.o111 rfl rfl rfl) rfl rfl (c3) rfl ?_
  refine sx_RP.step (pc2 := 8) (ls2 := [(4, .int (nI x1)), (0, .ref 111), (1, .int (nI g)), (2, .int 3), (3, .int (nI v))]) (st2 := []) (w3 := w) rfl rfl ?_
  refine sx_RP.step (pc2 := 9) (ls2 := [(4, .int (nI x1)), (0, .ref 111), (1, .int (nI g)), (2, .int 3), (3, .int (nI v))]) (st2 := [.ref 111]) (w3 := w) rfl rfl ?_
  refine sx_RP.gf (v := .ref 112) rfl rfl hI.1.o111 rfl rfl (show _ = 12 from rfl) ?_
  refine sx_RP.step (pc2 := 14) (ls2 := [(4, .int (nI x1)), (0, .ref 111), (1, .int (nI g)), (2, .int 3), (3, .int (nI v))]) (st2 := [.int 103, .ref 112]) (w3 := w) rfl rfl ?_
  refine sx_RP.step (pc2 := 16) (ls2 := [(4, .int (nI x1)), (0, .ref 111), (1, .int (nI g)), (2, .int 3), (3, .int (nI v))]) (st2 := [.int 6, .int 103, .ref 112]) (w3 := w) rfl rfl ?_
  refine sx_RP.step (pc2 := 17) (ls2 := [(4, .int (nI x1)), (0, .ref 111), (1, .int (nI g)), (2, .int 3), (3, .int (nI v))]) (st2 := [.int (nI g), .int 6, .int 103, .ref 112]) (w3 := w) rfl rfl ?_
  refine sx_RP.step (pc2 := 18) (ls2 := [(4, .int (nI x1)), (0, .ref 111), (1, .int (nI g)), (2, .int 3), (3, .int (nI v))]) (st2 := [.int (6 * (nI g)), .int 103, .ref 112]) (w3 := w) rfl rfl ?_
  rw [show (6 * (nI g) : Int32) = nI (6 * g) from nI_mul 6 g]
  refine sx_RP.step (pc2 := 19) (ls2 := [(4, .int (nI x1)), (0, .ref 111), (1, .int (nI g)), (2, .int 3), (3, .int (nI v))]) (st2 := [.int (103 + (nI (6 * g))), .ref 112]) (w3 := w) rfl rfl ?_
  rw [show (103 + (nI (6 * g)) : Int32) = nI (103 + (6 * g)) from nI_add 103 (6 * g)]
  refine sx_RP.step (pc2 := 20) (ls2 := [(4, .int (nI x1)), (0, .ref 111), (1, .int (nI g)), (2, .int 3), (3, .int (nI v))]) (st2 := [.int 3, .int (nI (103 + (6 * g))), .ref 112]) (w3 := w) rfl rfl ?_
  refine sx_RP.step (pc2 := 21) (ls2 := [(4, .int (nI x1)), (0, .ref 111), (1, .int (nI g)), (2, .int 3), (3, .int (nI v))]) (st2 := [.int ((nI (103 + (6 * g))) + 3), .ref 112]) (w3 := w) rfl rfl ?_
  rw [show ((nI (103 + (6 * g))) + 3 : Int32) = nI ((103 + (6 * g)) + 3) from nI_add (103 + (6 * g)) 3]
  refine sx_RP.step (pc2 := 22) (ls2 := [(4, .int (nI x1)), (0, .ref 111), (1, .int (nI g)), (2, .int 3), (3, .int (nI v))]) (st2 := [.int (nI v), .int (nI ((103 + (6 * g)) + 3)), .ref 112]) (w3 := w) rfl rfl ?_
  refine sx_RP.mSI (k := ((103 + (6 * g)) + 3)) hI hE (by decide) rfl rfl (by omega) (eOK_g (g := g) (c := 3) (by omega) (by decide) (inR.n (show v ≤ 3 by omega))) (show _ = 23 from rfl) (fun w4 hI5 hE6 hk7 => ?_)
  refine sx_RP.step (pc2 := 25) (ls2 := [(4, .int (nI x1)), (0, .ref 111), (1, .int (nI g)), (2, .int 3), (3, .int (nI v))]) (st2 := [.int (nI x1)]) (w3 := w4) rfl rfl ?_
  refine sx_RP.ret (r := (some (.int (nI x1)))) rfl rfl ?_
  exact ⟨⟨_, rfl⟩, hI5, hE6⟩
set_option maxRecDepth 20000 in
set_option maxHeartbeats 4000000 in
theorem s154i_4 {xs : Option (List Int32)} {d : Nat} {w : List sx_C} (hI : WI w) {g : Nat} (hg : g < 10) (v : Int32) : sx_RP xs (d + 1) 154 0 (lv_args 0 [.ref 111, .int (nI g), .int 4, .int v]) [] w (fun r w2 => (∃ v : Int32, r = some (.int v)) ∧ WI w2 ∧ EI w w2) := by
  have hE : EI w w := EI.rf
  refine sx_RP.step (pc2 := 1) (ls2 := [(0, .ref 111), (1, .int (nI g)), (2, .int 4), (3, .int v)]) (st2 := [.ref 111]) (w3 := w) rfl rfl ?_
  refine sx_RP.step (pc2 := 2) (ls2 := [(0, .ref 111), (1, .int (nI g)), (2, .int 4), (3, .int v)]) (st2 := [.int (nI g), .ref 111]) (w3 := w) rfl rfl ?_
  refine sx_RP.step (pc2 := 3) (ls2 := [(0, .ref 111), (1, .int (nI g)), (2, .int 4), (3, .int v)]) (st2 := [.int 4, .int (nI g), .ref 111]) (w3 := w) rfl rfl ?_
  obtain ⟨v1, c2⟩ := p138_4 hI (show g < 10 by omega)
  refine sx_RP.cu (as := [.ref 111, .int (nI g), .int 4]) (rest2 := []) (st3 := [.int v1]) rfl rfl (sx_inv_v2 (mi := 154) (k := 59) (st := [.int 4, .int (nI g), .ref 111]) (w := w) rfl rfl hI.1.o111 rfl rfl rfl) rfl rfl (c2) rfl ?_
  refine sx_RP.step (pc2 := 8) (ls2 := [(4, .int v1), (0, .ref 111), (1, .int (nI g)), (2, .int 4), (3, .int v)]) (st2 := []) (w3 := w) rfl rfl ?_
  refine sx_RP.step (pc2 := 9) (ls2 := [(4, .int v1), (0, .ref 111), (1, .int (nI g)), (2, .int 4), (3, .int v)]) (st2 := [.ref 111]) (w3 := w) rfl rfl ?_
  refine sx_RP.gf (v := .ref 112) rfl rfl hI.1.o111 rfl rfl (show _ = 12 from rfl) ?_
  refine sx_RP.step (pc2 := 14) (ls2 := [(4, .int v1), (0, .ref 111), (1, .int (nI g)), (2, .int 4), (3, .int v)]) (st2 := [.int 103, .ref 112]) (w3 := w) rfl rfl ?_
  refine sx_RP.step (pc2 := 16) (ls2 := [(4, .int v1), (0, .ref 111), (1, .int (nI g)), (2, .int 4), (3, .int v)]) (st2 := [.int 6, .int 103, .ref 112]) (w3 := w) rfl rfl ?_
  refine sx_RP.step (pc2 := 17) (ls2 := [(4, .int v1), (0, .ref 111), (1, .int (nI g)), (2, .int 4), (3, .int v)]) (st2 := [.int (nI g), .int 6, .int 103, .ref 112]) (w3 := w) rfl rfl ?_
  refine sx_RP.step (pc2 := 18) (ls2 := [(4, .int v1), (0, .ref 111), (1, .int (nI g)), (2, .int 4), (3, .int v)]) (st2 := [.int (6 * (nI g)), .int 103, .ref 112]) (w3 := w) rfl rfl ?_
  rw [show (6 * (nI g) : Int32) = nI (6 * g) from nI_mul 6 g]
  refine sx_RP.step (pc2 := 19) (ls2 := [(4, .int v1), (0, .ref 111), (1, .int (nI g)), (2, .int 4), (3, .int v)]) (st2 := [.int (103 + (nI (6 * g))), .ref 112]) (w3 := w) rfl rfl ?_
  rw [show (103 + (nI (6 * g)) : Int32) = nI (103 + (6 * g)) from nI_add 103 (6 * g)]
  refine sx_RP.step (pc2 := 20) (ls2 := [(4, .int v1), (0, .ref 111), (1, .int (nI g)), (2, .int 4), (3, .int v)]) (st2 := [.int 4, .int (nI (103 + (6 * g))), .ref 112]) (w3 := w) rfl rfl ?_
  refine sx_RP.step (pc2 := 21) (ls2 := [(4, .int v1), (0, .ref 111), (1, .int (nI g)), (2, .int 4), (3, .int v)]) (st2 := [.int ((nI (103 + (6 * g))) + 4), .ref 112]) (w3 := w) rfl rfl ?_
  rw [show ((nI (103 + (6 * g))) + 4 : Int32) = nI ((103 + (6 * g)) + 4) from nI_add (103 + (6 * g)) 4]
  refine sx_RP.step (pc2 := 22) (ls2 := [(4, .int v1), (0, .ref 111), (1, .int (nI g)), (2, .int 4), (3, .int v)]) (st2 := [.int v, .int (nI ((103 + (6 * g)) + 4)), .ref 112]) (w3 := w) rfl rfl ?_
  refine sx_RP.mSI (k := ((103 + (6 * g)) + 4)) hI hE (by decide) rfl rfl (by omega) (eOK_g (g := g) (c := 4) (by omega) (by decide) trivial) (show _ = 23 from rfl) (fun w3 hI4 hE5 hk6 => ?_)
  refine sx_RP.step (pc2 := 25) (ls2 := [(4, .int v1), (0, .ref 111), (1, .int (nI g)), (2, .int 4), (3, .int v)]) (st2 := [.int v1]) (w3 := w3) rfl rfl ?_
  refine sx_RP.ret (r := (some (.int v1))) rfl rfl ?_
  exact ⟨⟨_, rfl⟩, hI4, hE5⟩
set_option maxRecDepth 20000 in
set_option maxHeartbeats 4000000 in
theorem s154i_5 {xs : Option (List Int32)} {d : Nat} {w : List sx_C} (hI : WI w) {g : Nat} (hg : g < 10) {v : Nat} (hv : v ≤ 1) : sx_RP xs (d + 1) 154 0 (lv_args 0 [.ref 111, .int (nI g), .int 5, .int (nI v)]) [] w (fun r w2 => (∃ v : Int32, r = some (.int v)) ∧ WI w2 ∧ EI w w2) := by
  have hE : EI w w := EI.rf
  refine sx_RP.step (pc2 := 1) (ls2 := [(0, .ref 111), (1, .int (nI g)), (2, .int 5), (3, .int (nI v))]) (st2 := [.ref 111]) (w3 := w) rfl rfl ?_
  refine sx_RP.step (pc2 := 2) (ls2 := [(0, .ref 111), (1, .int (nI g)), (2, .int 5), (3, .int (nI v))]) (st2 := [.int (nI g), .ref 111]) (w3 := w) rfl rfl ?_
  refine sx_RP.step (pc2 := 3) (ls2 := [(0, .ref 111), (1, .int (nI g)), (2, .int 5), (3, .int (nI v))]) (st2 := [.int 5, .int (nI g), .ref 111]) (w3 := w) rfl rfl ?_
  obtain ⟨x1, hx2, c3⟩ := p138_5 hI (show g < 10 by omega)
  refine sx_RP.cu (as := [.ref 111, .int (nI g), .int 5]) (rest2 := []) (st3 := [.int (nI x1)]) rfl rfl (sx_inv_v2 (mi := 154) (k := 59) (st := [.int 5, .int (nI g), .ref 111]) (w := w) rfl rfl hI.1.o111 rfl rfl rfl) rfl rfl (c3) rfl ?_
  refine sx_RP.step (pc2 := 8) (ls2 := [(4, .int (nI x1)), (0, .ref 111), (1, .int (nI g)), (2, .int 5), (3, .int (nI v))]) (st2 := []) (w3 := w) rfl rfl ?_
  refine sx_RP.step (pc2 := 9) (ls2 := [(4, .int (nI x1)), (0, .ref 111), (1, .int (nI g)), (2, .int 5), (3, .int (nI v))]) (st2 := [.ref 111]) (w3 := w) rfl rfl ?_
  refine sx_RP.gf (v := .ref 112) rfl rfl hI.1.o111 rfl rfl (show _ = 12 from rfl) ?_
  refine sx_RP.step (pc2 := 14) (ls2 := [(4, .int (nI x1)), (0, .ref 111), (1, .int (nI g)), (2, .int 5), (3, .int (nI v))]) (st2 := [.int 103, .ref 112]) (w3 := w) rfl rfl ?_
  refine sx_RP.step (pc2 := 16) (ls2 := [(4, .int (nI x1)), (0, .ref 111), (1, .int (nI g)), (2, .int 5), (3, .int (nI v))]) (st2 := [.int 6, .int 103, .ref 112]) (w3 := w) rfl rfl ?_
  refine sx_RP.step (pc2 := 17) (ls2 := [(4, .int (nI x1)), (0, .ref 111), (1, .int (nI g)), (2, .int 5), (3, .int (nI v))]) (st2 := [.int (nI g), .int 6, .int 103, .ref 112]) (w3 := w) rfl rfl ?_
  refine sx_RP.step (pc2 := 18) (ls2 := [(4, .int (nI x1)), (0, .ref 111), (1, .int (nI g)), (2, .int 5), (3, .int (nI v))]) (st2 := [.int (6 * (nI g)), .int 103, .ref 112]) (w3 := w) rfl rfl ?_
  rw [show (6 * (nI g) : Int32) = nI (6 * g) from nI_mul 6 g]
  refine sx_RP.step (pc2 := 19) (ls2 := [(4, .int (nI x1)), (0, .ref 111), (1, .int (nI g)), (2, .int 5), (3, .int (nI v))]) (st2 := [.int (103 + (nI (6 * g))), .ref 112]) (w3 := w) rfl rfl ?_
  rw [show (103 + (nI (6 * g)) : Int32) = nI (103 + (6 * g)) from nI_add 103 (6 * g)]
  refine sx_RP.step (pc2 := 20) (ls2 := [(4, .int (nI x1)), (0, .ref 111), (1, .int (nI g)), (2, .int 5), (3, .int (nI v))]) (st2 := [.int 5, .int (nI (103 + (6 * g))), .ref 112]) (w3 := w) rfl rfl ?_
  refine sx_RP.step (pc2 := 21) (ls2 := [(4, .int (nI x1)), (0, .ref 111), (1, .int (nI g)), (2, .int 5), (3, .int (nI v))]) (st2 := [.int ((nI (103 + (6 * g))) + 5), .ref 112]) (w3 := w) rfl rfl ?_
  rw [show ((nI (103 + (6 * g))) + 5 : Int32) = nI ((103 + (6 * g)) + 5) from nI_add (103 + (6 * g)) 5]
  refine sx_RP.step (pc2 := 22) (ls2 := [(4, .int (nI x1)), (0, .ref 111), (1, .int (nI g)), (2, .int 5), (3, .int (nI v))]) (st2 := [.int (nI v), .int (nI ((103 + (6 * g)) + 5)), .ref 112]) (w3 := w) rfl rfl ?_
  refine sx_RP.mSI (k := ((103 + (6 * g)) + 5)) hI hE (by decide) rfl rfl (by omega) (eOK_g (g := g) (c := 5) (by omega) (by decide) (inR.n (show v ≤ 1 by omega))) (show _ = 23 from rfl) (fun w4 hI5 hE6 hk7 => ?_)
  refine sx_RP.step (pc2 := 25) (ls2 := [(4, .int (nI x1)), (0, .ref 111), (1, .int (nI g)), (2, .int 5), (3, .int (nI v))]) (st2 := [.int (nI x1)]) (w3 := w4) rfl rfl ?_
  refine sx_RP.ret (r := (some (.int (nI x1)))) rfl rfl ?_
  exact ⟨⟨_, rfl⟩, hI5, hE6⟩
set_option maxRecDepth 20000 in
set_option maxHeartbeats 4000000 in
theorem s153i {xs : Option (List Int32)} {d : Nat} {w : List sx_C} (hI : WI w) {n k s c y : Nat} (hn : n ≤ 9) (en : (ia w 112).getD 1 0 = nI n) (hk : k ≤ 5) (hs : s ≤ 1) (hc : c < 48) (hy : y ≤ 3) : sx_RP xs (d + 2) 153 0 (lv_args 0 [.ref 111, .int (nI k), .int (nI s), .int (nI c), .int (nI y)]) [] w (fun r w2 => (r = none) ∧ WI w2 ∧ EI w w2) := by
  have hE : EI w w := EI.rf
  refine sx_RP.step (pc2 := 1) (ls2 := [(0, .ref 111), (1, .int (nI k)), (2, .int (nI s)), (3, .int (nI c)), (4, .int (nI y))]) (st2 := [.ref 111]) (w3 := w) rfl rfl ?_
  refine sx_RP.gf (v := .ref 112) rfl rfl hI.1.o111 rfl rfl (show _ = 4 from rfl) ?_
  refine sx_RP.step (pc2 := 5) (ls2 := [(0, .ref 111), (1, .int (nI k)), (2, .int (nI s)), (3, .int (nI c)), (4, .int (nI y))]) (st2 := [.int 1, .ref 112]) (w3 := w) rfl rfl ?_
  refine sx_RP.ild (c := 1) rfl hI.1.a112.1 hI.1.a112.2 (sx_in_nI (show 1 < 172 by omega) (by decide)) (show (nI 1).toNatClampNeg = 1 from nI_clamp (by omega)) (show _ = 6 from rfl) ?_
  rw [en]
  refine sx_RP.step (pc2 := 8) (ls2 := [(5, .int (nI n)), (0, .ref 111), (1, .int (nI k)), (2, .int (nI s)), (3, .int (nI c)), (4, .int (nI y))]) (st2 := []) (w3 := w) rfl rfl ?_
  refine sx_RP.step (pc2 := 9) (ls2 := [(5, .int (nI n)), (0, .ref 111), (1, .int (nI k)), (2, .int (nI s)), (3, .int (nI c)), (4, .int (nI y))]) (st2 := [.ref 111]) (w3 := w) rfl rfl ?_
  refine sx_RP.gf (v := .ref 112) rfl rfl hI.1.o111 rfl rfl (show _ = 12 from rfl) ?_
  refine sx_RP.step (pc2 := 13) (ls2 := [(5, .int (nI n)), (0, .ref 111), (1, .int (nI k)), (2, .int (nI s)), (3, .int (nI c)), (4, .int (nI y))]) (st2 := [.int 1, .ref 112]) (w3 := w) rfl rfl ?_
  refine sx_RP.step (pc2 := 14) (ls2 := [(5, .int (nI n)), (0, .ref 111), (1, .int (nI k)), (2, .int (nI s)), (3, .int (nI c)), (4, .int (nI y))]) (st2 := [.int 1, .ref 112, .int 1, .ref 112]) (w3 := w) rfl rfl ?_
  refine sx_RP.ild (c := 1) rfl hI.1.a112.1 hI.1.a112.2 (sx_in_nI (show 1 < 172 by omega) (by decide)) (show (nI 1).toNatClampNeg = 1 from nI_clamp (by omega)) (show _ = 15 from rfl) ?_
  rw [en]
  refine sx_RP.step (pc2 := 16) (ls2 := [(5, .int (nI n)), (0, .ref 111), (1, .int (nI k)), (2, .int (nI s)), (3, .int (nI c)), (4, .int (nI y))]) (st2 := [.int 1, .int (nI n), .int 1, .ref 112]) (w3 := w) rfl rfl ?_
  refine sx_RP.step (pc2 := 17) (ls2 := [(5, .int (nI n)), (0, .ref 111), (1, .int (nI k)), (2, .int (nI s)), (3, .int (nI c)), (4, .int (nI y))]) (st2 := [.int ((nI n) + 1), .int 1, .ref 112]) (w3 := w) rfl rfl ?_
  rw [show ((nI n) + 1 : Int32) = nI (n + 1) from nI_add n 1]
  refine sx_RP.mSI (k := 1) hI hE (by decide) rfl rfl (by omega) (eOK_1 (inR.n (show (n + 1) ≤ 10 by omega))) (show _ = 18 from rfl) (fun w1 hI2 hE3 hk4 => ?_)
  refine sx_RP.step (pc2 := 19) (ls2 := [(5, .int (nI n)), (0, .ref 111), (1, .int (nI k)), (2, .int (nI s)), (3, .int (nI c)), (4, .int (nI y))]) (st2 := [.ref 111]) (w3 := w1) rfl rfl ?_
  refine sx_RP.step (pc2 := 21) (ls2 := [(5, .int (nI n)), (0, .ref 111), (1, .int (nI k)), (2, .int (nI s)), (3, .int (nI c)), (4, .int (nI y))]) (st2 := [.int (nI n), .ref 111]) (w3 := w1) rfl rfl ?_
  refine sx_RP.step (pc2 := 22) (ls2 := [(5, .int (nI n)), (0, .ref 111), (1, .int (nI k)), (2, .int (nI s)), (3, .int (nI c)), (4, .int (nI y))]) (st2 := [.int 0, .int (nI n), .ref 111]) (w3 := w1) rfl rfl ?_
  refine sx_RP.step (pc2 := 23) (ls2 := [(5, .int (nI n)), (0, .ref 111), (1, .int (nI k)), (2, .int (nI s)), (3, .int (nI c)), (4, .int (nI y))]) (st2 := [.int (nI k), .int 0, .int (nI n), .ref 111]) (w3 := w1) rfl rfl ?_
  refine sx_RP.callp (as2 := [.ref 111, .int (nI n), .int 0, .int (nI k)]) (rest2 := []) rfl rfl (sx_inv_v2 (mi := 153) (k := 110) (st := [.int (nI k), .int 0, .int (nI n), .ref 111]) (w := w1) rfl rfl hI2.1.o111 rfl rfl rfl) rfl rfl rfl (s154i_0 hI2 (show n < 10 by omega) (show k ≤ 5 by omega)) (show _ = 26 from rfl) ?_
  rintro r4 w6 ⟨⟨v5, rfl⟩, hI7, hE9⟩
  have hE8 := hE3.tr (hE9)
  show sx_RP _ _ _ _ _ [.int v5] _ _
  refine sx_RP.step (pc2 := 27) (ls2 := [(5, .int (nI n)), (0, .ref 111), (1, .int (nI k)), (2, .int (nI s)), (3, .int (nI c)), (4, .int (nI y))]) (st2 := []) (w3 := w6) rfl rfl ?_
  refine sx_RP.step (pc2 := 28) (ls2 := [(5, .int (nI n)), (0, .ref 111), (1, .int (nI k)), (2, .int (nI s)), (3, .int (nI c)), (4, .int (nI y))]) (st2 := [.ref 111]) (w3 := w6) rfl rfl ?_
  refine sx_RP.step (pc2 := 30) (ls2 := [(5, .int (nI n)), (0, .ref 111), (1, .int (nI k)), (2, .int (nI s)), (3, .int (nI c)), (4, .int (nI y))]) (st2 := [.int (nI n), .ref 111]) (w3 := w6) rfl rfl ?_
  refine sx_RP.step (pc2 := 31) (ls2 := [(5, .int (nI n)), (0, .ref 111), (1, .int (nI k)), (2, .int (nI s)), (3, .int (nI c)), (4, .int (nI y))]) (st2 := [.int 1, .int (nI n), .ref 111]) (w3 := w6) rfl rfl ?_
  refine sx_RP.step (pc2 := 32) (ls2 := [(5, .int (nI n)), (0, .ref 111), (1, .int (nI k)), (2, .int (nI s)), (3, .int (nI c)), (4, .int (nI y))]) (st2 := [.int (nI s), .int 1, .int (nI n), .ref 111]) (w3 := w6) rfl rfl ?_
  refine sx_RP.callp (as2 := [.ref 111, .int (nI n), .int 1, .int (nI s)]) (rest2 := []) rfl rfl (sx_inv_v2 (mi := 153) (k := 110) (st := [.int (nI s), .int 1, .int (nI n), .ref 111]) (w := w6) rfl rfl hI7.1.o111 rfl rfl rfl) rfl rfl rfl (s154i_1 hI7 (show n < 10 by omega) (show s ≤ 1 by omega)) (show _ = 35 from rfl) ?_
  rintro r4 w11 ⟨⟨v10, rfl⟩, hI12, hE14⟩
  have hE13 := hE8.tr (hE14)
  show sx_RP _ _ _ _ _ [.int v10] _ _
  refine sx_RP.step (pc2 := 36) (ls2 := [(5, .int (nI n)), (0, .ref 111), (1, .int (nI k)), (2, .int (nI s)), (3, .int (nI c)), (4, .int (nI y))]) (st2 := []) (w3 := w11) rfl rfl ?_
  refine sx_RP.step (pc2 := 37) (ls2 := [(5, .int (nI n)), (0, .ref 111), (1, .int (nI k)), (2, .int (nI s)), (3, .int (nI c)), (4, .int (nI y))]) (st2 := [.ref 111]) (w3 := w11) rfl rfl ?_
  refine sx_RP.step (pc2 := 39) (ls2 := [(5, .int (nI n)), (0, .ref 111), (1, .int (nI k)), (2, .int (nI s)), (3, .int (nI c)), (4, .int (nI y))]) (st2 := [.int (nI n), .ref 111]) (w3 := w11) rfl rfl ?_
  refine sx_RP.step (pc2 := 40) (ls2 := [(5, .int (nI n)), (0, .ref 111), (1, .int (nI k)), (2, .int (nI s)), (3, .int (nI c)), (4, .int (nI y))]) (st2 := [.int 2, .int (nI n), .ref 111]) (w3 := w11) rfl rfl ?_
  refine sx_RP.step (pc2 := 41) (ls2 := [(5, .int (nI n)), (0, .ref 111), (1, .int (nI k)), (2, .int (nI s)), (3, .int (nI c)), (4, .int (nI y))]) (st2 := [.int (nI c), .int 2, .int (nI n), .ref 111]) (w3 := w11) rfl rfl ?_
  refine sx_RP.callp (as2 := [.ref 111, .int (nI n), .int 2, .int (nI c)]) (rest2 := []) rfl rfl (sx_inv_v2 (mi := 153) (k := 110) (st := [.int (nI c), .int 2, .int (nI n), .ref 111]) (w := w11) rfl rfl hI12.1.o111 rfl rfl rfl) rfl rfl rfl (s154i_2 hI12 (show n < 10 by omega) (show c ≤ 47 by omega)) (show _ = 44 from rfl) ?_
  rintro r4 w16 ⟨⟨v15, rfl⟩, hI17, hE19⟩
  have hE18 := hE13.tr (hE19)
  show sx_RP _ _ _ _ _ [.int v15] _ _
  refine sx_RP.step (pc2 := 45) (ls2 := [(5, .int (nI n)), (0, .ref 111), (1, .int (nI k)), (2, .int (nI s)), (3, .int (nI c)), (4, .int (nI y))]) (st2 := []) (w3 := w16) rfl rfl ?_
  refine sx_RP.step (pc2 := 46) (ls2 := [(5, .int (nI n)), (0, .ref 111), (1, .int (nI k)), (2, .int (nI s)), (3, .int (nI c)), (4, .int (nI y))]) (st2 := [.ref 111]) (w3 := w16) rfl rfl ?_
  refine sx_RP.step (pc2 := 48) (ls2 := [(5, .int (nI n)), (0, .ref 111), (1, .int (nI k)), (2, .int (nI s)), (3, .int (nI c)), (4, .int (nI y))]) (st2 := [.int (nI n), .ref 111]) (w3 := w16) rfl rfl ?_
  refine sx_RP.step (pc2 := 49) (ls2 := [(5, .int (nI n)), (0, .ref 111), (1, .int (nI k)), (2, .int (nI s)), (3, .int (nI c)), (4, .int (nI y))]) (st2 := [.int 3, .int (nI n), .ref 111]) (w3 := w16) rfl rfl ?_
  refine sx_RP.step (pc2 := 51) (ls2 := [(5, .int (nI n)), (0, .ref 111), (1, .int (nI k)), (2, .int (nI s)), (3, .int (nI c)), (4, .int (nI y))]) (st2 := [.int (nI y), .int 3, .int (nI n), .ref 111]) (w3 := w16) rfl rfl ?_
  refine sx_RP.callp (as2 := [.ref 111, .int (nI n), .int 3, .int (nI y)]) (rest2 := []) rfl rfl (sx_inv_v2 (mi := 153) (k := 110) (st := [.int (nI y), .int 3, .int (nI n), .ref 111]) (w := w16) rfl rfl hI17.1.o111 rfl rfl rfl) rfl rfl rfl (s154i_3 hI17 (show n < 10 by omega) (show y ≤ 3 by omega)) (show _ = 54 from rfl) ?_
  rintro r4 w21 ⟨⟨v20, rfl⟩, hI22, hE24⟩
  have hE23 := hE18.tr (hE24)
  show sx_RP _ _ _ _ _ [.int v20] _ _
  refine sx_RP.step (pc2 := 55) (ls2 := [(5, .int (nI n)), (0, .ref 111), (1, .int (nI k)), (2, .int (nI s)), (3, .int (nI c)), (4, .int (nI y))]) (st2 := []) (w3 := w21) rfl rfl ?_
  refine sx_RP.step (pc2 := 56) (ls2 := [(5, .int (nI n)), (0, .ref 111), (1, .int (nI k)), (2, .int (nI s)), (3, .int (nI c)), (4, .int (nI y))]) (st2 := [.ref 111]) (w3 := w21) rfl rfl ?_
  refine sx_RP.step (pc2 := 58) (ls2 := [(5, .int (nI n)), (0, .ref 111), (1, .int (nI k)), (2, .int (nI s)), (3, .int (nI c)), (4, .int (nI y))]) (st2 := [.int (nI n), .ref 111]) (w3 := w21) rfl rfl ?_
  refine sx_RP.step (pc2 := 59) (ls2 := [(5, .int (nI n)), (0, .ref 111), (1, .int (nI k)), (2, .int (nI s)), (3, .int (nI c)), (4, .int (nI y))]) (st2 := [.int 4, .int (nI n), .ref 111]) (w3 := w21) rfl rfl ?_
  refine sx_RP.step (pc2 := 60) (ls2 := [(5, .int (nI n)), (0, .ref 111), (1, .int (nI k)), (2, .int (nI s)), (3, .int (nI c)), (4, .int (nI y))]) (st2 := [.int 0, .int 4, .int (nI n), .ref 111]) (w3 := w21) rfl rfl ?_
  refine sx_RP.callp (as2 := [.ref 111, .int (nI n), .int 4, .int 0]) (rest2 := []) rfl rfl (sx_inv_v2 (mi := 153) (k := 110) (st := [.int 0, .int 4, .int (nI n), .ref 111]) (w := w21) rfl rfl hI22.1.o111 rfl rfl rfl) rfl rfl rfl (s154i_4 hI22 (show n < 10 by omega) 0) (show _ = 63 from rfl) ?_
  rintro r4 w26 ⟨⟨v25, rfl⟩, hI27, hE29⟩
  have hE28 := hE23.tr (hE29)
  show sx_RP _ _ _ _ _ [.int v25] _ _
  refine sx_RP.step (pc2 := 64) (ls2 := [(5, .int (nI n)), (0, .ref 111), (1, .int (nI k)), (2, .int (nI s)), (3, .int (nI c)), (4, .int (nI y))]) (st2 := []) (w3 := w26) rfl rfl ?_
  refine sx_RP.step (pc2 := 65) (ls2 := [(5, .int (nI n)), (0, .ref 111), (1, .int (nI k)), (2, .int (nI s)), (3, .int (nI c)), (4, .int (nI y))]) (st2 := [.ref 111]) (w3 := w26) rfl rfl ?_
  refine sx_RP.step (pc2 := 67) (ls2 := [(5, .int (nI n)), (0, .ref 111), (1, .int (nI k)), (2, .int (nI s)), (3, .int (nI c)), (4, .int (nI y))]) (st2 := [.int (nI n), .ref 111]) (w3 := w26) rfl rfl ?_
  refine sx_RP.step (pc2 := 68) (ls2 := [(5, .int (nI n)), (0, .ref 111), (1, .int (nI k)), (2, .int (nI s)), (3, .int (nI c)), (4, .int (nI y))]) (st2 := [.int 5, .int (nI n), .ref 111]) (w3 := w26) rfl rfl ?_
  refine sx_RP.step (pc2 := 69) (ls2 := [(5, .int (nI n)), (0, .ref 111), (1, .int (nI k)), (2, .int (nI s)), (3, .int (nI c)), (4, .int (nI y))]) (st2 := [.int 0, .int 5, .int (nI n), .ref 111]) (w3 := w26) rfl rfl ?_
  refine sx_RP.callp (as2 := [.ref 111, .int (nI n), .int 5, .int 0]) (rest2 := []) rfl rfl (sx_inv_v2 (mi := 153) (k := 110) (st := [.int 0, .int 5, .int (nI n), .ref 111]) (w := w26) rfl rfl hI27.1.o111 rfl rfl rfl) rfl rfl rfl (s154i_5 hI27 (show n < 10 by omega) (show 0 ≤ 1 by omega)) (show _ = 72 from rfl) ?_
  rintro r4 w31 ⟨⟨v30, rfl⟩, hI32, hE34⟩
  have hE33 := hE28.tr (hE34)
  show sx_RP _ _ _ _ _ [.int v30] _ _
  refine sx_RP.step (pc2 := 73) (ls2 := [(5, .int (nI n)), (0, .ref 111), (1, .int (nI k)), (2, .int (nI s)), (3, .int (nI c)), (4, .int (nI y))]) (st2 := []) (w3 := w31) rfl rfl ?_
  refine sx_RP.ret (r := none) rfl rfl ?_
  exact ⟨rfl, hI32, hE33⟩
set_option maxRecDepth 20000 in
set_option maxHeartbeats 4000000 in
theorem s224k {xs : Option (List Int32)} {d : Nat} {w : List sx_C} (hI : WI w) {c k : Nat} (hc : c < 48) (hk : k ≤ 4) : sx_RP xs d 224 0 (lv_args 0 [.ref 111, .int (nI c), .int (nI k)]) [] w (fun r w2 => (r = none ∧ fi w2 111 14 = fi w 111 14) ∧ WI w2 ∧ EI w w2) := by
  have hE : EI w w := EI.rf
  refine sx_RP.step (pc2 := 1) (ls2 := [(0, .ref 111), (1, .int (nI c)), (2, .int (nI k))]) (st2 := [.int (nI k)]) (w3 := w) rfl rfl ?_
  refine sx_RP.step (pc2 := 2) (ls2 := [(0, .ref 111), (1, .int (nI c)), (2, .int (nI k))]) (st2 := [.int 4, .int (nI k)]) (w3 := w) rfl rfl ?_
  refine sx_RP.br (p1 := 18) (l1 := [(0, .ref 111), (1, .int (nI c)), (2, .int (nI k))]) (s1 := []) (v1 := w) (p2 := 5) (l2 := [(0, .ref 111), (1, .int (nI c)), (2, .int (nI k))]) (s2 := []) (v2 := w) rfl rfl (fun q1 => ?_) (fun q1 => ?_)
  · replace q1 := of_decide_eq_true q1
    replace q1 := mt (nI_eq (a := k) (b := 4) (by omega) (by omega)).mpr q1
    refine sx_RP.step (pc2 := 19) (ls2 := [(0, .ref 111), (1, .int (nI c)), (2, .int (nI k))]) (st2 := [.ref 111]) (w3 := w) rfl rfl ?_
    refine sx_RP.gf (v := .ref 112) rfl rfl hI.1.o111 rfl rfl (show _ = 22 from rfl) ?_
    refine sx_RP.step (pc2 := 24) (ls2 := [(0, .ref 111), (1, .int (nI c)), (2, .int (nI k))]) (st2 := [.int 7, .ref 112]) (w3 := w) rfl rfl ?_
    refine sx_RP.step (pc2 := 25) (ls2 := [(0, .ref 111), (1, .int (nI c)), (2, .int (nI k))]) (st2 := [.int (nI c), .int 7, .ref 112]) (w3 := w) rfl rfl ?_
    refine sx_RP.step (pc2 := 26) (ls2 := [(0, .ref 111), (1, .int (nI c)), (2, .int (nI k))]) (st2 := [.int (7 + (nI c)), .ref 112]) (w3 := w) rfl rfl ?_
    rw [show (7 + (nI c) : Int32) = nI (7 + c) from nI_add 7 c]
    refine sx_RP.step (pc2 := 27) (ls2 := [(0, .ref 111), (1, .int (nI c)), (2, .int (nI k))]) (st2 := [.int (nI k), .int (nI (7 + c)), .ref 112]) (w3 := w) rfl rfl ?_
    refine sx_RP.mSkI (k := (7 + c)) hI hE rfl rfl (by omega) (eOK_st (by omega) ⟨k, by omega, rfl⟩) (show _ = 28 from rfl) (fun w2 hI3 hE4 ht5 => ?_)
    refine sx_RP.ret (r := none) rfl rfl ?_
    exact ⟨⟨rfl, ht5⟩, hI3, hE4⟩
  · replace q1 := Decidable.not_not.mp (of_decide_eq_false q1)
    replace q1 := (nI_eq (a := k) (b := 4) (by omega) (by omega)).mp q1
    refine sx_RP.step (pc2 := 6) (ls2 := [(0, .ref 111), (1, .int (nI c)), (2, .int (nI k))]) (st2 := [.ref 111]) (w3 := w) rfl rfl ?_
    refine sx_RP.gf (v := .ref 112) rfl rfl hI.1.o111 rfl rfl (show _ = 9 from rfl) ?_
    refine sx_RP.step (pc2 := 11) (ls2 := [(0, .ref 111), (1, .int (nI c)), (2, .int (nI k))]) (st2 := [.int 55, .ref 112]) (w3 := w) rfl rfl ?_
    refine sx_RP.step (pc2 := 12) (ls2 := [(0, .ref 111), (1, .int (nI c)), (2, .int (nI k))]) (st2 := [.int (nI c), .int 55, .ref 112]) (w3 := w) rfl rfl ?_
    refine sx_RP.step (pc2 := 13) (ls2 := [(0, .ref 111), (1, .int (nI c)), (2, .int (nI k))]) (st2 := [.int (55 + (nI c)), .ref 112]) (w3 := w) rfl rfl ?_
    rw [show (55 + (nI c) : Int32) = nI (55 + c) from nI_add 55 c]
    refine sx_RP.step (pc2 := 14) (ls2 := [(0, .ref 111), (1, .int (nI c)), (2, .int (nI k))]) (st2 := [.int 1, .int (nI (55 + c)), .ref 112]) (w3 := w) rfl rfl ?_
    refine sx_RP.mSkI (k := (55 + c)) hI hE rfl rfl (by omega) (eOK_n (by omega)) (show _ = 15 from rfl) (fun w6 hI7 hE8 ht9 => ?_)
    refine sx_RP.step (pc2 := 28) (ls2 := [(0, .ref 111), (1, .int (nI c)), (2, .int (nI k))]) (st2 := []) (w3 := w6) rfl rfl ?_
    refine sx_RP.ret (r := none) rfl rfl ?_
    exact ⟨⟨rfl, ht9⟩, hI7, hE8⟩
set_option maxRecDepth 20000 in
set_option maxHeartbeats 4000000 in
theorem s219c {xs : Option (List Int32)} {d k v : Nat} {w0 : List sx_C} (hk : k ≤ 4) (hv : v ≤ 47) : ∀ (fz j : Nat) (w : List sx_C), v + 1 ≤ j + fz → j ≤ 48 → fi w 111 14 = nI v → WI w → EI w0 w → sx_RP xs (d + 5) 219 62 [(0, .ref 111), (1, .int (nI k)), (3, .int (nI j))] [] w (fun r w2 => (r = some (.int 0) ∨ r = some (.int 1)) ∧ WI w2 ∧ EI w0 w2)
  | fz, j, w, h, hj, ev, hI, hE => by
    refine sx_RP.step (pc2 := 63) (ls2 := [(0, .ref 111), (1, .int (nI k)), (3, .int (nI j))]) (st2 := [.int (nI j)]) (w3 := w) rfl rfl ?_
    refine sx_RP.step (pc2 := 64) (ls2 := [(0, .ref 111), (1, .int (nI k)), (3, .int (nI j))]) (st2 := [.ref 111, .int (nI j)]) (w3 := w) rfl rfl ?_
    refine sx_RP.gf (v := .int (fi w 111 14)) rfl rfl hI.1.o111 rfl rfl (show _ = 67 from rfl) ?_
    rw [ev]
    refine sx_RP.br (p1 := 82) (l1 := [(0, .ref 111), (1, .int (nI k)), (3, .int (nI j))]) (s1 := []) (v1 := w) (p2 := 70) (l2 := [(0, .ref 111), (1, .int (nI k)), (3, .int (nI j))]) (s2 := []) (v2 := w) rfl rfl (fun q1 => ?_) (fun q1 => ?_)
    · replace q1 := of_decide_eq_true q1
      replace q1 := (nI_ltI (a := v) (b := j) (by omega) (by omega)).mp q1
      refine sx_RP.step (pc2 := 83) (ls2 := [(0, .ref 111), (1, .int (nI k)), (3, .int (nI j))]) (st2 := [.int 1]) (w3 := w) rfl rfl ?_
      refine sx_RP.ret (r := (some (.int 1))) rfl rfl ?_
      exact ⟨Or.inr rfl, hI, hE⟩
    · replace q1 := of_decide_eq_false q1
      replace q1 := mt (nI_ltI (a := v) (b := j) (by omega) (by omega)).mpr q1
      refine sx_RP.step (pc2 := 71) (ls2 := [(0, .ref 111), (1, .int (nI k)), (3, .int (nI j))]) (st2 := [.ref 111]) (w3 := w) rfl rfl ?_
      refine sx_RP.step (pc2 := 72) (ls2 := [(0, .ref 111), (1, .int (nI k)), (3, .int (nI j))]) (st2 := [.int (nI j), .ref 111]) (w3 := w) rfl rfl ?_
      refine sx_RP.step (pc2 := 73) (ls2 := [(0, .ref 111), (1, .int (nI k)), (3, .int (nI j))]) (st2 := [.int (nI k), .int (nI j), .ref 111]) (w3 := w) rfl rfl ?_
      refine sx_RP.callp (as2 := [.ref 111, .int (nI j), .int (nI k)]) (rest2 := []) rfl rfl (sx_inv_v2 (mi := 219) (k := 270) (st := [.int (nI k), .int (nI j), .ref 111]) (w := w) rfl rfl hI.1.o111 rfl rfl rfl) rfl rfl rfl (s224k hI (show j < 48 by omega) (show k ≤ 4 by omega)) (show _ = 76 from rfl) ?_
      rintro r4 w3 ⟨⟨rfl, ht2⟩, hI4, hE6⟩
      have hE5 := hE.tr (hE6)
      have ex7 := ht2.trans ev
      show sx_RP _ _ _ _ _ [] _ _
      refine sx_RP.step (pc2 := 79) (ls2 := [(3, .int ((nI j) + 1)), (0, .ref 111), (1, .int (nI k))]) (st2 := []) (w3 := w3) rfl rfl ?_
      rw [nI_1 j]
      refine sx_RP.step (pc2 := 62) (ls2 := [(3, .int (nI (j + 1))), (0, .ref 111), (1, .int (nI k))]) (st2 := []) (w3 := w3) rfl rfl ?_
      match fz, h with
      | 0, h => exact absurd h (by omega)
      | fz + 1, h => exact sx_RP.ls (sx_lr.cons rfl (sx_lr.cons rfl (sx_lr.cons rfl sx_lr.nil))) (s219c hk hv fz (j + 1) w3 (by omega) (by omega) ex7 hI4 hE5)
set_option maxRecDepth 20000 in
set_option maxHeartbeats 4000000 in
theorem s219b {xs : Option (List Int32)} {d k : Nat} {w0 : List sx_C} (hk : k ≤ 4) : ∀ (fz j : Nat) (w : List sx_C), 48 ≤ j + fz → j ≤ 48 → WI w → EI w0 w → sx_RP xs (d + 5) 219 2 [(0, .ref 111), (1, .int (nI k)), (2, .int (nI j - 1))] [] w (fun r w2 => (r = some (.int 0) ∨ r = some (.int 1)) ∧ WI w2 ∧ EI w0 w2)
  | fz, j, w, h, hj, hI, hE => by
    refine sx_RP.step (pc2 := 3) (ls2 := [(0, .ref 111), (1, .int (nI k)), (2, .int (nI j - 1))]) (st2 := [.ref 111]) (w3 := w) rfl rfl ?_
    refine sx_RP.step (pc2 := 4) (ls2 := [(0, .ref 111), (1, .int (nI k)), (2, .int (nI j - 1))]) (st2 := [.int (nI j - 1), .ref 111]) (w3 := w) rfl rfl ?_
    refine sx_RP.step (pc2 := 5) (ls2 := [(0, .ref 111), (1, .int (nI k)), (2, .int (nI j - 1))]) (st2 := [.int 1, .int (nI j - 1), .ref 111]) (w3 := w) rfl rfl ?_
    refine sx_RP.step (pc2 := 6) (ls2 := [(0, .ref 111), (1, .int (nI k)), (2, .int (nI j - 1))]) (st2 := [.int (nI j - 1 + 1), .ref 111]) (w3 := w) rfl rfl ?_
    rw [show nI j - 1 + 1 = nI j from Int32.sub_add_cancel ..]
    refine sx_RP.step (pc2 := 8) (ls2 := [(0, .ref 111), (1, .int (nI k)), (2, .int (nI j - 1))]) (st2 := [.int 47, .int (nI j), .ref 111]) (w3 := w) rfl rfl ?_
    refine sx_RP.callp (as2 := [.ref 111, .int (nI j), .int 47]) (rest2 := []) rfl rfl (sx_inv_v2 (mi := 219) (k := 267) (st := [.int 47, .int (nI j), .ref 111]) (w := w) rfl rfl hI.1.o111 rfl rfl rfl) rfl rfl rfl (s220 (m := j) (n := 47) hI (by omega) (by omega)) (show _ = 11 from rfl) ?_
    rintro r4 w5 ⟨(rfl | ⟨x1, ⟨hx2, hx3, ex4⟩, rfl⟩), hI6, hE8⟩
    · have hE7 := hE.tr (hE8.ei)
      show sx_RP _ _ _ _ _ [.int 0] _ _
      refine sx_RP.step (pc2 := 14) (ls2 := [(0, .ref 111), (1, .int (nI k)), (2, .int (nI j - 1))]) (st2 := []) (w3 := w5) rfl rfl ?_
      refine sx_RP.step (pc2 := 15) (ls2 := [(0, .ref 111), (1, .int (nI k)), (2, .int (nI j - 1))]) (st2 := [.int 0]) (w3 := w5) rfl rfl ?_
      refine sx_RP.ret (r := (some (.int 0))) rfl rfl ?_
      exact ⟨Or.inl rfl, hI6, hE7⟩
    · have hE7 := hE.tr (hE8.ei)
      show sx_RP _ _ _ _ _ [.int 1] _ _
      refine sx_RP.step (pc2 := 16) (ls2 := [(0, .ref 111), (1, .int (nI k)), (2, .int (nI j - 1))]) (st2 := []) (w3 := w5) rfl rfl ?_
      refine sx_RP.step (pc2 := 17) (ls2 := [(0, .ref 111), (1, .int (nI k)), (2, .int (nI j - 1))]) (st2 := [.ref 111]) (w3 := w5) rfl rfl ?_
      refine sx_RP.gf (v := .int (fi w5 111 14)) rfl rfl hI6.1.o111 rfl rfl (show _ = 20 from rfl) ?_
      rw [ex4]
      refine sx_RP.step (pc2 := 21) (ls2 := [(2, .int (nI x1)), (0, .ref 111), (1, .int (nI k))]) (st2 := []) (w3 := w5) rfl rfl ?_
      refine sx_RP.step (pc2 := 22) (ls2 := [(2, .int (nI x1)), (0, .ref 111), (1, .int (nI k))]) (st2 := [.ref 111]) (w3 := w5) rfl rfl ?_
      refine sx_RP.step (pc2 := 23) (ls2 := [(2, .int (nI x1)), (0, .ref 111), (1, .int (nI k))]) (st2 := [.int (nI x1), .ref 111]) (w3 := w5) rfl rfl ?_
      refine sx_RP.step (pc2 := 24) (ls2 := [(2, .int (nI x1)), (0, .ref 111), (1, .int (nI k))]) (st2 := [.int (nI k), .int (nI x1), .ref 111]) (w3 := w5) rfl rfl ?_
      refine sx_RP.callp (as2 := [.ref 111, .int (nI x1), .int (nI k)]) (rest2 := []) rfl rfl (sx_inv_v2 (mi := 219) (k := 270) (st := [.int (nI k), .int (nI x1), .ref 111]) (w := w5) rfl rfl hI6.1.o111 rfl rfl rfl) rfl rfl rfl (s224k hI6 (show x1 < 48 by omega) (show k ≤ 4 by omega)) (show _ = 27 from rfl) ?_
      rintro r4 w10 ⟨⟨rfl, ht9⟩, hI11, hE13⟩
      have hE12 := hE7.tr (hE13)
      have ex14 := ht9.trans ex4
      show sx_RP _ _ _ _ _ [] _ _
      refine sx_RP.step (pc2 := 28) (ls2 := [(2, .int (nI x1)), (0, .ref 111), (1, .int (nI k))]) (st2 := [.ref 111]) (w3 := w10) rfl rfl ?_
      refine sx_RP.callp (as2 := [.ref 111]) (rest2 := []) rfl rfl (sx_inv_v2 (mi := 219) (k := 273) (st := [.ref 111]) (w := w10) rfl rfl hI11.1.o111 rfl rfl rfl) rfl rfl rfl (s225 hI11 ) (show _ = 31 from rfl) ?_
      rintro r4 w15 ⟨(rfl | rfl), hI16, hE18⟩
      · have hE17 := hE12.tr (hE18.ei)
        show sx_RP _ _ _ _ _ [.int 0] _ _
        refine sx_RP.step (pc2 := 34) (ls2 := [(2, .int (nI x1)), (0, .ref 111), (1, .int (nI k))]) (st2 := []) (w3 := w15) rfl rfl ?_
        refine sx_RP.step (pc2 := 35) (ls2 := [(2, .int (nI x1)), (0, .ref 111), (1, .int (nI k))]) (st2 := [.ref 111]) (w3 := w15) rfl rfl ?_
        refine sx_RP.step (pc2 := 38) (ls2 := [(2, .int (nI x1)), (0, .ref 111), (1, .int (nI k))]) (st2 := [.float 116, .ref 111]) (w3 := w15) rfl rfl ?_
        refine sx_RP.callp (as2 := [.ref 111, .float 116]) (rest2 := []) rfl rfl (sx_inv_v2 (mi := 219) (k := 243) (st := [.float 116, .ref 111]) (w := w15) rfl rfl hI16.1.o111 rfl rfl rfl) rfl rfl rfl (s213 (k := 116) hI16 (by decide) rfl (by decide)) (show _ = 41 from rfl) ?_
        rintro r4 w19 ⟨(rfl | rfl), hI20, hE22⟩
        · have hE21 := hE17.tr (hE22.ei)
          show sx_RP _ _ _ _ _ [.int 0] _ _
          refine sx_RP.step (pc2 := 44) (ls2 := [(2, .int (nI x1)), (0, .ref 111), (1, .int (nI k))]) (st2 := []) (w3 := w19) rfl rfl ?_
          refine sx_RP.step (pc2 := 45) (ls2 := [(2, .int (nI x1)), (0, .ref 111), (1, .int (nI k))]) (st2 := [.int 1]) (w3 := w19) rfl rfl ?_
          refine sx_RP.ret (r := (some (.int 1))) rfl rfl ?_
          exact ⟨Or.inr rfl, hI20, hE21⟩
        · have hE21 := hE17.tr (hE22.ei)
          show sx_RP _ _ _ _ _ [.int 1] _ _
          refine sx_RP.step (pc2 := 46) (ls2 := [(2, .int (nI x1)), (0, .ref 111), (1, .int (nI k))]) (st2 := []) (w3 := w19) rfl rfl ?_
          refine sx_RP.step (pc2 := 47) (ls2 := [(2, .int (nI x1)), (0, .ref 111), (1, .int (nI k))]) (st2 := [.ref 111]) (w3 := w19) rfl rfl ?_
          refine sx_RP.step (pc2 := 48) (ls2 := [(2, .int (nI x1)), (0, .ref 111), (1, .int (nI k))]) (st2 := [.int (nI x1), .ref 111]) (w3 := w19) rfl rfl ?_
          refine sx_RP.step (pc2 := 49) (ls2 := [(2, .int (nI x1)), (0, .ref 111), (1, .int (nI k))]) (st2 := [.int 1, .int (nI x1), .ref 111]) (w3 := w19) rfl rfl ?_
          refine sx_RP.step (pc2 := 50) (ls2 := [(2, .int (nI x1)), (0, .ref 111), (1, .int (nI k))]) (st2 := [.int ((nI x1) + 1), .ref 111]) (w3 := w19) rfl rfl ?_
          rw [show ((nI x1) + 1 : Int32) = nI (x1 + 1) from nI_add x1 1]
          refine sx_RP.step (pc2 := 52) (ls2 := [(2, .int (nI x1)), (0, .ref 111), (1, .int (nI k))]) (st2 := [.int 47, .int (nI (x1 + 1)), .ref 111]) (w3 := w19) rfl rfl ?_
          refine sx_RP.callp (as2 := [.ref 111, .int (nI (x1 + 1)), .int 47]) (rest2 := []) rfl rfl (sx_inv_v2 (mi := 219) (k := 267) (st := [.int 47, .int (nI (x1 + 1)), .ref 111]) (w := w19) rfl rfl hI20.1.o111 rfl rfl rfl) rfl rfl rfl (s220 (m := (x1 + 1)) (n := 47) hI20 (by omega) (by omega)) (show _ = 55 from rfl) ?_
          rintro r4 w27 ⟨(rfl | ⟨x23, ⟨hx24, hx25, ex26⟩, rfl⟩), hI28, hE30⟩
          · have hE29 := hE21.tr (hE30.ei)
            show sx_RP _ _ _ _ _ [.int 0] _ _
            refine sx_RP.step (pc2 := 58) (ls2 := [(2, .int (nI x1)), (0, .ref 111), (1, .int (nI k))]) (st2 := []) (w3 := w27) rfl rfl ?_
            refine sx_RP.step (pc2 := 59) (ls2 := [(2, .int (nI x1)), (0, .ref 111), (1, .int (nI k))]) (st2 := [.int 0]) (w3 := w27) rfl rfl ?_
            refine sx_RP.ret (r := (some (.int 0))) rfl rfl ?_
            exact ⟨Or.inl rfl, hI28, hE29⟩
          · have hE29 := hE21.tr (hE30.ei)
            show sx_RP _ _ _ _ _ [.int 1] _ _
            refine sx_RP.step (pc2 := 60) (ls2 := [(2, .int (nI x1)), (0, .ref 111), (1, .int (nI k))]) (st2 := []) (w3 := w27) rfl rfl ?_
            refine sx_RP.step (pc2 := 61) (ls2 := [(2, .int (nI x1)), (0, .ref 111), (1, .int (nI k))]) (st2 := [.int (nI x1)]) (w3 := w27) rfl rfl ?_
            refine sx_RP.step (pc2 := 62) (ls2 := [(3, .int (nI x1)), (2, .int (nI x1)), (0, .ref 111), (1, .int (nI k))]) (st2 := []) (w3 := w27) rfl rfl ?_
            exact sx_RP.ls (sx_lr.cons rfl (sx_lr.cons rfl (sx_lr.cons rfl sx_lr.nil))) (s219c hk (v := x23) (by omega) 48 x1 w27 (by omega) (by omega) ex26 hI28 hE29)
      · have hE17 := hE12.tr (hE18.ei)
        show sx_RP _ _ _ _ _ [.int 1] _ _
        refine sx_RP.step (pc2 := 2) (ls2 := [(2, .int (nI x1)), (0, .ref 111), (1, .int (nI k))]) (st2 := []) (w3 := w15) rfl rfl ?_
        match fz, h with
        | 0, h => exact absurd h (by omega)
        | fz + 1, h =>
          have IH := s219b (xs := xs) (d := d) hk fz (x1 + 1) w15 (by omega) (by omega) hI16 hE17
          rw [fd_s1] at IH
          exact sx_RP.ls (sx_lr.cons rfl (sx_lr.cons rfl (sx_lr.cons rfl sx_lr.nil))) IH
set_option maxRecDepth 20000 in
set_option maxHeartbeats 4000000 in
theorem s219 {xs : Option (List Int32)} {d : Nat} {w : List sx_C} (hI : WI w) {k : Nat} (hk : k ≤ 4) : sx_RP xs (d + 5) 219 0 (lv_args 0 [.ref 111, .int (nI k)]) [] w (fun r w2 => (r = some (.int 0) ∨ r = some (.int 1)) ∧ WI w2 ∧ EI w w2) := by
  have hE : EI w w := EI.rf
  refine sx_RP.step (pc2 := 1) (ls2 := [(0, .ref 111), (1, .int (nI k))]) (st2 := [.int (-1)]) (w3 := w) rfl rfl ?_
  refine sx_RP.step (pc2 := 2) (ls2 := [(2, .int (-1)), (0, .ref 111), (1, .int (nI k))]) (st2 := []) (w3 := w) rfl rfl ?_
  exact sx_RP.ls (sx_lr.cons rfl (sx_lr.cons rfl (sx_lr.cons rfl sx_lr.nil))) (s219b hk 48 0 w (by omega) (by omega) hI hE)
