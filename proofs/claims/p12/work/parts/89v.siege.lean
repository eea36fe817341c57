-- siege of the reference
theorem nP_ge {n p z : Nat} {X : Nat → Nat} (h : z ≤ p) : z ≤ nP n X p := Nat.le_trans h (Nat.le_trans beT_ge rE_ge)
theorem wtT_ge {n p lo hi z : Nat} {X : Nat → Nat} {k : UInt32} (h : z ≤ p) : z ≤ (wtT n X p k lo hi).2 := by
  unfold wtT
  split
  · exact nP_ge h
  · exact h
theorem disT_ge {n p : Nat} {X : Nat → Nat} {b : BB} {z : Nat} (h : z ≤ p) : z ≤ (disT n X p b).2.1 := by
  unfold disT
  repeat' split
  all_goals first | exact nP_ge (nP_ge h) | exact nP_ge h | exact h
theorem galT_ge {n k p : Nat} {X : Nat → Nat} {b : BB} {z : Nat} (h : z ≤ p) : z ≤ (galT n X k p b).2.1 := by
  unfold galT
  repeat' split
  all_goals first | exact h | exact nP_ge h | exact wtT_ge (nP_ge (nP_ge h)) | exact wtT_ge (nP_ge (wtT_ge (nP_ge (nP_ge h)))) | exact nP_ge (wtT_ge (nP_ge (wtT_ge (nP_ge (nP_ge h)))))
theorem br2_ge {n p : Nat} {X : Nat → Nat} {b : BB} {z : Nat} (h : z ≤ p) : z ≤ (br2 n X p b).2.1 := by
  unfold br2
  repeat' split
  all_goals first | exact h | exact nP_ge (wtT_ge h) | exact wtT_ge h
theorem br1_ge {n p : Nat} {X : Nat → Nat} {b : BB} {z : Nat} (h : z ≤ p) : z ≤ (br1 n X p b).2.1 := by
  unfold br1
  repeat' split
  all_goals first | exact br2_ge h | exact br2_ge (nP_ge (wtT_ge h)) | exact wtT_ge h
theorem breT_ge {n p : Nat} {X : Nat → Nat} {b : BB} {z : Nat} (h : z ≤ p) : z ≤ (breT n X p b).2.1 := by
  unfold breT
  split
  · exact br1_ge (nP_ge (nP_ge h))
  · exact nP_ge h
theorem grT_ge {n l p : Nat} {X : Nat → Nat} {b : BB} {z : Nat} (h : z ≤ p) : z ≤ (grT n X b l p).2.1 := by
  unfold grT
  repeat' split
  all_goals first | exact h | exact nP_ge (nP_ge h) | exact nP_ge h
theorem grL_ge {n : Nat} {X : Nat → Nat} {b : BB} {z : Nat} : ∀ f l p, z ≤ p → z ≤ (grL n X b f l p).2.1
  | 0, l, p, h => grT_ge h
  | f + 1, l, p, h => by
    unfold grL
    split
    · split
      · exact grL_ge f _ _ (nP_ge h)
      · exact h
    · exact grT_ge h
theorem groT_ge {n p : Nat} {X : Nat → Nat} {b : BB} {z : Nat} (h : z ≤ p) : z ≤ (groT n X p b).2.1 := by
  unfold groT
  split
  · exact grL_ge _ _ _ (nP_ge (nP_ge h))
  · exact nP_ge h
theorem itT_ge {n p : Nat} {X : Nat → Nat} {b : BB} {z : Nat} (h : z ≤ p) : z ≤ (itT n X p b).2.1 := by
  unfold itT
  repeat' split
  all_goals first | exact disT_ge h | exact breT_ge h | exact galT_ge h | exact groT_ge h | exact h
theorem bA_59 {n i : Nat} {X : Nat → Nat} (hX : i < n → X i < 256) : bA n X i = 59 ↔ (i < n ∧ X i = 59) := by
  unfold bA
  split
  · rename_i h
    rw [show (59 : Int32) = nI 59 from rfl, nI_eq (by have := hX h; omega) (by decide)]
    exact ⟨fun z => ⟨h, z⟩, fun z => z.2⟩
  · rename_i h
    exact ⟨fun z => absurd z (by decide), fun z => absurd z.1 h⟩
theorem sort_3 : ∀ c : Fin 256, sortN c.val = 3 ↔ c.val = 59 := by decide +kernel
theorem so_3 {n p : Nat} {X : Nat → Nat} (hX : ∀ i, i < n → X i < 256) : soT n X p = 3 ↔ (p < n ∧ X p = 59) := by
  unfold soT
  split
  · rename_i h
    rw [sort_3 ⟨X p, hX p h⟩]
    exact ⟨fun z => ⟨h, z⟩, fun z => z.2⟩
  · rename_i h
    exact ⟨fun z => absurd z (by decide), fun z => absurd z.1 h⟩
theorem so_0 {n p : Nat} {X : Nat → Nat} (hX : ∀ i, i < n → X i < 256) : soT n X p = 0 ↔ ¬ p < n := by
  unfold soT
  split
  · rename_i h
    have := (sort_le ⟨X p, hX p h⟩).1
    exact ⟨fun z => absurd z (by show ¬ sortN (X p) = 0; have t : 1 ≤ sortN (X p) := this; omega), fun z => absurd h z⟩
  · rename_i h
    exact ⟨fun _ => h, fun _ => rfl⟩
theorem be_3 {n p : Nat} {X : Nat → Nat} (h : p < n) (h3 : sortN (X p) = 3) : beT n X p = p + 1 := by
  unfold beT
  rw [if_pos h, h3, if_neg (by decide), if_neg (by decide)]
def OE (w w2 : List sx_C) : Prop := (∀ a, a ≠ 111 → a ≠ 112 → w2[a]? = w[a]?) ∧ ∀ j, j < 11 → fi w2 111 j = fi w 111 j
theorem OM.oe {w w2 : List sx_C} (h : OM w w2) : OE w w2 := ⟨h.1, fun j hj => h.2 j (by omega)⟩
theorem OE.tr {w w1 w2 : List sx_C} (h : OE w w1) (h2 : OE w1 w2) : OE w w2 := ⟨fun a h3 h4 => (h2.1 a h3 h4).trans (h.1 a h3 h4), fun j hj => (h2.2 j hj).trans (h.2 j hj)⟩
theorem OE.st {w w2 : List sx_C} (h : Same 112 w w2) : OE w w2 := (OM.st h).oe
theorem row_u {w : List sx_C} {b : BB} (hI : WI w) (hB : rowB (ia w 112) = b) : b.1.length ≤ 10 ∧ b.2.1.length ≤ 9 := by
  rw [← hB]
  unfold rowB
  rw [mkB_len1, mkB_len2]
  exact ⟨hI.manyM (by decide), hI.dishedM (by decide)⟩
set_option maxRecDepth 20000 in
set_option maxHeartbeats 4000000 in
theorem y210a {xs : Option (List Int32)} {d : Nat} {w : List sx_C} (hI : WI w) {n p : Nat} {X : Nat → Nat} {c f : Int32} (hM : MT n X w) (hp : p ≤ n) (ef : fi w 111 13 = nI p) : sx_RP xs (d + 8) 210 83 [(0, .ref 111), (1, .int c), (2, .int f)] [] w (fun r w2 => (r = some (.int (-1 - nI p)) ∧ ia w2 112 = ia w 115 ∧ fi w2 111 11 = 0) ∧ WI w2 ∧ OE w w2) := by
  have hn := hM.2.1
  refine sx_RP.step (pc2 := 84) (ls2 := [(0, .ref 111), (1, .int c), (2, .int f)]) (st2 := [.ref 111]) (w3 := w) rfl rfl ?_
  refine sx_RP.gf (v := .int (fi w 111 13)) rfl rfl hI.1.o111 rfl rfl (show _ = 87 from rfl) ?_
  rw [ef]
  refine sx_RP.br (p1 := 106) (l1 := [(0, .ref 111), (1, .int c), (2, .int f)]) (s1 := []) (v1 := w) rfl rfl (fun _ => ?_) (fun q => absurd (nI_le (a := 0) (b := p) (Nat.zero_le _) (by omega)) (of_decide_eq_false q))
  refine sx_RP.step (pc2 := 107) (ls2 := [(0, .ref 111), (1, .int c), (2, .int f)]) (st2 := [.ref 111]) (w3 := w) rfl rfl ?_
  refine sx_RP.step (pc2 := 108) (ls2 := [(0, .ref 111), (1, .int c), (2, .int f)]) (st2 := [.int 0, .ref 111]) (w3 := w) rfl rfl ?_
  refine sx_RP.xJ (k := 11) hI rfl rfl (by decide) rfl ⟨0, by decide, rfl⟩ (show _ = 111 from rfl) (fun w1 hI2 hs3 hv4 hr5 => ?_)
  have hO6 := OE.tr (OM.rf.oe) (⟨fun a h1 _ => hs3 a h1, fun j hj => hr5 j (by omega)⟩ : OE w w1)
  have ex7 := (hr5 13 (by decide)).trans ef
  refine sx_RP.step (pc2 := 112) (ls2 := [(0, .ref 111), (1, .int c), (2, .int f)]) (st2 := [.ref 111]) (w3 := w1) rfl rfl ?_
  refine sx_RP.gf (v := .int (fi w1 111 13)) rfl rfl hI2.1.o111 rfl rfl (show _ = 115 from rfl) ?_
  rw [ex7]
  refine sx_RP.br (p2 := 118) (l2 := [(0, .ref 111), (1, .int c), (2, .int f)]) (s2 := []) (v2 := w1) rfl rfl (fun q => absurd (of_decide_eq_true q) (fun z => absurd z (Int32.not_lt.mpr (nI_le (a := 0) (b := p) (Nat.zero_le _) (by omega))))) (fun _ => ?_)
  refine sx_RP.step (pc2 := 119) (ls2 := [(0, .ref 111), (1, .int c), (2, .int f)]) (st2 := [.ref 111]) (w3 := w1) rfl rfl ?_
  refine sx_RP.gf (v := .ref 115) rfl rfl hI2.1.o111 rfl rfl (show _ = 122 from rfl) ?_
  refine sx_RP.step (pc2 := 123) (ls2 := [(0, .ref 111), (1, .int c), (2, .int f)]) (st2 := [.ref 111, .ref 115]) (w3 := w1) rfl rfl ?_
  refine sx_RP.gf (v := .ref 112) rfl rfl hI2.1.o111 rfl rfl (show _ = 126 from rfl) ?_
  refine sx_RP.callp (as2 := [.ref 115, .ref 112]) (rest2 := []) rfl rfl rfl rfl rfl rfl (K175 hI2 (a := 115) (b := 112) (by decide) (by decide) (by decide)) (show _ = 129 from rfl) ?_
  rintro r4 w12 ⟨rfl, hI13, hl8⟩
  show sx_RP _ _ _ _ _ [] _ _
  have hO9 := OE.tr hO6 (OE.st hl8.1)
  have ex10 := (fi_same 13 (hl8.1 111 (by decide))).trans ex7
  have ex11 := (fi_same 11 (hl8.1 111 (by decide))).trans hv4
  refine sx_RP.step (pc2 := 130) (ls2 := [(0, .ref 111), (1, .int c), (2, .int f)]) (st2 := [.int (-1)]) (w3 := w12) rfl rfl ?_
  refine sx_RP.step (pc2 := 131) (ls2 := [(0, .ref 111), (1, .int c), (2, .int f)]) (st2 := [.ref 111, .int (-1)]) (w3 := w12) rfl rfl ?_
  refine sx_RP.gf (v := .int (fi w12 111 13)) rfl rfl hI13.1.o111 rfl rfl (show _ = 134 from rfl) ?_
  rw [ex10]
  refine sx_RP.step (pc2 := 135) (ls2 := [(0, .ref 111), (1, .int c), (2, .int f)]) (st2 := [.int ((-1) - (nI p))]) (w3 := w12) rfl rfl ?_
  refine sx_RP.ret (r := (some (.int ((-1) - (nI p))))) rfl rfl ?_
  exact ⟨⟨rfl, hl8.2.trans (ia_of (hO6.1 115 (by decide) (by decide))), ex11⟩, hI13, hO9⟩
set_option maxRecDepth 20000 in
set_option maxHeartbeats 4000000 in
theorem y210b {xs : Option (List Int32)} {d : Nat} {w : List sx_C} (hI : WI w) {n p : Nat} {X : Nat → Nat} {c f : Int32} (hM : MT n X w) (hp : p ≤ n) (ef : fi w 111 13 = -1) (ep : fi w 111 12 = nI p) (hl : p < n) : sx_RP xs (d + 8) 210 83 [(0, .ref 111), (1, .int c), (2, .int f)] [] w (fun r w2 => (r = some (.int (-1 - nI p)) ∧ ia w2 112 = ia w 115 ∧ fi w2 111 11 = 0) ∧ WI w2 ∧ OE w w2) := by
  have hn := hM.2.1
  refine sx_RP.step (pc2 := 84) (ls2 := [(0, .ref 111), (1, .int c), (2, .int f)]) (st2 := [.ref 111]) (w3 := w) rfl rfl ?_
  refine sx_RP.gf (v := .int (fi w 111 13)) rfl rfl hI.1.o111 rfl rfl (show _ = 87 from rfl) ?_
  rw [ef]
  refine sx_RP.step (pc2 := 90) (ls2 := [(0, .ref 111), (1, .int c), (2, .int f)]) (st2 := []) (w3 := w) rfl rfl ?_
  refine sx_RP.step (pc2 := 91) (ls2 := [(0, .ref 111), (1, .int c), (2, .int f)]) (st2 := [.ref 111]) (w3 := w) rfl rfl ?_
  refine sx_RP.gf (v := .int (fi w 111 12)) rfl rfl hI.1.o111 rfl rfl (show _ = 94 from rfl) ?_
  rw [ep]
  refine sx_RP.step (pc2 := 95) (ls2 := [(0, .ref 111), (1, .int c), (2, .int f)]) (st2 := [.ref 111, .int (nI p)]) (w3 := w) rfl rfl ?_
  refine sx_RP.gf (v := .int (fi w 111 11)) rfl rfl hI.1.o111 rfl rfl (show _ = 98 from rfl) ?_
  rw [hM.1]
  refine sx_RP.br (p2 := 101) (l2 := [(0, .ref 111), (1, .int c), (2, .int f)]) (s2 := []) (v2 := w) rfl rfl (fun q => absurd (of_decide_eq_true q) (fun z => absurd ((nI_leI (a := n) (b := p) (by omega) (by omega)).mp z) (by omega))) (fun _ => ?_)
  refine sx_RP.step (pc2 := 102) (ls2 := [(0, .ref 111), (1, .int c), (2, .int f)]) (st2 := [.ref 111]) (w3 := w) rfl rfl ?_
  refine sx_RP.callp (as2 := [.ref 111]) (rest2 := []) rfl rfl (sx_inv_v2 (mi := 210) (k := 245) (st := [.ref 111]) (w := w) rfl rfl hI.1.o111 rfl rfl rfl) rfl rfl rfl (y222 (p := p) hI ef ep) (show _ = 105 from rfl) ?_
  rintro r4 w3 ⟨⟨rfl, hv1⟩, hI4, hO2⟩
  show sx_RP _ _ _ _ _ [.int 0] _ _
  have hx1 := (HS.om hO2.hs).oe
  have hx3 := HS.row hO2.hs
  refine sx_RP.step (pc2 := 106) (ls2 := [(0, .ref 111), (1, .int c), (2, .int f)]) (st2 := []) (w3 := w3) rfl rfl ?_
  refine sx_RP.step (pc2 := 107) (ls2 := [(0, .ref 111), (1, .int c), (2, .int f)]) (st2 := [.ref 111]) (w3 := w3) rfl rfl ?_
  refine sx_RP.step (pc2 := 108) (ls2 := [(0, .ref 111), (1, .int c), (2, .int f)]) (st2 := [.int 0, .ref 111]) (w3 := w3) rfl rfl ?_
  refine sx_RP.xJ (k := 11) hI4 rfl rfl (by decide) rfl ⟨0, by decide, rfl⟩ (show _ = 111 from rfl) (fun w5 hI6 hs7 hv8 hr9 => ?_)
  have hO10 := OE.tr (hx1) (⟨fun a h1 _ => hs7 a h1, fun j hj => hr9 j (by omega)⟩ : OE w3 w5)
  have ex11 := (hr9 13 (by decide)).trans hv1
  refine sx_RP.step (pc2 := 112) (ls2 := [(0, .ref 111), (1, .int c), (2, .int f)]) (st2 := [.ref 111]) (w3 := w5) rfl rfl ?_
  refine sx_RP.gf (v := .int (fi w5 111 13)) rfl rfl hI6.1.o111 rfl rfl (show _ = 115 from rfl) ?_
  rw [ex11]
  refine sx_RP.br (p2 := 118) (l2 := [(0, .ref 111), (1, .int c), (2, .int f)]) (s2 := []) (v2 := w5) rfl rfl (fun q => absurd (of_decide_eq_true q) (fun z => absurd z (Int32.not_lt.mpr (nI_le (a := 0) (b := p) (Nat.zero_le _) (by omega))))) (fun _ => ?_)
  refine sx_RP.step (pc2 := 119) (ls2 := [(0, .ref 111), (1, .int c), (2, .int f)]) (st2 := [.ref 111]) (w3 := w5) rfl rfl ?_
  refine sx_RP.gf (v := .ref 115) rfl rfl hI6.1.o111 rfl rfl (show _ = 122 from rfl) ?_
  refine sx_RP.step (pc2 := 123) (ls2 := [(0, .ref 111), (1, .int c), (2, .int f)]) (st2 := [.ref 111, .ref 115]) (w3 := w5) rfl rfl ?_
  refine sx_RP.gf (v := .ref 112) rfl rfl hI6.1.o111 rfl rfl (show _ = 126 from rfl) ?_
  refine sx_RP.callp (as2 := [.ref 115, .ref 112]) (rest2 := []) rfl rfl rfl rfl rfl rfl (K175 hI6 (a := 115) (b := 112) (by decide) (by decide) (by decide)) (show _ = 129 from rfl) ?_
  rintro r4 w16 ⟨rfl, hI17, hl12⟩
  show sx_RP _ _ _ _ _ [] _ _
  have hO13 := OE.tr hO10 (OE.st hl12.1)
  have ex14 := (fi_same 13 (hl12.1 111 (by decide))).trans ex11
  have ex15 := (fi_same 11 (hl12.1 111 (by decide))).trans hv8
  refine sx_RP.step (pc2 := 130) (ls2 := [(0, .ref 111), (1, .int c), (2, .int f)]) (st2 := [.int (-1)]) (w3 := w16) rfl rfl ?_
  refine sx_RP.step (pc2 := 131) (ls2 := [(0, .ref 111), (1, .int c), (2, .int f)]) (st2 := [.ref 111, .int (-1)]) (w3 := w16) rfl rfl ?_
  refine sx_RP.gf (v := .int (fi w16 111 13)) rfl rfl hI17.1.o111 rfl rfl (show _ = 134 from rfl) ?_
  rw [ex14]
  refine sx_RP.step (pc2 := 135) (ls2 := [(0, .ref 111), (1, .int c), (2, .int f)]) (st2 := [.int ((-1) - (nI p))]) (w3 := w16) rfl rfl ?_
  refine sx_RP.ret (r := (some (.int ((-1) - (nI p))))) rfl rfl ?_
  exact ⟨⟨rfl, hl12.2.trans (ia_of (hO10.1 115 (by decide) (by decide))), ex15⟩, hI17, hO13⟩
set_option maxRecDepth 20000 in
set_option maxHeartbeats 4000000 in
theorem y210c {xs : Option (List Int32)} {d : Nat} {w : List sx_C} (hI : WI w) {n p : Nat} {X : Nat → Nat} {c f : Int32} (hM : MT n X w) (hp : p ≤ n) (ef : fi w 111 13 = -1) (ep : fi w 111 12 = nI p) (hl : ¬ p < n) : sx_RP xs (d + 8) 210 83 [(0, .ref 111), (1, .int c), (2, .int f)] [] w (fun r w2 => (r = some (.int c) ∧ ia w2 112 = ia w 112 ∧ fi w2 111 11 = 0) ∧ WI w2 ∧ OE w w2) := by
  have hn := hM.2.1
  refine sx_RP.step (pc2 := 84) (ls2 := [(0, .ref 111), (1, .int c), (2, .int f)]) (st2 := [.ref 111]) (w3 := w) rfl rfl ?_
  refine sx_RP.gf (v := .int (fi w 111 13)) rfl rfl hI.1.o111 rfl rfl (show _ = 87 from rfl) ?_
  rw [ef]
  refine sx_RP.step (pc2 := 90) (ls2 := [(0, .ref 111), (1, .int c), (2, .int f)]) (st2 := []) (w3 := w) rfl rfl ?_
  refine sx_RP.step (pc2 := 91) (ls2 := [(0, .ref 111), (1, .int c), (2, .int f)]) (st2 := [.ref 111]) (w3 := w) rfl rfl ?_
  refine sx_RP.gf (v := .int (fi w 111 12)) rfl rfl hI.1.o111 rfl rfl (show _ = 94 from rfl) ?_
  rw [ep]
  refine sx_RP.step (pc2 := 95) (ls2 := [(0, .ref 111), (1, .int c), (2, .int f)]) (st2 := [.ref 111, .int (nI p)]) (w3 := w) rfl rfl ?_
  refine sx_RP.gf (v := .int (fi w 111 11)) rfl rfl hI.1.o111 rfl rfl (show _ = 98 from rfl) ?_
  rw [hM.1]
  refine sx_RP.br (p1 := 106) (l1 := [(0, .ref 111), (1, .int c), (2, .int f)]) (s1 := []) (v1 := w) rfl rfl (fun _ => ?_) (fun q => absurd (nI_le (a := n) (b := p) (by omega) (by omega)) (of_decide_eq_false q))
  refine sx_RP.step (pc2 := 107) (ls2 := [(0, .ref 111), (1, .int c), (2, .int f)]) (st2 := [.ref 111]) (w3 := w) rfl rfl ?_
  refine sx_RP.step (pc2 := 108) (ls2 := [(0, .ref 111), (1, .int c), (2, .int f)]) (st2 := [.int 0, .ref 111]) (w3 := w) rfl rfl ?_
  refine sx_RP.xJ (k := 11) hI rfl rfl (by decide) rfl ⟨0, by decide, rfl⟩ (show _ = 111 from rfl) (fun w1 hI2 hs3 hv4 hr5 => ?_)
  have hO6 := OE.tr (OM.rf.oe) (⟨fun a h1 _ => hs3 a h1, fun j hj => hr5 j (by omega)⟩ : OE w w1)
  have ex7 := (hr5 13 (by decide)).trans ef
  refine sx_RP.step (pc2 := 112) (ls2 := [(0, .ref 111), (1, .int c), (2, .int f)]) (st2 := [.ref 111]) (w3 := w1) rfl rfl ?_
  refine sx_RP.gf (v := .int (fi w1 111 13)) rfl rfl hI2.1.o111 rfl rfl (show _ = 115 from rfl) ?_
  rw [ex7]
  refine sx_RP.step (pc2 := 136) (ls2 := [(0, .ref 111), (1, .int c), (2, .int f)]) (st2 := []) (w3 := w1) rfl rfl ?_
  refine sx_RP.step (pc2 := 137) (ls2 := [(0, .ref 111), (1, .int c), (2, .int f)]) (st2 := [.int c]) (w3 := w1) rfl rfl ?_
  refine sx_RP.ret (r := (some (.int c))) rfl rfl ?_
  exact ⟨⟨rfl, ia_of (hs3 112 (by decide)), hv4⟩, hI2, hO6⟩
theorem yF {w0 w : List sx_C} {n p : Nat} {b : BB} (hO : OM w0 w) (hn : n ≤ 120) (hp : p ≤ n) : ∀ r w2, (r = some (Value.int (-1 - nI p)) ∧ ia w2 112 = ia w 115 ∧ fi w2 111 11 = 0) ∧ WI w2 ∧ OE w w2 → (r = some (.int (((-1 - nI p, b) : Int32 × BB)).1) ∧ rowB (ia w2 112) = (if 0 ≤ (((-1 - nI p, b) : Int32 × BB)).1 then (((-1 - nI p, b) : Int32 × BB)).2 else rowB (ia w0 115)) ∧ fi w2 111 11 = 0) ∧ WI w2 ∧ OE w0 w2 := by
  rintro r w2 ⟨⟨h1, h2, h3⟩, h4, h5⟩
  refine ⟨⟨h1, ?_, h3⟩, h4, hO.oe.tr h5⟩
  rw [if_neg (neg_p (show p ≤ 120 by omega)), h2, ia_of (hO.1 115 (by decide) (by decide))]
theorem yG {w0 w : List sx_C} {it : Nat} {b : BB} (hO : OM w0 w) (hB : rowB (ia w 112) = b) (hi : it < 2 ^ 31) : ∀ r w2, (r = some (Value.int (nI it)) ∧ ia w2 112 = ia w 112 ∧ fi w2 111 11 = 0) ∧ WI w2 ∧ OE w w2 → (r = some (.int (((nI it, b) : Int32 × BB)).1) ∧ rowB (ia w2 112) = (if 0 ≤ (((nI it, b) : Int32 × BB)).1 then (((nI it, b) : Int32 × BB)).2 else rowB (ia w0 115)) ∧ fi w2 111 11 = 0) ∧ WI w2 ∧ OE w0 w2 := by
  rintro r w2 ⟨⟨h1, h2, h3⟩, h4, h5⟩
  refine ⟨⟨h1, ?_, h3⟩, h4, hO.oe.tr h5⟩
  rw [if_pos (show (0 : Int32) ≤ nI it from nI_le (a := 0) (b := it) (Nat.zero_le _) (by omega)), h2, hB]
set_option maxRecDepth 20000 in
set_option maxHeartbeats 4000000 in
theorem y210L {xs : Option (List Int32)} {d n : Nat} {X : Nat → Nat} {w0 : List sx_C} : ∀ (fz it h q : Nat) (b : BB) (w : List sx_C), n + 1 ≤ fz + q → it + fz ≤ 121 → h ≤ n → rE blk n X h = q → WI w → MT n X w → fi w 111 12 = nI h → fi w 111 13 = -1 → rowB (ia w 112) = b → OM w0 w → sx_RP xs (d + 8) 210 25 [(0, .ref 111), (1, .int (nI it)), (2, .int 1)] [] w (fun r w2 => (r = some (.int (teL n X fz it q b).1) ∧ rowB (ia w2 112) = (if 0 ≤ (teL n X fz it q b).1 then (teL n X fz it q b).2 else rowB (ia w0 115)) ∧ fi w2 111 11 = 0) ∧ WI w2 ∧ OE w0 w2)
  | 0, it, h, q, b, w, h0, hi, hp, hP, hI, hM, ep, ef, hB, hO => absurd (show q ≤ n by rw [← hP]; exact rE_le hp) (by omega)
  | fz + 1, it, h, q, b, w, h0, hi, hp, hP, hI, hM, ep, ef, hB, hO => by
    have hn := hM.2.1
    have hpl : q ≤ n := by rw [← hP]; exact rE_le hp
    refine sx_RP.step (pc2 := 26) (ls2 := [(0, .ref 111), (1, .int (nI it)), (2, .int 1)]) (st2 := [.int 1]) (w3 := w) rfl rfl ?_
    refine sx_RP.step (pc2 := 29) (ls2 := [(0, .ref 111), (1, .int (nI it)), (2, .int 1)]) (st2 := []) (w3 := w) rfl rfl ?_
    refine sx_RP.step (pc2 := 30) (ls2 := [(0, .ref 111), (1, .int (nI it)), (2, .int 1)]) (st2 := [.ref 111]) (w3 := w) rfl rfl ?_
    have hru := row_u hI hB
    refine sx_RP.callp (as2 := [.ref 111]) (rest2 := []) rfl rfl (sx_inv_v2 (mi := 210) (k := 333) (st := [.ref 111]) (w := w) rfl rfl hI.1.o111 rfl rfl rfl) rfl rfl rfl (y211 hI hM hp ep ef hP hB rfl rfl hru.1 hru.2) (show _ = 33 from rfl) ?_
    rintro r4 w3 ⟨⟨rfl, hr1⟩, hI4, hO2⟩
    show sx_RP _ _ _ _ _ [.int (b01 (itT n X q b).1)] _ _
    have hM5 := hM.om hO2
    have hO6 := hO.tr hO2
    refine sx_RP.br (p1 := 83) (l1 := [(0, .ref 111), (1, .int (nI it)), (2, .int 1)]) (s1 := []) (v1 := w3) (p2 := 36) (l2 := [(0, .ref 111), (1, .int (nI it)), (2, .int 1)]) (s2 := []) (v2 := w3) rfl rfl (fun q7 => ?_) (fun q7 => ?_)
    · replace q7 := of_decide_eq_true q7
      have eR : teL n X (fz + 1) it q b = (-1 - nI (itT n X q b).2.1, b) := by unfold teL; rw [if_neg (by rw [b01_f q7]; decide)]
      rw [eR]
      refine sx_RP.ls (sx_lr.cons rfl (sx_lr.cons rfl (sx_lr.cons rfl sx_lr.nil))) ((y210a (p := (itT n X q b).2.1) hI4 hM5 (itT_le hpl) (hr1.2 (b01_f q7))).mono9 (yF hO6 (by omega) (itT_le hpl)))
    · replace q7 := of_decide_eq_false q7
      refine sx_RP.step (pc2 := 39) (ls2 := [(1, .int ((nI it) + 1)), (0, .ref 111), (2, .int 1)]) (st2 := []) (w3 := w3) rfl rfl ?_
      rw [nI_1 it]
      refine sx_RP.step (pc2 := 40) (ls2 := [(1, .int (nI (it + 1))), (0, .ref 111), (2, .int 1)]) (st2 := [.ref 111]) (w3 := w3) rfl rfl ?_
      obtain ⟨ef2, hB2, h2, hp2, ep2, hP2⟩ := hr1.1 (b01_t q7)
      refine sx_RP.callp (as2 := [.ref 111]) (rest2 := []) rfl rfl (sx_inv_v2 (mi := 210) (k := 224) (st := [.ref 111]) (w := w3) rfl rfl hI4.1.o111 rfl rfl rfl) rfl rfl rfl (y215 hI4 hM5 hp2 ep2) (show _ = 43 from rfl) ?_
      rintro r4 w11 ⟨⟨rfl, ep8⟩, hI12, hO9⟩
      show sx_RP _ _ _ _ _ [] _ _
      rw [hP2] at ep8
      have ef13 := (hO9.2 13 (by decide)).trans ef2
      have hq2 : (itT n X q b).2.1 ≤ n := itT_le hpl
      have hq3 : q ≤ (itT n X q b).2.1 := itT_ge (Nat.le_refl q)
      have hP3 : rE blk n X (itT n X q b).2.1 = (itT n X q b).2.1 := by rw [← hP2]; exact rE_rE
      have hM14 := hM5.hs hO9.hs
      have hO15 := hO6.tr (HS.om hO9.hs)
      have hB16 : rowB (ia w11 112) = (itT n X q b).2.2 := by rw [HS.row hO9.hs]; exact hB2
      refine sx_RP.step (pc2 := 44) (ls2 := [(1, .int (nI (it + 1))), (0, .ref 111), (2, .int 1)]) (st2 := [.ref 111]) (w3 := w11) rfl rfl ?_
      refine sx_RP.step (pc2 := 45) (ls2 := [(1, .int (nI (it + 1))), (0, .ref 111), (2, .int 1)]) (st2 := [.ref 111, .ref 111]) (w3 := w11) rfl rfl ?_
      refine sx_RP.gf (v := .int (fi w11 111 12)) rfl rfl hI12.1.o111 rfl rfl (show _ = 48 from rfl) ?_
      rw [ep8]
      refine sx_RP.cu (as := [.ref 111, .int (nI ((itT n X q b).2.1))]) (rest2 := []) (st3 := [.int (bA n X (itT n X q b).2.1)]) rfl rfl (sx_inv_v2 (mi := 210) (k := 215) (st := [.int (nI ((itT n X q b).2.1)), .ref 111]) (w := w11) rfl rfl hI12.1.o111 rfl rfl rfl) rfl rfl (y216 hI12 hM14 (by omega)) rfl ?_
      refine sx_RP.step (pc2 := 53) (ls2 := [(1, .int (nI (it + 1))), (0, .ref 111), (2, .int 1)]) (st2 := [.int 59, .int (bA n X (itT n X q b).2.1)]) (w3 := w11) rfl rfl ?_
      refine sx_RP.br (p1 := 60) (l1 := [(1, .int (nI (it + 1))), (0, .ref 111), (2, .int 1)]) (s1 := []) (v1 := w11) (p2 := 56) (l2 := [(1, .int (nI (it + 1))), (0, .ref 111), (2, .int 1)]) (s2 := []) (v2 := w11) rfl rfl (fun q17 => ?_) (fun q17 => ?_)
      · replace q17 := of_decide_eq_true q17
        refine sx_RP.step (pc2 := 61) (ls2 := [(1, .int (nI (it + 1))), (0, .ref 111), (2, .int 1)]) (st2 := [.int 0]) (w3 := w11) rfl rfl ?_
        refine sx_RP.step (pc2 := 62) (ls2 := [(2, .int 0), (1, .int (nI (it + 1))), (0, .ref 111)]) (st2 := []) (w3 := w11) rfl rfl ?_
        refine sx_RP.step (pc2 := 63) (ls2 := [(2, .int 0), (1, .int (nI (it + 1))), (0, .ref 111)]) (st2 := [.ref 111]) (w3 := w11) rfl rfl ?_
        refine sx_RP.step (pc2 := 64) (ls2 := [(2, .int 0), (1, .int (nI (it + 1))), (0, .ref 111)]) (st2 := [.ref 111, .ref 111]) (w3 := w11) rfl rfl ?_
        refine sx_RP.gf (v := .int (fi w11 111 12)) rfl rfl hI12.1.o111 rfl rfl (show _ = 67 from rfl) ?_
        rw [ep8]
        refine sx_RP.step (pc2 := 68) (ls2 := [(2, .int 0), (1, .int (nI (it + 1))), (0, .ref 111)]) (st2 := [.int 0, .int (nI ((itT n X q b).2.1)), .ref 111]) (w3 := w11) rfl rfl ?_
        refine sx_RP.step (pc2 := 75) (ls2 := [(2, .int 0), (1, .int (nI (it + 1))), (0, .ref 111)]) (st2 := [.int (nI ((itT n X q b).2.1)), .ref 111]) (w3 := w11) rfl rfl ?_
        refine sx_RP.step (pc2 := 76) (ls2 := [(2, .int 0), (1, .int (nI (it + 1))), (0, .ref 111)]) (st2 := [.int 0, .int (nI ((itT n X q b).2.1)), .ref 111]) (w3 := w11) rfl rfl ?_
        refine sx_RP.step (pc2 := 77) (ls2 := [(2, .int 0), (1, .int (nI (it + 1))), (0, .ref 111)]) (st2 := [.int ((nI ((itT n X q b).2.1)) + 0), .ref 111]) (w3 := w11) rfl rfl ?_
        rw [show ((nI ((itT n X q b).2.1)) + 0 : Int32) = nI (((itT n X q b).2.1) + 0) from nI_add ((itT n X q b).2.1) 0]
        have h59 : ¬ ((itT n X q b).2.1 < n ∧ X (itT n X q b).2.1 = 59) := fun z => q17 ((bA_59 (fun z => hM.x z)).mpr z)
        refine sx_RP.pm (k := 12) hI12 EM.rf rfl rfl (by decide) rfl (inR.n (show (((itT n X q b).2.1) + 0) ≤ 120 by omega)) (show _ = 80 from rfl) (fun w18 hI19 hE20 hv21 hr22 hs23 => ?_)
        have hh24 : H12 w11 w18 := ⟨hs23, hr22⟩
        have ef25 := (hr22 13 (by decide)).trans ef13
        have hM26 := hM14.hs hh24.hs
        have hO27 := hO15.tr (HS.om hh24.hs)
        have hB28 : rowB (ia w18 112) = (itT n X q b).2.2 := by rw [HS.row hh24.hs]; exact hB16
        refine sx_RP.step (pc2 := 25) (ls2 := [(2, .int 0), (1, .int (nI (it + 1))), (0, .ref 111)]) (st2 := []) (w3 := w18) rfl rfl ?_
        have hs3 := fun z => h59 ((so_3 (fun i hi => hM.x hi)).mp z)
        refine sx_RP.step (pc2 := 26) (ls2 := [(2, .int 0), (1, .int (nI (it + 1))), (0, .ref 111)]) (st2 := [.int 0]) (w3 := w18) rfl rfl ?_
        refine sx_RP.step (pc2 := 83) (ls2 := [(2, .int 0), (1, .int (nI (it + 1))), (0, .ref 111)]) (st2 := []) (w3 := w18) rfl rfl ?_
        by_cases hlt : (itT n X q b).2.1 < n
        · have eR : teL n X (fz + 1) it q b = (-1 - nI (itT n X q b).2.1, b) := by unfold teL; rw [if_pos (b01_t q7), if_neg (fun z => (so_0 (fun i hi => hM.x hi)).mp z hlt), if_neg hs3]
          rw [eR]
          refine sx_RP.ls (sx_lr.cons rfl (sx_lr.cons rfl (sx_lr.cons rfl sx_lr.nil))) ((y210b (p := (itT n X q b).2.1) hI19 hM26 hq2 ef25 hv21 hlt).mono9 (yF hO27 (by omega) hq2))
        · have eR : teL n X (fz + 1) it q b = (nI (it + 1), (itT n X q b).2.2) := by unfold teL; rw [if_pos (b01_t q7), if_pos ((so_0 (fun i hi => hM.x hi)).mpr hlt)]
          rw [eR]
          refine sx_RP.ls (sx_lr.cons rfl (sx_lr.cons rfl (sx_lr.cons rfl sx_lr.nil))) ((y210c (p := (itT n X q b).2.1) hI19 hM26 hq2 ef25 hv21 hlt).mono9 (yG hO27 hB28 (by omega)))
      · replace q17 := Decidable.not_not.mp (of_decide_eq_false q17)
        refine sx_RP.step (pc2 := 57) (ls2 := [(1, .int (nI (it + 1))), (0, .ref 111), (2, .int 1)]) (st2 := [.int 1]) (w3 := w11) rfl rfl ?_
        refine sx_RP.step (pc2 := 61) (ls2 := [(1, .int (nI (it + 1))), (0, .ref 111), (2, .int 1)]) (st2 := [.int 1]) (w3 := w11) rfl rfl ?_
        refine sx_RP.step (pc2 := 62) (ls2 := [(2, .int 1), (1, .int (nI (it + 1))), (0, .ref 111)]) (st2 := []) (w3 := w11) rfl rfl ?_
        refine sx_RP.step (pc2 := 63) (ls2 := [(2, .int 1), (1, .int (nI (it + 1))), (0, .ref 111)]) (st2 := [.ref 111]) (w3 := w11) rfl rfl ?_
        refine sx_RP.step (pc2 := 64) (ls2 := [(2, .int 1), (1, .int (nI (it + 1))), (0, .ref 111)]) (st2 := [.ref 111, .ref 111]) (w3 := w11) rfl rfl ?_
        refine sx_RP.gf (v := .int (fi w11 111 12)) rfl rfl hI12.1.o111 rfl rfl (show _ = 67 from rfl) ?_
        rw [ep8]
        refine sx_RP.step (pc2 := 68) (ls2 := [(2, .int 1), (1, .int (nI (it + 1))), (0, .ref 111)]) (st2 := [.int 1, .int (nI ((itT n X q b).2.1)), .ref 111]) (w3 := w11) rfl rfl ?_
        refine sx_RP.step (pc2 := 71) (ls2 := [(2, .int 1), (1, .int (nI (it + 1))), (0, .ref 111)]) (st2 := [.int (nI ((itT n X q b).2.1)), .ref 111]) (w3 := w11) rfl rfl ?_
        refine sx_RP.step (pc2 := 72) (ls2 := [(2, .int 1), (1, .int (nI (it + 1))), (0, .ref 111)]) (st2 := [.int 1, .int (nI ((itT n X q b).2.1)), .ref 111]) (w3 := w11) rfl rfl ?_
        refine sx_RP.step (pc2 := 76) (ls2 := [(2, .int 1), (1, .int (nI (it + 1))), (0, .ref 111)]) (st2 := [.int 1, .int (nI ((itT n X q b).2.1)), .ref 111]) (w3 := w11) rfl rfl ?_
        refine sx_RP.step (pc2 := 77) (ls2 := [(2, .int 1), (1, .int (nI (it + 1))), (0, .ref 111)]) (st2 := [.int ((nI ((itT n X q b).2.1)) + 1), .ref 111]) (w3 := w11) rfl rfl ?_
        rw [show ((nI ((itT n X q b).2.1)) + 1 : Int32) = nI (((itT n X q b).2.1) + 1) from nI_add ((itT n X q b).2.1) 1]
        have h59 := (bA_59 (fun z => hM.x z)).mp q17
        refine sx_RP.pm (k := 12) hI12 EM.rf rfl rfl (by decide) rfl (inR.n (show (((itT n X q b).2.1) + 1) ≤ 120 by omega)) (show _ = 80 from rfl) (fun w29 hI30 hE31 hv32 hr33 hs34 => ?_)
        have hh35 : H12 w11 w29 := ⟨hs34, hr33⟩
        have ef36 := (hr33 13 (by decide)).trans ef13
        have hM37 := hM14.hs hh35.hs
        have hO38 := hO15.tr (HS.om hh35.hs)
        have hB39 : rowB (ia w29 112) = (itT n X q b).2.2 := by rw [HS.row hh35.hs]; exact hB16
        refine sx_RP.step (pc2 := 25) (ls2 := [(2, .int 1), (1, .int (nI (it + 1))), (0, .ref 111)]) (st2 := []) (w3 := w29) rfl rfl ?_
        have hs3 := (so_3 (fun i hi => hM.x hi)).mpr h59
        have hbe : beT n X (itT n X q b).2.1 = (itT n X q b).2.1 + 1 := be_3 h59.1 ((sort_3 ⟨X (itT n X q b).2.1, hM.x h59.1⟩).mpr h59.2)
        have hnp : rE blk n X ((itT n X q b).2.1 + 1) = nP n X (itT n X q b).2.1 := by unfold nP; rw [hbe]
        have hng : (itT n X q b).2.1 + 1 ≤ nP n X (itT n X q b).2.1 := by rw [← hnp]; exact rE_ge
        have eR : teL n X (fz + 1) it q b = teL n X fz (it + 1) (nP n X (itT n X q b).2.1) (itT n X q b).2.2 := by conv => lhs; unfold teL; rw [if_pos (b01_t q7), if_neg (show ¬ soT n X (itT n X q b).2.1 = 0 by rw [hs3]; decide), if_pos hs3]
        rw [eR]
        exact sx_RP.ls (sx_lr.cons rfl (sx_lr.cons rfl (sx_lr.cons rfl sx_lr.nil))) (y210L fz (it + 1) ((itT n X q b).2.1 + 1) (nP n X (itT n X q b).2.1) (itT n X q b).2.2 w29 (by omega) (by omega) (by omega) hnp hI30 hM37 hv32 ef36 hB39 hO38)
set_option maxRecDepth 20000 in
set_option maxHeartbeats 4000000 in
theorem y210 {xs : Option (List Int32)} {d : Nat} {w : List sx_C} (hI : WI w) {n : Nat} {X : Nat → Nat} (hM : MT n X w) : sx_RP xs (d + 8) 210 0 (lv_args 0 [.ref 111]) [] w (fun r w2 => (r = some (.int (teL n X 121 0 (rE blk n X 0) (rowB (ia w 112))).1) ∧ rowB (ia w2 112) = (if 0 ≤ (teL n X 121 0 (rE blk n X 0) (rowB (ia w 112))).1 then (teL n X 121 0 (rE blk n X 0) (rowB (ia w 112))).2 else rowB (ia w 112)) ∧ fi w2 111 11 = 0 ∧ ∀ j, j < 11 → fi w2 111 j = fi w 111 j) ∧ WI w2 ∧ ∀ a, a ≠ 111 → a ≠ 112 → a ≠ 115 → w2[a]? = w[a]?) := by
  have hn := hM.2.1
  refine sx_RP.step (pc2 := 1) (ls2 := [(0, .ref 111)]) (st2 := [.ref 111]) (w3 := w) rfl rfl ?_
  refine sx_RP.step (pc2 := 2) (ls2 := [(0, .ref 111)]) (st2 := [.int 0, .ref 111]) (w3 := w) rfl rfl ?_
  refine sx_RP.pm (k := 12) hI EM.rf rfl rfl (by decide) rfl ⟨0, by decide, rfl⟩ (show _ = 5 from rfl) (fun w1 hI2 hE3 hv4 hr5 hs6 => ?_)
  refine sx_RP.step (pc2 := 6) (ls2 := [(0, .ref 111)]) (st2 := [.ref 111]) (w3 := w1) rfl rfl ?_
  refine sx_RP.step (pc2 := 7) (ls2 := [(0, .ref 111)]) (st2 := [.int (-1), .ref 111]) (w3 := w1) rfl rfl ?_
  refine sx_RP.pm (k := 13) hI2 EM.rf rfl rfl (by decide) rfl trivial (show _ = 10 from rfl) (fun w7 hI8 hE9 hv10 hr11 hs12 => ?_)
  refine sx_RP.step (pc2 := 11) (ls2 := [(0, .ref 111)]) (st2 := [.ref 111]) (w3 := w7) rfl rfl ?_
  refine sx_RP.gf (v := .ref 112) rfl rfl hI8.1.o111 rfl rfl (show _ = 14 from rfl) ?_
  refine sx_RP.step (pc2 := 15) (ls2 := [(0, .ref 111)]) (st2 := [.ref 111, .ref 112]) (w3 := w7) rfl rfl ?_
  refine sx_RP.gf (v := .ref 115) rfl rfl hI8.1.o111 rfl rfl (show _ = 18 from rfl) ?_
  refine sx_RP.callp (as2 := [.ref 112, .ref 115]) (rest2 := []) rfl rfl rfl rfl rfl rfl (K175 hI8 (a := 112) (b := 115) (by decide) (by decide) (by decide)) (show _ = 21 from rfl) ?_
  rintro r4 w14 ⟨rfl, hI15, hl13⟩
  show sx_RP _ _ _ _ _ [] _ _
  have hc : ∀ a, a ≠ 111 → a ≠ 115 → w14[a]? = w[a]? := fun a h1 h2 => (hl13.1 a h2).trans ((hs12 a h1).trans (hs6 a h1))
  have hf : ∀ j, j < 12 → fi w14 111 j = fi w 111 j := fun j hj => (fi_same j (hl13.1 111 (by decide))).trans ((hr11 j (by omega)).trans (hr5 j (by omega)))
  have he : fi w14 111 12 = nI 0 := (fi_same 12 (hl13.1 111 (by decide))).trans ((hr11 12 (by decide)).trans hv4)
  have hg : fi w14 111 13 = -1 := (fi_same 13 (hl13.1 111 (by decide))).trans hv10
  have h5 : ia w14 115 = ia w 112 := by rw [hl13.2, ia_of (hs12 112 (by decide)), ia_of (hs6 112 (by decide))]
  have hM2 : MT n X w14 := ⟨(hf 11 (by decide)).trans hM.1, hM.2.1, fun i hi => by rw [ia_of (hc 121 (by decide) (by decide))]; exact hM.2.2 i hi⟩
  have hB2 : rowB (ia w14 112) = rowB (ia w 112) := by rw [ia_of (hc 112 (by decide) (by decide))]
  refine sx_RP.step (pc2 := 22) (ls2 := [(0, .ref 111)]) (st2 := [.int 0]) (w3 := w14) rfl rfl ?_
  refine sx_RP.step (pc2 := 23) (ls2 := [(1, .int 0), (0, .ref 111)]) (st2 := []) (w3 := w14) rfl rfl ?_
  refine sx_RP.step (pc2 := 24) (ls2 := [(1, .int 0), (0, .ref 111)]) (st2 := [.int 1]) (w3 := w14) rfl rfl ?_
  refine sx_RP.step (pc2 := 25) (ls2 := [(2, .int 1), (1, .int 0), (0, .ref 111)]) (st2 := []) (w3 := w14) rfl rfl ?_
  refine sx_RP.ls (sx_lr.cons rfl (sx_lr.cons rfl (sx_lr.cons rfl sx_lr.nil))) ((y210L 121 0 0 (rE blk n X 0) (rowB (ia w 112)) w14 (by omega) (by omega) (Nat.zero_le _) rfl hI15 hM2 he hg hB2 OM.rf).mono9 ?_)
  rintro r w2 ⟨⟨h1, h2, h3⟩, h4, h6⟩
  rw [h5] at h2
  exact ⟨⟨h1, h2, h3, fun j hj => (h6.2 j hj).trans (hf j (by omega))⟩, h4, fun a z1 z2 z3 => (h6.1 a z1 z2).trans (hc a z1 z3)⟩
