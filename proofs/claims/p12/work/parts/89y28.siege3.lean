-- siege of the class over rows
def sieV (t l : List Int32) : Int32 × List Int32 := teW t.length (fun i => iN (t.getD i 0)) 121 0 (rE blk t.length (fun i => iN (t.getD i 0)) 0) l
def sieR (t l : List Int32) : List Int32 := if 0 ≤ (sieV t l).1 then (sieV t l).2 else l
set_option maxRecDepth 20000 in
set_option maxHeartbeats 4000000 in
theorem Z92 {xs : Option (List Int32)} {d : Nat} {w : List sx_C} (hI : WI w) (l : List Int32) (hR : rel w 1 l) (hY : TBy w) : sx_RP xs (d + 7) 92 0 (lv_args 0 [.ref 0]) [] w (fun r w2 => (r = some (.int ((sieV (tapC w) l).1)) ∧ rel w2 1 (sieR (tapC w) l) ∧ tapC w2 = []) ∧ WI w2 ∧ ∀ a, a ≠ 96 → (a < 1 ∨ (15 ≤ a ∧ a < 29) ∨ 43 ≤ a) → w2[a]? = w[a]?) := by
  have hC : CT (tapC w).length (fun i => iN ((tapC w).getD i 0)) w := CT_of hI hY
  refine sx_RP.step (pc2 := 1) (ls2 := [(0, .ref 0)]) (st2 := [.ref 0]) (w3 := w) rfl rfl ?_
  refine sx_RP.gf (v := .ref 29) rfl rfl hI.1.o0 rfl rfl (show _ = 4 from rfl) ?_
  refine sx_RP.step (pc2 := 5) (ls2 := [(0, .ref 0)]) (st2 := [.ref 0, .ref 29]) (w3 := w) rfl rfl ?_
  refine sx_RP.gf (v := .ref 1) rfl rfl hI.1.o0 rfl rfl (show _ = 8 from rfl) ?_
  refine sx_RP.callp (as2 := [.ref 29, .ref 1]) (rest2 := []) rfl rfl (sx_inv_v2 (mi := 92) (k := 179) (st := [.ref 1, .ref 29]) (w := w) rfl rfl (hI.1.oC (Or.inr (Or.inr rfl))) rfl rfl rfl) rfl rfl rfl (X50 hI (Or.inr (Or.inr rfl)) (Or.inl rfl) (by omega)) (show _ = 11 from rfl) ?_
  rintro r4 w2 ⟨rfl, hI3, ht1⟩
  show sx_RP _ _ _ _ _ [] _ _
  have hC4 := hC.same (fi_same 1 (ht1.1 96 (by omega))) (ia_of (ht1.1 97 (by omega)))
  refine sx_RP.step (pc2 := 12) (ls2 := [(0, .ref 0)]) (st2 := [.ref 0]) (w3 := w2) rfl rfl ?_
  refine sx_RP.gf (v := .ref 96) rfl rfl hI3.1.o0 rfl rfl (show _ = 15 from rfl) ?_
  refine sx_RP.step (pc2 := 16) (ls2 := [(0, .ref 0)]) (st2 := [.ref 0, .ref 96]) (w3 := w2) rfl rfl ?_
  refine sx_RP.gf (v := .ref 29) rfl rfl hI3.1.o0 rfl rfl (show _ = 19 from rfl) ?_
  refine sx_RP.callp (as2 := [.ref 96, .ref 29]) (rest2 := []) rfl rfl (sx_inv_v2 (mi := 92) (k := 292) (st := [.ref 29, .ref 96]) (w := w2) rfl rfl hI3.1.o96 rfl rfl rfl) rfl rfl rfl (V93 hI3 hC4 (hR.took ht1)) (show _ = 22 from rfl) ?_
  rintro r4 w8 ⟨⟨rfl, hb5⟩, hI9, hC6, hO7⟩
  show sx_RP _ _ _ _ _ [.int ((sieV (tapC w) l).1)] _ _
  refine sx_RP.step (pc2 := 23) (ls2 := [(1, .int ((sieV (tapC w) l).1)), (0, .ref 0)]) (st2 := []) (w3 := w8) rfl rfl ?_
  refine sx_RP.step (pc2 := 24) (ls2 := [(1, .int ((sieV (tapC w) l).1)), (0, .ref 0)]) (st2 := [.ref 0]) (w3 := w8) rfl rfl ?_
  refine sx_RP.gf (v := .ref 96) rfl rfl hI9.1.o0 rfl rfl (show _ = 27 from rfl) ?_
  refine sx_RP.callp (as2 := [.ref 96]) (rest2 := []) rfl rfl (sx_inv_v2 (mi := 92) (k := 289) (st := [.ref 96]) (w := w8) rfl rfl hI9.1.o96 rfl rfl rfl) rfl rfl rfl (X91 hI9 hC6.1) (show _ = 30 from rfl) ?_
  rintro r4 w12 ⟨⟨rfl, hv10⟩, hI13, hs11⟩
  show sx_RP _ _ _ _ _ [.int (nI (tapC w).length)] _ _
  refine sx_RP.step (pc2 := 31) (ls2 := [(1, .int ((sieV (tapC w) l).1)), (0, .ref 0)]) (st2 := []) (w3 := w12) rfl rfl ?_
  refine sx_RP.step (pc2 := 32) (ls2 := [(1, .int ((sieV (tapC w) l).1)), (0, .ref 0)]) (st2 := [.int ((sieV (tapC w) l).1)]) (w3 := w12) rfl rfl ?_
  refine sx_RP.br (p1 := 46) (l1 := [(1, .int ((sieV (tapC w) l).1)), (0, .ref 0)]) (s1 := []) (v1 := w12) (p2 := 35) (l2 := [(1, .int ((sieV (tapC w) l).1)), (0, .ref 0)]) (s2 := []) (v2 := w12) rfl rfl (fun q14 => ?_) (fun q14 => ?_)
  · replace q14 := of_decide_eq_true q14
    refine sx_RP.step (pc2 := 47) (ls2 := [(1, .int ((sieV (tapC w) l).1)), (0, .ref 0)]) (st2 := [.int ((sieV (tapC w) l).1)]) (w3 := w12) rfl rfl ?_
    refine sx_RP.ret (r := (some (.int ((sieV (tapC w) l).1)))) rfl rfl ?_
    have h0 : ¬ 0 ≤ (sieV (tapC w) l).1 := Int32.not_le.mpr q14
    have eo : ∀ a, a ≠ 96 → (a < 29 ∨ 43 ≤ a) → w12[a]? = w[a]? := fun a h1 h2 => (hs11 a h1).trans ((hO7 a h1 (by omega)).trans (ht1.1 a (by omega)))
    exact ⟨⟨rfl, by unfold sieR; rw [if_neg h0]; exact hR.same hI (Or.inl rfl) (fun a h1 h2 => eo a (by omega) (by omega)), tapC_nil hv10⟩, hI13, fun a h1 h2 => eo a h1 (by omega)⟩
  · replace q14 := of_decide_eq_false q14
    refine sx_RP.step (pc2 := 36) (ls2 := [(1, .int ((sieV (tapC w) l).1)), (0, .ref 0)]) (st2 := [.ref 0]) (w3 := w12) rfl rfl ?_
    refine sx_RP.gf (v := .ref 1) rfl rfl hI13.1.o0 rfl rfl (show _ = 39 from rfl) ?_
    refine sx_RP.step (pc2 := 40) (ls2 := [(1, .int ((sieV (tapC w) l).1)), (0, .ref 0)]) (st2 := [.ref 0, .ref 1]) (w3 := w12) rfl rfl ?_
    refine sx_RP.gf (v := .ref 29) rfl rfl hI13.1.o0 rfl rfl (show _ = 43 from rfl) ?_
    refine sx_RP.callp (as2 := [.ref 1, .ref 29]) (rest2 := []) rfl rfl (sx_inv_v2 (mi := 92) (k := 179) (st := [.ref 29, .ref 1]) (w := w12) rfl rfl (hI13.1.oC (Or.inl rfl)) rfl rfl rfl) rfl rfl rfl (X50 hI13 (Or.inl rfl) (Or.inr (Or.inr rfl)) (by omega)) (show _ = 46 from rfl) ?_
    rintro r4 w16 ⟨rfl, hI17, ht15⟩
    show sx_RP _ _ _ _ _ [] _ _
    refine sx_RP.step (pc2 := 47) (ls2 := [(1, .int ((sieV (tapC w) l).1)), (0, .ref 0)]) (st2 := [.int ((sieV (tapC w) l).1)]) (w3 := w16) rfl rfl ?_
    refine sx_RP.ret (r := (some (.int ((sieV (tapC w) l).1)))) rfl rfl ?_
    have h0 : 0 ≤ (sieV (tapC w) l).1 := Int32.not_lt.mp q14
    have ec : rel w16 1 (sieV (tapC w) l).2 := ((hb5 h0).same hI9 isA29 (fun a h1 h2 => hs11 a (by omega))).took ht15
    have eo : ∀ a, a ≠ 96 → (a < 1 ∨ (15 ≤ a ∧ a < 29) ∨ 43 ≤ a) → w16[a]? = w[a]? := fun a h1 h2 => (ht15.1 a (by omega)).trans ((hs11 a h1).trans ((hO7 a h1 (by omega)).trans (ht1.1 a (by omega))))
    exact ⟨⟨rfl, by unfold sieR; rw [if_pos h0]; exact ec, tapC_nil ((fi_same 1 (ht15.1 96 (by omega))).trans hv10)⟩, hI17, eo⟩
