-- siege of the class over group B's state
def sieX (t : BT) (i : Nat) : Nat := iN (t.2.2.2.getD i 0)
def sieT (t : BT) : Int32 × BB := teL t.2.2.2.length (sieX t) 121 0 (rE blk t.2.2.2.length (sieX t) 0) t.1
def sieU (t : BT) : BT := (if 0 ≤ (sieT t).1 then (sieT t).2 else t.1, t.2.1, t.2.2.1, [])
/-- the class's tape holds bytes -/
def TBy (w : List sx_C) : Prop := ∀ i, ∃ j, j < 256 ∧ (ia w 97).getD i 0 = sgn j
theorem sgn_and : ∀ c : Fin 256, sgn c.val &&& 255 = nI c.val := by decide +kernel
theorem TBy.same {w w2 : List sx_C} (h : TBy w) (e : w2[97]? = w[97]?) : TBy w2 := by
  unfold TBy
  rw [ia_of e]
  exact h
theorem CT_of {w : List sx_C} (hI : WI w) (hY : TBy w) : CT (FCb w).2.2.2.length (sieX (FCb w)) w := by
  obtain ⟨n, hn, en⟩ := hI.t.1
  have el := tapC_len en hn
  rw [el]
  refine ⟨en, hn, fun i hi => ?_⟩
  obtain ⟨j, hj, e⟩ := hY i
  have ex : sieX (FCb w) i = j := by
    show iN ((tapC w).getD i 0) = j
    unfold tapC
    rw [map_at (by rw [en, iN_n (by omega)]; exact hi), e, sgn_and ⟨j, hj⟩, iN_n (by show j < 2 ^ 31; omega)]
  rw [ex]
  exact ⟨e, hj⟩
set_option maxRecDepth 20000 in
set_option maxHeartbeats 4000000 in
theorem B92 {xs : Option (List Int32)} {d : Nat} {w : List sx_C} (hI : WI w) (hY : TBy w) : sx_RP xs (d + 7) 92 0 (lv_args 0 [.ref 0]) [] w (fun r w2 => (r = some (.int ((sieT (FCb w)).1)) ∧ FCb w2 = sieU (FCb w)) ∧ WI w2 ∧ ∀ a, 111 ≤ a → w2[a]? = w[a]?) := by
  have hC := CT_of hI hY
  refine sx_RP.step (pc2 := 1) (ls2 := [(0, .ref 0)]) (st2 := [.ref 0]) (w3 := w) rfl rfl ?_
  refine sx_RP.gf (v := .ref 29) rfl rfl hI.1.o0 rfl rfl (show _ = 4 from rfl) ?_
  refine sx_RP.step (pc2 := 5) (ls2 := [(0, .ref 0)]) (st2 := [.ref 0, .ref 29]) (w3 := w) rfl rfl ?_
  refine sx_RP.gf (v := .ref 1) rfl rfl hI.1.o0 rfl rfl (show _ = 8 from rfl) ?_
  refine sx_RP.callp (as2 := [.ref 29, .ref 1]) (rest2 := []) rfl rfl (sx_inv_v2 (mi := 92) (k := 179) (st := [.ref 1, .ref 29]) (w := w) rfl rfl (hI.1.oC (Or.inr (Or.inr rfl))) rfl rfl rfl) rfl rfl rfl (X50 hI (Or.inr (Or.inr rfl)) (Or.inl rfl) (by omega)) (show _ = 11 from rfl) ?_
  rintro r4 w2 ⟨rfl, hI3, ht1⟩
  show sx_RP _ _ _ _ _ [] _ _
  have hC4 := hC.same (fi_same 1 (ht1.1 96 (by omega))) (ia_of (ht1.1 97 (by omega)))
  refine sx_RP.step (pc2 := 12) (ls2 := [(0, .ref 0)]) (st2 := [.ref 0]) (w3 := w2) rfl rfl ?_
  refine sx_RP.gf (v := .ref 96) rfl rfl hI3.1.o0 rfl rfl (show _ = 15 from rfl) ?_
  refine sx_RP.step (pc2 := 16) (ls2 := [(0, .ref 0)]) (st2 := [.ref 0, .ref 96]) (w3 := w2) rfl rfl ?_
  refine sx_RP.gf (v := .ref 29) rfl rfl hI3.1.o0 rfl rfl (show _ = 19 from rfl) ?_
  refine sx_RP.callp (as2 := [.ref 96, .ref 29]) (rest2 := []) rfl rfl (sx_inv_v2 (mi := 92) (k := 292) (st := [.ref 29, .ref 96]) (w := w2) rfl rfl hI3.1.o96 rfl rfl rfl) rfl rfl rfl (X93 hI3 hC4 ht1.b) (show _ = 22 from rfl) ?_
  rintro r4 w9 ⟨⟨rfl, hb6⟩, hI10, hC7, hO8⟩
  show sx_RP _ _ _ _ _ [.int ((sieT (FCb w)).1)] _ _
  refine sx_RP.step (pc2 := 23) (ls2 := [(1, .int ((sieT (FCb w)).1)), (0, .ref 0)]) (st2 := []) (w3 := w9) rfl rfl ?_
  refine sx_RP.step (pc2 := 24) (ls2 := [(1, .int ((sieT (FCb w)).1)), (0, .ref 0)]) (st2 := [.ref 0]) (w3 := w9) rfl rfl ?_
  refine sx_RP.gf (v := .ref 96) rfl rfl hI10.1.o0 rfl rfl (show _ = 27 from rfl) ?_
  refine sx_RP.callp (as2 := [.ref 96]) (rest2 := []) rfl rfl (sx_inv_v2 (mi := 92) (k := 289) (st := [.ref 96]) (w := w9) rfl rfl hI10.1.o96 rfl rfl rfl) rfl rfl rfl (X91 hI10 hC7.1) (show _ = 30 from rfl) ?_
  rintro r4 w13 ⟨⟨rfl, hv11⟩, hI14, hs12⟩
  show sx_RP _ _ _ _ _ [.int (nI (FCb w).2.2.2.length)] _ _
  refine sx_RP.step (pc2 := 31) (ls2 := [(1, .int ((sieT (FCb w)).1)), (0, .ref 0)]) (st2 := []) (w3 := w13) rfl rfl ?_
  refine sx_RP.step (pc2 := 32) (ls2 := [(1, .int ((sieT (FCb w)).1)), (0, .ref 0)]) (st2 := [.int ((sieT (FCb w)).1)]) (w3 := w13) rfl rfl ?_
  refine sx_RP.br (p1 := 46) (l1 := [(1, .int ((sieT (FCb w)).1)), (0, .ref 0)]) (s1 := []) (v1 := w13) (p2 := 35) (l2 := [(1, .int ((sieT (FCb w)).1)), (0, .ref 0)]) (s2 := []) (v2 := w13) rfl rfl (fun q15 => ?_) (fun q15 => ?_)
  · replace q15 := of_decide_eq_true q15
    refine sx_RP.step (pc2 := 47) (ls2 := [(1, .int ((sieT (FCb w)).1)), (0, .ref 0)]) (st2 := [.int ((sieT (FCb w)).1)]) (w3 := w13) rfl rfl ?_
    refine sx_RP.ret (r := (some (.int ((sieT (FCb w)).1)))) rfl rfl ?_
    have h0 : ¬ 0 ≤ (sieT (FCb w)).1 := Int32.not_le.mpr q15
    have eo : ∀ a, a ≠ 96 → (a < 29 ∨ 43 ≤ a) → w13[a]? = w[a]? := fun a h1 h2 => (hs12 a h1).trans ((hO8 a h1 (by omega)).trans (ht1.1 a (by omega)))
    refine ⟨⟨rfl, ?_⟩, hI14, fun a ha => eo a (by omega) (by omega)⟩
    unfold sieU
    rw [if_neg h0]
    unfold FCb
    rw [tapC_nil hv11, fi_same 3 (eo 0 (by omega) (by omega)), campB_same (A := 1) (fun a h1 h2 => eo a (by omega) (by omega)) (hI.many (Or.inl rfl)), campB_same (A := 15) (fun a h1 h2 => eo a (by omega) (by omega)) (hI.many (Or.inr (Or.inl rfl)))]
  · replace q15 := of_decide_eq_false q15
    refine sx_RP.step (pc2 := 36) (ls2 := [(1, .int ((sieT (FCb w)).1)), (0, .ref 0)]) (st2 := [.ref 0]) (w3 := w13) rfl rfl ?_
    refine sx_RP.gf (v := .ref 1) rfl rfl hI14.1.o0 rfl rfl (show _ = 39 from rfl) ?_
    refine sx_RP.step (pc2 := 40) (ls2 := [(1, .int ((sieT (FCb w)).1)), (0, .ref 0)]) (st2 := [.ref 0, .ref 1]) (w3 := w13) rfl rfl ?_
    refine sx_RP.gf (v := .ref 29) rfl rfl hI14.1.o0 rfl rfl (show _ = 43 from rfl) ?_
    refine sx_RP.callp (as2 := [.ref 1, .ref 29]) (rest2 := []) rfl rfl (sx_inv_v2 (mi := 92) (k := 179) (st := [.ref 29, .ref 1]) (w := w13) rfl rfl (hI14.1.oC (Or.inl rfl)) rfl rfl rfl) rfl rfl rfl (X50 hI14 (Or.inl rfl) (Or.inr (Or.inr rfl)) (by omega)) (show _ = 46 from rfl) ?_
    rintro r4 w17 ⟨rfl, hI18, ht16⟩
    show sx_RP _ _ _ _ _ [] _ _
    refine sx_RP.step (pc2 := 47) (ls2 := [(1, .int ((sieT (FCb w)).1)), (0, .ref 0)]) (st2 := [.int ((sieT (FCb w)).1)]) (w3 := w17) rfl rfl ?_
    refine sx_RP.ret (r := (some (.int ((sieT (FCb w)).1)))) rfl rfl ?_
    have h0 : 0 ≤ (sieT (FCb w)).1 := Int32.not_lt.mp q15
    have ec : campB w17 1 = (sieT (FCb w)).2 := ht16.b.trans ((campB_same (A := 29) (fun a h1 h2 => hs12 a (by omega)) (hI10.many (Or.inr (Or.inr rfl)))).trans (hb6 h0))
    have eo : ∀ a, a ≠ 96 → (a < 1 ∨ (15 ≤ a ∧ a < 29) ∨ 43 ≤ a) → w17[a]? = w[a]? := fun a h1 h2 => (ht16.1 a (by omega)).trans ((hs12 a h1).trans ((hO8 a h1 (by omega)).trans (ht1.1 a (by omega))))
    have et : tapC w17 = [] := tapC_nil ((fi_same 1 (ht16.1 96 (by omega))).trans hv11)
    refine ⟨⟨rfl, ?_⟩, hI18, fun a ha => eo a (by omega) (by omega)⟩
    unfold sieU
    rw [if_pos h0, ← ec]
    unfold FCb
    rw [et, fi_same 3 (eo 0 (by omega) (by omega)), campB_same (A := 15) (fun a h1 h2 => eo a (by omega) (by omega)) (hI.many (Or.inr (Or.inl rfl)))]
