-- runs that change one cell's kept part
def EX (b : Nat) (w w2 : List sx_C) : Prop := ∀ a, a ≠ b → (a < 111 → (w2[a]?).map (kp a) = (w[a]?).map (kp a)) ∧ (111 ≤ a → w2[a]? = w[a]?)
theorem EC.ex {b : Nat} {w w2 : List sx_C} (h : EC w w2) : EX b w w2 := fun a _ => h a
theorem EX.rf {b : Nat} {w : List sx_C} : EX b w w := fun _ _ => ⟨fun _ => rfl, fun _ => rfl⟩
theorem EX.tr {b : Nat} {w w1 w2 : List sx_C} (h : EX b w w1) (h2 : EX b w1 w2) : EX b w w2 := fun a ha => ⟨fun z => ((h2 a ha).1 z).trans ((h a ha).1 z), fun z => ((h2 a ha).2 z).trans ((h a ha).2 z)⟩
theorem EX.at {b : Nat} {w : List sx_C} {c : sx_C} : EX b w (w.set b c) := by
  intro a ha
  rw [List.getElem?_set_ne (Ne.symm ha)]
  exact ⟨fun _ => rfl, fun _ => rfl⟩
section SXX
variable {xs : Option (List Int32)} {d mi pc pc2 idx p : Nat} {ls : sx_L} {r : List Value} {w w0 : List sx_C} {P : Option Value → List sx_C → Prop}
/-- the tape's length -/
theorem sx_RP.pl {v : Int32} (hI : WI w) (hi : sx_ins mi pc = some (.putfield idx, 3)) (hq : sx_lk (sx_fl (sx_own mi)) idx = some (4, 1, p)) (hf : sx_fin mi 4 1 = true) (hv : inR v 120) (hp : pc + 3 = pc2) (kk : ∀ w2, WI w2 → EX 96 w w2 → fi w2 96 1 = v → sx_RP xs d mi pc2 ls r w2 P) : sx_RP xs d mi pc ls (.int v :: .ref 96 :: r) w P := by
  have hw := hI.1.o96
  have q := hI.t
  exact sx_RP.pf hi hq hw (by rw [hf]; rfl) rfl rfl hp (kk _ (hI.set hw rfl (cOK.t ⟨hv, q.2⟩)) EX.at (by unfold fi; rw [fs_set hw]; rfl))
/-- whether an image is kept -/
theorem sx_RP.pk {v : Int32} (hI : WI w) (hi : sx_ins mi pc = some (.putfield idx, 3)) (hq : sx_lk (sx_fl (sx_own mi)) idx = some (0, 3, p)) (hf : sx_fin mi 0 3 = true) (hv : inR v 1) (hp : pc + 3 = pc2) (kk : ∀ w2, WI w2 → EX 0 w w2 → fi w2 0 3 = v → sx_RP xs d mi pc2 ls r w2 P) : sx_RP xs d mi pc ls (.int v :: .ref 0 :: r) w P := by
  have hw := hI.1.o0
  exact sx_RP.pf hi hq hw (by rw [hf, show sx_okv (sx_ty 0 3) (.int v) = (v == 0 || v == 1) from rfl, inR.bo hv]; rfl) rfl rfl hp (kk _ (hI.set hw rfl (cOK.o hv)) EX.at (by unfold fi; rw [fs_set hw]; rfl))
/-- a sheet's bits, its size -/
theorem sx_RP.psb {v : Int32} {s : Nat} (hI : WI w) (hs : s < 4) (hi : sx_ins mi pc = some (.putfield idx, 3)) (hq : sx_lk (sx_fl (sx_own mi)) idx = some (5, 1, p)) (hf : sx_fin mi 5 1 = true) (hp : pc + 3 = pc2) (kk : ∀ w2, WI w2 → EX (103 + 2 * s) w w2 → fi w2 (103 + 2 * s) 1 = v → sx_RP xs d mi pc2 ls r w2 P) : sx_RP xs d mi pc ls (.int v :: .ref (103 + 2 * s) :: r) w P := by
  have hw := hI.1.oS hs
  exact sx_RP.pf hi hq hw (by rw [hf]; rfl) rfl rfl hp (kk _ (hI.set hw rfl (cOK.sh hs (hI.sh hs))) EX.at (by unfold fi; rw [fs_set hw]; rfl))
theorem sx_RP.pss {v : Int32} {s : Nat} (hI : WI w) (hs : s < 4) (hi : sx_ins mi pc = some (.putfield idx, 3)) (hq : sx_lk (sx_fl (sx_own mi)) idx = some (5, 2, p)) (hf : sx_fin mi 5 2 = true) (hv : inR v 40) (hp : pc + 3 = pc2) (kk : ∀ w2, WI w2 → EX (103 + 2 * s) w w2 → fi w2 (103 + 2 * s) 2 = v → fi w2 (103 + 2 * s) 1 = fi w (103 + 2 * s) 1 → sx_RP xs d mi pc2 ls r w2 P) : sx_RP xs d mi pc ls (.int v :: .ref (103 + 2 * s) :: r) w P := by
  have hw := hI.1.oS hs
  exact sx_RP.pf hi hq hw (by rw [hf]; rfl) rfl rfl hp (kk _ (hI.set hw rfl (cOK.sh hs hv)) EX.at (by unfold fi; rw [fs_set hw]; rfl) (by unfold fi; rw [fs_set hw]; rfl))
end SXX
-- what EC keeps, in words
theorem fs3 {c : sx_C} {k : Nat} {a : Nat} (h : kp a c = (((cf c)[k]?).toList, [])) : True := trivial
theorem kp_eq {a : Nat} {w w2 : List sx_C} {c c2 : sx_C} (h : (w2[a]?).map (kp a) = (w[a]?).map (kp a)) (h1 : w[a]? = some c) (h2 : w2[a]? = some c2) : kp a c2 = kp a c := by
  rw [h1, h2] at h
  exact Option.some.inj h
theorem keep0 {w w2 : List sx_C} (hI : WI w) (hI2 : WI w2) (h : (w2[0]?).map (kp 0) = (w[0]?).map (kp 0)) : fi w2 0 3 = fi w 0 3 := by
  have e := kp_eq h hI.1.o0 hI2.1.o0
  have e1 := (Prod.mk.inj e).1
  exact Value.int.inj (List.cons.inj e1).1
theorem keep96 {w w2 : List sx_C} (hI : WI w) (hI2 : WI w2) (h : (w2[96]?).map (kp 96) = (w[96]?).map (kp 96)) : fi w2 96 1 = fi w 96 1 := by
  have e := kp_eq h hI.1.o96 hI2.1.o96
  have e1 := (Prod.mk.inj e).1
  exact Value.int.inj (List.cons.inj e1).1
theorem keep111 {w w2 : List sx_C} (hI : WI w) (hI2 : WI w2) (h : (w2[111]?).map (kp 111) = (w[111]?).map (kp 111)) : fi w2 111 4 = fi w 111 4 ∧ fi w2 111 11 = fi w 111 11 := by
  have e := kp_eq h hI.1.o111 hI2.1.o111
  have e1 := (Prod.mk.inj e).1
  exact ⟨Value.int.inj (List.cons.inj e1).1, Value.int.inj (List.cons.inj (List.cons.inj e1).2).1⟩
set_option maxRecDepth 20000 in
set_option maxHeartbeats 4000000 in
theorem s91 {xs : Option (List Int32)} {d : Nat} {w : List sx_C} (hI : WI w) : sx_RP xs d 91 0 (lv_args 0 [.ref 96]) [] w (fun r w2 => r = some (.int (fi w 96 1)) ∧ WI w2 ∧ EX 96 w w2 ∧ fi w2 96 1 = 0) := by
  refine sx_RP.step (pc2 := 1) (ls2 := [(0, .ref 96)]) (st2 := [.ref 96]) (w3 := w) rfl rfl ?_
  refine sx_RP.gt (k := 1) hI rfl rfl (by decide) (show _ = 4 from rfl) ?_
  refine sx_RP.step (pc2 := 5) (ls2 := [(1, .int (fi w 96 1)), (0, .ref 96)]) (st2 := []) (w3 := w) rfl rfl ?_
  refine sx_RP.step (pc2 := 6) (ls2 := [(1, .int (fi w 96 1)), (0, .ref 96)]) (st2 := [.ref 96]) (w3 := w) rfl rfl ?_
  refine sx_RP.step (pc2 := 7) (ls2 := [(1, .int (fi w 96 1)), (0, .ref 96)]) (st2 := [.int 0, .ref 96]) (w3 := w) rfl rfl ?_
  refine sx_RP.pl hI rfl rfl rfl ⟨0, by decide, rfl⟩ (show _ = 10 from rfl) (fun w2 hI2 hE2 h2 => ?_)
  refine sx_RP.step (pc2 := 11) (ls2 := [(1, .int (fi w 96 1)), (0, .ref 96)]) (st2 := [.int (fi w 96 1)]) (w3 := w2) rfl rfl ?_
  refine sx_RP.ret rfl rfl ?_
  exact ⟨rfl, hI2, hE2, h2⟩
set_option maxRecDepth 20000 in
set_option maxHeartbeats 4000000 in
theorem s90 {xs : Option (List Int32)} {d : Nat} {w : List sx_C} (hI : WI w) : sx_RP xs (d + 7) 90 0 (lv_args 0 [.ref 0]) [] w (fun r w2 => r = some (.int (fi w 96 1)) ∧ WI w2 ∧ EX 96 w w2 ∧ fi w2 96 1 = 0) := by
  refine sx_RP.step (pc2 := 1) (ls2 := [(0, .ref 0)]) (st2 := [.ref 0]) (w3 := w) rfl rfl ?_
  refine sx_RP.gf (v := .ref 96) rfl rfl hI.1.o0 rfl rfl (show _ = 4 from rfl) ?_
  refine sx_RP.callp (as2 := [.ref 96]) (rest2 := []) rfl rfl (sx_inv_v2 (mi := 90) (k := 289) (st := [.ref 96]) (w := w) rfl rfl hI.1.o96 rfl rfl rfl) rfl rfl rfl (s91 hI) (show _ = 7 from rfl) ?_
  rintro r4 w2 ⟨rfl, hI2, hE2, h2⟩
  refine sx_RP.ret rfl rfl ?_
  exact ⟨rfl, hI2, hE2, h2⟩
set_option maxRecDepth 20000 in
set_option maxHeartbeats 4000000 in
theorem s126 {xs : Option (List Int32)} {d : Nat} {w : List sx_C} (hI : WI w) : sx_RP xs (d + 7) 126 0 (lv_args 0 [.ref 0]) [] w (fun r w2 => r = some (.int (fi w 0 3)) ∧ WI w2 ∧ EX 0 w w2 ∧ fi w2 0 3 = 0) := by
  obtain ⟨j, hj, e⟩ := hI.kp
  refine sx_RP.step (pc2 := 1) (ls2 := [(0, .ref 0)]) (st2 := [.ref 0]) (w3 := w) rfl rfl ?_
  refine sx_RP.gf (v := .int (fi w 0 3)) rfl rfl hI.1.o0 rfl rfl (show _ = 4 from rfl) ?_
  rw [e]
  rcases (show j = 0 ∨ j = 1 by omega) with rfl | rfl
  · refine sx_RP.step (pc2 := 11) (ls2 := [(0, .ref 0)]) (st2 := []) (w3 := w) rfl rfl ?_
    refine sx_RP.step (pc2 := 12) (ls2 := [(0, .ref 0)]) (st2 := [.int 0]) (w3 := w) rfl rfl ?_
    refine sx_RP.step (pc2 := 13) (ls2 := [(1, .int 0), (0, .ref 0)]) (st2 := []) (w3 := w) rfl rfl ?_
    refine sx_RP.step (pc2 := 14) (ls2 := [(1, .int 0), (0, .ref 0)]) (st2 := [.ref 0]) (w3 := w) rfl rfl ?_
    refine sx_RP.step (pc2 := 15) (ls2 := [(1, .int 0), (0, .ref 0)]) (st2 := [.int 0, .ref 0]) (w3 := w) rfl rfl ?_
    refine sx_RP.pk hI rfl rfl rfl ⟨0, by decide, rfl⟩ (show _ = 18 from rfl) (fun w2 hI2 hE2 h2 => ?_)
    refine sx_RP.step (pc2 := 19) (ls2 := [(1, .int 0), (0, .ref 0)]) (st2 := [.int 0]) (w3 := w2) rfl rfl ?_
    refine sx_RP.ret rfl rfl ?_
    exact ⟨rfl, hI2, hE2, h2⟩
  · refine sx_RP.step (pc2 := 7) (ls2 := [(0, .ref 0)]) (st2 := []) (w3 := w) rfl rfl ?_
    refine sx_RP.step (pc2 := 8) (ls2 := [(0, .ref 0)]) (st2 := [.int 1]) (w3 := w) rfl rfl ?_
    refine sx_RP.step (pc2 := 12) (ls2 := [(0, .ref 0)]) (st2 := [.int 1]) (w3 := w) rfl rfl ?_
    refine sx_RP.step (pc2 := 13) (ls2 := [(1, .int 1), (0, .ref 0)]) (st2 := []) (w3 := w) rfl rfl ?_
    refine sx_RP.step (pc2 := 14) (ls2 := [(1, .int 1), (0, .ref 0)]) (st2 := [.ref 0]) (w3 := w) rfl rfl ?_
    refine sx_RP.step (pc2 := 15) (ls2 := [(1, .int 1), (0, .ref 0)]) (st2 := [.int 0, .ref 0]) (w3 := w) rfl rfl ?_
    refine sx_RP.pk hI rfl rfl rfl ⟨0, by decide, rfl⟩ (show _ = 18 from rfl) (fun w2 hI2 hE2 h2 => ?_)
    refine sx_RP.step (pc2 := 19) (ls2 := [(1, .int 1), (0, .ref 0)]) (st2 := [.int 1]) (w3 := w2) rfl rfl ?_
    refine sx_RP.ret rfl rfl ?_
    exact ⟨rfl, hI2, hE2, h2⟩
set_option maxRecDepth 20000 in
set_option maxHeartbeats 4000000 in
theorem s124 {xs : Option (List Int32)} {d : Nat} {w : List sx_C} (hI : WI w) : sx_RP xs (d + 7) 124 0 (lv_args 0 [.ref 0]) [] w (fun r w2 => r = some (.int 1) ∧ WI w2 ∧ EX 0 w w2 ∧ fi w2 0 3 = 1) := by
  refine sx_RP.step (pc2 := 1) (ls2 := [(0, .ref 0)]) (st2 := [.ref 0]) (w3 := w) rfl rfl ?_
  refine sx_RP.gf (v := .ref 15) rfl rfl hI.1.o0 rfl rfl (show _ = 4 from rfl) ?_
  refine sx_RP.step (pc2 := 5) (ls2 := [(0, .ref 0)]) (st2 := [.ref 0, .ref 15]) (w3 := w) rfl rfl ?_
  refine sx_RP.gf (v := .ref 1) rfl rfl hI.1.o0 rfl rfl (show _ = 8 from rfl) ?_
  refine sx_RP.callp (as2 := [.ref 15, .ref 1]) (rest2 := []) rfl rfl (sx_inv_v2 (mi := 124) (k := 179) (st := [.ref 1, .ref 15]) (w := w) rfl rfl (hI.1.oC (Or.inr (Or.inl rfl))) rfl rfl rfl) rfl rfl rfl (s50 hI (Or.inr (Or.inl rfl)) (Or.inl rfl)) (show _ = 11 from rfl) ?_
  rintro r4 w1 ⟨rfl, hI1, hE1⟩
  show sx_RP _ _ _ _ _ [] _ _
  refine sx_RP.step (pc2 := 12) (ls2 := [(0, .ref 0)]) (st2 := [.ref 0]) (w3 := w1) rfl rfl ?_
  refine sx_RP.step (pc2 := 13) (ls2 := [(0, .ref 0)]) (st2 := [.int 1, .ref 0]) (w3 := w1) rfl rfl ?_
  refine sx_RP.pk hI1 rfl rfl rfl ⟨1, by decide, rfl⟩ (show _ = 16 from rfl) (fun w2 hI2 hE2 h2 => ?_)
  refine sx_RP.step (pc2 := 17) (ls2 := [(0, .ref 0)]) (st2 := [.int 1]) (w3 := w2) rfl rfl ?_
  refine sx_RP.ret rfl rfl ?_
  exact ⟨rfl, hI2, hE1.ex.tr hE2, h2⟩
set_option maxRecDepth 20000 in
set_option maxHeartbeats 4000000 in
theorem s92 {xs : Option (List Int32)} {d : Nat} {w : List sx_C} (hI : WI w) : sx_RP xs (d + 7) 92 0 (lv_args 0 [.ref 0]) [] w (fun r w2 => (∃ v : Int32, r = some (.int v)) ∧ WI w2 ∧ EX 96 w w2 ∧ fi w2 96 1 = 0) := by
  refine sx_RP.step (pc2 := 1) (ls2 := [(0, .ref 0)]) (st2 := [.ref 0]) (w3 := w) rfl rfl ?_
  refine sx_RP.gf (v := .ref 29) rfl rfl hI.1.o0 rfl rfl (show _ = 4 from rfl) ?_
  refine sx_RP.step (pc2 := 5) (ls2 := [(0, .ref 0)]) (st2 := [.ref 0, .ref 29]) (w3 := w) rfl rfl ?_
  refine sx_RP.gf (v := .ref 1) rfl rfl hI.1.o0 rfl rfl (show _ = 8 from rfl) ?_
  refine sx_RP.callp (as2 := [.ref 29, .ref 1]) (rest2 := []) rfl rfl (sx_inv_v2 (mi := 92) (k := 179) (st := [.ref 1, .ref 29]) (w := w) rfl rfl (hI.1.oC (Or.inr (Or.inr rfl))) rfl rfl rfl) rfl rfl rfl (s50 hI (Or.inr (Or.inr rfl)) (Or.inl rfl)) (show _ = 11 from rfl) ?_
  rintro r4 w1 ⟨rfl, hI1, hE1⟩
  show sx_RP _ _ _ _ _ [] _ _
  refine sx_RP.step (pc2 := 12) (ls2 := [(0, .ref 0)]) (st2 := [.ref 0]) (w3 := w1) rfl rfl ?_
  refine sx_RP.gf (v := .ref 96) rfl rfl hI1.1.o0 rfl rfl (show _ = 15 from rfl) ?_
  refine sx_RP.step (pc2 := 16) (ls2 := [(0, .ref 0)]) (st2 := [.ref 0, .ref 96]) (w3 := w1) rfl rfl ?_
  refine sx_RP.gf (v := .ref 29) rfl rfl hI1.1.o0 rfl rfl (show _ = 19 from rfl) ?_
  refine sx_RP.callp (as2 := [.ref 96, .ref 29]) (rest2 := []) rfl rfl (sx_inv_v2 (mi := 92) (k := 292) (st := [.ref 29, .ref 96]) (w := w1) rfl rfl hI1.1.o96 rfl rfl rfl) rfl rfl rfl (s93 hI1 (Or.inr (Or.inr rfl))) (show _ = 22 from rfl) ?_
  rintro r4 w2 ⟨⟨v, rfl⟩, hI2, hE2⟩
  show sx_RP _ _ _ _ _ [.int v] _ _
  refine sx_RP.step (pc2 := 23) (ls2 := [(1, .int v), (0, .ref 0)]) (st2 := []) (w3 := w2) rfl rfl ?_
  refine sx_RP.step (pc2 := 24) (ls2 := [(1, .int v), (0, .ref 0)]) (st2 := [.ref 0]) (w3 := w2) rfl rfl ?_
  refine sx_RP.gf (v := .ref 96) rfl rfl hI2.1.o0 rfl rfl (show _ = 27 from rfl) ?_
  refine sx_RP.callp (as2 := [.ref 96]) (rest2 := []) rfl rfl (sx_inv_v2 (mi := 92) (k := 289) (st := [.ref 96]) (w := w2) rfl rfl hI2.1.o96 rfl rfl rfl) rfl rfl rfl (s91 hI2) (show _ = 30 from rfl) ?_
  rintro r4 w3 ⟨rfl, hI3, hE3, h3⟩
  show sx_RP _ _ _ _ _ [.int (fi w2 96 1)] _ _
  have hEE : EX 96 w w3 := (hE1.ex.tr hE2.ex).tr hE3
  refine sx_RP.step (pc2 := 31) (ls2 := [(1, .int v), (0, .ref 0)]) (st2 := []) (w3 := w3) rfl rfl ?_
  refine sx_RP.step (pc2 := 32) (ls2 := [(1, .int v), (0, .ref 0)]) (st2 := [.int v]) (w3 := w3) rfl rfl ?_
  refine sx_RP.br (p1 := 46) (l1 := [(1, .int v), (0, .ref 0)]) (s1 := []) (v1 := w3) (p2 := 35) (l2 := [(1, .int v), (0, .ref 0)]) (s2 := []) (v2 := w3) rfl rfl (fun q => ?_) (fun q => ?_)
  · refine sx_RP.step (pc2 := 47) (ls2 := [(1, .int v), (0, .ref 0)]) (st2 := [.int v]) (w3 := w3) rfl rfl ?_
    refine sx_RP.ret rfl rfl ?_
    exact ⟨⟨_, rfl⟩, hI3, hEE, h3⟩
  · refine sx_RP.step (pc2 := 36) (ls2 := [(1, .int v), (0, .ref 0)]) (st2 := [.ref 0]) (w3 := w3) rfl rfl ?_
    refine sx_RP.gf (v := .ref 1) rfl rfl hI3.1.o0 rfl rfl (show _ = 39 from rfl) ?_
    refine sx_RP.step (pc2 := 40) (ls2 := [(1, .int v), (0, .ref 0)]) (st2 := [.ref 0, .ref 1]) (w3 := w3) rfl rfl ?_
    refine sx_RP.gf (v := .ref 29) rfl rfl hI3.1.o0 rfl rfl (show _ = 43 from rfl) ?_
    refine sx_RP.callp (as2 := [.ref 1, .ref 29]) (rest2 := []) rfl rfl (sx_inv_v2 (mi := 92) (k := 179) (st := [.ref 29, .ref 1]) (w := w3) rfl rfl (hI3.1.oC (Or.inl rfl)) rfl rfl rfl) rfl rfl rfl (s50 hI3 (Or.inl rfl) (Or.inr (Or.inr rfl))) (show _ = 46 from rfl) ?_
    rintro r4 w4 ⟨rfl, hI4, hE4⟩
    show sx_RP _ _ _ _ _ [] _ _
    refine sx_RP.step (pc2 := 47) (ls2 := [(1, .int v), (0, .ref 0)]) (st2 := [.int v]) (w3 := w4) rfl rfl ?_
    refine sx_RP.ret rfl rfl ?_
    exact ⟨⟨_, rfl⟩, hI4, hEE.tr hE4.ex, (keep96 hI3 hI4 ((hE4 96).1 (by decide))).trans h3⟩
