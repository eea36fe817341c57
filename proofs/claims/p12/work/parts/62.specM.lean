-- the reference: runs that change what is kept
def EXm (b : Nat) (w w2 : List sx_C) : Prop := ∀ a, a ≠ b → (a < 111 → w2[a]? = w[a]?) ∧ (111 ≤ a → (w2[a]?).map (kp a) = (w[a]?).map (kp a))
theorem EM.ex {b : Nat} {w w2 : List sx_C} (h : EM w w2) : EXm b w w2 := fun a _ => h a
theorem EXm.rf {b : Nat} {w : List sx_C} : EXm b w w := fun _ _ => ⟨fun _ => rfl, fun _ => rfl⟩
theorem EXm.tr {b : Nat} {w w1 w2 : List sx_C} (h : EXm b w w1) (h2 : EXm b w1 w2) : EXm b w w2 := fun a ha => ⟨fun z => ((h2 a ha).1 z).trans ((h a ha).1 z), fun z => ((h2 a ha).2 z).trans ((h a ha).2 z)⟩
theorem EXm.at {b : Nat} {w : List sx_C} {c : sx_C} : EXm b w (w.set b c) := by
  intro a ha
  rw [List.getElem?_set_ne (Ne.symm ha)]
  exact ⟨fun _ => rfl, fun _ => rfl⟩
section SXX2
variable {xs : Option (List Int32)} {d mi pc pc2 idx p : Nat} {ls : sx_L} {r : List Value} {w w0 : List sx_C} {P : Option Value → List sx_C → Prop}
theorem sx_RP.pmk {v : Int32} (hI : WI w) (hi : sx_ins mi pc = some (.putfield idx, 3)) (hq : sx_lk (sx_fl (sx_own mi)) idx = some (6, 4, p)) (hf : sx_fin mi 6 4 = true) (hv : inR v 1) (hp : pc + 3 = pc2) (kk : ∀ w2, WI w2 → EXm 111 w w2 → fi w2 111 4 = v → fi w2 111 11 = fi w 111 11 → sx_RP xs d mi pc2 ls r w2 P) : sx_RP xs d mi pc ls (.int v :: .ref 111 :: r) w P := by
  have hw := hI.1.o111
  have q := hI.m
  exact sx_RP.pf hi hq hw (by rw [hf, show sx_okv (sx_ty 6 4) (.int v) = (v == 0 || v == 1) from rfl, inR.bo hv]; rfl) rfl rfl hp (kk _ (hI.set hw rfl (cOK.m ⟨hv, q.2⟩)) EXm.at (by unfold fi; rw [fs_set hw]; rfl) (by unfold fi; rw [fs_set hw]; rfl))
theorem sx_RP.pmt {v : Int32} (hI : WI w) (hi : sx_ins mi pc = some (.putfield idx, 3)) (hq : sx_lk (sx_fl (sx_own mi)) idx = some (6, 11, p)) (hf : sx_fin mi 6 11 = true) (hv : inR v 120) (hp : pc + 3 = pc2) (kk : ∀ w2, WI w2 → EXm 111 w w2 → fi w2 111 11 = v → fi w2 111 4 = fi w 111 4 → sx_RP xs d mi pc2 ls r w2 P) : sx_RP xs d mi pc ls (.int v :: .ref 111 :: r) w P := by
  have hw := hI.1.o111
  have q := hI.m
  exact sx_RP.pf hi hq hw (by rw [hf]; rfl) rfl rfl hp (kk _ (hI.set hw rfl (cOK.m ⟨q.1, hv, q.2.2⟩)) EXm.at (by unfold fi; rw [fs_set hw]; rfl) (by unfold fi; rw [fs_set hw]; rfl))
end SXX2
set_option maxRecDepth 20000 in
set_option maxHeartbeats 4000000 in
theorem s242 {xs : Option (List Int32)} {d : Nat} {w : List sx_C} (hI : WI w) : sx_RP xs (d + 7) 242 0 (lv_args 0 [.ref 111]) [] w (fun r w2 => r = some (.int (fi w 111 4)) ∧ WI w2 ∧ EXm 111 w w2 ∧ fi w2 111 4 = 0 ∧ fi w2 111 11 = fi w 111 11) := by
  obtain ⟨j, hj, e⟩ := hI.m.1
  refine sx_RP.step (pc2 := 1) (ls2 := [(0, .ref 111)]) (st2 := [.ref 111]) (w3 := w) rfl rfl ?_
  refine sx_RP.gf (v := .int (fi w 111 4)) rfl rfl hI.1.o111 rfl rfl (show _ = 4 from rfl) ?_
  rw [e]
  rcases (show j = 0 ∨ j = 1 by omega) with rfl | rfl
  · refine sx_RP.step (pc2 := 11) (ls2 := [(0, .ref 111)]) (st2 := []) (w3 := w) rfl rfl ?_
    refine sx_RP.step (pc2 := 12) (ls2 := [(0, .ref 111)]) (st2 := [.int 0]) (w3 := w) rfl rfl ?_
    refine sx_RP.step (pc2 := 13) (ls2 := [(1, .int 0), (0, .ref 111)]) (st2 := []) (w3 := w) rfl rfl ?_
    refine sx_RP.step (pc2 := 14) (ls2 := [(1, .int 0), (0, .ref 111)]) (st2 := [.ref 111]) (w3 := w) rfl rfl ?_
    refine sx_RP.step (pc2 := 15) (ls2 := [(1, .int 0), (0, .ref 111)]) (st2 := [.int 0, .ref 111]) (w3 := w) rfl rfl ?_
    refine sx_RP.pmk hI rfl rfl rfl ⟨0, by decide, rfl⟩ (show _ = 18 from rfl) (fun w2 hI2 hE2 h2 h3 => ?_)
    refine sx_RP.step (pc2 := 19) (ls2 := [(1, .int 0), (0, .ref 111)]) (st2 := [.int 0]) (w3 := w2) rfl rfl ?_
    refine sx_RP.ret rfl rfl ?_
    exact ⟨rfl, hI2, hE2, h2, h3⟩
  · refine sx_RP.step (pc2 := 7) (ls2 := [(0, .ref 111)]) (st2 := []) (w3 := w) rfl rfl ?_
    refine sx_RP.step (pc2 := 8) (ls2 := [(0, .ref 111)]) (st2 := [.int 1]) (w3 := w) rfl rfl ?_
    refine sx_RP.step (pc2 := 12) (ls2 := [(0, .ref 111)]) (st2 := [.int 1]) (w3 := w) rfl rfl ?_
    refine sx_RP.step (pc2 := 13) (ls2 := [(1, .int 1), (0, .ref 111)]) (st2 := []) (w3 := w) rfl rfl ?_
    refine sx_RP.step (pc2 := 14) (ls2 := [(1, .int 1), (0, .ref 111)]) (st2 := [.ref 111]) (w3 := w) rfl rfl ?_
    refine sx_RP.step (pc2 := 15) (ls2 := [(1, .int 1), (0, .ref 111)]) (st2 := [.int 0, .ref 111]) (w3 := w) rfl rfl ?_
    refine sx_RP.pmk hI rfl rfl rfl ⟨0, by decide, rfl⟩ (show _ = 18 from rfl) (fun w2 hI2 hE2 h2 h3 => ?_)
    refine sx_RP.step (pc2 := 19) (ls2 := [(1, .int 1), (0, .ref 111)]) (st2 := [.int 1]) (w3 := w2) rfl rfl ?_
    refine sx_RP.ret rfl rfl ?_
    exact ⟨rfl, hI2, hE2, h2, h3⟩
set_option maxRecDepth 20000 in
set_option maxHeartbeats 4000000 in
theorem s240 {xs : Option (List Int32)} {d : Nat} {w : List sx_C} (hI : WI w) : sx_RP xs (d + 7) 240 0 (lv_args 0 [.ref 111]) [] w (fun r w2 => r = some (.int 1) ∧ WI w2 ∧ EXm 111 w w2 ∧ fi w2 111 4 = 1 ∧ fi w2 111 11 = fi w 111 11) := by
  refine sx_RP.step (pc2 := 1) (ls2 := [(0, .ref 111)]) (st2 := [.ref 111]) (w3 := w) rfl rfl ?_
  refine sx_RP.gf (v := .ref 112) rfl rfl hI.1.o111 rfl rfl (show _ = 4 from rfl) ?_
  refine sx_RP.step (pc2 := 5) (ls2 := [(0, .ref 111)]) (st2 := [.ref 111, .ref 112]) (w3 := w) rfl rfl ?_
  refine sx_RP.gf (v := .ref 113) rfl rfl hI.1.o111 rfl rfl (show _ = 8 from rfl) ?_
  refine sx_RP.callp (as2 := [.ref 112, .ref 113]) (rest2 := []) rfl rfl rfl rfl rfl rfl (s175 hI (a := 112) (b := 113) (by decide) (by decide)) (show _ = 11 from rfl) ?_
  rintro r4 w1 ⟨rfl, hI1, hE1⟩
  show sx_RP _ _ _ _ _ [] _ _
  refine sx_RP.step (pc2 := 12) (ls2 := [(0, .ref 111)]) (st2 := [.ref 111]) (w3 := w1) rfl rfl ?_
  refine sx_RP.step (pc2 := 13) (ls2 := [(0, .ref 111)]) (st2 := [.int 1, .ref 111]) (w3 := w1) rfl rfl ?_
  refine sx_RP.pmk hI1 rfl rfl rfl ⟨1, by decide, rfl⟩ (show _ = 16 from rfl) (fun w2 hI2 hE2 h2 h3 => ?_)
  refine sx_RP.step (pc2 := 17) (ls2 := [(0, .ref 111)]) (st2 := [.int 1]) (w3 := w2) rfl rfl ?_
  refine sx_RP.ret rfl rfl ?_
  exact ⟨rfl, hI2, hE1.ex.tr hE2, h2, h3.trans (keep111 hI hI1 ((hE1 111).2 (by decide))).2⟩
set_option maxRecDepth 20000 in
set_option maxHeartbeats 4000000 in
theorem s209 {xs : Option (List Int32)} {d : Nat} {w : List sx_C} (hI : WI w) : sx_RP xs (d + 7) 209 0 (lv_args 0 [.ref 111]) [] w (fun r w2 => r = some (.int (fi w 111 11)) ∧ WI w2 ∧ EXm 111 w w2 ∧ fi w2 111 11 = 0 ∧ fi w2 111 4 = fi w 111 4) := by
  refine sx_RP.step (pc2 := 1) (ls2 := [(0, .ref 111)]) (st2 := [.ref 111]) (w3 := w) rfl rfl ?_
  refine sx_RP.gf (v := .int (fi w 111 11)) rfl rfl hI.1.o111 rfl rfl (show _ = 4 from rfl) ?_
  refine sx_RP.step (pc2 := 5) (ls2 := [(1, .int (fi w 111 11)), (0, .ref 111)]) (st2 := []) (w3 := w) rfl rfl ?_
  refine sx_RP.step (pc2 := 6) (ls2 := [(1, .int (fi w 111 11)), (0, .ref 111)]) (st2 := [.ref 111]) (w3 := w) rfl rfl ?_
  refine sx_RP.step (pc2 := 7) (ls2 := [(1, .int (fi w 111 11)), (0, .ref 111)]) (st2 := [.int 0, .ref 111]) (w3 := w) rfl rfl ?_
  refine sx_RP.pmt hI rfl rfl rfl ⟨0, by decide, rfl⟩ (show _ = 10 from rfl) (fun w2 hI2 hE2 h2 h3 => ?_)
  refine sx_RP.step (pc2 := 11) (ls2 := [(1, .int (fi w 111 11)), (0, .ref 111)]) (st2 := [.int (fi w 111 11)]) (w3 := w2) rfl rfl ?_
  refine sx_RP.ret rfl rfl ?_
  exact ⟨rfl, hI2, hE2, h2, h3⟩
