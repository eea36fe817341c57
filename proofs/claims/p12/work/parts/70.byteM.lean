-- safety: the text of the reference: bytes, blanks
/-- a run of the reference's reading: of cell 111 the fields 12, 13, 14 may change, and nothing else -/
def EH (w w2 : List sx_C) : Prop := (∀ a, a ≠ 111 → w2[a]? = w[a]?) ∧ (w2[111]?).map (kp 111) = (w[111]?).map (kp 111) ∧ (fi w 111 12).toInt ≤ (fi w2 111 12).toInt
theorem EH.rf {w : List sx_C} : EH w w := ⟨fun _ _ => rfl, rfl, Int.le_refl _⟩
theorem hr_le {w : List sx_C} {p q : Nat} (ep : fi w 111 12 = nI p) (hp : p < 2 ^ 31) (hq : q < 2 ^ 31) (h : p ≤ q) : (fi w 111 12).toInt ≤ (nI q).toInt := by
  rw [ep, nI_toInt hp, nI_toInt hq]
  omega
theorem EH.tr {w w1 w2 : List sx_C} (h : EH w w1) (h2 : EH w1 w2) : EH w w2 := ⟨fun a ha => (h2.1 a ha).trans (h.1 a ha), h2.2.1.trans h.2.1, Int.le_trans h.2.2 h2.2.2⟩
theorem EH.em {w w2 : List sx_C} (h : EH w w2) : EM w w2 := by
  intro a
  by_cases e : a = 111
  · subst e
    exact ⟨fun z => by omega, fun _ => h.2.1⟩
  · rw [h.1 a e]
    exact ⟨fun _ => rfl, fun _ => rfl⟩
theorem sx_RP.pmH {xs : Option (List Int32)} {d mi pc pc2 idx p : Nat} {ls : sx_L} {r : List Value} {w w0 : List sx_C} {P : Option Value → List sx_C → Prop} {k : Nat} {v : Int32} (hI : WI w) (hE : EH w0 w) (hi : sx_ins mi pc = some (.putfield idx, 3)) (hq : sx_lk (sx_fl (sx_own mi)) idx = some (6, k, p)) (hk : 12 ≤ k ∧ k < 15) (hf : sx_fin mi 6 k = true) (hv : mR k v) (hm : k = 12 → (fi w 111 12).toInt ≤ v.toInt) (hp : pc + 3 = pc2) (kk : ∀ w2, WI w2 → EH w0 w2 → fi w2 111 k = v → (∀ j, j ≠ k → fi w2 111 j = fi w 111 j) → (∀ a, a ≠ 111 → w2[a]? = w[a]?) → sx_RP xs d mi pc2 ls r w2 P) : sx_RP xs d mi pc ls (.int v :: .ref 111 :: r) w P :=
  sx_RP.pm hI EM.rf hi hq hk hf hv hp (fun w2 h1 h2 h3 h4 h5 => kk w2 h1 (hE.tr ⟨h5, (h2 111).2 (by decide), by
    by_cases e : k = 12
    · subst e
      rw [h3]
      exact hm rfl
    · rw [h4 12 (Ne.symm e)]
      exact Int.le_refl _⟩) h3 h4 h5)
set_option maxRecDepth 20000 in
set_option maxHeartbeats 4000000 in
theorem p216 {xs : Option (List Int32)} {d : Nat} {w : List sx_C} (hI : WI w) {a : Nat} (ha : a < 2 ^ 31) : sx_RU xs d 216 0 (lv_args 0 [.ref 111, .int (nI a)]) [] w (some (.int (-1))) w ∨ (a < 120 ∧ ∃ v : Int32, sx_RU xs d 216 0 (lv_args 0 [.ref 111, .int (nI a)]) [] w (some (.int v)) w) := by
  have h : sx_RP xs d 216 0 (lv_args 0 [.ref 111, .int (nI a)]) [] w (fun r w2 => (r = some (.int (-1)) ∨ (a < 120 ∧ ∃ v : Int32, r = some (.int v))) ∧ w2 = w) := by
    refine sx_RP.step (pc2 := 1) (ls2 := [(0, .ref 111), (1, .int (nI a))]) (st2 := [.int (nI a)]) (w3 := w) rfl rfl ?_
    refine sx_RP.step (pc2 := 2) (ls2 := [(0, .ref 111), (1, .int (nI a))]) (st2 := [.ref 111, .int (nI a)]) (w3 := w) rfl rfl ?_
    refine sx_RP.gf (v := .int (fi w 111 11)) rfl rfl hI.1.o111 rfl rfl (show _ = 5 from rfl) ?_
    obtain ⟨x1, hx2, ex3⟩ : inR (fi w 111 11) 120 := hI.m.2.1
    rw [ex3]
    refine sx_RP.br (p1 := 17) (l1 := [(0, .ref 111), (1, .int (nI a))]) (s1 := []) (v1 := w) (p2 := 8) (l2 := [(0, .ref 111), (1, .int (nI a))]) (s2 := []) (v2 := w) rfl rfl (fun q4 => ?_) (fun q4 => ?_)
    · replace q4 := of_decide_eq_true q4
      replace q4 := (nI_leI (a := x1) (b := a) (by omega) (by omega)).mp q4
      refine sx_RP.step (pc2 := 18) (ls2 := [(0, .ref 111), (1, .int (nI a))]) (st2 := [.int (-1)]) (w3 := w) rfl rfl ?_
      refine sx_RP.ret (r := (some (.int (-1)))) rfl rfl ?_
      exact ⟨Or.inl rfl, rfl⟩
    · replace q4 := of_decide_eq_false q4
      replace q4 := mt (nI_leI (a := x1) (b := a) (by omega) (by omega)).mpr q4
      refine sx_RP.step (pc2 := 9) (ls2 := [(0, .ref 111), (1, .int (nI a))]) (st2 := [.ref 111]) (w3 := w) rfl rfl ?_
      refine sx_RP.gf (v := .ref 121) rfl rfl hI.1.o111 rfl rfl (show _ = 12 from rfl) ?_
      refine sx_RP.step (pc2 := 13) (ls2 := [(0, .ref 111), (1, .int (nI a))]) (st2 := [.int (nI a), .ref 121]) (w3 := w) rfl rfl ?_
      refine sx_RP.ild (c := a) rfl hI.1.a121.1 hI.1.a121.2 (sx_in_nI (show a < 120 by omega) (by decide)) (show (nI a).toNatClampNeg = a from nI_clamp (by omega)) (show _ = 14 from rfl) ?_
      refine sx_RP.step (pc2 := 18) (ls2 := [(0, .ref 111), (1, .int (nI a))]) (st2 := [.int ((ia w 121).getD a 0)]) (w3 := w) rfl rfl ?_
      refine sx_RP.ret (r := (some (.int ((ia w 121).getD a 0)))) rfl rfl ?_
      exact ⟨Or.inr ⟨by omega, _, rfl⟩, rfl⟩
  obtain ⟨r, w2, h1, h2, rfl⟩ := h
  rcases h2 with rfl | ⟨ha2, v, rfl⟩
  · exact Or.inl h1
  · exact Or.inr ⟨ha2, v, h1⟩
set_option maxRecDepth 20000 in
set_option maxHeartbeats 4000000 in
theorem s215B {xs : Option (List Int32)} {d p : Nat} {w w0 : List sx_C} {P : Option Value → List sx_C → Prop} {v : Int32} (hI : WI w) (hE : EH w0 w) (hp : p ≤ 120) (ep : fi w 111 12 = nI p) (hc : sx_RU xs d 216 0 (lv_args 0 [.ref 111, .int (nI p)]) [] w (some (.int v)) w) (hv : v = -1 ∨ p < 120) (k1 : ¬ v = 32 → P none w) (kk : v = 32 → p < 120 → ∀ w2, WI w2 → EH w0 w2 → fi w2 111 12 = nI (p + 1) → sx_RP xs (d + 1) 215 0 [(0, .ref 111)] [] w2 P) : sx_RP xs (d + 1) 215 0 [(0, .ref 111)] [] w P := by
  refine sx_RP.step (pc2 := 1) (ls2 := [(0, .ref 111)]) (st2 := [.ref 111]) (w3 := w) rfl rfl ?_
  refine sx_RP.step (pc2 := 2) (ls2 := [(0, .ref 111)]) (st2 := [.ref 111, .ref 111]) (w3 := w) rfl rfl ?_
  refine sx_RP.gf (v := .int (fi w 111 12)) rfl rfl hI.1.o111 rfl rfl (show _ = 5 from rfl) ?_
  rw [ep]
  refine sx_RP.cu (as := [.ref 111, .int (nI p)]) (rest2 := []) (st3 := [.int v]) rfl rfl (sx_inv_v2 (mi := 215) (k := 215) (st := [.int (nI p), .ref 111]) (w := w) rfl rfl hI.1.o111 rfl rfl rfl) rfl rfl (hc) rfl ?_
  refine sx_RP.step (pc2 := 10) (ls2 := [(0, .ref 111)]) (st2 := [.int 32, .int v]) (w3 := w) rfl rfl ?_
  refine sx_RP.br (p1 := 26) (l1 := [(0, .ref 111)]) (s1 := []) (v1 := w) (p2 := 13) (l2 := [(0, .ref 111)]) (s2 := []) (v2 := w) rfl rfl (fun q1 => ?_) (fun q1 => ?_)
  · replace q1 := of_decide_eq_true q1
    refine sx_RP.ret (r := none) rfl rfl ?_
    exact k1 q1
  · replace q1 := Decidable.not_not.mp (of_decide_eq_false q1)
    refine sx_RP.step (pc2 := 14) (ls2 := [(0, .ref 111)]) (st2 := [.ref 111]) (w3 := w) rfl rfl ?_
    refine sx_RP.step (pc2 := 15) (ls2 := [(0, .ref 111)]) (st2 := [.ref 111, .ref 111]) (w3 := w) rfl rfl ?_
    refine sx_RP.gf (v := .int (fi w 111 12)) rfl rfl hI.1.o111 rfl rfl (show _ = 18 from rfl) ?_
    rw [ep]
    refine sx_RP.step (pc2 := 19) (ls2 := [(0, .ref 111)]) (st2 := [.int 1, .int (nI p), .ref 111]) (w3 := w) rfl rfl ?_
    refine sx_RP.step (pc2 := 20) (ls2 := [(0, .ref 111)]) (st2 := [.int ((nI p) + 1), .ref 111]) (w3 := w) rfl rfl ?_
    rw [show ((nI p) + 1 : Int32) = nI (p + 1) from nI_add p 1]
    have hp2 : p < 120 := hv.resolve_left (fun e => absurd (q1.symm.trans e) (by decide))
    refine sx_RP.pmH (k := 12) hI hE rfl rfl (by decide) rfl (inR.n (show (p + 1) ≤ 120 by omega)) (fun _ => hr_le ep (by omega) (by omega) (by omega)) (show _ = 23 from rfl) (fun w2 hI3 hE4 ht5 ht6 ht7 => ?_)
    refine sx_RP.step (pc2 := 0) (ls2 := [(0, .ref 111)]) (st2 := []) (w3 := w2) rfl rfl ?_
    exact sx_RP.ls (sx_lr.cons rfl sx_lr.nil) (kk q1 hp2 w2 hI3 hE4 ht5)
theorem s215c {xs : Option (List Int32)} {d p : Nat} {w : List sx_C} (hI : WI w) (hp : p ≤ 120) : ∃ v : Int32, sx_RU xs d 216 0 (lv_args 0 [.ref 111, .int (nI p)]) [] w (some (.int v)) w ∧ (v = -1 ∨ p < 120) := by
  rcases p216 (xs := xs) (d := d) (a := p) hI (by omega) with c | ⟨h, v, c⟩
  · exact ⟨-1, c, Or.inl rfl⟩
  · exact ⟨v, c, Or.inr h⟩
theorem s215L {xs : Option (List Int32)} {d : Nat} {w0 : List sx_C} : ∀ (fz p : Nat) (w : List sx_C), 120 ≤ p + fz → p ≤ 120 → fi w 111 12 = nI p → WI w → EH w0 w → sx_RP xs (d + 1) 215 0 [(0, .ref 111)] [] w (fun r w2 => (r = none ∧ sx_RU xs (d + 1) 215 0 (lv_args 0 [.ref 111]) [] w2 none w2) ∧ WI w2 ∧ EH w0 w2)
  | fz, p, w, h, hp, ep, hI, hE => by
    obtain ⟨v, hc, hv⟩ := s215c (xs := xs) (d := d) hI hp
    by_cases e : v = 32
    · refine s215B hI hE hp ep hc hv (fun z => absurd e z) (fun _ h2 w2 hI2 hE2 ep2 => ?_)
      match fz, h with
      | 0, h => exact absurd h2 (by omega)
      | fz + 1, h => exact s215L fz (p + 1) w2 (by omega) (by omega) ep2 hI2 hE2
    · refine s215B hI hE hp ep hc hv (fun _ => ⟨⟨rfl, ?_⟩, hI, hE⟩) (fun z => absurd z e)
      have k : sx_RP xs (d + 1) 215 0 [(0, .ref 111)] [] w (fun r w2 => r = none ∧ w2 = w) := s215B hI EH.rf hp ep hc hv (fun _ => ⟨rfl, rfl⟩) (fun z => absurd z e)
      obtain ⟨r, w2, h1, rfl, rfl⟩ := k
      exact h1
theorem s215 {xs : Option (List Int32)} {d : Nat} {w : List sx_C} (hI : WI w) : sx_RP xs (d + 1) 215 0 (lv_args 0 [.ref 111]) [] w (fun r w2 => (r = none ∧ sx_RU xs (d + 1) 215 0 (lv_args 0 [.ref 111]) [] w2 none w2) ∧ WI w2 ∧ EH w w2) := by
  obtain ⟨p, hp, ep⟩ := hI.m.2.2
  exact s215L 120 p w (by omega) hp ep hI EH.rf
