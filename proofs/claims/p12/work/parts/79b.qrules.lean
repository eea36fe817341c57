-- frames over the whole state: Q (nothing of it changes), N (what group B reads stands)
def qc (a : Nat) : Prop := a < 29 ∨ (96 ≤ a ∧ a < 99) ∨ 103 ≤ a
def EQ (w w2 : List sx_C) : Prop := ∀ a, qc a → w2[a]? = w[a]?
theorem EQ.rf {w : List sx_C} : EQ w w := fun _ _ => rfl
theorem EQ.tr {w w1 w2 : List sx_C} (h : EQ w w1) (h2 : EQ w1 w2) : EQ w w2 := fun a ha => (h2 a ha).trans (h a ha)
theorem EQ.st {w0 w w2 : List sx_C} {a : Nat} (h : EQ w0 w) (hs : Same a w w2) (ha : (29 ≤ a ∧ a ≤ 95) ∨ (99 ≤ a ∧ a ≤ 102)) : EQ w0 w2 := fun b hb => (hs b (by unfold qc at hb; omega)).trans (h b hb)
theorem EQ.fr {w0 w : List sx_C} (h : EQ w0 w) {a : Nat} {c c2 : sx_C} (_ : w[a]? = some c) (hf : (44 ≤ a ∧ a ≤ 95) ∨ (99 ≤ a ∧ a ≤ 102)) : EQ w0 (w.set a c2) := h.st Same.set (by omega)
def nc (a : Nat) : Prop := a = 0 ∨ a = 3 ∨ a = 4 ∨ (15 ≤ a ∧ a < 29) ∨ (96 ≤ a ∧ a < 99) ∨ 111 ≤ a
def nk (k : Nat) : Prop := k = 3 ∨ k = 5 ∨ k = 8 ∨ k = 9 ∨ k = 10
def EN (w w2 : List sx_C) : Prop := (∀ a, nc a → w2[a]? = w[a]?) ∧ (∀ k, nk k → fi w2 1 k = fi w 1 k) ∧ ∀ g, g < 10 → fi w2 (5 + g) 0 = fi w (5 + g) 0
theorem EN.rf {w : List sx_C} : EN w w := ⟨fun _ _ => rfl, fun _ _ => rfl, fun _ _ => rfl⟩
theorem EN.tr {w w1 w2 : List sx_C} (h : EN w w1) (h2 : EN w1 w2) : EN w w2 := ⟨fun a ha => (h2.1 a ha).trans (h.1 a ha), fun k hk => (h2.2.1 k hk).trans (h.2.1 k hk), fun g hg => (h2.2.2 g hg).trans (h.2.2 g hg)⟩
theorem fi_same {w w2 : List sx_C} {a : Nat} (k : Nat) (h : w2[a]? = w[a]?) : fi w2 a k = fi w a k := by
  unfold fi fs_
  rw [h]
theorem EQ.en {w w2 : List sx_C} (h : EQ w w2) : EN w w2 := ⟨fun a ha => h a (by unfold nc at ha; unfold qc; omega), fun k _ => fi_same k (h 1 (Or.inl (by decide))), fun g hg => fi_same 0 (h _ (Or.inl (by omega)))⟩
theorem EN.st {w0 w w2 : List sx_C} {a : Nat} (h : EN w0 w) (hs : Same a w w2) (ha : a = 2 ∨ (29 ≤ a ∧ a ≤ 95) ∨ (99 ≤ a ∧ a ≤ 110)) : EN w0 w2 := h.tr ⟨fun b hb => hs b (by unfold nc at hb; omega), fun k _ => fi_same k (hs 1 (by omega)), fun g hg => fi_same 0 (hs _ (by omega))⟩
theorem EN.fr {w0 w : List sx_C} (h : EN w0 w) {a : Nat} {c c2 : sx_C} (_ : w[a]? = some c) (hf : (44 ≤ a ∧ a ≤ 95) ∨ (99 ≤ a ∧ a ≤ 102)) : EN w0 (w.set a c2) := h.st Same.set (by omega)
theorem EN.stG {w0 w w2 : List sx_C} {a k : Nat} (h : EN w0 w) (hs : Same a w w2) (hr : ∀ j, j ≠ k → fi w2 a j = fi w a j) (ha : (5 ≤ a ∧ a < 15 ∧ k ≠ 0) ∨ (29 ≤ a ∧ a ≤ 95)) : EN w0 w2 := by
  rcases ha with ⟨h1, h2, h3⟩ | ha
  · refine h.tr ⟨fun b hb => hs b (by unfold nc at hb; omega), fun k _ => fi_same k (hs 1 (by omega)), fun g hg => ?_⟩
    by_cases e : 5 + g = a
    · rw [e]
      exact hr 0 (Ne.symm h3)
    · exact fi_same 0 (hs _ e)
  · exact h.st hs (Or.inr (Or.inl ha))
theorem EN.stC {w0 w w2 : List sx_C} {a : Nat} (h : EN w0 w) (hs : Same a w w2) (hr : ∀ j, nk j → fi w2 a j = fi w a j) (ha : a = 1 ∨ (29 ≤ a ∧ a ≤ 95)) : EN w0 w2 := by
  rcases ha with rfl | ha
  · exact h.tr ⟨fun b hb => hs b (by unfold nc at hb; omega), hr, fun g hg => fi_same 0 (hs _ (by omega))⟩
  · exact h.st hs (Or.inr (Or.inl ha))
section SXQ
variable {xs : Option (List Int32)} {d mi pc pc2 a idx p : Nat} {ls : sx_L} {r : List Value} {w w0 : List sx_C} {P : Option Value → List sx_C → Prop}
theorem Same.cc {w w2 : List sx_C} (ha : gAd a) (hs : Same a w w2) : ∀ B q, isA B → fi w2 B q = fi w B q := fun B q hB => fi_same q (hs B (by unfold gAd at ha; unfold isA at hB; omega))
theorem sx_RP.pgQ {k : Nat} {v : Int32} (hI : WI w) (hE : EQ w0 w) (hz : 29 ≤ a) (ha : gAd a) (hi : sx_ins mi pc = some (.putfield idx, 3)) (hq : sx_lk (sx_fl (sx_own mi)) idx = some (2, k, p)) (hk : k < 6) (hf : sx_fin mi 2 k = true) (hv : gR k v) (hp : pc + 3 = pc2) (kk : ∀ w2, WI w2 → EQ w0 w2 → (∀ B q, isA B → fi w2 B q = fi w B q) → sx_RP xs d mi pc2 ls r w2 P) : sx_RP xs d mi pc ls (.int v :: .ref a :: r) w P :=
  sx_RP.xG hI ha hi hq hk hf hv hp (fun w2 h1 h2 _ _ => kk w2 h1 (hE.st h2 (by unfold gAd at ha; omega)) (h2.cc ha))
theorem sx_RP.pgN {k : Nat} {v : Int32} (hI : WI w) (hE : EN w0 w) (hz : (5 ≤ a ∧ a < 15 ∧ k ≠ 0) ∨ (29 ≤ a ∧ a ≤ 95)) (ha : gAd a) (hi : sx_ins mi pc = some (.putfield idx, 3)) (hq : sx_lk (sx_fl (sx_own mi)) idx = some (2, k, p)) (hk : k < 6) (hf : sx_fin mi 2 k = true) (hv : gR k v) (hp : pc + 3 = pc2) (kk : ∀ w2, WI w2 → EN w0 w2 → (∀ B q, isA B → fi w2 B q = fi w B q) → sx_RP xs d mi pc2 ls r w2 P) : sx_RP xs d mi pc ls (.int v :: .ref a :: r) w P :=
  sx_RP.xG hI ha hi hq hk hf hv hp (fun w2 h1 h2 _ h4 => kk w2 h1 (hE.stG h2 h4 hz) (h2.cc ha))
theorem sx_RP.putcQ {k : Nat} {v : Int32} (hI : WI w) (hE : EQ w0 w) (hz : 29 ≤ a) (ha : isA a) (hi : sx_ins mi pc = some (.putfield idx, 3)) (hq : sx_lk (sx_fl (sx_own mi)) idx = some (1, k, p)) (hk : k = 3 ∨ (5 ≤ k ∧ k < 11)) (hf : sx_fin mi 1 k = true) (hv : cR k v) (hp : pc + 3 = pc2) (kk : ∀ w2, WI w2 → EQ w0 w2 → sx_RP xs d mi pc2 ls r w2 P) : sx_RP xs d mi pc ls (.int v :: .ref a :: r) w P :=
  sx_RP.xC hI ha hi hq hk hf hv hp (fun w2 h1 h2 _ _ _ => kk w2 h1 (hE.st h2 (by unfold isA at ha; omega)))
theorem sx_RP.putcN {k : Nat} {v : Int32} (hI : WI w) (hE : EN w0 w) (hz : (a = 1 ∧ (k = 6 ∨ k = 7)) ∨ 29 ≤ a) (ha : isA a) (hi : sx_ins mi pc = some (.putfield idx, 3)) (hq : sx_lk (sx_fl (sx_own mi)) idx = some (1, k, p)) (hk : k = 3 ∨ (5 ≤ k ∧ k < 11)) (hf : sx_fin mi 1 k = true) (hv : cR k v) (hp : pc + 3 = pc2) (kk : ∀ w2, WI w2 → EN w0 w2 → sx_RP xs d mi pc2 ls r w2 P) : sx_RP xs d mi pc ls (.int v :: .ref a :: r) w P :=
  sx_RP.xC hI ha hi hq hk hf hv hp (fun w2 h1 h2 _ h4 _ => kk w2 h1 (by
    rcases hz with ⟨rfl, h⟩ | h
    · exact hE.stC h2 (fun j hj => h4 j (by unfold nk at hj; omega)) (Or.inl rfl)
    · exact hE.st h2 (by unfold isA at ha; omega)))
theorem sx_RP.pwQ {v : Int64} (hI : WI w) (hE : EQ w0 w) (hz : 29 ≤ a) (ha : isA a) (hi : sx_ins mi pc = some (.putfield idx, 3)) (hq : sx_lk (sx_fl (sx_own mi)) idx = some (1, 1, p)) (hf : sx_fin mi 1 1 = true) (hp : pc + 3 = pc2) (kk : ∀ w2, WI w2 → EQ w0 w2 → sx_RP xs d mi pc2 ls r w2 P) : sx_RP xs d mi pc ls (.long v :: .ref a :: r) w P :=
  sx_RP.xW hI ha hi hq hf hp (fun w2 h1 h2 _ _ => kk w2 h1 (hE.st h2 (by unfold isA at ha; omega)))
theorem sx_RP.pwN {v : Int64} (hI : WI w) (hE : EN w0 w) (hz : a = 1 ∨ 29 ≤ a) (ha : isA a) (hi : sx_ins mi pc = some (.putfield idx, 3)) (hq : sx_lk (sx_fl (sx_own mi)) idx = some (1, 1, p)) (hf : sx_fin mi 1 1 = true) (hp : pc + 3 = pc2) (kk : ∀ w2, WI w2 → EN w0 w2 → sx_RP xs d mi pc2 ls r w2 P) : sx_RP xs d mi pc ls (.long v :: .ref a :: r) w P :=
  sx_RP.xW hI ha hi hq hf hp (fun w2 h1 h2 _ h4 => kk w2 h1 (hE.stC h2 (fun j _ => h4 j) (by unfold isA at ha; omega)))
theorem sx_RP.stFQ {i x : Int32} {n : Nat} (hI : WI w) (hE : EQ w0 w) (hz : (44 ≤ a ∧ a ≤ 95) ∨ (99 ≤ a ∧ a ≤ 102)) (hi : sx_ins mi pc = some (.iastore, 1)) (hw : w[a]? = some (.inl (0, ia w a)) ∧ (ia w a).length = n) (hn : sx_in i n = true) (hf : (44 ≤ a ∧ a ≤ 95) ∨ (97 ≤ a ∧ a ≤ 102)) (hp : pc + 1 = pc2) (kk : ∀ w2, WI w2 → EQ w0 w2 → sx_RP xs d mi pc2 ls r w2 P) : sx_RP xs d mi pc ls (.int x :: .int i :: .ref a :: r) w P :=
  sx_RP.ist hi hw.1 hw.2 hn rfl rfl hp (kk _ (hI.set hw.1 sh_set (cOK.free (by omega))) (hE.st Same.set (by omega)))
theorem sx_RP.stFN {i x : Int32} {n : Nat} (hI : WI w) (hE : EN w0 w) (hz : (44 ≤ a ∧ a ≤ 95) ∨ (99 ≤ a ∧ a ≤ 102)) (hi : sx_ins mi pc = some (.iastore, 1)) (hw : w[a]? = some (.inl (0, ia w a)) ∧ (ia w a).length = n) (hn : sx_in i n = true) (hf : (44 ≤ a ∧ a ≤ 95) ∨ (97 ≤ a ∧ a ≤ 102)) (hp : pc + 1 = pc2) (kk : ∀ w2, WI w2 → EN w0 w2 → sx_RP xs d mi pc2 ls r w2 P) : sx_RP xs d mi pc ls (.int x :: .int i :: .ref a :: r) w P :=
  sx_RP.ist hi hw.1 hw.2 hn rfl rfl hp (kk _ (hI.set hw.1 sh_set (cOK.free (by omega))) (hE.st Same.set (by omega)))
theorem sx_RP.stSN {i x : Int32} (hI : WI w) (hE : EN w0 w) {A : Nat} (hz : A = 1 ∨ 29 ≤ A) (hA : isA A) (hi : sx_ins mi pc = some (.iastore, 1)) (hn : sx_in i 48 = true) (hv : inR x 3) (hp : pc + 1 = pc2) (kk : ∀ w2, WI w2 → EN w0 w2 → sx_RP xs d mi pc2 ls r w2 P) : sx_RP xs d mi pc ls (.int x :: .int i :: .ref (A + 1) :: r) w P := by
  have hw := hI.1.aS hA
  exact sx_RP.ist hi hw.1 hw.2 hn rfl rfl hp (kk _ (hI.set hw.1 sh_set (cOK.st hA (inR.set (fun k hk => hI.st hA hk) hv))) (hE.st Same.set (by unfold isA at hA; omega)))
theorem sx_RP.acSQ {A B : Nat} (hI : WI w) (hE : EQ w0 w) (hz : 29 ≤ A) (hA : isA A) (hB : isA B) (hi : sx_ins mi pc = some (.invokestatic idx, 3)) (hq : sx_lk (sx_ac (sx_own mi)) idx = some p) (hr : Nat.ble (r.map (fun v => v.category)).sum 8 = true) (hp : pc + 3 = pc2) (kk : ∀ w2, WI w2 → EQ w0 w2 → sx_RP xs d mi pc2 ls r w2 P) : sx_RP xs d mi pc ls (.int 48 :: .int 0 :: .ref (A + 1) :: .int 0 :: .ref (B + 1) :: r) w P := by
  have h1 := hI.1.aS hA
  have h2 := hI.1.aS hB
  refine sx_RP.acI (n := 48) hi hq hr rfl (by decide) h2.1 h1.1 h2.2 h1.2 hp (kk _ (hI.set h1.1 ?_ (cOK.st hA (fun k hk => hI.st hB hk))) (hE.st Same.set (by unfold isA at hA; omega)))
  show (.inl (0, List.replicate (ia w (B + 1)).length 0) : sx_C) = .inl (0, List.replicate (ia w (A + 1)).length 0)
  rw [h1.2, h2.2]
theorem sx_RP.acDQ {A B : Nat} (hI : WI w) (hE : EQ w0 w) (hz : 29 ≤ A) (hA : isA A) (hB : isA B) (hi : sx_ins mi pc = some (.invokestatic idx, 3)) (hq : sx_lk (sx_ac (sx_own mi)) idx = some p) (hr : Nat.ble (r.map (fun v => v.category)).sum 8 = true) (hp : pc + 3 = pc2) (kk : ∀ w2, WI w2 → EQ w0 w2 → sx_RP xs d mi pc2 ls r w2 P) : sx_RP xs d mi pc ls (.int 9 :: .int 0 :: .ref (A + 3) :: .int 0 :: .ref (B + 3) :: r) w P := by
  have h1 := hI.1.aD hA
  have h2 := hI.1.aD hB
  refine sx_RP.acI (n := 9) hi hq hr rfl (by decide) h2.1 h1.1 h2.2 h1.2 hp (kk _ (hI.set h1.1 ?_ (cOK.di hA (fun k hk => hI.di hB hk))) (hE.st Same.set (by unfold isA at hA; omega)))
  show (.inl (0, List.replicate (ia w (B + 3)).length 0) : sx_C) = .inl (0, List.replicate (ia w (A + 3)).length 0)
  rw [h1.2, h2.2]
theorem sx_RP.stNN {i : Int32} {x : Int64} {n : Nat} (hI : WI w) (hE : EN w0 w) (hi : sx_ins mi pc = some (.lastore, 1)) (hw : w[a]? = some (.inr (.inl (3, ja w a))) ∧ (ja w a).length = n) (hn : sx_in i n = true) (hf : a = 104 ∨ a = 106 ∨ a = 108 ∨ a = 110) (hp : pc + 1 = pc2) (kk : ∀ w2, WI w2 → EN w0 w2 → sx_RP xs d mi pc2 ls r w2 P) : sx_RP xs d mi pc ls (.long x :: .int i :: .ref a :: r) w P := by
  have hl := hw.2
  subst hl
  exact sx_RP.last hi hw.1 hn rfl hp (kk _ (hI.set hw.1 shj_set (cOK.free (by omega))) (hE.st Same.set (by omega)))
theorem EX.same {b : Nat} {w w2 : List sx_C} (h : EX b w w2) : True := trivial
end SXQ
