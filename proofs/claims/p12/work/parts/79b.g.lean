-- 79b.qrules.lean.txt
section
-- frames over the whole state: Q (nothing of it changes), N (what group B reads stands)
def qc (a : Nat) : Prop := a < 29 ∨ (96 ≤ a ∧ a < 99) ∨ 103 ≤ a
def EQ (w w2 : List sx_C) : Prop := ∀ a, qc a → w2[a]? = w[a]?
theorem EQ.rf {w : List sx_C} : EQ w w := fun _ _ => rfl
theorem EQ.tr {w w1 w2 : List sx_C} (h : EQ w w1) (h2 : EQ w1 w2) : EQ w w2 := fun a ha => (h2 a ha).trans (h a ha)
theorem EQ.st {w0 w w2 : List sx_C} {a : Nat} (h : EQ w0 w) (hs : Same a w w2) (ha : (29 ≤ a ∧ a ≤ 95) ∨ (99 ≤ a ∧ a ≤ 102)) : EQ w0 w2 := fun b hb => (hs b (by unfold qc at hb; omega)).trans (h b hb)
theorem EQ.fr {w0 w : List sx_C} (h : EQ w0 w) {a : Nat} {c c2 : sx_C} (_ : w[a]? = some c) (hf : (44 ≤ a ∧ a ≤ 95) ∨ (99 ≤ a ∧ a ≤ 102)) : EQ w0 (w.set a c2) := h.st Same.set (by omega)
def nc (a : Nat) : Prop := a = 0 ∨ a = 3 ∨ a = 4 ∨ (15 ≤ a ∧ a < 29) ∨ (96 ≤ a ∧ a < 99) ∨ 111 ≤ a
def nk (k : Nat) : Prop := k = 3 ∨ k = 5 ∨ k = 8 ∨ k = 9 ∨ k = 10
def EN (w w2 : List sx_C) : Prop := (∀ a, nc a → w2[a]? = w[a]?) ∧ (∀ k, nk k → fi w2 1 k = fi w 1 k) ∧ ∀ g, g < 10 → fi w2 (5 + g) 0 = fi w (5 + g) 0
theorem EN.rf {w : List sx_C} : EN w w := ⟨fun _ _ => rfl, fun _ _ => rfl, fun _ _ => rfl⟩
theorem EN.tr {w w1 w2 : List sx_C} (h : EN w w1) (h2 : EN w1 w2) : EN w w2 := ⟨fun a ha => (h2.1 a ha).trans (h.1 a ha), fun k hk => (h2.2.1 k hk).trans (h.2.1 k hk), fun g hg => (h2.2.2 g hg).trans (h.2.2 g hg)⟩
theorem fi_same {w w2 : List sx_C} {a : Nat} (k : Nat) (h : w2[a]? = w[a]?) : fi w2 a k = fi w a k := by
  unfold fi fs_
  rw [h]
theorem EQ.en {w w2 : List sx_C} (h : EQ w w2) : EN w w2 := ⟨fun a ha => h a (by unfold nc at ha; unfold qc; omega), fun k _ => fi_same k (h 1 (Or.inl (by decide))), fun g hg => fi_same 0 (h _ (Or.inl (by omega)))⟩
theorem EN.st {w0 w w2 : List sx_C} {a : Nat} (h : EN w0 w) (hs : Same a w w2) (ha : a = 2 ∨ (29 ≤ a ∧ a ≤ 95) ∨ (99 ≤ a ∧ a ≤ 110)) : EN w0 w2 := h.tr ⟨fun b hb => hs b (by unfold nc at hb; omega), fun k _ => fi_same k (hs 1 (by omega)), fun g hg => fi_same 0 (hs _ (by omega))⟩
theorem EN.fr {w0 w : List sx_C} (h : EN w0 w) {a : Nat} {c c2 : sx_C} (_ : w[a]? = some c) (hf : (44 ≤ a ∧ a ≤ 95) ∨ (99 ≤ a ∧ a ≤ 102)) : EN w0 (w.set a c2) := h.st Same.set (by omega)
theorem EN.stG {w0 w w2 : List sx_C} {a k : Nat} (h : EN w0 w) (hs : Same a w w2) (hr : ∀ j, j ≠ k → fi w2 a j = fi w a j) (ha : (5 ≤ a ∧ a < 15 ∧ k ≠ 0) ∨ (29 ≤ a ∧ a ≤ 95)) : EN w0 w2 := by
  rcases ha with ⟨h1, h2, h3⟩ | ha
  · refine h.tr ⟨fun b hb => hs b (by unfold nc at hb; omega), fun k _ => fi_same k (hs 1 (by omega)), fun g hg => ?_⟩
    by_cases e : 5 + g = a
    · rw [e]
      exact hr 0 (Ne.symm h3)
    · exact fi_same 0 (hs _ e)
  · exact h.st hs (Or.inr (Or.inl ha))
theorem EN.stC {w0 w w2 : List sx_C} {a : Nat} (h : EN w0 w) (hs : Same a w w2) (hr : ∀ j, nk j → fi w2 a j = fi w a j) (ha : a = 1 ∨ (29 ≤ a ∧ a ≤ 95)) : EN w0 w2 := by
  rcases ha with rfl | ha
  · exact h.tr ⟨fun b hb => hs b (by unfold nc at hb; omega), hr, fun g hg => fi_same 0 (hs _ (by omega))⟩
  · exact h.st hs (Or.inr (Or.inl ha))
section SXQ
variable {xs : Option (List Int32)} {d mi pc pc2 a idx p : Nat} {ls : sx_L} {r : List Value} {w w0 : List sx_C} {P : Option Value → List sx_C → Prop}
theorem Same.cc {w w2 : List sx_C} (ha : gAd a) (hs : Same a w w2) : ∀ B q, isA B → fi w2 B q = fi w B q := fun B q hB => fi_same q (hs B (by unfold gAd at ha; unfold isA at hB; omega))
theorem sx_RP.pgQ {k : Nat} {v : Int32} (hI : WI w) (hE : EQ w0 w) (hz : 29 ≤ a) (ha : gAd a) (hi : sx_ins mi pc = some (.putfield idx, 3)) (hq : sx_lk (sx_fl (sx_own mi)) idx = some (2, k, p)) (hk : k < 6) (hf : sx_fin mi 2 k = true) (hv : gR k v) (hp : pc + 3 = pc2) (kk : ∀ w2, WI w2 → EQ w0 w2 → (∀ B q, isA B → fi w2 B q = fi w B q) → sx_RP xs d mi pc2 ls r w2 P) : sx_RP xs d mi pc ls (.int v :: .ref a :: r) w P :=
  sx_RP.xG hI ha hi hq hk hf hv hp (fun w2 h1 h2 _ _ => kk w2 h1 (hE.st h2 (by unfold gAd at ha; omega)) (h2.cc ha))
theorem sx_RP.pgN {k : Nat} {v : Int32} (hI : WI w) (hE : EN w0 w) (hz : (5 ≤ a ∧ a < 15 ∧ k ≠ 0) ∨ (29 ≤ a ∧ a ≤ 95)) (ha : gAd a) (hi : sx_ins mi pc = some (.putfield idx, 3)) (hq : sx_lk (sx_fl (sx_own mi)) idx = some (2, k, p)) (hk : k < 6) (hf : sx_fin mi 2 k = true) (hv : gR k v) (hp : pc + 3 = pc2) (kk : ∀ w2, WI w2 → EN w0 w2 → (∀ B q, isA B → fi w2 B q = fi w B q) → sx_RP xs d mi pc2 ls r w2 P) : sx_RP xs d mi pc ls (.int v :: .ref a :: r) w P :=
  sx_RP.xG hI ha hi hq hk hf hv hp (fun w2 h1 h2 _ h4 => kk w2 h1 (hE.stG h2 h4 hz) (h2.cc ha))
theorem sx_RP.putcQ {k : Nat} {v : Int32} (hI : WI w) (hE : EQ w0 w) (hz : 29 ≤ a) (ha : isA a) (hi : sx_ins mi pc = some (.putfield idx, 3)) (hq : sx_lk (sx_fl (sx_own mi)) idx = some (1, k, p)) (hk : k = 3 ∨ (5 ≤ k ∧ k < 11)) (hf : sx_fin mi 1 k = true) (hv : cR k v) (hp : pc + 3 = pc2) (kk : ∀ w2, WI w2 → EQ w0 w2 → sx_RP xs d mi pc2 ls r w2 P) : sx_RP xs d mi pc ls (.int v :: .ref a :: r) w P :=
  sx_RP.xC hI ha hi hq hk hf hv hp (fun w2 h1 h2 _ _ _ => kk w2 h1 (hE.st h2 (by unfold isA at ha; omega)))
theorem sx_RP.putcN {k : Nat} {v : Int32} (hI : WI w) (hE : EN w0 w) (hz : (a = 1 ∧ (k = 6 ∨ k = 7)) ∨ 29 ≤ a) (ha : isA a) (hi : sx_ins mi pc = some (.putfield idx, 3)) (hq : sx_lk (sx_fl (sx_own mi)) idx = some (1, k, p)) (hk : k = 3 ∨ (5 ≤ k ∧ k < 11)) (hf : sx_fin mi 1 k = true) (hv : cR k v) (hp : pc + 3 = pc2) (kk : ∀ w2, WI w2 → EN w0 w2 → sx_RP xs d mi pc2 ls r w2 P) : sx_RP xs d mi pc ls (.int v :: .ref a :: r) w P :=
  sx_RP.xC hI ha hi hq hk hf hv hp (fun w2 h1 h2 _ h4 _ => kk w2 h1 (by
    rcases hz with ⟨rfl, h⟩ | h
    · exact hE.stC h2 (fun j hj => h4 j (by unfold nk at hj; omega)) (Or.inl rfl)
    · exact hE.st h2 (by unfold isA at ha; omega)))
theorem sx_RP.pwQ {v : Int64} (hI : WI w) (hE : EQ w0 w) (hz : 29 ≤ a) (ha : isA a) (hi : sx_ins mi pc = some (.putfield idx, 3)) (hq : sx_lk (sx_fl (sx_own mi)) idx = some (1, 1, p)) (hf : sx_fin mi 1 1 = true) (hp : pc + 3 = pc2) (kk : ∀ w2, WI w2 → EQ w0 w2 → sx_RP xs d mi pc2 ls r w2 P) : sx_RP xs d mi pc ls (.long v :: .ref a :: r) w P :=
  sx_RP.xW hI ha hi hq hf hp (fun w2 h1 h2 _ _ => kk w2 h1 (hE.st h2 (by unfold isA at ha; omega)))
theorem sx_RP.pwN {v : Int64} (hI : WI w) (hE : EN w0 w) (hz : a = 1 ∨ 29 ≤ a) (ha : isA a) (hi : sx_ins mi pc = some (.putfield idx, 3)) (hq : sx_lk (sx_fl (sx_own mi)) idx = some (1, 1, p)) (hf : sx_fin mi 1 1 = true) (hp : pc + 3 = pc2) (kk : ∀ w2, WI w2 → EN w0 w2 → sx_RP xs d mi pc2 ls r w2 P) : sx_RP xs d mi pc ls (.long v :: .ref a :: r) w P :=
  sx_RP.xW hI ha hi hq hf hp (fun w2 h1 h2 _ h4 => kk w2 h1 (hE.stC h2 (fun j _ => h4 j) (by unfold isA at ha; omega)))
theorem sx_RP.stFQ {i x : Int32} {n : Nat} (hI : WI w) (hE : EQ w0 w) (hz : (44 ≤ a ∧ a ≤ 95) ∨ (99 ≤ a ∧ a ≤ 102)) (hi : sx_ins mi pc = some (.iastore, 1)) (hw : w[a]? = some (.inl (0, ia w a)) ∧ (ia w a).length = n) (hn : sx_in i n = true) (hf : (44 ≤ a ∧ a ≤ 95) ∨ (97 ≤ a ∧ a ≤ 102)) (hp : pc + 1 = pc2) (kk : ∀ w2, WI w2 → EQ w0 w2 → sx_RP xs d mi pc2 ls r w2 P) : sx_RP xs d mi pc ls (.int x :: .int i :: .ref a :: r) w P :=
  sx_RP.ist hi hw.1 hw.2 hn rfl rfl hp (kk _ (hI.set hw.1 sh_set (cOK.free (by omega))) (hE.st Same.set (by omega)))
theorem sx_RP.stFN {i x : Int32} {n : Nat} (hI : WI w) (hE : EN w0 w) (hz : (44 ≤ a ∧ a ≤ 95) ∨ (99 ≤ a ∧ a ≤ 102)) (hi : sx_ins mi pc = some (.iastore, 1)) (hw : w[a]? = some (.inl (0, ia w a)) ∧ (ia w a).length = n) (hn : sx_in i n = true) (hf : (44 ≤ a ∧ a ≤ 95) ∨ (97 ≤ a ∧ a ≤ 102)) (hp : pc + 1 = pc2) (kk : ∀ w2, WI w2 → EN w0 w2 → sx_RP xs d mi pc2 ls r w2 P) : sx_RP xs d mi pc ls (.int x :: .int i :: .ref a :: r) w P :=
  sx_RP.ist hi hw.1 hw.2 hn rfl rfl hp (kk _ (hI.set hw.1 sh_set (cOK.free (by omega))) (hE.st Same.set (by omega)))
theorem sx_RP.stSN {i x : Int32} (hI : WI w) (hE : EN w0 w) {A : Nat} (hz : A = 1 ∨ 29 ≤ A) (hA : isA A) (hi : sx_ins mi pc = some (.iastore, 1)) (hn : sx_in i 48 = true) (hv : inR x 3) (hp : pc + 1 = pc2) (kk : ∀ w2, WI w2 → EN w0 w2 → sx_RP xs d mi pc2 ls r w2 P) : sx_RP xs d mi pc ls (.int x :: .int i :: .ref (A + 1) :: r) w P := by
  have hw := hI.1.aS hA
  exact sx_RP.ist hi hw.1 hw.2 hn rfl rfl hp (kk _ (hI.set hw.1 sh_set (cOK.st hA (inR.set (fun k hk => hI.st hA hk) hv))) (hE.st Same.set (by unfold isA at hA; omega)))
theorem sx_RP.acSQ {A B : Nat} (hI : WI w) (hE : EQ w0 w) (hz : 29 ≤ A) (hA : isA A) (hB : isA B) (hi : sx_ins mi pc = some (.invokestatic idx, 3)) (hq : sx_lk (sx_ac (sx_own mi)) idx = some p) (hr : Nat.ble (r.map (fun v => v.category)).sum 8 = true) (hp : pc + 3 = pc2) (kk : ∀ w2, WI w2 → EQ w0 w2 → sx_RP xs d mi pc2 ls r w2 P) : sx_RP xs d mi pc ls (.int 48 :: .int 0 :: .ref (A + 1) :: .int 0 :: .ref (B + 1) :: r) w P := by
  have h1 := hI.1.aS hA
  have h2 := hI.1.aS hB
  refine sx_RP.acI (n := 48) hi hq hr rfl (by decide) h2.1 h1.1 h2.2 h1.2 hp (kk _ (hI.set h1.1 ?_ (cOK.st hA (fun k hk => hI.st hB hk))) (hE.st Same.set (by unfold isA at hA; omega)))
  show (.inl (0, List.replicate (ia w (B + 1)).length 0) : sx_C) = .inl (0, List.replicate (ia w (A + 1)).length 0)
  rw [h1.2, h2.2]
theorem sx_RP.acDQ {A B : Nat} (hI : WI w) (hE : EQ w0 w) (hz : 29 ≤ A) (hA : isA A) (hB : isA B) (hi : sx_ins mi pc = some (.invokestatic idx, 3)) (hq : sx_lk (sx_ac (sx_own mi)) idx = some p) (hr : Nat.ble (r.map (fun v => v.category)).sum 8 = true) (hp : pc + 3 = pc2) (kk : ∀ w2, WI w2 → EQ w0 w2 → sx_RP xs d mi pc2 ls r w2 P) : sx_RP xs d mi pc ls (.int 9 :: .int 0 :: .ref (A + 3) :: .int 0 :: .ref (B + 3) :: r) w P := by
  have h1 := hI.1.aD hA
  have h2 := hI.1.aD hB
  refine sx_RP.acI (n := 9) hi hq hr rfl (by decide) h2.1 h1.1 h2.2 h1.2 hp (kk _ (hI.set h1.1 ?_ (cOK.di hA (fun k hk => hI.di hB hk))) (hE.st Same.set (by unfold isA at hA; omega)))
  show (.inl (0, List.replicate (ia w (B + 3)).length 0) : sx_C) = .inl (0, List.replicate (ia w (A + 3)).length 0)
  rw [h1.2, h2.2]
theorem sx_RP.stNN {i : Int32} {x : Int64} {n : Nat} (hI : WI w) (hE : EN w0 w) (hi : sx_ins mi pc = some (.lastore, 1)) (hw : w[a]? = some (.inr (.inl (3, ja w a))) ∧ (ja w a).length = n) (hn : sx_in i n = true) (hf : a = 104 ∨ a = 106 ∨ a = 108 ∨ a = 110) (hp : pc + 1 = pc2) (kk : ∀ w2, WI w2 → EN w0 w2 → sx_RP xs d mi pc2 ls r w2 P) : sx_RP xs d mi pc ls (.long x :: .int i :: .ref a :: r) w P := by
  have hl := hw.2
  subst hl
  exact sx_RP.last hi hw.1 hn rfl hp (kk _ (hI.set hw.1 shj_set (cOK.free (by omega))) (hE.st Same.set (by omega)))
theorem EX.same {b : Nat} {w w2 : List sx_C} (h : EX b w w2) : True := trivial
end SXQ
end
-- 79c.krules.lean.txt
section
-- the reference: what group B reads stands
def bk (k : Nat) : Prop := k = 1 ∨ k = 2 ∨ (4 ≤ k ∧ k < 7) ∨ (103 ≤ k ∧ k < 163 ∧ (k - 103) % 6 = 0) ∨ 163 ≤ k
def kc (a : Nat) : Prop := a ≤ 111 ∨ a = 113 ∨ a = 114 ∨ a = 121
def EK (w w2 : List sx_C) : Prop := (∀ a, kc a → w2[a]? = w[a]?) ∧ ∀ k, bk k → (ia w2 112).getD k 0 = (ia w 112).getD k 0
theorem EK.rf {w : List sx_C} : EK w w := ⟨fun _ _ => rfl, fun _ _ => rfl⟩
theorem EK.tr {w w1 w2 : List sx_C} (h : EK w w1) (h2 : EK w1 w2) : EK w w2 := ⟨fun a ha => (h2.1 a ha).trans (h.1 a ha), fun k hk => (h2.2 k hk).trans (h.2 k hk)⟩
theorem EK.st {w0 w w2 : List sx_C} {a : Nat} (h : EK w0 w) (hs : Same a w w2) (ha : a = 115 ∨ (116 ≤ a ∧ a ≤ 120) ∨ 122 ≤ a) : EK w0 w2 := h.tr ⟨fun b hb => hs b (by unfold kc at hb; omega), fun k _ => by rw [ia_of (hs 112 (by omega))]⟩
theorem EK.set {w0 w : List sx_C} {a : Nat} {c c2 : sx_C} (h : EK w0 w) (_ : w[a]? = some c) (ha : (116 ≤ a ∧ a ≤ 120) ∨ 122 ≤ a) (_ : True) : EK w0 (w.set a c2) := h.st Same.set (by omega)
theorem EK.stS {w0 w w2 : List sx_C} {k : Nat} {x : Int32} (h : EK w0 w) (hs : Same 112 w w2) (hi : ia w2 112 = (ia w 112).set k x) (hk : ¬ bk k) : EK w0 w2 := h.tr ⟨fun b hb => hs b (by unfold kc at hb; omega), fun j hj => by
  rw [hi, List.getD_eq_getElem?_getD, List.getElem?_set_ne (fun e : k = j => hk (by rw [e]; exact hj)), ← List.getD_eq_getElem?_getD]⟩
/-- as EK, the row aside left out -/
def EL (w w2 : List sx_C) : Prop := (∀ a, kc a → a ≠ 114 → w2[a]? = w[a]?) ∧ ∀ k, bk k → (ia w2 112).getD k 0 = (ia w 112).getD k 0
theorem EK.el {w w2 : List sx_C} (h : EK w w2) : EL w w2 := ⟨fun a ha _ => h.1 a ha, h.2⟩
theorem EL.rf {w : List sx_C} : EL w w := EK.rf.el
theorem EL.tr {w w1 w2 : List sx_C} (h : EL w w1) (h2 : EL w1 w2) : EL w w2 := ⟨fun a ha hn => (h2.1 a ha hn).trans (h.1 a ha hn), fun k hk => (h2.2 k hk).trans (h.2 k hk)⟩
/-- rows laid over another one -/
def Lay (a b : Nat) (w w2 : List sx_C) : Prop := Same b w w2 ∧ ia w2 b = ia w a
/-- the row aside laid back -/
def ER (w w2 : List sx_C) : Prop := (∀ a, kc a → a ≠ 114 → w2[a]? = w[a]?) ∧ ∀ k, bk k → (ia w2 112).getD k 0 = (ia w 114).getD k 0
theorem ER.of {w w1 w2 : List sx_C} (h : EK w w1) (h2 : Lay 114 112 w1 w2) : ER w w2 := ⟨fun a ha _ => (h2.1 a (by unfold kc at ha; omega)).trans (h.1 a ha), fun k _ => by rw [h2.2, ia_of (h.1 114 (by unfold kc; omega))]⟩
theorem ER.tr {w w1 w2 : List sx_C} (h : ER w w1) (h2 : EK w1 w2) : ER w w2 := ⟨fun a ha hn => (h2.1 a ha).trans (h.1 a ha hn), fun k hk => (h2.2 k hk).trans (h.2 k hk)⟩
theorem EL.of {w0 w w1 w2 : List sx_C} (h0 : EK w0 w) (h1 : Lay 112 114 w w1) (h : ER w1 w2) : EL w0 w2 := ⟨fun a ha hn => (h.1 a ha hn).trans ((h1.1 a hn).trans (h0.1 a ha)), fun k hk => by rw [h.2 k hk, h1.2]; exact h0.2 k hk⟩
section SXKR
variable {xs : Option (List Int32)} {d mi pc pc2 a idx p : Nat} {ls : sx_L} {r : List Value} {w w0 : List sx_C} {P : Option Value → List sx_C → Prop}
theorem sx_RP.mSK {i x : Int32} {k : Nat} (hI : WI w) (hE : EK w0 w) (hz : a = 112 ∧ k ≠ 1 ∧ k ≠ 2 ∧ (k < 4 ∨ 7 ≤ k) ∧ k < 163 ∧ (103 ≤ k → (k - 103) % 6 ≠ 0)) (ha : 112 ≤ a ∧ a ≤ 115) (hi : sx_ins mi pc = some (.iastore, 1)) (hx : i = nI k) (hk : k < 172) (hv : eOK k x) (hp : pc + 1 = pc2) (kk : ∀ w2, WI w2 → EK w0 w2 → (∀ j, j < 172 → j ≠ k → (ia w2 112).getD j 0 = (ia w 112).getD j 0) → sx_RP xs d mi pc2 ls r w2 P) : sx_RP xs d mi pc ls (.int x :: .int i :: .ref a :: r) w P := by
  obtain ⟨rfl, hz⟩ := hz
  subst hx
  refine sx_RP.xM hI ha hi hk hv hp (fun w2 h1 h2 h3 => kk w2 h1 (hE.stS h2 h3 (by unfold bk; omega)) (fun j _ hne => ?_))
  rw [h3, List.getD_eq_getElem?_getD, List.getElem?_set_ne (Ne.symm hne), ← List.getD_eq_getElem?_getD]
theorem sx_RP.mFK {i x : Int32} {n : Nat} (hI : WI w) (hE : EK w0 w) (hi : sx_ins mi pc = some (.iastore, 1)) (hw : w[a]? = some (.inl (0, ia w a)) ∧ (ia w a).length = n) (hn : sx_in i n = true) (hf : a = 116 ∨ a = 117 ∨ a = 119) (hp : pc + 1 = pc2) (kk : ∀ w2, WI w2 → EK w0 w2 → (∀ j, (ia w2 112).getD j 0 = (ia w 112).getD j 0) → sx_RP xs d mi pc2 ls r w2 P) : sx_RP xs d mi pc ls (.int x :: .int i :: .ref a :: r) w P :=
  sx_RP.ist hi hw.1 hw.2 hn rfl rfl hp (kk _ (hI.set hw.1 sh_set (cOK.free (by omega))) (hE.st Same.set (by omega)) (fun j => by rw [ia_ne (by omega)]))
theorem sx_RP.mBK {i x : Int32} {n : Nat} (hI : WI w) (hE : EK w0 w) (hi : sx_ins mi pc = some (.bastore, 1)) (hw : w[a]? = some (.inl (1, ia w a)) ∧ (ia w a).length = n) (hn : sx_in i n = true) (hf : a = 118 ∨ a = 120) (hp : pc + 1 = pc2) (kk : ∀ w2, WI w2 → EK w0 w2 → (∀ j, (ia w2 112).getD j 0 = (ia w 112).getD j 0) → sx_RP xs d mi pc2 ls r w2 P) : sx_RP xs d mi pc ls (.int x :: .int i :: .ref a :: r) w P :=
  sx_RP.bst1 hi hw.1 hw.2 hn rfl rfl hp (kk _ (hI.set hw.1 sh_set (cOK.free (by omega))) (hE.st Same.set (by omega)) (fun j => by rw [ia_ne (by omega)]))
theorem sx_RP.mNK {i : Int32} {x : Int64} {n : Nat} (hI : WI w) (hE : EK w0 w) (hi : sx_ins mi pc = some (.lastore, 1)) (hw : w[a]? = some (.inr (.inl (3, ja w a))) ∧ (ja w a).length = n) (hn : sx_in i n = true) (hf : a = 124 ∨ a = 125) (hp : pc + 1 = pc2) (kk : ∀ w2, WI w2 → EK w0 w2 → (∀ j, (ia w2 112).getD j 0 = (ia w 112).getD j 0) → sx_RP xs d mi pc2 ls r w2 P) : sx_RP xs d mi pc ls (.long x :: .int i :: .ref a :: r) w P := by
  have hl := hw.2
  subst hl
  exact sx_RP.last hi hw.1 hn rfl hp (kk _ (hI.set hw.1 shj_set (cOK.free (by omega))) (hE.st Same.set (by omega)) (fun j => by rw [ia_ne (by omega)]))
theorem sx_RP.mFFK {i x : Int32} {n : Nat} (hI : WI w) (hE : EK w0 w) (hi : sx_ins mi pc = some (.iastore, 1)) (hw : w[a]? = some (.inl (0, ia w a)) ∧ (ia w a).length = n) (hn : sx_in i n = true) (hf : a = 122) (hp : pc + 1 = pc2) (kk : ∀ w2, WI w2 → EK w0 w2 → (∀ j, (ia w2 112).getD j 0 = (ia w 112).getD j 0) → sx_RP xs d mi pc2 ls r w2 P) : sx_RP xs d mi pc ls (.int x :: .int i :: .ref a :: r) w P :=
  sx_RP.ist hi hw.1 hw.2 hn rfl rfl hp (kk _ (hI.set hw.1 sh_set (cOK.free (by omega))) (hE.st Same.set (by omega)) (fun j => by rw [ia_ne (by omega)]))
theorem sx_RP.mSzK {k : Nat} {x : Int32} (hI : WI w) (hE : EK w0 w) (hi : sx_ins mi pc = some (.iastore, 1)) (hk : k < 4) (hx : inR x 40) (hp : pc + 1 = pc2) (kk : ∀ w2, WI w2 → EK w0 w2 → sx_RP xs d mi pc2 ls r w2 P) : sx_RP xs d mi pc ls (.int x :: .int (nI k) :: .ref 123 :: r) w P := by
  have hw := hI.1.a123
  refine sx_RP.ist hi hw.1 hw.2 (sx_in_nI hk (by decide)) rfl rfl hp (kk _ (hI.set hw.1 sh_set (cOK.l (fun j hj => ?_))) (hE.st Same.set (by omega)))
  rw [nI_clamp (by omega)]
  show inR (((ia w 123).set k x).getD j 0) 40
  rw [gd_set (by rw [hw.2]; exact hk)]
  split
  · exact hx
  · exact hI.l hj
theorem sx_RP.mNFK {i : Int32} {x : Int64} {n : Nat} (hI : WI w) (hE : EK w0 w) (hi : sx_ins mi pc = some (.lastore, 1)) (hw : w[a]? = some (.inr (.inl (3, ja w a))) ∧ (ja w a).length = n) (hn : sx_in i n = true) (hf : a = 124 ∨ a = 125) (hp : pc + 1 = pc2) (kk : ∀ w2, WI w2 → EK w0 w2 → (∀ j, (ia w2 112).getD j 0 = (ia w 112).getD j 0) → sx_RP xs d mi pc2 ls r w2 P) : sx_RP xs d mi pc ls (.long x :: .int i :: .ref a :: r) w P := sx_RP.mNK hI hE hi hw hn hf hp kk
end SXKR
end
-- 79d.bstate.lean.txt
section
-- group B's state: kinds of galleries, dishes, bread; the image of these; the tape
abbrev BB : Type := List Int32 × List Int32 × Int32 × Int32 × Int32
def mkB (n : Nat) (f : Nat → Int32) (m : Nat) (g : Nat → Int32) (b0 b1 b2 : Int32) : BB := ((List.range n).map f, (List.range m).map g, b0, b1, b2)
def iN (v : Int32) : Nat := v.toInt.toNat
theorem iN_n {n : Nat} (h : n < 2 ^ 31) : iN (nI n) = n := by
  unfold iN
  rw [nI_toInt h]
  exact Int.toNat_natCast n
theorem map_congr {n : Nat} {f g : Nat → Int32} (h : ∀ i, i < n → f i = g i) : (List.range n).map f = (List.range n).map g := List.map_congr_left (fun i hi => h i (List.mem_range.mp hi))
theorem mkB_congr {n n2 m m2 : Nat} {f f2 g g2 : Nat → Int32} {a b c a2 b2 c2 : Int32} (h1 : n = n2) (h2 : ∀ i, i < n → f i = f2 i) (h3 : m = m2) (h4 : ∀ i, i < m → g i = g2 i) (h5 : a = a2) (h6 : b = b2) (h7 : c = c2) : mkB n f m g a b c = mkB n2 f2 m2 g2 a2 b2 c2 := by
  subst h1
  subst h3
  subst h5
  subst h6
  subst h7
  unfold mkB
  rw [map_congr h2, map_congr h4]
def campB (w : List sx_C) (A : Nat) : BB := mkB (iN (fi w A 3)) (fun g => fi w (A + 4 + g) 0) (iN (fi w A 5)) (fun d => (ia w (A + 3)).getD d 0) (fi w A 8) (fi w A 9) (fi w A 10)
def rowB (l : List Int32) : BB := mkB (iN (l.getD 1 0)) (fun g => l.getD (103 + 6 * g) 0) (iN (l.getD 2 0)) (fun d => l.getD (163 + d) 0) (l.getD 4 0) (l.getD 5 0) (l.getD 6 0)
def nilB : BB := mkB 0 (fun _ => 0) 0 (fun _ => 0) 0 0 0
/-- camp, whether an image is kept, the image, the tape -/
abbrev BT : Type := BB × Int32 × BB × List Int32
def tapC (w : List sx_C) : List Int32 := (List.range (iN (fi w 96 1))).map (fun i => (ia w 97).getD i 0 &&& 255)
def tapM (w : List sx_C) : List Int32 := (List.range (iN (fi w 111 11))).map (fun i => (ia w 121).getD i 0)
def FCb (w : List sx_C) : BT := (campB w 1, fi w 0 3, if fi w 0 3 = 1 then campB w 15 else nilB, tapC w)
def FMb (w : List sx_C) : BT := (rowB (ia w 112), fi w 111 4, if fi w 111 4 = 1 then rowB (ia w 113) else nilB, tapM w)
theorem campB_same {w w2 : List sx_C} {A : Nat} (h : ∀ a, A ≤ a → a < A + 14 → w2[a]? = w[a]?) (hn : iN (fi w A 3) ≤ 10) : campB w2 A = campB w A := by
  unfold campB
  rw [fi_same 3 (h A (by omega) (by omega)), fi_same 5 (h A (by omega) (by omega)), fi_same 8 (h A (by omega) (by omega)), fi_same 9 (h A (by omega) (by omega)), fi_same 10 (h A (by omega) (by omega)), ia_of (h (A + 3) (by omega) (by omega))]
  exact mkB_congr rfl (fun i hi => fi_same 0 (h _ (by omega) (by omega))) rfl (fun _ _ => rfl) rfl rfl rfl
theorem WI.many {w : List sx_C} (h : WI w) {A : Nat} (hA : isA A) : iN (fi w A 3) ≤ 10 := by
  obtain ⟨j, hj, e⟩ := (h.c hA).1
  rw [e, iN_n (by omega)]
  exact hj
theorem WI.dished {w : List sx_C} (h : WI w) {A : Nat} (hA : isA A) : iN (fi w A 5) ≤ 9 := by
  obtain ⟨j, hj, e⟩ := (h.c hA).2
  rw [e, iN_n (by omega)]
  exact hj
theorem WI.manyM {w : List sx_C} (h : WI w) {a : Nat} (ha : 112 ≤ a ∧ a ≤ 115) : iN ((ia w a).getD 1 0) ≤ 10 := by
  obtain ⟨j, hj, e⟩ := (h.sA ha 1 (by decide)).1 rfl
  rw [e, iN_n (by omega)]
  exact hj
theorem WI.dishedM {w : List sx_C} (h : WI w) {a : Nat} (ha : 112 ≤ a ∧ a ≤ 115) : iN ((ia w a).getD 2 0) ≤ 9 := by
  obtain ⟨j, hj, e⟩ := (h.sA ha 2 (by decide)).2.1 rfl
  rw [e, iN_n (by omega)]
  exact hj
theorem tapC_same {w w2 : List sx_C} (h1 : w2[96]? = w[96]?) (h2 : w2[97]? = w[97]?) : tapC w2 = tapC w := by
  unfold tapC
  rw [fi_same 1 h1, ia_of h2]
theorem tapM_same {w w2 : List sx_C} (h1 : w2[111]? = w[111]?) (h2 : w2[121]? = w[121]?) : tapM w2 = tapM w := by
  unfold tapM
  rw [fi_same 11 h1, ia_of h2]
theorem FCb_en {w w2 : List sx_C} (hI : WI w) (h : EN w w2) : FCb w2 = FCb w := by
  have e0 : w2[0]? = w[0]? := h.1 0 (by unfold nc; omega)
  have e1 : campB w2 1 = campB w 1 := by
    unfold campB
    rw [h.2.1 3 (by unfold nk; omega), h.2.1 5 (by unfold nk; omega), h.2.1 8 (by unfold nk; omega), h.2.1 9 (by unfold nk; omega), h.2.1 10 (by unfold nk; omega), ia_of (h.1 (1 + 3) (by unfold nc; omega))]
    have hm := hI.many (A := 1) (Or.inl rfl)
    exact mkB_congr rfl (fun i hi => by rw [show 1 + 4 + i = 5 + i by omega]; exact h.2.2 i (by omega)) rfl (fun _ _ => rfl) rfl rfl rfl
  unfold FCb
  rw [e1, fi_same 3 e0, campB_same (A := 15) (fun a h1 h2 => h.1 a (by unfold nc; omega)) (hI.many (Or.inr (Or.inl rfl))), tapC_same (h.1 96 (by unfold nc; omega)) (h.1 97 (by unfold nc; omega))]
theorem rowB_bk {l l2 : List Int32} (h : ∀ k, bk k → l2.getD k 0 = l.getD k 0) (hn : iN (l.getD 1 0) ≤ 10) : rowB l2 = rowB l := by
  unfold rowB
  rw [h 1 (by unfold bk; omega), h 2 (by unfold bk; omega), h 4 (by unfold bk; omega), h 5 (by unfold bk; omega), h 6 (by unfold bk; omega)]
  exact mkB_congr rfl (fun i hi => h _ (by unfold bk; omega)) rfl (fun i _ => h _ (by unfold bk; omega)) rfl rfl rfl
theorem FMb_el {w w2 : List sx_C} (hI : WI w) (h : EL w w2) : FMb w2 = FMb w := by
  have e1 : w2[111]? = w[111]? := h.1 111 (by unfold kc; omega) (by decide)
  have e3 : w2[113]? = w[113]? := h.1 113 (by unfold kc; omega) (by decide)
  unfold FMb
  rw [rowB_bk h.2 (hI.manyM (by decide)), fi_same 4 e1, ia_of e3, tapM_same e1 (h.1 121 (by unfold kc; omega) (by decide))]
theorem FCb_eq {w w2 : List sx_C} (hI : WI w) (h : ∀ a, a < 111 → w2[a]? = w[a]?) : FCb w2 = FCb w := by
  unfold FCb
  rw [campB_same (A := 1) (fun a _ h2 => h a (by omega)) (hI.many (Or.inl rfl)), campB_same (A := 15) (fun a _ h2 => h a (by omega)) (hI.many (Or.inr (Or.inl rfl))), fi_same 3 (h 0 (by decide)), tapC_same (h 96 (by decide)) (h 97 (by decide))]
theorem FMb_eq {w w2 : List sx_C} (h : ∀ a, 111 ≤ a → w2[a]? = w[a]?) : FMb w2 = FMb w := by
  unfold FMb
  rw [ia_of (h 112 (by decide)), ia_of (h 113 (by decide)), fi_same 4 (h 111 (by decide)), tapM_same (h 111 (by decide)) (h 121 (by decide))]
-- what the acts do to it
def addK (k : Int32) (b : BB) : BB := (b.1 ++ [k], b.2)
def setK (g : Nat) (k : Int32) (b : BB) : BB := (b.1.set g k, b.2)
def addD (c : Int32) (b : BB) : BB := (b.1, b.2.1 ++ [c], b.2.2)
def setD (d : Nat) (c : Int32) (b : BB) : BB := (b.1, b.2.1.set d c, b.2.2)
def setO (v : Int32) (b : BB) : BB := (b.1, b.2.1, v, b.2.2.2)
def setM (v : Int32) (b : BB) : BB := (b.1, b.2.1, b.2.2.1, v, b.2.2.2.2)
def setR (v : Int32) (b : BB) : BB := (b.1, b.2.1, b.2.2.1, b.2.2.2.1, v)
section SXBS
variable {n m : Nat} {f f2 g g2 : Nat → Int32} {a b c : Int32}
theorem mkB_len1 : (mkB n f m g a b c).1.length = n := by unfold mkB; rw [List.length_map, List.length_range]
theorem mkB_len2 : (mkB n f m g a b c).2.1.length = m := by unfold mkB; rw [List.length_map, List.length_range]
theorem map_at {i : Nat} (h : i < n) : ((List.range n).map f).getD i 0 = f i := by
  rw [List.getD_eq_getElem?_getD, List.getElem?_map, List.getElem?_range h]
  rfl
theorem mkB_at1 {i : Nat} (h : i < n) : (mkB n f m g a b c).1.getD i 0 = f i := map_at h
theorem mkB_at2 {i : Nat} (h : i < m) : (mkB n f m g a b c).2.1.getD i 0 = g i := map_at h
theorem map_add {k : Int32} (h1 : ∀ i, i < n → f2 i = f i) (h2 : f2 n = k) : (List.range (n + 1)).map f2 = (List.range n).map f ++ [k] := by
  rw [List.range_succ, List.map_append, map_congr h1, List.map_singleton, h2]
theorem map_set {j : Nat} {k : Int32} (h1 : ∀ i, i < n → i ≠ j → f2 i = f i) (h2 : j < n → f2 j = k) : (List.range n).map f2 = ((List.range n).map f).set j k := by
  apply List.ext_getElem?
  intro i
  rw [List.getElem?_set]
  by_cases hi : i < n
  · rw [List.getElem?_map, List.getElem?_range hi]
    by_cases e : j = i
    · subst e
      rw [if_pos rfl, if_pos (by rw [List.length_map, List.length_range]; exact hi)]
      exact congrArg some (h2 hi)
    · rw [if_neg e, List.getElem?_map, List.getElem?_range hi]
      exact congrArg some (h1 i hi (Ne.symm e))
  · rw [List.getElem?_eq_none (by rw [List.length_map, List.length_range]; omega)]
    split
    · rename_i e
      rw [if_neg (by rw [List.length_map, List.length_range]; omega)]
    · rw [List.getElem?_eq_none (by rw [List.length_map, List.length_range]; omega)]
theorem mkB_addK {k : Int32} (h1 : ∀ i, i < n → f2 i = f i) (h2 : f2 n = k) (h3 : ∀ i, i < m → g2 i = g i) : mkB (n + 1) f2 m g2 a b c = addK k (mkB n f m g a b c) := by
  unfold mkB addK
  rw [map_add h1 h2, map_congr h3]
theorem mkB_setK {j : Nat} {k : Int32} (h1 : ∀ i, i < n → i ≠ j → f2 i = f i) (h2 : j < n → f2 j = k) (h3 : ∀ i, i < m → g2 i = g i) : mkB n f2 m g2 a b c = setK j k (mkB n f m g a b c) := by
  unfold mkB setK
  rw [map_set h1 h2, map_congr h3]
theorem mkB_addD {k : Int32} (h3 : ∀ i, i < n → f2 i = f i) (h1 : ∀ i, i < m → g2 i = g i) (h2 : g2 m = k) : mkB n f2 (m + 1) g2 a b c = addD k (mkB n f m g a b c) := by
  unfold mkB addD
  rw [map_add h1 h2, map_congr h3]
theorem mkB_setD {j : Nat} {k : Int32} (h3 : ∀ i, i < n → f2 i = f i) (h1 : ∀ i, i < m → i ≠ j → g2 i = g i) (h2 : j < m → g2 j = k) : mkB n f2 m g2 a b c = setD j k (mkB n f m g a b c) := by
  unfold mkB setD
  rw [map_set h1 h2, map_congr h3]
end SXBS
end
