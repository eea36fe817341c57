-- the reference: what group B reads stands
def bk (k : Nat) : Prop := k = 1 ∨ k = 2 ∨ (4 ≤ k ∧ k < 7) ∨ (103 ≤ k ∧ k < 163 ∧ (k - 103) % 6 = 0) ∨ 163 ≤ k
def kc (a : Nat) : Prop := a ≤ 111 ∨ a = 113 ∨ a = 114 ∨ a = 121
def EK (w w2 : List sx_C) : Prop := (∀ a, kc a → w2[a]? = w[a]?) ∧ ∀ k, bk k → (ia w2 112).getD k 0 = (ia w 112).getD k 0
theorem EK.rf {w : List sx_C} : EK w w := ⟨fun _ _ => rfl, fun _ _ => rfl⟩
theorem EK.tr {w w1 w2 : List sx_C} (h : EK w w1) (h2 : EK w1 w2) : EK w w2 := ⟨fun a ha => (h2.1 a ha).trans (h.1 a ha), fun k hk => (h2.2 k hk).trans (h.2 k hk)⟩
theorem EK.st {w0 w w2 : List sx_C} {a : Nat} (h : EK w0 w) (hs : Same a w w2) (ha : a = 115 ∨ (116 ≤ a ∧ a ≤ 120) ∨ 122 ≤ a) : EK w0 w2 := h.tr ⟨fun b hb => hs b (by unfold kc at hb; omega), fun k _ => by rw [ia_of (hs 112 (by omega))]⟩
theorem EK.set {w0 w : List sx_C} {a : Nat} {c c2 : sx_C} (h : EK w0 w) (_ : w[a]? = some c) (ha : (116 ≤ a ∧ a ≤ 120) ∨ 122 ≤ a) (_ : True) : EK w0 (w.set a c2) := h.st Same.set (by omega)
theorem EK.stS {w0 w w2 : List sx_C} {k : Nat} {x : Int32} (h : EK w0 w) (hs : Same 112 w w2) (hi : ia w2 112 = (ia w 112).set k x) (hk : ¬ bk k) : EK w0 w2 := h.tr ⟨fun b hb => hs b (by unfold kc at hb; omega), fun j hj => by
  rw [hi, List.getD_eq_getElem?_getD, List.getElem?_set_ne (fun e : k = j => hk (by rw [e]; exact hj)), ← List.getD_eq_getElem?_getD]⟩
/-- as EK, the row aside left out -/
def EL (w w2 : List sx_C) : Prop := (∀ a, kc a → a ≠ 114 → w2[a]? = w[a]?) ∧ ∀ k, bk k → (ia w2 112).getD k 0 = (ia w 112).getD k 0
theorem EK.el {w w2 : List sx_C} (h : EK w w2) : EL w w2 := ⟨fun a ha _ => h.1 a ha, h.2⟩
theorem EL.rf {w : List sx_C} : EL w w := EK.rf.el
theorem EL.tr {w w1 w2 : List sx_C} (h : EL w w1) (h2 : EL w1 w2) : EL w w2 := ⟨fun a ha hn => (h2.1 a ha hn).trans (h.1 a ha hn), fun k hk => (h2.2 k hk).trans (h.2 k hk)⟩
/-- rows laid over another one -/
def Lay (a b : Nat) (w w2 : List sx_C) : Prop := Same b w w2 ∧ ia w2 b = ia w a
/-- the row aside laid back -/
def ER (w w2 : List sx_C) : Prop := (∀ a, kc a → a ≠ 114 → w2[a]? = w[a]?) ∧ ∀ k, bk k → (ia w2 112).getD k 0 = (ia w 114).getD k 0
theorem ER.of {w w1 w2 : List sx_C} (h : EK w w1) (h2 : Lay 114 112 w1 w2) : ER w w2 := ⟨fun a ha _ => (h2.1 a (by unfold kc at ha; omega)).trans (h.1 a ha), fun k _ => by rw [h2.2, ia_of (h.1 114 (by unfold kc; omega))]⟩
theorem ER.tr {w w1 w2 : List sx_C} (h : ER w w1) (h2 : EK w1 w2) : ER w w2 := ⟨fun a ha hn => (h2.1 a ha).trans (h.1 a ha hn), fun k hk => (h2.2 k hk).trans (h.2 k hk)⟩
theorem EL.of {w0 w w1 w2 : List sx_C} (h0 : EK w0 w) (h1 : Lay 112 114 w w1) (h : ER w1 w2) : EL w0 w2 := ⟨fun a ha hn => (h.1 a ha hn).trans ((h1.1 a hn).trans (h0.1 a ha)), fun k hk => by rw [h.2 k hk, h1.2]; exact h0.2 k hk⟩
section SXKR
variable {xs : Option (List Int32)} {d mi pc pc2 a idx p : Nat} {ls : sx_L} {r : List Value} {w w0 : List sx_C} {P : Option Value → List sx_C → Prop}
theorem sx_RP.mSK {i x : Int32} {k : Nat} (hI : WI w) (hE : EK w0 w) (hz : a = 112 ∧ k ≠ 1 ∧ k ≠ 2 ∧ (k < 4 ∨ 7 ≤ k) ∧ k < 163 ∧ (103 ≤ k → (k - 103) % 6 ≠ 0)) (ha : 112 ≤ a ∧ a ≤ 115) (hi : sx_ins mi pc = some (.iastore, 1)) (hx : i = nI k) (hk : k < 172) (hv : eOK k x) (hp : pc + 1 = pc2) (kk : ∀ w2, WI w2 → EK w0 w2 → (∀ j, j < 172 → j ≠ k → (ia w2 112).getD j 0 = (ia w 112).getD j 0) → sx_RP xs d mi pc2 ls r w2 P) : sx_RP xs d mi pc ls (.int x :: .int i :: .ref a :: r) w P := by
  obtain ⟨rfl, hz⟩ := hz
  subst hx
  refine sx_RP.xM hI ha hi hk hv hp (fun w2 h1 h2 h3 => kk w2 h1 (hE.stS h2 h3 (by unfold bk; omega)) (fun j _ hne => ?_))
  rw [h3, List.getD_eq_getElem?_getD, List.getElem?_set_ne (Ne.symm hne), ← List.getD_eq_getElem?_getD]
theorem sx_RP.mFK {i x : Int32} {n : Nat} (hI : WI w) (hE : EK w0 w) (hi : sx_ins mi pc = some (.iastore, 1)) (hw : w[a]? = some (.inl (0, ia w a)) ∧ (ia w a).length = n) (hn : sx_in i n = true) (hf : a = 116 ∨ a = 117 ∨ a = 119) (hp : pc + 1 = pc2) (kk : ∀ w2, WI w2 → EK w0 w2 → (∀ j, (ia w2 112).getD j 0 = (ia w 112).getD j 0) → sx_RP xs d mi pc2 ls r w2 P) : sx_RP xs d mi pc ls (.int x :: .int i :: .ref a :: r) w P :=
  sx_RP.ist hi hw.1 hw.2 hn rfl rfl hp (kk _ (hI.set hw.1 sh_set (cOK.free (by omega))) (hE.st Same.set (by omega)) (fun j => by rw [ia_ne (by omega)]))
theorem sx_RP.mBK {i x : Int32} {n : Nat} (hI : WI w) (hE : EK w0 w) (hi : sx_ins mi pc = some (.bastore, 1)) (hw : w[a]? = some (.inl (1, ia w a)) ∧ (ia w a).length = n) (hn : sx_in i n = true) (hf : a = 118 ∨ a = 120) (hp : pc + 1 = pc2) (kk : ∀ w2, WI w2 → EK w0 w2 → (∀ j, (ia w2 112).getD j 0 = (ia w 112).getD j 0) → sx_RP xs d mi pc2 ls r w2 P) : sx_RP xs d mi pc ls (.int x :: .int i :: .ref a :: r) w P :=
  sx_RP.bst1 hi hw.1 hw.2 hn rfl rfl hp (kk _ (hI.set hw.1 sh_set (cOK.free (by omega))) (hE.st Same.set (by omega)) (fun j => by rw [ia_ne (by omega)]))
theorem sx_RP.mNK {i : Int32} {x : Int64} {n : Nat} (hI : WI w) (hE : EK w0 w) (hi : sx_ins mi pc = some (.lastore, 1)) (hw : w[a]? = some (.inr (.inl (3, ja w a))) ∧ (ja w a).length = n) (hn : sx_in i n = true) (hf : a = 124 ∨ a = 125) (hp : pc + 1 = pc2) (kk : ∀ w2, WI w2 → EK w0 w2 → (∀ j, (ia w2 112).getD j 0 = (ia w 112).getD j 0) → sx_RP xs d mi pc2 ls r w2 P) : sx_RP xs d mi pc ls (.long x :: .int i :: .ref a :: r) w P := by
  have hl := hw.2
  subst hl
  exact sx_RP.last hi hw.1 hn rfl hp (kk _ (hI.set hw.1 shj_set (cOK.free (by omega))) (hE.st Same.set (by omega)) (fun j => by rw [ia_ne (by omega)]))
theorem sx_RP.mFFK {i x : Int32} {n : Nat} (hI : WI w) (hE : EK w0 w) (hi : sx_ins mi pc = some (.iastore, 1)) (hw : w[a]? = some (.inl (0, ia w a)) ∧ (ia w a).length = n) (hn : sx_in i n = true) (hf : a = 122) (hp : pc + 1 = pc2) (kk : ∀ w2, WI w2 → EK w0 w2 → (∀ j, (ia w2 112).getD j 0 = (ia w 112).getD j 0) → sx_RP xs d mi pc2 ls r w2 P) : sx_RP xs d mi pc ls (.int x :: .int i :: .ref a :: r) w P :=
  sx_RP.ist hi hw.1 hw.2 hn rfl rfl hp (kk _ (hI.set hw.1 sh_set (cOK.free (by omega))) (hE.st Same.set (by omega)) (fun j => by rw [ia_ne (by omega)]))
theorem sx_RP.mSzK {k : Nat} {x : Int32} (hI : WI w) (hE : EK w0 w) (hi : sx_ins mi pc = some (.iastore, 1)) (hk : k < 4) (hx : inR x 40) (hp : pc + 1 = pc2) (kk : ∀ w2, WI w2 → EK w0 w2 → sx_RP xs d mi pc2 ls r w2 P) : sx_RP xs d mi pc ls (.int x :: .int (nI k) :: .ref 123 :: r) w P := by
  have hw := hI.1.a123
  refine sx_RP.ist hi hw.1 hw.2 (sx_in_nI hk (by decide)) rfl rfl hp (kk _ (hI.set hw.1 sh_set (cOK.l (fun j hj => ?_))) (hE.st Same.set (by omega)))
  rw [nI_clamp (by omega)]
  show inR (((ia w 123).set k x).getD j 0) 40
  rw [gd_set (by rw [hw.2]; exact hk)]
  split
  · exact hx
  · exact hI.l hj
theorem sx_RP.mNFK {i : Int32} {x : Int64} {n : Nat} (hI : WI w) (hE : EK w0 w) (hi : sx_ins mi pc = some (.lastore, 1)) (hw : w[a]? = some (.inr (.inl (3, ja w a))) ∧ (ja w a).length = n) (hn : sx_in i n = true) (hf : a = 124 ∨ a = 125) (hp : pc + 1 = pc2) (kk : ∀ w2, WI w2 → EK w0 w2 → (∀ j, (ia w2 112).getD j 0 = (ia w 112).getD j 0) → sx_RP xs d mi pc2 ls r w2 P) : sx_RP xs d mi pc ls (.long x :: .int i :: .ref a :: r) w P := sx_RP.mNK hI hE hi hw hn hf hp kk
end SXKR
