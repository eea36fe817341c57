-- rows that tell all of what is written
section SXX
variable {xs : Option (List Int32)} {d mi pc pc2 a idx p : Nat} {ls : sx_L} {r : List Value} {w w0 : List sx_C} {P : Option Value → List sx_C → Prop}
/-- all cells but one as they were -/
def Same (a : Nat) (w w2 : List sx_C) : Prop := ∀ b, b ≠ a → w2[b]? = w[b]?
theorem Same.set {a : Nat} {w : List sx_C} {c : sx_C} : Same a w (w.set a c) := fun _ hb => List.getElem?_set_ne (Ne.symm hb)
theorem sx_RP.xG {k : Nat} {v : Int32} (hI : WI w) (ha : gAd a) (hi : sx_ins mi pc = some (.putfield idx, 3)) (hq : sx_lk (sx_fl (sx_own mi)) idx = some (2, k, p)) (hk : k < 6) (hf : sx_fin mi 2 k = true) (hv : gR k v) (hp : pc + 3 = pc2) (kk : ∀ w2, WI w2 → Same a w w2 → fi w2 a k = v → (∀ j, j ≠ k → fi w2 a j = fi w a j) → sx_RP xs d mi pc2 ls r w2 P) : sx_RP xs d mi pc ls (.int v :: .ref a :: r) w P := by
  have hw := hI.1.oG ha
  have q := hI.g ha
  have hfs : fs_ w a = [.int (fi w a 0), .int (fi w a 1), .int (fi w a 2), .int (fi w a 3), .int (fi w a 4), .int (fi w a 5)] := by unfold fs_; rw [hw]
  have hne : ∀ (fs : List Value) (j : Nat), fs_ w a = fs → j ≠ k → fi (w.set a (.inr (.inr (.inr (2, fs.set k (.int v)))))) a j = fi w a j := by
    intro fs j e hj
    unfold fi
    rw [fs_set hw, List.getElem?_set_ne (Ne.symm hj), e]
  match k, hk with
  | 0, _ => exact sx_RP.pf hi hq hw (by rw [hf]; rfl) rfl rfl hp (kk _ (hI.set hw rfl (cOK.g ha ⟨hv, q.2⟩)) Same.set (by unfold fi; rw [fs_set hw]; rfl) (fun j hj => hne _ j hfs hj))
  | 1, _ => exact sx_RP.pf hi hq hw (by rw [hf]; rfl) rfl rfl hp (kk _ (hI.set hw rfl (cOK.g ha ⟨q.1, hv, q.2.2⟩)) Same.set (by unfold fi; rw [fs_set hw]; rfl) (fun j hj => hne _ j hfs hj))
  | 2, _ => exact sx_RP.pf hi hq hw (by rw [hf]; rfl) rfl rfl hp (kk _ (hI.set hw rfl (cOK.g ha ⟨q.1, q.2.1, hv, q.2.2.2⟩)) Same.set (by unfold fi; rw [fs_set hw]; rfl) (fun j hj => hne _ j hfs hj))
  | 3, _ => exact sx_RP.pf hi hq hw (by rw [hf]; rfl) rfl rfl hp (kk _ (hI.set hw rfl (cOK.g ha ⟨q.1, q.2.1, q.2.2.1, hv, q.2.2.2.2⟩)) Same.set (by unfold fi; rw [fs_set hw]; rfl) (fun j hj => hne _ j hfs hj))
  | 4, _ => exact sx_RP.pf hi hq hw (by rw [hf]; rfl) rfl rfl hp (kk _ (hI.set hw rfl (cOK.g ha ⟨q.1, q.2.1, q.2.2.1, q.2.2.2.1, q.2.2.2.2⟩)) Same.set (by unfold fi; rw [fs_set hw]; rfl) (fun j hj => hne _ j hfs hj))
  | 5, _ => exact sx_RP.pf hi hq hw (by rw [hf, show sx_okv (sx_ty 2 5) (.int v) = (v == 0 || v == 1) from rfl, inR.bo hv]; rfl) rfl rfl hp (kk _ (hI.set hw rfl (cOK.g ha ⟨q.1, q.2.1, q.2.2.1, q.2.2.2.1, hv⟩)) Same.set (by unfold fi; rw [fs_set hw]; rfl) (fun j hj => hne _ j hfs hj))
theorem sx_RP.xC {k : Nat} {v : Int32} (hI : WI w) (ha : isA a) (hi : sx_ins mi pc = some (.putfield idx, 3)) (hq : sx_lk (sx_fl (sx_own mi)) idx = some (1, k, p)) (hk : k = 3 ∨ (5 ≤ k ∧ k < 11)) (hf : sx_fin mi 1 k = true) (hv : cR k v) (hp : pc + 3 = pc2) (kk : ∀ w2, WI w2 → Same a w w2 → fi w2 a k = v → (∀ j, j ≠ k → fi w2 a j = fi w a j) → fj w2 a 1 = fj w a 1 → sx_RP xs d mi pc2 ls r w2 P) : sx_RP xs d mi pc ls (.int v :: .ref a :: r) w P := by
  have hw := hI.1.oC ha
  have q := hI.c ha
  have hfs : fs_ w a = [.ref (a + 1), .long (fj w a 1), .ref (a + 2), .int (fi w a 3), .ref (a + 3), .int (fi w a 5), .int (fi w a 6), .int (fi w a 7), .int (fi w a 8), .int (fi w a 9), .int (fi w a 10)] := by unfold fs_; rw [hw]
  have hne : ∀ (fs : List Value) (j : Nat), fs_ w a = fs → j ≠ k → fi (w.set a (.inr (.inr (.inr (1, fs.set k (.int v)))))) a j = fi w a j := by
    intro fs j e hj
    unfold fi
    rw [fs_set hw, List.getElem?_set_ne (Ne.symm hj), e]
  have hnj : ∀ (fs : List Value), fs_ w a = fs → 1 ≠ k → fj (w.set a (.inr (.inr (.inr (1, fs.set k (.int v)))))) a 1 = fj w a 1 := by
    intro fs e hj
    unfold fj
    rw [fs_set hw, List.getElem?_set_ne (Ne.symm hj), e]
  rcases (show k = 3 ∨ k = 5 ∨ k = 6 ∨ k = 7 ∨ k = 8 ∨ k = 9 ∨ k = 10 by omega) with rfl | rfl | rfl | rfl | rfl | rfl | rfl
  · exact sx_RP.pf hi hq hw (by rw [hf]; rfl) rfl rfl hp (kk _ (hI.set hw rfl (cOK.c ha ⟨hv, q.2⟩)) Same.set (by unfold fi; rw [fs_set hw]; rfl) (fun j hj => hne _ j hfs hj) (hnj _ hfs (by decide)))
  · exact sx_RP.pf hi hq hw (by rw [hf]; rfl) rfl rfl hp (kk _ (hI.set hw rfl (cOK.c ha ⟨q.1, hv⟩)) Same.set (by unfold fi; rw [fs_set hw]; rfl) (fun j hj => hne _ j hfs hj) (hnj _ hfs (by decide)))
  · exact sx_RP.pf hi hq hw (by rw [hf]; rfl) rfl rfl hp (kk _ (hI.set hw rfl (cOK.c ha q)) Same.set (by unfold fi; rw [fs_set hw]; rfl) (fun j hj => hne _ j hfs hj) (hnj _ hfs (by decide)))
  · exact sx_RP.pf hi hq hw (by rw [hf]; rfl) rfl rfl hp (kk _ (hI.set hw rfl (cOK.c ha q)) Same.set (by unfold fi; rw [fs_set hw]; rfl) (fun j hj => hne _ j hfs hj) (hnj _ hfs (by decide)))
  · exact sx_RP.pf hi hq hw (by rw [hf]; rfl) rfl rfl hp (kk _ (hI.set hw rfl (cOK.c ha q)) Same.set (by unfold fi; rw [fs_set hw]; rfl) (fun j hj => hne _ j hfs hj) (hnj _ hfs (by decide)))
  · exact sx_RP.pf hi hq hw (by rw [hf]; rfl) rfl rfl hp (kk _ (hI.set hw rfl (cOK.c ha q)) Same.set (by unfold fi; rw [fs_set hw]; rfl) (fun j hj => hne _ j hfs hj) (hnj _ hfs (by decide)))
  · exact sx_RP.pf hi hq hw (by rw [hf]; rfl) rfl rfl hp (kk _ (hI.set hw rfl (cOK.c ha q)) Same.set (by unfold fi; rw [fs_set hw]; rfl) (fun j hj => hne _ j hfs hj) (hnj _ hfs (by decide)))
theorem sx_RP.xW {v : Int64} (hI : WI w) (ha : isA a) (hi : sx_ins mi pc = some (.putfield idx, 3)) (hq : sx_lk (sx_fl (sx_own mi)) idx = some (1, 1, p)) (hf : sx_fin mi 1 1 = true) (hp : pc + 3 = pc2) (kk : ∀ w2, WI w2 → Same a w w2 → fj w2 a 1 = v → (∀ j, fi w2 a j = fi w a j) → sx_RP xs d mi pc2 ls r w2 P) : sx_RP xs d mi pc ls (.long v :: .ref a :: r) w P := by
  have hw := hI.1.oC ha
  have q := hI.c ha
  have hfs : fs_ w a = [.ref (a + 1), .long (fj w a 1), .ref (a + 2), .int (fi w a 3), .ref (a + 3), .int (fi w a 5), .int (fi w a 6), .int (fi w a 7), .int (fi w a 8), .int (fi w a 9), .int (fi w a 10)] := by unfold fs_; rw [hw]
  refine sx_RP.pf hi hq hw (by rw [hf]; rfl) rfl rfl hp (kk _ (hI.set hw rfl (cOK.c ha q)) Same.set (by unfold fj; rw [fs_set hw]; rfl) (fun j => ?_))
  unfold fi
  rw [fs_set hw, hfs]
  match j with
  | 0 => rfl
  | 1 => rfl
  | j + 2 => rfl
/-- a number of a row of ints -/
theorem sx_RP.xI {x : Int32} {c n : Nat} (hI : WI w) (hi : sx_ins mi pc = some (.iastore, 1)) (hw : w[a]? = some (.inl (0, ia w a)) ∧ (ia w a).length = n) (hc : c < n) (hn : n < 2 ^ 31) (ho : cOK a (.inl (0, (ia w a).set c x))) (hp : pc + 1 = pc2) (kk : ∀ w2, WI w2 → Same a w w2 → ia w2 a = (ia w a).set c x → sx_RP xs d mi pc2 ls r w2 P) : sx_RP xs d mi pc ls (.int x :: .int (nI c) :: .ref a :: r) w P := by
  refine sx_RP.ist (c := c) hi hw.1 hw.2 (sx_in_nI hc hn) (nI_clamp (by omega)) rfl hp (kk _ (hI.set hw.1 sh_set ho) Same.set (ia_set hw.1))
theorem sx_RP.xS {x : Int32} {A c : Nat} (hI : WI w) (hA : isA A) (hi : sx_ins mi pc = some (.iastore, 1)) (hc : c < 48) (hv : inR x 3) (hp : pc + 1 = pc2) (kk : ∀ w2, WI w2 → Same (A + 1) w w2 → ia w2 (A + 1) = (ia w (A + 1)).set c x → sx_RP xs d mi pc2 ls r w2 P) : sx_RP xs d mi pc ls (.int x :: .int (nI c) :: .ref (A + 1) :: r) w P :=
  sx_RP.xI hI hi (hI.1.aS hA) hc (by decide) (cOK.st hA (inR.set (fun k hk => hI.st hA hk) hv)) hp kk
theorem sx_RP.xD {x : Int32} {A c : Nat} (hI : WI w) (hA : isA A) (hi : sx_ins mi pc = some (.iastore, 1)) (hc : c < 9) (hv : inR x 47) (hp : pc + 1 = pc2) (kk : ∀ w2, WI w2 → Same (A + 3) w w2 → ia w2 (A + 3) = (ia w (A + 3)).set c x → sx_RP xs d mi pc2 ls r w2 P) : sx_RP xs d mi pc ls (.int x :: .int (nI c) :: .ref (A + 3) :: r) w P :=
  sx_RP.xI hI hi (hI.1.aD hA) hc (by decide) (cOK.di hA (inR.set (fun k hk => hI.di hA hk) hv)) hp kk
theorem sx_RP.xF {x : Int32} {c n : Nat} (hI : WI w) (hi : sx_ins mi pc = some (.iastore, 1)) (hw : w[a]? = some (.inl (0, ia w a)) ∧ (ia w a).length = n) (hc : c < n) (hn : n < 2 ^ 31) (hf : (44 ≤ a ∧ a ≤ 95) ∨ (97 ≤ a ∧ a ≤ 102) ∨ (116 ≤ a ∧ a ≤ 122) ∨ 124 ≤ a) (hp : pc + 1 = pc2) (kk : ∀ w2, WI w2 → Same a w w2 → ia w2 a = (ia w a).set c x → sx_RP xs d mi pc2 ls r w2 P) : sx_RP xs d mi pc ls (.int x :: .int (nI c) :: .ref a :: r) w P :=
  sx_RP.xI hI hi hw hc hn (cOK.free (by omega)) hp kk
theorem sx_RP.xM {x : Int32} {k : Nat} (hI : WI w) (ha : 112 ≤ a ∧ a ≤ 115) (hi : sx_ins mi pc = some (.iastore, 1)) (hk : k < 172) (hv : eOK k x) (hp : pc + 1 = pc2) (kk : ∀ w2, WI w2 → Same a w w2 → ia w2 a = (ia w a).set k x → sx_RP xs d mi pc2 ls r w2 P) : sx_RP xs d mi pc ls (.int x :: .int (nI k) :: .ref a :: r) w P :=
  sx_RP.xI hI hi (hI.1.aM ha) hk (by decide) (cOK.s ha ((hI.sA ha).set (hI.1.aM ha).2 hk hv)) hp kk
/-- a row of truths -/
theorem sx_RP.xB {x : Int32} {c n : Nat} (hI : WI w) (hi : sx_ins mi pc = some (.bastore, 1)) (hw : w[a]? = some (.inl (1, ia w a)) ∧ (ia w a).length = n) (hc : c < n) (hn : n < 2 ^ 31) (hf : (44 ≤ a ∧ a ≤ 95) ∨ (97 ≤ a ∧ a ≤ 102) ∨ (116 ≤ a ∧ a ≤ 122) ∨ 124 ≤ a) (hp : pc + 1 = pc2) (kk : ∀ w2, WI w2 → Same a w w2 → sx_RP xs d mi pc2 ls r w2 P) : sx_RP xs d mi pc ls (.int x :: .int (nI c) :: .ref a :: r) w P :=
  sx_RP.bst1 hi hw.1 hw.2 (sx_in_nI hc hn) rfl rfl hp (kk _ (hI.set hw.1 sh_set (cOK.free (by omega))) Same.set)
/-- the tape -/
theorem sx_RP.xT {x : Int32} {c : Nat} (hI : WI w) (hi : sx_ins mi pc = some (.bastore, 1)) (hc : c < 120) (hp : pc + 1 = pc2) (kk : ∀ w2, WI w2 → Same 97 w w2 → ia w2 97 = (ia w 97).set c (vp_nar .byte x) → sx_RP xs d mi pc2 ls r w2 P) : sx_RP xs d mi pc ls (.int x :: .int (nI c) :: .ref 97 :: r) w P := by
  have hw := hI.1.a97
  subst hp
  refine sx_RP.step hi (show sx_bast ls pc (.int x :: .int (nI c) :: .ref 97 :: r) w = some (pc + 1, ls, r, w.set 97 (.inl (2, (ia w 97).set c (vp_nar .byte x)))) from ?_) (kk _ (hI.set hw.1 sh_set (cOK.free (by decide))) Same.set (ia_set hw.1))
  unfold sx_bast
  simp only
  rw [hw.1]
  simp only
  rw [hw.2, sx_in_nI hc (by decide), nI_clamp (by omega)]
  rfl
/-- numbers of a sheet -/
theorem sx_RP.xL {x : Int64} {c n : Nat} (hI : WI w) (hi : sx_ins mi pc = some (.lastore, 1)) (hw : w[a]? = some (.inr (.inl (3, ja w a))) ∧ (ja w a).length = n) (hc : c < n) (hn : n < 2 ^ 31) (hf : a = 104 ∨ a = 106 ∨ a = 108 ∨ a = 110 ∨ a = 124 ∨ a = 125) (hp : pc + 1 = pc2) (kk : ∀ w2, WI w2 → Same a w w2 → ja w2 a = (ja w a).set c x → sx_RP xs d mi pc2 ls r w2 P) : sx_RP xs d mi pc ls (.long x :: .int (nI c) :: .ref a :: r) w P := by
  have hl := hw.2
  subst hl
  refine sx_RP.last hi hw.1 (sx_in_nI hc hn) rfl hp (kk _ (hI.set hw.1 shj_set (cOK.free (by omega))) Same.set ?_)
  unfold ja
  rw [sx_gs2 hw.1, nI_clamp (by omega)]
end SXX
