-- rows over a world of which some cells are known
theorem sx_gs2 {w : List sx_C} {a : Nat} {x c : sx_C} (h : w[a]? = some x) : (w.set a c)[a]? = some c := by
  rw [List.getElem?_set_self (List.getElem?_eq_some_iff.mp h).1]
theorem sx_gn2 {w : List sx_C} {a b : Nat} {x c : sx_C} (h : a ≠ b) (hw : w[a]? = some x) : (w.set b c)[a]? = some x := by
  rw [List.getElem?_set_ne (Ne.symm h)]
  exact hw
theorem sx_set1 {w : List sx_C} {a b : Nat} {x y z : sx_C} (h : a ≠ b) : ((w.set a x).set b y).set a z = (w.set a z).set b y := by
  rw [List.set_comm y z (Ne.symm h), List.set_set]
theorem sx_set2 {w : List sx_C} {a b c : Nat} {x y u z : sx_C} (h : a ≠ b) (h2 : a ≠ c) : (((w.set a x).set b y).set c u).set a z = ((w.set a z).set b y).set c u := by
  rw [List.set_comm u z (Ne.symm h2), sx_set1 h]
theorem sx_ls {α : Type} {l : List α} {i n : Nat} {v : α} (h : l.length = n) : (l.set i v).length = n := by
  rw [List.length_set]
  exact h
section SXR2
variable {xs : Option (List Int32)} {d mi pc pc2 a : Nat} {ls : sx_L} {r : List Value} {w w2 : List sx_C} {P : Option Value → List sx_C → Prop}
theorem sx_RP.gf {idx ci : Nat} {q : Nat × Nat × Nat} {fs : List Value} {v : Value} (hi : sx_ins mi pc = some (.getfield idx, 3)) (hq : sx_lk (sx_fl (sx_own mi)) idx = some q) (hw : w[a]? = some (.inr (.inr (.inr (ci, fs))))) (hc : Nat.beq ci q.1 = true) (hv : fs[q.2.1]? = some v) (hp : pc + 3 = pc2) (k : sx_RP xs d mi pc2 ls (v :: r) w P) : sx_RP xs d mi pc ls (.ref a :: r) w P := by
  subst hp
  refine sx_RP.step hi (show sx_gf (sx_own mi) idx ls pc (.ref a :: r) w = some (pc + 3, ls, v :: r, w) from ?_) k
  unfold sx_gf
  simp only
  rw [hq, hw]
  simp only
  rw [hc, hv]
  rfl
theorem sx_RP.pf {idx ci : Nat} {q : Nat × Nat × Nat} {fs fs2 : List Value} {v : Value} (hi : sx_ins mi pc = some (.putfield idx, 3)) (hq : sx_lk (sx_fl (sx_own mi)) idx = some q) (hw : w[a]? = some (.inr (.inr (.inr (ci, fs))))) (hc : (Nat.beq ci q.1 && Nat.blt q.2.1 fs.length && sx_okv (sx_ty ci q.2.1) v && sx_fin mi ci q.2.1) = true) (hf : fs.set q.2.1 v = fs2) (hs : w.set a (.inr (.inr (.inr (ci, fs2)))) = w2) (hp : pc + 3 = pc2) (k : sx_RP xs d mi pc2 ls r w2 P) : sx_RP xs d mi pc ls (v :: .ref a :: r) w P := by
  subst hp
  subst hf
  subst hs
  refine sx_RP.step hi (show sx_pf mi idx ls pc (v :: .ref a :: r) w = some (pc + 3, ls, r, w.set a (.inr (.inr (.inr (ci, fs.set q.2.1 v))))) from ?_) k
  unfold sx_pf
  simp only
  rw [hq, hw]
  simp only
  rw [hc]
  rfl
theorem sx_RP.ild {i : Int32} {l : List Int32} {c n : Nat} (hi : sx_ins mi pc = some (.iaload, 1)) (hw : w[a]? = some (.inl (0, l))) (hl : l.length = n) (hn : sx_in i n = true) (hc : i.toNatClampNeg = c) (hp : pc + 1 = pc2) (k : sx_RP xs d mi pc2 ls (.int (l.getD c 0) :: r) w P) : sx_RP xs d mi pc ls (.int i :: .ref a :: r) w P := by
  subst hc
  subst hl
  exact sx_RP.iald hi hw hn rfl hp k
theorem sx_RP.bld1 {i : Int32} {l : List Int32} {c n : Nat} (hi : sx_ins mi pc = some (.baload, 1)) (hw : w[a]? = some (.inl (1, l))) (hl : l.length = n) (hn : sx_in i n = true) (hc : i.toNatClampNeg = c) (hp : pc + 1 = pc2) (k : sx_RP xs d mi pc2 ls (.int (l.getD c 0) :: r) w P) : sx_RP xs d mi pc ls (.int i :: .ref a :: r) w P := by
  subst hc
  subst hl
  exact sx_RP.bald hi hw hn rfl hp k
theorem sx_RP.ist {i x : Int32} {l : List Int32} {c n : Nat} (hi : sx_ins mi pc = some (.iastore, 1)) (hw : w[a]? = some (.inl (0, l))) (hl : l.length = n) (hn : sx_in i n = true) (hc : i.toNatClampNeg = c) (hs : w.set a (.inl (0, l.set c x)) = w2) (hp : pc + 1 = pc2) (k : sx_RP xs d mi pc2 ls r w2 P) : sx_RP xs d mi pc ls (.int x :: .int i :: .ref a :: r) w P := by
  subst hc
  subst hl
  exact sx_RP.iast hi hw hn hs hp k
theorem sx_RP.bst1 {i x : Int32} {l : List Int32} {c n : Nat} (hi : sx_ins mi pc = some (.bastore, 1)) (hw : w[a]? = some (.inl (1, l))) (hl : l.length = n) (hn : sx_in i n = true) (hc : i.toNatClampNeg = c) (hs : w.set a (.inl (1, l.set c (vp_nar .boolean x))) = w2) (hp : pc + 1 = pc2) (k : sx_RP xs d mi pc2 ls r w2 P) : sx_RP xs d mi pc ls (.int x :: .int i :: .ref a :: r) w P := by
  subst hc
  subst hl
  exact sx_RP.bast hi hw hn hs hp k
theorem sx_RP.ald {i : Int32} {t : Nat} {l : List (Option Nat)} {v : Value} (hi : sx_ins mi pc = some (.aaload, 1)) (hw : w[a]? = some (.inr (.inr (.inl (t, l))))) (ht : (Nat.ble 4 t && Nat.ble t 6) = true) (he : sx_in i l.length = true ∧ sx_rf (l.getD i.toNatClampNeg none) = v) (hp : pc + 1 = pc2) (k : sx_RP xs d mi pc2 ls (v :: r) w P) : sx_RP xs d mi pc ls (.int i :: .ref a :: r) w P := by
  subst hp
  obtain ⟨h1, rfl⟩ := he
  refine sx_RP.step hi (show sx_aald ls pc (.int i :: .ref a :: r) w = some (pc + 1, ls, sx_rf (l.getD i.toNatClampNeg none) :: r, w) from ?_) k
  unfold sx_aald
  simp only
  rw [hw]
  simp only
  rw [h1, Bool.true_and, ht]
  rfl
theorem sx_RP.stat {i v : Int32} {k : UInt32} (hi : sx_ins mi pc = some (.iaload, 1)) (hk : Nat.blt k.toNat 5 = true) (he : sx_in i (sx_st xs k.toNat).length = true ∧ (sx_st xs k.toNat).getD i.toNatClampNeg 0 = v) (hp : pc + 1 = pc2) (kk : sx_RP xs d mi pc2 ls (.int v :: r) w P) : sx_RP xs d mi pc ls (.int i :: .float k :: r) w P := by
  subst hp
  obtain ⟨h1, rfl⟩ := he
  refine sx_RP.step hi (show sx_iald xs ls pc (.int i :: .float k :: r) w = some (pc + 1, ls, .int ((sx_st xs k.toNat).getD i.toNatClampNeg 0) :: r, w) from ?_) kk
  unfold sx_iald
  simp only
  rw [hk]
  unfold sx_al
  rw [h1]
  rfl
end SXR2
-- numbers of cells
theorem nI_ne1 {c : Nat} (h : c < 2 ^ 31) : ¬ nI c = -1 := by
  intro e
  have := congrArg Int32.toInt e
  rw [nI_toInt h] at this
  have h2 : ((-1 : Int32)).toInt = -1 := by decide
  omega
/-- the cell beside c in a way; -1: none -/
def bsd (c j : Nat) : Int32 := match j with
  | 0 => if nI c < 8 then -1 else nI c - 8
  | 1 => if 7 ≤ nI c - nI c / 8 * 8 then -1 else nI c + 1
  | 2 => if 40 ≤ nI c then -1 else nI c + 8
  | _ => if nI c - nI c / 8 * 8 ≤ 0 then -1 else nI c - 1
theorem bsd_in : ∀ c, c < 48 → ∀ j, j < 4 → bsd c j = -1 ∨ sx_in (bsd c j) 48 = true := by decide +kernel
theorem bsd_lt : ∀ c, c < 48 → ∀ j, j < 4 → (bsd c j < 0 ↔ bsd c j = -1) := by decide +kernel
theorem bsd_nat : ∀ c, c < 48 → ∀ j, j < 4 → bsd c j = -1 ∨ ((bsd c j).toNatClampNeg < 48 ∧ bsd c j = nI (bsd c j).toNatClampNeg) := by decide +kernel
theorem bsd_m0 : ∀ c, c < 48 → (nI c / 8 = 0 ↔ nI c < 8) := by decide +kernel
theorem bsd_m1 : ∀ c, c < 48 → (nI c - nI c / 8 * 8 = 7 ↔ 7 ≤ nI c - nI c / 8 * 8) := by decide +kernel
theorem bsd_m2 : ∀ c, c < 48 → (nI c / 8 = 5 ↔ 40 ≤ nI c) := by decide +kernel
theorem bsd_m3 : ∀ c, c < 48 → (nI c - nI c / 8 * 8 = 0 ↔ nI c - nI c / 8 * 8 ≤ 0) := by decide +kernel
theorem cl_47 : ∀ i, i < 48 → (47 : Int32) - nI i = nI (47 - i) := by decide +kernel
theorem cl_7 (c : Nat) : (7 : Int32) + nI c = nI (7 + c) := nI_add 7 c
theorem sx_same {w : List sx_C} {a : Nat} {x : sx_C} (h : w[a]? = some x) : w = w.set a x := by
  obtain ⟨h1, h2⟩ := List.getElem?_eq_some_iff.mp h
  rw [← h2, List.set_getElem_self]
theorem sx_in_c {x : Int32} {n : Nat} (h : sx_in x n = true) : ∃ c, c < n ∧ x = nI c ∧ x.toNatClampNeg = c := by
  unfold sx_in at h
  rw [Bool.and_eq_true] at h
  have h1 : ¬ x < 0 := by
    intro z
    rw [decide_eq_true z] at h
    exact absurd h.1 (by decide)
  obtain ⟨j, hj, rfl⟩ := nI_of h1
  refine ⟨j, ?_, rfl, nI_clamp hj⟩
  have := of_decide_eq_true h.2
  rw [nI_clamp hj] at this
  exact this
theorem sx_inv_v2 {mi k a ci mi2 : Nat} {st r as : List Value} {w : List sx_C} {q : Nat × Nat} {fs : List Value} (hq : sx_lk (sx_ml (sx_own mi)) k = some q) (hd : st.drop (sx_nar q.1) = .ref a :: r) (hw : w[a]? = some (.inr (.inr (.inr (ci, fs))))) (hc : (Nat.beq (sx_kd q.1) 1 && Nat.beq ci (sx_own q.1) && Nat.ble (r.map (fun v => v.category)).sum 8) = true) (hm : q.1 = mi2) (ha : Value.ref a :: (st.take (sx_nar q.1)).reverse = as) : sx_inv mi (.invokevirtual k) st w = some (mi2, as, r) := by
  subst hm
  subst ha
  exact sx_inv_v hq hd hw hc
