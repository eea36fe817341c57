-- reads and writes at a place that isn't written out
theorem sx_in_nI {j n : Nat} (h : j < n) (hn : n < 2 ^ 31) : sx_in (nI j) n = true := by
  unfold sx_in
  rw [nI_clamp (by omega), decide_eq_false (nI_pos (by omega)), decide_eq_true h]
  rfl
theorem sx_rep0 {n i : Nat} : (List.replicate n (0 : Int32)).getD i 0 = 0 := by
  rw [List.getD_eq_getElem?_getD, List.getElem?_replicate]
  split <;> rfl
theorem sx_iald_at {xs : Option (List Int32)} {ls : sx_L} {pc a : Nat} {i v : Int32} {r : List Value} {w : List sx_C} {l : List Int32} (hw : w[a]? = some (.inl (0, l))) (hi : sx_in i l.length = true) (hv : l.getD i.toNatClampNeg 0 = v) : sx_iald xs ls pc (.int i :: .ref a :: r) w = some (pc + 1, ls, .int v :: r, w) := by
  unfold sx_iald
  simp only
  rw [hw]
  simp only
  unfold sx_al
  rw [hi, hv]
  rfl
theorem sx_bald_at {ls : sx_L} {pc a : Nat} {i v : Int32} {r : List Value} {w : List sx_C} {l : List Int32} (hw : w[a]? = some (.inl (1, l))) (hi : sx_in i l.length = true) (hv : l.getD i.toNatClampNeg 0 = v) : sx_bald ls pc (.int i :: .ref a :: r) w = some (pc + 1, ls, .int v :: r, w) := by
  unfold sx_bald
  simp only
  rw [hw]
  simp only
  unfold sx_al
  rw [hi, hv]
  rfl
theorem sx_iast_at {ls : sx_L} {pc a : Nat} {i x : Int32} {r : List Value} {w w2 : List sx_C} {l : List Int32} (hw : w[a]? = some (.inl (0, l))) (hi : sx_in i l.length = true) (hs : w.set a (.inl (0, l.set i.toNatClampNeg x)) = w2) : sx_iast ls pc (.int x :: .int i :: .ref a :: r) w = some (pc + 1, ls, r, w2) := by
  unfold sx_iast
  simp only
  rw [hw]
  simp only
  rw [hi, hs]
  rfl
theorem sx_bast_at {ls : sx_L} {pc a : Nat} {i x : Int32} {r : List Value} {w w2 : List sx_C} {l : List Int32} (hw : w[a]? = some (.inl (1, l))) (hi : sx_in i l.length = true) (hs : w.set a (.inl (1, l.set i.toNatClampNeg (vp_nar .boolean x))) = w2) : sx_bast ls pc (.int x :: .int i :: .ref a :: r) w = some (pc + 1, ls, r, w2) := by
  unfold sx_bast
  simp only
  rw [hw]
  simp only
  rw [hi, hs]
  rfl
theorem sx_last_at {ls : sx_L} {pc a : Nat} {i : Int32} {x : Int64} {r : List Value} {w w2 : List sx_C} {l : List Int64} (hw : w[a]? = some (.inr (.inl (3, l)))) (hi : sx_in i l.length = true) (hs : w.set a (.inr (.inl (3, l.set i.toNatClampNeg x))) = w2) : sx_last ls pc (.long x :: .int i :: .ref a :: r) w = some (pc + 1, ls, r, w2) := by
  unfold sx_last
  simp only
  rw [hw]
  simp only
  rw [hi, hs]
  rfl
theorem sx_and0r {ls : sx_L} {pc : Nat} {v : Int64} {r : List Value} {w : List sx_C} : sx_jj (fun x y => x &&& y) ls pc (.long 0 :: .long v :: r) w = some (pc + 1, ls, .long 0 :: r, w) := by
  unfold sx_jj
  simp
theorem sx_and0l {ls : sx_L} {pc : Nat} {v : Int64} {r : List Value} {w : List sx_C} : sx_jj (fun x y => x &&& y) ls pc (.long v :: .long 0 :: r) w = some (pc + 1, ls, .long 0 :: r, w) := by
  unfold sx_jj
  simp
section SXAT
variable {xs : Option (List Int32)} {d mi pc pc2 a : Nat} {ls : sx_L} {r : List Value} {w w2 : List sx_C} {P : Option Value → List sx_C → Prop}
theorem sx_RP.and0r {v : Int64} (hi : sx_ins mi pc = some (.land, 1)) (hp : pc + 1 = pc2) (k : sx_RP xs d mi pc2 ls (.long 0 :: r) w P) : sx_RP xs d mi pc ls (.long 0 :: .long v :: r) w P := by
  subst hp
  exact sx_RP.step hi (show sx_jj (fun x y => x &&& y) ls pc (.long 0 :: .long v :: r) w = _ from sx_and0r) k
theorem sx_RP.and0l {v : Int64} (hi : sx_ins mi pc = some (.land, 1)) (hp : pc + 1 = pc2) (k : sx_RP xs d mi pc2 ls (.long 0 :: r) w P) : sx_RP xs d mi pc ls (.long v :: .long 0 :: r) w P := by
  subst hp
  exact sx_RP.step hi (show sx_jj (fun x y => x &&& y) ls pc (.long v :: .long 0 :: r) w = _ from sx_and0l) k
theorem sx_RP.iald {i v : Int32} {l : List Int32} (hi : sx_ins mi pc = some (.iaload, 1)) (hw : w[a]? = some (.inl (0, l))) (hn : sx_in i l.length = true) (hv : l.getD i.toNatClampNeg 0 = v) (hp : pc + 1 = pc2) (k : sx_RP xs d mi pc2 ls (.int v :: r) w P) : sx_RP xs d mi pc ls (.int i :: .ref a :: r) w P := by
  subst hp
  exact sx_RP.step hi (show sx_iald xs ls pc (.int i :: .ref a :: r) w = _ from sx_iald_at hw hn hv) k
theorem sx_RP.bald {i v : Int32} {l : List Int32} (hi : sx_ins mi pc = some (.baload, 1)) (hw : w[a]? = some (.inl (1, l))) (hn : sx_in i l.length = true) (hv : l.getD i.toNatClampNeg 0 = v) (hp : pc + 1 = pc2) (k : sx_RP xs d mi pc2 ls (.int v :: r) w P) : sx_RP xs d mi pc ls (.int i :: .ref a :: r) w P := by
  subst hp
  exact sx_RP.step hi (show sx_bald ls pc (.int i :: .ref a :: r) w = _ from sx_bald_at hw hn hv) k
theorem sx_RP.iast {i x : Int32} {l : List Int32} (hi : sx_ins mi pc = some (.iastore, 1)) (hw : w[a]? = some (.inl (0, l))) (hn : sx_in i l.length = true) (hs : w.set a (.inl (0, l.set i.toNatClampNeg x)) = w2) (hp : pc + 1 = pc2) (k : sx_RP xs d mi pc2 ls r w2 P) : sx_RP xs d mi pc ls (.int x :: .int i :: .ref a :: r) w P := by
  subst hp
  exact sx_RP.step hi (show sx_iast ls pc (.int x :: .int i :: .ref a :: r) w = _ from sx_iast_at hw hn hs) k
theorem sx_RP.bast {i x : Int32} {l : List Int32} (hi : sx_ins mi pc = some (.bastore, 1)) (hw : w[a]? = some (.inl (1, l))) (hn : sx_in i l.length = true) (hs : w.set a (.inl (1, l.set i.toNatClampNeg (vp_nar .boolean x))) = w2) (hp : pc + 1 = pc2) (k : sx_RP xs d mi pc2 ls r w2 P) : sx_RP xs d mi pc ls (.int x :: .int i :: .ref a :: r) w P := by
  subst hp
  exact sx_RP.step hi (show sx_bast ls pc (.int x :: .int i :: .ref a :: r) w = _ from sx_bast_at hw hn hs) k
theorem sx_RP.last {i : Int32} {x : Int64} {l : List Int64} (hi : sx_ins mi pc = some (.lastore, 1)) (hw : w[a]? = some (.inr (.inl (3, l)))) (hn : sx_in i l.length = true) (hs : w.set a (.inr (.inl (3, l.set i.toNatClampNeg x))) = w2) (hp : pc + 1 = pc2) (k : sx_RP xs d mi pc2 ls r w2 P) : sx_RP xs d mi pc ls (.long x :: .int i :: .ref a :: r) w P := by
  subst hp
  exact sx_RP.step hi (show sx_last ls pc (.long x :: .int i :: .ref a :: r) w = _ from sx_last_at hw hn hs) k
end SXAT
/-- a number in a range that begins at 0 or above is one of so many -/
theorem sx_rng {x lo hi : Int32} {n : Nat} (h : lo ≤ x ∧ x ≤ hi) (h0 : 0 ≤ lo.toInt) (hn : hi.toInt = n) : ∃ j : Nat, j ≤ n ∧ x = nI j := by
  refine nI_of2 hn (fun q => ?_) h.2
  have a1 := Int32.le_iff_toInt_le.mp h.1
  have a2 := Int32.lt_iff_toInt_lt.mp q
  have a3 : (0 : Int32).toInt = 0 := rfl
  omega
