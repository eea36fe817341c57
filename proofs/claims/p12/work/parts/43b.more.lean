-- more rows
theorem nI_mul (a b : Nat) : nI a * nI b = nI (a * b) := (Int32.ofNat_mul a b).symm
theorem nI_sub {a b : Nat} (h : b ≤ a) : nI a - nI b = nI (a - b) := by
  have e : nI (a - b) + nI b = nI a := by rw [nI_add, Nat.sub_add_cancel h]
  rw [← e, Int32.add_sub_cancel]
theorem sw_cases {n : Nat} (x : Int32) : (x.toInt < 0 ∨ (n : Int) < x.toInt) ∨ ∃ j, j ≤ n ∧ x = nI j := by
  by_cases h : x.toInt < 0 ∨ (n : Int) < x.toInt
  · exact Or.inl h
  · right
    have h1 : ¬ x < 0 := by
      intro z
      have := Int32.lt_iff_toInt_lt.mp z
      have e0 : (0 : Int32).toInt = 0 := rfl
      omega
    obtain ⟨j, hj, rfl⟩ := nI_of h1
    refine ⟨j, ?_, rfl⟩
    rw [nI_toInt hj] at h
    omega
theorem in_cases (x lo hi : Int32) {n m : Nat} (hl : lo = nI m) (hh : hi = nI n) (hm : m < 2 ^ 31) (hn : n < 2 ^ 31) : ¬ (lo ≤ x ∧ x ≤ hi) ∨ ∃ j, m ≤ j ∧ j ≤ n ∧ x = nI j := by
  by_cases h : lo ≤ x ∧ x ≤ hi
  · right
    subst hl
    subst hh
    obtain ⟨j, hj, rfl⟩ := nI_of2 (M := nI n) (n := n) (x := x) (nI_toInt hn) (fun z => by
      have h1 := Int32.le_iff_toInt_le.mp h.1
      have h2 := Int32.lt_iff_toInt_lt.mp z
      rw [nI_toInt hm] at h1
      have e0 : (0 : Int32).toInt = 0 := rfl
      omega) h.2
    exact ⟨j, (nI_leI hm (by omega)).mp h.1, hj, rfl⟩
  · exact Or.inl h
theorem bo_ret {v : Int32} {mi : Nat} (hm : (sx_M mi).2.2.2.1 = some .boolean) (h : inR v 1) : sx_ret mi .ireturn [.int v] = some (some (.int v)) := by
  unfold sx_ret
  rw [hm]
  simp only
  rw [inR.bo h]
  rfl
section SXM
variable {xs : Option (List Int32)} {d mi pc pc2 a idx p : Nat} {ls : sx_L} {r : List Value} {w w0 : List sx_C} {P : Option Value → List sx_C → Prop}
theorem sx_RP.swo {n t : Nat} {dflt lo hi : Int} {offs : Array Int} {x : Int32} (hi1 : sx_ins mi pc = some (.tableswitch dflt lo hi offs, n)) (h : x.toInt < lo ∨ hi < x.toInt) (ht : sx_to pc dflt = some t) (k : sx_RP xs d mi t ls r w P) : sx_RP xs d mi pc ls (.int x :: r) w P := by
  refine sx_RP.step hi1 (show sx_sw dflt lo hi offs ls pc (.int x :: r) w = some (t, ls, r, w) from ?_) k
  unfold sx_sw
  simp only
  rw [if_pos h, ht]
theorem sx_RP.idiv {x y : Int32} (hi : sx_ins mi pc = some (.idiv, 1)) (hy : ¬ y = 0) (hp : pc + 1 = pc2) (k : sx_RP xs d mi pc2 ls (.int (x / y) :: r) w P) : sx_RP xs d mi pc ls (.int y :: .int x :: r) w P := by
  subst hp
  refine sx_RP.step hi (show sx_iz (fun x y => x / y) ls pc (.int y :: .int x :: r) w = some (pc + 1, ls, .int (x / y) :: r, w) from ?_) k
  unfold sx_iz
  simp only
  rw [if_neg hy]
theorem sx_RP.bld2 {i : Int32} {l : List Int32} {c n : Nat} (hi : sx_ins mi pc = some (.baload, 1)) (hw : w[a]? = some (.inl (2, l))) (hl : l.length = n) (hn : sx_in i n = true) (hc : i.toNatClampNeg = c) (hp : pc + 1 = pc2) (k : sx_RP xs d mi pc2 ls (.int (l.getD c 0) :: r) w P) : sx_RP xs d mi pc ls (.int i :: .ref a :: r) w P := by
  subst hc
  subst hl
  subst hp
  refine sx_RP.step hi (show sx_bald ls pc (.int i :: .ref a :: r) w = some (pc + 1, ls, .int (l.getD i.toNatClampNeg 0) :: r, w) from ?_) k
  unfold sx_bald
  simp only
  rw [hw]
  simp only
  unfold sx_al
  rw [hn]
  rfl
theorem sx_RP.lld {i : Int32} {l : List Int64} {c n : Nat} (hi : sx_ins mi pc = some (.laload, 1)) (hw : w[a]? = some (.inr (.inl (3, l)))) (hl : l.length = n) (hn : sx_in i n = true) (hc : i.toNatClampNeg = c) (hp : pc + 1 = pc2) (k : sx_RP xs d mi pc2 ls (.long (l.getD c 0) :: r) w P) : sx_RP xs d mi pc ls (.int i :: .ref a :: r) w P := by
  subst hc
  subst hl
  subst hp
  refine sx_RP.step hi (show sx_lald ls pc (.int i :: .ref a :: r) w = some (pc + 1, ls, .long (l.getD i.toNatClampNeg 0) :: r, w) from ?_) k
  unfold sx_lald
  simp only
  rw [hw]
  simp only
  rw [hn]
  rfl
theorem sx_RP.stN {i : Int32} {x : Int64} {n : Nat} (hI : WI w) (hE : EC w0 w) (hi : sx_ins mi pc = some (.lastore, 1)) (hw : w[a]? = some (.inr (.inl (3, ja w a))) ∧ (ja w a).length = n) (hn : sx_in i n = true) (hf : a = 104 ∨ a = 106 ∨ a = 108 ∨ a = 110) (hp : pc + 1 = pc2) (kk : ∀ w2, WI w2 → EC w0 w2 → sx_RP xs d mi pc2 ls r w2 P) : sx_RP xs d mi pc ls (.long x :: .int i :: .ref a :: r) w P := by
  have hl := hw.2
  subst hl
  exact sx_RP.last hi hw.1 hn rfl hp (kk _ (hI.set hw.1 shj_set (cOK.free (by omega))) (hE.set hw.1 (by omega) (kp_n (by omega))))
theorem sx_RP.stT {i x : Int32} {n : Nat} (hI : WI w) (hE : EC w0 w) (hi : sx_ins mi pc = some (.bastore, 1)) (hw : w[97]? = some (.inl (2, ia w 97)) ∧ (ia w 97).length = n) (hn : sx_in i n = true) (hf : True) (hp : pc + 1 = pc2) (kk : ∀ w2, WI w2 → EC w0 w2 → sx_RP xs d mi pc2 ls r w2 P) : sx_RP xs d mi pc ls (.int x :: .int i :: .ref 97 :: r) w P := by
  have hl := hw.2
  subst hl
  subst hp
  refine sx_RP.step hi (show sx_bast ls pc (.int x :: .int i :: .ref 97 :: r) w = some (pc + 1, ls, r, w.set 97 (.inl (2, (ia w 97).set i.toNatClampNeg (vp_nar .byte x)))) from ?_) (kk _ (hI.set hw.1 sh_set (cOK.free (by decide))) (hE.set hw.1 (by decide) (kp_n (by decide))))
  unfold sx_bast
  simp only
  rw [hw.1]
  simp only
  rw [hn]
  rfl
end SXM
