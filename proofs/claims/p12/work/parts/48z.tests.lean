theorem in_casesM (x : Int32) {n : Nat} (hn : n < 2 ^ 31) : ¬ ((-1) ≤ x ∧ x ≤ nI n) ∨ x = -1 ∨ ∃ j, j ≤ n ∧ x = nI j := by
  by_cases h : (-1) ≤ x ∧ x ≤ nI n
  · right
    by_cases h1 : x = -1
    · exact Or.inl h1
    · right
      have a1 := Int32.le_iff_toInt_le.mp h.1
      have e1 : (-1 : Int32).toInt = -1 := rfl
      have e0 : (0 : Int32).toInt = 0 := rfl
      have h2 : ¬ x.toInt = -1 := fun z => h1 (Int32.toInt_inj.mp (by rw [z, e1]))
      obtain ⟨j, hj, rfl⟩ := nI_of2 (M := nI n) (n := n) (x := x) (nI_toInt hn) (fun z => by
        have h3 := Int32.lt_iff_toInt_lt.mp z
        omega) h.2
      exact ⟨j, hj, rfl⟩
  · exact Or.inl h
theorem in_casesS (x : Int32) {n : Nat} (hn : n < 2 ^ 31) : ¬ (0 ≤ x ∧ x ≤ nI n - 1) ∨ ((0 ≤ x ∧ x ≤ nI n - 1) ∧ ∃ j, j < n ∧ x = nI j) := by
  by_cases h : 0 ≤ x ∧ x ≤ nI n - 1
  · right
    refine ⟨h, ?_⟩
    have h0 : ¬ x < 0 := Int32.not_lt.mpr h.1
    obtain ⟨j, hj, rfl⟩ := nI_of h0
    refine ⟨j, ?_, rfl⟩
    have a1 := Int32.le_iff_toInt_le.mp h.2
    rw [nI_toInt hj] at a1
    cases n with
    | zero =>
      have e : (nI 0 - 1 : Int32).toInt = -1 := by decide
      omega
    | succ n =>
      rw [nI_pred, nI_toInt (by omega)] at a1
      omega
  · exact Or.inl h
theorem lay_rng {v : Int64} (q1 : ¬ lg_cmp v 0 < 0) (q2 : ¬ 0 < lg_cmp v 3) : inR v.toInt32 3 := by
  have h1 : ¬ v < 0 := by
    intro z
    apply q1
    have a1 := Int64.lt_iff_toInt_lt.mp z
    have z0 : (0 : Int64).toInt = 0 := rfl
    have a : ¬ 0 < v := fun y => by
      have := Int64.lt_iff_toInt_lt.mp y
      omega
    have b : ¬ v = 0 := fun y => by
      rw [y, z0] at a1
      omega
    unfold lg_cmp
    rw [if_neg a, if_neg b]
    decide
  have h2 : ¬ 3 < v := by
    intro z
    apply q2
    unfold lg_cmp
    rw [if_pos z]
    decide
  rw [Int64.lt_iff_toInt_lt] at h1 h2
  have e0 : (0 : Int64).toInt = 0 := rfl
  have e3 : (3 : Int64).toInt = 3 := rfl
  rw [e0] at h1
  rw [e3] at h2
  rcases (show v.toInt = 0 ∨ v.toInt = 1 ∨ v.toInt = 2 ∨ v.toInt = 3 by omega) with h | h | h | h
  · have : v = 0 := Int64.toInt_inj.mp h
    subst this
    exact ⟨0, by decide, rfl⟩
  · have : v = 1 := Int64.toInt_inj.mp h
    subst this
    exact ⟨1, by decide, rfl⟩
  · have : v = 2 := Int64.toInt_inj.mp h
    subst this
    exact ⟨2, by decide, rfl⟩
  · have : v = 3 := Int64.toInt_inj.mp h
    subst this
    exact ⟨3, by decide, rfl⟩
