-- tests of ranges, both ways
section SXN
variable {xs : Option (List Int32)} {d : Nat} {w : List sx_C} {x lo hi : Int32}
theorem cx_8n (q : ¬ (lo ≤ x ∧ x ≤ hi)) : sx_RU xs d 8 0 (lv_args 0 [.int x, .int lo, .int hi]) [] w (some (.int 0)) w := by
  have c := cx_8 xs d w x lo hi
  rw [if_neg q] at c
  exact c
theorem cx_8p (q : lo ≤ x ∧ x ≤ hi) : sx_RU xs d 8 0 (lv_args 0 [.int x, .int lo, .int hi]) [] w (some (.int 1)) w := by
  have c := cx_8 xs d w x lo hi
  rw [if_pos q] at c
  exact c
theorem cx_132o (q : ¬ (lo ≤ x ∧ x ≤ hi)) : sx_RU xs d 132 0 (lv_args 0 [.int x, .int lo, .int hi]) [] w (some (.int 0)) w := by
  have c := cx_132 xs d w x lo hi
  rw [if_neg q] at c
  exact c
theorem cx_132p (q : lo ≤ x ∧ x ≤ hi) : sx_RU xs d 132 0 (lv_args 0 [.int x, .int lo, .int hi]) [] w (some (.int 1)) w := by
  have c := cx_132 xs d w x lo hi
  rw [if_pos q] at c
  exact c
theorem cx_7n (q : ¬ (0 ≤ x ∧ x ≤ 47)) : sx_RU xs d 7 0 (lv_args 0 [.int x]) [] w (some (.int 0)) w := by
  have c := cx_7 xs d w x
  rw [if_neg q] at c
  exact c
theorem cx_7p (q : 0 ≤ x ∧ x ≤ 47) : sx_RU xs d 7 0 (lv_args 0 [.int x]) [] w (some (.int 1)) w := by
  have c := cx_7 xs d w x
  rw [if_pos q] at c
  exact c
theorem cx_22n (q : ¬ (0 ≤ x ∧ x ≤ 5)) : sx_RU xs d 22 0 (lv_args 0 [.int x]) [] w (some (.int 0)) w := by
  have c := cx_22 xs d w x
  rw [if_neg q] at c
  exact c
theorem cx_22p (q : 0 ≤ x ∧ x ≤ 5) : sx_RU xs d 22 0 (lv_args 0 [.int x]) [] w (some (.int 1)) w := by
  have c := cx_22 xs d w x
  rw [if_pos q] at c
  exact c
theorem cx_23n (q : ¬ (0 ≤ x ∧ x ≤ 3)) : sx_RU xs d 23 0 (lv_args 0 [.int x]) [] w (some (.int 0)) w := by
  have c := cx_23 xs d w x
  rw [if_neg q] at c
  exact c
theorem cx_23p (q : 0 ≤ x ∧ x ≤ 3) : sx_RU xs d 23 0 (lv_args 0 [.int x]) [] w (some (.int 1)) w := by
  have c := cx_23 xs d w x
  rw [if_pos q] at c
  exact c
theorem cx_112n (q : ¬ (0 ≤ x ∧ x ≤ 3)) : sx_RU xs (d + 1) 112 0 (lv_args 0 [.int x]) [] w (some (.int 0)) w := by
  refine sx_RU.step rfl rfl (sx_RU.step rfl rfl (sx_RU.step rfl rfl ?_))
  exact sx_RU.call rfl rfl rfl rfl (cx_8n q) (sx_RU.ret rfl rfl)
theorem cx_112p (q : 0 ≤ x ∧ x ≤ 3) : sx_RU xs (d + 1) 112 0 (lv_args 0 [.int x]) [] w (some (.int 1)) w := by
  refine sx_RU.step rfl rfl (sx_RU.step rfl rfl (sx_RU.step rfl rfl ?_))
  exact sx_RU.call rfl rfl rfl rfl (cx_8p q) (sx_RU.ret rfl rfl)
theorem bes_cases {c j : Nat} (hc : c < 48) (hj : j < 4) : bsd c j = -1 ∨ ∃ c2, c2 < 48 ∧ bsd c j = nI c2 := by
  rcases bsd_nat c hc j hj with h | ⟨h1, h2⟩
  · exact Or.inl h
  · exact Or.inr ⟨_, h1, h2⟩
theorem cb_20e {c j : Nat} {v : Int32} (hc : c < 48) (hj : j < 4) (h : bsd c j = v) : sx_RU xs d 20 0 (lv_args 0 [.int (nI c), .int (nI j)]) [] w (some (.int v)) w := by
  rw [← h]
  exact cb_20 hc j hj
theorem cb_142e {c j : Nat} {v : Int32} (hc : c < 48) (hj : j < 4) (h : bsd c j = v) : sx_RU xs d 142 0 (lv_args 0 [.int (nI c), .int (nI j)]) [] w (some (.int v)) w := by
  rw [← h]
  exact cb_142 hc j hj
end SXN
theorem idx_of {x : Int32} {n m : Nat} (q1 : ¬ x < 0) (q2 : ¬ nI n ≤ x) (hn : n ≤ m) (hm : m < 2 ^ 31) : ∃ j, j < m ∧ x = nI j := by
  obtain ⟨j, hj, rfl⟩ := nI_of q1
  refine ⟨j, ?_, rfl⟩
  have := mt (nI_leI (by omega) hj).mpr q2
  omega
