-- rules of branches; the leaves
section SXT
variable {xs : Option (List Int32)} {d mi pc : Nat} {ls : sx_L} {st : List Value} {w : List sx_C} {r : Option Value} {w2 : List sx_C}
theorem sx_RU.br {i : Instr} {n : Nat} {b : Bool} {p1 p2 : Nat} {l1 l2 : sx_L} {s1 s2 : List Value} {v1 v2 : List sx_C} (hi : sx_ins mi pc = some (i, n)) (hs : sx_step false xs mi pc i n ls st w = cond b (some (p1, l1, s1, v1)) (some (p2, l2, s2, v2))) (k1 : b = true → sx_RU xs d mi p1 l1 s1 v1 r w2) (k2 : b = false → sx_RU xs d mi p2 l2 s2 v2 r w2) : sx_RU xs d mi pc ls st w r w2 := by
  cases b with
  | true => exact sx_RU.step hi hs (k1 rfl)
  | false => exact sx_RU.step hi hs (k2 rfl)
end SXT
theorem sx_lt48 {c : Int32} {a b : Int32} (h : b.toInt = a.toInt + 1) : c < b ↔ c ≤ a := by
  rw [Int32.lt_iff_toInt_lt, Int32.le_iff_toInt_le]
  omega
theorem cx_7 (xs : Option (List Int32)) (d : Nat) (w : List sx_C) (c : Int32) : sx_RU xs d 7 0 (lv_args 0 [.int c]) [] w (some (.int (if 0 ≤ c ∧ c ≤ 47 then 1 else 0))) w := by
  refine sx_RU.step rfl rfl ?_
  refine sx_RU.br rfl rfl (fun h1 => ?_) (fun h1 => ?_)
  · refine sx_RU.step rfl rfl ?_
    rw [if_neg (fun q => absurd (of_decide_eq_true h1) (Int32.not_lt.mpr q.1))]
    exact sx_RU.ret rfl rfl
  · refine sx_RU.step rfl rfl ?_
    refine sx_RU.step rfl rfl ?_
    refine sx_RU.br rfl rfl (fun h2 => ?_) (fun h2 => ?_)
    · refine sx_RU.step rfl rfl ?_
      rw [if_neg (fun q => absurd ((sx_lt48 (b := 48) rfl).mpr q.2) (Int32.not_lt.mpr (of_decide_eq_true h2)))]
      exact sx_RU.ret rfl rfl
    · refine sx_RU.step rfl rfl ?_
      refine sx_RU.step rfl rfl ?_
      rw [if_pos ⟨Int32.not_lt.mp (of_decide_eq_false h1), (sx_lt48 (b := 48) rfl).mp (Int32.not_le.mp (of_decide_eq_false h2))⟩]
      exact sx_RU.ret rfl rfl
theorem cx_22 (xs : Option (List Int32)) (d : Nat) (w : List sx_C) (c : Int32) : sx_RU xs d 22 0 (lv_args 0 [.int c]) [] w (some (.int (if 0 ≤ c ∧ c ≤ 5 then 1 else 0))) w := by
  refine sx_RU.step rfl rfl ?_
  refine sx_RU.br rfl rfl (fun h1 => ?_) (fun h1 => ?_)
  · refine sx_RU.step rfl rfl ?_
    rw [if_neg (fun q => absurd (of_decide_eq_true h1) (Int32.not_lt.mpr q.1))]
    exact sx_RU.ret rfl rfl
  · refine sx_RU.step rfl rfl ?_
    refine sx_RU.step rfl rfl ?_
    refine sx_RU.br rfl rfl (fun h2 => ?_) (fun h2 => ?_)
    · refine sx_RU.step rfl rfl ?_
      rw [if_neg (fun q => absurd ((sx_lt48 (b := 6) rfl).mpr q.2) (Int32.not_lt.mpr (of_decide_eq_true h2)))]
      exact sx_RU.ret rfl rfl
    · refine sx_RU.step rfl rfl ?_
      refine sx_RU.step rfl rfl ?_
      rw [if_pos ⟨Int32.not_lt.mp (of_decide_eq_false h1), (sx_lt48 (b := 6) rfl).mp (Int32.not_le.mp (of_decide_eq_false h2))⟩]
      exact sx_RU.ret rfl rfl
theorem cx_23 (xs : Option (List Int32)) (d : Nat) (w : List sx_C) (c : Int32) : sx_RU xs d 23 0 (lv_args 0 [.int c]) [] w (some (.int (if 0 ≤ c ∧ c ≤ 3 then 1 else 0))) w := by
  refine sx_RU.step rfl rfl ?_
  refine sx_RU.br rfl rfl (fun h1 => ?_) (fun h1 => ?_)
  · refine sx_RU.step rfl rfl ?_
    rw [if_neg (fun q => absurd (of_decide_eq_true h1) (Int32.not_lt.mpr q.1))]
    exact sx_RU.ret rfl rfl
  · refine sx_RU.step rfl rfl ?_
    refine sx_RU.step rfl rfl ?_
    refine sx_RU.br rfl rfl (fun h2 => ?_) (fun h2 => ?_)
    · refine sx_RU.step rfl rfl ?_
      rw [if_neg (fun q => absurd ((sx_lt48 (b := 4) rfl).mpr q.2) (Int32.not_lt.mpr (of_decide_eq_true h2)))]
      exact sx_RU.ret rfl rfl
    · refine sx_RU.step rfl rfl ?_
      refine sx_RU.step rfl rfl ?_
      rw [if_pos ⟨Int32.not_lt.mp (of_decide_eq_false h1), (sx_lt48 (b := 4) rfl).mp (Int32.not_le.mp (of_decide_eq_false h2))⟩]
      exact sx_RU.ret rfl rfl
theorem cx_8 (xs : Option (List Int32)) (d : Nat) (w : List sx_C) (v lo hi : Int32) : sx_RU xs d 8 0 (lv_args 0 [.int v, .int lo, .int hi]) [] w (some (.int (if lo ≤ v ∧ v ≤ hi then 1 else 0))) w := by
  refine sx_RU.step rfl rfl ?_
  refine sx_RU.step rfl rfl ?_
  refine sx_RU.br rfl rfl (fun h1 => ?_) (fun h1 => ?_)
  · refine sx_RU.step rfl rfl ?_
    rw [if_neg (fun q => absurd (of_decide_eq_true h1) (Int32.not_lt.mpr q.1))]
    exact sx_RU.ret rfl rfl
  · refine sx_RU.step rfl rfl ?_
    refine sx_RU.step rfl rfl ?_
    refine sx_RU.br rfl rfl (fun h2 => ?_) (fun h2 => ?_)
    · refine sx_RU.step rfl rfl ?_
      rw [if_neg (fun q => absurd (of_decide_eq_true h2) (Int32.not_lt.mpr q.2))]
      exact sx_RU.ret rfl rfl
    · refine sx_RU.step rfl rfl ?_
      refine sx_RU.step rfl rfl ?_
      rw [if_pos ⟨Int32.not_lt.mp (of_decide_eq_false h1), Int32.not_lt.mp (of_decide_eq_false h2)⟩]
      exact sx_RU.ret rfl rfl
theorem cx_132 (xs : Option (List Int32)) (d : Nat) (w : List sx_C) (v lo hi : Int32) : sx_RU xs d 132 0 (lv_args 0 [.int v, .int lo, .int hi]) [] w (some (.int (if lo ≤ v ∧ v ≤ hi then 1 else 0))) w := by
  refine sx_RU.step rfl rfl ?_
  refine sx_RU.step rfl rfl ?_
  refine sx_RU.br rfl rfl (fun h1 => ?_) (fun h1 => ?_)
  · refine sx_RU.step rfl rfl ?_
    rw [if_neg (fun q => absurd (of_decide_eq_true h1) (Int32.not_lt.mpr q.1))]
    exact sx_RU.ret rfl rfl
  · refine sx_RU.step rfl rfl ?_
    refine sx_RU.step rfl rfl ?_
    refine sx_RU.br rfl rfl (fun h2 => ?_) (fun h2 => ?_)
    · refine sx_RU.step rfl rfl ?_
      rw [if_neg (fun q => absurd (of_decide_eq_true h2) (Int32.not_lt.mpr q.2))]
      exact sx_RU.ret rfl rfl
    · refine sx_RU.step rfl rfl ?_
      refine sx_RU.step rfl rfl ?_
      rw [if_pos ⟨Int32.not_lt.mp (of_decide_eq_false h1), Int32.not_lt.mp (of_decide_eq_false h2)⟩]
      exact sx_RU.ret rfl rfl
theorem cx_131 (xs : Option (List Int32)) (d : Nat) (w : List sx_C) (c : Int32) : sx_RU xs (d + 1) 131 0 (lv_args 0 [.int c]) [] w (some (.int (if 0 ≤ c ∧ c ≤ 47 then 1 else 0))) w := by
  (repeat (refine sx_RU.step rfl rfl ?_))
  refine sx_RU.call rfl rfl rfl rfl (cx_132 xs d w c 0 47) ?_
  by_cases hP : 0 ≤ c ∧ c ≤ 47
  · rw [if_pos hP]
    exact sx_RU.ret rfl rfl
  · rw [if_neg hP]
    exact sx_RU.ret rfl rfl
theorem cx_151 (xs : Option (List Int32)) (d : Nat) (w : List sx_C) (c : Int32) : sx_RU xs (d + 1) 151 0 (lv_args 0 [.int c]) [] w (some (.int (if 0 ≤ c ∧ c ≤ 5 then 1 else 0))) w := by
  (repeat (refine sx_RU.step rfl rfl ?_))
  refine sx_RU.call rfl rfl rfl rfl (cx_132 xs d w c 0 5) ?_
  by_cases hP : 0 ≤ c ∧ c ≤ 5
  · rw [if_pos hP]
    exact sx_RU.ret rfl rfl
  · rw [if_neg hP]
    exact sx_RU.ret rfl rfl
theorem cx_152 (xs : Option (List Int32)) (d : Nat) (w : List sx_C) (c : Int32) : sx_RU xs (d + 1) 152 0 (lv_args 0 [.int c]) [] w (some (.int (if 0 ≤ c ∧ c ≤ 3 then 1 else 0))) w := by
  (repeat (refine sx_RU.step rfl rfl ?_))
  refine sx_RU.call rfl rfl rfl rfl (cx_132 xs d w c 0 3) ?_
  by_cases hP : 0 ≤ c ∧ c ≤ 3
  · rw [if_pos hP]
    exact sx_RU.ret rfl rfl
  · rw [if_neg hP]
    exact sx_RU.ret rfl rfl
theorem cx_231 (xs : Option (List Int32)) (d : Nat) (w : List sx_C) (c : Int32) : sx_RU xs (d + 1) 231 0 (lv_args 0 [.int c]) [] w (some (.int (if 0 ≤ c ∧ c ≤ 3 then 1 else 0))) w := by
  (repeat (refine sx_RU.step rfl rfl ?_))
  refine sx_RU.call rfl rfl rfl rfl (cx_132 xs d w c 0 3) ?_
  by_cases hP : 0 ≤ c ∧ c ≤ 3
  · rw [if_pos hP]
    exact sx_RU.ret rfl rfl
  · rw [if_neg hP]
    exact sx_RU.ret rfl rfl
theorem cx_197 (xs : Option (List Int32)) (d : Nat) (w : List sx_C) (c : Int32) : sx_RU xs (d + 1) 197 0 (lv_args 0 [.int c]) [] w (some (.int (if 1 ≤ c ∧ c ≤ 30 then 1 else 0))) w := by
  (repeat (refine sx_RU.step rfl rfl ?_))
  refine sx_RU.call rfl rfl rfl rfl (cx_132 xs d w c 1 30) ?_
  by_cases hP : 1 ≤ c ∧ c ≤ 30
  · rw [if_pos hP]
    exact sx_RU.ret rfl rfl
  · rw [if_neg hP]
    exact sx_RU.ret rfl rfl
theorem cx_112 (xs : Option (List Int32)) (d : Nat) (w : List sx_C) (c : Int32) : sx_RU xs (d + 1) 112 0 (lv_args 0 [.int c]) [] w (some (.int (if 0 ≤ c ∧ c ≤ 3 then 1 else 0))) w := by
  (repeat (refine sx_RU.step rfl rfl ?_))
  refine sx_RU.call rfl rfl rfl rfl (cx_8 xs d w c 0 3) ?_
  by_cases hP : 0 ≤ c ∧ c ≤ 3
  · rw [if_pos hP]
    exact sx_RU.ret rfl rfl
  · rw [if_neg hP]
    exact sx_RU.ret rfl rfl
