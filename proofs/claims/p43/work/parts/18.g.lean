-- 18.rules.lean.txt
section
theorem sx_lift_iald {ys : List Int32} {ls : sx_L} {pc : Nat} {st : List Value} {w : List sx_C} {F : sx_F} (h : sx_iald none ls pc st w = some F) : sx_iald (some ys) ls pc st w = some F := by
  unfold sx_iald at h ⊢
  split at h
  · exact h
  · rename_i i k r
    cases hk : Nat.blt k.toNat 5 with
    | false => rw [hk] at h; cases h
    | true =>
      rw [hk] at h
      simp only [cond_true] at h ⊢
      have hlt : k.toNat < 5 := Nat.le_of_ble_eq_true hk
      rcases (show k.toNat = 0 ∨ k.toNat = 1 ∨ k.toNat = 2 ∨ k.toNat = 3 ∨ k.toNat = 4 by omega) with e | e | e | e | e
      · rw [e] at h ⊢; exact h
      · rw [e] at h ⊢; exact h
      · rw [e] at h ⊢; exact h
      · rw [e] at h ⊢; exact h
      · rw [e] at h
        unfold sx_al at h
        have e2 : sx_in i (sx_st none 4).length = false := by
          cases hb : sx_in i (sx_st none 4).length with
          | false => rfl
          | true => exact absurd (sx_in_lt hb) (Nat.not_lt_zero _)
        rw [e2] at h
        cases h
  · cases h
theorem sx_lift_len {ys : List Int32} {ls : sx_L} {pc : Nat} {st : List Value} {w : List sx_C} {F : sx_F} (h : sx_len none ls pc st w = some F) : sx_len (some ys) ls pc st w = some F := by
  unfold sx_len at h
  split at h
  · rename_i he
    cases he
  · cases h
set_option maxHeartbeats 4000000 in
theorem sx_lift_step {md : Bool} {ys : List Int32} {mi pc n : Nat} {i : Instr} {ls : sx_L} {st : List Value} {w : List sx_C} {F : sx_F} (h : sx_step md none mi pc i n ls st w = some F) : sx_step md (some ys) mi pc i n ls st w = some F := by
  unfold sx_step at h
  split at h <;> first
    | exact h
    | exact sx_lift_iald h
    | exact sx_lift_len h
    | cases h
theorem sx_ret_i {mi : Nat} {i : Instr} {st : List Value} {r : Option Value} (h : sx_ret mi i st = some r) : i = .ireturn ∨ i = .lreturn ∨ i = .areturn ∨ i = .return_ := by
  unfold sx_ret at h
  split at h
  · exact Or.inl rfl
  · exact Or.inl rfl
  · exact Or.inr (Or.inl rfl)
  · exact Or.inr (Or.inr (Or.inl rfl))
  · exact Or.inr (Or.inr (Or.inl rfl))
  · exact Or.inr (Or.inr (Or.inl rfl))
  · exact Or.inr (Or.inr (Or.inr rfl))
  · cases h
theorem sx_step_r {md : Bool} {xs : Option (List Int32)} {mi pc : Nat} {i : Instr} {ls : sx_L} {st : List Value} {w : List sx_C} {r : Option Value} (h : sx_ret mi i st = some r) : sx_step md xs mi pc i 1 ls st w = none := by
  rcases sx_ret_i h with rfl | rfl | rfl | rfl <;> rfl
theorem sx_step_v {md : Bool} {ys : List Int32} {mi pc : Nat} {i : Instr} {ls : sx_L} {st : List Value} {w : List sx_C} {q : Nat × List Value × List Value} (h : sx_inv mi i st w = some q) : sx_step md (some ys) mi pc i 3 ls st w = sx_step md none mi pc i 3 ls st w := by
  rcases sx_inv_i h with ⟨k, rfl⟩ | ⟨k, rfl⟩ | ⟨k, rfl⟩ <;> rfl
theorem sx_lift_run (md : Bool) (ys : List Int32) : ∀ (f d mi pc : Nat) (ls : sx_L) (st : List Value) (w : List sx_C) (r : Option Value) (w2 : List sx_C), sx_run md none f d mi pc ls st w = some (r, w2) → sx_run md (some ys) f d mi pc ls st w = some (r, w2)
  | 0, d, mi, pc, ls, st, w, r, w2, h => by cases h
  | f + 1, d, mi, pc, ls, st, w, r, w2, h => by
    unfold sx_run at h ⊢
    split at h
    · cases h
    · rename_i i n hi
      try rw [hi]
      try simp only
      split at h
      · rename_i pc2 ls2 st2 w3 hs
        rw [sx_lift_step hs]
        exact sx_lift_run md ys f d mi pc2 ls2 st2 w3 r w2 h
      · rename_i hs
        split at h
        · rename_i r2 hr
          obtain ⟨hn, hr2⟩ := sx_cbeq hr
          subst hn
          try rw [sx_step_r hr2]
          try simp only
          try rw [hr]
          exact h
        · rename_i hr
          split at h
          · rename_i mi2 as rest d2 hinv
            obtain ⟨hn, hinv2⟩ := sx_cbeq hinv
            subst hn
            try rw [sx_step_v hinv2, hs]
            try simp only
            try rw [hr]
            try simp only
            try rw [hinv]
            try simp only
            simp only [Bool.cond_eq_ite] at h ⊢
            split at h
            · rename_i hsum
              rw [if_pos hsum]
              split at h
              · rename_i r2 w4 hc
                rw [sx_lift_run md ys f d2 mi2 0 _ [] w r2 w4 hc]
                exact sx_lift_run md ys f (d2 + 1) mi (pc + 3) ls _ w4 r w2 h
              · cases h
            · cases h
          · cases h
theorem sx_fuel1 (md : Bool) (xs : Option (List Int32)) : ∀ (f d mi pc : Nat) (ls : sx_L) (st : List Value) (w : List sx_C) (r : Option Value) (w2 : List sx_C), sx_run md xs f d mi pc ls st w = some (r, w2) → sx_run md xs (f + 1) d mi pc ls st w = some (r, w2)
  | 0, d, mi, pc, ls, st, w, r, w2, h => by cases h
  | f + 1, d, mi, pc, ls, st, w, r, w2, h => by
    unfold sx_run at h
    unfold sx_run
    split at h
    · cases h
    · rename_i i n hi
      try rw [hi]
      try simp only
      split at h
      · rename_i pc2 ls2 st2 w3 hs
        try rw [hs]
        exact sx_fuel1 md xs f d mi pc2 ls2 st2 w3 r w2 h
      · rename_i hs
        try rw [hs]
        try simp only
        split at h
        · rename_i r2 hr
          try rw [hr]
          exact h
        · rename_i hr
          try rw [hr]
          try simp only
          split at h
          · rename_i mi2 as rest d2 hinv
            try rw [hinv]
            try simp only
            simp only [Bool.cond_eq_ite] at h ⊢
            split at h
            · rename_i hsum
              rw [if_pos hsum]
              split at h
              · rename_i r2 w4 hc
                rw [sx_fuel1 md xs f d2 mi2 0 _ [] w r2 w4 hc]
                exact sx_fuel1 md xs f (d2 + 1) mi (pc + 3) ls _ w4 r w2 h
              · cases h
            · cases h
          · cases h
theorem sx_fuel {md : Bool} {xs : Option (List Int32)} {f g d mi pc : Nat} {ls : sx_L} {st : List Value} {w : List sx_C} {r : Option Value} {w2 : List sx_C} (h : sx_run md xs f d mi pc ls st w = some (r, w2)) (hg : f ≤ g) : sx_run md xs g d mi pc ls st w = some (r, w2) := by
  obtain ⟨k, rfl⟩ : ∃ k, g = f + k := ⟨g - f, by omega⟩
  clear hg
  induction k with
  | zero => exact h
  | succ k ih => exact sx_fuel1 md xs (f + k) d mi pc ls st w r w2 ih
def sx_RU (xs : Option (List Int32)) (d mi pc : Nat) (ls : sx_L) (st : List Value) (w : List sx_C) (r : Option Value) (w2 : List sx_C) : Prop := ∃ f, sx_run false xs f d mi pc ls st w = some (r, w2)
section SXU
variable {xs : Option (List Int32)} {d mi pc : Nat} {ls : sx_L} {st : List Value} {w : List sx_C} {r : Option Value} {w2 : List sx_C}
theorem sx_RU.step {i : Instr} {n pc2 : Nat} {ls2 : sx_L} {st2 : List Value} {w3 : List sx_C} (hi : sx_ins mi pc = some (i, n)) (hs : sx_step false xs mi pc i n ls st w = some (pc2, ls2, st2, w3)) (k : sx_RU xs d mi pc2 ls2 st2 w3 r w2) : sx_RU xs d mi pc ls st w r w2 := by
  obtain ⟨f, hf⟩ := k
  refine ⟨f + 1, ?_⟩
  unfold sx_run
  rw [hi]
  simp only
  rw [hs]
  exact hf
theorem sx_RU.ret {i : Instr} (hi : sx_ins mi pc = some (i, 1)) (hr : sx_ret mi i st = some r) : sx_RU xs d mi pc ls st w r w := by
  refine ⟨1, ?_⟩
  unfold sx_run
  rw [hi]
  simp only
  rw [sx_step_r hr]
  simp only
  rw [show cond (Nat.beq 1 1) (sx_ret mi i st) none = sx_ret mi i st from rfl, hr]
theorem sx_RU.call {i : Instr} {mi2 : Nat} {as rest : List Value} {r2 : Option Value} {w4 : List sx_C} (hi : sx_ins mi pc = some (i, 3)) (hs : sx_step false xs mi pc i 3 ls st w = none) (hv : sx_inv mi i st w = some (mi2, as, rest)) (hm : Nat.ble (as.map (fun v => v.category)).sum (sx_maxL mi2) = true) (hc : sx_RU xs d mi2 0 (lv_args 0 as) [] w r2 w4) (k : sx_RU xs (d + 1) mi (pc + 3) ls (r2.toList ++ rest) w4 r w2) : sx_RU xs (d + 1) mi pc ls st w r w2 := by
  obtain ⟨f, hf⟩ := hc
  obtain ⟨g, hg⟩ := k
  refine ⟨max f g + 1, ?_⟩
  unfold sx_run
  rw [hi]
  simp only
  rw [hs]
  simp only
  rw [show cond (Nat.beq 3 1) (sx_ret mi i st) none = none from rfl]
  simp only
  rw [show cond (Nat.beq 3 3) (sx_inv mi i st w) none = sx_inv mi i st w from rfl, hv]
  simp only
  rw [hm, sx_fuel hf (Nat.le_max_left f g)]
  exact sx_fuel hg (Nat.le_max_right f g)
theorem sx_RU.eval {ys : List Int32} {f : Nat} (h : sx_run false none f d mi pc ls st w = some (r, w2)) : sx_RU (some ys) d mi pc ls st w r w2 := ⟨f, sx_lift_run false ys f d mi pc ls st w r w2 h⟩
end SXU
end
-- 19.fresh.lean.txt
section
def sx_eqC (a b : sx_C) : Bool := match a, b with
  | .inl x, .inl y => decide (x = y)
  | .inr (.inl x), .inr (.inl y) => decide (x = y)
  | .inr (.inr (.inl x)), .inr (.inr (.inl y)) => decide (x = y)
  | .inr (.inr (.inr x)), .inr (.inr (.inr y)) => decide (x = y)
  | _, _ => false
def sx_eqW : List sx_C → List sx_C → Bool
  | [], [] => true
  | a :: r, b :: t => sx_eqC a b && sx_eqW r t
  | _, _ => false
theorem sx_eqC_of {a b : sx_C} (h : sx_eqC a b = true) : a = b := by
  unfold sx_eqC at h
  split at h
  · rw [of_decide_eq_true h]
  · rw [of_decide_eq_true h]
  · rw [of_decide_eq_true h]
  · rw [of_decide_eq_true h]
  · cases h
theorem sx_eqW_of : ∀ (a b : List sx_C), sx_eqW a b = true → a = b
  | [], [], _ => rfl
  | a :: r, b :: t, h => by
    have h2 : (sx_eqC a b && sx_eqW r t) = true := h
    rw [Bool.and_eq_true] at h2
    rw [sx_eqC_of h2.1, sx_eqW_of r t h2.2]
  | [], b :: t, h => by cases h
  | a :: r, [], h => by cases h
def sx_is (o : Option (Option Value × List sx_C)) (r : Option Value) (w : List sx_C) : Bool := match o with
  | some q => decide (q.1 = r) && sx_eqW q.2 w
  | none => false
theorem sx_is_of {o : Option (Option Value × List sx_C)} {r : Option Value} {w : List sx_C} (h : sx_is o r w = true) : o = some (r, w) := by
  unfold sx_is at h
  split at h
  · rename_i q
    rw [Bool.and_eq_true] at h
    have e1 : q.1 = r := of_decide_eq_true h.1
    have e2 : q.2 = w := sx_eqW_of _ _ h.2
    rw [← e1, ← e2]
  · cases h
noncomputable def sx_wX : List sx_C := [
  .inr (.inr (.inr (0, [.ref 1, .ref 15, .ref 29, .int (0), .ref 43, .ref 44, .ref 96, .ref 98, .ref 99, .ref 100, .ref 101, .ref 102]))),
  .inr (.inr (.inr (1, [.ref 2, .long (0), .ref 3, .int (0), .ref 4, .int (0), .int (0), .int (0), .int (0), .int (10), .int (16)]))),
  .inl (0, List.replicate 48 0),
  .inr (.inr (.inl (4, [some 5, some 6, some 7, some 8, some 9, some 10, some 11, some 12, some 13, some 14]))),
  .inl (0, List.replicate 9 0),
  .inr (.inr (.inr (2, [.int (0), .int (0), .int (0), .int (0), .int (0), .int (0)]))),
  .inr (.inr (.inr (2, [.int (0), .int (0), .int (0), .int (0), .int (0), .int (0)]))),
  .inr (.inr (.inr (2, [.int (0), .int (0), .int (0), .int (0), .int (0), .int (0)]))),
  .inr (.inr (.inr (2, [.int (0), .int (0), .int (0), .int (0), .int (0), .int (0)]))),
  .inr (.inr (.inr (2, [.int (0), .int (0), .int (0), .int (0), .int (0), .int (0)]))),
  .inr (.inr (.inr (2, [.int (0), .int (0), .int (0), .int (0), .int (0), .int (0)]))),
  .inr (.inr (.inr (2, [.int (0), .int (0), .int (0), .int (0), .int (0), .int (0)]))),
  .inr (.inr (.inr (2, [.int (0), .int (0), .int (0), .int (0), .int (0), .int (0)]))),
  .inr (.inr (.inr (2, [.int (0), .int (0), .int (0), .int (0), .int (0), .int (0)]))),
  .inr (.inr (.inr (2, [.int (0), .int (0), .int (0), .int (0), .int (0), .int (0)]))),
  .inr (.inr (.inr (1, [.ref 16, .long (0), .ref 17, .int (0), .ref 18, .int (0), .int (0), .int (0), .int (0), .int (10), .int (16)]))),
  .inl (0, List.replicate 48 0),
  .inr (.inr (.inl (4, [some 19, some 20, some 21, some 22, some 23, some 24, some 25, some 26, some 27, some 28]))),
  .inl (0, List.replicate 9 0),
  .inr (.inr (.inr (2, [.int (0), .int (0), .int (0), .int (0), .int (0), .int (0)]))),
  .inr (.inr (.inr (2, [.int (0), .int (0), .int (0), .int (0), .int (0), .int (0)]))),
  .inr (.inr (.inr (2, [.int (0), .int (0), .int (0), .int (0), .int (0), .int (0)]))),
  .inr (.inr (.inr (2, [.int (0), .int (0), .int (0), .int (0), .int (0), .int (0)]))),
  .inr (.inr (.inr (2, [.int (0), .int (0), .int (0), .int (0), .int (0), .int (0)]))),
  .inr (.inr (.inr (2, [.int (0), .int (0), .int (0), .int (0), .int (0), .int (0)]))),
  .inr (.inr (.inr (2, [.int (0), .int (0), .int (0), .int (0), .int (0), .int (0)]))),
  .inr (.inr (.inr (2, [.int (0), .int (0), .int (0), .int (0), .int (0), .int (0)]))),
  .inr (.inr (.inr (2, [.int (0), .int (0), .int (0), .int (0), .int (0), .int (0)]))),
  .inr (.inr (.inr (2, [.int (0), .int (0), .int (0), .int (0), .int (0), .int (0)]))),
  .inr (.inr (.inr (1, [.ref 30, .long (0), .ref 31, .int (0), .ref 32, .int (0), .int (0), .int (0), .int (0), .int (10), .int (16)]))),
  .inl (0, List.replicate 48 0),
  .inr (.inr (.inl (4, [some 33, some 34, some 35, some 36, some 37, some 38, some 39, some 40, some 41, some 42]))),
  .inl (0, List.replicate 9 0),
  .inr (.inr (.inr (2, [.int (0), .int (0), .int (0), .int (0), .int (0), .int (0)]))),
  .inr (.inr (.inr (2, [.int (0), .int (0), .int (0), .int (0), .int (0), .int (0)]))),
  .inr (.inr (.inr (2, [.int (0), .int (0), .int (0), .int (0), .int (0), .int (0)]))),
  .inr (.inr (.inr (2, [.int (0), .int (0), .int (0), .int (0), .int (0), .int (0)]))),
  .inr (.inr (.inr (2, [.int (0), .int (0), .int (0), .int (0), .int (0), .int (0)]))),
  .inr (.inr (.inr (2, [.int (0), .int (0), .int (0), .int (0), .int (0), .int (0)]))),
  .inr (.inr (.inr (2, [.int (0), .int (0), .int (0), .int (0), .int (0), .int (0)]))),
  .inr (.inr (.inr (2, [.int (0), .int (0), .int (0), .int (0), .int (0), .int (0)]))),
  .inr (.inr (.inr (2, [.int (0), .int (0), .int (0), .int (0), .int (0), .int (0)]))),
  .inr (.inr (.inr (2, [.int (0), .int (0), .int (0), .int (0), .int (0), .int (0)]))),
  .inr (.inr (.inr (2, [.int (0), .int (0), .int (0), .int (0), .int (0), .int (0)]))),
  .inr (.inr (.inr (3, [.ref 45, .ref 46, .ref 95]))),
  .inl (0, List.replicate 48 0),
  .inr (.inr (.inl (6, [some 47, some 48, some 49, some 50, some 51, some 52, some 53, some 54, some 55, some 56, some 57, some 58, some 59, some 60, some 61, some 62, some 63, some 64, some 65, some 66, some 67, some 68, some 69, some 70, some 71, some 72, some 73, some 74, some 75, some 76, some 77, some 78, some 79, some 80, some 81, some 82, some 83, some 84, some 85, some 86, some 87, some 88, some 89, some 90, some 91, some 92, some 93, some 94]))),
  .inl (0, List.replicate 48 0),
  .inl (0, List.replicate 48 0),
  .inl (0, List.replicate 48 0),
  .inl (0, List.replicate 48 0),
  .inl (0, List.replicate 48 0),
  .inl (0, List.replicate 48 0),
  .inl (0, List.replicate 48 0),
  .inl (0, List.replicate 48 0),
  .inl (0, List.replicate 48 0),
  .inl (0, List.replicate 48 0),
  .inl (0, List.replicate 48 0),
  .inl (0, List.replicate 48 0),
  .inl (0, List.replicate 48 0),
  .inl (0, List.replicate 48 0),
  .inl (0, List.replicate 48 0),
  .inl (0, List.replicate 48 0),
  .inl (0, List.replicate 48 0),
  .inl (0, List.replicate 48 0),
  .inl (0, List.replicate 48 0),
  .inl (0, List.replicate 48 0),
  .inl (0, List.replicate 48 0),
  .inl (0, List.replicate 48 0),
  .inl (0, List.replicate 48 0),
  .inl (0, List.replicate 48 0),
  .inl (0, List.replicate 48 0),
  .inl (0, List.replicate 48 0),
  .inl (0, List.replicate 48 0),
  .inl (0, List.replicate 48 0),
  .inl (0, List.replicate 48 0),
  .inl (0, List.replicate 48 0),
  .inl (0, List.replicate 48 0),
  .inl (0, List.replicate 48 0),
  .inl (0, List.replicate 48 0),
  .inl (0, List.replicate 48 0),
  .inl (0, List.replicate 48 0),
  .inl (0, List.replicate 48 0),
  .inl (0, List.replicate 48 0),
  .inl (0, List.replicate 48 0),
  .inl (0, List.replicate 48 0),
  .inl (0, List.replicate 48 0),
  .inl (0, List.replicate 48 0),
  .inl (0, List.replicate 48 0),
  .inl (0, List.replicate 48 0),
  .inl (0, List.replicate 48 0),
  .inl (0, List.replicate 48 0),
  .inl (0, List.replicate 48 0),
  .inl (0, List.replicate 48 0),
  .inl (0, List.replicate 48 0),
  .inl (1, List.replicate 48 0),
  .inr (.inr (.inr (4, [.ref 97, .int (0), .int (0), .int (0), .int (0), .int (0)]))),
  .inl (2, List.replicate 120 0),
  .inr (.inr (.inl (5, [some 103, some 105, some 107, some 109]))),
  .inl (0, List.replicate 7 0),
  .inl (0, List.replicate 48 0),
  .inl (0, List.replicate 48 0),
  .inl (0, List.replicate 9 0),
  .inr (.inr (.inr (5, [.ref 104, .int (0), .int (0)]))),
  .inr (.inl (3, List.replicate 40 0)),
  .inr (.inr (.inr (5, [.ref 106, .int (0), .int (0)]))),
  .inr (.inl (3, List.replicate 40 0)),
  .inr (.inr (.inr (5, [.ref 108, .int (0), .int (0)]))),
  .inr (.inl (3, List.replicate 40 0)),
  .inr (.inr (.inr (5, [.ref 110, .int (0), .int (0)]))),
  .inr (.inl (3, List.replicate 40 0))]
noncomputable def sx_wM : List sx_C := [
  .inr (.inr (.inr (6, [.ref 112, .ref 113, .ref 114, .ref 115, .int (0), .ref 116, .ref 117, .ref 118, .ref 119, .ref 120, .ref 121, .int (0), .int (0), .int (0), .int (0), .ref 122, .ref 123, .ref 124, .ref 125]))),
  .inl (0, [0, 0, 0, 0, 0, 10, 16, 0, 0, 0, 0, 0, 0, 0, 0, 0, 0, 0, 0, 0, 0, 0, 0, 0, 0, 0, 0, 0, 0, 0, 0, 0, 0, 0, 0, 0, 0, 0, 0, 0, 0, 0, 0, 0, 0, 0, 0, 0, 0, 0, 0, 0, 0, 0, 0, 0, 0, 0, 0, 0, 0, 0, 0, 0, 0, 0, 0, 0, 0, 0, 0, 0, 0, 0, 0, 0, 0, 0, 0, 0, 0, 0, 0, 0, 0, 0, 0, 0, 0, 0, 0, 0, 0, 0, 0, 0, 0, 0, 0, 0, 0, 0, 0, 0, 0, 0, 0, 0, 0, 0, 0, 0, 0, 0, 0, 0, 0, 0, 0, 0, 0, 0, 0, 0, 0, 0, 0, 0, 0, 0, 0, 0, 0, 0, 0, 0, 0, 0, 0, 0, 0, 0, 0, 0, 0, 0, 0, 0, 0, 0, 0, 0, 0, 0, 0, 0, 0, 0, 0, 0, 0, 0, 0, 0, 0, 0, 0, 0, 0, 0, 0, 0]),
  .inl (0, List.replicate 172 0),
  .inl (0, List.replicate 172 0),
  .inl (0, List.replicate 172 0),
  .inl (0, List.replicate 7 0),
  .inl (0, List.replicate 48 0),
  .inl (1, List.replicate 48 0),
  .inl (0, List.replicate 9 0),
  .inl (1, List.replicate 48 0),
  .inl (0, List.replicate 120 0),
  .inl (0, List.replicate 4 0),
  .inl (0, List.replicate 4 0),
  .inr (.inl (3, List.replicate 160 0)),
  .inr (.inl (3, List.replicate 40 0))]
noncomputable def sx_w0 : List sx_C := sx_wX ++ sx_wM
theorem sx_ctor1 : sx_run true none 2500 7 0 0 (lv_args 0 [.ref 0]) [] [.inr (.inr (.inr (0, sx_df 0)))] = some (none, sx_wX) := sx_is_of (by decide +kernel)
theorem sx_ctor2 : sx_run true none 500 7 129 0 (lv_args 0 [.ref 111]) [] (sx_wX ++ [.inr (.inr (.inr (6, sx_df 6)))]) = some (none, sx_w0) := sx_is_of (by decide +kernel)
theorem sx_w0_len : sx_w0.length = 126 := by decide +kernel
theorem sx_w0_sz : sx_sz sx_w0 ≤ 7302250 := by decide +kernel
end
-- 19b.texts.lean.txt
section
def sx_kx : List Nat := [88, 59, 136, 156, 50, 154, 146, 152, 111, 86, 148, 115, 140, 138, 150, 82, 76, 144, 142, 94]
def sx_km : List Nat := [285, 328, 292, 312, 326, 310, 302, 308, 288, 280, 304, 290, 296, 294, 306, 278, 276, 300, 298, 287]
def sx_qx : List (Nat × Nat × Nat × Nat × Nat × Nat) := [(212, 213, 214, 215, 216, 401), (233, 234, 235, 236, 237, 428), (93, 94, 95, 96, 97, 270), (186, 187, 188, 189, 190, 374), (225, 226, 227, 228, 229, 418), (177, 178, 179, 180, 181, 365), (140, 141, 142, 143, 144, 326), (169, 170, 171, 172, 173, 355), (242, 243, 244, 245, 246, 439), (204, 205, 206, 207, 208, 394), (151, 152, 153, 154, 155, 338), (252, 253, 254, 255, 256, 450), (109, 110, 111, 112, 113, 288), (101, 102, 103, 104, 105, 279), (162, 163, 164, 165, 166, 346), (194, 195, 196, 197, 198, 385), (134, 135, 136, 137, 138, 314), (126, 127, 128, 129, 130, 307), (117, 118, 119, 120, 121, 298), (218, 219, 220, 221, 222, 409)]
def sx_qq (k : Nat) : Nat × Nat × Nat × Nat × Nat × Nat := sx_qx.getD k (0, 0, 0, 0, 0, 0)
def sx_tm (k : Nat) : Term := .string "PeasDrum$Text" (sx_kx.getD k 0)
def sx_tn (k : Nat) : Term := .string "PeasDrumModel" (sx_km.getD k 0)
theorem sx_kSok : (List.range 12).all (fun o => (sx_kS o).all (fun e => decide (lw_tbl[e.2.2]? = some (.stringRef (sx_cn.getD o "") e.1 (sx_tx.getD e.2.1 ""))) && Nat.blt e.2.1 20 && (Nat.beq o 4 && Nat.beq e.1 (sx_kx.getD e.2.1 0) || Nat.beq o 6 && Nat.beq e.1 (sx_km.getD e.2.1 0)))) = true := by decide +kernel
theorem sx_q_ex : ∀ k, k < 20 → (flatC (Jvm.Cond.and given_1 narrow_1))[(sx_qq k).1]? = some (Cond.exactly (sx_tm k) "java/lang/String") := by decide +kernel
theorem sx_q_co : ∀ k, k < 20 → (flatC (Jvm.Cond.and given_1 narrow_1))[(sx_qq k).2.1]? = some (Cond.eq (.field (sx_tm k) "java/lang/String" "coder" "B") (.int 0)) := by decide +kernel
theorem sx_q_ar : ∀ k, k < 20 → (flatC (Jvm.Cond.and given_1 narrow_1))[(sx_qq k).2.2.1]? = some (Cond.arrayOf (.field (sx_tm k) "java/lang/String" "value" "[B") .byte) := by decide +kernel
theorem sx_q_le : ∀ k, k < 20 → (flatC (Jvm.Cond.and given_1 narrow_1))[(sx_qq k).2.2.2.1]? = some (Cond.eq (.length (.field (sx_tm k) "java/lang/String" "value" "[B")) (.int (Int32.ofNat (sx_sn.getD k 0)))) := by decide +kernel
theorem sx_q_eq : ∀ k, k < 20 → (flatC (Jvm.Cond.and given_1 narrow_1))[(sx_qq k).2.2.2.2.2]? = some (Cond.eq (sx_tm k) (sx_tn k)) := by decide +kernel
theorem sx_q_el : ∀ k, k < 20 → ∀ j, j < sx_sn.getD k 0 → (flatC (Jvm.Cond.and given_1 narrow_1))[(sx_qq k).2.2.2.2.1 + j]? = some (Cond.eq (.elem (.field (sx_tm k) "java/lang/String" "value" "[B") (.int (Int32.ofNat j))) (.int ((sx_sb.getD k []).getD j 0))) := by decide +kernel
theorem sx_q_ln : ∀ k, k < 20 → sx_sn.getD k 0 < 2 ^ 31 := by decide +kernel
theorem sx_texts {args : Array Value} {s : State} {h0 : Nat} (hts : ∀ w ∈ lw_tbl, w.before args s = true) (hs : ∀ c ∈ flatC (Jvm.Cond.and given_1 narrow_1), c.before args s = true) (hA : ∀ a : Nat, a < s.heap.size → ¬ sx_A h0 a) : ∃ adK adV : Nat → Nat, ∀ sa : Nat → Nat, (∀ k, k < 20 → sa (100 + k) = adK k ∧ sa (200 + k) = adV k) → sx_TX h0 sa s s.heap := by
  have h0 : ∀ i : Nat, ∃ q : Nat × Nat, i < 20 → (sx_tm i).eval args s none [] s = some (.ref q.1) ∧ va_O "java/lang/String" q.1 (sx_A h0) s s.heap ∧ va_OF "java/lang/String" "coder" "B" (.int 0) q.1 (sx_A h0) s s.heap ∧ va_OF "java/lang/String" "value" "[B" (.ref q.2) q.1 (sx_A h0) s s.heap ∧ va_T .byte q.2 (sx_sn.getD i 0) (fun j => .int ((sx_sb.getD i []).getD j 0)) (sx_A h0) s s.heap := by
    intro i
    by_cases hi : i < 20
    · have hm : ∀ {j : Nat} {c : Cond}, (flatC (Jvm.Cond.and given_1 narrow_1))[j]? = some c → c.before args s = true := fun h => hs _ (List.mem_of_getElem? h)
      obtain ⟨a, c, cA, kA, q1, q2, q3, q4, q5, q6, -⟩ := Cond.exactly_spec (args := args) (first := s) (o := none) (s := s) (idx := []) (t := sx_tm i) (cls := "java/lang/String") (hm (sx_q_ex i hi))
      obtain ⟨t, ht, hT⟩ := va_Tof (f := fun j => .int ((sx_sb.getD i []).getD j 0)) (A := sx_A h0) (sx_q_ln i hi) (hm (sx_q_ar i hi)) (va_eqt (hm (sx_q_le i hi))) (fun j hj => va_eqt (hm (sx_q_el i hi j hj))) hA
      exact ⟨(a, t), fun _ => ⟨q1, ⟨cA, q3, q5, by rw [q6]; exact q2, hA a (Array.getElem?_eq_some_iff.mp q3).1⟩, vk_OFof q1 (va_eqt (hm (sx_q_co i hi))) hA, vk_OFof q1 ht hA, hT⟩⟩
    · exact ⟨(0, 0), fun h => absurd h hi⟩
  obtain ⟨ad, had⟩ := Classical.axiomOfChoice h0
  refine ⟨fun i => (ad i).1, fun i => (ad i).2, fun sa hsa => ⟨?_, ?_, ?_, ?_⟩⟩
  · intro o q hq
    by_cases ho : o < 12
    · have h1 := List.all_eq_true.mp (sx_all sx_kSok ho) _ hq
      simp only [Bool.and_eq_true, Bool.or_eq_true] at h1
      obtain ⟨⟨h2, h3⟩, h4⟩ := h1
      have hk : q.2.1 < 20 := Nat.le_of_ble_eq_true h3
      have hev := (had q.2.1 hk).1
      rw [(hsa q.2.1 hk).1]
      refine vk_R.of (A := args) (hts _ (sx_memp h2)) ?_
      rcases h4 with ⟨h5, h6⟩ | ⟨h5, h6⟩
      · rw [Nat.eq_of_beq_eq_true h5, Nat.eq_of_beq_eq_true h6]
        exact hev
      · rw [Nat.eq_of_beq_eq_true h5, Nat.eq_of_beq_eq_true h6]
        exact va_eqR (hs _ (List.mem_of_getElem? (sx_q_eq q.2.1 hk))) hev
    · have e : sx_kS o = [] := by
        unfold sx_kS
        split
        · omega
        · omega
        · rfl
      rw [e] at hq
      cases hq
  · intro k hk
    rw [(hsa k hk).1, (hsa k hk).2]
    exact (had k hk).2
  · exact va_Zof (hts _ (sx_memp (i := 713) (by decide +kernel))) (hts _ (sx_memp (i := 87) (by decide +kernel))) (va_eqi (hs _ (List.mem_of_getElem? (i := 74) (by decide +kernel)))) hA
  · exact va_Zqof (hts _ (sx_memp (i := 729) (by decide +kernel))) (hts _ (sx_memp (i := 89) (by decide +kernel))) (hs _ (List.mem_of_getElem? (i := 75) (by decide +kernel))) hA
def sx_sa (t0 t1 t2 t3 b : Nat) (adK adV : Nat → Nat) (k : Nat) : Nat := if 200 ≤ k then adV (k - 200) else if 100 ≤ k then adK (k - 100) else match k with
  | 0 => t0
  | 1 => t1
  | 2 => t2
  | 3 => t3
  | _ => b
theorem sx_sa_t {t0 t1 t2 t3 b : Nat} {adK adV : Nat → Nat} : ∀ k, k < 20 → sx_sa t0 t1 t2 t3 b adK adV (100 + k) = adK k ∧ sx_sa t0 t1 t2 t3 b adK adV (200 + k) = adV k := by
  intro k hk
  unfold sx_sa
  rw [if_neg (by omega), if_pos (by omega), if_pos (by omega), Nat.add_sub_cancel_left, Nat.add_sub_cancel_left]
  exact ⟨rfl, rfl⟩
end
-- 20.setup.lean.txt
section
theorem sx_arrP {args : Array Value} {s : State} {ty : FieldType} (h : (Cond.arrayClass ty).before args s = true) : ∃ cA : ClassId, s.vm.findClass ("[" ++ ty.toString) = some cA ∧ ArrOfT s cA ty := by
  have h1 : (Cond.arrayClass ty).value args s none s [] = some true := by
    simpa [Cond.before, Cond.holds] using h
  simp only [Cond.value] at h1
  obtain ⟨k, hk, h2⟩ := Option.map_eq_some_iff.mp h1
  obtain ⟨cA, hc, hk2⟩ := Option.bind_eq_some_iff.mp hk
  cases hkind : k.kind with
  | array comp ty2 =>
    rw [hkind] at h2
    have e : ty2 = ty := of_decide_eq_true h2
    subst e
    exact ⟨cA, hc, fun n z => ⟨fun k9 h9 => (by cases h9), k, hk2, comp, hkind⟩⟩
  | _ => rw [hkind] at h2; cases h2
theorem sx_arrO {args : Array Value} {s : State} {C : String} (h : (Cond.arrayOver (.object C)).before args s = true) : ∃ cA : ClassId, ArrOfT s cA (.object C) ∧ va_RA s cA (.object C) := by
  obtain ⟨comp, c, k, h1, h2, h3, h4, h5⟩ := Cond.arrayOver_spec h
  exact ⟨c, fun n z => ⟨fun k9 h9 => (by cases h9), k, h3, comp, h4⟩, k, comp, h3, h4, h1, h5⟩
theorem sx_arrA {args : Array Value} {s : State} (h : (Cond.arrayOver (.array .int)).before args s = true) : ∃ cA : ClassId, ArrOfT s cA (.array .int) ∧ va_RA s cA (.array .int) := by
  have h1 : (Cond.arrayOver (.array .int)).value args s none s [] = some true := by
    simpa [Cond.before, Cond.holds] using h
  simp only [Cond.value] at h1
  obtain ⟨comp, hc, h2⟩ := Option.bind_eq_some_iff.mp h1
  obtain ⟨c, hi, h3⟩ := Option.bind_eq_some_iff.mp h2
  obtain ⟨k, hk, h4⟩ := Option.map_eq_some_iff.mp h3
  cases hkind : k.kind with
  | array comp2 ty2 =>
    rw [hkind] at h4
    simp only [Bool.and_eq_true] at h4
    have e : ty2 = .array .int := of_decide_eq_true h4.1
    subst e
    have h5 : s.vm.findClass ("[" ++ (FieldType.array .int).toString) = some c := of_decide_eq_true h4.2
    exact ⟨c, fun n z => ⟨fun k9 h9 => (by cases h9), k, hk, comp2, hkind⟩, h5⟩
  | _ => rw [hkind] at h4; cases h4
theorem sx_w_aoG : Cond.arrayOver (.object "PeasDrum$Gallery") ∈ lw_tbl := sx_memp (i := 106) (by decide +kernel)
theorem sx_w_aoS : Cond.arrayOver (.object "PeasDrum$Sheet") ∈ lw_tbl := sx_memp (i := 241) (by decide +kernel)
theorem sx_w_aoA : Cond.arrayOver (.array .int) ∈ lw_tbl := sx_memp (i := 201) (by decide +kernel)
set_option maxRecDepth 20000 in
theorem sx_stat0 {args : Array Value} {s : State} {h0 : Nat} (hts : ∀ w ∈ lw_tbl, w.before args s = true) (hs : ∀ c ∈ flatC (Jvm.Cond.and given_1 narrow_1), c.before args s = true) (hA : ∀ a : Nat, a < s.heap.size → ¬ sx_A h0 a) : ∃ t : Nat, va_Z "PeasDrum$Sound" "CARRIES" "[I" (.ref t) (sx_A h0) s s.heap ∧ va_T .int t 4 (fun j => .int ((sx_st none 0).getD j 0)) (sx_A h0) s s.heap := by
  obtain ⟨t, h1, h2⟩ := va_Tof (tm := .static "PeasDrum$Sound" "CARRIES" "[I") (ty := .int) (N := 4) (f := fun j => .int ((sx_st none 0).getD j 0)) (by decide) (hs _ (List.mem_of_getElem? (i := 5) (by decide +kernel))) (va_eqt (z := Int32.ofNat 4) (hs _ (List.mem_of_getElem? (i := 6) (by decide +kernel)))) (fun j hj => va_eqt (hs _ (va_run (N := 4) (p := 7) (f := fun j => Cond.eq (.elem (.static "PeasDrum$Sound" "CARRIES" "[I") (.int (Int32.ofNat j))) (.int ((sx_st none 0).getD j 0))) (by decide +kernel) j hj))) hA
  exact ⟨t, va_Zref (hts _ (sx_memp (i := 342) (by decide +kernel))) (hts _ (sx_memp (i := 78) (by decide +kernel))) h1 hA, h2⟩
set_option maxRecDepth 20000 in
theorem sx_stat1 {args : Array Value} {s : State} {h0 : Nat} (hts : ∀ w ∈ lw_tbl, w.before args s = true) (hs : ∀ c ∈ flatC (Jvm.Cond.and given_1 narrow_1), c.before args s = true) (hA : ∀ a : Nat, a < s.heap.size → ¬ sx_A h0 a) : ∃ t : Nat, va_Z "PeasDrum$Kinds" "ABOVE" "[I" (.ref t) (sx_A h0) s s.heap ∧ va_T .int t 6 (fun j => .int ((sx_st none 1).getD j 0)) (sx_A h0) s s.heap := by
  obtain ⟨t, h1, h2⟩ := va_Tof (tm := .static "PeasDrum$Kinds" "ABOVE" "[I") (ty := .int) (N := 6) (f := fun j => .int ((sx_st none 1).getD j 0)) (by decide) (hs _ (List.mem_of_getElem? (i := 12) (by decide +kernel))) (va_eqt (z := Int32.ofNat 6) (hs _ (List.mem_of_getElem? (i := 13) (by decide +kernel)))) (fun j hj => va_eqt (hs _ (va_run (N := 6) (p := 14) (f := fun j => Cond.eq (.elem (.static "PeasDrum$Kinds" "ABOVE" "[I") (.int (Int32.ofNat j))) (.int ((sx_st none 1).getD j 0))) (by decide +kernel) j hj))) hA
  exact ⟨t, va_Zref (hts _ (sx_memp (i := 401) (by decide +kernel))) (hts _ (sx_memp (i := 83) (by decide +kernel))) h1 hA, h2⟩
set_option maxRecDepth 20000 in
theorem sx_stat2 {args : Array Value} {s : State} {h0 : Nat} (hts : ∀ w ∈ lw_tbl, w.before args s = true) (hs : ∀ c ∈ flatC (Jvm.Cond.and given_1 narrow_1), c.before args s = true) (hA : ∀ a : Nat, a < s.heap.size → ¬ sx_A h0 a) : ∃ t : Nat, va_Z "PeasDrum$Kinds" "TIMES" "[I" (.ref t) (sx_A h0) s s.heap ∧ va_T .int t 24 (fun j => .int ((sx_st none 2).getD j 0)) (sx_A h0) s s.heap := by
  obtain ⟨t, h1, h2⟩ := va_Tof (tm := .static "PeasDrum$Kinds" "TIMES" "[I") (ty := .int) (N := 24) (f := fun j => .int ((sx_st none 2).getD j 0)) (by decide) (hs _ (List.mem_of_getElem? (i := 21) (by decide +kernel))) (va_eqt (z := Int32.ofNat 24) (hs _ (List.mem_of_getElem? (i := 22) (by decide +kernel)))) (fun j hj => va_eqt (hs _ (va_run (N := 24) (p := 23) (f := fun j => Cond.eq (.elem (.static "PeasDrum$Kinds" "TIMES" "[I") (.int (Int32.ofNat j))) (.int ((sx_st none 2).getD j 0))) (by decide +kernel) j hj))) hA
  exact ⟨t, va_Zref (hts _ (sx_memp (i := 417) (by decide +kernel))) (hts _ (sx_memp (i := 83) (by decide +kernel))) h1 hA, h2⟩
set_option maxRecDepth 20000 in
theorem sx_stat3 {args : Array Value} {s : State} {h0 : Nat} (hts : ∀ w ∈ lw_tbl, w.before args s = true) (hs : ∀ c ∈ flatC (Jvm.Cond.and given_1 narrow_1), c.before args s = true) (hA : ∀ a : Nat, a < s.heap.size → ¬ sx_A h0 a) : ∃ t : Nat, va_Z "PeasDrum$Kinds" "LOUDS" "[I" (.ref t) (sx_A h0) s s.heap ∧ va_T .int t 24 (fun j => .int ((sx_st none 3).getD j 0)) (sx_A h0) s s.heap := by
  obtain ⟨t, h1, h2⟩ := va_Tof (tm := .static "PeasDrum$Kinds" "LOUDS" "[I") (ty := .int) (N := 24) (f := fun j => .int ((sx_st none 3).getD j 0)) (by decide) (hs _ (List.mem_of_getElem? (i := 48) (by decide +kernel))) (va_eqt (z := Int32.ofNat 24) (hs _ (List.mem_of_getElem? (i := 49) (by decide +kernel)))) (fun j hj => va_eqt (hs _ (va_run (N := 24) (p := 50) (f := fun j => Cond.eq (.elem (.static "PeasDrum$Kinds" "LOUDS" "[I") (.int (Int32.ofNat j))) (.int ((sx_st none 3).getD j 0))) (by decide +kernel) j hj))) hA
  exact ⟨t, va_Zref (hts _ (sx_memp (i := 426) (by decide +kernel))) (hts _ (sx_memp (i := 83) (by decide +kernel))) h1 hA, h2⟩
theorem sx_nests : ∀ o, ∀ q ∈ sx_mn o, Cond.methodLinkNest (sx_cn.getD o "") q.1 (sx_M q.2.1).1 "PeasDrum" ∈ lw_tbl := by
  intro o q hq
  by_cases ho : o < 12
  · have h1 := List.all_eq_true.mp (sx_all sx_nok ho) _ hq
    rw [Bool.and_eq_true] at h1
    exact sx_memp h1.2
  · have e : sx_mn o = [] := by
      unfold sx_mn
      split
      · omega
      · omega
      · rfl
    rw [e] at hq
    cases hq
theorem sx_setup {args : Array Value} {s : State} {b L : Nat} {xs : Nat → Int32} (hL : L < 2 ^ 31) (hts : ∀ w ∈ lw_tbl, w.before args s = true) (hs : ∀ c ∈ flatC (Jvm.Cond.and given_1 narrow_1), c.before args s = true) (hX : va_X b L xs s s.heap) (hb : b < s.heap.size) : ∃ (D : va_G) (dA : Nat → ClassId) (sa : Nat → Nat), sx_G D dA s.heap.size sa (some ((List.range L).map xs)) s s.heap ∧ sa 4 = b := by
  have hA : ∀ a : Nat, a < s.heap.size → ¬ sx_A s.heap.size a := fun a h => Nat.not_le.mpr h
  have htw : ∀ w ∈ sx_tw, w.before args s = true := fun w h => hts w (sx_twg w h).1
  obtain ⟨c0, iS0, hK0⟩ := u_known (C := "PeasDrum") (T := sx_T0) (N := 12) (n := 12) htw sx_c0.1 (htw _ sx_c0.2.2.2.1)
  obtain ⟨c1, iS1, hK1⟩ := u_known (C := "PeasDrum$Camp") (T := sx_T1) (N := 11) (n := 11) htw sx_c1.1 (htw _ sx_c1.2.2.2.1)
  obtain ⟨c2, iS2, hK2⟩ := u_known (C := "PeasDrum$Gallery") (T := sx_T2) (N := 6) (n := 6) htw sx_c2.1 (htw _ sx_c2.2.2.2.1)
  obtain ⟨c3, iS3, hK3⟩ := u_known (C := "PeasDrum$Sound") (T := sx_T3) (N := 3) (n := 3) htw sx_c3.1 (htw _ sx_c3.2.2.2.1)
  obtain ⟨c4, iS4, hK4⟩ := u_known (C := "PeasDrum$Text") (T := sx_T4) (N := 6) (n := 6) htw sx_c4.1 (htw _ sx_c4.2.2.2.1)
  obtain ⟨c5, iS5, hK5⟩ := u_known (C := "PeasDrum$Sheet") (T := sx_T5) (N := 3) (n := 3) htw sx_c5.1 (htw _ sx_c5.2.2.2.1)
  obtain ⟨c6, iS6, hK6⟩ := u_known (C := "PeasDrumModel") (T := sx_T6) (N := 19) (n := 19) htw sx_c6.1 (htw _ sx_c6.2.2.2.1)
  obtain ⟨aI, fI, hI⟩ := sx_arrP (htw _ sx_w_acI)
  obtain ⟨aZ, fZ, hZ⟩ := sx_arrP (htw _ sx_w_acZ)
  obtain ⟨aB, fB, hB⟩ := sx_arrP (htw _ sx_w_acB)
  obtain ⟨aJ, fJ, hJ⟩ := sx_arrP (htw _ sx_w_acJ)
  obtain ⟨aG, hG1, hG2⟩ := sx_arrO (hts _ sx_w_aoG)
  obtain ⟨aS, hS1, hS2⟩ := sx_arrO (hts _ sx_w_aoS)
  obtain ⟨aA, hA1, hA2⟩ := sx_arrA (hts _ sx_w_aoA)
  obtain ⟨t0, z0, y0⟩ := sx_stat0 hts hs hA
  obtain ⟨t1, z1, y1⟩ := sx_stat1 hts hs hA
  obtain ⟨t2, z2, y2⟩ := sx_stat2 hts hs hA
  obtain ⟨t3, z3, y3⟩ := sx_stat3 hts hs hA
  obtain ⟨adK, adV, hTX⟩ := sx_texts hts hs hA
  refine ⟨(fun k => match k with | 0 => c0 | 1 => c1 | 2 => c2 | 3 => c3 | 4 => c4 | 5 => c5 | _ => c6, fun k => match k with | 0 => iS0 | 1 => iS1 | 2 => iS2 | 3 => iS3 | 4 => iS4 | 5 => iS5 | _ => iS6), fun k => match k with | 0 => aI | 1 => aZ | 2 => aB | 3 => aJ | 4 => aG | 5 => aS | _ => aA, sx_sa t0 t1 t2 t3 b adK adV, ⟨⟨?_, ?_⟩, ?_, ?_, hts _ sx_w_aoG, hts _ sx_w_aoS, hts _ sx_w_aoA, fun o q hq => va_Nw.of rfl (hts _ (sx_nests o q hq)), hTX _ sx_sa_t⟩, rfl⟩
  · intro k q hq
    match k, hq with
    | 0, hq => cases hq; exact hK0
    | 1, hq => cases hq; exact hK1
    | 2, hq => cases hq; exact hK2
    | 3, hq => cases hq; exact hK3
    | 4, hq => cases hq; exact hK4
    | 5, hq => cases hq; exact hK5
    | 6, hq => cases hq; exact hK6
    | k + 7, hq => simp [sx_cl] at hq
  · intro k q hq
    match k, hq with
    | 0, hq => cases hq; exact ⟨hI, fI⟩
    | 1, hq => cases hq; exact ⟨hZ, fZ⟩
    | 2, hq => cases hq; exact ⟨hB, fB⟩
    | 3, hq => cases hq; exact ⟨hJ, fJ⟩
    | 4, hq => cases hq; exact ⟨hG1, hG2⟩
    | 5, hq => cases hq; exact ⟨hS1, hS2⟩
    | 6, hq => cases hq; exact ⟨hA1, hA2⟩
    | k + 7, hq => simp [sx_tys] at hq
  · intro k hk
    match k, hk with
    | 0, _ => exact z0
    | 1, _ => exact z1
    | 2, _ => exact z2
    | 3, _ => exact z3
    | k + 4, hk => omega
  · intro k hk
    match k, hk with
    | 0, _ => exact y0
    | 1, _ => exact y1
    | 2, _ => exact y2
    | 3, _ => exact y3
    | 4, _ =>
      obtain ⟨scr, h1, h2, h3, h4, h5⟩ := hX
      have e1 : (sx_st (some ((List.range L).map xs)) 4).length = L := by
        show ((List.range L).map xs).length = L
        rw [List.length_map, List.length_range]
      refine ⟨scr, h1, h2, h3, by rw [e1, h4]; exact Nat.le_refl _, by rw [e1, h4], fun j hj => ?_, hA b hb⟩
      rw [e1] at hj
      rw [h5 j hj]
      show some (Value.int (xs j)) = some (.int (((List.range L).map xs).getD j 0))
      rw [List.getD_eq_getElem?_getD, List.getElem?_map, List.getElem?_range hj]
      rfl
    | k + 5, hk => omega
end
-- 21.start.lean.txt
section
def R_law : String := "PeasDrumLaw"
def lw_P (b : Addr) (xs : List Int32) (args : Array Value) (s : State) : Prop := args = #[.ref b] ∧ s.IntsAt b xs ∧ xs.length ≤ 3072 ∧ (Jvm.Cond.and given_1 narrow_1).before args s = true
def lw_Q (_ : Array Value) (s : State) (o : Outcome) (t : State) : Prop := o = .returned (some (.int 1)) ∧ Framed s o t [] 600000 7302250
def lw_Z (below : List Frame) (a : Array Value) (s : State) : State → Prop := fun t => ∃ o, t.status = .running ∧ Ended t below o ∧ lw_Q a s o t
theorem lw_ret {p : Program} {l : Launch} {e : Env} {s : State} {m : MethodId} {below : List Frame} {meth : Method} {c : Code} {b : Nat} (hx : p.tables.exec = Jvm.exec) (hb : c.code = code) (hr : meth.sig.returnType = ret) (hlocks : meth.locks = false) {pc : Nat} {H : Heap} {ls : Array Slot} (hdg : decode code pc = .ok (.ireturn, 1)) : W p l e room_1 s m #[Value.ref b] below meth c H [] 600000 7302250 (lw_Z below #[Value.ref b] s) (F0 m pc ls [.int 1]) := by
  intro T hT X
  obtain ⟨fs, hret, hrun, hended, hW, hframe⟩ := X.leave (v := some (.int 1)) (hlocks := hlocks) (fun h => by rw [hr] at h; cases h)
  have hmeth' : T.vm.method? m = some meth := X.method'
  refine ⟨T.setFrames fs, ?_, .returned (some (.int 1)), hrun, hended, rfl, ⟨_, rfl⟩, hW, hframe⟩
  jvm_step X.here [X.here.top, hx, hb, hdg, hmeth', hr, ret, narrow_b1]
  (try refine ⟨rfl, ?_⟩); (try refine ⟨rfl, ?_⟩)
  first | (intro acts; rw [hret _ acts rfl rfl rfl]) | rw [hret _ _ rfl rfl rfl]
  exact Steps.refl _
def lw_At (p : Program) (s : State) (m : MethodId) (meth : Method) (c : Code) (b L : Nat) (xs : Nat → Int32) : Prop :=
  p.tables.exec = Jvm.exec ∧ c.code = code ∧ meth.sig.returnType = ret ∧ c.maxLocals = 4 ∧ s.vm.findClass R_law = some m.cls ∧ (∀ w ∈ lw_tbl, w.before #[Value.ref b] s = true) ∧ va_X b L xs s s.heap ∧ b < s.heap.size ∧ meth.locks = false ∧ (Jvm.Cond.and given_1 narrow_1).before #[Value.ref b] s = true
def sx_l3 : sx_L := [(3, .int 0), (2, .ref 111), (1, .ref 0), (0, .float 4)]
def sx_LAW : Prop := ∀ ys : List Int32, ys.length ≤ 3072 → ∃ w2, sx_RU (some ys) 9 246 18 sx_l3 [] sx_w0 (some (.int 1)) w2
theorem sx_retlaw {i : Instr} {st : List Value} (h : sx_ret 246 i st = some (some (.int 1))) : i = .ireturn ∧ st = [.int 1] := by
  unfold sx_ret at h
  split at h
  · cases h
    exact ⟨rfl, rfl⟩
  · rename_i v he
    cases hb : (v == 0 || v == 1) with
    | false => rw [hb] at h; cases h
    | true =>
      rw [hb] at h
      cases h
      exact ⟨rfl, rfl⟩
  · cases h
  · cases h
  · cases h
  · cases h
  · cases h
  · cases h
set_option maxRecDepth 20000 in
set_option maxHeartbeats 4000000 in
theorem sx_start (hLaw : sx_LAW) {p : Program} {e : Env} {s : State} {m : MethodId} {below : List Frame} {meth : Method} {c : Code} (l : Launch) {b L : Nat} {xs : Nat → Int32} (hL : L ≤ 3072) (C0 : lw_At p s m meth c b L xs) : W p l e room_1 s m #[Value.ref b] below meth c s.heap [] 0 0 (lw_Z below #[Value.ref b] s) (entryFrame m ([Value.ref b] : List Value).toArray 4) := by
  obtain ⟨hx, hb, hr, hml, hown, hts, hX, hbl, hlocks, hgv⟩ := id C0
  have hs := flat_of_before _ hgv
  obtain ⟨D, dA, sa, hG, hsa⟩ := sx_setup (by omega) hts hs hX hbl
  generalize hys : (List.range L).map xs = ys at hG
  have hlen : ys.length ≤ 3072 := by rw [← hys, List.length_map, List.length_range]; exact hL
  obtain ⟨w2, f, hrun⟩ := hLaw ys hlen
  have hM : sx_MNA := ⟨@sx_mna_ok, @sx_str_ok⟩
  have htw : ∀ w ∈ sx_tw, w.before #[Value.ref b] s = true := fun w h => hts w (sx_twg w h).1
  have hm7 : (246 : Nat) < 247 := by decide
  have X : sx_Ctx p s m #[Value.ref b] meth c room_1 D dA s.heap.size sa (some ys) 246 8 := ⟨hx, hb, hml, hown, htw, fun h => absurd h (by decide), Nat.le_of_ble_eq_true rfl, Nat.le_of_ble_eq_true rfl, hG, Nat.le_refl _, hm7⟩
  have hCt := (sx_sound hM l D dA s.heap.size sa (some ys) true 2500).1
  have hCt2 := (sx_sound hM l D dA s.heap.size sa (some ys) true 500).1
  have hBf := (sx_sound hM l D dA s.heap.size sa (some ys) false f).2
  have K18f := hBf p e room_1 s m #[Value.ref b] below meth c (lw_Z below #[Value.ref b] s) 126 (sx_sz sx_w0) 9 246 18 sx_l3 [] sx_w0 (some (.int 1)) w2 X hrun ⟨Nat.le_of_ble_eq_true rfl, sx_w0_sz⟩ (by
    intro H locs lsA pc st i hd hret hP hS
    obtain ⟨rfl, rfl⟩ := sx_retlaw hret
    refine va_forget (fun q hq => hS.2.2 q hq) ?_
    refine W.widen (k := 600000) (n := 7302250) (Nat.le_of_ble_eq_true rfl) sx_w0_sz ?_
    exact lw_ret hx hb hr hlocks hd)
  have K18 : sx_J p l e room_1 s m #[Value.ref b] below meth c D dA s.heap.size sa true 0 0 (sx_maxL 246) (lw_Z below #[Value.ref b] s) (18, sx_l3, [], sx_w0) := by
    intro H locs lsA hP hS hl h1 h2
    have K1 := K18f H locs lsA ⟨hP.1, fun h => by cases h⟩ hS hl (by rw [sx_w0_len]; exact Nat.le_refl _) (Nat.le_refl _)
    have e1 : sx_ck true 0 sx_w0 = 126 := by unfold sx_ck; rw [cond_true, sx_w0_len]
    have e2 : sx_cs true 0 sx_w0 = sx_sz sx_w0 := by unfold sx_cs; rw [cond_true, Nat.sub_zero]
    show W p l e room_1 s m #[Value.ref b] below meth c H locs (sx_ck true 0 sx_w0) (sx_cs true 0 sx_w0) _ _
    rw [e1, e2]
    exact K1
  have hR0 : sx_ck true 0 sx_w0 ≤ room_1.cells ∧ sx_cs true 0 sx_w0 ≤ room_1.slots := ⟨by unfold sx_ck; rw [cond_true, sx_w0_len]; exact Nat.le_of_ble_eq_true rfl, by unfold sx_cs; rw [cond_true, Nat.sub_zero]; exact sx_w0_sz⟩
  have hRX : ∀ w : List sx_C, sx_ext w sx_w0 → sx_ck true 0 w ≤ room_1.cells ∧ sx_cs true 0 w ≤ room_1.slots := fun w hw => ⟨Nat.le_trans (sx_ck_le (fun _ => hw)) hR0.1, Nat.le_trans (sx_cs_le (fun _ => hw)) hR0.2⟩
  have x0 : sx_ext sx_w0 sx_w0 := sx_ext.rf _
  have r2 := sx_lift_run true ys _ _ _ _ _ _ _ _ _ sx_ctor2
  have r1 := sx_lift_run true ys _ _ _ _ _ _ _ _ _ sx_ctor1
  have x2 : sx_ext (sx_wX ++ [.inr (.inr (.inr (6, sx_df 6)))]) sx_w0 := sx_x_run true (some ys) _ _ _ _ _ _ _ _ _ r2
  have x1 : sx_ext sx_wX sx_w0 := sx_ext.app _ _
  have xA : sx_ext [.inr (.inr (.inr (0, sx_df 0)))] sx_wX := sx_x_run true (some ys) _ _ _ _ _ _ _ _ _ r1
  have K17 := sx_step_ok hM (i := .istore_n 3) (n := 1) (st := [.int 0]) (ls := [(2, .ref 111), (1, .ref 0), (0, .float 4)]) X (sx_decs hm7 (pc := 17) rfl) (fun hz => absurd (show false = true from hz) (by decide)) (by rfl) (hRX sx_w0 x0) K18
  have K16 := sx_step_ok hM (i := .iconst 0) (n := 1) (st := []) (ls := [(2, .ref 111), (1, .ref 0), (0, .float 4)]) X (sx_decs hm7 (pc := 16) rfl) (fun hz => absurd (show false = true from hz) (by decide)) (by rfl) (hRX sx_w0 x0) K17
  have K15 := sx_step_ok hM (i := .astore_n 2) (n := 1) (st := [.ref 111]) (ls := [(1, .ref 0), (0, .float 4)]) X (sx_decs hm7 (pc := 15) rfl) (fun hz => absurd (show false = true from hz) (by decide)) (by rfl) (hRX sx_w0 x0) K16
  have K12 := sx_callI (idx := 12) (mi2 := 129) (as := [.ref 111]) (rest := [.ref 111]) (r := none) (st := [.ref 111, .ref 111]) (pc := 12) (ls := [(1, .ref 0), (0, .float 4)]) X (show sx_ins 246 12 = some (.invokespecial 12, 3) from rfl) rfl (w := sx_wX ++ [.inr (.inr (.inr (6, sx_df 6)))]) rfl hCt2 (by decide +kernel) r2 x2 (hRX sx_w0 x0) K15
  have K11 := sx_step_ok hM (i := .dup) (n := 1) (st := [.ref 111]) (ls := [(1, .ref 0), (0, .float 4)]) X (sx_decs hm7 (pc := 11) rfl) (fun hz => absurd (show false = true from hz) (by decide)) (by rfl) (hRX _ x2) K12
  have K8 := sx_step_ok hM (i := .new 10) (n := 3) (st := []) (w := sx_wX) (ls := [(1, .ref 0), (0, .float 4)]) X (sx_decs hm7 (pc := 8) rfl) (fun hz => absurd (show false = true from hz) (by decide)) (by rfl) (hRX _ x2) K11
  have K7 := sx_step_ok hM (i := .astore_n 1) (n := 1) (st := [.ref 0]) (ls := [(0, .float 4)]) X (sx_decs hm7 (pc := 7) rfl) (fun hz => absurd (show false = true from hz) (by decide)) (by rfl) (hRX sx_wX x1) K8
  have K4 := sx_callI (idx := 9) (mi2 := 0) (as := [.ref 0]) (rest := [.ref 0]) (r := none) (st := [.ref 0, .ref 0]) (pc := 4) (ls := [(0, .float 4)]) X (show sx_ins 246 4 = some (.invokespecial 9, 3) from rfl) rfl (w := [.inr (.inr (.inr (0, sx_df 0)))]) rfl hCt (by decide +kernel) r1 xA (hRX _ x1) K7
  have K3 := sx_step_ok hM (i := .dup) (n := 1) (st := [.ref 0]) (ls := [(0, .float 4)]) X (sx_decs hm7 (pc := 3) rfl) (fun hz => absurd (show false = true from hz) (by decide)) (by rfl) (hRX _ (xA.tr x1)) K4
  have K0 := sx_step_ok hM (i := .new 7) (n := 3) (st := []) (w := []) (ls := [(0, .float 4)]) X (sx_decs hm7 (pc := 0) rfl) (fun hz => absurd (show false = true from hz) (by decide)) (by rfl) (hRX _ (xA.tr x1)) K3
  have hl := lv_entry ([.ref b]) (n := 4) (Nat.le_of_ble_eq_true rfl)
  rw [lg_entry_eq]
  generalize (lg_sl ([.ref b]) ++ List.replicate (4 - (lg_sl ([.ref b])).length) Slot.unset).toArray = lsA at hl ⊢
  have hl2 : lv_has lsA (sx_maxL 246) ([(0, Value.float 4)].map (sx_q s.heap.size sa)) := by
    show lv_has lsA 4 [(0, .ref (sa 4))]
    rw [hsa]
    exact hl
  have hP : sx_P D dA s.heap.size sa true [] s.heap := ⟨fun k q h => by simp [sx_W] at h, fun _ => rfl⟩
  exact K0 s.heap [] lsA hP va_S.rf hl2 (Nat.le_refl _) (Nat.le_refl _)
end
-- 22.leaf.lean.txt
section
section SXT
variable {xs : Option (List Int32)} {d mi pc : Nat} {ls : sx_L} {st : List Value} {w : List sx_C} {r : Option Value} {w2 : List sx_C}
theorem sx_RU.br {i : Instr} {n : Nat} {b : Bool} {p1 p2 : Nat} {l1 l2 : sx_L} {s1 s2 : List Value} {v1 v2 : List sx_C} (hi : sx_ins mi pc = some (i, n)) (hs : sx_step false xs mi pc i n ls st w = cond b (some (p1, l1, s1, v1)) (some (p2, l2, s2, v2))) (k1 : b = true → sx_RU xs d mi p1 l1 s1 v1 r w2) (k2 : b = false → sx_RU xs d mi p2 l2 s2 v2 r w2) : sx_RU xs d mi pc ls st w r w2 := by
  cases b with
  | true => exact sx_RU.step hi hs (k1 rfl)
  | false => exact sx_RU.step hi hs (k2 rfl)
end SXT
theorem sx_lt48 {c : Int32} {a b : Int32} (h : b.toInt = a.toInt + 1) : c < b ↔ c ≤ a := by
  rw [Int32.lt_iff_toInt_lt, Int32.le_iff_toInt_le]
  omega
theorem cx_7 (xs : Option (List Int32)) (d : Nat) (w : List sx_C) (c : Int32) : sx_RU xs d 7 0 (lv_args 0 [.int c]) [] w (some (.int (if 0 ≤ c ∧ c ≤ 47 then 1 else 0))) w := by
  refine sx_RU.step rfl rfl ?_
  refine sx_RU.br rfl rfl (fun h1 => ?_) (fun h1 => ?_)
  · refine sx_RU.step rfl rfl ?_
    rw [if_neg (fun q => absurd (of_decide_eq_true h1) (Int32.not_lt.mpr q.1))]
    exact sx_RU.ret rfl rfl
  · refine sx_RU.step rfl rfl ?_
    refine sx_RU.step rfl rfl ?_
    refine sx_RU.br rfl rfl (fun h2 => ?_) (fun h2 => ?_)
    · refine sx_RU.step rfl rfl ?_
      rw [if_neg (fun q => absurd ((sx_lt48 (b := 48) rfl).mpr q.2) (Int32.not_lt.mpr (of_decide_eq_true h2)))]
      exact sx_RU.ret rfl rfl
    · refine sx_RU.step rfl rfl ?_
      refine sx_RU.step rfl rfl ?_
      rw [if_pos ⟨Int32.not_lt.mp (of_decide_eq_false h1), (sx_lt48 (b := 48) rfl).mp (Int32.not_le.mp (of_decide_eq_false h2))⟩]
      exact sx_RU.ret rfl rfl
theorem cx_22 (xs : Option (List Int32)) (d : Nat) (w : List sx_C) (c : Int32) : sx_RU xs d 22 0 (lv_args 0 [.int c]) [] w (some (.int (if 0 ≤ c ∧ c ≤ 5 then 1 else 0))) w := by
  refine sx_RU.step rfl rfl ?_
  refine sx_RU.br rfl rfl (fun h1 => ?_) (fun h1 => ?_)
  · refine sx_RU.step rfl rfl ?_
    rw [if_neg (fun q => absurd (of_decide_eq_true h1) (Int32.not_lt.mpr q.1))]
    exact sx_RU.ret rfl rfl
  · refine sx_RU.step rfl rfl ?_
    refine sx_RU.step rfl rfl ?_
    refine sx_RU.br rfl rfl (fun h2 => ?_) (fun h2 => ?_)
    · refine sx_RU.step rfl rfl ?_
      rw [if_neg (fun q => absurd ((sx_lt48 (b := 6) rfl).mpr q.2) (Int32.not_lt.mpr (of_decide_eq_true h2)))]
      exact sx_RU.ret rfl rfl
    · refine sx_RU.step rfl rfl ?_
      refine sx_RU.step rfl rfl ?_
      rw [if_pos ⟨Int32.not_lt.mp (of_decide_eq_false h1), (sx_lt48 (b := 6) rfl).mp (Int32.not_le.mp (of_decide_eq_false h2))⟩]
      exact sx_RU.ret rfl rfl
theorem cx_23 (xs : Option (List Int32)) (d : Nat) (w : List sx_C) (c : Int32) : sx_RU xs d 23 0 (lv_args 0 [.int c]) [] w (some (.int (if 0 ≤ c ∧ c ≤ 3 then 1 else 0))) w := by
  refine sx_RU.step rfl rfl ?_
  refine sx_RU.br rfl rfl (fun h1 => ?_) (fun h1 => ?_)
  · refine sx_RU.step rfl rfl ?_
    rw [if_neg (fun q => absurd (of_decide_eq_true h1) (Int32.not_lt.mpr q.1))]
    exact sx_RU.ret rfl rfl
  · refine sx_RU.step rfl rfl ?_
    refine sx_RU.step rfl rfl ?_
    refine sx_RU.br rfl rfl (fun h2 => ?_) (fun h2 => ?_)
    · refine sx_RU.step rfl rfl ?_
      rw [if_neg (fun q => absurd ((sx_lt48 (b := 4) rfl).mpr q.2) (Int32.not_lt.mpr (of_decide_eq_true h2)))]
      exact sx_RU.ret rfl rfl
    · refine sx_RU.step rfl rfl ?_
      refine sx_RU.step rfl rfl ?_
      rw [if_pos ⟨Int32.not_lt.mp (of_decide_eq_false h1), (sx_lt48 (b := 4) rfl).mp (Int32.not_le.mp (of_decide_eq_false h2))⟩]
      exact sx_RU.ret rfl rfl
theorem cx_8 (xs : Option (List Int32)) (d : Nat) (w : List sx_C) (v lo hi : Int32) : sx_RU xs d 8 0 (lv_args 0 [.int v, .int lo, .int hi]) [] w (some (.int (if lo ≤ v ∧ v ≤ hi then 1 else 0))) w := by
  refine sx_RU.step rfl rfl ?_
  refine sx_RU.step rfl rfl ?_
  refine sx_RU.br rfl rfl (fun h1 => ?_) (fun h1 => ?_)
  · refine sx_RU.step rfl rfl ?_
    rw [if_neg (fun q => absurd (of_decide_eq_true h1) (Int32.not_lt.mpr q.1))]
    exact sx_RU.ret rfl rfl
  · refine sx_RU.step rfl rfl ?_
    refine sx_RU.step rfl rfl ?_
    refine sx_RU.br rfl rfl (fun h2 => ?_) (fun h2 => ?_)
    · refine sx_RU.step rfl rfl ?_
      rw [if_neg (fun q => absurd (of_decide_eq_true h2) (Int32.not_lt.mpr q.2))]
      exact sx_RU.ret rfl rfl
    · refine sx_RU.step rfl rfl ?_
      refine sx_RU.step rfl rfl ?_
      rw [if_pos ⟨Int32.not_lt.mp (of_decide_eq_false h1), Int32.not_lt.mp (of_decide_eq_false h2)⟩]
      exact sx_RU.ret rfl rfl
theorem cx_132 (xs : Option (List Int32)) (d : Nat) (w : List sx_C) (v lo hi : Int32) : sx_RU xs d 132 0 (lv_args 0 [.int v, .int lo, .int hi]) [] w (some (.int (if lo ≤ v ∧ v ≤ hi then 1 else 0))) w := by
  refine sx_RU.step rfl rfl ?_
  refine sx_RU.step rfl rfl ?_
  refine sx_RU.br rfl rfl (fun h1 => ?_) (fun h1 => ?_)
  · refine sx_RU.step rfl rfl ?_
    rw [if_neg (fun q => absurd (of_decide_eq_true h1) (Int32.not_lt.mpr q.1))]
    exact sx_RU.ret rfl rfl
  · refine sx_RU.step rfl rfl ?_
    refine sx_RU.step rfl rfl ?_
    refine sx_RU.br rfl rfl (fun h2 => ?_) (fun h2 => ?_)
    · refine sx_RU.step rfl rfl ?_
      rw [if_neg (fun q => absurd (of_decide_eq_true h2) (Int32.not_lt.mpr q.2))]
      exact sx_RU.ret rfl rfl
    · refine sx_RU.step rfl rfl ?_
      refine sx_RU.step rfl rfl ?_
      rw [if_pos ⟨Int32.not_lt.mp (of_decide_eq_false h1), Int32.not_lt.mp (of_decide_eq_false h2)⟩]
      exact sx_RU.ret rfl rfl
end
-- 27.rp.lean.txt
section
def sx_RP (xs : Option (List Int32)) (d mi pc : Nat) (ls : sx_L) (st : List Value) (w : List sx_C) (P : Option Value → List sx_C → Prop) : Prop := ∃ r w2, sx_RU xs d mi pc ls st w r w2 ∧ P r w2
section SXP
variable {xs : Option (List Int32)} {d mi pc : Nat} {ls : sx_L} {st : List Value} {w : List sx_C} {P : Option Value → List sx_C → Prop}
theorem sx_RP.step {i : Instr} {n pc2 : Nat} {ls2 : sx_L} {st2 : List Value} {w3 : List sx_C} (hi : sx_ins mi pc = some (i, n)) (hs : sx_step false xs mi pc i n ls st w = some (pc2, ls2, st2, w3)) (k : sx_RP xs d mi pc2 ls2 st2 w3 P) : sx_RP xs d mi pc ls st w P := by
  obtain ⟨r, w2, h, hp⟩ := k
  exact ⟨r, w2, sx_RU.step hi hs h, hp⟩
theorem sx_RP.br {i : Instr} {n : Nat} {b : Bool} {p1 p2 : Nat} {l1 l2 : sx_L} {s1 s2 : List Value} {v1 v2 : List sx_C} (hi : sx_ins mi pc = some (i, n)) (hs : sx_step false xs mi pc i n ls st w = cond b (some (p1, l1, s1, v1)) (some (p2, l2, s2, v2))) (k1 : b = true → sx_RP xs d mi p1 l1 s1 v1 P) (k2 : b = false → sx_RP xs d mi p2 l2 s2 v2 P) : sx_RP xs d mi pc ls st w P := by
  cases b with
  | true => exact sx_RP.step hi hs (k1 rfl)
  | false => exact sx_RP.step hi hs (k2 rfl)
theorem sx_RP.ret {i : Instr} {r : Option Value} (hi : sx_ins mi pc = some (i, 1)) (hr : sx_ret mi i st = some r) (k : P r w) : sx_RP xs d mi pc ls st w P := ⟨r, w, sx_RU.ret hi hr, k⟩
theorem sx_RP.callu {i : Instr} {mi2 : Nat} {as rest : List Value} {r2 : Option Value} {w4 : List sx_C} (hi : sx_ins mi pc = some (i, 3)) (hs : sx_step false xs mi pc i 3 ls st w = none) (hv : sx_inv mi i st w = some (mi2, as, rest)) (hm : Nat.ble (as.map (fun v => v.category)).sum (sx_maxL mi2) = true) (hc : sx_RU xs d mi2 0 (lv_args 0 as) [] w r2 w4) (k : sx_RP xs (d + 1) mi (pc + 3) ls (r2.toList ++ rest) w4 P) : sx_RP xs (d + 1) mi pc ls st w P := by
  obtain ⟨r, w2, h, hp⟩ := k
  exact ⟨r, w2, sx_RU.call hi hs hv hm hc h, hp⟩
theorem sx_RP.call {i : Instr} {mi2 : Nat} {as rest : List Value} (hi : sx_ins mi pc = some (i, 3)) (hs : sx_step false xs mi pc i 3 ls st w = none) (hv : sx_inv mi i st w = some (mi2, as, rest)) (hm : Nat.ble (as.map (fun v => v.category)).sum (sx_maxL mi2) = true) (k : sx_RP xs d mi2 0 (lv_args 0 as) [] w (fun r2 w4 => sx_RP xs (d + 1) mi (pc + 3) ls (r2.toList ++ rest) w4 P)) : sx_RP xs (d + 1) mi pc ls st w P := by
  obtain ⟨r2, w4, h, hp⟩ := k
  exact sx_RP.callu hi hs hv hm h hp
theorem sx_RP.cu {i : Instr} {mi2 : Nat} {as rest rest2 st3 : List Value} {r2 : Option Value} {w4 : List sx_C} (hi : sx_ins mi pc = some (i, 3)) (hs : sx_step false xs mi pc i 3 ls st w = none) (hv : sx_inv mi i st w = some (mi2, as, rest)) (hm : Nat.ble (as.map (fun v => v.category)).sum (sx_maxL mi2) = true) (hr : rest = rest2) (hc : sx_RU xs d mi2 0 (lv_args 0 as) [] w r2 w4) (h3 : r2.toList ++ rest2 = st3) (k : sx_RP xs (d + 1) mi (pc + 3) ls st3 w4 P) : sx_RP xs (d + 1) mi pc ls st w P := by
  subst hr
  subst h3
  exact sx_RP.callu hi hs hv hm hc k
theorem sx_RP.at {pc2 : Nat} (hp : pc = pc2) (k : sx_RP xs d mi pc2 ls st w P) : sx_RP xs d mi pc ls st w P := by
  subst hp
  exact k
theorem sx_RP.mono {P2 : Option Value → List sx_C → Prop} (h : sx_RP xs d mi pc ls st w P) (hp : ∀ r w2, P r w2 → P2 r w2) : sx_RP xs d mi pc ls st w P2 := by
  obtain ⟨r, w2, h1, h2⟩ := h
  exact ⟨r, w2, h1, hp r w2 h2⟩
theorem sx_RU.rp {r : Option Value} {w2 : List sx_C} (h : sx_RU xs d mi pc ls st w r w2) (k : P r w2) : sx_RP xs d mi pc ls st w P := ⟨r, w2, h, k⟩
end SXP
theorem sx_inv_v {mi k a ci : Nat} {st r : List Value} {w : List sx_C} {q : Nat × Nat} {fs : List Value} (hq : sx_lk (sx_ml (sx_own mi)) k = some q) (hd : st.drop (sx_nar q.1) = .ref a :: r) (hw : w[a]? = some (.inr (.inr (.inr (ci, fs))))) (hc : (Nat.beq (sx_kd q.1) 1 && Nat.beq ci (sx_own q.1) && Nat.ble (r.map (fun v => v.category)).sum 8) = true) : sx_inv mi (.invokevirtual k) st w = some (q.1, .ref a :: (st.take (sx_nar q.1)).reverse, r) := by
  unfold sx_inv
  simp only
  rw [hq]
  simp only
  rw [hd]
  simp only
  rw [hw]
  simp only
  rw [hc]
  rfl
end
-- 33.at.lean.txt
section
theorem sx_in_nI {j n : Nat} (h : j < n) (hn : n < 2 ^ 31) : sx_in (nI j) n = true := by
  unfold sx_in
  rw [nI_clamp (by omega), decide_eq_false (nI_pos (by omega)), decide_eq_true h]
  rfl
theorem sx_iald_at {xs : Option (List Int32)} {ls : sx_L} {pc a : Nat} {i v : Int32} {r : List Value} {w : List sx_C} {l : List Int32} (hw : w[a]? = some (.inl (0, l))) (hi : sx_in i l.length = true) (hv : l.getD i.toNatClampNeg 0 = v) : sx_iald xs ls pc (.int i :: .ref a :: r) w = some (pc + 1, ls, .int v :: r, w) := by
  unfold sx_iald
  simp only
  rw [hw]
  simp only
  unfold sx_al
  rw [hi, hv]
  rfl
theorem sx_bald_at {ls : sx_L} {pc a : Nat} {i v : Int32} {r : List Value} {w : List sx_C} {l : List Int32} (hw : w[a]? = some (.inl (1, l))) (hi : sx_in i l.length = true) (hv : l.getD i.toNatClampNeg 0 = v) : sx_bald ls pc (.int i :: .ref a :: r) w = some (pc + 1, ls, .int v :: r, w) := by
  unfold sx_bald
  simp only
  rw [hw]
  simp only
  unfold sx_al
  rw [hi, hv]
  rfl
theorem sx_iast_at {ls : sx_L} {pc a : Nat} {i x : Int32} {r : List Value} {w w2 : List sx_C} {l : List Int32} (hw : w[a]? = some (.inl (0, l))) (hi : sx_in i l.length = true) (hs : w.set a (.inl (0, l.set i.toNatClampNeg x)) = w2) : sx_iast ls pc (.int x :: .int i :: .ref a :: r) w = some (pc + 1, ls, r, w2) := by
  unfold sx_iast
  simp only
  rw [hw]
  simp only
  rw [hi, hs]
  rfl
theorem sx_bast_at {ls : sx_L} {pc a : Nat} {i x : Int32} {r : List Value} {w w2 : List sx_C} {l : List Int32} (hw : w[a]? = some (.inl (1, l))) (hi : sx_in i l.length = true) (hs : w.set a (.inl (1, l.set i.toNatClampNeg (vp_nar .boolean x))) = w2) : sx_bast ls pc (.int x :: .int i :: .ref a :: r) w = some (pc + 1, ls, r, w2) := by
  unfold sx_bast
  simp only
  rw [hw]
  simp only
  rw [hi, hs]
  rfl
theorem sx_last_at {ls : sx_L} {pc a : Nat} {i : Int32} {x : Int64} {r : List Value} {w w2 : List sx_C} {l : List Int64} (hw : w[a]? = some (.inr (.inl (3, l)))) (hi : sx_in i l.length = true) (hs : w.set a (.inr (.inl (3, l.set i.toNatClampNeg x))) = w2) : sx_last ls pc (.long x :: .int i :: .ref a :: r) w = some (pc + 1, ls, r, w2) := by
  unfold sx_last
  simp only
  rw [hw]
  simp only
  rw [hi, hs]
  rfl
section SXAT
variable {xs : Option (List Int32)} {d mi pc pc2 a : Nat} {ls : sx_L} {r : List Value} {w w2 : List sx_C} {P : Option Value → List sx_C → Prop}
theorem sx_RP.iald {i v : Int32} {l : List Int32} (hi : sx_ins mi pc = some (.iaload, 1)) (hw : w[a]? = some (.inl (0, l))) (hn : sx_in i l.length = true) (hv : l.getD i.toNatClampNeg 0 = v) (hp : pc + 1 = pc2) (k : sx_RP xs d mi pc2 ls (.int v :: r) w P) : sx_RP xs d mi pc ls (.int i :: .ref a :: r) w P := by
  subst hp
  exact sx_RP.step hi (show sx_iald xs ls pc (.int i :: .ref a :: r) w = _ from sx_iald_at hw hn hv) k
theorem sx_RP.bald {i v : Int32} {l : List Int32} (hi : sx_ins mi pc = some (.baload, 1)) (hw : w[a]? = some (.inl (1, l))) (hn : sx_in i l.length = true) (hv : l.getD i.toNatClampNeg 0 = v) (hp : pc + 1 = pc2) (k : sx_RP xs d mi pc2 ls (.int v :: r) w P) : sx_RP xs d mi pc ls (.int i :: .ref a :: r) w P := by
  subst hp
  exact sx_RP.step hi (show sx_bald ls pc (.int i :: .ref a :: r) w = _ from sx_bald_at hw hn hv) k
theorem sx_RP.iast {i x : Int32} {l : List Int32} (hi : sx_ins mi pc = some (.iastore, 1)) (hw : w[a]? = some (.inl (0, l))) (hn : sx_in i l.length = true) (hs : w.set a (.inl (0, l.set i.toNatClampNeg x)) = w2) (hp : pc + 1 = pc2) (k : sx_RP xs d mi pc2 ls r w2 P) : sx_RP xs d mi pc ls (.int x :: .int i :: .ref a :: r) w P := by
  subst hp
  exact sx_RP.step hi (show sx_iast ls pc (.int x :: .int i :: .ref a :: r) w = _ from sx_iast_at hw hn hs) k
theorem sx_RP.bast {i x : Int32} {l : List Int32} (hi : sx_ins mi pc = some (.bastore, 1)) (hw : w[a]? = some (.inl (1, l))) (hn : sx_in i l.length = true) (hs : w.set a (.inl (1, l.set i.toNatClampNeg (vp_nar .boolean x))) = w2) (hp : pc + 1 = pc2) (k : sx_RP xs d mi pc2 ls r w2 P) : sx_RP xs d mi pc ls (.int x :: .int i :: .ref a :: r) w P := by
  subst hp
  exact sx_RP.step hi (show sx_bast ls pc (.int x :: .int i :: .ref a :: r) w = _ from sx_bast_at hw hn hs) k
theorem sx_RP.last {i : Int32} {x : Int64} {l : List Int64} (hi : sx_ins mi pc = some (.lastore, 1)) (hw : w[a]? = some (.inr (.inl (3, l)))) (hn : sx_in i l.length = true) (hs : w.set a (.inr (.inl (3, l.set i.toNatClampNeg x))) = w2) (hp : pc + 1 = pc2) (k : sx_RP xs d mi pc2 ls r w2 P) : sx_RP xs d mi pc ls (.long x :: .int i :: .ref a :: r) w P := by
  subst hp
  exact sx_RP.step hi (show sx_last ls pc (.long x :: .int i :: .ref a :: r) w = _ from sx_last_at hw hn hs) k
end SXAT
end
-- 36.locals.lean.txt
section
def sx_lr (a b : sx_L) : Prop := ∀ q ∈ a, sx_lk b q.1 = some q.2
theorem sx_lr.lk {a b : sx_L} (h : sx_lr a b) {i : Nat} {v : Value} (e : sx_lk a i = some v) : sx_lk b i = some v := h (i, v) (sx_lk_mem _ _ _ e)
theorem sx_lk_flt {p : Nat × Value → Bool} {j : Nat} {u : Value} (hp : p (j, u) = true) : ∀ b : sx_L, sx_lk b j = some u → sx_lk (b.filter p) j = some u
  | [], h => by cases h
  | q :: r, h => by
    unfold sx_lk at h
    cases hb : Nat.beq q.1 j with
    | true =>
      rw [hb] at h
      have e : q = (j, u) := Prod.ext (Nat.eq_of_beq_eq_true hb) (Option.some.inj h)
      subst e
      rw [List.filter_cons_of_pos hp]
      unfold sx_lk
      rw [hb]
      rfl
    | false =>
      rw [hb] at h
      have ih := sx_lk_flt hp r h
      by_cases hq : p q = true
      · rw [List.filter_cons_of_pos hq]
        unfold sx_lk
        rw [hb]
        exact ih
      · rw [List.filter_cons_of_neg hq]
        exact ih
theorem sx_lr.put {a b : sx_L} {i : Nat} {v : Value} {p : Nat × Value → Bool} (hp : ∀ q, p q = true → q.1 ≠ i) (h : sx_lr a b) : sx_lr ((i, v) :: a.filter p) ((i, v) :: b.filter p) := by
  intro q hq
  rcases List.mem_cons.mp hq with rfl | hq
  · unfold sx_lk
    rw [show Nat.beq (i, v).1 (i, v).1 = true from Nat.beq_refl i]
    rfl
  · obtain ⟨h1, h2⟩ := List.mem_filter.mp hq
    unfold sx_lk
    have hne : Nat.beq (i, v).1 q.1 = false := by
      cases hb : Nat.beq (i, v).1 q.1 with
      | false => rfl
      | true => exact absurd (Nat.eq_of_beq_eq_true hb).symm (hp q h2)
    rw [hne]
    exact sx_lk_flt (u := q.2) h2 b (h q h1)
theorem sx_lr.s1 {a b : sx_L} (h : sx_lr a b) (i : Nat) (v : Value) : sx_lr (sx_s1 a i v) (sx_s1 b i v) := sx_lr.put (fun q hq => by
  simp only [Bool.and_eq_true, Bool.not_eq_true', beq_eq_false_iff_ne] at hq
  exact hq.1) h
theorem sx_lr.s2 {a b : sx_L} (h : sx_lr a b) (i : Nat) (v : Value) : sx_lr (sx_s2 a i v) (sx_s2 b i v) := sx_lr.put (fun q hq => by
  simp only [Bool.and_eq_true, Bool.not_eq_true', beq_eq_false_iff_ne] at hq
  exact hq.1) h
def sx_pt (X : sx_L → Option sx_F) : Prop := ∀ a b, X b = (X a).map (fun F => (F.1, b, F.2.2))
theorem sx_pt.use {X : sx_L → Option sx_F} (hX : sx_pt X) {a b a2 : sx_L} {pc2 : Nat} {st2 : List Value} {w2 : List sx_C} (h : sx_lr a b) (e : X a = some (pc2, a2, st2, w2)) : ∃ b2, X b = some (pc2, b2, st2, w2) ∧ sx_lr a2 b2 := by
  have h1 := hX a a
  have h2 := hX a b
  rw [e] at h1 h2
  have e2 : a2 = a := (Prod.mk.inj (Prod.mk.inj (Option.some.inj h1)).2).1
  subst e2
  exact ⟨b, h2, h⟩
section SXPT
variable {md : Bool} {xs : Option (List Int32)} {mi o idx dim pc n nL i : Nat} {st : List Value} {w : List sx_C}
theorem sx_pt_kc : sx_pt (fun ls => sx_kc o idx pc n ls st w) := by
  intro a b
  simp only [sx_kc, Bool.cond_eq_ite]
  (repeat' split) <;> first | rfl | simp_all
theorem sx_pt_kj : sx_pt (fun ls => sx_kj o idx ls pc st w) := by
  intro a b
  simp only [sx_kj, Bool.cond_eq_ite]
  (repeat' split) <;> first | rfl | simp_all
theorem sx_pt_dup : sx_pt (fun ls => sx_dup ls pc st w) := by
  intro a b
  simp only [sx_dup, Bool.cond_eq_ite]
  (repeat' split) <;> first | rfl | simp_all
theorem sx_pt_pop : sx_pt (fun ls => sx_pop ls pc st w) := by
  intro a b
  simp only [sx_pop, Bool.cond_eq_ite]
  (repeat' split) <;> first | rfl | simp_all
theorem sx_pt_pop2 : sx_pt (fun ls => sx_pop2 ls pc st w) := by
  intro a b
  simp only [sx_pop2, Bool.cond_eq_ite]
  (repeat' split) <;> first | rfl | simp_all
theorem sx_pt_dup2 : sx_pt (fun ls => sx_dup2 ls pc st w) := by
  intro a b
  simp only [sx_dup2, Bool.cond_eq_ite]
  (repeat' split) <;> first | rfl | simp_all
theorem sx_pt_gf : sx_pt (fun ls => sx_gf o idx ls pc st w) := by
  intro a b
  simp only [sx_gf, Bool.cond_eq_ite]
  (repeat' split) <;> first | rfl | simp_all
theorem sx_pt_pf : sx_pt (fun ls => sx_pf mi idx ls pc st w) := by
  intro a b
  simp only [sx_pf, Bool.cond_eq_ite]
  (repeat' split) <;> first | rfl | simp_all
theorem sx_pt_gs : sx_pt (fun ls => sx_gs o idx ls pc st w) := by
  intro a b
  simp only [sx_gs, Bool.cond_eq_ite]
  (repeat' split) <;> first | rfl | simp_all
theorem sx_pt_iald : sx_pt (fun ls => sx_iald xs ls pc st w) := by
  intro a b
  simp only [sx_iald, sx_al, Bool.cond_eq_ite]
  (repeat' split) <;> first | rfl | simp_all
theorem sx_pt_bald : sx_pt (fun ls => sx_bald ls pc st w) := by
  intro a b
  simp only [sx_bald, sx_al, Bool.cond_eq_ite]
  (repeat' split) <;> first | rfl | simp_all
theorem sx_pt_lald : sx_pt (fun ls => sx_lald ls pc st w) := by
  intro a b
  simp only [sx_lald, Bool.cond_eq_ite]
  (repeat' split) <;> first | rfl | simp_all
theorem sx_pt_aald : sx_pt (fun ls => sx_aald ls pc st w) := by
  intro a b
  simp only [sx_aald, Bool.cond_eq_ite]
  (repeat' split) <;> first | rfl | simp_all
theorem sx_pt_iast : sx_pt (fun ls => sx_iast ls pc st w) := by
  intro a b
  simp only [sx_iast, Bool.cond_eq_ite]
  (repeat' split) <;> first | rfl | simp_all
theorem sx_pt_bast : sx_pt (fun ls => sx_bast ls pc st w) := by
  intro a b
  simp only [sx_bast, Bool.cond_eq_ite]
  (repeat' split) <;> first | rfl | simp_all
theorem sx_pt_last : sx_pt (fun ls => sx_last ls pc st w) := by
  intro a b
  simp only [sx_last, Bool.cond_eq_ite]
  (repeat' split) <;> first | rfl | simp_all
theorem sx_pt_aast : sx_pt (fun ls => sx_aast ls pc st w) := by
  intro a b
  simp only [sx_aast, Bool.cond_eq_ite]
  (repeat' split) <;> first | rfl | simp_all
theorem sx_pt_len : sx_pt (fun ls => sx_len xs ls pc st w) := by
  intro a b
  simp only [sx_len, Bool.cond_eq_ite]
  (repeat' split) <;> first | rfl | simp_all
theorem sx_pt_new : sx_pt (fun ls => sx_new o idx ls pc st w) := by
  intro a b
  simp only [sx_new, Bool.cond_eq_ite]
  (repeat' split) <;> first | rfl | simp_all
theorem sx_pt_anew : sx_pt (fun ls => sx_anew o idx ls pc st w) := by
  intro a b
  simp only [sx_anew, Bool.cond_eq_ite]
  (repeat' split) <;> first | rfl | simp_all
theorem sx_pt_mna : sx_pt (fun ls => sx_mna o idx dim ls pc st w) := by
  intro a b
  simp only [sx_mna, Bool.cond_eq_ite]
  (repeat' split) <;> first | rfl | simp_all
theorem sx_pt_obj : sx_pt (fun ls => sx_obj o idx ls pc st w) := by
  intro a b
  simp only [sx_obj, Bool.cond_eq_ite]
  (repeat' split) <;> first | rfl | simp_all
theorem sx_pt_acp : sx_pt (fun ls => sx_acp o idx ls pc st w) := by
  intro a b
  simp only [sx_acp, Bool.cond_eq_ite]
  (repeat' split) <;> first | rfl | simp_all
theorem sx_pt_str : sx_pt (fun ls => sx_str o idx ls pc st w) := by
  intro a b
  simp only [sx_str, Bool.cond_eq_ite]
  (repeat' split) <;> first | rfl | simp_all
theorem sx_pt_ii {f : Int32 → Int32 → Int32} : sx_pt (fun ls => sx_ii f ls pc st w) := by
  intro a b
  simp only [sx_ii, Bool.cond_eq_ite]
  (repeat' split) <;> first | rfl | simp_all
theorem sx_pt_iz {f : Int32 → Int32 → Int32} : sx_pt (fun ls => sx_iz f ls pc st w) := by
  intro a b
  simp only [sx_iz, Bool.cond_eq_ite]
  (repeat' split) <;> first | rfl | simp_all
theorem sx_pt_i1 {f : Int32 → Int32} : sx_pt (fun ls => sx_i1 f ls pc st w) := by
  intro a b
  simp only [sx_i1, Bool.cond_eq_ite]
  (repeat' split) <;> first | rfl | simp_all
theorem sx_pt_jj {f : Int64 → Int64 → Int64} : sx_pt (fun ls => sx_jj f ls pc st w) := by
  intro a b
  simp only [sx_jj, Bool.cond_eq_ite]
  (repeat' split) <;> first | rfl | simp_all
theorem sx_pt_ji {f : Int64 → Int32 → Int64} : sx_pt (fun ls => sx_ji f ls pc st w) := by
  intro a b
  simp only [sx_ji, Bool.cond_eq_ite]
  (repeat' split) <;> first | rfl | simp_all
theorem sx_pt_b1 {f : Int32 → Bool} {off : Int} : sx_pt (fun ls => sx_b1 f off ls pc st w) := by
  intro a b
  simp only [sx_b1, Bool.cond_eq_ite]
  (repeat' split) <;> first | rfl | simp_all
theorem sx_pt_b2 {f : Int32 → Int32 → Bool} {off : Int} : sx_pt (fun ls => sx_b2 f off ls pc st w) := by
  intro a b
  simp only [sx_b2, Bool.cond_eq_ite]
  (repeat' split) <;> first | rfl | simp_all
theorem sx_pt_sw {d lo hi : Int} {offs : Array Int} : sx_pt (fun ls => sx_sw d lo hi offs ls pc st w) := by
  intro a b
  simp only [sx_sw, Bool.cond_eq_ite]
  (repeat' split) <;> first | rfl | simp_all
theorem sx_pt_na {t : ArrayType} : sx_pt (fun ls => sx_na t ls pc st w) := by
  intro a b
  simp only [sx_na, Bool.cond_eq_ite]
  (repeat' split) <;> first | rfl | simp_all
theorem sx_lr_ldi {a b a2 : sx_L} {pc2 : Nat} {st2 : List Value} {w2 : List sx_C} (h : sx_lr a b) (e : sx_ldi a i pc st w = some (pc2, a2, st2, w2)) : ∃ b2, sx_ldi b i pc st w = some (pc2, b2, st2, w2) ∧ sx_lr a2 b2 := by
  unfold sx_ldi at e
  split at e
  · rename_i v hk
    cases e
    refine ⟨b, ?_, h⟩
    unfold sx_ldi
    rw [h.lk hk]
  · cases e
theorem sx_lr_ldl {a b a2 : sx_L} {pc2 : Nat} {st2 : List Value} {w2 : List sx_C} (h : sx_lr a b) (e : sx_ldl a i pc st w = some (pc2, a2, st2, w2)) : ∃ b2, sx_ldl b i pc st w = some (pc2, b2, st2, w2) ∧ sx_lr a2 b2 := by
  unfold sx_ldl at e
  split at e
  · rename_i v hk
    cases e
    refine ⟨b, ?_, h⟩
    unfold sx_ldl
    rw [h.lk hk]
  · cases e
theorem sx_lr_lda {a b a2 : sx_L} {pc2 : Nat} {st2 : List Value} {w2 : List sx_C} (h : sx_lr a b) (e : sx_lda a i pc st w = some (pc2, a2, st2, w2)) : ∃ b2, sx_lda b i pc st w = some (pc2, b2, st2, w2) ∧ sx_lr a2 b2 := by
  unfold sx_lda at e
  split at e
  · rename_i v hk
    cases e
    refine ⟨b, ?_, h⟩
    unfold sx_lda
    rw [h.lk hk]
  · rename_i v hk
    cases e
    refine ⟨b, ?_, h⟩
    unfold sx_lda
    rw [h.lk hk]
  · cases e
theorem sx_lr_sti {a b a2 : sx_L} {pc2 : Nat} {st2 : List Value} {w2 : List sx_C} (h : sx_lr a b) (e : sx_sti nL a i pc st w = some (pc2, a2, st2, w2)) : ∃ b2, sx_sti nL b i pc st w = some (pc2, b2, st2, w2) ∧ sx_lr a2 b2 := by
  simp only [sx_sti, Bool.cond_eq_ite] at e ⊢
  split at e
  · split at e
    · rename_i hc
      cases e
      exact ⟨_, if_pos hc, h.s1 _ _⟩
    · cases e
  · cases e
theorem sx_lr_sta {a b a2 : sx_L} {pc2 : Nat} {st2 : List Value} {w2 : List sx_C} (h : sx_lr a b) (e : sx_sta nL a i pc st w = some (pc2, a2, st2, w2)) : ∃ b2, sx_sta nL b i pc st w = some (pc2, b2, st2, w2) ∧ sx_lr a2 b2 := by
  simp only [sx_sta, Bool.cond_eq_ite] at e ⊢
  split at e
  · split at e
    · rename_i hc
      cases e
      exact ⟨_, if_pos hc, h.s1 _ _⟩
    · cases e
  · split at e
    · rename_i hc
      cases e
      exact ⟨_, if_pos hc, h.s1 _ _⟩
    · cases e
  · cases e
theorem sx_lr_stl {a b a2 : sx_L} {pc2 : Nat} {st2 : List Value} {w2 : List sx_C} (h : sx_lr a b) (e : sx_stl nL a i pc st w = some (pc2, a2, st2, w2)) : ∃ b2, sx_stl nL b i pc st w = some (pc2, b2, st2, w2) ∧ sx_lr a2 b2 := by
  simp only [sx_stl, Bool.cond_eq_ite] at e ⊢
  split at e
  · split at e
    · rename_i hc
      cases e
      exact ⟨_, if_pos hc, h.s2 _ _⟩
    · cases e
  · cases e
theorem sx_lr_inc {a b a2 : sx_L} {k : Int} {pc2 : Nat} {st2 : List Value} {w2 : List sx_C} (h : sx_lr a b) (e : sx_inc nL i k a pc st w = some (pc2, a2, st2, w2)) : ∃ b2, sx_inc nL i k b pc st w = some (pc2, b2, st2, w2) ∧ sx_lr a2 b2 := by
  unfold sx_inc at e
  split at e
  · rename_i v hk
    cases hc : Nat.blt i nL with
    | false => rw [hc] at e; cases e
    | true =>
      rw [hc] at e
      cases e
      refine ⟨sx_s1 b i (.int (v + Int32.ofInt k)), ?_, h.s1 _ _⟩
      unfold sx_inc
      rw [h.lk hk]
      simp only
      rw [hc]
      rfl
  · cases e
set_option maxHeartbeats 4000000 in
theorem sx_lr_step {a b a2 : sx_L} {ins : Instr} {pc2 : Nat} {st2 : List Value} {w2 : List sx_C} (h : sx_lr a b) (e : sx_step md xs mi pc ins n a st w = some (pc2, a2, st2, w2)) : ∃ b2, sx_step md xs mi pc ins n b st w = some (pc2, b2, st2, w2) ∧ sx_lr a2 b2 := by
  unfold sx_step at e
  split at e
  · cases e; exact ⟨b, rfl, h⟩
  · cases e; exact ⟨b, rfl, h⟩
  · cases e; exact ⟨b, rfl, h⟩
  · cases e; exact ⟨b, rfl, h⟩
  · exact sx_pt_kc.use h e
  · exact sx_pt_kc.use h e
  · exact sx_pt_kj.use h e
  · exact sx_lr_ldi h e
  · exact sx_lr_ldi h e
  · exact sx_lr_ldl h e
  · exact sx_lr_ldl h e
  · exact sx_lr_lda h e
  · exact sx_lr_lda h e
  · exact sx_lr_sti h e
  · exact sx_lr_sti h e
  · exact sx_lr_stl h e
  · exact sx_lr_stl h e
  · exact sx_lr_sta h e
  · exact sx_lr_sta h e
  · exact sx_lr_inc h e
  · exact sx_pt_ii.use h e
  · exact sx_pt_ii.use h e
  · exact sx_pt_ii.use h e
  · exact sx_pt_ii.use h e
  · exact sx_pt_ii.use h e
  · exact sx_pt_ii.use h e
  · exact sx_pt_iz.use h e
  · exact sx_pt_iz.use h e
  · exact sx_pt_i1.use h e
  · exact sx_pt_i1.use h e
  · exact sx_pt_i1.use h e
  · exact sx_pt_jj.use h e
  · exact sx_pt_jj.use h e
  · exact sx_pt_jj.use h e
  · exact sx_pt_jj.use h e
  · exact sx_pt_jj.use h e
  · exact sx_pt_jj.use h e
  · exact sx_pt_ji.use h e
  · exact sx_pt_ji.use h e
  · split at e
    · cases e; exact ⟨b, rfl, h⟩
    · cases e
  · split at e
    · cases e; exact ⟨b, rfl, h⟩
    · cases e
  · split at e
    · cases e; exact ⟨b, rfl, h⟩
    · cases e
  · exact sx_pt_dup.use h e
  · exact sx_pt_pop.use h e
  · exact sx_pt_dup2.use h e
  · exact sx_pt_pop2.use h e
  · exact sx_pt_b1.use h e
  · exact sx_pt_b2.use h e
  · exact sx_pt_b1.use h e
  · exact sx_pt_b2.use h e
  · exact sx_pt_b1.use h e
  · exact sx_pt_b2.use h e
  · exact sx_pt_b1.use h e
  · exact sx_pt_b2.use h e
  · exact sx_pt_b1.use h e
  · exact sx_pt_b2.use h e
  · exact sx_pt_b1.use h e
  · exact sx_pt_b2.use h e
  · split at e
    · rename_i t ht
      cases e
      refine ⟨b, ?_, h⟩
      unfold sx_step
      simp only
      rw [ht]
    · cases e
  · exact sx_pt_sw.use h e
  · exact sx_pt_gf.use h e
  · exact sx_pt_pf.use h e
  · exact sx_pt_gs.use h e
  · exact sx_pt_iald.use h e
  · exact sx_pt_bald.use h e
  · exact sx_pt_lald.use h e
  · exact sx_pt_aald.use h e
  · exact sx_pt_iast.use h e
  · exact sx_pt_bast.use h e
  · exact sx_pt_last.use h e
  · exact sx_pt_aast.use h e
  · exact sx_pt_len.use h e
  · cases md with
    | false => cases e
    | true => exact sx_pt_new.use h e
  · cases md with
    | false => cases e
    | true => exact sx_pt_na.use h e
  · cases md with
    | false => cases e
    | true => exact sx_pt_anew.use h e
  · cases md with
    | false => cases e
    | true => exact sx_pt_mna.use h e
  · exact sx_pt_obj.use h e
  · cases md with
    | true => cases e
    | false => exact sx_pt_acp.use h e
  · exact sx_pt_str.use h e
  · cases e
theorem sx_lr_inv {a b : sx_L} {ins : Instr} {q : Nat × List Value × List Value} (hq : sx_inv mi ins st w = some q) (e : sx_step md xs mi pc ins 3 a st w = none) : sx_step md xs mi pc ins 3 b st w = none := by
  rcases sx_inv_i hq with ⟨k, rfl⟩ | ⟨k, rfl⟩ | ⟨k, rfl⟩
  · cases md with
    | true => rfl
    | false =>
      have h2 := sx_pt_acp (o := sx_own mi) (idx := k) (pc := pc) (st := st) (w := w) a b
      have e2 : sx_acp (sx_own mi) k a pc st w = none := e
      simp only [e2] at h2
      exact h2
  · have h2 := sx_pt_str (o := sx_own mi) (idx := k) (pc := pc) (st := st) (w := w) a b
    have e2 : sx_str (sx_own mi) k a pc st w = none := e
    simp only [e2] at h2
    exact h2
  · have h2 := sx_pt_obj (o := sx_own mi) (idx := k) (pc := pc) (st := st) (w := w) a b
    have e2 : sx_obj (sx_own mi) k a pc st w = none := e
    simp only [e2] at h2
    exact h2
end SXPT
theorem sx_lr_run (md : Bool) (xs : Option (List Int32)) : ∀ (f d mi pc : Nat) (a b : sx_L) (st : List Value) (w : List sx_C) (r : Option Value) (w2 : List sx_C), sx_lr a b → sx_run md xs f d mi pc a st w = some (r, w2) → sx_run md xs f d mi pc b st w = some (r, w2)
  | 0, d, mi, pc, a, b, st, w, r, w2, _, h => by cases h
  | f + 1, d, mi, pc, a, b, st, w, r, w2, hl, h => by
    unfold sx_run at h
    unfold sx_run
    split at h
    · cases h
    · rename_i i n hi
      try rw [hi]
      try simp only
      split at h
      · rename_i pc2 ls2 st2 w3 hs
        obtain ⟨b2, hb, hl2⟩ := sx_lr_step hl hs
        rw [hb]
        exact sx_lr_run md xs f d mi pc2 ls2 b2 st2 w3 r w2 hl2 h
      · rename_i hs
        split at h
        · rename_i r2 hr
          obtain ⟨hn, hr2⟩ := sx_cbeq hr
          subst hn
          try rw [sx_step_r hr2]
          try simp only
          try rw [hr]
          exact h
        · rename_i hr
          split at h
          · rename_i mi2 as rest d2 hinv
            obtain ⟨hn, hinv2⟩ := sx_cbeq hinv
            subst hn
            try rw [sx_lr_inv (b := b) hinv2 hs]
            try simp only
            try rw [hr]
            try simp only
            try rw [hinv]
            try simp only
            simp only [Bool.cond_eq_ite] at h ⊢
            split at h
            · rename_i hsum
              rw [if_pos hsum]
              split at h
              · rename_i r2 w4 hc
                try rw [hc]
                exact sx_lr_run md xs f (d2 + 1) mi (pc + 3) a b _ w4 r w2 hl h
              · cases h
            · cases h
          · cases h
theorem sx_RP.ls {xs : Option (List Int32)} {d mi pc : Nat} {a b : sx_L} {st : List Value} {w : List sx_C} {P : Option Value → List sx_C → Prop} (h : sx_lr a b) (k : sx_RP xs d mi pc a st w P) : sx_RP xs d mi pc b st w P := by
  obtain ⟨r, w2, ⟨f, hf⟩, hp⟩ := k
  exact ⟨r, w2, ⟨f, sx_lr_run false xs f d mi pc a b st w r w2 h hf⟩, hp⟩
theorem sx_lr.nil {b : sx_L} : sx_lr [] b := fun q h => by cases h
theorem sx_lr.cons {a b : sx_L} {i : Nat} {v : Value} (h1 : sx_lk b i = some v) (h2 : sx_lr a b) : sx_lr ((i, v) :: a) b := fun q h => by
  rcases List.mem_cons.mp h with rfl | h
  · exact h1
  · exact h2 q h
end
-- 37.rows2.lean.txt
section
theorem sx_gs2 {w : List sx_C} {a : Nat} {x c : sx_C} (h : w[a]? = some x) : (w.set a c)[a]? = some c := by
  rw [List.getElem?_set_self (List.getElem?_eq_some_iff.mp h).1]
theorem sx_gn2 {w : List sx_C} {a b : Nat} {x c : sx_C} (h : a ≠ b) (hw : w[a]? = some x) : (w.set b c)[a]? = some x := by
  rw [List.getElem?_set_ne (Ne.symm h)]
  exact hw
theorem sx_set1 {w : List sx_C} {a b : Nat} {x y z : sx_C} (h : a ≠ b) : ((w.set a x).set b y).set a z = (w.set a z).set b y := by
  rw [List.set_comm y z (Ne.symm h), List.set_set]
theorem sx_ls {α : Type} {l : List α} {i n : Nat} {v : α} (h : l.length = n) : (l.set i v).length = n := by
  rw [List.length_set]
  exact h
section SXR2
variable {xs : Option (List Int32)} {d mi pc pc2 a : Nat} {ls : sx_L} {r : List Value} {w w2 : List sx_C} {P : Option Value → List sx_C → Prop}
theorem sx_RP.gf {idx ci : Nat} {q : Nat × Nat × Nat} {fs : List Value} {v : Value} (hi : sx_ins mi pc = some (.getfield idx, 3)) (hq : sx_lk (sx_fl (sx_own mi)) idx = some q) (hw : w[a]? = some (.inr (.inr (.inr (ci, fs))))) (hc : Nat.beq ci q.1 = true) (hv : fs[q.2.1]? = some v) (hp : pc + 3 = pc2) (k : sx_RP xs d mi pc2 ls (v :: r) w P) : sx_RP xs d mi pc ls (.ref a :: r) w P := by
  subst hp
  refine sx_RP.step hi (show sx_gf (sx_own mi) idx ls pc (.ref a :: r) w = some (pc + 3, ls, v :: r, w) from ?_) k
  unfold sx_gf
  simp only
  rw [hq, hw]
  simp only
  rw [hc, hv]
  rfl
theorem sx_RP.pf {idx ci : Nat} {q : Nat × Nat × Nat} {fs fs2 : List Value} {v : Value} (hi : sx_ins mi pc = some (.putfield idx, 3)) (hq : sx_lk (sx_fl (sx_own mi)) idx = some q) (hw : w[a]? = some (.inr (.inr (.inr (ci, fs))))) (hc : (Nat.beq ci q.1 && Nat.blt q.2.1 fs.length && sx_okv (sx_ty ci q.2.1) v && sx_fin mi ci q.2.1) = true) (hf : fs.set q.2.1 v = fs2) (hs : w.set a (.inr (.inr (.inr (ci, fs2)))) = w2) (hp : pc + 3 = pc2) (k : sx_RP xs d mi pc2 ls r w2 P) : sx_RP xs d mi pc ls (v :: .ref a :: r) w P := by
  subst hp
  subst hf
  subst hs
  refine sx_RP.step hi (show sx_pf mi idx ls pc (v :: .ref a :: r) w = some (pc + 3, ls, r, w.set a (.inr (.inr (.inr (ci, fs.set q.2.1 v))))) from ?_) k
  unfold sx_pf
  simp only
  rw [hq, hw]
  simp only
  rw [hc]
  rfl
theorem sx_RP.ild {i : Int32} {l : List Int32} {c n : Nat} (hi : sx_ins mi pc = some (.iaload, 1)) (hw : w[a]? = some (.inl (0, l))) (hl : l.length = n) (hn : sx_in i n = true) (hc : i.toNatClampNeg = c) (hp : pc + 1 = pc2) (k : sx_RP xs d mi pc2 ls (.int (l.getD c 0) :: r) w P) : sx_RP xs d mi pc ls (.int i :: .ref a :: r) w P := by
  subst hc
  subst hl
  exact sx_RP.iald hi hw hn rfl hp k
theorem sx_RP.bld1 {i : Int32} {l : List Int32} {c n : Nat} (hi : sx_ins mi pc = some (.baload, 1)) (hw : w[a]? = some (.inl (1, l))) (hl : l.length = n) (hn : sx_in i n = true) (hc : i.toNatClampNeg = c) (hp : pc + 1 = pc2) (k : sx_RP xs d mi pc2 ls (.int (l.getD c 0) :: r) w P) : sx_RP xs d mi pc ls (.int i :: .ref a :: r) w P := by
  subst hc
  subst hl
  exact sx_RP.bald hi hw hn rfl hp k
theorem sx_RP.ist {i x : Int32} {l : List Int32} {c n : Nat} (hi : sx_ins mi pc = some (.iastore, 1)) (hw : w[a]? = some (.inl (0, l))) (hl : l.length = n) (hn : sx_in i n = true) (hc : i.toNatClampNeg = c) (hs : w.set a (.inl (0, l.set c x)) = w2) (hp : pc + 1 = pc2) (k : sx_RP xs d mi pc2 ls r w2 P) : sx_RP xs d mi pc ls (.int x :: .int i :: .ref a :: r) w P := by
  subst hc
  subst hl
  exact sx_RP.iast hi hw hn hs hp k
theorem sx_RP.bst1 {i x : Int32} {l : List Int32} {c n : Nat} (hi : sx_ins mi pc = some (.bastore, 1)) (hw : w[a]? = some (.inl (1, l))) (hl : l.length = n) (hn : sx_in i n = true) (hc : i.toNatClampNeg = c) (hs : w.set a (.inl (1, l.set c (vp_nar .boolean x))) = w2) (hp : pc + 1 = pc2) (k : sx_RP xs d mi pc2 ls r w2 P) : sx_RP xs d mi pc ls (.int x :: .int i :: .ref a :: r) w P := by
  subst hc
  subst hl
  exact sx_RP.bast hi hw hn hs hp k
theorem sx_RP.ald {i : Int32} {t : Nat} {l : List (Option Nat)} {v : Value} (hi : sx_ins mi pc = some (.aaload, 1)) (hw : w[a]? = some (.inr (.inr (.inl (t, l))))) (ht : (Nat.ble 4 t && Nat.ble t 6) = true) (he : sx_in i l.length = true ∧ sx_rf (l.getD i.toNatClampNeg none) = v) (hp : pc + 1 = pc2) (k : sx_RP xs d mi pc2 ls (v :: r) w P) : sx_RP xs d mi pc ls (.int i :: .ref a :: r) w P := by
  subst hp
  obtain ⟨h1, rfl⟩ := he
  refine sx_RP.step hi (show sx_aald ls pc (.int i :: .ref a :: r) w = some (pc + 1, ls, sx_rf (l.getD i.toNatClampNeg none) :: r, w) from ?_) k
  unfold sx_aald
  simp only
  rw [hw]
  simp only
  rw [h1, Bool.true_and, ht]
  rfl
theorem sx_RP.stat {i v : Int32} {k : UInt32} (hi : sx_ins mi pc = some (.iaload, 1)) (hk : Nat.blt k.toNat 5 = true) (he : sx_in i (sx_st xs k.toNat).length = true ∧ (sx_st xs k.toNat).getD i.toNatClampNeg 0 = v) (hp : pc + 1 = pc2) (kk : sx_RP xs d mi pc2 ls (.int v :: r) w P) : sx_RP xs d mi pc ls (.int i :: .float k :: r) w P := by
  subst hp
  obtain ⟨h1, rfl⟩ := he
  refine sx_RP.step hi (show sx_iald xs ls pc (.int i :: .float k :: r) w = some (pc + 1, ls, .int ((sx_st xs k.toNat).getD i.toNatClampNeg 0) :: r, w) from ?_) kk
  unfold sx_iald
  simp only
  rw [hk]
  unfold sx_al
  rw [h1]
  rfl
end SXR2
theorem nI_ne1 {c : Nat} (h : c < 2 ^ 31) : ¬ nI c = -1 := by
  intro e
  have := congrArg Int32.toInt e
  rw [nI_toInt h] at this
  have h2 : ((-1 : Int32)).toInt = -1 := by decide
  omega
def bsd (c j : Nat) : Int32 := match j with
  | 0 => if nI c < 8 then -1 else nI c - 8
  | 1 => if 7 ≤ nI c - nI c / 8 * 8 then -1 else nI c + 1
  | 2 => if 40 ≤ nI c then -1 else nI c + 8
  | _ => if nI c - nI c / 8 * 8 ≤ 0 then -1 else nI c - 1
theorem bsd_in : ∀ c, c < 48 → ∀ j, j < 4 → bsd c j = -1 ∨ sx_in (bsd c j) 48 = true := by decide +kernel
theorem bsd_lt : ∀ c, c < 48 → ∀ j, j < 4 → (bsd c j < 0 ↔ bsd c j = -1) := by decide +kernel
theorem bsd_nat : ∀ c, c < 48 → ∀ j, j < 4 → bsd c j = -1 ∨ ((bsd c j).toNatClampNeg < 48 ∧ bsd c j = nI (bsd c j).toNatClampNeg) := by decide +kernel
theorem bsd_m0 : ∀ c, c < 48 → (nI c / 8 = 0 ↔ nI c < 8) := by decide +kernel
theorem bsd_m1 : ∀ c, c < 48 → (nI c - nI c / 8 * 8 = 7 ↔ 7 ≤ nI c - nI c / 8 * 8) := by decide +kernel
theorem bsd_m2 : ∀ c, c < 48 → (nI c / 8 = 5 ↔ 40 ≤ nI c) := by decide +kernel
theorem bsd_m3 : ∀ c, c < 48 → (nI c - nI c / 8 * 8 = 0 ↔ nI c - nI c / 8 * 8 ≤ 0) := by decide +kernel
theorem cl_47 : ∀ i, i < 48 → (47 : Int32) - nI i = nI (47 - i) := by decide +kernel
theorem cl_7 (c : Nat) : (7 : Int32) + nI c = nI (7 + c) := nI_add 7 c
theorem sx_same {w : List sx_C} {a : Nat} {x : sx_C} (h : w[a]? = some x) : w = w.set a x := by
  obtain ⟨h1, h2⟩ := List.getElem?_eq_some_iff.mp h
  rw [← h2, List.set_getElem_self]
theorem sx_in_c {x : Int32} {n : Nat} (h : sx_in x n = true) : ∃ c, c < n ∧ x = nI c ∧ x.toNatClampNeg = c := by
  unfold sx_in at h
  rw [Bool.and_eq_true] at h
  have h1 : ¬ x < 0 := by
    intro z
    rw [decide_eq_true z] at h
    exact absurd h.1 (by decide)
  obtain ⟨j, hj, rfl⟩ := nI_of h1
  refine ⟨j, ?_, rfl, nI_clamp hj⟩
  have := of_decide_eq_true h.2
  rw [nI_clamp hj] at this
  exact this
theorem sx_inv_v2 {mi k a ci mi2 : Nat} {st r as : List Value} {w : List sx_C} {q : Nat × Nat} {fs : List Value} (hq : sx_lk (sx_ml (sx_own mi)) k = some q) (hd : st.drop (sx_nar q.1) = .ref a :: r) (hw : w[a]? = some (.inr (.inr (.inr (ci, fs))))) (hc : (Nat.beq (sx_kd q.1) 1 && Nat.beq ci (sx_own q.1) && Nat.ble (r.map (fun v => v.category)).sum 8) = true) (hm : q.1 = mi2) (ha : Value.ref a :: (st.take (sx_nar q.1)).reverse = as) : sx_inv mi (.invokevirtual k) st w = some (mi2, as, r) := by
  subst hm
  subst ha
  exact sx_inv_v hq hd hw hc
end
-- 38a.beside.lean.txt
section
set_option maxRecDepth 20000 in
set_option maxHeartbeats 4000000 in
theorem cb_20_0 {xs : Option (List Int32)} {d : Nat} {w : List sx_C} {c : Nat} (hc : c < 48) : sx_RU xs d 20 0 (lv_args 0 [.int (nI c), .int (nI 0)]) [] w (some (.int (bsd c 0))) w := by
  have h : sx_RP xs d 20 0 (lv_args 0 [.int (nI c), .int (nI 0)]) [] w (fun r w2 => r = (some (.int (bsd c 0))) ∧ w2 = w) := by
    refine sx_RP.step (pc2 := 1) (ls2 := [(0, .int (nI c)), (1, .int (nI 0))]) (st2 := [.int (nI c)]) (w3 := w) rfl rfl ?_
    refine sx_RP.step (pc2 := 3) (ls2 := [(0, .int (nI c)), (1, .int (nI 0))]) (st2 := [.int 8, .int (nI c)]) (w3 := w) rfl rfl ?_
    refine sx_RP.step (pc2 := 4) (ls2 := [(0, .int (nI c)), (1, .int (nI 0))]) (st2 := [.int ((nI c) - (nI c) / 8 * 8)]) (w3 := w) rfl rfl ?_
    refine sx_RP.step (pc2 := 5) (ls2 := [(2, .int ((nI c) - (nI c) / 8 * 8)), (0, .int (nI c)), (1, .int (nI 0))]) (st2 := []) (w3 := w) rfl rfl ?_
    refine sx_RP.step (pc2 := 6) (ls2 := [(2, .int ((nI c) - (nI c) / 8 * 8)), (0, .int (nI c)), (1, .int (nI 0))]) (st2 := [.int (nI 0)]) (w3 := w) rfl rfl ?_
    refine sx_RP.step (pc2 := 36) (ls2 := [(2, .int ((nI c) - (nI c) / 8 * 8)), (0, .int (nI c)), (1, .int (nI 0))]) (st2 := []) (w3 := w) rfl rfl ?_
    refine sx_RP.step (pc2 := 37) (ls2 := [(2, .int ((nI c) - (nI c) / 8 * 8)), (0, .int (nI c)), (1, .int (nI 0))]) (st2 := [.int (nI c)]) (w3 := w) rfl rfl ?_
    refine sx_RP.step (pc2 := 39) (ls2 := [(2, .int ((nI c) - (nI c) / 8 * 8)), (0, .int (nI c)), (1, .int (nI 0))]) (st2 := [.int 8, .int (nI c)]) (w3 := w) rfl rfl ?_
    refine sx_RP.br (p1 := 49) (l1 := [(2, .int ((nI c) - (nI c) / 8 * 8)), (0, .int (nI c)), (1, .int (nI 0))]) (s1 := []) (v1 := w) (p2 := 42) (l2 := [(2, .int ((nI c) - (nI c) / 8 * 8)), (0, .int (nI c)), (1, .int (nI 0))]) (s2 := []) (v2 := w) rfl rfl (fun q1 => ?_) (fun q1 => ?_)
    · replace q1 := of_decide_eq_true q1
      refine sx_RP.step (pc2 := 50) (ls2 := [(2, .int ((nI c) - (nI c) / 8 * 8)), (0, .int (nI c)), (1, .int (nI 0))]) (st2 := [.int (-1)]) (w3 := w) rfl rfl ?_
      refine sx_RP.ret (r := (some (.int (-1)))) rfl rfl ?_
      exact ⟨congrArg (fun z => some (Value.int z)) (show _ = (if nI c < 8 then -1 else nI c - 8) from by rw [if_pos q1]), rfl⟩
    · replace q1 := of_decide_eq_false q1
      refine sx_RP.step (pc2 := 43) (ls2 := [(2, .int ((nI c) - (nI c) / 8 * 8)), (0, .int (nI c)), (1, .int (nI 0))]) (st2 := [.int (nI c)]) (w3 := w) rfl rfl ?_
      refine sx_RP.step (pc2 := 45) (ls2 := [(2, .int ((nI c) - (nI c) / 8 * 8)), (0, .int (nI c)), (1, .int (nI 0))]) (st2 := [.int 8, .int (nI c)]) (w3 := w) rfl rfl ?_
      refine sx_RP.step (pc2 := 46) (ls2 := [(2, .int ((nI c) - (nI c) / 8 * 8)), (0, .int (nI c)), (1, .int (nI 0))]) (st2 := [.int ((nI c) - 8)]) (w3 := w) rfl rfl ?_
      refine sx_RP.step (pc2 := 50) (ls2 := [(2, .int ((nI c) - (nI c) / 8 * 8)), (0, .int (nI c)), (1, .int (nI 0))]) (st2 := [.int ((nI c) - 8)]) (w3 := w) rfl rfl ?_
      refine sx_RP.ret (r := (some (.int ((nI c) - 8)))) rfl rfl ?_
      exact ⟨congrArg (fun z => some (Value.int z)) (show _ = (if nI c < 8 then -1 else nI c - 8) from by rw [if_neg q1]), rfl⟩
  obtain ⟨r, w2, h1, rfl, rfl⟩ := h
  exact h1
set_option maxRecDepth 20000 in
set_option maxHeartbeats 4000000 in
theorem cb_20_1 {xs : Option (List Int32)} {d : Nat} {w : List sx_C} {c : Nat} (hc : c < 48) : sx_RU xs d 20 0 (lv_args 0 [.int (nI c), .int (nI 1)]) [] w (some (.int (bsd c 1))) w := by
  have h : sx_RP xs d 20 0 (lv_args 0 [.int (nI c), .int (nI 1)]) [] w (fun r w2 => r = (some (.int (bsd c 1))) ∧ w2 = w) := by
    refine sx_RP.step (pc2 := 1) (ls2 := [(0, .int (nI c)), (1, .int (nI 1))]) (st2 := [.int (nI c)]) (w3 := w) rfl rfl ?_
    refine sx_RP.step (pc2 := 3) (ls2 := [(0, .int (nI c)), (1, .int (nI 1))]) (st2 := [.int 8, .int (nI c)]) (w3 := w) rfl rfl ?_
    refine sx_RP.step (pc2 := 4) (ls2 := [(0, .int (nI c)), (1, .int (nI 1))]) (st2 := [.int ((nI c) - (nI c) / 8 * 8)]) (w3 := w) rfl rfl ?_
    refine sx_RP.step (pc2 := 5) (ls2 := [(2, .int ((nI c) - (nI c) / 8 * 8)), (0, .int (nI c)), (1, .int (nI 1))]) (st2 := []) (w3 := w) rfl rfl ?_
    refine sx_RP.step (pc2 := 6) (ls2 := [(2, .int ((nI c) - (nI c) / 8 * 8)), (0, .int (nI c)), (1, .int (nI 1))]) (st2 := [.int (nI 1)]) (w3 := w) rfl rfl ?_
    refine sx_RP.step (pc2 := 51) (ls2 := [(2, .int ((nI c) - (nI c) / 8 * 8)), (0, .int (nI c)), (1, .int (nI 1))]) (st2 := []) (w3 := w) rfl rfl ?_
    refine sx_RP.step (pc2 := 52) (ls2 := [(2, .int ((nI c) - (nI c) / 8 * 8)), (0, .int (nI c)), (1, .int (nI 1))]) (st2 := [.int ((nI c) - (nI c) / 8 * 8)]) (w3 := w) rfl rfl ?_
    refine sx_RP.step (pc2 := 54) (ls2 := [(2, .int ((nI c) - (nI c) / 8 * 8)), (0, .int (nI c)), (1, .int (nI 1))]) (st2 := [.int 7, .int ((nI c) - (nI c) / 8 * 8)]) (w3 := w) rfl rfl ?_
    refine sx_RP.br (p1 := 63) (l1 := [(2, .int ((nI c) - (nI c) / 8 * 8)), (0, .int (nI c)), (1, .int (nI 1))]) (s1 := []) (v1 := w) (p2 := 57) (l2 := [(2, .int ((nI c) - (nI c) / 8 * 8)), (0, .int (nI c)), (1, .int (nI 1))]) (s2 := []) (v2 := w) rfl rfl (fun q1 => ?_) (fun q1 => ?_)
    · replace q1 := of_decide_eq_true q1
      refine sx_RP.step (pc2 := 64) (ls2 := [(2, .int ((nI c) - (nI c) / 8 * 8)), (0, .int (nI c)), (1, .int (nI 1))]) (st2 := [.int (-1)]) (w3 := w) rfl rfl ?_
      refine sx_RP.ret (r := (some (.int (-1)))) rfl rfl ?_
      exact ⟨congrArg (fun z => some (Value.int z)) (show _ = (if 7 ≤ nI c - nI c / 8 * 8 then -1 else nI c + 1) from by rw [if_pos q1]), rfl⟩
    · replace q1 := of_decide_eq_false q1
      refine sx_RP.step (pc2 := 58) (ls2 := [(2, .int ((nI c) - (nI c) / 8 * 8)), (0, .int (nI c)), (1, .int (nI 1))]) (st2 := [.int (nI c)]) (w3 := w) rfl rfl ?_
      refine sx_RP.step (pc2 := 59) (ls2 := [(2, .int ((nI c) - (nI c) / 8 * 8)), (0, .int (nI c)), (1, .int (nI 1))]) (st2 := [.int 1, .int (nI c)]) (w3 := w) rfl rfl ?_
      refine sx_RP.step (pc2 := 60) (ls2 := [(2, .int ((nI c) - (nI c) / 8 * 8)), (0, .int (nI c)), (1, .int (nI 1))]) (st2 := [.int ((nI c) + 1)]) (w3 := w) rfl rfl ?_
      refine sx_RP.step (pc2 := 64) (ls2 := [(2, .int ((nI c) - (nI c) / 8 * 8)), (0, .int (nI c)), (1, .int (nI 1))]) (st2 := [.int ((nI c) + 1)]) (w3 := w) rfl rfl ?_
      refine sx_RP.ret (r := (some (.int ((nI c) + 1)))) rfl rfl ?_
      exact ⟨congrArg (fun z => some (Value.int z)) (show _ = (if 7 ≤ nI c - nI c / 8 * 8 then -1 else nI c + 1) from by rw [if_neg q1]), rfl⟩
  obtain ⟨r, w2, h1, rfl, rfl⟩ := h
  exact h1
set_option maxRecDepth 20000 in
set_option maxHeartbeats 4000000 in
theorem cb_20_2 {xs : Option (List Int32)} {d : Nat} {w : List sx_C} {c : Nat} (hc : c < 48) : sx_RU xs d 20 0 (lv_args 0 [.int (nI c), .int (nI 2)]) [] w (some (.int (bsd c 2))) w := by
  have h : sx_RP xs d 20 0 (lv_args 0 [.int (nI c), .int (nI 2)]) [] w (fun r w2 => r = (some (.int (bsd c 2))) ∧ w2 = w) := by
    refine sx_RP.step (pc2 := 1) (ls2 := [(0, .int (nI c)), (1, .int (nI 2))]) (st2 := [.int (nI c)]) (w3 := w) rfl rfl ?_
    refine sx_RP.step (pc2 := 3) (ls2 := [(0, .int (nI c)), (1, .int (nI 2))]) (st2 := [.int 8, .int (nI c)]) (w3 := w) rfl rfl ?_
    refine sx_RP.step (pc2 := 4) (ls2 := [(0, .int (nI c)), (1, .int (nI 2))]) (st2 := [.int ((nI c) - (nI c) / 8 * 8)]) (w3 := w) rfl rfl ?_
    refine sx_RP.step (pc2 := 5) (ls2 := [(2, .int ((nI c) - (nI c) / 8 * 8)), (0, .int (nI c)), (1, .int (nI 2))]) (st2 := []) (w3 := w) rfl rfl ?_
    refine sx_RP.step (pc2 := 6) (ls2 := [(2, .int ((nI c) - (nI c) / 8 * 8)), (0, .int (nI c)), (1, .int (nI 2))]) (st2 := [.int (nI 2)]) (w3 := w) rfl rfl ?_
    refine sx_RP.step (pc2 := 65) (ls2 := [(2, .int ((nI c) - (nI c) / 8 * 8)), (0, .int (nI c)), (1, .int (nI 2))]) (st2 := []) (w3 := w) rfl rfl ?_
    refine sx_RP.step (pc2 := 66) (ls2 := [(2, .int ((nI c) - (nI c) / 8 * 8)), (0, .int (nI c)), (1, .int (nI 2))]) (st2 := [.int (nI c)]) (w3 := w) rfl rfl ?_
    refine sx_RP.step (pc2 := 68) (ls2 := [(2, .int ((nI c) - (nI c) / 8 * 8)), (0, .int (nI c)), (1, .int (nI 2))]) (st2 := [.int 40, .int (nI c)]) (w3 := w) rfl rfl ?_
    refine sx_RP.br (p1 := 78) (l1 := [(2, .int ((nI c) - (nI c) / 8 * 8)), (0, .int (nI c)), (1, .int (nI 2))]) (s1 := []) (v1 := w) (p2 := 71) (l2 := [(2, .int ((nI c) - (nI c) / 8 * 8)), (0, .int (nI c)), (1, .int (nI 2))]) (s2 := []) (v2 := w) rfl rfl (fun q1 => ?_) (fun q1 => ?_)
    · replace q1 := of_decide_eq_true q1
      refine sx_RP.step (pc2 := 79) (ls2 := [(2, .int ((nI c) - (nI c) / 8 * 8)), (0, .int (nI c)), (1, .int (nI 2))]) (st2 := [.int (-1)]) (w3 := w) rfl rfl ?_
      refine sx_RP.ret (r := (some (.int (-1)))) rfl rfl ?_
      exact ⟨congrArg (fun z => some (Value.int z)) (show _ = (if 40 ≤ nI c then -1 else nI c + 8) from by rw [if_pos q1]), rfl⟩
    · replace q1 := of_decide_eq_false q1
      refine sx_RP.step (pc2 := 72) (ls2 := [(2, .int ((nI c) - (nI c) / 8 * 8)), (0, .int (nI c)), (1, .int (nI 2))]) (st2 := [.int (nI c)]) (w3 := w) rfl rfl ?_
      refine sx_RP.step (pc2 := 74) (ls2 := [(2, .int ((nI c) - (nI c) / 8 * 8)), (0, .int (nI c)), (1, .int (nI 2))]) (st2 := [.int 8, .int (nI c)]) (w3 := w) rfl rfl ?_
      refine sx_RP.step (pc2 := 75) (ls2 := [(2, .int ((nI c) - (nI c) / 8 * 8)), (0, .int (nI c)), (1, .int (nI 2))]) (st2 := [.int ((nI c) + 8)]) (w3 := w) rfl rfl ?_
      refine sx_RP.step (pc2 := 79) (ls2 := [(2, .int ((nI c) - (nI c) / 8 * 8)), (0, .int (nI c)), (1, .int (nI 2))]) (st2 := [.int ((nI c) + 8)]) (w3 := w) rfl rfl ?_
      refine sx_RP.ret (r := (some (.int ((nI c) + 8)))) rfl rfl ?_
      exact ⟨congrArg (fun z => some (Value.int z)) (show _ = (if 40 ≤ nI c then -1 else nI c + 8) from by rw [if_neg q1]), rfl⟩
  obtain ⟨r, w2, h1, rfl, rfl⟩ := h
  exact h1
set_option maxRecDepth 20000 in
set_option maxHeartbeats 4000000 in
theorem cb_20_3 {xs : Option (List Int32)} {d : Nat} {w : List sx_C} {c : Nat} (hc : c < 48) : sx_RU xs d 20 0 (lv_args 0 [.int (nI c), .int (nI 3)]) [] w (some (.int (bsd c 3))) w := by
  have h : sx_RP xs d 20 0 (lv_args 0 [.int (nI c), .int (nI 3)]) [] w (fun r w2 => r = (some (.int (bsd c 3))) ∧ w2 = w) := by
    refine sx_RP.step (pc2 := 1) (ls2 := [(0, .int (nI c)), (1, .int (nI 3))]) (st2 := [.int (nI c)]) (w3 := w) rfl rfl ?_
    refine sx_RP.step (pc2 := 3) (ls2 := [(0, .int (nI c)), (1, .int (nI 3))]) (st2 := [.int 8, .int (nI c)]) (w3 := w) rfl rfl ?_
    refine sx_RP.step (pc2 := 4) (ls2 := [(0, .int (nI c)), (1, .int (nI 3))]) (st2 := [.int ((nI c) - (nI c) / 8 * 8)]) (w3 := w) rfl rfl ?_
    refine sx_RP.step (pc2 := 5) (ls2 := [(2, .int ((nI c) - (nI c) / 8 * 8)), (0, .int (nI c)), (1, .int (nI 3))]) (st2 := []) (w3 := w) rfl rfl ?_
    refine sx_RP.step (pc2 := 6) (ls2 := [(2, .int ((nI c) - (nI c) / 8 * 8)), (0, .int (nI c)), (1, .int (nI 3))]) (st2 := [.int (nI 3)]) (w3 := w) rfl rfl ?_
    refine sx_RP.step (pc2 := 80) (ls2 := [(2, .int ((nI c) - (nI c) / 8 * 8)), (0, .int (nI c)), (1, .int (nI 3))]) (st2 := []) (w3 := w) rfl rfl ?_
    refine sx_RP.step (pc2 := 81) (ls2 := [(2, .int ((nI c) - (nI c) / 8 * 8)), (0, .int (nI c)), (1, .int (nI 3))]) (st2 := [.int ((nI c) - (nI c) / 8 * 8)]) (w3 := w) rfl rfl ?_
    refine sx_RP.br (p1 := 90) (l1 := [(2, .int ((nI c) - (nI c) / 8 * 8)), (0, .int (nI c)), (1, .int (nI 3))]) (s1 := []) (v1 := w) (p2 := 84) (l2 := [(2, .int ((nI c) - (nI c) / 8 * 8)), (0, .int (nI c)), (1, .int (nI 3))]) (s2 := []) (v2 := w) rfl rfl (fun q1 => ?_) (fun q1 => ?_)
    · replace q1 := of_decide_eq_true q1
      refine sx_RP.step (pc2 := 91) (ls2 := [(2, .int ((nI c) - (nI c) / 8 * 8)), (0, .int (nI c)), (1, .int (nI 3))]) (st2 := [.int (-1)]) (w3 := w) rfl rfl ?_
      refine sx_RP.ret (r := (some (.int (-1)))) rfl rfl ?_
      exact ⟨congrArg (fun z => some (Value.int z)) (show _ = (if nI c - nI c / 8 * 8 ≤ 0 then -1 else nI c - 1) from by rw [if_pos q1]), rfl⟩
    · replace q1 := of_decide_eq_false q1
      refine sx_RP.step (pc2 := 85) (ls2 := [(2, .int ((nI c) - (nI c) / 8 * 8)), (0, .int (nI c)), (1, .int (nI 3))]) (st2 := [.int (nI c)]) (w3 := w) rfl rfl ?_
      refine sx_RP.step (pc2 := 86) (ls2 := [(2, .int ((nI c) - (nI c) / 8 * 8)), (0, .int (nI c)), (1, .int (nI 3))]) (st2 := [.int 1, .int (nI c)]) (w3 := w) rfl rfl ?_
      refine sx_RP.step (pc2 := 87) (ls2 := [(2, .int ((nI c) - (nI c) / 8 * 8)), (0, .int (nI c)), (1, .int (nI 3))]) (st2 := [.int ((nI c) - 1)]) (w3 := w) rfl rfl ?_
      refine sx_RP.step (pc2 := 91) (ls2 := [(2, .int ((nI c) - (nI c) / 8 * 8)), (0, .int (nI c)), (1, .int (nI 3))]) (st2 := [.int ((nI c) - 1)]) (w3 := w) rfl rfl ?_
      refine sx_RP.ret (r := (some (.int ((nI c) - 1)))) rfl rfl ?_
      exact ⟨congrArg (fun z => some (Value.int z)) (show _ = (if nI c - nI c / 8 * 8 ≤ 0 then -1 else nI c - 1) from by rw [if_neg q1]), rfl⟩
  obtain ⟨r, w2, h1, rfl, rfl⟩ := h
  exact h1
theorem cb_20 {xs : Option (List Int32)} {d : Nat} {w : List sx_C} {c : Nat} (hc : c < 48) : ∀ j, j < 4 → sx_RU xs d 20 0 (lv_args 0 [.int (nI c), .int (nI j)]) [] w (some (.int (bsd c j))) w
  | 0, _ => cb_20_0 hc
  | 1, _ => cb_20_1 hc
  | 2, _ => cb_20_2 hc
  | 3, _ => cb_20_3 hc
set_option maxRecDepth 20000 in
set_option maxHeartbeats 4000000 in
theorem cb_142_0 {xs : Option (List Int32)} {d : Nat} {w : List sx_C} {c : Nat} (hc : c < 48) : sx_RU xs d 142 0 (lv_args 0 [.int (nI c), .int (nI 0)]) [] w (some (.int (bsd c 0))) w := by
  have h : sx_RP xs d 142 0 (lv_args 0 [.int (nI c), .int (nI 0)]) [] w (fun r w2 => r = (some (.int (bsd c 0))) ∧ w2 = w) := by
    refine sx_RP.step (pc2 := 1) (ls2 := [(0, .int (nI c)), (1, .int (nI 0))]) (st2 := [.int (nI c)]) (w3 := w) rfl rfl ?_
    refine sx_RP.step (pc2 := 3) (ls2 := [(0, .int (nI c)), (1, .int (nI 0))]) (st2 := [.int 8, .int (nI c)]) (w3 := w) rfl rfl ?_
    refine sx_RP.step (pc2 := 4) (ls2 := [(0, .int (nI c)), (1, .int (nI 0))]) (st2 := [.int ((nI c) / 8)]) (w3 := w) rfl rfl ?_
    refine sx_RP.step (pc2 := 5) (ls2 := [(2, .int ((nI c) / 8)), (0, .int (nI c)), (1, .int (nI 0))]) (st2 := []) (w3 := w) rfl rfl ?_
    refine sx_RP.step (pc2 := 6) (ls2 := [(2, .int ((nI c) / 8)), (0, .int (nI c)), (1, .int (nI 0))]) (st2 := [.int (nI c)]) (w3 := w) rfl rfl ?_
    refine sx_RP.step (pc2 := 8) (ls2 := [(2, .int ((nI c) / 8)), (0, .int (nI c)), (1, .int (nI 0))]) (st2 := [.int 8, .int (nI c)]) (w3 := w) rfl rfl ?_
    refine sx_RP.step (pc2 := 9) (ls2 := [(2, .int ((nI c) / 8)), (0, .int (nI c)), (1, .int (nI 0))]) (st2 := [.int ((nI c) - (nI c) / 8 * 8)]) (w3 := w) rfl rfl ?_
    refine sx_RP.step (pc2 := 10) (ls2 := [(3, .int ((nI c) - (nI c) / 8 * 8)), (2, .int ((nI c) / 8)), (0, .int (nI c)), (1, .int (nI 0))]) (st2 := []) (w3 := w) rfl rfl ?_
    refine sx_RP.step (pc2 := 11) (ls2 := [(3, .int ((nI c) - (nI c) / 8 * 8)), (2, .int ((nI c) / 8)), (0, .int (nI c)), (1, .int (nI 0))]) (st2 := [.int (nI 0)]) (w3 := w) rfl rfl ?_
    refine sx_RP.step (pc2 := 36) (ls2 := [(3, .int ((nI c) - (nI c) / 8 * 8)), (2, .int ((nI c) / 8)), (0, .int (nI c)), (1, .int (nI 0))]) (st2 := []) (w3 := w) rfl rfl ?_
    refine sx_RP.step (pc2 := 37) (ls2 := [(3, .int ((nI c) - (nI c) / 8 * 8)), (2, .int ((nI c) / 8)), (0, .int (nI c)), (1, .int (nI 0))]) (st2 := [.int ((nI c) / 8)]) (w3 := w) rfl rfl ?_
    refine sx_RP.br (p1 := 44) (l1 := [(3, .int ((nI c) - (nI c) / 8 * 8)), (2, .int ((nI c) / 8)), (0, .int (nI c)), (1, .int (nI 0))]) (s1 := []) (v1 := w) (p2 := 40) (l2 := [(3, .int ((nI c) - (nI c) / 8 * 8)), (2, .int ((nI c) / 8)), (0, .int (nI c)), (1, .int (nI 0))]) (s2 := []) (v2 := w) rfl rfl (fun q1 => ?_) (fun q1 => ?_)
    · replace q1 := of_decide_eq_true q1
      refine sx_RP.step (pc2 := 45) (ls2 := [(3, .int ((nI c) - (nI c) / 8 * 8)), (2, .int ((nI c) / 8)), (0, .int (nI c)), (1, .int (nI 0))]) (st2 := [.int (nI c)]) (w3 := w) rfl rfl ?_
      refine sx_RP.step (pc2 := 47) (ls2 := [(3, .int ((nI c) - (nI c) / 8 * 8)), (2, .int ((nI c) / 8)), (0, .int (nI c)), (1, .int (nI 0))]) (st2 := [.int 8, .int (nI c)]) (w3 := w) rfl rfl ?_
      refine sx_RP.step (pc2 := 48) (ls2 := [(3, .int ((nI c) - (nI c) / 8 * 8)), (2, .int ((nI c) / 8)), (0, .int (nI c)), (1, .int (nI 0))]) (st2 := [.int ((nI c) - 8)]) (w3 := w) rfl rfl ?_
      refine sx_RP.ret (r := (some (.int ((nI c) - 8)))) rfl rfl ?_
      exact ⟨congrArg (fun z => some (Value.int z)) (show _ = (if nI c < 8 then -1 else nI c - 8) from by rw [if_neg (fun z => q1 ((bsd_m0 c hc).mpr z))]), rfl⟩
    · replace q1 := Decidable.not_not.mp (of_decide_eq_false q1)
      refine sx_RP.step (pc2 := 41) (ls2 := [(3, .int ((nI c) - (nI c) / 8 * 8)), (2, .int ((nI c) / 8)), (0, .int (nI c)), (1, .int (nI 0))]) (st2 := [.int (-1)]) (w3 := w) rfl rfl ?_
      refine sx_RP.step (pc2 := 48) (ls2 := [(3, .int ((nI c) - (nI c) / 8 * 8)), (2, .int ((nI c) / 8)), (0, .int (nI c)), (1, .int (nI 0))]) (st2 := [.int (-1)]) (w3 := w) rfl rfl ?_
      refine sx_RP.ret (r := (some (.int (-1)))) rfl rfl ?_
      exact ⟨congrArg (fun z => some (Value.int z)) (show _ = (if nI c < 8 then -1 else nI c - 8) from by rw [if_pos ((bsd_m0 c hc).mp q1)]), rfl⟩
  obtain ⟨r, w2, h1, rfl, rfl⟩ := h
  exact h1
set_option maxRecDepth 20000 in
set_option maxHeartbeats 4000000 in
theorem cb_142_1 {xs : Option (List Int32)} {d : Nat} {w : List sx_C} {c : Nat} (hc : c < 48) : sx_RU xs d 142 0 (lv_args 0 [.int (nI c), .int (nI 1)]) [] w (some (.int (bsd c 1))) w := by
  have h : sx_RP xs d 142 0 (lv_args 0 [.int (nI c), .int (nI 1)]) [] w (fun r w2 => r = (some (.int (bsd c 1))) ∧ w2 = w) := by
    refine sx_RP.step (pc2 := 1) (ls2 := [(0, .int (nI c)), (1, .int (nI 1))]) (st2 := [.int (nI c)]) (w3 := w) rfl rfl ?_
    refine sx_RP.step (pc2 := 3) (ls2 := [(0, .int (nI c)), (1, .int (nI 1))]) (st2 := [.int 8, .int (nI c)]) (w3 := w) rfl rfl ?_
    refine sx_RP.step (pc2 := 4) (ls2 := [(0, .int (nI c)), (1, .int (nI 1))]) (st2 := [.int ((nI c) / 8)]) (w3 := w) rfl rfl ?_
    refine sx_RP.step (pc2 := 5) (ls2 := [(2, .int ((nI c) / 8)), (0, .int (nI c)), (1, .int (nI 1))]) (st2 := []) (w3 := w) rfl rfl ?_
    refine sx_RP.step (pc2 := 6) (ls2 := [(2, .int ((nI c) / 8)), (0, .int (nI c)), (1, .int (nI 1))]) (st2 := [.int (nI c)]) (w3 := w) rfl rfl ?_
    refine sx_RP.step (pc2 := 8) (ls2 := [(2, .int ((nI c) / 8)), (0, .int (nI c)), (1, .int (nI 1))]) (st2 := [.int 8, .int (nI c)]) (w3 := w) rfl rfl ?_
    refine sx_RP.step (pc2 := 9) (ls2 := [(2, .int ((nI c) / 8)), (0, .int (nI c)), (1, .int (nI 1))]) (st2 := [.int ((nI c) - (nI c) / 8 * 8)]) (w3 := w) rfl rfl ?_
    refine sx_RP.step (pc2 := 10) (ls2 := [(3, .int ((nI c) - (nI c) / 8 * 8)), (2, .int ((nI c) / 8)), (0, .int (nI c)), (1, .int (nI 1))]) (st2 := []) (w3 := w) rfl rfl ?_
    refine sx_RP.step (pc2 := 11) (ls2 := [(3, .int ((nI c) - (nI c) / 8 * 8)), (2, .int ((nI c) / 8)), (0, .int (nI c)), (1, .int (nI 1))]) (st2 := [.int (nI 1)]) (w3 := w) rfl rfl ?_
    refine sx_RP.step (pc2 := 49) (ls2 := [(3, .int ((nI c) - (nI c) / 8 * 8)), (2, .int ((nI c) / 8)), (0, .int (nI c)), (1, .int (nI 1))]) (st2 := []) (w3 := w) rfl rfl ?_
    refine sx_RP.step (pc2 := 50) (ls2 := [(3, .int ((nI c) - (nI c) / 8 * 8)), (2, .int ((nI c) / 8)), (0, .int (nI c)), (1, .int (nI 1))]) (st2 := [.int ((nI c) - (nI c) / 8 * 8)]) (w3 := w) rfl rfl ?_
    refine sx_RP.step (pc2 := 52) (ls2 := [(3, .int ((nI c) - (nI c) / 8 * 8)), (2, .int ((nI c) / 8)), (0, .int (nI c)), (1, .int (nI 1))]) (st2 := [.int 7, .int ((nI c) - (nI c) / 8 * 8)]) (w3 := w) rfl rfl ?_
    refine sx_RP.br (p1 := 59) (l1 := [(3, .int ((nI c) - (nI c) / 8 * 8)), (2, .int ((nI c) / 8)), (0, .int (nI c)), (1, .int (nI 1))]) (s1 := []) (v1 := w) (p2 := 55) (l2 := [(3, .int ((nI c) - (nI c) / 8 * 8)), (2, .int ((nI c) / 8)), (0, .int (nI c)), (1, .int (nI 1))]) (s2 := []) (v2 := w) rfl rfl (fun q1 => ?_) (fun q1 => ?_)
    · replace q1 := of_decide_eq_true q1
      refine sx_RP.step (pc2 := 60) (ls2 := [(3, .int ((nI c) - (nI c) / 8 * 8)), (2, .int ((nI c) / 8)), (0, .int (nI c)), (1, .int (nI 1))]) (st2 := [.int (nI c)]) (w3 := w) rfl rfl ?_
      refine sx_RP.step (pc2 := 61) (ls2 := [(3, .int ((nI c) - (nI c) / 8 * 8)), (2, .int ((nI c) / 8)), (0, .int (nI c)), (1, .int (nI 1))]) (st2 := [.int 1, .int (nI c)]) (w3 := w) rfl rfl ?_
      refine sx_RP.step (pc2 := 62) (ls2 := [(3, .int ((nI c) - (nI c) / 8 * 8)), (2, .int ((nI c) / 8)), (0, .int (nI c)), (1, .int (nI 1))]) (st2 := [.int ((nI c) + 1)]) (w3 := w) rfl rfl ?_
      refine sx_RP.ret (r := (some (.int ((nI c) + 1)))) rfl rfl ?_
      exact ⟨congrArg (fun z => some (Value.int z)) (show _ = (if 7 ≤ nI c - nI c / 8 * 8 then -1 else nI c + 1) from by rw [if_neg (fun z => q1 ((bsd_m1 c hc).mpr z))]), rfl⟩
    · replace q1 := Decidable.not_not.mp (of_decide_eq_false q1)
      refine sx_RP.step (pc2 := 56) (ls2 := [(3, .int ((nI c) - (nI c) / 8 * 8)), (2, .int ((nI c) / 8)), (0, .int (nI c)), (1, .int (nI 1))]) (st2 := [.int (-1)]) (w3 := w) rfl rfl ?_
      refine sx_RP.step (pc2 := 62) (ls2 := [(3, .int ((nI c) - (nI c) / 8 * 8)), (2, .int ((nI c) / 8)), (0, .int (nI c)), (1, .int (nI 1))]) (st2 := [.int (-1)]) (w3 := w) rfl rfl ?_
      refine sx_RP.ret (r := (some (.int (-1)))) rfl rfl ?_
      exact ⟨congrArg (fun z => some (Value.int z)) (show _ = (if 7 ≤ nI c - nI c / 8 * 8 then -1 else nI c + 1) from by rw [if_pos ((bsd_m1 c hc).mp q1)]), rfl⟩
  obtain ⟨r, w2, h1, rfl, rfl⟩ := h
  exact h1
set_option maxRecDepth 20000 in
set_option maxHeartbeats 4000000 in
theorem cb_142_2 {xs : Option (List Int32)} {d : Nat} {w : List sx_C} {c : Nat} (hc : c < 48) : sx_RU xs d 142 0 (lv_args 0 [.int (nI c), .int (nI 2)]) [] w (some (.int (bsd c 2))) w := by
  have h : sx_RP xs d 142 0 (lv_args 0 [.int (nI c), .int (nI 2)]) [] w (fun r w2 => r = (some (.int (bsd c 2))) ∧ w2 = w) := by
    refine sx_RP.step (pc2 := 1) (ls2 := [(0, .int (nI c)), (1, .int (nI 2))]) (st2 := [.int (nI c)]) (w3 := w) rfl rfl ?_
    refine sx_RP.step (pc2 := 3) (ls2 := [(0, .int (nI c)), (1, .int (nI 2))]) (st2 := [.int 8, .int (nI c)]) (w3 := w) rfl rfl ?_
    refine sx_RP.step (pc2 := 4) (ls2 := [(0, .int (nI c)), (1, .int (nI 2))]) (st2 := [.int ((nI c) / 8)]) (w3 := w) rfl rfl ?_
    refine sx_RP.step (pc2 := 5) (ls2 := [(2, .int ((nI c) / 8)), (0, .int (nI c)), (1, .int (nI 2))]) (st2 := []) (w3 := w) rfl rfl ?_
    refine sx_RP.step (pc2 := 6) (ls2 := [(2, .int ((nI c) / 8)), (0, .int (nI c)), (1, .int (nI 2))]) (st2 := [.int (nI c)]) (w3 := w) rfl rfl ?_
    refine sx_RP.step (pc2 := 8) (ls2 := [(2, .int ((nI c) / 8)), (0, .int (nI c)), (1, .int (nI 2))]) (st2 := [.int 8, .int (nI c)]) (w3 := w) rfl rfl ?_
    refine sx_RP.step (pc2 := 9) (ls2 := [(2, .int ((nI c) / 8)), (0, .int (nI c)), (1, .int (nI 2))]) (st2 := [.int ((nI c) - (nI c) / 8 * 8)]) (w3 := w) rfl rfl ?_
    refine sx_RP.step (pc2 := 10) (ls2 := [(3, .int ((nI c) - (nI c) / 8 * 8)), (2, .int ((nI c) / 8)), (0, .int (nI c)), (1, .int (nI 2))]) (st2 := []) (w3 := w) rfl rfl ?_
    refine sx_RP.step (pc2 := 11) (ls2 := [(3, .int ((nI c) - (nI c) / 8 * 8)), (2, .int ((nI c) / 8)), (0, .int (nI c)), (1, .int (nI 2))]) (st2 := [.int (nI 2)]) (w3 := w) rfl rfl ?_
    refine sx_RP.step (pc2 := 63) (ls2 := [(3, .int ((nI c) - (nI c) / 8 * 8)), (2, .int ((nI c) / 8)), (0, .int (nI c)), (1, .int (nI 2))]) (st2 := []) (w3 := w) rfl rfl ?_
    refine sx_RP.step (pc2 := 64) (ls2 := [(3, .int ((nI c) - (nI c) / 8 * 8)), (2, .int ((nI c) / 8)), (0, .int (nI c)), (1, .int (nI 2))]) (st2 := [.int ((nI c) / 8)]) (w3 := w) rfl rfl ?_
    refine sx_RP.step (pc2 := 65) (ls2 := [(3, .int ((nI c) - (nI c) / 8 * 8)), (2, .int ((nI c) / 8)), (0, .int (nI c)), (1, .int (nI 2))]) (st2 := [.int 5, .int ((nI c) / 8)]) (w3 := w) rfl rfl ?_
    refine sx_RP.br (p1 := 72) (l1 := [(3, .int ((nI c) - (nI c) / 8 * 8)), (2, .int ((nI c) / 8)), (0, .int (nI c)), (1, .int (nI 2))]) (s1 := []) (v1 := w) (p2 := 68) (l2 := [(3, .int ((nI c) - (nI c) / 8 * 8)), (2, .int ((nI c) / 8)), (0, .int (nI c)), (1, .int (nI 2))]) (s2 := []) (v2 := w) rfl rfl (fun q1 => ?_) (fun q1 => ?_)
    · replace q1 := of_decide_eq_true q1
      refine sx_RP.step (pc2 := 73) (ls2 := [(3, .int ((nI c) - (nI c) / 8 * 8)), (2, .int ((nI c) / 8)), (0, .int (nI c)), (1, .int (nI 2))]) (st2 := [.int (nI c)]) (w3 := w) rfl rfl ?_
      refine sx_RP.step (pc2 := 75) (ls2 := [(3, .int ((nI c) - (nI c) / 8 * 8)), (2, .int ((nI c) / 8)), (0, .int (nI c)), (1, .int (nI 2))]) (st2 := [.int 8, .int (nI c)]) (w3 := w) rfl rfl ?_
      refine sx_RP.step (pc2 := 76) (ls2 := [(3, .int ((nI c) - (nI c) / 8 * 8)), (2, .int ((nI c) / 8)), (0, .int (nI c)), (1, .int (nI 2))]) (st2 := [.int ((nI c) + 8)]) (w3 := w) rfl rfl ?_
      refine sx_RP.ret (r := (some (.int ((nI c) + 8)))) rfl rfl ?_
      exact ⟨congrArg (fun z => some (Value.int z)) (show _ = (if 40 ≤ nI c then -1 else nI c + 8) from by rw [if_neg (fun z => q1 ((bsd_m2 c hc).mpr z))]), rfl⟩
    · replace q1 := Decidable.not_not.mp (of_decide_eq_false q1)
      refine sx_RP.step (pc2 := 69) (ls2 := [(3, .int ((nI c) - (nI c) / 8 * 8)), (2, .int ((nI c) / 8)), (0, .int (nI c)), (1, .int (nI 2))]) (st2 := [.int (-1)]) (w3 := w) rfl rfl ?_
      refine sx_RP.step (pc2 := 76) (ls2 := [(3, .int ((nI c) - (nI c) / 8 * 8)), (2, .int ((nI c) / 8)), (0, .int (nI c)), (1, .int (nI 2))]) (st2 := [.int (-1)]) (w3 := w) rfl rfl ?_
      refine sx_RP.ret (r := (some (.int (-1)))) rfl rfl ?_
      exact ⟨congrArg (fun z => some (Value.int z)) (show _ = (if 40 ≤ nI c then -1 else nI c + 8) from by rw [if_pos ((bsd_m2 c hc).mp q1)]), rfl⟩
  obtain ⟨r, w2, h1, rfl, rfl⟩ := h
  exact h1
set_option maxRecDepth 20000 in
set_option maxHeartbeats 4000000 in
theorem cb_142_3 {xs : Option (List Int32)} {d : Nat} {w : List sx_C} {c : Nat} (hc : c < 48) : sx_RU xs d 142 0 (lv_args 0 [.int (nI c), .int (nI 3)]) [] w (some (.int (bsd c 3))) w := by
  have h : sx_RP xs d 142 0 (lv_args 0 [.int (nI c), .int (nI 3)]) [] w (fun r w2 => r = (some (.int (bsd c 3))) ∧ w2 = w) := by
    refine sx_RP.step (pc2 := 1) (ls2 := [(0, .int (nI c)), (1, .int (nI 3))]) (st2 := [.int (nI c)]) (w3 := w) rfl rfl ?_
    refine sx_RP.step (pc2 := 3) (ls2 := [(0, .int (nI c)), (1, .int (nI 3))]) (st2 := [.int 8, .int (nI c)]) (w3 := w) rfl rfl ?_
    refine sx_RP.step (pc2 := 4) (ls2 := [(0, .int (nI c)), (1, .int (nI 3))]) (st2 := [.int ((nI c) / 8)]) (w3 := w) rfl rfl ?_
    refine sx_RP.step (pc2 := 5) (ls2 := [(2, .int ((nI c) / 8)), (0, .int (nI c)), (1, .int (nI 3))]) (st2 := []) (w3 := w) rfl rfl ?_
    refine sx_RP.step (pc2 := 6) (ls2 := [(2, .int ((nI c) / 8)), (0, .int (nI c)), (1, .int (nI 3))]) (st2 := [.int (nI c)]) (w3 := w) rfl rfl ?_
    refine sx_RP.step (pc2 := 8) (ls2 := [(2, .int ((nI c) / 8)), (0, .int (nI c)), (1, .int (nI 3))]) (st2 := [.int 8, .int (nI c)]) (w3 := w) rfl rfl ?_
    refine sx_RP.step (pc2 := 9) (ls2 := [(2, .int ((nI c) / 8)), (0, .int (nI c)), (1, .int (nI 3))]) (st2 := [.int ((nI c) - (nI c) / 8 * 8)]) (w3 := w) rfl rfl ?_
    refine sx_RP.step (pc2 := 10) (ls2 := [(3, .int ((nI c) - (nI c) / 8 * 8)), (2, .int ((nI c) / 8)), (0, .int (nI c)), (1, .int (nI 3))]) (st2 := []) (w3 := w) rfl rfl ?_
    refine sx_RP.step (pc2 := 11) (ls2 := [(3, .int ((nI c) - (nI c) / 8 * 8)), (2, .int ((nI c) / 8)), (0, .int (nI c)), (1, .int (nI 3))]) (st2 := [.int (nI 3)]) (w3 := w) rfl rfl ?_
    refine sx_RP.step (pc2 := 77) (ls2 := [(3, .int ((nI c) - (nI c) / 8 * 8)), (2, .int ((nI c) / 8)), (0, .int (nI c)), (1, .int (nI 3))]) (st2 := []) (w3 := w) rfl rfl ?_
    refine sx_RP.step (pc2 := 78) (ls2 := [(3, .int ((nI c) - (nI c) / 8 * 8)), (2, .int ((nI c) / 8)), (0, .int (nI c)), (1, .int (nI 3))]) (st2 := [.int ((nI c) - (nI c) / 8 * 8)]) (w3 := w) rfl rfl ?_
    refine sx_RP.br (p1 := 85) (l1 := [(3, .int ((nI c) - (nI c) / 8 * 8)), (2, .int ((nI c) / 8)), (0, .int (nI c)), (1, .int (nI 3))]) (s1 := []) (v1 := w) (p2 := 81) (l2 := [(3, .int ((nI c) - (nI c) / 8 * 8)), (2, .int ((nI c) / 8)), (0, .int (nI c)), (1, .int (nI 3))]) (s2 := []) (v2 := w) rfl rfl (fun q1 => ?_) (fun q1 => ?_)
    · replace q1 := of_decide_eq_true q1
      refine sx_RP.step (pc2 := 86) (ls2 := [(3, .int ((nI c) - (nI c) / 8 * 8)), (2, .int ((nI c) / 8)), (0, .int (nI c)), (1, .int (nI 3))]) (st2 := [.int (nI c)]) (w3 := w) rfl rfl ?_
      refine sx_RP.step (pc2 := 87) (ls2 := [(3, .int ((nI c) - (nI c) / 8 * 8)), (2, .int ((nI c) / 8)), (0, .int (nI c)), (1, .int (nI 3))]) (st2 := [.int 1, .int (nI c)]) (w3 := w) rfl rfl ?_
      refine sx_RP.step (pc2 := 88) (ls2 := [(3, .int ((nI c) - (nI c) / 8 * 8)), (2, .int ((nI c) / 8)), (0, .int (nI c)), (1, .int (nI 3))]) (st2 := [.int ((nI c) - 1)]) (w3 := w) rfl rfl ?_
      refine sx_RP.ret (r := (some (.int ((nI c) - 1)))) rfl rfl ?_
      exact ⟨congrArg (fun z => some (Value.int z)) (show _ = (if nI c - nI c / 8 * 8 ≤ 0 then -1 else nI c - 1) from by rw [if_neg (fun z => q1 ((bsd_m3 c hc).mpr z))]), rfl⟩
    · replace q1 := Decidable.not_not.mp (of_decide_eq_false q1)
      refine sx_RP.step (pc2 := 82) (ls2 := [(3, .int ((nI c) - (nI c) / 8 * 8)), (2, .int ((nI c) / 8)), (0, .int (nI c)), (1, .int (nI 3))]) (st2 := [.int (-1)]) (w3 := w) rfl rfl ?_
      refine sx_RP.step (pc2 := 88) (ls2 := [(3, .int ((nI c) - (nI c) / 8 * 8)), (2, .int ((nI c) / 8)), (0, .int (nI c)), (1, .int (nI 3))]) (st2 := [.int (-1)]) (w3 := w) rfl rfl ?_
      refine sx_RP.ret (r := (some (.int (-1)))) rfl rfl ?_
      exact ⟨congrArg (fun z => some (Value.int z)) (show _ = (if nI c - nI c / 8 * 8 ≤ 0 then -1 else nI c - 1) from by rw [if_pos ((bsd_m3 c hc).mp q1)]), rfl⟩
  obtain ⟨r, w2, h1, rfl, rfl⟩ := h
  exact h1
theorem cb_142 {xs : Option (List Int32)} {d : Nat} {w : List sx_C} {c : Nat} (hc : c < 48) : ∀ j, j < 4 → sx_RU xs d 142 0 (lv_args 0 [.int (nI c), .int (nI j)]) [] w (some (.int (bsd c j))) w
  | 0, _ => cb_142_0 hc
  | 1, _ => cb_142_1 hc
  | 2, _ => cb_142_2 hc
  | 3, _ => cb_142_3 hc
end
-- 38b.least.lean.txt
section
def lb1 (s : List Int32) (n m : Int32) : Int32 := if n = -1 then m else if m ≤ s.getD n.toNatClampNeg 0 then m else s.getD n.toNatClampNeg 0
def lbF (s : List Int32) (c : Nat) : Nat → Nat → Int32 → Int32
  | 0, _, m => m
  | k + 1, j, m => lbF s c k (j + 1) (lb1 s (bsd c j) m)
set_option maxRecDepth 20000 in
set_option maxHeartbeats 4000000 in
theorem cq_19 {xs : Option (List Int32)} {d : Nat} {w : List sx_C} {P : Option Value → List sx_C → Prop} {b c j : Nat} {m : Int32} {s : List Int32} (hb : w[b]? = some (.inl (0, s))) (hs : s.length = 48) (hc : c < 48) (hj : j < 4) (k : sx_RP xs (d + 1) 19 5 [(0, .int (nI c)), (1, .ref b), (2, .int (lb1 s (bsd c j) m)), (3, .int (nI (j + 1)))] [] w P) : sx_RP xs (d + 1) 19 5 [(0, .int (nI c)), (1, .ref b), (2, .int m), (3, .int (nI j))] [] w P := by
  refine sx_RP.step (pc2 := 6) (ls2 := [(0, .int (nI c)), (1, .ref b), (2, .int m), (3, .int (nI j))]) (st2 := [.int (nI j)]) (w3 := w) rfl rfl ?_
  refine sx_RP.step (pc2 := 7) (ls2 := [(0, .int (nI c)), (1, .ref b), (2, .int m), (3, .int (nI j))]) (st2 := [.int 4, .int (nI j)]) (w3 := w) rfl rfl ?_
  refine sx_RP.br (p2 := 10) (l2 := [(0, .int (nI c)), (1, .ref b), (2, .int m), (3, .int (nI j))]) (s2 := []) (v2 := w) rfl rfl (fun q => absurd (of_decide_eq_true q) (nI_ge (b := 4) hj (by omega))) (fun _ => ?_)
  refine sx_RP.step (pc2 := 11) (ls2 := [(0, .int (nI c)), (1, .ref b), (2, .int m), (3, .int (nI j))]) (st2 := [.int (nI c)]) (w3 := w) rfl rfl ?_
  refine sx_RP.step (pc2 := 12) (ls2 := [(0, .int (nI c)), (1, .ref b), (2, .int m), (3, .int (nI j))]) (st2 := [.int (nI j), .int (nI c)]) (w3 := w) rfl rfl ?_
  refine sx_RP.cu (as := [.int (nI c), .int (nI j)]) (rest2 := []) (st3 := [.int (bsd c j)]) rfl rfl rfl rfl rfl (cb_20 hc j hj) rfl ?_
  refine sx_RP.step (pc2 := 17) (ls2 := [(4, .int (bsd c j)), (0, .int (nI c)), (1, .ref b), (2, .int m), (3, .int (nI j))]) (st2 := []) (w3 := w) rfl rfl ?_
  refine sx_RP.step (pc2 := 19) (ls2 := [(4, .int (bsd c j)), (0, .int (nI c)), (1, .ref b), (2, .int m), (3, .int (nI j))]) (st2 := [.int (bsd c j)]) (w3 := w) rfl rfl ?_
  refine sx_RP.step (pc2 := 20) (ls2 := [(4, .int (bsd c j)), (0, .int (nI c)), (1, .ref b), (2, .int m), (3, .int (nI j))]) (st2 := [.int (-1), .int (bsd c j)]) (w3 := w) rfl rfl ?_
  refine sx_RP.br (p1 := 36) (l1 := [(4, .int (bsd c j)), (0, .int (nI c)), (1, .ref b), (2, .int m), (3, .int (nI j))]) (s1 := []) (v1 := w) (p2 := 23) (l2 := [(4, .int (bsd c j)), (0, .int (nI c)), (1, .ref b), (2, .int m), (3, .int (nI j))]) (s2 := []) (v2 := w) rfl rfl (fun q1 => ?_) (fun q1 => ?_)
  · replace q1 := of_decide_eq_true q1
    refine sx_RP.step (pc2 := 39) (ls2 := [(3, .int ((nI j) + 1)), (4, .int (bsd c j)), (0, .int (nI c)), (1, .ref b), (2, .int m)]) (st2 := []) (w3 := w) rfl rfl ?_
    refine sx_RP.step (pc2 := 5) (ls2 := [(3, .int ((nI j) + 1)), (4, .int (bsd c j)), (0, .int (nI c)), (1, .ref b), (2, .int m)]) (st2 := []) (w3 := w) rfl rfl ?_
    rw [show lb1 s (bsd c j) m = m from by rw [lb1]; rw [if_pos q1]] at k
    rw [nI_1 j]
    exact sx_RP.ls (sx_lr.cons rfl (sx_lr.cons rfl (sx_lr.cons rfl (sx_lr.cons rfl sx_lr.nil)))) k
  · replace q1 := of_decide_eq_false q1
    refine sx_RP.step (pc2 := 24) (ls2 := [(4, .int (bsd c j)), (0, .int (nI c)), (1, .ref b), (2, .int m), (3, .int (nI j))]) (st2 := [.ref b]) (w3 := w) rfl rfl ?_
    refine sx_RP.step (pc2 := 26) (ls2 := [(4, .int (bsd c j)), (0, .int (nI c)), (1, .ref b), (2, .int m), (3, .int (nI j))]) (st2 := [.int (bsd c j), .ref b]) (w3 := w) rfl rfl ?_
    refine sx_RP.ild (c := ((bsd c j).toNatClampNeg)) rfl hb hs ((bsd_in c hc j hj).resolve_left q1) rfl (show _ = 27 from rfl) ?_
    refine sx_RP.step (pc2 := 28) (ls2 := [(4, .int (bsd c j)), (0, .int (nI c)), (1, .ref b), (2, .int m), (3, .int (nI j))]) (st2 := [.int m, .int (s.getD ((bsd c j).toNatClampNeg) 0)]) (w3 := w) rfl rfl ?_
    refine sx_RP.br (p1 := 36) (l1 := [(4, .int (bsd c j)), (0, .int (nI c)), (1, .ref b), (2, .int m), (3, .int (nI j))]) (s1 := []) (v1 := w) (p2 := 31) (l2 := [(4, .int (bsd c j)), (0, .int (nI c)), (1, .ref b), (2, .int m), (3, .int (nI j))]) (s2 := []) (v2 := w) rfl rfl (fun q2 => ?_) (fun q2 => ?_)
    · replace q2 := of_decide_eq_true q2
      refine sx_RP.step (pc2 := 39) (ls2 := [(3, .int ((nI j) + 1)), (4, .int (bsd c j)), (0, .int (nI c)), (1, .ref b), (2, .int m)]) (st2 := []) (w3 := w) rfl rfl ?_
      refine sx_RP.step (pc2 := 5) (ls2 := [(3, .int ((nI j) + 1)), (4, .int (bsd c j)), (0, .int (nI c)), (1, .ref b), (2, .int m)]) (st2 := []) (w3 := w) rfl rfl ?_
      rw [show lb1 s (bsd c j) m = m from by rw [lb1]; rw [if_neg q1, if_pos q2]] at k
      rw [nI_1 j]
      exact sx_RP.ls (sx_lr.cons rfl (sx_lr.cons rfl (sx_lr.cons rfl (sx_lr.cons rfl sx_lr.nil)))) k
    · replace q2 := of_decide_eq_false q2
      refine sx_RP.step (pc2 := 32) (ls2 := [(4, .int (bsd c j)), (0, .int (nI c)), (1, .ref b), (2, .int m), (3, .int (nI j))]) (st2 := [.ref b]) (w3 := w) rfl rfl ?_
      refine sx_RP.step (pc2 := 34) (ls2 := [(4, .int (bsd c j)), (0, .int (nI c)), (1, .ref b), (2, .int m), (3, .int (nI j))]) (st2 := [.int (bsd c j), .ref b]) (w3 := w) rfl rfl ?_
      refine sx_RP.ild (c := ((bsd c j).toNatClampNeg)) rfl hb hs ((bsd_in c hc j hj).resolve_left q1) rfl (show _ = 35 from rfl) ?_
      refine sx_RP.step (pc2 := 36) (ls2 := [(2, .int (s.getD ((bsd c j).toNatClampNeg) 0)), (4, .int (bsd c j)), (0, .int (nI c)), (1, .ref b), (3, .int (nI j))]) (st2 := []) (w3 := w) rfl rfl ?_
      refine sx_RP.step (pc2 := 39) (ls2 := [(3, .int ((nI j) + 1)), (2, .int (s.getD ((bsd c j).toNatClampNeg) 0)), (4, .int (bsd c j)), (0, .int (nI c)), (1, .ref b)]) (st2 := []) (w3 := w) rfl rfl ?_
      refine sx_RP.step (pc2 := 5) (ls2 := [(3, .int ((nI j) + 1)), (2, .int (s.getD ((bsd c j).toNatClampNeg) 0)), (4, .int (bsd c j)), (0, .int (nI c)), (1, .ref b)]) (st2 := []) (w3 := w) rfl rfl ?_
      rw [show lb1 s (bsd c j) m = s.getD ((bsd c j).toNatClampNeg) 0 from by rw [lb1]; rw [if_neg q1, if_neg q2]] at k
      rw [nI_1 j]
      exact sx_RP.ls (sx_lr.cons rfl (sx_lr.cons rfl (sx_lr.cons rfl (sx_lr.cons rfl sx_lr.nil)))) k
set_option maxRecDepth 20000 in
set_option maxHeartbeats 4000000 in
theorem cp_19L {xs : Option (List Int32)} {d : Nat} {w : List sx_C} {b c : Nat} {s : List Int32} (hb : w[b]? = some (.inl (0, s))) (hs : s.length = 48) (hc : c < 48) : ∀ (k j : Nat) (m : Int32), j + k = 4 → sx_RP xs (d + 1) 19 5 [(0, .int (nI c)), (1, .ref b), (2, .int m), (3, .int (nI j))] [] w (fun r w2 => r = some (.int (lbF s c k j m)) ∧ w2 = w)
  | 0, j, m, h => by
    obtain rfl : j = 4 := by omega
    refine sx_RP.step (pc2 := 6) (ls2 := [(0, .int (nI c)), (1, .ref b), (2, .int m), (3, .int (nI 4))]) (st2 := [.int (nI 4)]) (w3 := w) rfl rfl ?_
    refine sx_RP.step (pc2 := 7) (ls2 := [(0, .int (nI c)), (1, .ref b), (2, .int m), (3, .int (nI 4))]) (st2 := [.int 4, .int (nI 4)]) (w3 := w) rfl rfl ?_
    refine sx_RP.step (pc2 := 42) (ls2 := [(0, .int (nI c)), (1, .ref b), (2, .int m), (3, .int (nI 4))]) (st2 := []) (w3 := w) rfl rfl ?_
    refine sx_RP.step (pc2 := 43) (ls2 := [(0, .int (nI c)), (1, .ref b), (2, .int m), (3, .int (nI 4))]) (st2 := [.int m]) (w3 := w) rfl rfl ?_
    refine sx_RP.ret (r := (some (.int m))) rfl rfl ?_
    exact ⟨rfl, rfl⟩
  | k + 1, j, m, h => cq_19 hb hs hc (by omega) (cp_19L hb hs hc k (j + 1) (lb1 s (bsd c j) m) (by omega))
set_option maxRecDepth 20000 in
set_option maxHeartbeats 4000000 in
theorem cp_19 {xs : Option (List Int32)} {d : Nat} {w : List sx_C} {b c : Nat} {s : List Int32} (hb : w[b]? = some (.inl (0, s))) (hs : s.length = 48) (hc : c < 48) : sx_RU xs (d + 1) 19 0 (lv_args 0 [.int (nI c), .ref b]) [] w (some (.int (lbF s c 4 0 1000000))) w := by
  have h : sx_RP xs (d + 1) 19 0 (lv_args 0 [.int (nI c), .ref b]) [] w (fun r w2 => r = (some (.int (lbF s c 4 0 1000000))) ∧ w2 = w) := by
    refine sx_RP.step (pc2 := 2) (ls2 := [(0, .int (nI c)), (1, .ref b)]) (st2 := [.int 1000000]) (w3 := w) rfl rfl ?_
    refine sx_RP.step (pc2 := 3) (ls2 := [(2, .int 1000000), (0, .int (nI c)), (1, .ref b)]) (st2 := []) (w3 := w) rfl rfl ?_
    refine sx_RP.step (pc2 := 4) (ls2 := [(2, .int 1000000), (0, .int (nI c)), (1, .ref b)]) (st2 := [.int 0]) (w3 := w) rfl rfl ?_
    refine sx_RP.step (pc2 := 5) (ls2 := [(3, .int 0), (2, .int 1000000), (0, .int (nI c)), (1, .ref b)]) (st2 := []) (w3 := w) rfl rfl ?_
    exact sx_RP.ls (sx_lr.cons rfl (sx_lr.cons rfl (sx_lr.cons rfl (sx_lr.cons rfl sx_lr.nil)))) (cp_19L hb hs hc 4 0 1000000 rfl)
  obtain ⟨r, w2, h1, rfl, rfl⟩ := h
  exact h1
end
-- 38c.spread.lean.txt
section
def rx (cs : List Int32) (p : List Int32 × Int32) (c : Nat) : List Int32 × Int32 := if cs.getD c 0 = -1 then p else if p.1.getD c 0 ≤ lbF p.1 c 4 0 1000000 + cs.getD c 0 then p else (p.1.set c (lbF p.1 c 4 0 1000000 + cs.getD c 0), 1)
def swF (cs : List Int32) (e : Bool) : Nat → Nat → List Int32 × Int32 → List Int32 × Int32
  | 0, _, p => p
  | k + 1, i, p => swF cs e k (i + 1) (rx cs p (cond e i (47 - i)))
def evn (r : Nat) : Bool := Nat.beq (r % 2) 0
def rdF (cs : List Int32) : Nat → Nat → List Int32 × Int32 → List Int32
  | 0, _, p => p.1
  | k + 1, r, p => if p.2 = 0 then p.1 else rdF cs k (r + 1) (swF cs (evn r) 48 0 (p.1, 0))
def flF (v : Int32) : Nat → Nat → List Int32 → List Int32
  | 0, _, l => l
  | k + 1, j, l => flF v k (j + 1) (l.set j v)
def spF (cs : List Int32) (src : Nat) (l : List Int32) : List Int32 := rdF cs 48 0 ((flF 1000000 48 0 l).set src 0, 1)
theorem evn_t : ∀ r, r < 48 → (evn r = true → nI r - nI r / 2 * 2 = 0) ∧ (evn r = false → ¬ nI r - nI r / 2 * 2 = 0) := by decide +kernel
theorem rx_len {cs : List Int32} {p : List Int32 × Int32} {c n : Nat} (h : p.1.length = n) : (rx cs p c).1.length = n := by
  unfold rx
  (repeat' split) <;> simp [h]
theorem swF_len {cs : List Int32} {e : Bool} {n : Nat} : ∀ (k i : Nat) (p : List Int32 × Int32), p.1.length = n → (swF cs e k i p).1.length = n
  | 0, _, _, h => h
  | k + 1, i, p, h => swF_len k (i + 1) _ (rx_len h)
theorem flF_len {v : Int32} {n : Nat} : ∀ (k j : Nat) (l : List Int32), l.length = n → (flF v k j l).length = n
  | 0, _, _, h => h
  | k + 1, j, l, h => flF_len k (j + 1) _ (by rw [List.length_set]; exact h)
theorem rdF_len {cs : List Int32} {n : Nat} : ∀ (k r : Nat) (p : List Int32 × Int32), p.1.length = n → (rdF cs k r p).length = n
  | 0, _, _, h => h
  | k + 1, r, p, h => by
    unfold rdF
    split
    · exact h
    · exact rdF_len k (r + 1) _ (swF_len 48 0 _ h)
theorem spF_len {cs l : List Int32} {src : Nat} (h : l.length = 48) : (spF cs src l).length = 48 := rdF_len _ _ _ (by rw [List.length_set]; exact flF_len _ _ _ h)
set_option maxRecDepth 20000 in
set_option maxHeartbeats 4000000 in
theorem cq_18e {xs : Option (List Int32)} {d : Nat} {w : List sx_C} {P : Option Value → List sx_C → Prop} {a b : Nat} {cs s0 : List Int32} (ha : w[a]? = some (.inl (0, cs))) (hb : w[b]? = some (.inl (0, s0))) (hab : a ≠ b) (hcs : cs.length = 48) {src ch : Int32} {cur : List Int32} {r i : Nat} (hcu : cur.length = 48) (hr : r < 48) (he : evn r = true) (hi : i < 48) (k : sx_RP xs (d + 2) 18 44 [(0, .int src), (1, .ref a), (2, .ref b), (3, .int ((rx cs (cur, ch) i).2)), (4, .int (nI r)), (5, .int (nI (i + 1)))] [] (w.set b (.inl (0, (rx cs (cur, ch) i).1))) P) : sx_RP xs (d + 2) 18 44 [(0, .int src), (1, .ref a), (2, .ref b), (3, .int ch), (4, .int (nI r)), (5, .int (nI i))] [] (w.set b (.inl (0, cur))) P := by
  refine sx_RP.step (pc2 := 46) (ls2 := [(0, .int src), (1, .ref a), (2, .ref b), (3, .int ch), (4, .int (nI r)), (5, .int (nI i))]) (st2 := [.int (nI i)]) (w3 := (w.set b (.inl (0, cur)))) rfl rfl ?_
  refine sx_RP.step (pc2 := 48) (ls2 := [(0, .int src), (1, .ref a), (2, .ref b), (3, .int ch), (4, .int (nI r)), (5, .int (nI i))]) (st2 := [.int 48, .int (nI i)]) (w3 := (w.set b (.inl (0, cur)))) rfl rfl ?_
  refine sx_RP.br (p2 := 51) (l2 := [(0, .int src), (1, .ref a), (2, .ref b), (3, .int ch), (4, .int (nI r)), (5, .int (nI i))]) (s2 := []) (v2 := (w.set b (.inl (0, cur)))) rfl rfl (fun q => absurd (of_decide_eq_true q) (nI_ge (b := 48) hi (by omega))) (fun _ => ?_)
  refine sx_RP.step (pc2 := 53) (ls2 := [(0, .int src), (1, .ref a), (2, .ref b), (3, .int ch), (4, .int (nI r)), (5, .int (nI i))]) (st2 := [.int (nI r)]) (w3 := (w.set b (.inl (0, cur)))) rfl rfl ?_
  refine sx_RP.step (pc2 := 54) (ls2 := [(0, .int src), (1, .ref a), (2, .ref b), (3, .int ch), (4, .int (nI r)), (5, .int (nI i))]) (st2 := [.int 2, .int (nI r)]) (w3 := (w.set b (.inl (0, cur)))) rfl rfl ?_
  refine sx_RP.step (pc2 := 55) (ls2 := [(0, .int src), (1, .ref a), (2, .ref b), (3, .int ch), (4, .int (nI r)), (5, .int (nI i))]) (st2 := [.int ((nI r) - (nI r) / 2 * 2)]) (w3 := (w.set b (.inl (0, cur)))) rfl rfl ?_
  refine sx_RP.br (p2 := 58) (l2 := [(0, .int src), (1, .ref a), (2, .ref b), (3, .int ch), (4, .int (nI r)), (5, .int (nI i))]) (s2 := []) (v2 := (w.set b (.inl (0, cur)))) rfl rfl (fun q => absurd (of_decide_eq_true q) (fun z => z ((evn_t r hr).1 he))) (fun _ => ?_)
  refine sx_RP.step (pc2 := 60) (ls2 := [(0, .int src), (1, .ref a), (2, .ref b), (3, .int ch), (4, .int (nI r)), (5, .int (nI i))]) (st2 := [.int (nI i)]) (w3 := (w.set b (.inl (0, cur)))) rfl rfl ?_
  refine sx_RP.step (pc2 := 68) (ls2 := [(0, .int src), (1, .ref a), (2, .ref b), (3, .int ch), (4, .int (nI r)), (5, .int (nI i))]) (st2 := [.int (nI i)]) (w3 := (w.set b (.inl (0, cur)))) rfl rfl ?_
  refine sx_RP.step (pc2 := 70) (ls2 := [(6, .int (nI i)), (0, .int src), (1, .ref a), (2, .ref b), (3, .int ch), (4, .int (nI r)), (5, .int (nI i))]) (st2 := []) (w3 := (w.set b (.inl (0, cur)))) rfl rfl ?_
  refine sx_RP.step (pc2 := 72) (ls2 := [(6, .int (nI i)), (0, .int src), (1, .ref a), (2, .ref b), (3, .int ch), (4, .int (nI r)), (5, .int (nI i))]) (st2 := [.int (nI i)]) (w3 := (w.set b (.inl (0, cur)))) rfl rfl ?_
  refine sx_RP.step (pc2 := 73) (ls2 := [(6, .int (nI i)), (0, .int src), (1, .ref a), (2, .ref b), (3, .int ch), (4, .int (nI r)), (5, .int (nI i))]) (st2 := [.ref b, .int (nI i)]) (w3 := (w.set b (.inl (0, cur)))) rfl rfl ?_
  refine sx_RP.cu (as := [.int (nI i), .ref b]) (rest2 := []) (st3 := [.int (lbF cur i 4 0 1000000)]) rfl rfl rfl rfl rfl (cp_19 (sx_gs2 hb) hcu hi) rfl ?_
  refine sx_RP.step (pc2 := 77) (ls2 := [(6, .int (nI i)), (0, .int src), (1, .ref a), (2, .ref b), (3, .int ch), (4, .int (nI r)), (5, .int (nI i))]) (st2 := [.ref a, .int (lbF cur i 4 0 1000000)]) (w3 := (w.set b (.inl (0, cur)))) rfl rfl ?_
  refine sx_RP.step (pc2 := 79) (ls2 := [(6, .int (nI i)), (0, .int src), (1, .ref a), (2, .ref b), (3, .int ch), (4, .int (nI r)), (5, .int (nI i))]) (st2 := [.int (nI i), .ref a, .int (lbF cur i 4 0 1000000)]) (w3 := (w.set b (.inl (0, cur)))) rfl rfl ?_
  refine sx_RP.ild (c := i) rfl (sx_gn2 hab ha) hcs (sx_in_nI hi (by decide)) (nI_clamp (by have := hi; omega)) (show _ = 80 from rfl) ?_
  refine sx_RP.step (pc2 := 81) (ls2 := [(6, .int (nI i)), (0, .int src), (1, .ref a), (2, .ref b), (3, .int ch), (4, .int (nI r)), (5, .int (nI i))]) (st2 := [.int ((lbF cur i 4 0 1000000) + (cs.getD i 0))]) (w3 := (w.set b (.inl (0, cur)))) rfl rfl ?_
  refine sx_RP.step (pc2 := 83) (ls2 := [(7, .int ((lbF cur i 4 0 1000000) + (cs.getD i 0))), (6, .int (nI i)), (0, .int src), (1, .ref a), (2, .ref b), (3, .int ch), (4, .int (nI r)), (5, .int (nI i))]) (st2 := []) (w3 := (w.set b (.inl (0, cur)))) rfl rfl ?_
  refine sx_RP.step (pc2 := 84) (ls2 := [(7, .int ((lbF cur i 4 0 1000000) + (cs.getD i 0))), (6, .int (nI i)), (0, .int src), (1, .ref a), (2, .ref b), (3, .int ch), (4, .int (nI r)), (5, .int (nI i))]) (st2 := [.ref a]) (w3 := (w.set b (.inl (0, cur)))) rfl rfl ?_
  refine sx_RP.step (pc2 := 86) (ls2 := [(7, .int ((lbF cur i 4 0 1000000) + (cs.getD i 0))), (6, .int (nI i)), (0, .int src), (1, .ref a), (2, .ref b), (3, .int ch), (4, .int (nI r)), (5, .int (nI i))]) (st2 := [.int (nI i), .ref a]) (w3 := (w.set b (.inl (0, cur)))) rfl rfl ?_
  refine sx_RP.ild (c := i) rfl (sx_gn2 hab ha) hcs (sx_in_nI hi (by decide)) (nI_clamp (by have := hi; omega)) (show _ = 87 from rfl) ?_
  refine sx_RP.step (pc2 := 88) (ls2 := [(7, .int ((lbF cur i 4 0 1000000) + (cs.getD i 0))), (6, .int (nI i)), (0, .int src), (1, .ref a), (2, .ref b), (3, .int ch), (4, .int (nI r)), (5, .int (nI i))]) (st2 := [.int (-1), .int (cs.getD i 0)]) (w3 := (w.set b (.inl (0, cur)))) rfl rfl ?_
  refine sx_RP.br (p1 := 108) (l1 := [(7, .int ((lbF cur i 4 0 1000000) + (cs.getD i 0))), (6, .int (nI i)), (0, .int src), (1, .ref a), (2, .ref b), (3, .int ch), (4, .int (nI r)), (5, .int (nI i))]) (s1 := []) (v1 := (w.set b (.inl (0, cur)))) (p2 := 91) (l2 := [(7, .int ((lbF cur i 4 0 1000000) + (cs.getD i 0))), (6, .int (nI i)), (0, .int src), (1, .ref a), (2, .ref b), (3, .int ch), (4, .int (nI r)), (5, .int (nI i))]) (s2 := []) (v2 := (w.set b (.inl (0, cur)))) rfl rfl (fun q1 => ?_) (fun q1 => ?_)
  · replace q1 := of_decide_eq_true q1
    refine sx_RP.step (pc2 := 111) (ls2 := [(5, .int ((nI i) + 1)), (7, .int ((lbF cur i 4 0 1000000) + (cs.getD i 0))), (6, .int (nI i)), (0, .int src), (1, .ref a), (2, .ref b), (3, .int ch), (4, .int (nI r))]) (st2 := []) (w3 := (w.set b (.inl (0, cur)))) rfl rfl ?_
    refine sx_RP.step (pc2 := 44) (ls2 := [(5, .int ((nI i) + 1)), (7, .int ((lbF cur i 4 0 1000000) + (cs.getD i 0))), (6, .int (nI i)), (0, .int src), (1, .ref a), (2, .ref b), (3, .int ch), (4, .int (nI r))]) (st2 := []) (w3 := (w.set b (.inl (0, cur)))) rfl rfl ?_
    rw [show rx cs (cur, ch) i = (cur, ch) from by rw [rx]; simp only [if_pos q1]] at k
    rw [nI_1 i]
    exact sx_RP.ls (sx_lr.cons rfl (sx_lr.cons rfl (sx_lr.cons rfl (sx_lr.cons rfl (sx_lr.cons rfl (sx_lr.cons rfl sx_lr.nil)))))) k
  · replace q1 := of_decide_eq_false q1
    refine sx_RP.step (pc2 := 93) (ls2 := [(7, .int ((lbF cur i 4 0 1000000) + (cs.getD i 0))), (6, .int (nI i)), (0, .int src), (1, .ref a), (2, .ref b), (3, .int ch), (4, .int (nI r)), (5, .int (nI i))]) (st2 := [.int ((lbF cur i 4 0 1000000) + (cs.getD i 0))]) (w3 := (w.set b (.inl (0, cur)))) rfl rfl ?_
    refine sx_RP.step (pc2 := 94) (ls2 := [(7, .int ((lbF cur i 4 0 1000000) + (cs.getD i 0))), (6, .int (nI i)), (0, .int src), (1, .ref a), (2, .ref b), (3, .int ch), (4, .int (nI r)), (5, .int (nI i))]) (st2 := [.ref b, .int ((lbF cur i 4 0 1000000) + (cs.getD i 0))]) (w3 := (w.set b (.inl (0, cur)))) rfl rfl ?_
    refine sx_RP.step (pc2 := 96) (ls2 := [(7, .int ((lbF cur i 4 0 1000000) + (cs.getD i 0))), (6, .int (nI i)), (0, .int src), (1, .ref a), (2, .ref b), (3, .int ch), (4, .int (nI r)), (5, .int (nI i))]) (st2 := [.int (nI i), .ref b, .int ((lbF cur i 4 0 1000000) + (cs.getD i 0))]) (w3 := (w.set b (.inl (0, cur)))) rfl rfl ?_
    refine sx_RP.ild (c := i) rfl (sx_gs2 hb) hcu (sx_in_nI hi (by decide)) (nI_clamp (by have := hi; omega)) (show _ = 97 from rfl) ?_
    refine sx_RP.br (p1 := 108) (l1 := [(7, .int ((lbF cur i 4 0 1000000) + (cs.getD i 0))), (6, .int (nI i)), (0, .int src), (1, .ref a), (2, .ref b), (3, .int ch), (4, .int (nI r)), (5, .int (nI i))]) (s1 := []) (v1 := (w.set b (.inl (0, cur)))) (p2 := 100) (l2 := [(7, .int ((lbF cur i 4 0 1000000) + (cs.getD i 0))), (6, .int (nI i)), (0, .int src), (1, .ref a), (2, .ref b), (3, .int ch), (4, .int (nI r)), (5, .int (nI i))]) (s2 := []) (v2 := (w.set b (.inl (0, cur)))) rfl rfl (fun q2 => ?_) (fun q2 => ?_)
    · replace q2 := of_decide_eq_true q2
      refine sx_RP.step (pc2 := 111) (ls2 := [(5, .int ((nI i) + 1)), (7, .int ((lbF cur i 4 0 1000000) + (cs.getD i 0))), (6, .int (nI i)), (0, .int src), (1, .ref a), (2, .ref b), (3, .int ch), (4, .int (nI r))]) (st2 := []) (w3 := (w.set b (.inl (0, cur)))) rfl rfl ?_
      refine sx_RP.step (pc2 := 44) (ls2 := [(5, .int ((nI i) + 1)), (7, .int ((lbF cur i 4 0 1000000) + (cs.getD i 0))), (6, .int (nI i)), (0, .int src), (1, .ref a), (2, .ref b), (3, .int ch), (4, .int (nI r))]) (st2 := []) (w3 := (w.set b (.inl (0, cur)))) rfl rfl ?_
      rw [show rx cs (cur, ch) i = (cur, ch) from by rw [rx]; simp only [if_neg q1, if_pos q2]] at k
      rw [nI_1 i]
      exact sx_RP.ls (sx_lr.cons rfl (sx_lr.cons rfl (sx_lr.cons rfl (sx_lr.cons rfl (sx_lr.cons rfl (sx_lr.cons rfl sx_lr.nil)))))) k
    · replace q2 := of_decide_eq_false q2
      refine sx_RP.step (pc2 := 101) (ls2 := [(7, .int ((lbF cur i 4 0 1000000) + (cs.getD i 0))), (6, .int (nI i)), (0, .int src), (1, .ref a), (2, .ref b), (3, .int ch), (4, .int (nI r)), (5, .int (nI i))]) (st2 := [.ref b]) (w3 := (w.set b (.inl (0, cur)))) rfl rfl ?_
      refine sx_RP.step (pc2 := 103) (ls2 := [(7, .int ((lbF cur i 4 0 1000000) + (cs.getD i 0))), (6, .int (nI i)), (0, .int src), (1, .ref a), (2, .ref b), (3, .int ch), (4, .int (nI r)), (5, .int (nI i))]) (st2 := [.int (nI i), .ref b]) (w3 := (w.set b (.inl (0, cur)))) rfl rfl ?_
      refine sx_RP.step (pc2 := 105) (ls2 := [(7, .int ((lbF cur i 4 0 1000000) + (cs.getD i 0))), (6, .int (nI i)), (0, .int src), (1, .ref a), (2, .ref b), (3, .int ch), (4, .int (nI r)), (5, .int (nI i))]) (st2 := [.int ((lbF cur i 4 0 1000000) + (cs.getD i 0)), .int (nI i), .ref b]) (w3 := (w.set b (.inl (0, cur)))) rfl rfl ?_
      refine sx_RP.ist (c := i) (w2 := (w.set b (.inl (0, cur.set i ((lbF cur i 4 0 1000000) + (cs.getD i 0)))))) rfl (sx_gs2 hb) hcu (sx_in_nI hi (by decide)) (nI_clamp (by have := hi; omega)) (List.set_set ..) (show _ = 106 from rfl) ?_
      refine sx_RP.step (pc2 := 107) (ls2 := [(7, .int ((lbF cur i 4 0 1000000) + (cs.getD i 0))), (6, .int (nI i)), (0, .int src), (1, .ref a), (2, .ref b), (3, .int ch), (4, .int (nI r)), (5, .int (nI i))]) (st2 := [.int 1]) (w3 := (w.set b (.inl (0, cur.set i ((lbF cur i 4 0 1000000) + (cs.getD i 0)))))) rfl rfl ?_
      refine sx_RP.step (pc2 := 108) (ls2 := [(3, .int 1), (7, .int ((lbF cur i 4 0 1000000) + (cs.getD i 0))), (6, .int (nI i)), (0, .int src), (1, .ref a), (2, .ref b), (4, .int (nI r)), (5, .int (nI i))]) (st2 := []) (w3 := (w.set b (.inl (0, cur.set i ((lbF cur i 4 0 1000000) + (cs.getD i 0)))))) rfl rfl ?_
      refine sx_RP.step (pc2 := 111) (ls2 := [(5, .int ((nI i) + 1)), (3, .int 1), (7, .int ((lbF cur i 4 0 1000000) + (cs.getD i 0))), (6, .int (nI i)), (0, .int src), (1, .ref a), (2, .ref b), (4, .int (nI r))]) (st2 := []) (w3 := (w.set b (.inl (0, cur.set i ((lbF cur i 4 0 1000000) + (cs.getD i 0)))))) rfl rfl ?_
      refine sx_RP.step (pc2 := 44) (ls2 := [(5, .int ((nI i) + 1)), (3, .int 1), (7, .int ((lbF cur i 4 0 1000000) + (cs.getD i 0))), (6, .int (nI i)), (0, .int src), (1, .ref a), (2, .ref b), (4, .int (nI r))]) (st2 := []) (w3 := (w.set b (.inl (0, cur.set i ((lbF cur i 4 0 1000000) + (cs.getD i 0)))))) rfl rfl ?_
      rw [show rx cs (cur, ch) i = (cur.set i ((lbF cur i 4 0 1000000) + (cs.getD i 0)), 1) from by rw [rx]; simp only [if_neg q1, if_neg q2]] at k
      rw [nI_1 i]
      exact sx_RP.ls (sx_lr.cons rfl (sx_lr.cons rfl (sx_lr.cons rfl (sx_lr.cons rfl (sx_lr.cons rfl (sx_lr.cons rfl sx_lr.nil)))))) k
set_option maxRecDepth 20000 in
set_option maxHeartbeats 4000000 in
theorem cq_18o {xs : Option (List Int32)} {d : Nat} {w : List sx_C} {P : Option Value → List sx_C → Prop} {a b : Nat} {cs s0 : List Int32} (ha : w[a]? = some (.inl (0, cs))) (hb : w[b]? = some (.inl (0, s0))) (hab : a ≠ b) (hcs : cs.length = 48) {src ch : Int32} {cur : List Int32} {r i : Nat} (hcu : cur.length = 48) (hr : r < 48) (he : evn r = false) (hi : i < 48) (k : sx_RP xs (d + 2) 18 44 [(0, .int src), (1, .ref a), (2, .ref b), (3, .int ((rx cs (cur, ch) (47 - i)).2)), (4, .int (nI r)), (5, .int (nI (i + 1)))] [] (w.set b (.inl (0, (rx cs (cur, ch) (47 - i)).1))) P) : sx_RP xs (d + 2) 18 44 [(0, .int src), (1, .ref a), (2, .ref b), (3, .int ch), (4, .int (nI r)), (5, .int (nI i))] [] (w.set b (.inl (0, cur))) P := by
  refine sx_RP.step (pc2 := 46) (ls2 := [(0, .int src), (1, .ref a), (2, .ref b), (3, .int ch), (4, .int (nI r)), (5, .int (nI i))]) (st2 := [.int (nI i)]) (w3 := (w.set b (.inl (0, cur)))) rfl rfl ?_
  refine sx_RP.step (pc2 := 48) (ls2 := [(0, .int src), (1, .ref a), (2, .ref b), (3, .int ch), (4, .int (nI r)), (5, .int (nI i))]) (st2 := [.int 48, .int (nI i)]) (w3 := (w.set b (.inl (0, cur)))) rfl rfl ?_
  refine sx_RP.br (p2 := 51) (l2 := [(0, .int src), (1, .ref a), (2, .ref b), (3, .int ch), (4, .int (nI r)), (5, .int (nI i))]) (s2 := []) (v2 := (w.set b (.inl (0, cur)))) rfl rfl (fun q => absurd (of_decide_eq_true q) (nI_ge (b := 48) hi (by omega))) (fun _ => ?_)
  refine sx_RP.step (pc2 := 53) (ls2 := [(0, .int src), (1, .ref a), (2, .ref b), (3, .int ch), (4, .int (nI r)), (5, .int (nI i))]) (st2 := [.int (nI r)]) (w3 := (w.set b (.inl (0, cur)))) rfl rfl ?_
  refine sx_RP.step (pc2 := 54) (ls2 := [(0, .int src), (1, .ref a), (2, .ref b), (3, .int ch), (4, .int (nI r)), (5, .int (nI i))]) (st2 := [.int 2, .int (nI r)]) (w3 := (w.set b (.inl (0, cur)))) rfl rfl ?_
  refine sx_RP.step (pc2 := 55) (ls2 := [(0, .int src), (1, .ref a), (2, .ref b), (3, .int ch), (4, .int (nI r)), (5, .int (nI i))]) (st2 := [.int ((nI r) - (nI r) / 2 * 2)]) (w3 := (w.set b (.inl (0, cur)))) rfl rfl ?_
  refine sx_RP.br (p1 := 63) (l1 := [(0, .int src), (1, .ref a), (2, .ref b), (3, .int ch), (4, .int (nI r)), (5, .int (nI i))]) (s1 := []) (v1 := (w.set b (.inl (0, cur)))) rfl rfl (fun _ => ?_) (fun q => absurd ((evn_t r hr).2 he) (of_decide_eq_false q))
  refine sx_RP.step (pc2 := 65) (ls2 := [(0, .int src), (1, .ref a), (2, .ref b), (3, .int ch), (4, .int (nI r)), (5, .int (nI i))]) (st2 := [.int 47]) (w3 := (w.set b (.inl (0, cur)))) rfl rfl ?_
  refine sx_RP.step (pc2 := 67) (ls2 := [(0, .int src), (1, .ref a), (2, .ref b), (3, .int ch), (4, .int (nI r)), (5, .int (nI i))]) (st2 := [.int (nI i), .int 47]) (w3 := (w.set b (.inl (0, cur)))) rfl rfl ?_
  refine sx_RP.step (pc2 := 68) (ls2 := [(0, .int src), (1, .ref a), (2, .ref b), (3, .int ch), (4, .int (nI r)), (5, .int (nI i))]) (st2 := [.int (47 - (nI i))]) (w3 := (w.set b (.inl (0, cur)))) rfl rfl ?_
  rw [cl_47 i hi]
  refine sx_RP.step (pc2 := 70) (ls2 := [(6, .int (nI (47 - i))), (0, .int src), (1, .ref a), (2, .ref b), (3, .int ch), (4, .int (nI r)), (5, .int (nI i))]) (st2 := []) (w3 := (w.set b (.inl (0, cur)))) rfl rfl ?_
  refine sx_RP.step (pc2 := 72) (ls2 := [(6, .int (nI (47 - i))), (0, .int src), (1, .ref a), (2, .ref b), (3, .int ch), (4, .int (nI r)), (5, .int (nI i))]) (st2 := [.int (nI (47 - i))]) (w3 := (w.set b (.inl (0, cur)))) rfl rfl ?_
  refine sx_RP.step (pc2 := 73) (ls2 := [(6, .int (nI (47 - i))), (0, .int src), (1, .ref a), (2, .ref b), (3, .int ch), (4, .int (nI r)), (5, .int (nI i))]) (st2 := [.ref b, .int (nI (47 - i))]) (w3 := (w.set b (.inl (0, cur)))) rfl rfl ?_
  refine sx_RP.cu (as := [.int (nI (47 - i)), .ref b]) (rest2 := []) (st3 := [.int (lbF cur (47 - i) 4 0 1000000)]) rfl rfl rfl rfl rfl (cp_19 (sx_gs2 hb) hcu (by omega)) rfl ?_
  refine sx_RP.step (pc2 := 77) (ls2 := [(6, .int (nI (47 - i))), (0, .int src), (1, .ref a), (2, .ref b), (3, .int ch), (4, .int (nI r)), (5, .int (nI i))]) (st2 := [.ref a, .int (lbF cur (47 - i) 4 0 1000000)]) (w3 := (w.set b (.inl (0, cur)))) rfl rfl ?_
  refine sx_RP.step (pc2 := 79) (ls2 := [(6, .int (nI (47 - i))), (0, .int src), (1, .ref a), (2, .ref b), (3, .int ch), (4, .int (nI r)), (5, .int (nI i))]) (st2 := [.int (nI (47 - i)), .ref a, .int (lbF cur (47 - i) 4 0 1000000)]) (w3 := (w.set b (.inl (0, cur)))) rfl rfl ?_
  refine sx_RP.ild (c := (47 - i)) rfl (sx_gn2 hab ha) hcs (sx_in_nI (show 47 - i < 48 by omega) (by decide)) (nI_clamp (by have := (show 47 - i < 48 by omega); omega)) (show _ = 80 from rfl) ?_
  refine sx_RP.step (pc2 := 81) (ls2 := [(6, .int (nI (47 - i))), (0, .int src), (1, .ref a), (2, .ref b), (3, .int ch), (4, .int (nI r)), (5, .int (nI i))]) (st2 := [.int ((lbF cur (47 - i) 4 0 1000000) + (cs.getD (47 - i) 0))]) (w3 := (w.set b (.inl (0, cur)))) rfl rfl ?_
  refine sx_RP.step (pc2 := 83) (ls2 := [(7, .int ((lbF cur (47 - i) 4 0 1000000) + (cs.getD (47 - i) 0))), (6, .int (nI (47 - i))), (0, .int src), (1, .ref a), (2, .ref b), (3, .int ch), (4, .int (nI r)), (5, .int (nI i))]) (st2 := []) (w3 := (w.set b (.inl (0, cur)))) rfl rfl ?_
  refine sx_RP.step (pc2 := 84) (ls2 := [(7, .int ((lbF cur (47 - i) 4 0 1000000) + (cs.getD (47 - i) 0))), (6, .int (nI (47 - i))), (0, .int src), (1, .ref a), (2, .ref b), (3, .int ch), (4, .int (nI r)), (5, .int (nI i))]) (st2 := [.ref a]) (w3 := (w.set b (.inl (0, cur)))) rfl rfl ?_
  refine sx_RP.step (pc2 := 86) (ls2 := [(7, .int ((lbF cur (47 - i) 4 0 1000000) + (cs.getD (47 - i) 0))), (6, .int (nI (47 - i))), (0, .int src), (1, .ref a), (2, .ref b), (3, .int ch), (4, .int (nI r)), (5, .int (nI i))]) (st2 := [.int (nI (47 - i)), .ref a]) (w3 := (w.set b (.inl (0, cur)))) rfl rfl ?_
  refine sx_RP.ild (c := (47 - i)) rfl (sx_gn2 hab ha) hcs (sx_in_nI (show 47 - i < 48 by omega) (by decide)) (nI_clamp (by have := (show 47 - i < 48 by omega); omega)) (show _ = 87 from rfl) ?_
  refine sx_RP.step (pc2 := 88) (ls2 := [(7, .int ((lbF cur (47 - i) 4 0 1000000) + (cs.getD (47 - i) 0))), (6, .int (nI (47 - i))), (0, .int src), (1, .ref a), (2, .ref b), (3, .int ch), (4, .int (nI r)), (5, .int (nI i))]) (st2 := [.int (-1), .int (cs.getD (47 - i) 0)]) (w3 := (w.set b (.inl (0, cur)))) rfl rfl ?_
  refine sx_RP.br (p1 := 108) (l1 := [(7, .int ((lbF cur (47 - i) 4 0 1000000) + (cs.getD (47 - i) 0))), (6, .int (nI (47 - i))), (0, .int src), (1, .ref a), (2, .ref b), (3, .int ch), (4, .int (nI r)), (5, .int (nI i))]) (s1 := []) (v1 := (w.set b (.inl (0, cur)))) (p2 := 91) (l2 := [(7, .int ((lbF cur (47 - i) 4 0 1000000) + (cs.getD (47 - i) 0))), (6, .int (nI (47 - i))), (0, .int src), (1, .ref a), (2, .ref b), (3, .int ch), (4, .int (nI r)), (5, .int (nI i))]) (s2 := []) (v2 := (w.set b (.inl (0, cur)))) rfl rfl (fun q1 => ?_) (fun q1 => ?_)
  · replace q1 := of_decide_eq_true q1
    refine sx_RP.step (pc2 := 111) (ls2 := [(5, .int ((nI i) + 1)), (7, .int ((lbF cur (47 - i) 4 0 1000000) + (cs.getD (47 - i) 0))), (6, .int (nI (47 - i))), (0, .int src), (1, .ref a), (2, .ref b), (3, .int ch), (4, .int (nI r))]) (st2 := []) (w3 := (w.set b (.inl (0, cur)))) rfl rfl ?_
    refine sx_RP.step (pc2 := 44) (ls2 := [(5, .int ((nI i) + 1)), (7, .int ((lbF cur (47 - i) 4 0 1000000) + (cs.getD (47 - i) 0))), (6, .int (nI (47 - i))), (0, .int src), (1, .ref a), (2, .ref b), (3, .int ch), (4, .int (nI r))]) (st2 := []) (w3 := (w.set b (.inl (0, cur)))) rfl rfl ?_
    rw [show rx cs (cur, ch) (47 - i) = (cur, ch) from by rw [rx]; simp only [if_pos q1]] at k
    rw [nI_1 i]
    exact sx_RP.ls (sx_lr.cons rfl (sx_lr.cons rfl (sx_lr.cons rfl (sx_lr.cons rfl (sx_lr.cons rfl (sx_lr.cons rfl sx_lr.nil)))))) k
  · replace q1 := of_decide_eq_false q1
    refine sx_RP.step (pc2 := 93) (ls2 := [(7, .int ((lbF cur (47 - i) 4 0 1000000) + (cs.getD (47 - i) 0))), (6, .int (nI (47 - i))), (0, .int src), (1, .ref a), (2, .ref b), (3, .int ch), (4, .int (nI r)), (5, .int (nI i))]) (st2 := [.int ((lbF cur (47 - i) 4 0 1000000) + (cs.getD (47 - i) 0))]) (w3 := (w.set b (.inl (0, cur)))) rfl rfl ?_
    refine sx_RP.step (pc2 := 94) (ls2 := [(7, .int ((lbF cur (47 - i) 4 0 1000000) + (cs.getD (47 - i) 0))), (6, .int (nI (47 - i))), (0, .int src), (1, .ref a), (2, .ref b), (3, .int ch), (4, .int (nI r)), (5, .int (nI i))]) (st2 := [.ref b, .int ((lbF cur (47 - i) 4 0 1000000) + (cs.getD (47 - i) 0))]) (w3 := (w.set b (.inl (0, cur)))) rfl rfl ?_
    refine sx_RP.step (pc2 := 96) (ls2 := [(7, .int ((lbF cur (47 - i) 4 0 1000000) + (cs.getD (47 - i) 0))), (6, .int (nI (47 - i))), (0, .int src), (1, .ref a), (2, .ref b), (3, .int ch), (4, .int (nI r)), (5, .int (nI i))]) (st2 := [.int (nI (47 - i)), .ref b, .int ((lbF cur (47 - i) 4 0 1000000) + (cs.getD (47 - i) 0))]) (w3 := (w.set b (.inl (0, cur)))) rfl rfl ?_
    refine sx_RP.ild (c := (47 - i)) rfl (sx_gs2 hb) hcu (sx_in_nI (show 47 - i < 48 by omega) (by decide)) (nI_clamp (by have := (show 47 - i < 48 by omega); omega)) (show _ = 97 from rfl) ?_
    refine sx_RP.br (p1 := 108) (l1 := [(7, .int ((lbF cur (47 - i) 4 0 1000000) + (cs.getD (47 - i) 0))), (6, .int (nI (47 - i))), (0, .int src), (1, .ref a), (2, .ref b), (3, .int ch), (4, .int (nI r)), (5, .int (nI i))]) (s1 := []) (v1 := (w.set b (.inl (0, cur)))) (p2 := 100) (l2 := [(7, .int ((lbF cur (47 - i) 4 0 1000000) + (cs.getD (47 - i) 0))), (6, .int (nI (47 - i))), (0, .int src), (1, .ref a), (2, .ref b), (3, .int ch), (4, .int (nI r)), (5, .int (nI i))]) (s2 := []) (v2 := (w.set b (.inl (0, cur)))) rfl rfl (fun q2 => ?_) (fun q2 => ?_)
    · replace q2 := of_decide_eq_true q2
      refine sx_RP.step (pc2 := 111) (ls2 := [(5, .int ((nI i) + 1)), (7, .int ((lbF cur (47 - i) 4 0 1000000) + (cs.getD (47 - i) 0))), (6, .int (nI (47 - i))), (0, .int src), (1, .ref a), (2, .ref b), (3, .int ch), (4, .int (nI r))]) (st2 := []) (w3 := (w.set b (.inl (0, cur)))) rfl rfl ?_
      refine sx_RP.step (pc2 := 44) (ls2 := [(5, .int ((nI i) + 1)), (7, .int ((lbF cur (47 - i) 4 0 1000000) + (cs.getD (47 - i) 0))), (6, .int (nI (47 - i))), (0, .int src), (1, .ref a), (2, .ref b), (3, .int ch), (4, .int (nI r))]) (st2 := []) (w3 := (w.set b (.inl (0, cur)))) rfl rfl ?_
      rw [show rx cs (cur, ch) (47 - i) = (cur, ch) from by rw [rx]; simp only [if_neg q1, if_pos q2]] at k
      rw [nI_1 i]
      exact sx_RP.ls (sx_lr.cons rfl (sx_lr.cons rfl (sx_lr.cons rfl (sx_lr.cons rfl (sx_lr.cons rfl (sx_lr.cons rfl sx_lr.nil)))))) k
    · replace q2 := of_decide_eq_false q2
      refine sx_RP.step (pc2 := 101) (ls2 := [(7, .int ((lbF cur (47 - i) 4 0 1000000) + (cs.getD (47 - i) 0))), (6, .int (nI (47 - i))), (0, .int src), (1, .ref a), (2, .ref b), (3, .int ch), (4, .int (nI r)), (5, .int (nI i))]) (st2 := [.ref b]) (w3 := (w.set b (.inl (0, cur)))) rfl rfl ?_
      refine sx_RP.step (pc2 := 103) (ls2 := [(7, .int ((lbF cur (47 - i) 4 0 1000000) + (cs.getD (47 - i) 0))), (6, .int (nI (47 - i))), (0, .int src), (1, .ref a), (2, .ref b), (3, .int ch), (4, .int (nI r)), (5, .int (nI i))]) (st2 := [.int (nI (47 - i)), .ref b]) (w3 := (w.set b (.inl (0, cur)))) rfl rfl ?_
      refine sx_RP.step (pc2 := 105) (ls2 := [(7, .int ((lbF cur (47 - i) 4 0 1000000) + (cs.getD (47 - i) 0))), (6, .int (nI (47 - i))), (0, .int src), (1, .ref a), (2, .ref b), (3, .int ch), (4, .int (nI r)), (5, .int (nI i))]) (st2 := [.int ((lbF cur (47 - i) 4 0 1000000) + (cs.getD (47 - i) 0)), .int (nI (47 - i)), .ref b]) (w3 := (w.set b (.inl (0, cur)))) rfl rfl ?_
      refine sx_RP.ist (c := (47 - i)) (w2 := (w.set b (.inl (0, cur.set (47 - i) ((lbF cur (47 - i) 4 0 1000000) + (cs.getD (47 - i) 0)))))) rfl (sx_gs2 hb) hcu (sx_in_nI (show 47 - i < 48 by omega) (by decide)) (nI_clamp (by have := (show 47 - i < 48 by omega); omega)) (List.set_set ..) (show _ = 106 from rfl) ?_
      refine sx_RP.step (pc2 := 107) (ls2 := [(7, .int ((lbF cur (47 - i) 4 0 1000000) + (cs.getD (47 - i) 0))), (6, .int (nI (47 - i))), (0, .int src), (1, .ref a), (2, .ref b), (3, .int ch), (4, .int (nI r)), (5, .int (nI i))]) (st2 := [.int 1]) (w3 := (w.set b (.inl (0, cur.set (47 - i) ((lbF cur (47 - i) 4 0 1000000) + (cs.getD (47 - i) 0)))))) rfl rfl ?_
      refine sx_RP.step (pc2 := 108) (ls2 := [(3, .int 1), (7, .int ((lbF cur (47 - i) 4 0 1000000) + (cs.getD (47 - i) 0))), (6, .int (nI (47 - i))), (0, .int src), (1, .ref a), (2, .ref b), (4, .int (nI r)), (5, .int (nI i))]) (st2 := []) (w3 := (w.set b (.inl (0, cur.set (47 - i) ((lbF cur (47 - i) 4 0 1000000) + (cs.getD (47 - i) 0)))))) rfl rfl ?_
      refine sx_RP.step (pc2 := 111) (ls2 := [(5, .int ((nI i) + 1)), (3, .int 1), (7, .int ((lbF cur (47 - i) 4 0 1000000) + (cs.getD (47 - i) 0))), (6, .int (nI (47 - i))), (0, .int src), (1, .ref a), (2, .ref b), (4, .int (nI r))]) (st2 := []) (w3 := (w.set b (.inl (0, cur.set (47 - i) ((lbF cur (47 - i) 4 0 1000000) + (cs.getD (47 - i) 0)))))) rfl rfl ?_
      refine sx_RP.step (pc2 := 44) (ls2 := [(5, .int ((nI i) + 1)), (3, .int 1), (7, .int ((lbF cur (47 - i) 4 0 1000000) + (cs.getD (47 - i) 0))), (6, .int (nI (47 - i))), (0, .int src), (1, .ref a), (2, .ref b), (4, .int (nI r))]) (st2 := []) (w3 := (w.set b (.inl (0, cur.set (47 - i) ((lbF cur (47 - i) 4 0 1000000) + (cs.getD (47 - i) 0)))))) rfl rfl ?_
      rw [show rx cs (cur, ch) (47 - i) = (cur.set (47 - i) ((lbF cur (47 - i) 4 0 1000000) + (cs.getD (47 - i) 0)), 1) from by rw [rx]; simp only [if_neg q1, if_neg q2]] at k
      rw [nI_1 i]
      exact sx_RP.ls (sx_lr.cons rfl (sx_lr.cons rfl (sx_lr.cons rfl (sx_lr.cons rfl (sx_lr.cons rfl (sx_lr.cons rfl sx_lr.nil)))))) k
end
-- 38d.spread.lean.txt
section
set_option maxRecDepth 20000 in
set_option maxHeartbeats 4000000 in
theorem cp_18i {xs : Option (List Int32)} {d : Nat} {w : List sx_C} {a b : Nat} {cs s0 : List Int32} (ha : w[a]? = some (.inl (0, cs))) (hb : w[b]? = some (.inl (0, s0))) (hab : a ≠ b) (hcs : cs.length = 48) {P : Option Value → List sx_C → Prop} {src : Int32} {r : Nat} (hr : r < 48) : ∀ (k i : Nat) (p : List Int32 × Int32), i + k = 48 → p.1.length = 48 → sx_RP xs (d + 2) 18 28 [(0, .int src), (1, .ref a), (2, .ref b), (3, .int ((swF cs (evn r) k i p).2)), (4, .int (nI (r + 1)))] [] (w.set b (.inl (0, (swF cs (evn r) k i p).1))) P → sx_RP xs (d + 2) 18 44 [(0, .int src), (1, .ref a), (2, .ref b), (3, .int p.2), (4, .int (nI r)), (5, .int (nI i))] [] (w.set b (.inl (0, p.1))) P
  | 0, i, p, h, hp, kk => by
    obtain rfl : i = 48 := by omega
    refine sx_RP.step (pc2 := 46) (ls2 := [(0, .int src), (1, .ref a), (2, .ref b), (3, .int p.2), (4, .int (nI r)), (5, .int (nI 48))]) (st2 := [.int (nI 48)]) (w3 := (w.set b (.inl (0, p.1)))) rfl rfl ?_
    refine sx_RP.step (pc2 := 48) (ls2 := [(0, .int src), (1, .ref a), (2, .ref b), (3, .int p.2), (4, .int (nI r)), (5, .int (nI 48))]) (st2 := [.int 48, .int (nI 48)]) (w3 := (w.set b (.inl (0, p.1)))) rfl rfl ?_
    refine sx_RP.step (pc2 := 114) (ls2 := [(0, .int src), (1, .ref a), (2, .ref b), (3, .int p.2), (4, .int (nI r)), (5, .int (nI 48))]) (st2 := []) (w3 := (w.set b (.inl (0, p.1)))) rfl rfl ?_
    refine sx_RP.step (pc2 := 117) (ls2 := [(4, .int ((nI r) + 1)), (0, .int src), (1, .ref a), (2, .ref b), (3, .int p.2), (5, .int (nI 48))]) (st2 := []) (w3 := (w.set b (.inl (0, p.1)))) rfl rfl ?_
    refine sx_RP.step (pc2 := 28) (ls2 := [(4, .int ((nI r) + 1)), (0, .int src), (1, .ref a), (2, .ref b), (3, .int p.2), (5, .int (nI 48))]) (st2 := []) (w3 := (w.set b (.inl (0, p.1)))) rfl rfl ?_
    rw [nI_1 r]
    exact sx_RP.ls (sx_lr.cons rfl (sx_lr.cons rfl (sx_lr.cons rfl (sx_lr.cons rfl (sx_lr.cons rfl sx_lr.nil))))) kk
  | k + 1, i, (cur, ch), h, hp, kk => by
    have hi : i < 48 := by omega
    have IH := cp_18i (xs := xs) (d := d) (src := src) (P := P) ha hb hab hcs hr k (i + 1) (rx cs (cur, ch) (cond (evn r) i (47 - i))) (by omega) (rx_len hp) kk
    cases he : evn r with
    | true =>
      rw [he] at IH
      exact cq_18e ha hb hab hcs hp hr he hi IH
    | false =>
      rw [he] at IH
      exact cq_18o ha hb hab hcs hp hr he hi IH
set_option maxRecDepth 20000 in
set_option maxHeartbeats 4000000 in
theorem cp_18r {xs : Option (List Int32)} {d : Nat} {w : List sx_C} {a b : Nat} {cs s0 : List Int32} (ha : w[a]? = some (.inl (0, cs))) (hb : w[b]? = some (.inl (0, s0))) (hab : a ≠ b) (hcs : cs.length = 48) {P : Option Value → List sx_C → Prop} {src : Int32} : ∀ (k r : Nat) (p : List Int32 × Int32), r + k = 48 → p.1.length = 48 → P none (w.set b (.inl (0, rdF cs k r p))) → sx_RP xs (d + 2) 18 28 [(0, .int src), (1, .ref a), (2, .ref b), (3, .int p.2), (4, .int (nI r))] [] (w.set b (.inl (0, p.1))) P
  | 0, r, p, h, hp, kk => by
    obtain rfl : r = 48 := by omega
    refine sx_RP.step (pc2 := 30) (ls2 := [(0, .int src), (1, .ref a), (2, .ref b), (3, .int p.2), (4, .int (nI 48))]) (st2 := [.int (nI 48)]) (w3 := (w.set b (.inl (0, p.1)))) rfl rfl ?_
    refine sx_RP.step (pc2 := 32) (ls2 := [(0, .int src), (1, .ref a), (2, .ref b), (3, .int p.2), (4, .int (nI 48))]) (st2 := [.int 48, .int (nI 48)]) (w3 := (w.set b (.inl (0, p.1)))) rfl rfl ?_
    refine sx_RP.step (pc2 := 120) (ls2 := [(0, .int src), (1, .ref a), (2, .ref b), (3, .int p.2), (4, .int (nI 48))]) (st2 := []) (w3 := (w.set b (.inl (0, p.1)))) rfl rfl ?_
    refine sx_RP.ret (r := none) rfl rfl ?_
    exact kk
  | k + 1, r, (cur, ch), h, hp, kk => by
    have hr : r < 48 := by omega
    refine sx_RP.step (pc2 := 30) (ls2 := [(0, .int src), (1, .ref a), (2, .ref b), (3, .int ch), (4, .int (nI r))]) (st2 := [.int (nI r)]) (w3 := w.set b (.inl (0, cur))) rfl rfl ?_
    refine sx_RP.step (pc2 := 32) (ls2 := [(0, .int src), (1, .ref a), (2, .ref b), (3, .int ch), (4, .int (nI r))]) (st2 := [.int 48, .int (nI r)]) (w3 := w.set b (.inl (0, cur))) rfl rfl ?_
    refine sx_RP.br (p2 := 35) (l2 := [(0, .int src), (1, .ref a), (2, .ref b), (3, .int ch), (4, .int (nI r))]) (s2 := []) (v2 := w.set b (.inl (0, cur))) rfl rfl (fun q => absurd (of_decide_eq_true q) (nI_ge (b := 48) hr (by omega))) (fun _ => ?_)
    refine sx_RP.step (pc2 := 36) (ls2 := [(0, .int src), (1, .ref a), (2, .ref b), (3, .int ch), (4, .int (nI r))]) (st2 := [.int ch]) (w3 := w.set b (.inl (0, cur))) rfl rfl ?_
    refine sx_RP.br (p1 := 120) (l1 := [(0, .int src), (1, .ref a), (2, .ref b), (3, .int ch), (4, .int (nI r))]) (s1 := []) (v1 := w.set b (.inl (0, cur))) (p2 := 39) (l2 := [(0, .int src), (1, .ref a), (2, .ref b), (3, .int ch), (4, .int (nI r))]) (s2 := []) (v2 := w.set b (.inl (0, cur))) rfl rfl (fun q => ?_) (fun q => ?_)
    · replace q := of_decide_eq_true q
      refine sx_RP.ret rfl rfl ?_
      rw [show rdF cs (k + 1) r (cur, ch) = cur from by rw [rdF]; rw [if_pos q]] at kk
      exact kk
    · replace q := of_decide_eq_false q
      rw [show rdF cs (k + 1) r (cur, ch) = rdF cs k (r + 1) (swF cs (evn r) 48 0 (cur, 0)) from by rw [rdF]; rw [if_neg q]] at kk
      refine sx_RP.step (pc2 := 40) (ls2 := [(0, .int src), (1, .ref a), (2, .ref b), (3, .int ch), (4, .int (nI r))]) (st2 := [.int 0]) (w3 := w.set b (.inl (0, cur))) rfl rfl ?_
      refine sx_RP.step (pc2 := 41) (ls2 := [(3, .int 0), (0, .int src), (1, .ref a), (2, .ref b), (4, .int (nI r))]) (st2 := []) (w3 := w.set b (.inl (0, cur))) rfl rfl ?_
      refine sx_RP.step (pc2 := 42) (ls2 := [(3, .int 0), (0, .int src), (1, .ref a), (2, .ref b), (4, .int (nI r))]) (st2 := [.int 0]) (w3 := w.set b (.inl (0, cur))) rfl rfl ?_
      refine sx_RP.step (pc2 := 44) (ls2 := [(5, .int 0), (3, .int 0), (0, .int src), (1, .ref a), (2, .ref b), (4, .int (nI r))]) (st2 := []) (w3 := w.set b (.inl (0, cur))) rfl rfl ?_
      exact sx_RP.ls (sx_lr.cons rfl (sx_lr.cons rfl (sx_lr.cons rfl (sx_lr.cons rfl (sx_lr.cons rfl (sx_lr.cons rfl sx_lr.nil)))))) (cp_18i ha hb hab hcs hr 48 0 (cur, 0) rfl hp (cp_18r ha hb hab hcs k (r + 1) _ (by omega) (swF_len 48 0 _ hp) kk))
set_option maxRecDepth 20000 in
set_option maxHeartbeats 4000000 in
theorem cq_18f {xs : Option (List Int32)} {d : Nat} {w : List sx_C} {P : Option Value → List sx_C → Prop} {a b : Nat} {s0 : List Int32} (hb : w[b]? = some (.inl (0, s0))) {src : Int32} {cur : List Int32} {j : Nat} (hcu : cur.length = 48) (hj : j < 48) (k : sx_RP xs d 18 2 [(0, .int src), (1, .ref a), (2, .ref b), (3, .int (nI (j + 1)))] [] (w.set b (.inl (0, cur.set j 1000000))) P) : sx_RP xs d 18 2 [(0, .int src), (1, .ref a), (2, .ref b), (3, .int (nI j))] [] (w.set b (.inl (0, cur))) P := by
  refine sx_RP.step (pc2 := 3) (ls2 := [(0, .int src), (1, .ref a), (2, .ref b), (3, .int (nI j))]) (st2 := [.int (nI j)]) (w3 := (w.set b (.inl (0, cur)))) rfl rfl ?_
  refine sx_RP.step (pc2 := 5) (ls2 := [(0, .int src), (1, .ref a), (2, .ref b), (3, .int (nI j))]) (st2 := [.int 48, .int (nI j)]) (w3 := (w.set b (.inl (0, cur)))) rfl rfl ?_
  refine sx_RP.br (p2 := 8) (l2 := [(0, .int src), (1, .ref a), (2, .ref b), (3, .int (nI j))]) (s2 := []) (v2 := (w.set b (.inl (0, cur)))) rfl rfl (fun q => absurd (of_decide_eq_true q) (nI_ge (b := 48) hj (by omega))) (fun _ => ?_)
  refine sx_RP.step (pc2 := 9) (ls2 := [(0, .int src), (1, .ref a), (2, .ref b), (3, .int (nI j))]) (st2 := [.ref b]) (w3 := (w.set b (.inl (0, cur)))) rfl rfl ?_
  refine sx_RP.step (pc2 := 10) (ls2 := [(0, .int src), (1, .ref a), (2, .ref b), (3, .int (nI j))]) (st2 := [.int (nI j), .ref b]) (w3 := (w.set b (.inl (0, cur)))) rfl rfl ?_
  refine sx_RP.step (pc2 := 12) (ls2 := [(0, .int src), (1, .ref a), (2, .ref b), (3, .int (nI j))]) (st2 := [.int 1000000, .int (nI j), .ref b]) (w3 := (w.set b (.inl (0, cur)))) rfl rfl ?_
  refine sx_RP.ist (c := j) (w2 := (w.set b (.inl (0, cur.set j 1000000)))) rfl (sx_gs2 hb) hcu (sx_in_nI hj (by decide)) (nI_clamp (by have := hj; omega)) (List.set_set ..) (show _ = 13 from rfl) ?_
  refine sx_RP.step (pc2 := 16) (ls2 := [(3, .int ((nI j) + 1)), (0, .int src), (1, .ref a), (2, .ref b)]) (st2 := []) (w3 := (w.set b (.inl (0, cur.set j 1000000)))) rfl rfl ?_
  refine sx_RP.step (pc2 := 2) (ls2 := [(3, .int ((nI j) + 1)), (0, .int src), (1, .ref a), (2, .ref b)]) (st2 := []) (w3 := (w.set b (.inl (0, cur.set j 1000000)))) rfl rfl ?_
  rw [nI_1 j]
  exact sx_RP.ls (sx_lr.cons rfl (sx_lr.cons rfl (sx_lr.cons rfl (sx_lr.cons rfl sx_lr.nil)))) k
set_option maxRecDepth 20000 in
set_option maxHeartbeats 4000000 in
theorem cp_18f {xs : Option (List Int32)} {d : Nat} {w : List sx_C} {a b : Nat} {s0 : List Int32} (hb : w[b]? = some (.inl (0, s0))) {P : Option Value → List sx_C → Prop} {src : Int32} : ∀ (k j : Nat) (l : List Int32), j + k = 48 → l.length = 48 → sx_RP xs d 18 19 [(0, .int src), (1, .ref a), (2, .ref b)] [] (w.set b (.inl (0, flF 1000000 k j l))) P → sx_RP xs d 18 2 [(0, .int src), (1, .ref a), (2, .ref b), (3, .int (nI j))] [] (w.set b (.inl (0, l))) P
  | 0, j, l, h, hl, kk => by
    obtain rfl : j = 48 := by omega
    refine sx_RP.step (pc2 := 3) (ls2 := [(0, .int src), (1, .ref a), (2, .ref b), (3, .int (nI 48))]) (st2 := [.int (nI 48)]) (w3 := (w.set b (.inl (0, l)))) rfl rfl ?_
    refine sx_RP.step (pc2 := 5) (ls2 := [(0, .int src), (1, .ref a), (2, .ref b), (3, .int (nI 48))]) (st2 := [.int 48, .int (nI 48)]) (w3 := (w.set b (.inl (0, l)))) rfl rfl ?_
    refine sx_RP.step (pc2 := 19) (ls2 := [(0, .int src), (1, .ref a), (2, .ref b), (3, .int (nI 48))]) (st2 := []) (w3 := (w.set b (.inl (0, l)))) rfl rfl ?_
    exact sx_RP.ls (sx_lr.cons rfl (sx_lr.cons rfl (sx_lr.cons rfl sx_lr.nil))) kk
  | k + 1, j, l, h, hl, kk => cq_18f hb hl (by omega) (cp_18f hb k (j + 1) (l.set j 1000000) (by omega) (by rw [List.length_set]; exact hl) kk)
set_option maxRecDepth 20000 in
set_option maxHeartbeats 4000000 in
theorem cp_18s {xs : Option (List Int32)} {d : Nat} {w : List sx_C} {a b : Nat} {cs s0 : List Int32} (ha : w[a]? = some (.inl (0, cs))) (hb : w[b]? = some (.inl (0, s0))) (hab : a ≠ b) (hcs : cs.length = 48) {P : Option Value → List sx_C → Prop} {src : Nat} (F : List Int32) (hF : F.length = 48) (kk : P none (w.set b (.inl (0, rdF cs 48 0 (F, 1))))) : sx_RP xs (d + 2) 18 28 [(4, .int 0), (3, .int 1), (0, .int (nI src)), (1, .ref a), (2, .ref b)] [] (w.set b (.inl (0, F))) P := sx_RP.ls (sx_lr.cons rfl (sx_lr.cons rfl (sx_lr.cons rfl (sx_lr.cons rfl (sx_lr.cons rfl sx_lr.nil))))) (cp_18r (src := nI src) ha hb hab hcs 48 0 (F, 1) rfl hF kk)
set_option maxRecDepth 20000 in
set_option maxHeartbeats 4000000 in
theorem cp_18 {xs : Option (List Int32)} {d : Nat} {w : List sx_C} {a b : Nat} {cs s0 : List Int32} (ha : w[a]? = some (.inl (0, cs))) (hb : w[b]? = some (.inl (0, s0))) (hab : a ≠ b) (hcs : cs.length = 48) (hs0 : s0.length = 48) {src : Nat} (hsrc : src < 48) : sx_RU xs (d + 2) 18 0 (lv_args 0 [.int (nI src), .ref a, .ref b]) [] w none (w.set b (.inl (0, spF cs src s0))) := by
  have h : sx_RP xs (d + 2) 18 0 (lv_args 0 [.int (nI src), .ref a, .ref b]) [] w (fun r w2 => r = none ∧ w2 = w.set b (.inl (0, spF cs src s0))) := by
    refine sx_RP.step (pc2 := 1) (ls2 := [(0, .int (nI src)), (1, .ref a), (2, .ref b)]) (st2 := [.int 0]) (w3 := w) rfl rfl ?_
    refine sx_RP.step (pc2 := 2) (ls2 := [(3, .int 0), (0, .int (nI src)), (1, .ref a), (2, .ref b)]) (st2 := []) (w3 := w) rfl rfl ?_
    have e0 : w = w.set b (.inl (0, s0)) := sx_same hb
    rw [e0]
    refine sx_RP.ls (sx_lr.cons rfl (sx_lr.cons rfl (sx_lr.cons rfl (sx_lr.cons rfl sx_lr.nil)))) (cp_18f (a := a) (src := nI src) (P := fun r w2 => r = none ∧ w2 = (w.set b (.inl (0, s0))).set b (.inl (0, spF cs src s0))) hb 48 0 s0 rfl hs0 ?_)
    rw [List.set_set]
    refine sx_RP.step (pc2 := 20) (ls2 := [(0, .int (nI src)), (1, .ref a), (2, .ref b)]) (st2 := [.ref b]) (w3 := (w.set b (.inl (0, flF 1000000 48 0 s0)))) rfl rfl ?_
    refine sx_RP.step (pc2 := 21) (ls2 := [(0, .int (nI src)), (1, .ref a), (2, .ref b)]) (st2 := [.int (nI src), .ref b]) (w3 := (w.set b (.inl (0, flF 1000000 48 0 s0)))) rfl rfl ?_
    refine sx_RP.step (pc2 := 22) (ls2 := [(0, .int (nI src)), (1, .ref a), (2, .ref b)]) (st2 := [.int 0, .int (nI src), .ref b]) (w3 := (w.set b (.inl (0, flF 1000000 48 0 s0)))) rfl rfl ?_
    refine sx_RP.ist (c := src) (w2 := (w.set b (.inl (0, (flF 1000000 48 0 s0).set src 0)))) rfl (sx_gs2 hb) (flF_len 48 0 _ hs0) (sx_in_nI hsrc (by decide)) (nI_clamp (by have := hsrc; omega)) (List.set_set ..) (show _ = 23 from rfl) ?_
    refine sx_RP.step (pc2 := 24) (ls2 := [(0, .int (nI src)), (1, .ref a), (2, .ref b)]) (st2 := [.int 1]) (w3 := (w.set b (.inl (0, (flF 1000000 48 0 s0).set src 0)))) rfl rfl ?_
    refine sx_RP.step (pc2 := 25) (ls2 := [(3, .int 1), (0, .int (nI src)), (1, .ref a), (2, .ref b)]) (st2 := []) (w3 := (w.set b (.inl (0, (flF 1000000 48 0 s0).set src 0)))) rfl rfl ?_
    refine sx_RP.step (pc2 := 26) (ls2 := [(3, .int 1), (0, .int (nI src)), (1, .ref a), (2, .ref b)]) (st2 := [.int 0]) (w3 := (w.set b (.inl (0, (flF 1000000 48 0 s0).set src 0)))) rfl rfl ?_
    refine sx_RP.step (pc2 := 28) (ls2 := [(4, .int 0), (3, .int 1), (0, .int (nI src)), (1, .ref a), (2, .ref b)]) (st2 := []) (w3 := (w.set b (.inl (0, (flF 1000000 48 0 s0).set src 0)))) rfl rfl ?_
    exact cp_18s ha hb hab hcs ((flF 1000000 48 0 s0).set src 0) (by rw [List.length_set]; exact flF_len 48 0 _ hs0) ⟨rfl, by rw [spF]⟩
  obtain ⟨r, w2, h1, rfl, rfl⟩ := h
  exact h1
end
-- 39.sound.lean.txt
section
def crF (x : Int32) : Int32 := if x = 1 then 2 else if x = 3 then 4 else 1
theorem crF_st : ∀ n, n < 4 → sx_in (nI n) 4 = true ∧ ([1, 2, 1, 4] : List Int32).getD (nI n).toNatClampNeg 0 = crF (nI n) := by decide +kernel
def st4 (st : List Int32) : Prop := ∀ c, c < 48 → ∃ n, n < 4 ∧ st.getD c 0 = nI n
theorem st4.at {xs : Option (List Int32)} {st : List Int32} (h : st4 st) {c : Nat} (hc : c < 48) : sx_in (st.getD c 0) (sx_st xs (0 : UInt32).toNat).length = true ∧ (sx_st xs (0 : UInt32).toNat).getD (st.getD c 0).toNatClampNeg 0 = crF (st.getD c 0) := by
  obtain ⟨n, hn, e⟩ := h c hc
  rw [e]
  exact crF_st n hn
def ft1 (st : List Int32) (p : List Int32 × Int32) (j : Nat) : List Int32 × Int32 := if p.1.getD j 0 = crF (st.getD j 0) then p else (p.1.set j (crF (st.getD j 0)), 0)
def ftF (st : List Int32) : Nat → Nat → List Int32 × Int32 → List Int32 × Int32
  | 0, _, p => p
  | k + 1, j, p => ftF st k (j + 1) (ft1 st p j)
theorem ft1_len {st : List Int32} {p : List Int32 × Int32} {j n : Nat} (h : p.1.length = n) : (ft1 st p j).1.length = n := by
  unfold ft1
  split <;> simp [h]
theorem ftF_len {st : List Int32} {n : Nat} : ∀ (k j : Nat) (p : List Int32 × Int32), p.1.length = n → (ftF st k j p).1.length = n
  | 0, _, _, h => h
  | k + 1, j, p, h => ftF_len k (j + 1) _ (ft1_len h)
def rr48 : List (Option Nat) := (List.range 48).map (fun i => some (47 + i))
theorem rr_at : ∀ t, t < 48 → sx_in (nI t) rr48.length = true ∧ sx_rf (rr48.getD (nI t).toNatClampNeg none) = .ref (47 + t) := by
  intro t ht
  have e : rr48.getD (nI t).toNatClampNeg none = some (47 + t) := by
    rw [nI_clamp (by omega), rr48, List.getD_eq_getElem?_getD, List.getElem?_map, List.getElem?_range ht]
    rfl
  rw [e]
  exact ⟨sx_in_nI (by rw [rr48, List.length_map, List.length_range]; exact ht) (by decide), rfl⟩
def adF (ls : List Int32) (t : Nat) : Nat → Nat → List Int32 → List Int32
  | 0, _, l => l
  | k + 1, j, l => adF ls t k (j + 1) (l.set j (l.getD j 0 + (ls.getD t 0 - ls.getD j 0)))
theorem adF_len {ls : List Int32} {t n : Nat} : ∀ (k j : Nat) (l : List Int32), l.length = n → (adF ls t k j l).length = n
  | 0, _, _, h => h
  | k + 1, j, l, h => adF_len k (j + 1) _ (by rw [List.length_set]; exact h)
set_option maxRecDepth 20000 in
set_option maxHeartbeats 4000000 in
theorem cq_16 {xs : Option (List Int32)} {d : Nat} {w : List sx_C} {P : Option Value → List sx_C → Prop} {sa : Nat} {st l0 kn : List Int32} (h44 : w[44]? = some (.inr (.inr (.inr (3, [.ref 45, .ref 46, .ref 95]))))) (h45 : w[45]? = some (.inl (0, l0))) (h95 : w[95]? = some (.inl (1, kn))) (hsa : w[sa]? = some (.inl (0, st))) (h1 : sa ≠ 45) (h2 : sa ≠ 95) (hst : st.length = 48) (h4 : st4 st) {sm : Int32} {l : List Int32} {j : Nat} (hl : l.length = 48) (hj : j < 48) (k : sx_RP xs d 16 4 [(0, .ref 44), (1, .ref sa), (2, .int ((ft1 st (l, sm) j).2)), (3, .int (nI (j + 1)))] [] (w.set 45 (.inl (0, (ft1 st (l, sm) j).1))) P) : sx_RP xs d 16 4 [(0, .ref 44), (1, .ref sa), (2, .int sm), (3, .int (nI j))] [] (w.set 45 (.inl (0, l))) P := by
  refine sx_RP.step (pc2 := 5) (ls2 := [(0, .ref 44), (1, .ref sa), (2, .int sm), (3, .int (nI j))]) (st2 := [.int (nI j)]) (w3 := (w.set 45 (.inl (0, l)))) rfl rfl ?_
  refine sx_RP.step (pc2 := 7) (ls2 := [(0, .ref 44), (1, .ref sa), (2, .int sm), (3, .int (nI j))]) (st2 := [.int 48, .int (nI j)]) (w3 := (w.set 45 (.inl (0, l)))) rfl rfl ?_
  refine sx_RP.br (p2 := 10) (l2 := [(0, .ref 44), (1, .ref sa), (2, .int sm), (3, .int (nI j))]) (s2 := []) (v2 := (w.set 45 (.inl (0, l)))) rfl rfl (fun q => absurd (of_decide_eq_true q) (nI_ge (b := 48) hj (by omega))) (fun _ => ?_)
  refine sx_RP.step (pc2 := 13) (ls2 := [(0, .ref 44), (1, .ref sa), (2, .int sm), (3, .int (nI j))]) (st2 := [.float 0]) (w3 := (w.set 45 (.inl (0, l)))) rfl rfl ?_
  refine sx_RP.step (pc2 := 14) (ls2 := [(0, .ref 44), (1, .ref sa), (2, .int sm), (3, .int (nI j))]) (st2 := [.ref sa, .float 0]) (w3 := (w.set 45 (.inl (0, l)))) rfl rfl ?_
  refine sx_RP.step (pc2 := 15) (ls2 := [(0, .ref 44), (1, .ref sa), (2, .int sm), (3, .int (nI j))]) (st2 := [.int (nI j), .ref sa, .float 0]) (w3 := (w.set 45 (.inl (0, l)))) rfl rfl ?_
  refine sx_RP.ild (c := j) rfl (sx_gn2 h1 hsa) hst (sx_in_nI hj (by decide)) (nI_clamp (by have := hj; omega)) (show _ = 16 from rfl) ?_
  refine sx_RP.stat (k := 0) (v := (crF (st.getD j 0))) rfl rfl (h4.at hj) (show _ = 17 from rfl) ?_
  refine sx_RP.step (pc2 := 19) (ls2 := [(4, .int (crF (st.getD j 0))), (0, .ref 44), (1, .ref sa), (2, .int sm), (3, .int (nI j))]) (st2 := []) (w3 := (w.set 45 (.inl (0, l)))) rfl rfl ?_
  refine sx_RP.step (pc2 := 20) (ls2 := [(4, .int (crF (st.getD j 0))), (0, .ref 44), (1, .ref sa), (2, .int sm), (3, .int (nI j))]) (st2 := [.ref 44]) (w3 := (w.set 45 (.inl (0, l)))) rfl rfl ?_
  refine sx_RP.gf (v := .ref 45) rfl rfl (sx_gn2 (by decide) h44) rfl rfl (show _ = 23 from rfl) ?_
  refine sx_RP.step (pc2 := 24) (ls2 := [(4, .int (crF (st.getD j 0))), (0, .ref 44), (1, .ref sa), (2, .int sm), (3, .int (nI j))]) (st2 := [.int (nI j), .ref 45]) (w3 := (w.set 45 (.inl (0, l)))) rfl rfl ?_
  refine sx_RP.ild (c := j) rfl (sx_gs2 h45) hl (sx_in_nI hj (by decide)) (nI_clamp (by have := hj; omega)) (show _ = 25 from rfl) ?_
  refine sx_RP.step (pc2 := 27) (ls2 := [(4, .int (crF (st.getD j 0))), (0, .ref 44), (1, .ref sa), (2, .int sm), (3, .int (nI j))]) (st2 := [.int (crF (st.getD j 0)), .int (l.getD j 0)]) (w3 := (w.set 45 (.inl (0, l)))) rfl rfl ?_
  refine sx_RP.br (p1 := 40) (l1 := [(4, .int (crF (st.getD j 0))), (0, .ref 44), (1, .ref sa), (2, .int sm), (3, .int (nI j))]) (s1 := []) (v1 := (w.set 45 (.inl (0, l)))) (p2 := 30) (l2 := [(4, .int (crF (st.getD j 0))), (0, .ref 44), (1, .ref sa), (2, .int sm), (3, .int (nI j))]) (s2 := []) (v2 := (w.set 45 (.inl (0, l)))) rfl rfl (fun q1 => ?_) (fun q1 => ?_)
  · replace q1 := of_decide_eq_true q1
    refine sx_RP.step (pc2 := 43) (ls2 := [(3, .int ((nI j) + 1)), (4, .int (crF (st.getD j 0))), (0, .ref 44), (1, .ref sa), (2, .int sm)]) (st2 := []) (w3 := (w.set 45 (.inl (0, l)))) rfl rfl ?_
    refine sx_RP.step (pc2 := 4) (ls2 := [(3, .int ((nI j) + 1)), (4, .int (crF (st.getD j 0))), (0, .ref 44), (1, .ref sa), (2, .int sm)]) (st2 := []) (w3 := (w.set 45 (.inl (0, l)))) rfl rfl ?_
    rw [show ft1 st (l, sm) j = (l, sm) from by rw [ft1]; simp only [if_pos q1]] at k
    rw [nI_1 j]
    exact sx_RP.ls (sx_lr.cons rfl (sx_lr.cons rfl (sx_lr.cons rfl (sx_lr.cons rfl sx_lr.nil)))) k
  · replace q1 := of_decide_eq_false q1
    refine sx_RP.step (pc2 := 31) (ls2 := [(4, .int (crF (st.getD j 0))), (0, .ref 44), (1, .ref sa), (2, .int sm), (3, .int (nI j))]) (st2 := [.ref 44]) (w3 := (w.set 45 (.inl (0, l)))) rfl rfl ?_
    refine sx_RP.gf (v := .ref 45) rfl rfl (sx_gn2 (by decide) h44) rfl rfl (show _ = 34 from rfl) ?_
    refine sx_RP.step (pc2 := 35) (ls2 := [(4, .int (crF (st.getD j 0))), (0, .ref 44), (1, .ref sa), (2, .int sm), (3, .int (nI j))]) (st2 := [.int (nI j), .ref 45]) (w3 := (w.set 45 (.inl (0, l)))) rfl rfl ?_
    refine sx_RP.step (pc2 := 37) (ls2 := [(4, .int (crF (st.getD j 0))), (0, .ref 44), (1, .ref sa), (2, .int sm), (3, .int (nI j))]) (st2 := [.int (crF (st.getD j 0)), .int (nI j), .ref 45]) (w3 := (w.set 45 (.inl (0, l)))) rfl rfl ?_
    refine sx_RP.ist (c := j) (w2 := (w.set 45 (.inl (0, l.set j (crF (st.getD j 0)))))) rfl (sx_gs2 h45) hl (sx_in_nI hj (by decide)) (nI_clamp (by have := hj; omega)) (List.set_set ..) (show _ = 38 from rfl) ?_
    refine sx_RP.step (pc2 := 39) (ls2 := [(4, .int (crF (st.getD j 0))), (0, .ref 44), (1, .ref sa), (2, .int sm), (3, .int (nI j))]) (st2 := [.int 0]) (w3 := (w.set 45 (.inl (0, l.set j (crF (st.getD j 0)))))) rfl rfl ?_
    refine sx_RP.step (pc2 := 40) (ls2 := [(2, .int 0), (4, .int (crF (st.getD j 0))), (0, .ref 44), (1, .ref sa), (3, .int (nI j))]) (st2 := []) (w3 := (w.set 45 (.inl (0, l.set j (crF (st.getD j 0)))))) rfl rfl ?_
    refine sx_RP.step (pc2 := 43) (ls2 := [(3, .int ((nI j) + 1)), (2, .int 0), (4, .int (crF (st.getD j 0))), (0, .ref 44), (1, .ref sa)]) (st2 := []) (w3 := (w.set 45 (.inl (0, l.set j (crF (st.getD j 0)))))) rfl rfl ?_
    refine sx_RP.step (pc2 := 4) (ls2 := [(3, .int ((nI j) + 1)), (2, .int 0), (4, .int (crF (st.getD j 0))), (0, .ref 44), (1, .ref sa)]) (st2 := []) (w3 := (w.set 45 (.inl (0, l.set j (crF (st.getD j 0)))))) rfl rfl ?_
    rw [show ft1 st (l, sm) j = (l.set j (crF (st.getD j 0)), 0) from by rw [ft1]; simp only [if_neg q1]] at k
    rw [nI_1 j]
    exact sx_RP.ls (sx_lr.cons rfl (sx_lr.cons rfl (sx_lr.cons rfl (sx_lr.cons rfl sx_lr.nil)))) k
set_option maxRecDepth 20000 in
set_option maxHeartbeats 4000000 in
theorem cp_16a {xs : Option (List Int32)} {d : Nat} {w : List sx_C} {sa : Nat} {st l0 kn : List Int32} (h44 : w[44]? = some (.inr (.inr (.inr (3, [.ref 45, .ref 46, .ref 95]))))) (h45 : w[45]? = some (.inl (0, l0))) (h95 : w[95]? = some (.inl (1, kn))) (hsa : w[sa]? = some (.inl (0, st))) (h1 : sa ≠ 45) (h2 : sa ≠ 95) (hst : st.length = 48) (h4 : st4 st) {P : Option Value → List sx_C → Prop} : ∀ (k j : Nat) (p : List Int32 × Int32), j + k = 48 → p.1.length = 48 → sx_RP xs d 16 48 [(0, .ref 44), (1, .ref sa), (2, .int ((ftF st k j p).2)), (3, .int (nI 0))] [] (w.set 45 (.inl (0, (ftF st k j p).1))) P → sx_RP xs d 16 4 [(0, .ref 44), (1, .ref sa), (2, .int p.2), (3, .int (nI j))] [] (w.set 45 (.inl (0, p.1))) P
  | 0, j, p, h, hp, kk => by
    obtain rfl : j = 48 := by omega
    refine sx_RP.step (pc2 := 5) (ls2 := [(0, .ref 44), (1, .ref sa), (2, .int p.2), (3, .int (nI 48))]) (st2 := [.int (nI 48)]) (w3 := (w.set 45 (.inl (0, p.1)))) rfl rfl ?_
    refine sx_RP.step (pc2 := 7) (ls2 := [(0, .ref 44), (1, .ref sa), (2, .int p.2), (3, .int (nI 48))]) (st2 := [.int 48, .int (nI 48)]) (w3 := (w.set 45 (.inl (0, p.1)))) rfl rfl ?_
    refine sx_RP.step (pc2 := 46) (ls2 := [(0, .ref 44), (1, .ref sa), (2, .int p.2), (3, .int (nI 48))]) (st2 := []) (w3 := (w.set 45 (.inl (0, p.1)))) rfl rfl ?_
    refine sx_RP.step (pc2 := 47) (ls2 := [(0, .ref 44), (1, .ref sa), (2, .int p.2), (3, .int (nI 48))]) (st2 := [.int 0]) (w3 := (w.set 45 (.inl (0, p.1)))) rfl rfl ?_
    refine sx_RP.step (pc2 := 48) (ls2 := [(3, .int 0), (0, .ref 44), (1, .ref sa), (2, .int p.2)]) (st2 := []) (w3 := (w.set 45 (.inl (0, p.1)))) rfl rfl ?_
    exact sx_RP.ls (sx_lr.cons rfl (sx_lr.cons rfl (sx_lr.cons rfl (sx_lr.cons rfl sx_lr.nil)))) kk
  | k + 1, j, (l, sm), h, hp, kk => cq_16 h44 h45 h95 hsa h1 h2 hst h4 hp (by omega) (cp_16a h44 h45 h95 hsa h1 h2 hst h4 k (j + 1) (ft1 st (l, sm) j) (by omega) (ft1_len hp) kk)
set_option maxRecDepth 20000 in
set_option maxHeartbeats 4000000 in
theorem cq_16b {xs : Option (List Int32)} {d : Nat} {w : List sx_C} {P : Option Value → List sx_C → Prop} {sa : Nat} {l0 kn : List Int32} (h44 : w[44]? = some (.inr (.inr (.inr (3, [.ref 45, .ref 46, .ref 95]))))) (h45 : w[45]? = some (.inl (0, l0))) (h95 : w[95]? = some (.inl (1, kn))) {l : List Int32} {ku : List Int32} {j : Nat} (hku : ku.length = 48) (hj : j < 48) (k : sx_RP xs d 16 48 [(0, .ref 44), (1, .ref sa), (2, .int 0), (3, .int (nI (j + 1)))] [] ((w.set 45 (.inl (0, l))).set 95 (.inl (1, ku.set j 0))) P) : sx_RP xs d 16 48 [(0, .ref 44), (1, .ref sa), (2, .int 0), (3, .int (nI j))] [] ((w.set 45 (.inl (0, l))).set 95 (.inl (1, ku))) P := by
  refine sx_RP.step (pc2 := 49) (ls2 := [(0, .ref 44), (1, .ref sa), (2, .int 0), (3, .int (nI j))]) (st2 := [.int (nI j)]) (w3 := ((w.set 45 (.inl (0, l))).set 95 (.inl (1, ku)))) rfl rfl ?_
  refine sx_RP.step (pc2 := 51) (ls2 := [(0, .ref 44), (1, .ref sa), (2, .int 0), (3, .int (nI j))]) (st2 := [.int 48, .int (nI j)]) (w3 := ((w.set 45 (.inl (0, l))).set 95 (.inl (1, ku)))) rfl rfl ?_
  refine sx_RP.br (p2 := 54) (l2 := [(0, .ref 44), (1, .ref sa), (2, .int 0), (3, .int (nI j))]) (s2 := []) (v2 := ((w.set 45 (.inl (0, l))).set 95 (.inl (1, ku)))) rfl rfl (fun q => absurd (of_decide_eq_true q) (nI_ge (b := 48) hj (by omega))) (fun _ => ?_)
  refine sx_RP.step (pc2 := 55) (ls2 := [(0, .ref 44), (1, .ref sa), (2, .int 0), (3, .int (nI j))]) (st2 := [.int 0]) (w3 := ((w.set 45 (.inl (0, l))).set 95 (.inl (1, ku)))) rfl rfl ?_
  refine sx_RP.step (pc2 := 58) (ls2 := [(0, .ref 44), (1, .ref sa), (2, .int 0), (3, .int (nI j))]) (st2 := []) (w3 := ((w.set 45 (.inl (0, l))).set 95 (.inl (1, ku)))) rfl rfl ?_
  refine sx_RP.step (pc2 := 59) (ls2 := [(0, .ref 44), (1, .ref sa), (2, .int 0), (3, .int (nI j))]) (st2 := [.ref 44]) (w3 := ((w.set 45 (.inl (0, l))).set 95 (.inl (1, ku)))) rfl rfl ?_
  refine sx_RP.gf (v := .ref 95) rfl rfl (sx_gn2 (by decide) (sx_gn2 (by decide) h44)) rfl rfl (show _ = 62 from rfl) ?_
  refine sx_RP.step (pc2 := 63) (ls2 := [(0, .ref 44), (1, .ref sa), (2, .int 0), (3, .int (nI j))]) (st2 := [.int (nI j), .ref 95]) (w3 := ((w.set 45 (.inl (0, l))).set 95 (.inl (1, ku)))) rfl rfl ?_
  refine sx_RP.step (pc2 := 64) (ls2 := [(0, .ref 44), (1, .ref sa), (2, .int 0), (3, .int (nI j))]) (st2 := [.int 0, .int (nI j), .ref 95]) (w3 := ((w.set 45 (.inl (0, l))).set 95 (.inl (1, ku)))) rfl rfl ?_
  refine sx_RP.bst1 (c := j) (w2 := ((w.set 45 (.inl (0, l))).set 95 (.inl (1, ku.set j 0)))) rfl (sx_gs2 (sx_gn2 (by decide) h95)) hku (sx_in_nI hj (by decide)) (nI_clamp (by have := hj; omega)) (List.set_set ..) (show _ = 65 from rfl) ?_
  refine sx_RP.step (pc2 := 68) (ls2 := [(3, .int ((nI j) + 1)), (0, .ref 44), (1, .ref sa), (2, .int 0)]) (st2 := []) (w3 := ((w.set 45 (.inl (0, l))).set 95 (.inl (1, ku.set j 0)))) rfl rfl ?_
  refine sx_RP.step (pc2 := 48) (ls2 := [(3, .int ((nI j) + 1)), (0, .ref 44), (1, .ref sa), (2, .int 0)]) (st2 := []) (w3 := ((w.set 45 (.inl (0, l))).set 95 (.inl (1, ku.set j 0)))) rfl rfl ?_
  rw [nI_1 j]
  exact sx_RP.ls (sx_lr.cons rfl (sx_lr.cons rfl (sx_lr.cons rfl (sx_lr.cons rfl sx_lr.nil)))) k
set_option maxRecDepth 20000 in
set_option maxHeartbeats 4000000 in
theorem cp_16b {xs : Option (List Int32)} {d : Nat} {w : List sx_C} {sa : Nat} {l0 kn : List Int32} (h44 : w[44]? = some (.inr (.inr (.inr (3, [.ref 45, .ref 46, .ref 95]))))) (h45 : w[45]? = some (.inl (0, l0))) (h95 : w[95]? = some (.inl (1, kn))) {l : List Int32} {P : Option Value → List sx_C → Prop} : ∀ (k j : Nat) (ku : List Int32), j + k = 48 → ku.length = 48 → P none ((w.set 45 (.inl (0, l))).set 95 (.inl (1, flF 0 k j ku))) → sx_RP xs d 16 48 [(0, .ref 44), (1, .ref sa), (2, .int 0), (3, .int (nI j))] [] ((w.set 45 (.inl (0, l))).set 95 (.inl (1, ku))) P
  | 0, j, ku, h, hp, kk => by
    obtain rfl : j = 48 := by omega
    refine sx_RP.step (pc2 := 49) (ls2 := [(0, .ref 44), (1, .ref sa), (2, .int 0), (3, .int (nI 48))]) (st2 := [.int (nI 48)]) (w3 := ((w.set 45 (.inl (0, l))).set 95 (.inl (1, ku)))) rfl rfl ?_
    refine sx_RP.step (pc2 := 51) (ls2 := [(0, .ref 44), (1, .ref sa), (2, .int 0), (3, .int (nI 48))]) (st2 := [.int 48, .int (nI 48)]) (w3 := ((w.set 45 (.inl (0, l))).set 95 (.inl (1, ku)))) rfl rfl ?_
    refine sx_RP.step (pc2 := 71) (ls2 := [(0, .ref 44), (1, .ref sa), (2, .int 0), (3, .int (nI 48))]) (st2 := []) (w3 := ((w.set 45 (.inl (0, l))).set 95 (.inl (1, ku)))) rfl rfl ?_
    refine sx_RP.ret (r := none) rfl rfl ?_
    exact kk
  | k + 1, j, ku, h, hp, kk => cq_16b h44 h45 h95 hp (by omega) (cp_16b h44 h45 h95 k (j + 1) (ku.set j 0) (by omega) (by rw [List.length_set]; exact hp) kk)
def knF (sm : Int32) (kn : List Int32) : List Int32 := if sm = 0 then flF 0 48 0 kn else kn
set_option maxRecDepth 20000 in
set_option maxHeartbeats 4000000 in
theorem cp_16c {xs : Option (List Int32)} {d : Nat} {w : List sx_C} {sa : Nat} {l0 kn : List Int32} (h44 : w[44]? = some (.inr (.inr (.inr (3, [.ref 45, .ref 46, .ref 95]))))) (h45 : w[45]? = some (.inl (0, l0))) (h95 : w[95]? = some (.inl (1, kn))) {l : List Int32} {P : Option Value → List sx_C → Prop} (hkn : kn.length = 48) {sm : Int32} (kk : P none ((w.set 45 (.inl (0, l))).set 95 (.inl (1, knF sm kn)))) : sx_RP xs d 16 48 [(0, .ref 44), (1, .ref sa), (2, .int sm), (3, .int (nI 0))] [] (w.set 45 (.inl (0, l))) P := by
  have hx : (w.set 45 (.inl (0, l)))[95]? = some (.inl (1, kn)) := sx_gn2 (by decide) h95
  by_cases q : sm = 0
  · subst q
    rw [knF, if_pos rfl] at kk
    rw [sx_same hx]
    refine cp_16b h44 h45 h95 48 0 kn rfl hkn kk
  · rw [knF, if_neg q, ← sx_same hx] at kk
    refine sx_RP.step (pc2 := 49) (ls2 := [(0, .ref 44), (1, .ref sa), (2, .int sm), (3, .int (nI 0))]) (st2 := [.int (nI 0)]) (w3 := w.set 45 (.inl (0, l))) rfl rfl ?_
    refine sx_RP.step (pc2 := 51) (ls2 := [(0, .ref 44), (1, .ref sa), (2, .int sm), (3, .int (nI 0))]) (st2 := [.int 48, .int (nI 0)]) (w3 := w.set 45 (.inl (0, l))) rfl rfl ?_
    refine sx_RP.step (pc2 := 54) (ls2 := [(0, .ref 44), (1, .ref sa), (2, .int sm), (3, .int (nI 0))]) (st2 := []) (w3 := w.set 45 (.inl (0, l))) rfl rfl ?_
    refine sx_RP.step (pc2 := 55) (ls2 := [(0, .ref 44), (1, .ref sa), (2, .int sm), (3, .int (nI 0))]) (st2 := [.int sm]) (w3 := w.set 45 (.inl (0, l))) rfl rfl ?_
    refine sx_RP.br (p1 := 71) (l1 := [(0, .ref 44), (1, .ref sa), (2, .int sm), (3, .int (nI 0))]) (s1 := []) (v1 := w.set 45 (.inl (0, l))) rfl rfl (fun _ => ?_) (fun z => absurd q (of_decide_eq_false z))
    refine sx_RP.ret rfl rfl ?_
    exact kk
set_option maxRecDepth 20000 in
set_option maxHeartbeats 4000000 in
theorem cp_16 {xs : Option (List Int32)} {d : Nat} {w : List sx_C} {sa : Nat} {st l0 kn : List Int32} (h44 : w[44]? = some (.inr (.inr (.inr (3, [.ref 45, .ref 46, .ref 95]))))) (h45 : w[45]? = some (.inl (0, l0))) (h95 : w[95]? = some (.inl (1, kn))) (hsa : w[sa]? = some (.inl (0, st))) (h1 : sa ≠ 45) (h2 : sa ≠ 95) (hst : st.length = 48) (h4 : st4 st) (hl0 : l0.length = 48) (hkn : kn.length = 48) : sx_RU xs d 16 0 (lv_args 0 [.ref 44, .ref sa]) [] w none ((w.set 45 (.inl (0, (ftF st 48 0 (l0, 1)).1))).set 95 (.inl (1, knF (ftF st 48 0 (l0, 1)).2 kn))) := by
  have h : sx_RP xs d 16 0 (lv_args 0 [.ref 44, .ref sa]) [] w (fun r w2 => r = none ∧ w2 = (w.set 45 (.inl (0, (ftF st 48 0 (l0, 1)).1))).set 95 (.inl (1, knF (ftF st 48 0 (l0, 1)).2 kn))) := by
    refine sx_RP.step (pc2 := 1) (ls2 := [(0, .ref 44), (1, .ref sa)]) (st2 := [.int 1]) (w3 := w) rfl rfl ?_
    refine sx_RP.step (pc2 := 2) (ls2 := [(2, .int 1), (0, .ref 44), (1, .ref sa)]) (st2 := []) (w3 := w) rfl rfl ?_
    refine sx_RP.step (pc2 := 3) (ls2 := [(2, .int 1), (0, .ref 44), (1, .ref sa)]) (st2 := [.int 0]) (w3 := w) rfl rfl ?_
    refine sx_RP.step (pc2 := 4) (ls2 := [(3, .int 0), (2, .int 1), (0, .ref 44), (1, .ref sa)]) (st2 := []) (w3 := w) rfl rfl ?_
    have k2 := cp_16a (xs := xs) (d := d) h44 h45 h95 hsa h1 h2 hst h4 (P := fun r w2 => r = none ∧ w2 = (w.set 45 (.inl (0, (ftF st 48 0 (l0, 1)).1))).set 95 (.inl (1, knF (ftF st 48 0 (l0, 1)).2 kn))) 48 0 (l0, 1) rfl hl0 (cp_16c h44 h45 h95 hkn ⟨rfl, rfl⟩)
    rw [← sx_same h45] at k2
    exact sx_RP.ls (sx_lr.cons rfl (sx_lr.cons rfl (sx_lr.cons rfl (sx_lr.cons rfl sx_lr.nil)))) k2
  obtain ⟨r, w2, h1, rfl, rfl⟩ := h
  exact h1
set_option maxRecDepth 20000 in
set_option maxHeartbeats 4000000 in
theorem cp_17k {xs : Option (List Int32)} {d : Nat} {w : List sx_C} {l kn row : List Int32} {t : Nat} (h44 : w[44]? = some (.inr (.inr (.inr (3, [.ref 45, .ref 46, .ref 95]))))) (h45 : w[45]? = some (.inl (0, l))) (h46 : w[46]? = some (.inr (.inr (.inl (6, rr48))))) (h95 : w[95]? = some (.inl (1, kn))) (hr : w[47 + t]? = some (.inl (0, row))) (hl : l.length = 48) (hkn : kn.length = 48) (ht : t < 48) (hk : ¬ kn.getD t 0 = 0) : sx_RU xs d 17 0 (lv_args 0 [.ref 44, .int (nI t)]) [] w (some (.ref (47 + t))) w := by
  have h : sx_RP xs d 17 0 (lv_args 0 [.ref 44, .int (nI t)]) [] w (fun r w2 => r = (some (.ref (47 + t))) ∧ w2 = w) := by
    refine sx_RP.step (pc2 := 1) (ls2 := [(0, .ref 44), (1, .int (nI t))]) (st2 := [.ref 44]) (w3 := w) rfl rfl ?_
    refine sx_RP.gf (v := .ref 46) rfl rfl h44 rfl rfl (show _ = 4 from rfl) ?_
    refine sx_RP.step (pc2 := 5) (ls2 := [(0, .ref 44), (1, .int (nI t))]) (st2 := [.int (nI t), .ref 46]) (w3 := w) rfl rfl ?_
    refine sx_RP.ald (v := .ref (47 + t)) rfl h46 rfl (rr_at t ht) (show _ = 6 from rfl) ?_
    refine sx_RP.step (pc2 := 7) (ls2 := [(2, .ref (47 + t)), (0, .ref 44), (1, .int (nI t))]) (st2 := []) (w3 := w) rfl rfl ?_
    refine sx_RP.step (pc2 := 8) (ls2 := [(2, .ref (47 + t)), (0, .ref 44), (1, .int (nI t))]) (st2 := [.ref 44]) (w3 := w) rfl rfl ?_
    refine sx_RP.gf (v := .ref 95) rfl rfl h44 rfl rfl (show _ = 11 from rfl) ?_
    refine sx_RP.step (pc2 := 12) (ls2 := [(2, .ref (47 + t)), (0, .ref 44), (1, .int (nI t))]) (st2 := [.int (nI t), .ref 95]) (w3 := w) rfl rfl ?_
    refine sx_RP.bld1 (c := t) rfl h95 hkn (sx_in_nI ht (by decide)) (nI_clamp (by have := ht; omega)) (show _ = 13 from rfl) ?_
    refine sx_RP.br (p1 := 65) (l1 := [(2, .ref (47 + t)), (0, .ref 44), (1, .int (nI t))]) (s1 := []) (v1 := w) rfl rfl (fun _ => ?_) (fun q => absurd hk (of_decide_eq_false q))
    refine sx_RP.step (pc2 := 66) (ls2 := [(2, .ref (47 + t)), (0, .ref 44), (1, .int (nI t))]) (st2 := [.ref (47 + t)]) (w3 := w) rfl rfl ?_
    refine sx_RP.ret (r := (some (.ref (47 + t)))) rfl rfl ?_
    exact ⟨rfl, rfl⟩
  obtain ⟨r, w2, h1, rfl, rfl⟩ := h
  exact h1
set_option maxRecDepth 20000 in
set_option maxHeartbeats 4000000 in
theorem cq_17 {xs : Option (List Int32)} {d : Nat} {w : List sx_C} {P : Option Value → List sx_C → Prop} {l kn row : List Int32} {t : Nat} (h44 : w[44]? = some (.inr (.inr (.inr (3, [.ref 45, .ref 46, .ref 95]))))) (h45 : w[45]? = some (.inl (0, l))) (h46 : w[46]? = some (.inr (.inr (.inl (6, rr48))))) (h95 : w[95]? = some (.inl (1, kn))) (hr : w[47 + t]? = some (.inl (0, row))) (hl : l.length = 48) (hkn : kn.length = 48) (ht : t < 48) {c : List Int32} {j : Nat} (hc : c.length = 48) (hj : j < 48) (k : sx_RP xs d 17 34 [(0, .ref 44), (1, .int (nI t)), (2, .ref (47 + t)), (3, .int (nI (j + 1)))] [] ((w.set 95 (.inl (1, kn.set t 1))).set (47 + t) (.inl (0, c.set j (c.getD j 0 + (l.getD t 0 - l.getD j 0))))) P) : sx_RP xs d 17 34 [(0, .ref 44), (1, .int (nI t)), (2, .ref (47 + t)), (3, .int (nI j))] [] ((w.set 95 (.inl (1, kn.set t 1))).set (47 + t) (.inl (0, c))) P := by
  refine sx_RP.step (pc2 := 35) (ls2 := [(0, .ref 44), (1, .int (nI t)), (2, .ref (47 + t)), (3, .int (nI j))]) (st2 := [.int (nI j)]) (w3 := ((w.set 95 (.inl (1, kn.set t 1))).set (47 + t) (.inl (0, c)))) rfl rfl ?_
  refine sx_RP.step (pc2 := 37) (ls2 := [(0, .ref 44), (1, .int (nI t)), (2, .ref (47 + t)), (3, .int (nI j))]) (st2 := [.int 48, .int (nI j)]) (w3 := ((w.set 95 (.inl (1, kn.set t 1))).set (47 + t) (.inl (0, c)))) rfl rfl ?_
  refine sx_RP.br (p2 := 40) (l2 := [(0, .ref 44), (1, .int (nI t)), (2, .ref (47 + t)), (3, .int (nI j))]) (s2 := []) (v2 := ((w.set 95 (.inl (1, kn.set t 1))).set (47 + t) (.inl (0, c)))) rfl rfl (fun q => absurd (of_decide_eq_true q) (nI_ge (b := 48) hj (by omega))) (fun _ => ?_)
  refine sx_RP.step (pc2 := 41) (ls2 := [(0, .ref 44), (1, .int (nI t)), (2, .ref (47 + t)), (3, .int (nI j))]) (st2 := [.ref (47 + t)]) (w3 := ((w.set 95 (.inl (1, kn.set t 1))).set (47 + t) (.inl (0, c)))) rfl rfl ?_
  refine sx_RP.step (pc2 := 42) (ls2 := [(0, .ref 44), (1, .int (nI t)), (2, .ref (47 + t)), (3, .int (nI j))]) (st2 := [.int (nI j), .ref (47 + t)]) (w3 := ((w.set 95 (.inl (1, kn.set t 1))).set (47 + t) (.inl (0, c)))) rfl rfl ?_
  refine sx_RP.step (pc2 := 43) (ls2 := [(0, .ref 44), (1, .int (nI t)), (2, .ref (47 + t)), (3, .int (nI j))]) (st2 := [.int (nI j), .ref (47 + t), .int (nI j), .ref (47 + t)]) (w3 := ((w.set 95 (.inl (1, kn.set t 1))).set (47 + t) (.inl (0, c)))) rfl rfl ?_
  refine sx_RP.ild (c := j) rfl (sx_gs2 (sx_gn2 (by omega) hr)) hc (sx_in_nI hj (by decide)) (nI_clamp (by have := hj; omega)) (show _ = 44 from rfl) ?_
  refine sx_RP.step (pc2 := 45) (ls2 := [(0, .ref 44), (1, .int (nI t)), (2, .ref (47 + t)), (3, .int (nI j))]) (st2 := [.ref 44, .int (c.getD j 0), .int (nI j), .ref (47 + t)]) (w3 := ((w.set 95 (.inl (1, kn.set t 1))).set (47 + t) (.inl (0, c)))) rfl rfl ?_
  refine sx_RP.gf (v := .ref 45) rfl rfl (sx_gn2 (by omega) (sx_gn2 (by decide) h44)) rfl rfl (show _ = 48 from rfl) ?_
  refine sx_RP.step (pc2 := 49) (ls2 := [(0, .ref 44), (1, .int (nI t)), (2, .ref (47 + t)), (3, .int (nI j))]) (st2 := [.int (nI t), .ref 45, .int (c.getD j 0), .int (nI j), .ref (47 + t)]) (w3 := ((w.set 95 (.inl (1, kn.set t 1))).set (47 + t) (.inl (0, c)))) rfl rfl ?_
  refine sx_RP.ild (c := t) rfl (sx_gn2 (by omega) (sx_gn2 (by decide) h45)) hl (sx_in_nI ht (by decide)) (nI_clamp (by have := ht; omega)) (show _ = 50 from rfl) ?_
  refine sx_RP.step (pc2 := 51) (ls2 := [(0, .ref 44), (1, .int (nI t)), (2, .ref (47 + t)), (3, .int (nI j))]) (st2 := [.ref 44, .int (l.getD t 0), .int (c.getD j 0), .int (nI j), .ref (47 + t)]) (w3 := ((w.set 95 (.inl (1, kn.set t 1))).set (47 + t) (.inl (0, c)))) rfl rfl ?_
  refine sx_RP.gf (v := .ref 45) rfl rfl (sx_gn2 (by omega) (sx_gn2 (by decide) h44)) rfl rfl (show _ = 54 from rfl) ?_
  refine sx_RP.step (pc2 := 55) (ls2 := [(0, .ref 44), (1, .int (nI t)), (2, .ref (47 + t)), (3, .int (nI j))]) (st2 := [.int (nI j), .ref 45, .int (l.getD t 0), .int (c.getD j 0), .int (nI j), .ref (47 + t)]) (w3 := ((w.set 95 (.inl (1, kn.set t 1))).set (47 + t) (.inl (0, c)))) rfl rfl ?_
  refine sx_RP.ild (c := j) rfl (sx_gn2 (by omega) (sx_gn2 (by decide) h45)) hl (sx_in_nI hj (by decide)) (nI_clamp (by have := hj; omega)) (show _ = 56 from rfl) ?_
  refine sx_RP.step (pc2 := 57) (ls2 := [(0, .ref 44), (1, .int (nI t)), (2, .ref (47 + t)), (3, .int (nI j))]) (st2 := [.int ((l.getD t 0) - (l.getD j 0)), .int (c.getD j 0), .int (nI j), .ref (47 + t)]) (w3 := ((w.set 95 (.inl (1, kn.set t 1))).set (47 + t) (.inl (0, c)))) rfl rfl ?_
  refine sx_RP.step (pc2 := 58) (ls2 := [(0, .ref 44), (1, .int (nI t)), (2, .ref (47 + t)), (3, .int (nI j))]) (st2 := [.int ((c.getD j 0) + ((l.getD t 0) - (l.getD j 0))), .int (nI j), .ref (47 + t)]) (w3 := ((w.set 95 (.inl (1, kn.set t 1))).set (47 + t) (.inl (0, c)))) rfl rfl ?_
  refine sx_RP.ist (c := j) (w2 := ((w.set 95 (.inl (1, kn.set t 1))).set (47 + t) (.inl (0, c.set j ((c.getD j 0) + ((l.getD t 0) - (l.getD j 0))))))) rfl (sx_gs2 (sx_gn2 (by omega) hr)) hc (sx_in_nI hj (by decide)) (nI_clamp (by have := hj; omega)) (List.set_set ..) (show _ = 59 from rfl) ?_
  refine sx_RP.step (pc2 := 62) (ls2 := [(3, .int ((nI j) + 1)), (0, .ref 44), (1, .int (nI t)), (2, .ref (47 + t))]) (st2 := []) (w3 := ((w.set 95 (.inl (1, kn.set t 1))).set (47 + t) (.inl (0, c.set j ((c.getD j 0) + ((l.getD t 0) - (l.getD j 0))))))) rfl rfl ?_
  refine sx_RP.step (pc2 := 34) (ls2 := [(3, .int ((nI j) + 1)), (0, .ref 44), (1, .int (nI t)), (2, .ref (47 + t))]) (st2 := []) (w3 := ((w.set 95 (.inl (1, kn.set t 1))).set (47 + t) (.inl (0, c.set j ((c.getD j 0) + ((l.getD t 0) - (l.getD j 0))))))) rfl rfl ?_
  rw [nI_1 j]
  exact sx_RP.ls (sx_lr.cons rfl (sx_lr.cons rfl (sx_lr.cons rfl (sx_lr.cons rfl sx_lr.nil)))) k
set_option maxRecDepth 20000 in
set_option maxHeartbeats 4000000 in
theorem cp_17a {xs : Option (List Int32)} {d : Nat} {w : List sx_C} {l kn row : List Int32} {t : Nat} (h44 : w[44]? = some (.inr (.inr (.inr (3, [.ref 45, .ref 46, .ref 95]))))) (h45 : w[45]? = some (.inl (0, l))) (h46 : w[46]? = some (.inr (.inr (.inl (6, rr48))))) (h95 : w[95]? = some (.inl (1, kn))) (hr : w[47 + t]? = some (.inl (0, row))) (hl : l.length = 48) (hkn : kn.length = 48) (ht : t < 48) {P : Option Value → List sx_C → Prop} : ∀ (k j : Nat) (c : List Int32), j + k = 48 → c.length = 48 → P (some (.ref (47 + t))) ((w.set 95 (.inl (1, kn.set t 1))).set (47 + t) (.inl (0, adF l t k j c))) → sx_RP xs d 17 34 [(0, .ref 44), (1, .int (nI t)), (2, .ref (47 + t)), (3, .int (nI j))] [] ((w.set 95 (.inl (1, kn.set t 1))).set (47 + t) (.inl (0, c))) P
  | 0, j, c, h, hc, kk => by
    obtain rfl : j = 48 := by omega
    refine sx_RP.step (pc2 := 35) (ls2 := [(0, .ref 44), (1, .int (nI t)), (2, .ref (47 + t)), (3, .int (nI 48))]) (st2 := [.int (nI 48)]) (w3 := ((w.set 95 (.inl (1, kn.set t 1))).set (47 + t) (.inl (0, c)))) rfl rfl ?_
    refine sx_RP.step (pc2 := 37) (ls2 := [(0, .ref 44), (1, .int (nI t)), (2, .ref (47 + t)), (3, .int (nI 48))]) (st2 := [.int 48, .int (nI 48)]) (w3 := ((w.set 95 (.inl (1, kn.set t 1))).set (47 + t) (.inl (0, c)))) rfl rfl ?_
    refine sx_RP.step (pc2 := 65) (ls2 := [(0, .ref 44), (1, .int (nI t)), (2, .ref (47 + t)), (3, .int (nI 48))]) (st2 := []) (w3 := ((w.set 95 (.inl (1, kn.set t 1))).set (47 + t) (.inl (0, c)))) rfl rfl ?_
    refine sx_RP.step (pc2 := 66) (ls2 := [(0, .ref 44), (1, .int (nI t)), (2, .ref (47 + t)), (3, .int (nI 48))]) (st2 := [.ref (47 + t)]) (w3 := ((w.set 95 (.inl (1, kn.set t 1))).set (47 + t) (.inl (0, c)))) rfl rfl ?_
    refine sx_RP.ret (r := (some (.ref (47 + t)))) rfl rfl ?_
    exact kk
  | k + 1, j, c, h, hc, kk => cq_17 h44 h45 h46 h95 hr hl hkn ht hc (by omega) (cp_17a h44 h45 h46 h95 hr hl hkn ht k (j + 1) _ (by omega) (by rw [List.length_set]; exact hc) kk)
set_option maxRecDepth 20000 in
set_option maxHeartbeats 4000000 in
theorem cp_17 {xs : Option (List Int32)} {d : Nat} {w : List sx_C} {l kn row : List Int32} {t : Nat} (h44 : w[44]? = some (.inr (.inr (.inr (3, [.ref 45, .ref 46, .ref 95]))))) (h45 : w[45]? = some (.inl (0, l))) (h46 : w[46]? = some (.inr (.inr (.inl (6, rr48))))) (h95 : w[95]? = some (.inl (1, kn))) (hr : w[47 + t]? = some (.inl (0, row))) (hl : l.length = 48) (hkn : kn.length = 48) (ht : t < 48) (hrow : row.length = 48) (hk : kn.getD t 0 = 0) : sx_RU xs (d + 3) 17 0 (lv_args 0 [.ref 44, .int (nI t)]) [] w (some (.ref (47 + t))) ((w.set 95 (.inl (1, kn.set t 1))).set (47 + t) (.inl (0, adF l t 48 0 (spF l t row)))) := by
  have h : sx_RP xs (d + 3) 17 0 (lv_args 0 [.ref 44, .int (nI t)]) [] w (fun r w2 => r = (some (.ref (47 + t))) ∧ w2 = ((w.set 95 (.inl (1, kn.set t 1))).set (47 + t) (.inl (0, adF l t 48 0 (spF l t row))))) := by
    refine sx_RP.step (pc2 := 1) (ls2 := [(0, .ref 44), (1, .int (nI t))]) (st2 := [.ref 44]) (w3 := w) rfl rfl ?_
    refine sx_RP.gf (v := .ref 46) rfl rfl h44 rfl rfl (show _ = 4 from rfl) ?_
    refine sx_RP.step (pc2 := 5) (ls2 := [(0, .ref 44), (1, .int (nI t))]) (st2 := [.int (nI t), .ref 46]) (w3 := w) rfl rfl ?_
    refine sx_RP.ald (v := .ref (47 + t)) rfl h46 rfl (rr_at t ht) (show _ = 6 from rfl) ?_
    refine sx_RP.step (pc2 := 7) (ls2 := [(2, .ref (47 + t)), (0, .ref 44), (1, .int (nI t))]) (st2 := []) (w3 := w) rfl rfl ?_
    refine sx_RP.step (pc2 := 8) (ls2 := [(2, .ref (47 + t)), (0, .ref 44), (1, .int (nI t))]) (st2 := [.ref 44]) (w3 := w) rfl rfl ?_
    refine sx_RP.gf (v := .ref 95) rfl rfl h44 rfl rfl (show _ = 11 from rfl) ?_
    refine sx_RP.step (pc2 := 12) (ls2 := [(2, .ref (47 + t)), (0, .ref 44), (1, .int (nI t))]) (st2 := [.int (nI t), .ref 95]) (w3 := w) rfl rfl ?_
    refine sx_RP.bld1 (c := t) rfl h95 hkn (sx_in_nI ht (by decide)) (nI_clamp (by have := ht; omega)) (show _ = 13 from rfl) ?_
    refine sx_RP.br (p2 := 16) (l2 := [(2, .ref (47 + t)), (0, .ref 44), (1, .int (nI t))]) (s2 := []) (v2 := w) rfl rfl (fun q => absurd (of_decide_eq_true q) (fun z => z hk)) (fun _ => ?_)
    refine sx_RP.step (pc2 := 17) (ls2 := [(2, .ref (47 + t)), (0, .ref 44), (1, .int (nI t))]) (st2 := [.ref 44]) (w3 := w) rfl rfl ?_
    refine sx_RP.gf (v := .ref 95) rfl rfl h44 rfl rfl (show _ = 20 from rfl) ?_
    refine sx_RP.step (pc2 := 21) (ls2 := [(2, .ref (47 + t)), (0, .ref 44), (1, .int (nI t))]) (st2 := [.int (nI t), .ref 95]) (w3 := w) rfl rfl ?_
    refine sx_RP.step (pc2 := 22) (ls2 := [(2, .ref (47 + t)), (0, .ref 44), (1, .int (nI t))]) (st2 := [.int 1, .int (nI t), .ref 95]) (w3 := w) rfl rfl ?_
    refine sx_RP.bst1 (c := t) (w2 := (w.set 95 (.inl (1, kn.set t 1)))) rfl h95 hkn (sx_in_nI ht (by decide)) (nI_clamp (by have := ht; omega)) rfl (show _ = 23 from rfl) ?_
    refine sx_RP.step (pc2 := 24) (ls2 := [(2, .ref (47 + t)), (0, .ref 44), (1, .int (nI t))]) (st2 := [.int (nI t)]) (w3 := (w.set 95 (.inl (1, kn.set t 1)))) rfl rfl ?_
    refine sx_RP.step (pc2 := 25) (ls2 := [(2, .ref (47 + t)), (0, .ref 44), (1, .int (nI t))]) (st2 := [.ref 44, .int (nI t)]) (w3 := (w.set 95 (.inl (1, kn.set t 1)))) rfl rfl ?_
    refine sx_RP.gf (v := .ref 45) rfl rfl (sx_gn2 (by decide) h44) rfl rfl (show _ = 28 from rfl) ?_
    refine sx_RP.step (pc2 := 29) (ls2 := [(2, .ref (47 + t)), (0, .ref 44), (1, .int (nI t))]) (st2 := [.ref (47 + t), .ref 45, .int (nI t)]) (w3 := (w.set 95 (.inl (1, kn.set t 1)))) rfl rfl ?_
    refine sx_RP.cu (as := [.int (nI t), .ref 45, .ref (47 + t)]) (rest2 := []) (st3 := []) rfl rfl rfl rfl rfl (cp_18 (sx_gn2 (by decide) h45) (sx_gn2 (by omega) hr) (by omega) hl hrow ht) rfl ?_
    refine sx_RP.step (pc2 := 33) (ls2 := [(2, .ref (47 + t)), (0, .ref 44), (1, .int (nI t))]) (st2 := [.int 0]) (w3 := ((w.set 95 (.inl (1, kn.set t 1))).set (47 + t) (.inl (0, spF l t row)))) rfl rfl ?_
    refine sx_RP.step (pc2 := 34) (ls2 := [(3, .int 0), (2, .ref (47 + t)), (0, .ref 44), (1, .int (nI t))]) (st2 := []) (w3 := ((w.set 95 (.inl (1, kn.set t 1))).set (47 + t) (.inl (0, spF l t row)))) rfl rfl ?_
    exact sx_RP.ls (sx_lr.cons rfl (sx_lr.cons rfl (sx_lr.cons rfl (sx_lr.cons rfl sx_lr.nil)))) (cp_17a h44 h45 h46 h95 hr hl hkn ht 48 0 (spF l t row) rfl (spF_len hrow) ⟨rfl, rfl⟩)
  obtain ⟨r, w2, h1, rfl, rfl⟩ := h
  exact h1
end
