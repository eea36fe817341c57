-- runs without the script are runs with it; more fuel; the rules of a run
theorem sx_lift_iald {ys : List Int32} {ls : sx_L} {pc : Nat} {st : List Value} {w : List sx_C} {F : sx_F} (h : sx_iald none ls pc st w = some F) : sx_iald (some ys) ls pc st w = some F := by
  unfold sx_iald at h ⊢
  split at h
  · exact h
  · rename_i i k r
    cases hk : Nat.blt k.toNat 5 with
    | false => rw [hk] at h; cases h
    | true =>
      rw [hk] at h
      simp only [cond_true] at h ⊢
      have hlt : k.toNat < 5 := Nat.le_of_ble_eq_true hk
      rcases (show k.toNat = 0 ∨ k.toNat = 1 ∨ k.toNat = 2 ∨ k.toNat = 3 ∨ k.toNat = 4 by omega) with e | e | e | e | e
      · rw [e] at h ⊢; exact h
      · rw [e] at h ⊢; exact h
      · rw [e] at h ⊢; exact h
      · rw [e] at h ⊢; exact h
      · rw [e] at h
        unfold sx_al at h
        have e2 : sx_in i (sx_st none 4).length = false := by
          cases hb : sx_in i (sx_st none 4).length with
          | false => rfl
          | true => exact absurd (sx_in_lt hb) (Nat.not_lt_zero _)
        rw [e2] at h
        cases h
  · cases h
theorem sx_lift_len {ys : List Int32} {ls : sx_L} {pc : Nat} {st : List Value} {w : List sx_C} {F : sx_F} (h : sx_len none ls pc st w = some F) : sx_len (some ys) ls pc st w = some F := by
  unfold sx_len at h
  split at h
  · rename_i he
    cases he
  · cases h
set_option maxHeartbeats 4000000 in
theorem sx_lift_step {md : Bool} {ys : List Int32} {mi pc n : Nat} {i : Instr} {ls : sx_L} {st : List Value} {w : List sx_C} {F : sx_F} (h : sx_step md none mi pc i n ls st w = some F) : sx_step md (some ys) mi pc i n ls st w = some F := by
  unfold sx_step at h
  split at h <;> first
    | exact h
    | exact sx_lift_iald h
    | exact sx_lift_len h
    | cases h
theorem sx_ret_i {mi : Nat} {i : Instr} {st : List Value} {r : Option Value} (h : sx_ret mi i st = some r) : i = .ireturn ∨ i = .lreturn ∨ i = .areturn ∨ i = .return_ := by
  unfold sx_ret at h
  split at h
  · exact Or.inl rfl
  · exact Or.inl rfl
  · exact Or.inr (Or.inl rfl)
  · exact Or.inr (Or.inr (Or.inl rfl))
  · exact Or.inr (Or.inr (Or.inl rfl))
  · exact Or.inr (Or.inr (Or.inl rfl))
  · exact Or.inr (Or.inr (Or.inr rfl))
  · cases h
theorem sx_step_r {md : Bool} {xs : Option (List Int32)} {mi pc : Nat} {i : Instr} {ls : sx_L} {st : List Value} {w : List sx_C} {r : Option Value} (h : sx_ret mi i st = some r) : sx_step md xs mi pc i 1 ls st w = none := by
  rcases sx_ret_i h with rfl | rfl | rfl | rfl <;> rfl
theorem sx_step_v {md : Bool} {ys : List Int32} {mi pc : Nat} {i : Instr} {ls : sx_L} {st : List Value} {w : List sx_C} {q : Nat × List Value × List Value} (h : sx_inv mi i st w = some q) : sx_step md (some ys) mi pc i 3 ls st w = sx_step md none mi pc i 3 ls st w := by
  rcases sx_inv_i h with ⟨k, rfl⟩ | ⟨k, rfl⟩ | ⟨k, rfl⟩ <;> rfl
theorem sx_lift_run (md : Bool) (ys : List Int32) : ∀ (f d mi pc : Nat) (ls : sx_L) (st : List Value) (w : List sx_C) (r : Option Value) (w2 : List sx_C), sx_run md none f d mi pc ls st w = some (r, w2) → sx_run md (some ys) f d mi pc ls st w = some (r, w2)
  | 0, d, mi, pc, ls, st, w, r, w2, h => by cases h
  | f + 1, d, mi, pc, ls, st, w, r, w2, h => by
    unfold sx_run at h ⊢
    split at h
    · cases h
    · rename_i i n hi
      try rw [hi]
      try simp only
      split at h
      · rename_i pc2 ls2 st2 w3 hs
        rw [sx_lift_step hs]
        exact sx_lift_run md ys f d mi pc2 ls2 st2 w3 r w2 h
      · rename_i hs
        split at h
        · rename_i r2 hr
          obtain ⟨hn, hr2⟩ := sx_cbeq hr
          subst hn
          try rw [sx_step_r hr2]
          try simp only
          try rw [hr]
          exact h
        · rename_i hr
          split at h
          · rename_i mi2 as rest d2 hinv
            obtain ⟨hn, hinv2⟩ := sx_cbeq hinv
            subst hn
            try rw [sx_step_v hinv2, hs]
            try simp only
            try rw [hr]
            try simp only
            try rw [hinv]
            try simp only
            simp only [Bool.cond_eq_ite] at h ⊢
            split at h
            · rename_i hsum
              rw [if_pos hsum]
              split at h
              · rename_i r2 w4 hc
                rw [sx_lift_run md ys f d2 mi2 0 _ [] w r2 w4 hc]
                exact sx_lift_run md ys f (d2 + 1) mi (pc + 3) ls _ w4 r w2 h
              · cases h
            · cases h
          · cases h
theorem sx_fuel1 (md : Bool) (xs : Option (List Int32)) : ∀ (f d mi pc : Nat) (ls : sx_L) (st : List Value) (w : List sx_C) (r : Option Value) (w2 : List sx_C), sx_run md xs f d mi pc ls st w = some (r, w2) → sx_run md xs (f + 1) d mi pc ls st w = some (r, w2)
  | 0, d, mi, pc, ls, st, w, r, w2, h => by cases h
  | f + 1, d, mi, pc, ls, st, w, r, w2, h => by
    unfold sx_run at h
    unfold sx_run
    split at h
    · cases h
    · rename_i i n hi
      try rw [hi]
      try simp only
      split at h
      · rename_i pc2 ls2 st2 w3 hs
        try rw [hs]
        exact sx_fuel1 md xs f d mi pc2 ls2 st2 w3 r w2 h
      · rename_i hs
        try rw [hs]
        try simp only
        split at h
        · rename_i r2 hr
          try rw [hr]
          exact h
        · rename_i hr
          try rw [hr]
          try simp only
          split at h
          · rename_i mi2 as rest d2 hinv
            try rw [hinv]
            try simp only
            simp only [Bool.cond_eq_ite] at h ⊢
            split at h
            · rename_i hsum
              rw [if_pos hsum]
              split at h
              · rename_i r2 w4 hc
                rw [sx_fuel1 md xs f d2 mi2 0 _ [] w r2 w4 hc]
                exact sx_fuel1 md xs f (d2 + 1) mi (pc + 3) ls _ w4 r w2 h
              · cases h
            · cases h
          · cases h
theorem sx_fuel {md : Bool} {xs : Option (List Int32)} {f g d mi pc : Nat} {ls : sx_L} {st : List Value} {w : List sx_C} {r : Option Value} {w2 : List sx_C} (h : sx_run md xs f d mi pc ls st w = some (r, w2)) (hg : f ≤ g) : sx_run md xs g d mi pc ls st w = some (r, w2) := by
  obtain ⟨k, rfl⟩ : ∃ k, g = f + k := ⟨g - f, by omega⟩
  clear hg
  induction k with
  | zero => exact h
  | succ k ih => exact sx_fuel1 md xs (f + k) d mi pc ls st w r w2 ih
/-- the run comes to an answer -/
def sx_RU (xs : Option (List Int32)) (d mi pc : Nat) (ls : sx_L) (st : List Value) (w : List sx_C) (r : Option Value) (w2 : List sx_C) : Prop := ∃ f, sx_run false xs f d mi pc ls st w = some (r, w2)
section SXU
variable {xs : Option (List Int32)} {d mi pc : Nat} {ls : sx_L} {st : List Value} {w : List sx_C} {r : Option Value} {w2 : List sx_C}
theorem sx_RU.step {i : Instr} {n pc2 : Nat} {ls2 : sx_L} {st2 : List Value} {w3 : List sx_C} (hi : sx_ins mi pc = some (i, n)) (hs : sx_step false xs mi pc i n ls st w = some (pc2, ls2, st2, w3)) (k : sx_RU xs d mi pc2 ls2 st2 w3 r w2) : sx_RU xs d mi pc ls st w r w2 := by
  obtain ⟨f, hf⟩ := k
  refine ⟨f + 1, ?_⟩
  unfold sx_run
  rw [hi]
  simp only
  rw [hs]
  exact hf
theorem sx_RU.ret {i : Instr} (hi : sx_ins mi pc = some (i, 1)) (hr : sx_ret mi i st = some r) : sx_RU xs d mi pc ls st w r w := by
  refine ⟨1, ?_⟩
  unfold sx_run
  rw [hi]
  simp only
  rw [sx_step_r hr]
  simp only
  rw [show cond (Nat.beq 1 1) (sx_ret mi i st) none = sx_ret mi i st from rfl, hr]
theorem sx_RU.call {i : Instr} {mi2 : Nat} {as rest : List Value} {r2 : Option Value} {w4 : List sx_C} (hi : sx_ins mi pc = some (i, 3)) (hs : sx_step false xs mi pc i 3 ls st w = none) (hv : sx_inv mi i st w = some (mi2, as, rest)) (hm : Nat.ble (as.map (fun v => v.category)).sum (sx_maxL mi2) = true) (hc : sx_RU xs d mi2 0 (lv_args 0 as) [] w r2 w4) (k : sx_RU xs (d + 1) mi (pc + 3) ls (r2.toList ++ rest) w4 r w2) : sx_RU xs (d + 1) mi pc ls st w r w2 := by
  obtain ⟨f, hf⟩ := hc
  obtain ⟨g, hg⟩ := k
  refine ⟨max f g + 1, ?_⟩
  unfold sx_run
  rw [hi]
  simp only
  rw [hs]
  simp only
  rw [show cond (Nat.beq 3 1) (sx_ret mi i st) none = none from rfl]
  simp only
  rw [show cond (Nat.beq 3 3) (sx_inv mi i st w) none = sx_inv mi i st w from rfl, hv]
  simp only
  rw [hm, sx_fuel hf (Nat.le_max_left f g)]
  exact sx_fuel hg (Nat.le_max_right f g)
theorem sx_RU.eval {ys : List Int32} {f : Nat} (h : sx_run false none f d mi pc ls st w = some (r, w2)) : sx_RU (some ys) d mi pc ls st w r w2 := ⟨f, sx_lift_run false ys f d mi pc ls st w r w2 h⟩
end SXU
