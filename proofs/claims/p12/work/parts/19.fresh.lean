-- equality of worlds, by a program
def sx_eqC (a b : sx_C) : Bool := match a, b with
  | .inl x, .inl y => decide (x = y)
  | .inr (.inl x), .inr (.inl y) => decide (x = y)
  | .inr (.inr (.inl x)), .inr (.inr (.inl y)) => decide (x = y)
  | .inr (.inr (.inr x)), .inr (.inr (.inr y)) => decide (x = y)
  | _, _ => false
def sx_eqW : List sx_C → List sx_C → Bool
  | [], [] => true
  | a :: r, b :: t => sx_eqC a b && sx_eqW r t
  | _, _ => false
theorem sx_eqC_of {a b : sx_C} (h : sx_eqC a b = true) : a = b := by
  unfold sx_eqC at h
  split at h
  · rw [of_decide_eq_true h]
  · rw [of_decide_eq_true h]
  · rw [of_decide_eq_true h]
  · rw [of_decide_eq_true h]
  · cases h
theorem sx_eqW_of : ∀ (a b : List sx_C), sx_eqW a b = true → a = b
  | [], [], _ => rfl
  | a :: r, b :: t, h => by
    have h2 : (sx_eqC a b && sx_eqW r t) = true := h
    rw [Bool.and_eq_true] at h2
    rw [sx_eqC_of h2.1, sx_eqW_of r t h2.2]
  | [], b :: t, h => by cases h
  | a :: r, [], h => by cases h
def sx_is (o : Option (Option Value × List sx_C)) (r : Option Value) (w : List sx_C) : Bool := match o with
  | some q => decide (q.1 = r) && sx_eqW q.2 w
  | none => false
theorem sx_is_of {o : Option (Option Value × List sx_C)} {r : Option Value} {w : List sx_C} (h : sx_is o r w = true) : o = some (r, w) := by
  unfold sx_is at h
  split at h
  · rename_i q
    rw [Bool.and_eq_true] at h
    have e1 : q.1 = r := of_decide_eq_true h.1
    have e2 : q.2 = w := sx_eqW_of _ _ h.2
    rw [← e1, ← e2]
  · cases h
-- the cells behind the two constructors
noncomputable def sx_wX : List sx_C := [
  .inr (.inr (.inr (0, [.ref 1, .ref 15, .ref 29, .int (0), .ref 43, .ref 44, .ref 96, .ref 98, .ref 99, .ref 100, .ref 101, .ref 102]))),
  .inr (.inr (.inr (1, [.ref 2, .long (0), .ref 3, .int (0), .ref 4, .int (0), .int (0), .int (0), .int (0), .int (10), .int (16)]))),
  .inl (0, List.replicate 48 0),
  .inr (.inr (.inl (4, [some 5, some 6, some 7, some 8, some 9, some 10, some 11, some 12, some 13, some 14]))),
  .inl (0, List.replicate 9 0),
  .inr (.inr (.inr (2, [.int (0), .int (0), .int (0), .int (0), .int (0), .int (0)]))),
  .inr (.inr (.inr (2, [.int (0), .int (0), .int (0), .int (0), .int (0), .int (0)]))),
  .inr (.inr (.inr (2, [.int (0), .int (0), .int (0), .int (0), .int (0), .int (0)]))),
  .inr (.inr (.inr (2, [.int (0), .int (0), .int (0), .int (0), .int (0), .int (0)]))),
  .inr (.inr (.inr (2, [.int (0), .int (0), .int (0), .int (0), .int (0), .int (0)]))),
  .inr (.inr (.inr (2, [.int (0), .int (0), .int (0), .int (0), .int (0), .int (0)]))),
  .inr (.inr (.inr (2, [.int (0), .int (0), .int (0), .int (0), .int (0), .int (0)]))),
  .inr (.inr (.inr (2, [.int (0), .int (0), .int (0), .int (0), .int (0), .int (0)]))),
  .inr (.inr (.inr (2, [.int (0), .int (0), .int (0), .int (0), .int (0), .int (0)]))),
  .inr (.inr (.inr (2, [.int (0), .int (0), .int (0), .int (0), .int (0), .int (0)]))),
  .inr (.inr (.inr (1, [.ref 16, .long (0), .ref 17, .int (0), .ref 18, .int (0), .int (0), .int (0), .int (0), .int (10), .int (16)]))),
  .inl (0, List.replicate 48 0),
  .inr (.inr (.inl (4, [some 19, some 20, some 21, some 22, some 23, some 24, some 25, some 26, some 27, some 28]))),
  .inl (0, List.replicate 9 0),
  .inr (.inr (.inr (2, [.int (0), .int (0), .int (0), .int (0), .int (0), .int (0)]))),
  .inr (.inr (.inr (2, [.int (0), .int (0), .int (0), .int (0), .int (0), .int (0)]))),
  .inr (.inr (.inr (2, [.int (0), .int (0), .int (0), .int (0), .int (0), .int (0)]))),
  .inr (.inr (.inr (2, [.int (0), .int (0), .int (0), .int (0), .int (0), .int (0)]))),
  .inr (.inr (.inr (2, [.int (0), .int (0), .int (0), .int (0), .int (0), .int (0)]))),
  .inr (.inr (.inr (2, [.int (0), .int (0), .int (0), .int (0), .int (0), .int (0)]))),
  .inr (.inr (.inr (2, [.int (0), .int (0), .int (0), .int (0), .int (0), .int (0)]))),
  .inr (.inr (.inr (2, [.int (0), .int (0), .int (0), .int (0), .int (0), .int (0)]))),
  .inr (.inr (.inr (2, [.int (0), .int (0), .int (0), .int (0), .int (0), .int (0)]))),
  .inr (.inr (.inr (2, [.int (0), .int (0), .int (0), .int (0), .int (0), .int (0)]))),
  .inr (.inr (.inr (1, [.ref 30, .long (0), .ref 31, .int (0), .ref 32, .int (0), .int (0), .int (0), .int (0), .int (10), .int (16)]))),
  .inl (0, List.replicate 48 0),
  .inr (.inr (.inl (4, [some 33, some 34, some 35, some 36, some 37, some 38, some 39, some 40, some 41, some 42]))),
  .inl (0, List.replicate 9 0),
  .inr (.inr (.inr (2, [.int (0), .int (0), .int (0), .int (0), .int (0), .int (0)]))),
  .inr (.inr (.inr (2, [.int (0), .int (0), .int (0), .int (0), .int (0), .int (0)]))),
  .inr (.inr (.inr (2, [.int (0), .int (0), .int (0), .int (0), .int (0), .int (0)]))),
  .inr (.inr (.inr (2, [.int (0), .int (0), .int (0), .int (0), .int (0), .int (0)]))),
  .inr (.inr (.inr (2, [.int (0), .int (0), .int (0), .int (0), .int (0), .int (0)]))),
  .inr (.inr (.inr (2, [.int (0), .int (0), .int (0), .int (0), .int (0), .int (0)]))),
  .inr (.inr (.inr (2, [.int (0), .int (0), .int (0), .int (0), .int (0), .int (0)]))),
  .inr (.inr (.inr (2, [.int (0), .int (0), .int (0), .int (0), .int (0), .int (0)]))),
  .inr (.inr (.inr (2, [.int (0), .int (0), .int (0), .int (0), .int (0), .int (0)]))),
  .inr (.inr (.inr (2, [.int (0), .int (0), .int (0), .int (0), .int (0), .int (0)]))),
  .inr (.inr (.inr (2, [.int (0), .int (0), .int (0), .int (0), .int (0), .int (0)]))),
  .inr (.inr (.inr (3, [.ref 45, .ref 46, .ref 95]))),
  .inl (0, List.replicate 48 0),
  .inr (.inr (.inl (6, [some 47, some 48, some 49, some 50, some 51, some 52, some 53, some 54, some 55, some 56, some 57, some 58, some 59, some 60, some 61, some 62, some 63, some 64, some 65, some 66, some 67, some 68, some 69, some 70, some 71, some 72, some 73, some 74, some 75, some 76, some 77, some 78, some 79, some 80, some 81, some 82, some 83, some 84, some 85, some 86, some 87, some 88, some 89, some 90, some 91, some 92, some 93, some 94]))),
  .inl (0, List.replicate 48 0),
  .inl (0, List.replicate 48 0),
  .inl (0, List.replicate 48 0),
  .inl (0, List.replicate 48 0),
  .inl (0, List.replicate 48 0),
  .inl (0, List.replicate 48 0),
  .inl (0, List.replicate 48 0),
  .inl (0, List.replicate 48 0),
  .inl (0, List.replicate 48 0),
  .inl (0, List.replicate 48 0),
  .inl (0, List.replicate 48 0),
  .inl (0, List.replicate 48 0),
  .inl (0, List.replicate 48 0),
  .inl (0, List.replicate 48 0),
  .inl (0, List.replicate 48 0),
  .inl (0, List.replicate 48 0),
  .inl (0, List.replicate 48 0),
  .inl (0, List.replicate 48 0),
  .inl (0, List.replicate 48 0),
  .inl (0, List.replicate 48 0),
  .inl (0, List.replicate 48 0),
  .inl (0, List.replicate 48 0),
  .inl (0, List.replicate 48 0),
  .inl (0, List.replicate 48 0),
  .inl (0, List.replicate 48 0),
  .inl (0, List.replicate 48 0),
  .inl (0, List.replicate 48 0),
  .inl (0, List.replicate 48 0),
  .inl (0, List.replicate 48 0),
  .inl (0, List.replicate 48 0),
  .inl (0, List.replicate 48 0),
  .inl (0, List.replicate 48 0),
  .inl (0, List.replicate 48 0),
  .inl (0, List.replicate 48 0),
  .inl (0, List.replicate 48 0),
  .inl (0, List.replicate 48 0),
  .inl (0, List.replicate 48 0),
  .inl (0, List.replicate 48 0),
  .inl (0, List.replicate 48 0),
  .inl (0, List.replicate 48 0),
  .inl (0, List.replicate 48 0),
  .inl (0, List.replicate 48 0),
  .inl (0, List.replicate 48 0),
  .inl (0, List.replicate 48 0),
  .inl (0, List.replicate 48 0),
  .inl (0, List.replicate 48 0),
  .inl (0, List.replicate 48 0),
  .inl (0, List.replicate 48 0),
  .inl (1, List.replicate 48 0),
  .inr (.inr (.inr (4, [.ref 97, .int (0), .int (0), .int (0), .int (0), .int (0)]))),
  .inl (2, List.replicate 120 0),
  .inr (.inr (.inl (5, [some 103, some 105, some 107, some 109]))),
  .inl (0, List.replicate 7 0),
  .inl (0, List.replicate 48 0),
  .inl (0, List.replicate 48 0),
  .inl (0, List.replicate 9 0),
  .inr (.inr (.inr (5, [.ref 104, .int (0), .int (0)]))),
  .inr (.inl (3, List.replicate 40 0)),
  .inr (.inr (.inr (5, [.ref 106, .int (0), .int (0)]))),
  .inr (.inl (3, List.replicate 40 0)),
  .inr (.inr (.inr (5, [.ref 108, .int (0), .int (0)]))),
  .inr (.inl (3, List.replicate 40 0)),
  .inr (.inr (.inr (5, [.ref 110, .int (0), .int (0)]))),
  .inr (.inl (3, List.replicate 40 0))]
noncomputable def sx_wM : List sx_C := [
  .inr (.inr (.inr (6, [.ref 112, .ref 113, .ref 114, .ref 115, .int (0), .ref 116, .ref 117, .ref 118, .ref 119, .ref 120, .ref 121, .int (0), .int (0), .int (0), .int (0), .ref 122, .ref 123, .ref 124, .ref 125]))),
  .inl (0, [0, 0, 0, 0, 0, 10, 16, 0, 0, 0, 0, 0, 0, 0, 0, 0, 0, 0, 0, 0, 0, 0, 0, 0, 0, 0, 0, 0, 0, 0, 0, 0, 0, 0, 0, 0, 0, 0, 0, 0, 0, 0, 0, 0, 0, 0, 0, 0, 0, 0, 0, 0, 0, 0, 0, 0, 0, 0, 0, 0, 0, 0, 0, 0, 0, 0, 0, 0, 0, 0, 0, 0, 0, 0, 0, 0, 0, 0, 0, 0, 0, 0, 0, 0, 0, 0, 0, 0, 0, 0, 0, 0, 0, 0, 0, 0, 0, 0, 0, 0, 0, 0, 0, 0, 0, 0, 0, 0, 0, 0, 0, 0, 0, 0, 0, 0, 0, 0, 0, 0, 0, 0, 0, 0, 0, 0, 0, 0, 0, 0, 0, 0, 0, 0, 0, 0, 0, 0, 0, 0, 0, 0, 0, 0, 0, 0, 0, 0, 0, 0, 0, 0, 0, 0, 0, 0, 0, 0, 0, 0, 0, 0, 0, 0, 0, 0, 0, 0, 0, 0, 0, 0]),
  .inl (0, List.replicate 172 0),
  .inl (0, List.replicate 172 0),
  .inl (0, List.replicate 172 0),
  .inl (0, List.replicate 7 0),
  .inl (0, List.replicate 48 0),
  .inl (1, List.replicate 48 0),
  .inl (0, List.replicate 9 0),
  .inl (1, List.replicate 48 0),
  .inl (0, List.replicate 120 0),
  .inl (0, List.replicate 4 0),
  .inl (0, List.replicate 4 0),
  .inr (.inl (3, List.replicate 160 0)),
  .inr (.inl (3, List.replicate 40 0))]
noncomputable def sx_w0 : List sx_C := sx_wX ++ sx_wM
theorem sx_ctor1 : sx_run true none 2500 7 0 0 (lv_args 0 [.ref 0]) [] [.inr (.inr (.inr (0, sx_df 0)))] = some (none, sx_wX) := sx_is_of (by decide +kernel)
theorem sx_ctor2 : sx_run true none 500 7 129 0 (lv_args 0 [.ref 111]) [] (sx_wX ++ [.inr (.inr (.inr (6, sx_df 6)))]) = some (none, sx_w0) := sx_is_of (by decide +kernel)
theorem sx_w0_len : sx_w0.length = 126 := by decide +kernel
theorem sx_w0_sz : sx_sz sx_w0 ≤ 7302250 := by decide +kernel
