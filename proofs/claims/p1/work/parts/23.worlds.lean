-- the worlds behind a finding
noncomputable def sx_vB : List sx_C := sx_w0.set 99 (.inl (0, [1, 0, 0, 0, 0, 0, 0]))
noncomputable def sx_vB2 : List sx_C := sx_vB.set 116 (.inl (0, [1, 0, 0, 0, 0, 0, 0]))
theorem cf_B (ys : List Int32) : sx_RU (some ys) 6 9 0 (lv_args 0 [.ref 0, .int (-1000000001)]) [] sx_w0 (some (.int (-1000000001))) sx_vB := sx_RU.eval (f := 100) (sx_is_of (by decide +kernel))
theorem cn_B (ys : List Int32) : sx_RU (some ys) 6 133 0 (lv_args 0 [.ref 111, .int 0]) [] sx_vB (some (.int (-1000000001))) sx_vB2 := sx_RU.eval (f := 100) (sx_is_of (by decide +kernel))
noncomputable def sx_vN : List sx_C := sx_w0.set 99 (.inl (0, [0, 0, 0, 1, 0, 0, 0]))
noncomputable def sx_vN2 : List sx_C := sx_vN.set 116 (.inl (0, [0, 0, 0, 1, 0, 0, 0]))
theorem cf_N (ys : List Int32) : sx_RU (some ys) 6 9 0 (lv_args 0 [.ref 0, .int (-1000000004)]) [] sx_w0 (some (.int (-1000000004))) sx_vN := sx_RU.eval (f := 100) (sx_is_of (by decide +kernel))
theorem cn_N (ys : List Int32) : sx_RU (some ys) 6 133 0 (lv_args 0 [.ref 111, .int 3]) [] sx_vN (some (.int (-1000000004))) sx_vN2 := sx_RU.eval (f := 100) (sx_is_of (by decide +kernel))
noncomputable def sx_vM : List sx_C := sx_w0.set 99 (.inl (0, [0, 0, 0, 0, 0, 1, 0]))
noncomputable def sx_vM2 : List sx_C := sx_vM.set 116 (.inl (0, [0, 0, 0, 0, 0, 1, 0]))
theorem cf_M (ys : List Int32) : sx_RU (some ys) 6 9 0 (lv_args 0 [.ref 0, .int (-1000000006)]) [] sx_w0 (some (.int (-1000000006))) sx_vM := sx_RU.eval (f := 100) (sx_is_of (by decide +kernel))
theorem cn_M (ys : List Int32) : sx_RU (some ys) 6 133 0 (lv_args 0 [.ref 111, .int 5]) [] sx_vM (some (.int (-1000000006))) sx_vM2 := sx_RU.eval (f := 100) (sx_is_of (by decide +kernel))
noncomputable def sx_vZ : List sx_C := sx_w0.set 99 (.inl (0, [0, 0, 0, 0, 0, 0, 1]))
noncomputable def sx_vZ2 : List sx_C := sx_vZ.set 116 (.inl (0, [0, 0, 0, 0, 0, 0, 1]))
theorem cf_Z (ys : List Int32) : sx_RU (some ys) 6 9 0 (lv_args 0 [.ref 0, .int (-1000000007)]) [] sx_w0 (some (.int (-1000000007))) sx_vZ := sx_RU.eval (f := 100) (sx_is_of (by decide +kernel))
theorem cn_Z (ys : List Int32) : sx_RU (some ys) 6 133 0 (lv_args 0 [.ref 111, .int 6]) [] sx_vZ (some (.int (-1000000007))) sx_vZ2 := sx_RU.eval (f := 100) (sx_is_of (by decide +kernel))
/-- class and reference answer alike, first call -/
def sx_twoI (ys : List Int32) (mx mm : Nat) (as : List Value) : Prop := ∃ (v : Int32) (w1 w2 : List sx_C) (fs : List Value), w1[111]? = some (.inr (.inr (.inr (6, fs)))) ∧ sx_RU (some ys) 7 mx 0 (lv_args 0 (.ref 0 :: as)) [] sx_w0 (some (.int v)) w1 ∧ sx_RU (some ys) 7 mm 0 (lv_args 0 (.ref 111 :: as)) [] w1 (some (.int v)) w2
def sx_twoL (ys : List Int32) (mx mm : Nat) (as : List Value) : Prop := ∃ (v : Int64) (w1 w2 : List sx_C) (fs : List Value), w1[111]? = some (.inr (.inr (.inr (6, fs)))) ∧ sx_RU (some ys) 7 mx 0 (lv_args 0 (.ref 0 :: as)) [] sx_w0 (some (.long v)) w1 ∧ sx_RU (some ys) 7 mm 0 (lv_args 0 (.ref 111 :: as)) [] w1 (some (.long v)) w2
noncomputable def sx_twoBI (f mx mm : Nat) (as : List Value) : Bool := match sx_run false none f 7 mx 0 (lv_args 0 (.ref 0 :: as)) [] sx_w0 with
  | some (some (.int v), w1) => match (w1[111]? : Option sx_C), sx_run false none f 7 mm 0 (lv_args 0 (.ref 111 :: as)) [] w1 with
    | some (.inr (.inr (.inr (6, _)))), some (some (.int u), _) => decide (v = u)
    | _, _ => false
  | _ => false
noncomputable def sx_twoBL (f mx mm : Nat) (as : List Value) : Bool := match sx_run false none f 7 mx 0 (lv_args 0 (.ref 0 :: as)) [] sx_w0 with
  | some (some (.long v), w1) => match (w1[111]? : Option sx_C), sx_run false none f 7 mm 0 (lv_args 0 (.ref 111 :: as)) [] w1 with
    | some (.inr (.inr (.inr (6, _)))), some (some (.long u), _) => decide (v = u)
    | _, _ => false
  | _ => false
theorem sx_twoI_of {f mx mm : Nat} {as : List Value} (ys : List Int32) (h : sx_twoBI f mx mm as = true) : sx_twoI ys mx mm as := by
  unfold sx_twoBI at h
  split at h
  · rename_i v w1 h1
    split at h
    · rename_i fs u w2 hw h2
      have e : v = u := of_decide_eq_true h
      subst e
      exact ⟨v, w1, w2, fs, hw, sx_RU.eval h1, sx_RU.eval h2⟩
    · cases h
  · cases h
theorem sx_twoL_of {f mx mm : Nat} {as : List Value} (ys : List Int32) (h : sx_twoBL f mx mm as = true) : sx_twoL ys mx mm as := by
  unfold sx_twoBL at h
  split at h
  · rename_i v w1 h1
    split at h
    · rename_i fs u w2 hw h2
      have e : v = u := of_decide_eq_true h
      subst e
      exact ⟨v, w1, w2, fs, hw, sx_RU.eval h1, sx_RU.eval h2⟩
    · cases h
  · cases h
/-- a number in a range that begins at 0 or above is one of so many -/
theorem sx_rng {x lo hi : Int32} {n : Nat} (h : lo ≤ x ∧ x ≤ hi) (h0 : 0 ≤ lo.toInt) (hn : hi.toInt = n) : ∃ j : Nat, j ≤ n ∧ x = nI j := by
  refine nI_of2 hn (fun q => ?_) h.2
  have a1 := Int32.le_iff_toInt_le.mp h.1
  have a2 := Int32.lt_iff_toInt_lt.mp q
  have a3 : (0 : Int32).toInt = 0 := rfl
  omega
