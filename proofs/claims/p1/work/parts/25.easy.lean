-- the first call: findings, and what is decided by a program
theorem sx_sw_out {dflt lo hi : Int} {offs : Array Int} {ls : sx_L} {pc t : Nat} {x : Int32} {r : List Value} {w : List sx_C} (h : x.toInt < lo ∨ hi < x.toInt) (ht : sx_to pc dflt = some t) : sx_sw dflt lo hi offs ls pc (.int x :: r) w = some (t, ls, r, w) := by
  unfold sx_sw
  simp only
  rw [if_pos h, ht]
theorem sx_RU.swo {xs : Option (List Int32)} {d mi pc n t : Nat} {ls : sx_L} {r : List Value} {w w2 : List sx_C} {rr : Option Value} {dflt lo hi : Int} {offs : Array Int} {x : Int32} (hi1 : sx_ins mi pc = some (.tableswitch dflt lo hi offs, n)) (h : x.toInt < lo ∨ hi < x.toInt) (ht : sx_to pc dflt = some t) (k : sx_RU xs d mi t ls r w rr w2) : sx_RU xs d mi pc ls (.int x :: r) w rr w2 := sx_RU.step hi1 (show sx_sw dflt lo hi offs ls pc (.int x :: r) w = some (t, ls, r, w) from sx_sw_out h ht) k
theorem sx_no0 (g : Int32) : ¬ (0 ≤ g ∧ g ≤ -1) := by
  intro q
  have a1 := Int32.le_iff_toInt_le.mp q.1
  have a2 := Int32.le_iff_toInt_le.mp q.2
  have a3 : (0 : Int32).toInt = 0 := rfl
  have a4 : (-1 : Int32).toInt = -1 := rfl
  omega
theorem cx_132n (xs : Option (List Int32)) (d : Nat) (w : List sx_C) (g : Int32) : sx_RU xs d 132 0 (lv_args 0 [.int g, .int 0, .int (-1)]) [] w (some (.int 0)) w := by
  have h := cx_132 xs d w g 0 (-1)
  rw [if_neg (sx_no0 g)] at h
  exact h
set_option maxRecDepth 20000 in
theorem cg_27 (ys : List Int32) (g : Int32) : sx_RU (some ys) 6 27 0 (lv_args 0 [.ref 1, .int g]) [] sx_w0 (some (.int 0)) sx_w0 := by
  refine sx_RU.step rfl rfl ?_
  refine sx_RU.br rfl rfl (fun h1 => ?_) (fun h1 => ?_)
  · (repeat (refine sx_RU.step rfl rfl ?_))
    exact sx_RU.ret rfl rfl
  · (repeat (refine sx_RU.step rfl rfl ?_))
    refine sx_RU.br rfl rfl (fun h2 => ?_) (fun h2 => ?_)
    · (repeat (refine sx_RU.step rfl rfl ?_))
      exact sx_RU.ret rfl rfl
    · exact absurd (Int32.not_lt.mp (of_decide_eq_false h1)) (of_decide_eq_false h2)
set_option maxRecDepth 20000 in
theorem cg_66 (ys : List Int32) (g : Int32) : sx_RU (some ys) 6 66 0 (lv_args 0 [.ref 1, .int g]) [] sx_w0 (some (.int 0)) sx_w0 := by
  refine sx_RU.step rfl rfl ?_
  refine sx_RU.br rfl rfl (fun h1 => ?_) (fun h1 => ?_)
  · (repeat (refine sx_RU.step rfl rfl ?_))
    exact sx_RU.ret rfl rfl
  · (repeat (refine sx_RU.step rfl rfl ?_))
    refine sx_RU.br rfl rfl (fun h2 => ?_) (fun h2 => ?_)
    · (repeat (refine sx_RU.step rfl rfl ?_))
      exact sx_RU.ret rfl rfl
    · exact absurd (Int32.not_lt.mp (of_decide_eq_false h1)) (of_decide_eq_false h2)
set_option maxRecDepth 20000 in
theorem cg_156 (ys : List Int32) (g : Int32) : sx_RU (some ys) 6 156 0 (lv_args 0 [.ref 111, .int g]) [] sx_vB (some (.int 0)) sx_vB := by
  (repeat (refine sx_RU.step rfl rfl ?_))
  refine sx_RU.call rfl rfl rfl rfl (cx_132n _ _ _ g) ?_
  exact sx_RU.ret rfl rfl
set_option maxRecDepth 20000 in
theorem cg_186 (ys : List Int32) (g : Int32) : sx_RU (some ys) 6 186 0 (lv_args 0 [.ref 111, .int g]) [] sx_vB (some (.int 0)) sx_vB := by
  (repeat (refine sx_RU.step rfl rfl ?_))
  refine sx_RU.call rfl rfl rfl rfl (cx_132n _ _ _ g) ?_
  exact sx_RU.ret rfl rfl
set_option maxRecDepth 20000 in
theorem cg_113_0 (ys : List Int32) : sx_RU (some ys) 6 116 0 (lv_args 0 [.ref 103]) [] sx_w0 (some (.int 1)) sx_w0 := sx_RU.eval (f := 40) (sx_is_of (by decide +kernel))
set_option maxRecDepth 20000 in
theorem cg_113_1 (ys : List Int32) : sx_RU (some ys) 6 116 0 (lv_args 0 [.ref 105]) [] sx_w0 (some (.int 1)) sx_w0 := sx_RU.eval (f := 40) (sx_is_of (by decide +kernel))
set_option maxRecDepth 20000 in
theorem cg_113_2 (ys : List Int32) : sx_RU (some ys) 6 116 0 (lv_args 0 [.ref 107]) [] sx_w0 (some (.int 1)) sx_w0 := sx_RU.eval (f := 40) (sx_is_of (by decide +kernel))
set_option maxRecDepth 20000 in
theorem cg_113_3 (ys : List Int32) : sx_RU (some ys) 6 116 0 (lv_args 0 [.ref 109]) [] sx_w0 (some (.int 1)) sx_w0 := sx_RU.eval (f := 40) (sx_is_of (by decide +kernel))
set_option maxRecDepth 20000 in
theorem k_of (ys : List Int32) (a1 a2 : Int32) : sx_twoI ys 26 155 [.int a1, .int a2] := by
  refine ⟨(-1000000001), sx_vB, sx_vB2, _, rfl, ?_, ?_⟩
  · repeat (first
      | refine sx_RU.step rfl rfl ?_
      | exact sx_RU.ret rfl rfl
      | refine sx_RU.call rfl rfl rfl rfl (cf_B _) ?_
      | refine sx_RU.call rfl rfl rfl rfl (cf_N _) ?_
      | refine sx_RU.call rfl rfl rfl rfl (cf_M _) ?_
      | refine sx_RU.call rfl rfl rfl rfl (cf_Z _) ?_
      | refine sx_RU.call rfl rfl rfl rfl (cn_B _) ?_
      | refine sx_RU.call rfl rfl rfl rfl (cn_N _) ?_
      | refine sx_RU.call rfl rfl rfl rfl (cn_M _) ?_
      | refine sx_RU.call rfl rfl rfl rfl (cn_Z _) ?_
      | refine sx_RU.call rfl rfl rfl rfl (cg_27 _ _) ?_
      | refine sx_RU.call rfl rfl rfl rfl (cg_66 _ _) ?_
      | refine sx_RU.call rfl rfl rfl rfl (cg_156 _ _) ?_
      | refine sx_RU.call rfl rfl rfl rfl (cg_186 _ _) ?_
      | (refine sx_RU.call rfl rfl rfl rfl (cx_7 _ _ _ _) ?_; first | rw [if_pos (by assumption)] | rw [if_neg (by assumption)] | rw [if_pos (by decide)])
      | (refine sx_RU.call rfl rfl rfl rfl (cx_8 _ _ _ _ _ _) ?_; first | rw [if_pos (by assumption)] | rw [if_neg (by assumption)] | rw [if_pos (by decide)])
      | (refine sx_RU.call rfl rfl rfl rfl (cx_22 _ _ _ _) ?_; first | rw [if_pos (by assumption)] | rw [if_neg (by assumption)] | rw [if_pos (by decide)])
      | (refine sx_RU.call rfl rfl rfl rfl (cx_23 _ _ _ _) ?_; first | rw [if_pos (by assumption)] | rw [if_neg (by assumption)] | rw [if_pos (by decide)])
      | (refine sx_RU.call rfl rfl rfl rfl (cx_131 _ _ _ _) ?_; first | rw [if_pos (by assumption)] | rw [if_neg (by assumption)] | rw [if_pos (by decide)])
      | (refine sx_RU.call rfl rfl rfl rfl (cx_132 _ _ _ _ _ _) ?_; first | rw [if_pos (by assumption)] | rw [if_neg (by assumption)] | rw [if_pos (by decide)])
      | (refine sx_RU.call rfl rfl rfl rfl (cx_151 _ _ _ _) ?_; first | rw [if_pos (by assumption)] | rw [if_neg (by assumption)] | rw [if_pos (by decide)])
      | (refine sx_RU.call rfl rfl rfl rfl (cx_152 _ _ _ _) ?_; first | rw [if_pos (by assumption)] | rw [if_neg (by assumption)] | rw [if_pos (by decide)])
      | (refine sx_RU.call rfl rfl rfl rfl (cx_231 _ _ _ _) ?_; first | rw [if_pos (by assumption)] | rw [if_neg (by assumption)] | rw [if_pos (by decide)])
      | (refine sx_RU.call rfl rfl rfl rfl (cx_197 _ _ _ _) ?_; first | rw [if_pos (by assumption)] | rw [if_neg (by assumption)] | rw [if_pos (by decide)])
      | (refine sx_RU.call rfl rfl rfl rfl (cx_112 _ _ _ _) ?_; first | rw [if_pos (by assumption)] | rw [if_neg (by assumption)] | rw [if_pos (by decide)])
      | refine sx_RU.br rfl rfl (fun _ => ?_) (fun q => (of_decide_eq_false q (by assumption)).elim)
      | refine sx_RU.br rfl rfl (fun q => ((by assumption : ¬ _) (of_decide_eq_true q)).elim) (fun _ => ?_)
      | refine sx_RU.swo rfl (by assumption) rfl ?_)
  · repeat (first
      | refine sx_RU.step rfl rfl ?_
      | exact sx_RU.ret rfl rfl
      | refine sx_RU.call rfl rfl rfl rfl (cf_B _) ?_
      | refine sx_RU.call rfl rfl rfl rfl (cf_N _) ?_
      | refine sx_RU.call rfl rfl rfl rfl (cf_M _) ?_
      | refine sx_RU.call rfl rfl rfl rfl (cf_Z _) ?_
      | refine sx_RU.call rfl rfl rfl rfl (cn_B _) ?_
      | refine sx_RU.call rfl rfl rfl rfl (cn_N _) ?_
      | refine sx_RU.call rfl rfl rfl rfl (cn_M _) ?_
      | refine sx_RU.call rfl rfl rfl rfl (cn_Z _) ?_
      | refine sx_RU.call rfl rfl rfl rfl (cg_27 _ _) ?_
      | refine sx_RU.call rfl rfl rfl rfl (cg_66 _ _) ?_
      | refine sx_RU.call rfl rfl rfl rfl (cg_156 _ _) ?_
      | refine sx_RU.call rfl rfl rfl rfl (cg_186 _ _) ?_
      | (refine sx_RU.call rfl rfl rfl rfl (cx_7 _ _ _ _) ?_; first | rw [if_pos (by assumption)] | rw [if_neg (by assumption)] | rw [if_pos (by decide)])
      | (refine sx_RU.call rfl rfl rfl rfl (cx_8 _ _ _ _ _ _) ?_; first | rw [if_pos (by assumption)] | rw [if_neg (by assumption)] | rw [if_pos (by decide)])
      | (refine sx_RU.call rfl rfl rfl rfl (cx_22 _ _ _ _) ?_; first | rw [if_pos (by assumption)] | rw [if_neg (by assumption)] | rw [if_pos (by decide)])
      | (refine sx_RU.call rfl rfl rfl rfl (cx_23 _ _ _ _) ?_; first | rw [if_pos (by assumption)] | rw [if_neg (by assumption)] | rw [if_pos (by decide)])
      | (refine sx_RU.call rfl rfl rfl rfl (cx_131 _ _ _ _) ?_; first | rw [if_pos (by assumption)] | rw [if_neg (by assumption)] | rw [if_pos (by decide)])
      | (refine sx_RU.call rfl rfl rfl rfl (cx_132 _ _ _ _ _ _) ?_; first | rw [if_pos (by assumption)] | rw [if_neg (by assumption)] | rw [if_pos (by decide)])
      | (refine sx_RU.call rfl rfl rfl rfl (cx_151 _ _ _ _) ?_; first | rw [if_pos (by assumption)] | rw [if_neg (by assumption)] | rw [if_pos (by decide)])
      | (refine sx_RU.call rfl rfl rfl rfl (cx_152 _ _ _ _) ?_; first | rw [if_pos (by assumption)] | rw [if_neg (by assumption)] | rw [if_pos (by decide)])
      | (refine sx_RU.call rfl rfl rfl rfl (cx_231 _ _ _ _) ?_; first | rw [if_pos (by assumption)] | rw [if_neg (by assumption)] | rw [if_pos (by decide)])
      | (refine sx_RU.call rfl rfl rfl rfl (cx_197 _ _ _ _) ?_; first | rw [if_pos (by assumption)] | rw [if_neg (by assumption)] | rw [if_pos (by decide)])
      | (refine sx_RU.call rfl rfl rfl rfl (cx_112 _ _ _ _) ?_; first | rw [if_pos (by assumption)] | rw [if_neg (by assumption)] | rw [if_pos (by decide)])
      | refine sx_RU.br rfl rfl (fun _ => ?_) (fun q => (of_decide_eq_false q (by assumption)).elim)
      | refine sx_RU.br rfl rfl (fun q => ((by assumption : ¬ _) (of_decide_eq_true q)).elim) (fun _ => ?_)
      | refine sx_RU.swo rfl (by assumption) rfl ?_)
set_option maxRecDepth 20000 in
theorem k_turn (ys : List Int32) (a1 a2 : Int32) : sx_twoI ys 28 157 [.int a1, .int a2] := by
  refine ⟨(-1000000001), sx_vB, sx_vB2, _, rfl, ?_, ?_⟩
  · repeat (first
      | refine sx_RU.step rfl rfl ?_
      | exact sx_RU.ret rfl rfl
      | refine sx_RU.call rfl rfl rfl rfl (cf_B _) ?_
      | refine sx_RU.call rfl rfl rfl rfl (cf_N _) ?_
      | refine sx_RU.call rfl rfl rfl rfl (cf_M _) ?_
      | refine sx_RU.call rfl rfl rfl rfl (cf_Z _) ?_
      | refine sx_RU.call rfl rfl rfl rfl (cn_B _) ?_
      | refine sx_RU.call rfl rfl rfl rfl (cn_N _) ?_
      | refine sx_RU.call rfl rfl rfl rfl (cn_M _) ?_
      | refine sx_RU.call rfl rfl rfl rfl (cn_Z _) ?_
      | refine sx_RU.call rfl rfl rfl rfl (cg_27 _ _) ?_
      | refine sx_RU.call rfl rfl rfl rfl (cg_66 _ _) ?_
      | refine sx_RU.call rfl rfl rfl rfl (cg_156 _ _) ?_
      | refine sx_RU.call rfl rfl rfl rfl (cg_186 _ _) ?_
      | (refine sx_RU.call rfl rfl rfl rfl (cx_7 _ _ _ _) ?_; first | rw [if_pos (by assumption)] | rw [if_neg (by assumption)] | rw [if_pos (by decide)])
      | (refine sx_RU.call rfl rfl rfl rfl (cx_8 _ _ _ _ _ _) ?_; first | rw [if_pos (by assumption)] | rw [if_neg (by assumption)] | rw [if_pos (by decide)])
      | (refine sx_RU.call rfl rfl rfl rfl (cx_22 _ _ _ _) ?_; first | rw [if_pos (by assumption)] | rw [if_neg (by assumption)] | rw [if_pos (by decide)])
      | (refine sx_RU.call rfl rfl rfl rfl (cx_23 _ _ _ _) ?_; first | rw [if_pos (by assumption)] | rw [if_neg (by assumption)] | rw [if_pos (by decide)])
      | (refine sx_RU.call rfl rfl rfl rfl (cx_131 _ _ _ _) ?_; first | rw [if_pos (by assumption)] | rw [if_neg (by assumption)] | rw [if_pos (by decide)])
      | (refine sx_RU.call rfl rfl rfl rfl (cx_132 _ _ _ _ _ _) ?_; first | rw [if_pos (by assumption)] | rw [if_neg (by assumption)] | rw [if_pos (by decide)])
      | (refine sx_RU.call rfl rfl rfl rfl (cx_151 _ _ _ _) ?_; first | rw [if_pos (by assumption)] | rw [if_neg (by assumption)] | rw [if_pos (by decide)])
      | (refine sx_RU.call rfl rfl rfl rfl (cx_152 _ _ _ _) ?_; first | rw [if_pos (by assumption)] | rw [if_neg (by assumption)] | rw [if_pos (by decide)])
      | (refine sx_RU.call rfl rfl rfl rfl (cx_231 _ _ _ _) ?_; first | rw [if_pos (by assumption)] | rw [if_neg (by assumption)] | rw [if_pos (by decide)])
      | (refine sx_RU.call rfl rfl rfl rfl (cx_197 _ _ _ _) ?_; first | rw [if_pos (by assumption)] | rw [if_neg (by assumption)] | rw [if_pos (by decide)])
      | (refine sx_RU.call rfl rfl rfl rfl (cx_112 _ _ _ _) ?_; first | rw [if_pos (by assumption)] | rw [if_neg (by assumption)] | rw [if_pos (by decide)])
      | refine sx_RU.br rfl rfl (fun _ => ?_) (fun q => (of_decide_eq_false q (by assumption)).elim)
      | refine sx_RU.br rfl rfl (fun q => ((by assumption : ¬ _) (of_decide_eq_true q)).elim) (fun _ => ?_)
      | refine sx_RU.swo rfl (by assumption) rfl ?_)
  · repeat (first
      | refine sx_RU.step rfl rfl ?_
      | exact sx_RU.ret rfl rfl
      | refine sx_RU.call rfl rfl rfl rfl (cf_B _) ?_
      | refine sx_RU.call rfl rfl rfl rfl (cf_N _) ?_
      | refine sx_RU.call rfl rfl rfl rfl (cf_M _) ?_
      | refine sx_RU.call rfl rfl rfl rfl (cf_Z _) ?_
      | refine sx_RU.call rfl rfl rfl rfl (cn_B _) ?_
      | refine sx_RU.call rfl rfl rfl rfl (cn_N _) ?_
      | refine sx_RU.call rfl rfl rfl rfl (cn_M _) ?_
      | refine sx_RU.call rfl rfl rfl rfl (cn_Z _) ?_
      | refine sx_RU.call rfl rfl rfl rfl (cg_27 _ _) ?_
      | refine sx_RU.call rfl rfl rfl rfl (cg_66 _ _) ?_
      | refine sx_RU.call rfl rfl rfl rfl (cg_156 _ _) ?_
      | refine sx_RU.call rfl rfl rfl rfl (cg_186 _ _) ?_
      | (refine sx_RU.call rfl rfl rfl rfl (cx_7 _ _ _ _) ?_; first | rw [if_pos (by assumption)] | rw [if_neg (by assumption)] | rw [if_pos (by decide)])
      | (refine sx_RU.call rfl rfl rfl rfl (cx_8 _ _ _ _ _ _) ?_; first | rw [if_pos (by assumption)] | rw [if_neg (by assumption)] | rw [if_pos (by decide)])
      | (refine sx_RU.call rfl rfl rfl rfl (cx_22 _ _ _ _) ?_; first | rw [if_pos (by assumption)] | rw [if_neg (by assumption)] | rw [if_pos (by decide)])
      | (refine sx_RU.call rfl rfl rfl rfl (cx_23 _ _ _ _) ?_; first | rw [if_pos (by assumption)] | rw [if_neg (by assumption)] | rw [if_pos (by decide)])
      | (refine sx_RU.call rfl rfl rfl rfl (cx_131 _ _ _ _) ?_; first | rw [if_pos (by assumption)] | rw [if_neg (by assumption)] | rw [if_pos (by decide)])
      | (refine sx_RU.call rfl rfl rfl rfl (cx_132 _ _ _ _ _ _) ?_; first | rw [if_pos (by assumption)] | rw [if_neg (by assumption)] | rw [if_pos (by decide)])
      | (refine sx_RU.call rfl rfl rfl rfl (cx_151 _ _ _ _) ?_; first | rw [if_pos (by assumption)] | rw [if_neg (by assumption)] | rw [if_pos (by decide)])
      | (refine sx_RU.call rfl rfl rfl rfl (cx_152 _ _ _ _) ?_; first | rw [if_pos (by assumption)] | rw [if_neg (by assumption)] | rw [if_pos (by decide)])
      | (refine sx_RU.call rfl rfl rfl rfl (cx_231 _ _ _ _) ?_; first | rw [if_pos (by assumption)] | rw [if_neg (by assumption)] | rw [if_pos (by decide)])
      | (refine sx_RU.call rfl rfl rfl rfl (cx_197 _ _ _ _) ?_; first | rw [if_pos (by assumption)] | rw [if_neg (by assumption)] | rw [if_pos (by decide)])
      | (refine sx_RU.call rfl rfl rfl rfl (cx_112 _ _ _ _) ?_; first | rw [if_pos (by assumption)] | rw [if_neg (by assumption)] | rw [if_pos (by decide)])
      | refine sx_RU.br rfl rfl (fun _ => ?_) (fun q => (of_decide_eq_false q (by assumption)).elim)
      | refine sx_RU.br rfl rfl (fun q => ((by assumption : ¬ _) (of_decide_eq_true q)).elim) (fun _ => ?_)
      | refine sx_RU.swo rfl (by assumption) rfl ?_)
set_option maxRecDepth 20000 in
theorem k_become (ys : List Int32) (a1 a2 : Int32) : sx_twoI ys 29 158 [.int a1, .int a2] := by
  refine ⟨(-1000000001), sx_vB, sx_vB2, _, rfl, ?_, ?_⟩
  · repeat (first
      | refine sx_RU.step rfl rfl ?_
      | exact sx_RU.ret rfl rfl
      | refine sx_RU.call rfl rfl rfl rfl (cf_B _) ?_
      | refine sx_RU.call rfl rfl rfl rfl (cf_N _) ?_
      | refine sx_RU.call rfl rfl rfl rfl (cf_M _) ?_
      | refine sx_RU.call rfl rfl rfl rfl (cf_Z _) ?_
      | refine sx_RU.call rfl rfl rfl rfl (cn_B _) ?_
      | refine sx_RU.call rfl rfl rfl rfl (cn_N _) ?_
      | refine sx_RU.call rfl rfl rfl rfl (cn_M _) ?_
      | refine sx_RU.call rfl rfl rfl rfl (cn_Z _) ?_
      | refine sx_RU.call rfl rfl rfl rfl (cg_27 _ _) ?_
      | refine sx_RU.call rfl rfl rfl rfl (cg_66 _ _) ?_
      | refine sx_RU.call rfl rfl rfl rfl (cg_156 _ _) ?_
      | refine sx_RU.call rfl rfl rfl rfl (cg_186 _ _) ?_
      | (refine sx_RU.call rfl rfl rfl rfl (cx_7 _ _ _ _) ?_; first | rw [if_pos (by assumption)] | rw [if_neg (by assumption)] | rw [if_pos (by decide)])
      | (refine sx_RU.call rfl rfl rfl rfl (cx_8 _ _ _ _ _ _) ?_; first | rw [if_pos (by assumption)] | rw [if_neg (by assumption)] | rw [if_pos (by decide)])
      | (refine sx_RU.call rfl rfl rfl rfl (cx_22 _ _ _ _) ?_; first | rw [if_pos (by assumption)] | rw [if_neg (by assumption)] | rw [if_pos (by decide)])
      | (refine sx_RU.call rfl rfl rfl rfl (cx_23 _ _ _ _) ?_; first | rw [if_pos (by assumption)] | rw [if_neg (by assumption)] | rw [if_pos (by decide)])
      | (refine sx_RU.call rfl rfl rfl rfl (cx_131 _ _ _ _) ?_; first | rw [if_pos (by assumption)] | rw [if_neg (by assumption)] | rw [if_pos (by decide)])
      | (refine sx_RU.call rfl rfl rfl rfl (cx_132 _ _ _ _ _ _) ?_; first | rw [if_pos (by assumption)] | rw [if_neg (by assumption)] | rw [if_pos (by decide)])
      | (refine sx_RU.call rfl rfl rfl rfl (cx_151 _ _ _ _) ?_; first | rw [if_pos (by assumption)] | rw [if_neg (by assumption)] | rw [if_pos (by decide)])
      | (refine sx_RU.call rfl rfl rfl rfl (cx_152 _ _ _ _) ?_; first | rw [if_pos (by assumption)] | rw [if_neg (by assumption)] | rw [if_pos (by decide)])
      | (refine sx_RU.call rfl rfl rfl rfl (cx_231 _ _ _ _) ?_; first | rw [if_pos (by assumption)] | rw [if_neg (by assumption)] | rw [if_pos (by decide)])
      | (refine sx_RU.call rfl rfl rfl rfl (cx_197 _ _ _ _) ?_; first | rw [if_pos (by assumption)] | rw [if_neg (by assumption)] | rw [if_pos (by decide)])
      | (refine sx_RU.call rfl rfl rfl rfl (cx_112 _ _ _ _) ?_; first | rw [if_pos (by assumption)] | rw [if_neg (by assumption)] | rw [if_pos (by decide)])
      | refine sx_RU.br rfl rfl (fun _ => ?_) (fun q => (of_decide_eq_false q (by assumption)).elim)
      | refine sx_RU.br rfl rfl (fun q => ((by assumption : ¬ _) (of_decide_eq_true q)).elim) (fun _ => ?_)
      | refine sx_RU.swo rfl (by assumption) rfl ?_)
  · repeat (first
      | refine sx_RU.step rfl rfl ?_
      | exact sx_RU.ret rfl rfl
      | refine sx_RU.call rfl rfl rfl rfl (cf_B _) ?_
      | refine sx_RU.call rfl rfl rfl rfl (cf_N _) ?_
      | refine sx_RU.call rfl rfl rfl rfl (cf_M _) ?_
      | refine sx_RU.call rfl rfl rfl rfl (cf_Z _) ?_
      | refine sx_RU.call rfl rfl rfl rfl (cn_B _) ?_
      | refine sx_RU.call rfl rfl rfl rfl (cn_N _) ?_
      | refine sx_RU.call rfl rfl rfl rfl (cn_M _) ?_
      | refine sx_RU.call rfl rfl rfl rfl (cn_Z _) ?_
      | refine sx_RU.call rfl rfl rfl rfl (cg_27 _ _) ?_
      | refine sx_RU.call rfl rfl rfl rfl (cg_66 _ _) ?_
      | refine sx_RU.call rfl rfl rfl rfl (cg_156 _ _) ?_
      | refine sx_RU.call rfl rfl rfl rfl (cg_186 _ _) ?_
      | (refine sx_RU.call rfl rfl rfl rfl (cx_7 _ _ _ _) ?_; first | rw [if_pos (by assumption)] | rw [if_neg (by assumption)] | rw [if_pos (by decide)])
      | (refine sx_RU.call rfl rfl rfl rfl (cx_8 _ _ _ _ _ _) ?_; first | rw [if_pos (by assumption)] | rw [if_neg (by assumption)] | rw [if_pos (by decide)])
      | (refine sx_RU.call rfl rfl rfl rfl (cx_22 _ _ _ _) ?_; first | rw [if_pos (by assumption)] | rw [if_neg (by assumption)] | rw [if_pos (by decide)])
      | (refine sx_RU.call rfl rfl rfl rfl (cx_23 _ _ _ _) ?_; first | rw [if_pos (by assumption)] | rw [if_neg (by assumption)] | rw [if_pos (by decide)])
      | (refine sx_RU.call rfl rfl rfl rfl (cx_131 _ _ _ _) ?_; first | rw [if_pos (by assumption)] | rw [if_neg (by assumption)] | rw [if_pos (by decide)])
      | (refine sx_RU.call rfl rfl rfl rfl (cx_132 _ _ _ _ _ _) ?_; first | rw [if_pos (by assumption)] | rw [if_neg (by assumption)] | rw [if_pos (by decide)])
      | (refine sx_RU.call rfl rfl rfl rfl (cx_151 _ _ _ _) ?_; first | rw [if_pos (by assumption)] | rw [if_neg (by assumption)] | rw [if_pos (by decide)])
      | (refine sx_RU.call rfl rfl rfl rfl (cx_152 _ _ _ _) ?_; first | rw [if_pos (by assumption)] | rw [if_neg (by assumption)] | rw [if_pos (by decide)])
      | (refine sx_RU.call rfl rfl rfl rfl (cx_231 _ _ _ _) ?_; first | rw [if_pos (by assumption)] | rw [if_neg (by assumption)] | rw [if_pos (by decide)])
      | (refine sx_RU.call rfl rfl rfl rfl (cx_197 _ _ _ _) ?_; first | rw [if_pos (by assumption)] | rw [if_neg (by assumption)] | rw [if_pos (by decide)])
      | (refine sx_RU.call rfl rfl rfl rfl (cx_112 _ _ _ _) ?_; first | rw [if_pos (by assumption)] | rw [if_neg (by assumption)] | rw [if_pos (by decide)])
      | refine sx_RU.br rfl rfl (fun _ => ?_) (fun q => (of_decide_eq_false q (by assumption)).elim)
      | refine sx_RU.br rfl rfl (fun q => ((by assumption : ¬ _) (of_decide_eq_true q)).elim) (fun _ => ?_)
      | refine sx_RU.swo rfl (by assumption) rfl ?_)
set_option maxRecDepth 20000 in
theorem k_as (ys : List Int32) (a1 a2 : Int32) : sx_twoI ys 30 159 [.int a1, .int a2] := by
  refine ⟨(-1000000001), sx_vB, sx_vB2, _, rfl, ?_, ?_⟩
  · repeat (first
      | refine sx_RU.step rfl rfl ?_
      | exact sx_RU.ret rfl rfl
      | refine sx_RU.call rfl rfl rfl rfl (cf_B _) ?_
      | refine sx_RU.call rfl rfl rfl rfl (cf_N _) ?_
      | refine sx_RU.call rfl rfl rfl rfl (cf_M _) ?_
      | refine sx_RU.call rfl rfl rfl rfl (cf_Z _) ?_
      | refine sx_RU.call rfl rfl rfl rfl (cn_B _) ?_
      | refine sx_RU.call rfl rfl rfl rfl (cn_N _) ?_
      | refine sx_RU.call rfl rfl rfl rfl (cn_M _) ?_
      | refine sx_RU.call rfl rfl rfl rfl (cn_Z _) ?_
      | refine sx_RU.call rfl rfl rfl rfl (cg_27 _ _) ?_
      | refine sx_RU.call rfl rfl rfl rfl (cg_66 _ _) ?_
      | refine sx_RU.call rfl rfl rfl rfl (cg_156 _ _) ?_
      | refine sx_RU.call rfl rfl rfl rfl (cg_186 _ _) ?_
      | (refine sx_RU.call rfl rfl rfl rfl (cx_7 _ _ _ _) ?_; first | rw [if_pos (by assumption)] | rw [if_neg (by assumption)] | rw [if_pos (by decide)])
      | (refine sx_RU.call rfl rfl rfl rfl (cx_8 _ _ _ _ _ _) ?_; first | rw [if_pos (by assumption)] | rw [if_neg (by assumption)] | rw [if_pos (by decide)])
      | (refine sx_RU.call rfl rfl rfl rfl (cx_22 _ _ _ _) ?_; first | rw [if_pos (by assumption)] | rw [if_neg (by assumption)] | rw [if_pos (by decide)])
      | (refine sx_RU.call rfl rfl rfl rfl (cx_23 _ _ _ _) ?_; first | rw [if_pos (by assumption)] | rw [if_neg (by assumption)] | rw [if_pos (by decide)])
      | (refine sx_RU.call rfl rfl rfl rfl (cx_131 _ _ _ _) ?_; first | rw [if_pos (by assumption)] | rw [if_neg (by assumption)] | rw [if_pos (by decide)])
      | (refine sx_RU.call rfl rfl rfl rfl (cx_132 _ _ _ _ _ _) ?_; first | rw [if_pos (by assumption)] | rw [if_neg (by assumption)] | rw [if_pos (by decide)])
      | (refine sx_RU.call rfl rfl rfl rfl (cx_151 _ _ _ _) ?_; first | rw [if_pos (by assumption)] | rw [if_neg (by assumption)] | rw [if_pos (by decide)])
      | (refine sx_RU.call rfl rfl rfl rfl (cx_152 _ _ _ _) ?_; first | rw [if_pos (by assumption)] | rw [if_neg (by assumption)] | rw [if_pos (by decide)])
      | (refine sx_RU.call rfl rfl rfl rfl (cx_231 _ _ _ _) ?_; first | rw [if_pos (by assumption)] | rw [if_neg (by assumption)] | rw [if_pos (by decide)])
      | (refine sx_RU.call rfl rfl rfl rfl (cx_197 _ _ _ _) ?_; first | rw [if_pos (by assumption)] | rw [if_neg (by assumption)] | rw [if_pos (by decide)])
      | (refine sx_RU.call rfl rfl rfl rfl (cx_112 _ _ _ _) ?_; first | rw [if_pos (by assumption)] | rw [if_neg (by assumption)] | rw [if_pos (by decide)])
      | refine sx_RU.br rfl rfl (fun _ => ?_) (fun q => (of_decide_eq_false q (by assumption)).elim)
      | refine sx_RU.br rfl rfl (fun q => ((by assumption : ¬ _) (of_decide_eq_true q)).elim) (fun _ => ?_)
      | refine sx_RU.swo rfl (by assumption) rfl ?_)
  · repeat (first
      | refine sx_RU.step rfl rfl ?_
      | exact sx_RU.ret rfl rfl
      | refine sx_RU.call rfl rfl rfl rfl (cf_B _) ?_
      | refine sx_RU.call rfl rfl rfl rfl (cf_N _) ?_
      | refine sx_RU.call rfl rfl rfl rfl (cf_M _) ?_
      | refine sx_RU.call rfl rfl rfl rfl (cf_Z _) ?_
      | refine sx_RU.call rfl rfl rfl rfl (cn_B _) ?_
      | refine sx_RU.call rfl rfl rfl rfl (cn_N _) ?_
      | refine sx_RU.call rfl rfl rfl rfl (cn_M _) ?_
      | refine sx_RU.call rfl rfl rfl rfl (cn_Z _) ?_
      | refine sx_RU.call rfl rfl rfl rfl (cg_27 _ _) ?_
      | refine sx_RU.call rfl rfl rfl rfl (cg_66 _ _) ?_
      | refine sx_RU.call rfl rfl rfl rfl (cg_156 _ _) ?_
      | refine sx_RU.call rfl rfl rfl rfl (cg_186 _ _) ?_
      | (refine sx_RU.call rfl rfl rfl rfl (cx_7 _ _ _ _) ?_; first | rw [if_pos (by assumption)] | rw [if_neg (by assumption)] | rw [if_pos (by decide)])
      | (refine sx_RU.call rfl rfl rfl rfl (cx_8 _ _ _ _ _ _) ?_; first | rw [if_pos (by assumption)] | rw [if_neg (by assumption)] | rw [if_pos (by decide)])
      | (refine sx_RU.call rfl rfl rfl rfl (cx_22 _ _ _ _) ?_; first | rw [if_pos (by assumption)] | rw [if_neg (by assumption)] | rw [if_pos (by decide)])
      | (refine sx_RU.call rfl rfl rfl rfl (cx_23 _ _ _ _) ?_; first | rw [if_pos (by assumption)] | rw [if_neg (by assumption)] | rw [if_pos (by decide)])
      | (refine sx_RU.call rfl rfl rfl rfl (cx_131 _ _ _ _) ?_; first | rw [if_pos (by assumption)] | rw [if_neg (by assumption)] | rw [if_pos (by decide)])
      | (refine sx_RU.call rfl rfl rfl rfl (cx_132 _ _ _ _ _ _) ?_; first | rw [if_pos (by assumption)] | rw [if_neg (by assumption)] | rw [if_pos (by decide)])
      | (refine sx_RU.call rfl rfl rfl rfl (cx_151 _ _ _ _) ?_; first | rw [if_pos (by assumption)] | rw [if_neg (by assumption)] | rw [if_pos (by decide)])
      | (refine sx_RU.call rfl rfl rfl rfl (cx_152 _ _ _ _) ?_; first | rw [if_pos (by assumption)] | rw [if_neg (by assumption)] | rw [if_pos (by decide)])
      | (refine sx_RU.call rfl rfl rfl rfl (cx_231 _ _ _ _) ?_; first | rw [if_pos (by assumption)] | rw [if_neg (by assumption)] | rw [if_pos (by decide)])
      | (refine sx_RU.call rfl rfl rfl rfl (cx_197 _ _ _ _) ?_; first | rw [if_pos (by assumption)] | rw [if_neg (by assumption)] | rw [if_pos (by decide)])
      | (refine sx_RU.call rfl rfl rfl rfl (cx_112 _ _ _ _) ?_; first | rw [if_pos (by assumption)] | rw [if_neg (by assumption)] | rw [if_pos (by decide)])
      | refine sx_RU.br rfl rfl (fun _ => ?_) (fun q => (of_decide_eq_false q (by assumption)).elim)
      | refine sx_RU.br rfl rfl (fun q => ((by assumption : ¬ _) (of_decide_eq_true q)).elim) (fun _ => ?_)
      | refine sx_RU.swo rfl (by assumption) rfl ?_)
set_option maxRecDepth 20000 in
theorem k_does (ys : List Int32) (a1 a2 a3 : Int32) : sx_twoI ys 32 161 [.int a1, .int a2, .int a3] := by
  refine ⟨(-1000000001), sx_vB, sx_vB2, _, rfl, ?_, ?_⟩
  · repeat (first
      | refine sx_RU.step rfl rfl ?_
      | exact sx_RU.ret rfl rfl
      | refine sx_RU.call rfl rfl rfl rfl (cf_B _) ?_
      | refine sx_RU.call rfl rfl rfl rfl (cf_N _) ?_
      | refine sx_RU.call rfl rfl rfl rfl (cf_M _) ?_
      | refine sx_RU.call rfl rfl rfl rfl (cf_Z _) ?_
      | refine sx_RU.call rfl rfl rfl rfl (cn_B _) ?_
      | refine sx_RU.call rfl rfl rfl rfl (cn_N _) ?_
      | refine sx_RU.call rfl rfl rfl rfl (cn_M _) ?_
      | refine sx_RU.call rfl rfl rfl rfl (cn_Z _) ?_
      | refine sx_RU.call rfl rfl rfl rfl (cg_27 _ _) ?_
      | refine sx_RU.call rfl rfl rfl rfl (cg_66 _ _) ?_
      | refine sx_RU.call rfl rfl rfl rfl (cg_156 _ _) ?_
      | refine sx_RU.call rfl rfl rfl rfl (cg_186 _ _) ?_
      | (refine sx_RU.call rfl rfl rfl rfl (cx_7 _ _ _ _) ?_; first | rw [if_pos (by assumption)] | rw [if_neg (by assumption)] | rw [if_pos (by decide)])
      | (refine sx_RU.call rfl rfl rfl rfl (cx_8 _ _ _ _ _ _) ?_; first | rw [if_pos (by assumption)] | rw [if_neg (by assumption)] | rw [if_pos (by decide)])
      | (refine sx_RU.call rfl rfl rfl rfl (cx_22 _ _ _ _) ?_; first | rw [if_pos (by assumption)] | rw [if_neg (by assumption)] | rw [if_pos (by decide)])
      | (refine sx_RU.call rfl rfl rfl rfl (cx_23 _ _ _ _) ?_; first | rw [if_pos (by assumption)] | rw [if_neg (by assumption)] | rw [if_pos (by decide)])
      | (refine sx_RU.call rfl rfl rfl rfl (cx_131 _ _ _ _) ?_; first | rw [if_pos (by assumption)] | rw [if_neg (by assumption)] | rw [if_pos (by decide)])
      | (refine sx_RU.call rfl rfl rfl rfl (cx_132 _ _ _ _ _ _) ?_; first | rw [if_pos (by assumption)] | rw [if_neg (by assumption)] | rw [if_pos (by decide)])
      | (refine sx_RU.call rfl rfl rfl rfl (cx_151 _ _ _ _) ?_; first | rw [if_pos (by assumption)] | rw [if_neg (by assumption)] | rw [if_pos (by decide)])
      | (refine sx_RU.call rfl rfl rfl rfl (cx_152 _ _ _ _) ?_; first | rw [if_pos (by assumption)] | rw [if_neg (by assumption)] | rw [if_pos (by decide)])
      | (refine sx_RU.call rfl rfl rfl rfl (cx_231 _ _ _ _) ?_; first | rw [if_pos (by assumption)] | rw [if_neg (by assumption)] | rw [if_pos (by decide)])
      | (refine sx_RU.call rfl rfl rfl rfl (cx_197 _ _ _ _) ?_; first | rw [if_pos (by assumption)] | rw [if_neg (by assumption)] | rw [if_pos (by decide)])
      | (refine sx_RU.call rfl rfl rfl rfl (cx_112 _ _ _ _) ?_; first | rw [if_pos (by assumption)] | rw [if_neg (by assumption)] | rw [if_pos (by decide)])
      | refine sx_RU.br rfl rfl (fun _ => ?_) (fun q => (of_decide_eq_false q (by assumption)).elim)
      | refine sx_RU.br rfl rfl (fun q => ((by assumption : ¬ _) (of_decide_eq_true q)).elim) (fun _ => ?_)
      | refine sx_RU.swo rfl (by assumption) rfl ?_)
  · repeat (first
      | refine sx_RU.step rfl rfl ?_
      | exact sx_RU.ret rfl rfl
      | refine sx_RU.call rfl rfl rfl rfl (cf_B _) ?_
      | refine sx_RU.call rfl rfl rfl rfl (cf_N _) ?_
      | refine sx_RU.call rfl rfl rfl rfl (cf_M _) ?_
      | refine sx_RU.call rfl rfl rfl rfl (cf_Z _) ?_
      | refine sx_RU.call rfl rfl rfl rfl (cn_B _) ?_
      | refine sx_RU.call rfl rfl rfl rfl (cn_N _) ?_
      | refine sx_RU.call rfl rfl rfl rfl (cn_M _) ?_
      | refine sx_RU.call rfl rfl rfl rfl (cn_Z _) ?_
      | refine sx_RU.call rfl rfl rfl rfl (cg_27 _ _) ?_
      | refine sx_RU.call rfl rfl rfl rfl (cg_66 _ _) ?_
      | refine sx_RU.call rfl rfl rfl rfl (cg_156 _ _) ?_
      | refine sx_RU.call rfl rfl rfl rfl (cg_186 _ _) ?_
      | (refine sx_RU.call rfl rfl rfl rfl (cx_7 _ _ _ _) ?_; first | rw [if_pos (by assumption)] | rw [if_neg (by assumption)] | rw [if_pos (by decide)])
      | (refine sx_RU.call rfl rfl rfl rfl (cx_8 _ _ _ _ _ _) ?_; first | rw [if_pos (by assumption)] | rw [if_neg (by assumption)] | rw [if_pos (by decide)])
      | (refine sx_RU.call rfl rfl rfl rfl (cx_22 _ _ _ _) ?_; first | rw [if_pos (by assumption)] | rw [if_neg (by assumption)] | rw [if_pos (by decide)])
      | (refine sx_RU.call rfl rfl rfl rfl (cx_23 _ _ _ _) ?_; first | rw [if_pos (by assumption)] | rw [if_neg (by assumption)] | rw [if_pos (by decide)])
      | (refine sx_RU.call rfl rfl rfl rfl (cx_131 _ _ _ _) ?_; first | rw [if_pos (by assumption)] | rw [if_neg (by assumption)] | rw [if_pos (by decide)])
      | (refine sx_RU.call rfl rfl rfl rfl (cx_132 _ _ _ _ _ _) ?_; first | rw [if_pos (by assumption)] | rw [if_neg (by assumption)] | rw [if_pos (by decide)])
      | (refine sx_RU.call rfl rfl rfl rfl (cx_151 _ _ _ _) ?_; first | rw [if_pos (by assumption)] | rw [if_neg (by assumption)] | rw [if_pos (by decide)])
      | (refine sx_RU.call rfl rfl rfl rfl (cx_152 _ _ _ _) ?_; first | rw [if_pos (by assumption)] | rw [if_neg (by assumption)] | rw [if_pos (by decide)])
      | (refine sx_RU.call rfl rfl rfl rfl (cx_231 _ _ _ _) ?_; first | rw [if_pos (by assumption)] | rw [if_neg (by assumption)] | rw [if_pos (by decide)])
      | (refine sx_RU.call rfl rfl rfl rfl (cx_197 _ _ _ _) ?_; first | rw [if_pos (by assumption)] | rw [if_neg (by assumption)] | rw [if_pos (by decide)])
      | (refine sx_RU.call rfl rfl rfl rfl (cx_112 _ _ _ _) ?_; first | rw [if_pos (by assumption)] | rw [if_neg (by assumption)] | rw [if_pos (by decide)])
      | refine sx_RU.br rfl rfl (fun _ => ?_) (fun q => (of_decide_eq_false q (by assumption)).elim)
      | refine sx_RU.br rfl rfl (fun q => ((by assumption : ¬ _) (of_decide_eq_true q)).elim) (fun _ => ?_)
      | refine sx_RU.swo rfl (by assumption) rfl ?_)
set_option maxRecDepth 20000 in
theorem k_on (ys : List Int32) (a1 a2 : Int32) : sx_twoI ys 49 174 [.int a1, .int a2] := by
  refine ⟨(-1000000001), sx_vB, sx_vB2, _, rfl, ?_, ?_⟩
  · repeat (first
      | refine sx_RU.step rfl rfl ?_
      | exact sx_RU.ret rfl rfl
      | refine sx_RU.call rfl rfl rfl rfl (cf_B _) ?_
      | refine sx_RU.call rfl rfl rfl rfl (cf_N _) ?_
      | refine sx_RU.call rfl rfl rfl rfl (cf_M _) ?_
      | refine sx_RU.call rfl rfl rfl rfl (cf_Z _) ?_
      | refine sx_RU.call rfl rfl rfl rfl (cn_B _) ?_
      | refine sx_RU.call rfl rfl rfl rfl (cn_N _) ?_
      | refine sx_RU.call rfl rfl rfl rfl (cn_M _) ?_
      | refine sx_RU.call rfl rfl rfl rfl (cn_Z _) ?_
      | refine sx_RU.call rfl rfl rfl rfl (cg_27 _ _) ?_
      | refine sx_RU.call rfl rfl rfl rfl (cg_66 _ _) ?_
      | refine sx_RU.call rfl rfl rfl rfl (cg_156 _ _) ?_
      | refine sx_RU.call rfl rfl rfl rfl (cg_186 _ _) ?_
      | (refine sx_RU.call rfl rfl rfl rfl (cx_7 _ _ _ _) ?_; first | rw [if_pos (by assumption)] | rw [if_neg (by assumption)] | rw [if_pos (by decide)])
      | (refine sx_RU.call rfl rfl rfl rfl (cx_8 _ _ _ _ _ _) ?_; first | rw [if_pos (by assumption)] | rw [if_neg (by assumption)] | rw [if_pos (by decide)])
      | (refine sx_RU.call rfl rfl rfl rfl (cx_22 _ _ _ _) ?_; first | rw [if_pos (by assumption)] | rw [if_neg (by assumption)] | rw [if_pos (by decide)])
      | (refine sx_RU.call rfl rfl rfl rfl (cx_23 _ _ _ _) ?_; first | rw [if_pos (by assumption)] | rw [if_neg (by assumption)] | rw [if_pos (by decide)])
      | (refine sx_RU.call rfl rfl rfl rfl (cx_131 _ _ _ _) ?_; first | rw [if_pos (by assumption)] | rw [if_neg (by assumption)] | rw [if_pos (by decide)])
      | (refine sx_RU.call rfl rfl rfl rfl (cx_132 _ _ _ _ _ _) ?_; first | rw [if_pos (by assumption)] | rw [if_neg (by assumption)] | rw [if_pos (by decide)])
      | (refine sx_RU.call rfl rfl rfl rfl (cx_151 _ _ _ _) ?_; first | rw [if_pos (by assumption)] | rw [if_neg (by assumption)] | rw [if_pos (by decide)])
      | (refine sx_RU.call rfl rfl rfl rfl (cx_152 _ _ _ _) ?_; first | rw [if_pos (by assumption)] | rw [if_neg (by assumption)] | rw [if_pos (by decide)])
      | (refine sx_RU.call rfl rfl rfl rfl (cx_231 _ _ _ _) ?_; first | rw [if_pos (by assumption)] | rw [if_neg (by assumption)] | rw [if_pos (by decide)])
      | (refine sx_RU.call rfl rfl rfl rfl (cx_197 _ _ _ _) ?_; first | rw [if_pos (by assumption)] | rw [if_neg (by assumption)] | rw [if_pos (by decide)])
      | (refine sx_RU.call rfl rfl rfl rfl (cx_112 _ _ _ _) ?_; first | rw [if_pos (by assumption)] | rw [if_neg (by assumption)] | rw [if_pos (by decide)])
      | refine sx_RU.br rfl rfl (fun _ => ?_) (fun q => (of_decide_eq_false q (by assumption)).elim)
      | refine sx_RU.br rfl rfl (fun q => ((by assumption : ¬ _) (of_decide_eq_true q)).elim) (fun _ => ?_)
      | refine sx_RU.swo rfl (by assumption) rfl ?_)
  · repeat (first
      | refine sx_RU.step rfl rfl ?_
      | exact sx_RU.ret rfl rfl
      | refine sx_RU.call rfl rfl rfl rfl (cf_B _) ?_
      | refine sx_RU.call rfl rfl rfl rfl (cf_N _) ?_
      | refine sx_RU.call rfl rfl rfl rfl (cf_M _) ?_
      | refine sx_RU.call rfl rfl rfl rfl (cf_Z _) ?_
      | refine sx_RU.call rfl rfl rfl rfl (cn_B _) ?_
      | refine sx_RU.call rfl rfl rfl rfl (cn_N _) ?_
      | refine sx_RU.call rfl rfl rfl rfl (cn_M _) ?_
      | refine sx_RU.call rfl rfl rfl rfl (cn_Z _) ?_
      | refine sx_RU.call rfl rfl rfl rfl (cg_27 _ _) ?_
      | refine sx_RU.call rfl rfl rfl rfl (cg_66 _ _) ?_
      | refine sx_RU.call rfl rfl rfl rfl (cg_156 _ _) ?_
      | refine sx_RU.call rfl rfl rfl rfl (cg_186 _ _) ?_
      | (refine sx_RU.call rfl rfl rfl rfl (cx_7 _ _ _ _) ?_; first | rw [if_pos (by assumption)] | rw [if_neg (by assumption)] | rw [if_pos (by decide)])
      | (refine sx_RU.call rfl rfl rfl rfl (cx_8 _ _ _ _ _ _) ?_; first | rw [if_pos (by assumption)] | rw [if_neg (by assumption)] | rw [if_pos (by decide)])
      | (refine sx_RU.call rfl rfl rfl rfl (cx_22 _ _ _ _) ?_; first | rw [if_pos (by assumption)] | rw [if_neg (by assumption)] | rw [if_pos (by decide)])
      | (refine sx_RU.call rfl rfl rfl rfl (cx_23 _ _ _ _) ?_; first | rw [if_pos (by assumption)] | rw [if_neg (by assumption)] | rw [if_pos (by decide)])
      | (refine sx_RU.call rfl rfl rfl rfl (cx_131 _ _ _ _) ?_; first | rw [if_pos (by assumption)] | rw [if_neg (by assumption)] | rw [if_pos (by decide)])
      | (refine sx_RU.call rfl rfl rfl rfl (cx_132 _ _ _ _ _ _) ?_; first | rw [if_pos (by assumption)] | rw [if_neg (by assumption)] | rw [if_pos (by decide)])
      | (refine sx_RU.call rfl rfl rfl rfl (cx_151 _ _ _ _) ?_; first | rw [if_pos (by assumption)] | rw [if_neg (by assumption)] | rw [if_pos (by decide)])
      | (refine sx_RU.call rfl rfl rfl rfl (cx_152 _ _ _ _) ?_; first | rw [if_pos (by assumption)] | rw [if_neg (by assumption)] | rw [if_pos (by decide)])
      | (refine sx_RU.call rfl rfl rfl rfl (cx_231 _ _ _ _) ?_; first | rw [if_pos (by assumption)] | rw [if_neg (by assumption)] | rw [if_pos (by decide)])
      | (refine sx_RU.call rfl rfl rfl rfl (cx_197 _ _ _ _) ?_; first | rw [if_pos (by assumption)] | rw [if_neg (by assumption)] | rw [if_pos (by decide)])
      | (refine sx_RU.call rfl rfl rfl rfl (cx_112 _ _ _ _) ?_; first | rw [if_pos (by assumption)] | rw [if_neg (by assumption)] | rw [if_pos (by decide)])
      | refine sx_RU.br rfl rfl (fun _ => ?_) (fun q => (of_decide_eq_false q (by assumption)).elim)
      | refine sx_RU.br rfl rfl (fun q => ((by assumption : ¬ _) (of_decide_eq_true q)).elim) (fun _ => ?_)
      | refine sx_RU.swo rfl (by assumption) rfl ?_)
set_option maxRecDepth 20000 in
theorem k_lost (ys : List Int32) (a1 : Int32) : sx_twoI ys 52 176 [.int a1] := by
  refine ⟨(-1000000001), sx_vB, sx_vB2, _, rfl, ?_, ?_⟩
  · repeat (first
      | refine sx_RU.step rfl rfl ?_
      | exact sx_RU.ret rfl rfl
      | refine sx_RU.call rfl rfl rfl rfl (cf_B _) ?_
      | refine sx_RU.call rfl rfl rfl rfl (cf_N _) ?_
      | refine sx_RU.call rfl rfl rfl rfl (cf_M _) ?_
      | refine sx_RU.call rfl rfl rfl rfl (cf_Z _) ?_
      | refine sx_RU.call rfl rfl rfl rfl (cn_B _) ?_
      | refine sx_RU.call rfl rfl rfl rfl (cn_N _) ?_
      | refine sx_RU.call rfl rfl rfl rfl (cn_M _) ?_
      | refine sx_RU.call rfl rfl rfl rfl (cn_Z _) ?_
      | refine sx_RU.call rfl rfl rfl rfl (cg_27 _ _) ?_
      | refine sx_RU.call rfl rfl rfl rfl (cg_66 _ _) ?_
      | refine sx_RU.call rfl rfl rfl rfl (cg_156 _ _) ?_
      | refine sx_RU.call rfl rfl rfl rfl (cg_186 _ _) ?_
      | (refine sx_RU.call rfl rfl rfl rfl (cx_7 _ _ _ _) ?_; first | rw [if_pos (by assumption)] | rw [if_neg (by assumption)] | rw [if_pos (by decide)])
      | (refine sx_RU.call rfl rfl rfl rfl (cx_8 _ _ _ _ _ _) ?_; first | rw [if_pos (by assumption)] | rw [if_neg (by assumption)] | rw [if_pos (by decide)])
      | (refine sx_RU.call rfl rfl rfl rfl (cx_22 _ _ _ _) ?_; first | rw [if_pos (by assumption)] | rw [if_neg (by assumption)] | rw [if_pos (by decide)])
      | (refine sx_RU.call rfl rfl rfl rfl (cx_23 _ _ _ _) ?_; first | rw [if_pos (by assumption)] | rw [if_neg (by assumption)] | rw [if_pos (by decide)])
      | (refine sx_RU.call rfl rfl rfl rfl (cx_131 _ _ _ _) ?_; first | rw [if_pos (by assumption)] | rw [if_neg (by assumption)] | rw [if_pos (by decide)])
      | (refine sx_RU.call rfl rfl rfl rfl (cx_132 _ _ _ _ _ _) ?_; first | rw [if_pos (by assumption)] | rw [if_neg (by assumption)] | rw [if_pos (by decide)])
      | (refine sx_RU.call rfl rfl rfl rfl (cx_151 _ _ _ _) ?_; first | rw [if_pos (by assumption)] | rw [if_neg (by assumption)] | rw [if_pos (by decide)])
      | (refine sx_RU.call rfl rfl rfl rfl (cx_152 _ _ _ _) ?_; first | rw [if_pos (by assumption)] | rw [if_neg (by assumption)] | rw [if_pos (by decide)])
      | (refine sx_RU.call rfl rfl rfl rfl (cx_231 _ _ _ _) ?_; first | rw [if_pos (by assumption)] | rw [if_neg (by assumption)] | rw [if_pos (by decide)])
      | (refine sx_RU.call rfl rfl rfl rfl (cx_197 _ _ _ _) ?_; first | rw [if_pos (by assumption)] | rw [if_neg (by assumption)] | rw [if_pos (by decide)])
      | (refine sx_RU.call rfl rfl rfl rfl (cx_112 _ _ _ _) ?_; first | rw [if_pos (by assumption)] | rw [if_neg (by assumption)] | rw [if_pos (by decide)])
      | refine sx_RU.br rfl rfl (fun _ => ?_) (fun q => (of_decide_eq_false q (by assumption)).elim)
      | refine sx_RU.br rfl rfl (fun q => ((by assumption : ¬ _) (of_decide_eq_true q)).elim) (fun _ => ?_)
      | refine sx_RU.swo rfl (by assumption) rfl ?_)
  · repeat (first
      | refine sx_RU.step rfl rfl ?_
      | exact sx_RU.ret rfl rfl
      | refine sx_RU.call rfl rfl rfl rfl (cf_B _) ?_
      | refine sx_RU.call rfl rfl rfl rfl (cf_N _) ?_
      | refine sx_RU.call rfl rfl rfl rfl (cf_M _) ?_
      | refine sx_RU.call rfl rfl rfl rfl (cf_Z _) ?_
      | refine sx_RU.call rfl rfl rfl rfl (cn_B _) ?_
      | refine sx_RU.call rfl rfl rfl rfl (cn_N _) ?_
      | refine sx_RU.call rfl rfl rfl rfl (cn_M _) ?_
      | refine sx_RU.call rfl rfl rfl rfl (cn_Z _) ?_
      | refine sx_RU.call rfl rfl rfl rfl (cg_27 _ _) ?_
      | refine sx_RU.call rfl rfl rfl rfl (cg_66 _ _) ?_
      | refine sx_RU.call rfl rfl rfl rfl (cg_156 _ _) ?_
      | refine sx_RU.call rfl rfl rfl rfl (cg_186 _ _) ?_
      | (refine sx_RU.call rfl rfl rfl rfl (cx_7 _ _ _ _) ?_; first | rw [if_pos (by assumption)] | rw [if_neg (by assumption)] | rw [if_pos (by decide)])
      | (refine sx_RU.call rfl rfl rfl rfl (cx_8 _ _ _ _ _ _) ?_; first | rw [if_pos (by assumption)] | rw [if_neg (by assumption)] | rw [if_pos (by decide)])
      | (refine sx_RU.call rfl rfl rfl rfl (cx_22 _ _ _ _) ?_; first | rw [if_pos (by assumption)] | rw [if_neg (by assumption)] | rw [if_pos (by decide)])
      | (refine sx_RU.call rfl rfl rfl rfl (cx_23 _ _ _ _) ?_; first | rw [if_pos (by assumption)] | rw [if_neg (by assumption)] | rw [if_pos (by decide)])
      | (refine sx_RU.call rfl rfl rfl rfl (cx_131 _ _ _ _) ?_; first | rw [if_pos (by assumption)] | rw [if_neg (by assumption)] | rw [if_pos (by decide)])
      | (refine sx_RU.call rfl rfl rfl rfl (cx_132 _ _ _ _ _ _) ?_; first | rw [if_pos (by assumption)] | rw [if_neg (by assumption)] | rw [if_pos (by decide)])
      | (refine sx_RU.call rfl rfl rfl rfl (cx_151 _ _ _ _) ?_; first | rw [if_pos (by assumption)] | rw [if_neg (by assumption)] | rw [if_pos (by decide)])
      | (refine sx_RU.call rfl rfl rfl rfl (cx_152 _ _ _ _) ?_; first | rw [if_pos (by assumption)] | rw [if_neg (by assumption)] | rw [if_pos (by decide)])
      | (refine sx_RU.call rfl rfl rfl rfl (cx_231 _ _ _ _) ?_; first | rw [if_pos (by assumption)] | rw [if_neg (by assumption)] | rw [if_pos (by decide)])
      | (refine sx_RU.call rfl rfl rfl rfl (cx_197 _ _ _ _) ?_; first | rw [if_pos (by assumption)] | rw [if_neg (by assumption)] | rw [if_pos (by decide)])
      | (refine sx_RU.call rfl rfl rfl rfl (cx_112 _ _ _ _) ?_; first | rw [if_pos (by assumption)] | rw [if_neg (by assumption)] | rw [if_pos (by decide)])
      | refine sx_RU.br rfl rfl (fun _ => ?_) (fun q => (of_decide_eq_false q (by assumption)).elim)
      | refine sx_RU.br rfl rfl (fun q => ((by assumption : ¬ _) (of_decide_eq_true q)).elim) (fun _ => ?_)
      | refine sx_RU.swo rfl (by assumption) rfl ?_)
set_option maxRecDepth 20000 in
theorem k_comes (ys : List Int32) (a1 a2 : Int32) : sx_twoI ys 55 179 [.int a1, .int a2] := by
  refine ⟨(-1000000001), sx_vB, sx_vB2, _, rfl, ?_, ?_⟩
  · repeat (first
      | refine sx_RU.step rfl rfl ?_
      | exact sx_RU.ret rfl rfl
      | refine sx_RU.call rfl rfl rfl rfl (cf_B _) ?_
      | refine sx_RU.call rfl rfl rfl rfl (cf_N _) ?_
      | refine sx_RU.call rfl rfl rfl rfl (cf_M _) ?_
      | refine sx_RU.call rfl rfl rfl rfl (cf_Z _) ?_
      | refine sx_RU.call rfl rfl rfl rfl (cn_B _) ?_
      | refine sx_RU.call rfl rfl rfl rfl (cn_N _) ?_
      | refine sx_RU.call rfl rfl rfl rfl (cn_M _) ?_
      | refine sx_RU.call rfl rfl rfl rfl (cn_Z _) ?_
      | refine sx_RU.call rfl rfl rfl rfl (cg_27 _ _) ?_
      | refine sx_RU.call rfl rfl rfl rfl (cg_66 _ _) ?_
      | refine sx_RU.call rfl rfl rfl rfl (cg_156 _ _) ?_
      | refine sx_RU.call rfl rfl rfl rfl (cg_186 _ _) ?_
      | (refine sx_RU.call rfl rfl rfl rfl (cx_7 _ _ _ _) ?_; first | rw [if_pos (by assumption)] | rw [if_neg (by assumption)] | rw [if_pos (by decide)])
      | (refine sx_RU.call rfl rfl rfl rfl (cx_8 _ _ _ _ _ _) ?_; first | rw [if_pos (by assumption)] | rw [if_neg (by assumption)] | rw [if_pos (by decide)])
      | (refine sx_RU.call rfl rfl rfl rfl (cx_22 _ _ _ _) ?_; first | rw [if_pos (by assumption)] | rw [if_neg (by assumption)] | rw [if_pos (by decide)])
      | (refine sx_RU.call rfl rfl rfl rfl (cx_23 _ _ _ _) ?_; first | rw [if_pos (by assumption)] | rw [if_neg (by assumption)] | rw [if_pos (by decide)])
      | (refine sx_RU.call rfl rfl rfl rfl (cx_131 _ _ _ _) ?_; first | rw [if_pos (by assumption)] | rw [if_neg (by assumption)] | rw [if_pos (by decide)])
      | (refine sx_RU.call rfl rfl rfl rfl (cx_132 _ _ _ _ _ _) ?_; first | rw [if_pos (by assumption)] | rw [if_neg (by assumption)] | rw [if_pos (by decide)])
      | (refine sx_RU.call rfl rfl rfl rfl (cx_151 _ _ _ _) ?_; first | rw [if_pos (by assumption)] | rw [if_neg (by assumption)] | rw [if_pos (by decide)])
      | (refine sx_RU.call rfl rfl rfl rfl (cx_152 _ _ _ _) ?_; first | rw [if_pos (by assumption)] | rw [if_neg (by assumption)] | rw [if_pos (by decide)])
      | (refine sx_RU.call rfl rfl rfl rfl (cx_231 _ _ _ _) ?_; first | rw [if_pos (by assumption)] | rw [if_neg (by assumption)] | rw [if_pos (by decide)])
      | (refine sx_RU.call rfl rfl rfl rfl (cx_197 _ _ _ _) ?_; first | rw [if_pos (by assumption)] | rw [if_neg (by assumption)] | rw [if_pos (by decide)])
      | (refine sx_RU.call rfl rfl rfl rfl (cx_112 _ _ _ _) ?_; first | rw [if_pos (by assumption)] | rw [if_neg (by assumption)] | rw [if_pos (by decide)])
      | refine sx_RU.br rfl rfl (fun _ => ?_) (fun q => (of_decide_eq_false q (by assumption)).elim)
      | refine sx_RU.br rfl rfl (fun q => ((by assumption : ¬ _) (of_decide_eq_true q)).elim) (fun _ => ?_)
      | refine sx_RU.swo rfl (by assumption) rfl ?_)
  · repeat (first
      | refine sx_RU.step rfl rfl ?_
      | exact sx_RU.ret rfl rfl
      | refine sx_RU.call rfl rfl rfl rfl (cf_B _) ?_
      | refine sx_RU.call rfl rfl rfl rfl (cf_N _) ?_
      | refine sx_RU.call rfl rfl rfl rfl (cf_M _) ?_
      | refine sx_RU.call rfl rfl rfl rfl (cf_Z _) ?_
      | refine sx_RU.call rfl rfl rfl rfl (cn_B _) ?_
      | refine sx_RU.call rfl rfl rfl rfl (cn_N _) ?_
      | refine sx_RU.call rfl rfl rfl rfl (cn_M _) ?_
      | refine sx_RU.call rfl rfl rfl rfl (cn_Z _) ?_
      | refine sx_RU.call rfl rfl rfl rfl (cg_27 _ _) ?_
      | refine sx_RU.call rfl rfl rfl rfl (cg_66 _ _) ?_
      | refine sx_RU.call rfl rfl rfl rfl (cg_156 _ _) ?_
      | refine sx_RU.call rfl rfl rfl rfl (cg_186 _ _) ?_
      | (refine sx_RU.call rfl rfl rfl rfl (cx_7 _ _ _ _) ?_; first | rw [if_pos (by assumption)] | rw [if_neg (by assumption)] | rw [if_pos (by decide)])
      | (refine sx_RU.call rfl rfl rfl rfl (cx_8 _ _ _ _ _ _) ?_; first | rw [if_pos (by assumption)] | rw [if_neg (by assumption)] | rw [if_pos (by decide)])
      | (refine sx_RU.call rfl rfl rfl rfl (cx_22 _ _ _ _) ?_; first | rw [if_pos (by assumption)] | rw [if_neg (by assumption)] | rw [if_pos (by decide)])
      | (refine sx_RU.call rfl rfl rfl rfl (cx_23 _ _ _ _) ?_; first | rw [if_pos (by assumption)] | rw [if_neg (by assumption)] | rw [if_pos (by decide)])
      | (refine sx_RU.call rfl rfl rfl rfl (cx_131 _ _ _ _) ?_; first | rw [if_pos (by assumption)] | rw [if_neg (by assumption)] | rw [if_pos (by decide)])
      | (refine sx_RU.call rfl rfl rfl rfl (cx_132 _ _ _ _ _ _) ?_; first | rw [if_pos (by assumption)] | rw [if_neg (by assumption)] | rw [if_pos (by decide)])
      | (refine sx_RU.call rfl rfl rfl rfl (cx_151 _ _ _ _) ?_; first | rw [if_pos (by assumption)] | rw [if_neg (by assumption)] | rw [if_pos (by decide)])
      | (refine sx_RU.call rfl rfl rfl rfl (cx_152 _ _ _ _) ?_; first | rw [if_pos (by assumption)] | rw [if_neg (by assumption)] | rw [if_pos (by decide)])
      | (refine sx_RU.call rfl rfl rfl rfl (cx_231 _ _ _ _) ?_; first | rw [if_pos (by assumption)] | rw [if_neg (by assumption)] | rw [if_pos (by decide)])
      | (refine sx_RU.call rfl rfl rfl rfl (cx_197 _ _ _ _) ?_; first | rw [if_pos (by assumption)] | rw [if_neg (by assumption)] | rw [if_pos (by decide)])
      | (refine sx_RU.call rfl rfl rfl rfl (cx_112 _ _ _ _) ?_; first | rw [if_pos (by assumption)] | rw [if_neg (by assumption)] | rw [if_pos (by decide)])
      | refine sx_RU.br rfl rfl (fun _ => ?_) (fun q => (of_decide_eq_false q (by assumption)).elim)
      | refine sx_RU.br rfl rfl (fun q => ((by assumption : ¬ _) (of_decide_eq_true q)).elim) (fun _ => ?_)
      | refine sx_RU.swo rfl (by assumption) rfl ?_)
set_option maxRecDepth 20000 in
theorem k_meets (ys : List Int32) (a1 a2 : Int32) : sx_twoI ys 58 180 [.int a1, .int a2] := by
  refine ⟨(-1000000001), sx_vB, sx_vB2, _, rfl, ?_, ?_⟩
  · repeat (first
      | refine sx_RU.step rfl rfl ?_
      | exact sx_RU.ret rfl rfl
      | refine sx_RU.call rfl rfl rfl rfl (cf_B _) ?_
      | refine sx_RU.call rfl rfl rfl rfl (cf_N _) ?_
      | refine sx_RU.call rfl rfl rfl rfl (cf_M _) ?_
      | refine sx_RU.call rfl rfl rfl rfl (cf_Z _) ?_
      | refine sx_RU.call rfl rfl rfl rfl (cn_B _) ?_
      | refine sx_RU.call rfl rfl rfl rfl (cn_N _) ?_
      | refine sx_RU.call rfl rfl rfl rfl (cn_M _) ?_
      | refine sx_RU.call rfl rfl rfl rfl (cn_Z _) ?_
      | refine sx_RU.call rfl rfl rfl rfl (cg_27 _ _) ?_
      | refine sx_RU.call rfl rfl rfl rfl (cg_66 _ _) ?_
      | refine sx_RU.call rfl rfl rfl rfl (cg_156 _ _) ?_
      | refine sx_RU.call rfl rfl rfl rfl (cg_186 _ _) ?_
      | (refine sx_RU.call rfl rfl rfl rfl (cx_7 _ _ _ _) ?_; first | rw [if_pos (by assumption)] | rw [if_neg (by assumption)] | rw [if_pos (by decide)])
      | (refine sx_RU.call rfl rfl rfl rfl (cx_8 _ _ _ _ _ _) ?_; first | rw [if_pos (by assumption)] | rw [if_neg (by assumption)] | rw [if_pos (by decide)])
      | (refine sx_RU.call rfl rfl rfl rfl (cx_22 _ _ _ _) ?_; first | rw [if_pos (by assumption)] | rw [if_neg (by assumption)] | rw [if_pos (by decide)])
      | (refine sx_RU.call rfl rfl rfl rfl (cx_23 _ _ _ _) ?_; first | rw [if_pos (by assumption)] | rw [if_neg (by assumption)] | rw [if_pos (by decide)])
      | (refine sx_RU.call rfl rfl rfl rfl (cx_131 _ _ _ _) ?_; first | rw [if_pos (by assumption)] | rw [if_neg (by assumption)] | rw [if_pos (by decide)])
      | (refine sx_RU.call rfl rfl rfl rfl (cx_132 _ _ _ _ _ _) ?_; first | rw [if_pos (by assumption)] | rw [if_neg (by assumption)] | rw [if_pos (by decide)])
      | (refine sx_RU.call rfl rfl rfl rfl (cx_151 _ _ _ _) ?_; first | rw [if_pos (by assumption)] | rw [if_neg (by assumption)] | rw [if_pos (by decide)])
      | (refine sx_RU.call rfl rfl rfl rfl (cx_152 _ _ _ _) ?_; first | rw [if_pos (by assumption)] | rw [if_neg (by assumption)] | rw [if_pos (by decide)])
      | (refine sx_RU.call rfl rfl rfl rfl (cx_231 _ _ _ _) ?_; first | rw [if_pos (by assumption)] | rw [if_neg (by assumption)] | rw [if_pos (by decide)])
      | (refine sx_RU.call rfl rfl rfl rfl (cx_197 _ _ _ _) ?_; first | rw [if_pos (by assumption)] | rw [if_neg (by assumption)] | rw [if_pos (by decide)])
      | (refine sx_RU.call rfl rfl rfl rfl (cx_112 _ _ _ _) ?_; first | rw [if_pos (by assumption)] | rw [if_neg (by assumption)] | rw [if_pos (by decide)])
      | refine sx_RU.br rfl rfl (fun _ => ?_) (fun q => (of_decide_eq_false q (by assumption)).elim)
      | refine sx_RU.br rfl rfl (fun q => ((by assumption : ¬ _) (of_decide_eq_true q)).elim) (fun _ => ?_)
      | refine sx_RU.swo rfl (by assumption) rfl ?_)
  · repeat (first
      | refine sx_RU.step rfl rfl ?_
      | exact sx_RU.ret rfl rfl
      | refine sx_RU.call rfl rfl rfl rfl (cf_B _) ?_
      | refine sx_RU.call rfl rfl rfl rfl (cf_N _) ?_
      | refine sx_RU.call rfl rfl rfl rfl (cf_M _) ?_
      | refine sx_RU.call rfl rfl rfl rfl (cf_Z _) ?_
      | refine sx_RU.call rfl rfl rfl rfl (cn_B _) ?_
      | refine sx_RU.call rfl rfl rfl rfl (cn_N _) ?_
      | refine sx_RU.call rfl rfl rfl rfl (cn_M _) ?_
      | refine sx_RU.call rfl rfl rfl rfl (cn_Z _) ?_
      | refine sx_RU.call rfl rfl rfl rfl (cg_27 _ _) ?_
      | refine sx_RU.call rfl rfl rfl rfl (cg_66 _ _) ?_
      | refine sx_RU.call rfl rfl rfl rfl (cg_156 _ _) ?_
      | refine sx_RU.call rfl rfl rfl rfl (cg_186 _ _) ?_
      | (refine sx_RU.call rfl rfl rfl rfl (cx_7 _ _ _ _) ?_; first | rw [if_pos (by assumption)] | rw [if_neg (by assumption)] | rw [if_pos (by decide)])
      | (refine sx_RU.call rfl rfl rfl rfl (cx_8 _ _ _ _ _ _) ?_; first | rw [if_pos (by assumption)] | rw [if_neg (by assumption)] | rw [if_pos (by decide)])
      | (refine sx_RU.call rfl rfl rfl rfl (cx_22 _ _ _ _) ?_; first | rw [if_pos (by assumption)] | rw [if_neg (by assumption)] | rw [if_pos (by decide)])
      | (refine sx_RU.call rfl rfl rfl rfl (cx_23 _ _ _ _) ?_; first | rw [if_pos (by assumption)] | rw [if_neg (by assumption)] | rw [if_pos (by decide)])
      | (refine sx_RU.call rfl rfl rfl rfl (cx_131 _ _ _ _) ?_; first | rw [if_pos (by assumption)] | rw [if_neg (by assumption)] | rw [if_pos (by decide)])
      | (refine sx_RU.call rfl rfl rfl rfl (cx_132 _ _ _ _ _ _) ?_; first | rw [if_pos (by assumption)] | rw [if_neg (by assumption)] | rw [if_pos (by decide)])
      | (refine sx_RU.call rfl rfl rfl rfl (cx_151 _ _ _ _) ?_; first | rw [if_pos (by assumption)] | rw [if_neg (by assumption)] | rw [if_pos (by decide)])
      | (refine sx_RU.call rfl rfl rfl rfl (cx_152 _ _ _ _) ?_; first | rw [if_pos (by assumption)] | rw [if_neg (by assumption)] | rw [if_pos (by decide)])
      | (refine sx_RU.call rfl rfl rfl rfl (cx_231 _ _ _ _) ?_; first | rw [if_pos (by assumption)] | rw [if_neg (by assumption)] | rw [if_pos (by decide)])
      | (refine sx_RU.call rfl rfl rfl rfl (cx_197 _ _ _ _) ?_; first | rw [if_pos (by assumption)] | rw [if_neg (by assumption)] | rw [if_pos (by decide)])
      | (refine sx_RU.call rfl rfl rfl rfl (cx_112 _ _ _ _) ?_; first | rw [if_pos (by assumption)] | rw [if_neg (by assumption)] | rw [if_pos (by decide)])
      | refine sx_RU.br rfl rfl (fun _ => ?_) (fun q => (of_decide_eq_false q (by assumption)).elim)
      | refine sx_RU.br rfl rfl (fun q => ((by assumption : ¬ _) (of_decide_eq_true q)).elim) (fun _ => ?_)
      | refine sx_RU.swo rfl (by assumption) rfl ?_)
set_option maxRecDepth 20000 in
theorem k_whose (ys : List Int32) (a1 : Int32) : sx_twoI ys 61 183 [.int a1] := by
  refine ⟨(-1000000001), sx_vB, sx_vB2, _, rfl, ?_, ?_⟩
  · repeat (first
      | refine sx_RU.step rfl rfl ?_
      | exact sx_RU.ret rfl rfl
      | refine sx_RU.call rfl rfl rfl rfl (cf_B _) ?_
      | refine sx_RU.call rfl rfl rfl rfl (cf_N _) ?_
      | refine sx_RU.call rfl rfl rfl rfl (cf_M _) ?_
      | refine sx_RU.call rfl rfl rfl rfl (cf_Z _) ?_
      | refine sx_RU.call rfl rfl rfl rfl (cn_B _) ?_
      | refine sx_RU.call rfl rfl rfl rfl (cn_N _) ?_
      | refine sx_RU.call rfl rfl rfl rfl (cn_M _) ?_
      | refine sx_RU.call rfl rfl rfl rfl (cn_Z _) ?_
      | refine sx_RU.call rfl rfl rfl rfl (cg_27 _ _) ?_
      | refine sx_RU.call rfl rfl rfl rfl (cg_66 _ _) ?_
      | refine sx_RU.call rfl rfl rfl rfl (cg_156 _ _) ?_
      | refine sx_RU.call rfl rfl rfl rfl (cg_186 _ _) ?_
      | (refine sx_RU.call rfl rfl rfl rfl (cx_7 _ _ _ _) ?_; first | rw [if_pos (by assumption)] | rw [if_neg (by assumption)] | rw [if_pos (by decide)])
      | (refine sx_RU.call rfl rfl rfl rfl (cx_8 _ _ _ _ _ _) ?_; first | rw [if_pos (by assumption)] | rw [if_neg (by assumption)] | rw [if_pos (by decide)])
      | (refine sx_RU.call rfl rfl rfl rfl (cx_22 _ _ _ _) ?_; first | rw [if_pos (by assumption)] | rw [if_neg (by assumption)] | rw [if_pos (by decide)])
      | (refine sx_RU.call rfl rfl rfl rfl (cx_23 _ _ _ _) ?_; first | rw [if_pos (by assumption)] | rw [if_neg (by assumption)] | rw [if_pos (by decide)])
      | (refine sx_RU.call rfl rfl rfl rfl (cx_131 _ _ _ _) ?_; first | rw [if_pos (by assumption)] | rw [if_neg (by assumption)] | rw [if_pos (by decide)])
      | (refine sx_RU.call rfl rfl rfl rfl (cx_132 _ _ _ _ _ _) ?_; first | rw [if_pos (by assumption)] | rw [if_neg (by assumption)] | rw [if_pos (by decide)])
      | (refine sx_RU.call rfl rfl rfl rfl (cx_151 _ _ _ _) ?_; first | rw [if_pos (by assumption)] | rw [if_neg (by assumption)] | rw [if_pos (by decide)])
      | (refine sx_RU.call rfl rfl rfl rfl (cx_152 _ _ _ _) ?_; first | rw [if_pos (by assumption)] | rw [if_neg (by assumption)] | rw [if_pos (by decide)])
      | (refine sx_RU.call rfl rfl rfl rfl (cx_231 _ _ _ _) ?_; first | rw [if_pos (by assumption)] | rw [if_neg (by assumption)] | rw [if_pos (by decide)])
      | (refine sx_RU.call rfl rfl rfl rfl (cx_197 _ _ _ _) ?_; first | rw [if_pos (by assumption)] | rw [if_neg (by assumption)] | rw [if_pos (by decide)])
      | (refine sx_RU.call rfl rfl rfl rfl (cx_112 _ _ _ _) ?_; first | rw [if_pos (by assumption)] | rw [if_neg (by assumption)] | rw [if_pos (by decide)])
      | refine sx_RU.br rfl rfl (fun _ => ?_) (fun q => (of_decide_eq_false q (by assumption)).elim)
      | refine sx_RU.br rfl rfl (fun q => ((by assumption : ¬ _) (of_decide_eq_true q)).elim) (fun _ => ?_)
      | refine sx_RU.swo rfl (by assumption) rfl ?_)
  · repeat (first
      | refine sx_RU.step rfl rfl ?_
      | exact sx_RU.ret rfl rfl
      | refine sx_RU.call rfl rfl rfl rfl (cf_B _) ?_
      | refine sx_RU.call rfl rfl rfl rfl (cf_N _) ?_
      | refine sx_RU.call rfl rfl rfl rfl (cf_M _) ?_
      | refine sx_RU.call rfl rfl rfl rfl (cf_Z _) ?_
      | refine sx_RU.call rfl rfl rfl rfl (cn_B _) ?_
      | refine sx_RU.call rfl rfl rfl rfl (cn_N _) ?_
      | refine sx_RU.call rfl rfl rfl rfl (cn_M _) ?_
      | refine sx_RU.call rfl rfl rfl rfl (cn_Z _) ?_
      | refine sx_RU.call rfl rfl rfl rfl (cg_27 _ _) ?_
      | refine sx_RU.call rfl rfl rfl rfl (cg_66 _ _) ?_
      | refine sx_RU.call rfl rfl rfl rfl (cg_156 _ _) ?_
      | refine sx_RU.call rfl rfl rfl rfl (cg_186 _ _) ?_
      | (refine sx_RU.call rfl rfl rfl rfl (cx_7 _ _ _ _) ?_; first | rw [if_pos (by assumption)] | rw [if_neg (by assumption)] | rw [if_pos (by decide)])
      | (refine sx_RU.call rfl rfl rfl rfl (cx_8 _ _ _ _ _ _) ?_; first | rw [if_pos (by assumption)] | rw [if_neg (by assumption)] | rw [if_pos (by decide)])
      | (refine sx_RU.call rfl rfl rfl rfl (cx_22 _ _ _ _) ?_; first | rw [if_pos (by assumption)] | rw [if_neg (by assumption)] | rw [if_pos (by decide)])
      | (refine sx_RU.call rfl rfl rfl rfl (cx_23 _ _ _ _) ?_; first | rw [if_pos (by assumption)] | rw [if_neg (by assumption)] | rw [if_pos (by decide)])
      | (refine sx_RU.call rfl rfl rfl rfl (cx_131 _ _ _ _) ?_; first | rw [if_pos (by assumption)] | rw [if_neg (by assumption)] | rw [if_pos (by decide)])
      | (refine sx_RU.call rfl rfl rfl rfl (cx_132 _ _ _ _ _ _) ?_; first | rw [if_pos (by assumption)] | rw [if_neg (by assumption)] | rw [if_pos (by decide)])
      | (refine sx_RU.call rfl rfl rfl rfl (cx_151 _ _ _ _) ?_; first | rw [if_pos (by assumption)] | rw [if_neg (by assumption)] | rw [if_pos (by decide)])
      | (refine sx_RU.call rfl rfl rfl rfl (cx_152 _ _ _ _) ?_; first | rw [if_pos (by assumption)] | rw [if_neg (by assumption)] | rw [if_pos (by decide)])
      | (refine sx_RU.call rfl rfl rfl rfl (cx_231 _ _ _ _) ?_; first | rw [if_pos (by assumption)] | rw [if_neg (by assumption)] | rw [if_pos (by decide)])
      | (refine sx_RU.call rfl rfl rfl rfl (cx_197 _ _ _ _) ?_; first | rw [if_pos (by assumption)] | rw [if_neg (by assumption)] | rw [if_pos (by decide)])
      | (refine sx_RU.call rfl rfl rfl rfl (cx_112 _ _ _ _) ?_; first | rw [if_pos (by assumption)] | rw [if_neg (by assumption)] | rw [if_pos (by decide)])
      | refine sx_RU.br rfl rfl (fun _ => ?_) (fun q => (of_decide_eq_false q (by assumption)).elim)
      | refine sx_RU.br rfl rfl (fun q => ((by assumption : ¬ _) (of_decide_eq_true q)).elim) (fun _ => ?_)
      | refine sx_RU.swo rfl (by assumption) rfl ?_)
set_option maxRecDepth 20000 in
theorem k_move (ys : List Int32) (a1 a2 : Int32) : sx_twoI ys 65 185 [.int a1, .int a2] := by
  refine ⟨(-1000000001), sx_vB, sx_vB2, _, rfl, ?_, ?_⟩
  · repeat (first
      | refine sx_RU.step rfl rfl ?_
      | exact sx_RU.ret rfl rfl
      | refine sx_RU.call rfl rfl rfl rfl (cf_B _) ?_
      | refine sx_RU.call rfl rfl rfl rfl (cf_N _) ?_
      | refine sx_RU.call rfl rfl rfl rfl (cf_M _) ?_
      | refine sx_RU.call rfl rfl rfl rfl (cf_Z _) ?_
      | refine sx_RU.call rfl rfl rfl rfl (cn_B _) ?_
      | refine sx_RU.call rfl rfl rfl rfl (cn_N _) ?_
      | refine sx_RU.call rfl rfl rfl rfl (cn_M _) ?_
      | refine sx_RU.call rfl rfl rfl rfl (cn_Z _) ?_
      | refine sx_RU.call rfl rfl rfl rfl (cg_27 _ _) ?_
      | refine sx_RU.call rfl rfl rfl rfl (cg_66 _ _) ?_
      | refine sx_RU.call rfl rfl rfl rfl (cg_156 _ _) ?_
      | refine sx_RU.call rfl rfl rfl rfl (cg_186 _ _) ?_
      | (refine sx_RU.call rfl rfl rfl rfl (cx_7 _ _ _ _) ?_; first | rw [if_pos (by assumption)] | rw [if_neg (by assumption)] | rw [if_pos (by decide)])
      | (refine sx_RU.call rfl rfl rfl rfl (cx_8 _ _ _ _ _ _) ?_; first | rw [if_pos (by assumption)] | rw [if_neg (by assumption)] | rw [if_pos (by decide)])
      | (refine sx_RU.call rfl rfl rfl rfl (cx_22 _ _ _ _) ?_; first | rw [if_pos (by assumption)] | rw [if_neg (by assumption)] | rw [if_pos (by decide)])
      | (refine sx_RU.call rfl rfl rfl rfl (cx_23 _ _ _ _) ?_; first | rw [if_pos (by assumption)] | rw [if_neg (by assumption)] | rw [if_pos (by decide)])
      | (refine sx_RU.call rfl rfl rfl rfl (cx_131 _ _ _ _) ?_; first | rw [if_pos (by assumption)] | rw [if_neg (by assumption)] | rw [if_pos (by decide)])
      | (refine sx_RU.call rfl rfl rfl rfl (cx_132 _ _ _ _ _ _) ?_; first | rw [if_pos (by assumption)] | rw [if_neg (by assumption)] | rw [if_pos (by decide)])
      | (refine sx_RU.call rfl rfl rfl rfl (cx_151 _ _ _ _) ?_; first | rw [if_pos (by assumption)] | rw [if_neg (by assumption)] | rw [if_pos (by decide)])
      | (refine sx_RU.call rfl rfl rfl rfl (cx_152 _ _ _ _) ?_; first | rw [if_pos (by assumption)] | rw [if_neg (by assumption)] | rw [if_pos (by decide)])
      | (refine sx_RU.call rfl rfl rfl rfl (cx_231 _ _ _ _) ?_; first | rw [if_pos (by assumption)] | rw [if_neg (by assumption)] | rw [if_pos (by decide)])
      | (refine sx_RU.call rfl rfl rfl rfl (cx_197 _ _ _ _) ?_; first | rw [if_pos (by assumption)] | rw [if_neg (by assumption)] | rw [if_pos (by decide)])
      | (refine sx_RU.call rfl rfl rfl rfl (cx_112 _ _ _ _) ?_; first | rw [if_pos (by assumption)] | rw [if_neg (by assumption)] | rw [if_pos (by decide)])
      | refine sx_RU.br rfl rfl (fun _ => ?_) (fun q => (of_decide_eq_false q (by assumption)).elim)
      | refine sx_RU.br rfl rfl (fun q => ((by assumption : ¬ _) (of_decide_eq_true q)).elim) (fun _ => ?_)
      | refine sx_RU.swo rfl (by assumption) rfl ?_)
  · repeat (first
      | refine sx_RU.step rfl rfl ?_
      | exact sx_RU.ret rfl rfl
      | refine sx_RU.call rfl rfl rfl rfl (cf_B _) ?_
      | refine sx_RU.call rfl rfl rfl rfl (cf_N _) ?_
      | refine sx_RU.call rfl rfl rfl rfl (cf_M _) ?_
      | refine sx_RU.call rfl rfl rfl rfl (cf_Z _) ?_
      | refine sx_RU.call rfl rfl rfl rfl (cn_B _) ?_
      | refine sx_RU.call rfl rfl rfl rfl (cn_N _) ?_
      | refine sx_RU.call rfl rfl rfl rfl (cn_M _) ?_
      | refine sx_RU.call rfl rfl rfl rfl (cn_Z _) ?_
      | refine sx_RU.call rfl rfl rfl rfl (cg_27 _ _) ?_
      | refine sx_RU.call rfl rfl rfl rfl (cg_66 _ _) ?_
      | refine sx_RU.call rfl rfl rfl rfl (cg_156 _ _) ?_
      | refine sx_RU.call rfl rfl rfl rfl (cg_186 _ _) ?_
      | (refine sx_RU.call rfl rfl rfl rfl (cx_7 _ _ _ _) ?_; first | rw [if_pos (by assumption)] | rw [if_neg (by assumption)] | rw [if_pos (by decide)])
      | (refine sx_RU.call rfl rfl rfl rfl (cx_8 _ _ _ _ _ _) ?_; first | rw [if_pos (by assumption)] | rw [if_neg (by assumption)] | rw [if_pos (by decide)])
      | (refine sx_RU.call rfl rfl rfl rfl (cx_22 _ _ _ _) ?_; first | rw [if_pos (by assumption)] | rw [if_neg (by assumption)] | rw [if_pos (by decide)])
      | (refine sx_RU.call rfl rfl rfl rfl (cx_23 _ _ _ _) ?_; first | rw [if_pos (by assumption)] | rw [if_neg (by assumption)] | rw [if_pos (by decide)])
      | (refine sx_RU.call rfl rfl rfl rfl (cx_131 _ _ _ _) ?_; first | rw [if_pos (by assumption)] | rw [if_neg (by assumption)] | rw [if_pos (by decide)])
      | (refine sx_RU.call rfl rfl rfl rfl (cx_132 _ _ _ _ _ _) ?_; first | rw [if_pos (by assumption)] | rw [if_neg (by assumption)] | rw [if_pos (by decide)])
      | (refine sx_RU.call rfl rfl rfl rfl (cx_151 _ _ _ _) ?_; first | rw [if_pos (by assumption)] | rw [if_neg (by assumption)] | rw [if_pos (by decide)])
      | (refine sx_RU.call rfl rfl rfl rfl (cx_152 _ _ _ _) ?_; first | rw [if_pos (by assumption)] | rw [if_neg (by assumption)] | rw [if_pos (by decide)])
      | (refine sx_RU.call rfl rfl rfl rfl (cx_231 _ _ _ _) ?_; first | rw [if_pos (by assumption)] | rw [if_neg (by assumption)] | rw [if_pos (by decide)])
      | (refine sx_RU.call rfl rfl rfl rfl (cx_197 _ _ _ _) ?_; first | rw [if_pos (by assumption)] | rw [if_neg (by assumption)] | rw [if_pos (by decide)])
      | (refine sx_RU.call rfl rfl rfl rfl (cx_112 _ _ _ _) ?_; first | rw [if_pos (by assumption)] | rw [if_neg (by assumption)] | rw [if_pos (by decide)])
      | refine sx_RU.br rfl rfl (fun _ => ?_) (fun q => (of_decide_eq_false q (by assumption)).elim)
      | refine sx_RU.br rfl rfl (fun q => ((by assumption : ¬ _) (of_decide_eq_true q)).elim) (fun _ => ?_)
      | refine sx_RU.swo rfl (by assumption) rfl ?_)
set_option maxRecDepth 20000 in
theorem k_peas (ys : List Int32) (a1 : Int32) : sx_twoI ys 67 187 [.int a1] := by
  refine ⟨(-1000000001), sx_vB, sx_vB2, _, rfl, ?_, ?_⟩
  · repeat (first
      | refine sx_RU.step rfl rfl ?_
      | exact sx_RU.ret rfl rfl
      | refine sx_RU.call rfl rfl rfl rfl (cf_B _) ?_
      | refine sx_RU.call rfl rfl rfl rfl (cf_N _) ?_
      | refine sx_RU.call rfl rfl rfl rfl (cf_M _) ?_
      | refine sx_RU.call rfl rfl rfl rfl (cf_Z _) ?_
      | refine sx_RU.call rfl rfl rfl rfl (cn_B _) ?_
      | refine sx_RU.call rfl rfl rfl rfl (cn_N _) ?_
      | refine sx_RU.call rfl rfl rfl rfl (cn_M _) ?_
      | refine sx_RU.call rfl rfl rfl rfl (cn_Z _) ?_
      | refine sx_RU.call rfl rfl rfl rfl (cg_27 _ _) ?_
      | refine sx_RU.call rfl rfl rfl rfl (cg_66 _ _) ?_
      | refine sx_RU.call rfl rfl rfl rfl (cg_156 _ _) ?_
      | refine sx_RU.call rfl rfl rfl rfl (cg_186 _ _) ?_
      | (refine sx_RU.call rfl rfl rfl rfl (cx_7 _ _ _ _) ?_; first | rw [if_pos (by assumption)] | rw [if_neg (by assumption)] | rw [if_pos (by decide)])
      | (refine sx_RU.call rfl rfl rfl rfl (cx_8 _ _ _ _ _ _) ?_; first | rw [if_pos (by assumption)] | rw [if_neg (by assumption)] | rw [if_pos (by decide)])
      | (refine sx_RU.call rfl rfl rfl rfl (cx_22 _ _ _ _) ?_; first | rw [if_pos (by assumption)] | rw [if_neg (by assumption)] | rw [if_pos (by decide)])
      | (refine sx_RU.call rfl rfl rfl rfl (cx_23 _ _ _ _) ?_; first | rw [if_pos (by assumption)] | rw [if_neg (by assumption)] | rw [if_pos (by decide)])
      | (refine sx_RU.call rfl rfl rfl rfl (cx_131 _ _ _ _) ?_; first | rw [if_pos (by assumption)] | rw [if_neg (by assumption)] | rw [if_pos (by decide)])
      | (refine sx_RU.call rfl rfl rfl rfl (cx_132 _ _ _ _ _ _) ?_; first | rw [if_pos (by assumption)] | rw [if_neg (by assumption)] | rw [if_pos (by decide)])
      | (refine sx_RU.call rfl rfl rfl rfl (cx_151 _ _ _ _) ?_; first | rw [if_pos (by assumption)] | rw [if_neg (by assumption)] | rw [if_pos (by decide)])
      | (refine sx_RU.call rfl rfl rfl rfl (cx_152 _ _ _ _) ?_; first | rw [if_pos (by assumption)] | rw [if_neg (by assumption)] | rw [if_pos (by decide)])
      | (refine sx_RU.call rfl rfl rfl rfl (cx_231 _ _ _ _) ?_; first | rw [if_pos (by assumption)] | rw [if_neg (by assumption)] | rw [if_pos (by decide)])
      | (refine sx_RU.call rfl rfl rfl rfl (cx_197 _ _ _ _) ?_; first | rw [if_pos (by assumption)] | rw [if_neg (by assumption)] | rw [if_pos (by decide)])
      | (refine sx_RU.call rfl rfl rfl rfl (cx_112 _ _ _ _) ?_; first | rw [if_pos (by assumption)] | rw [if_neg (by assumption)] | rw [if_pos (by decide)])
      | refine sx_RU.br rfl rfl (fun _ => ?_) (fun q => (of_decide_eq_false q (by assumption)).elim)
      | refine sx_RU.br rfl rfl (fun q => ((by assumption : ¬ _) (of_decide_eq_true q)).elim) (fun _ => ?_)
      | refine sx_RU.swo rfl (by assumption) rfl ?_)
  · repeat (first
      | refine sx_RU.step rfl rfl ?_
      | exact sx_RU.ret rfl rfl
      | refine sx_RU.call rfl rfl rfl rfl (cf_B _) ?_
      | refine sx_RU.call rfl rfl rfl rfl (cf_N _) ?_
      | refine sx_RU.call rfl rfl rfl rfl (cf_M _) ?_
      | refine sx_RU.call rfl rfl rfl rfl (cf_Z _) ?_
      | refine sx_RU.call rfl rfl rfl rfl (cn_B _) ?_
      | refine sx_RU.call rfl rfl rfl rfl (cn_N _) ?_
      | refine sx_RU.call rfl rfl rfl rfl (cn_M _) ?_
      | refine sx_RU.call rfl rfl rfl rfl (cn_Z _) ?_
      | refine sx_RU.call rfl rfl rfl rfl (cg_27 _ _) ?_
      | refine sx_RU.call rfl rfl rfl rfl (cg_66 _ _) ?_
      | refine sx_RU.call rfl rfl rfl rfl (cg_156 _ _) ?_
      | refine sx_RU.call rfl rfl rfl rfl (cg_186 _ _) ?_
      | (refine sx_RU.call rfl rfl rfl rfl (cx_7 _ _ _ _) ?_; first | rw [if_pos (by assumption)] | rw [if_neg (by assumption)] | rw [if_pos (by decide)])
      | (refine sx_RU.call rfl rfl rfl rfl (cx_8 _ _ _ _ _ _) ?_; first | rw [if_pos (by assumption)] | rw [if_neg (by assumption)] | rw [if_pos (by decide)])
      | (refine sx_RU.call rfl rfl rfl rfl (cx_22 _ _ _ _) ?_; first | rw [if_pos (by assumption)] | rw [if_neg (by assumption)] | rw [if_pos (by decide)])
      | (refine sx_RU.call rfl rfl rfl rfl (cx_23 _ _ _ _) ?_; first | rw [if_pos (by assumption)] | rw [if_neg (by assumption)] | rw [if_pos (by decide)])
      | (refine sx_RU.call rfl rfl rfl rfl (cx_131 _ _ _ _) ?_; first | rw [if_pos (by assumption)] | rw [if_neg (by assumption)] | rw [if_pos (by decide)])
      | (refine sx_RU.call rfl rfl rfl rfl (cx_132 _ _ _ _ _ _) ?_; first | rw [if_pos (by assumption)] | rw [if_neg (by assumption)] | rw [if_pos (by decide)])
      | (refine sx_RU.call rfl rfl rfl rfl (cx_151 _ _ _ _) ?_; first | rw [if_pos (by assumption)] | rw [if_neg (by assumption)] | rw [if_pos (by decide)])
      | (refine sx_RU.call rfl rfl rfl rfl (cx_152 _ _ _ _) ?_; first | rw [if_pos (by assumption)] | rw [if_neg (by assumption)] | rw [if_pos (by decide)])
      | (refine sx_RU.call rfl rfl rfl rfl (cx_231 _ _ _ _) ?_; first | rw [if_pos (by assumption)] | rw [if_neg (by assumption)] | rw [if_pos (by decide)])
      | (refine sx_RU.call rfl rfl rfl rfl (cx_197 _ _ _ _) ?_; first | rw [if_pos (by assumption)] | rw [if_neg (by assumption)] | rw [if_pos (by decide)])
      | (refine sx_RU.call rfl rfl rfl rfl (cx_112 _ _ _ _) ?_; first | rw [if_pos (by assumption)] | rw [if_neg (by assumption)] | rw [if_pos (by decide)])
      | refine sx_RU.br rfl rfl (fun _ => ?_) (fun q => (of_decide_eq_false q (by assumption)).elim)
      | refine sx_RU.br rfl rfl (fun q => ((by assumption : ¬ _) (of_decide_eq_true q)).elim) (fun _ => ?_)
      | refine sx_RU.swo rfl (by assumption) rfl ?_)
set_option maxRecDepth 20000 in
theorem k_hears (ys : List Int32) (a1 a2 : Int32) : sx_twoI ys 70 191 [.int a1, .int a2] := by
  refine ⟨(-1000000001), sx_vB, sx_vB2, _, rfl, ?_, ?_⟩
  · repeat (first
      | refine sx_RU.step rfl rfl ?_
      | exact sx_RU.ret rfl rfl
      | refine sx_RU.call rfl rfl rfl rfl (cf_B _) ?_
      | refine sx_RU.call rfl rfl rfl rfl (cf_N _) ?_
      | refine sx_RU.call rfl rfl rfl rfl (cf_M _) ?_
      | refine sx_RU.call rfl rfl rfl rfl (cf_Z _) ?_
      | refine sx_RU.call rfl rfl rfl rfl (cn_B _) ?_
      | refine sx_RU.call rfl rfl rfl rfl (cn_N _) ?_
      | refine sx_RU.call rfl rfl rfl rfl (cn_M _) ?_
      | refine sx_RU.call rfl rfl rfl rfl (cn_Z _) ?_
      | refine sx_RU.call rfl rfl rfl rfl (cg_27 _ _) ?_
      | refine sx_RU.call rfl rfl rfl rfl (cg_66 _ _) ?_
      | refine sx_RU.call rfl rfl rfl rfl (cg_156 _ _) ?_
      | refine sx_RU.call rfl rfl rfl rfl (cg_186 _ _) ?_
      | (refine sx_RU.call rfl rfl rfl rfl (cx_7 _ _ _ _) ?_; first | rw [if_pos (by assumption)] | rw [if_neg (by assumption)] | rw [if_pos (by decide)])
      | (refine sx_RU.call rfl rfl rfl rfl (cx_8 _ _ _ _ _ _) ?_; first | rw [if_pos (by assumption)] | rw [if_neg (by assumption)] | rw [if_pos (by decide)])
      | (refine sx_RU.call rfl rfl rfl rfl (cx_22 _ _ _ _) ?_; first | rw [if_pos (by assumption)] | rw [if_neg (by assumption)] | rw [if_pos (by decide)])
      | (refine sx_RU.call rfl rfl rfl rfl (cx_23 _ _ _ _) ?_; first | rw [if_pos (by assumption)] | rw [if_neg (by assumption)] | rw [if_pos (by decide)])
      | (refine sx_RU.call rfl rfl rfl rfl (cx_131 _ _ _ _) ?_; first | rw [if_pos (by assumption)] | rw [if_neg (by assumption)] | rw [if_pos (by decide)])
      | (refine sx_RU.call rfl rfl rfl rfl (cx_132 _ _ _ _ _ _) ?_; first | rw [if_pos (by assumption)] | rw [if_neg (by assumption)] | rw [if_pos (by decide)])
      | (refine sx_RU.call rfl rfl rfl rfl (cx_151 _ _ _ _) ?_; first | rw [if_pos (by assumption)] | rw [if_neg (by assumption)] | rw [if_pos (by decide)])
      | (refine sx_RU.call rfl rfl rfl rfl (cx_152 _ _ _ _) ?_; first | rw [if_pos (by assumption)] | rw [if_neg (by assumption)] | rw [if_pos (by decide)])
      | (refine sx_RU.call rfl rfl rfl rfl (cx_231 _ _ _ _) ?_; first | rw [if_pos (by assumption)] | rw [if_neg (by assumption)] | rw [if_pos (by decide)])
      | (refine sx_RU.call rfl rfl rfl rfl (cx_197 _ _ _ _) ?_; first | rw [if_pos (by assumption)] | rw [if_neg (by assumption)] | rw [if_pos (by decide)])
      | (refine sx_RU.call rfl rfl rfl rfl (cx_112 _ _ _ _) ?_; first | rw [if_pos (by assumption)] | rw [if_neg (by assumption)] | rw [if_pos (by decide)])
      | refine sx_RU.br rfl rfl (fun _ => ?_) (fun q => (of_decide_eq_false q (by assumption)).elim)
      | refine sx_RU.br rfl rfl (fun q => ((by assumption : ¬ _) (of_decide_eq_true q)).elim) (fun _ => ?_)
      | refine sx_RU.swo rfl (by assumption) rfl ?_)
  · repeat (first
      | refine sx_RU.step rfl rfl ?_
      | exact sx_RU.ret rfl rfl
      | refine sx_RU.call rfl rfl rfl rfl (cf_B _) ?_
      | refine sx_RU.call rfl rfl rfl rfl (cf_N _) ?_
      | refine sx_RU.call rfl rfl rfl rfl (cf_M _) ?_
      | refine sx_RU.call rfl rfl rfl rfl (cf_Z _) ?_
      | refine sx_RU.call rfl rfl rfl rfl (cn_B _) ?_
      | refine sx_RU.call rfl rfl rfl rfl (cn_N _) ?_
      | refine sx_RU.call rfl rfl rfl rfl (cn_M _) ?_
      | refine sx_RU.call rfl rfl rfl rfl (cn_Z _) ?_
      | refine sx_RU.call rfl rfl rfl rfl (cg_27 _ _) ?_
      | refine sx_RU.call rfl rfl rfl rfl (cg_66 _ _) ?_
      | refine sx_RU.call rfl rfl rfl rfl (cg_156 _ _) ?_
      | refine sx_RU.call rfl rfl rfl rfl (cg_186 _ _) ?_
      | (refine sx_RU.call rfl rfl rfl rfl (cx_7 _ _ _ _) ?_; first | rw [if_pos (by assumption)] | rw [if_neg (by assumption)] | rw [if_pos (by decide)])
      | (refine sx_RU.call rfl rfl rfl rfl (cx_8 _ _ _ _ _ _) ?_; first | rw [if_pos (by assumption)] | rw [if_neg (by assumption)] | rw [if_pos (by decide)])
      | (refine sx_RU.call rfl rfl rfl rfl (cx_22 _ _ _ _) ?_; first | rw [if_pos (by assumption)] | rw [if_neg (by assumption)] | rw [if_pos (by decide)])
      | (refine sx_RU.call rfl rfl rfl rfl (cx_23 _ _ _ _) ?_; first | rw [if_pos (by assumption)] | rw [if_neg (by assumption)] | rw [if_pos (by decide)])
      | (refine sx_RU.call rfl rfl rfl rfl (cx_131 _ _ _ _) ?_; first | rw [if_pos (by assumption)] | rw [if_neg (by assumption)] | rw [if_pos (by decide)])
      | (refine sx_RU.call rfl rfl rfl rfl (cx_132 _ _ _ _ _ _) ?_; first | rw [if_pos (by assumption)] | rw [if_neg (by assumption)] | rw [if_pos (by decide)])
      | (refine sx_RU.call rfl rfl rfl rfl (cx_151 _ _ _ _) ?_; first | rw [if_pos (by assumption)] | rw [if_neg (by assumption)] | rw [if_pos (by decide)])
      | (refine sx_RU.call rfl rfl rfl rfl (cx_152 _ _ _ _) ?_; first | rw [if_pos (by assumption)] | rw [if_neg (by assumption)] | rw [if_pos (by decide)])
      | (refine sx_RU.call rfl rfl rfl rfl (cx_231 _ _ _ _) ?_; first | rw [if_pos (by assumption)] | rw [if_neg (by assumption)] | rw [if_pos (by decide)])
      | (refine sx_RU.call rfl rfl rfl rfl (cx_197 _ _ _ _) ?_; first | rw [if_pos (by assumption)] | rw [if_neg (by assumption)] | rw [if_pos (by decide)])
      | (refine sx_RU.call rfl rfl rfl rfl (cx_112 _ _ _ _) ?_; first | rw [if_pos (by assumption)] | rw [if_neg (by assumption)] | rw [if_pos (by decide)])
      | refine sx_RU.br rfl rfl (fun _ => ?_) (fun q => (of_decide_eq_false q (by assumption)).elim)
      | refine sx_RU.br rfl rfl (fun q => ((by assumption : ¬ _) (of_decide_eq_true q)).elim) (fun _ => ?_)
      | refine sx_RU.swo rfl (by assumption) rfl ?_)
set_option maxRecDepth 20000 in
theorem k_ground_o0 (ys : List Int32) (a1 a2 : Int32) (n0 : ¬ (0 ≤ a1 ∧ a1 ≤ 47)) : sx_twoI ys 6 130 [.int a1, .int a2] := by
  refine ⟨(-1000000001), sx_vB, sx_vB2, _, rfl, ?_, ?_⟩
  · repeat (first
      | refine sx_RU.step rfl rfl ?_
      | exact sx_RU.ret rfl rfl
      | refine sx_RU.call rfl rfl rfl rfl (cf_B _) ?_
      | refine sx_RU.call rfl rfl rfl rfl (cf_N _) ?_
      | refine sx_RU.call rfl rfl rfl rfl (cf_M _) ?_
      | refine sx_RU.call rfl rfl rfl rfl (cf_Z _) ?_
      | refine sx_RU.call rfl rfl rfl rfl (cn_B _) ?_
      | refine sx_RU.call rfl rfl rfl rfl (cn_N _) ?_
      | refine sx_RU.call rfl rfl rfl rfl (cn_M _) ?_
      | refine sx_RU.call rfl rfl rfl rfl (cn_Z _) ?_
      | refine sx_RU.call rfl rfl rfl rfl (cg_27 _ _) ?_
      | refine sx_RU.call rfl rfl rfl rfl (cg_66 _ _) ?_
      | refine sx_RU.call rfl rfl rfl rfl (cg_156 _ _) ?_
      | refine sx_RU.call rfl rfl rfl rfl (cg_186 _ _) ?_
      | (refine sx_RU.call rfl rfl rfl rfl (cx_7 _ _ _ _) ?_; first | rw [if_pos (by assumption)] | rw [if_neg (by assumption)] | rw [if_pos (by decide)])
      | (refine sx_RU.call rfl rfl rfl rfl (cx_8 _ _ _ _ _ _) ?_; first | rw [if_pos (by assumption)] | rw [if_neg (by assumption)] | rw [if_pos (by decide)])
      | (refine sx_RU.call rfl rfl rfl rfl (cx_22 _ _ _ _) ?_; first | rw [if_pos (by assumption)] | rw [if_neg (by assumption)] | rw [if_pos (by decide)])
      | (refine sx_RU.call rfl rfl rfl rfl (cx_23 _ _ _ _) ?_; first | rw [if_pos (by assumption)] | rw [if_neg (by assumption)] | rw [if_pos (by decide)])
      | (refine sx_RU.call rfl rfl rfl rfl (cx_131 _ _ _ _) ?_; first | rw [if_pos (by assumption)] | rw [if_neg (by assumption)] | rw [if_pos (by decide)])
      | (refine sx_RU.call rfl rfl rfl rfl (cx_132 _ _ _ _ _ _) ?_; first | rw [if_pos (by assumption)] | rw [if_neg (by assumption)] | rw [if_pos (by decide)])
      | (refine sx_RU.call rfl rfl rfl rfl (cx_151 _ _ _ _) ?_; first | rw [if_pos (by assumption)] | rw [if_neg (by assumption)] | rw [if_pos (by decide)])
      | (refine sx_RU.call rfl rfl rfl rfl (cx_152 _ _ _ _) ?_; first | rw [if_pos (by assumption)] | rw [if_neg (by assumption)] | rw [if_pos (by decide)])
      | (refine sx_RU.call rfl rfl rfl rfl (cx_231 _ _ _ _) ?_; first | rw [if_pos (by assumption)] | rw [if_neg (by assumption)] | rw [if_pos (by decide)])
      | (refine sx_RU.call rfl rfl rfl rfl (cx_197 _ _ _ _) ?_; first | rw [if_pos (by assumption)] | rw [if_neg (by assumption)] | rw [if_pos (by decide)])
      | (refine sx_RU.call rfl rfl rfl rfl (cx_112 _ _ _ _) ?_; first | rw [if_pos (by assumption)] | rw [if_neg (by assumption)] | rw [if_pos (by decide)])
      | refine sx_RU.br rfl rfl (fun _ => ?_) (fun q => (of_decide_eq_false q (by assumption)).elim)
      | refine sx_RU.br rfl rfl (fun q => ((by assumption : ¬ _) (of_decide_eq_true q)).elim) (fun _ => ?_)
      | refine sx_RU.swo rfl (by assumption) rfl ?_)
  · repeat (first
      | refine sx_RU.step rfl rfl ?_
      | exact sx_RU.ret rfl rfl
      | refine sx_RU.call rfl rfl rfl rfl (cf_B _) ?_
      | refine sx_RU.call rfl rfl rfl rfl (cf_N _) ?_
      | refine sx_RU.call rfl rfl rfl rfl (cf_M _) ?_
      | refine sx_RU.call rfl rfl rfl rfl (cf_Z _) ?_
      | refine sx_RU.call rfl rfl rfl rfl (cn_B _) ?_
      | refine sx_RU.call rfl rfl rfl rfl (cn_N _) ?_
      | refine sx_RU.call rfl rfl rfl rfl (cn_M _) ?_
      | refine sx_RU.call rfl rfl rfl rfl (cn_Z _) ?_
      | refine sx_RU.call rfl rfl rfl rfl (cg_27 _ _) ?_
      | refine sx_RU.call rfl rfl rfl rfl (cg_66 _ _) ?_
      | refine sx_RU.call rfl rfl rfl rfl (cg_156 _ _) ?_
      | refine sx_RU.call rfl rfl rfl rfl (cg_186 _ _) ?_
      | (refine sx_RU.call rfl rfl rfl rfl (cx_7 _ _ _ _) ?_; first | rw [if_pos (by assumption)] | rw [if_neg (by assumption)] | rw [if_pos (by decide)])
      | (refine sx_RU.call rfl rfl rfl rfl (cx_8 _ _ _ _ _ _) ?_; first | rw [if_pos (by assumption)] | rw [if_neg (by assumption)] | rw [if_pos (by decide)])
      | (refine sx_RU.call rfl rfl rfl rfl (cx_22 _ _ _ _) ?_; first | rw [if_pos (by assumption)] | rw [if_neg (by assumption)] | rw [if_pos (by decide)])
      | (refine sx_RU.call rfl rfl rfl rfl (cx_23 _ _ _ _) ?_; first | rw [if_pos (by assumption)] | rw [if_neg (by assumption)] | rw [if_pos (by decide)])
      | (refine sx_RU.call rfl rfl rfl rfl (cx_131 _ _ _ _) ?_; first | rw [if_pos (by assumption)] | rw [if_neg (by assumption)] | rw [if_pos (by decide)])
      | (refine sx_RU.call rfl rfl rfl rfl (cx_132 _ _ _ _ _ _) ?_; first | rw [if_pos (by assumption)] | rw [if_neg (by assumption)] | rw [if_pos (by decide)])
      | (refine sx_RU.call rfl rfl rfl rfl (cx_151 _ _ _ _) ?_; first | rw [if_pos (by assumption)] | rw [if_neg (by assumption)] | rw [if_pos (by decide)])
      | (refine sx_RU.call rfl rfl rfl rfl (cx_152 _ _ _ _) ?_; first | rw [if_pos (by assumption)] | rw [if_neg (by assumption)] | rw [if_pos (by decide)])
      | (refine sx_RU.call rfl rfl rfl rfl (cx_231 _ _ _ _) ?_; first | rw [if_pos (by assumption)] | rw [if_neg (by assumption)] | rw [if_pos (by decide)])
      | (refine sx_RU.call rfl rfl rfl rfl (cx_197 _ _ _ _) ?_; first | rw [if_pos (by assumption)] | rw [if_neg (by assumption)] | rw [if_pos (by decide)])
      | (refine sx_RU.call rfl rfl rfl rfl (cx_112 _ _ _ _) ?_; first | rw [if_pos (by assumption)] | rw [if_neg (by assumption)] | rw [if_pos (by decide)])
      | refine sx_RU.br rfl rfl (fun _ => ?_) (fun q => (of_decide_eq_false q (by assumption)).elim)
      | refine sx_RU.br rfl rfl (fun q => ((by assumption : ¬ _) (of_decide_eq_true q)).elim) (fun _ => ?_)
      | refine sx_RU.swo rfl (by assumption) rfl ?_)
set_option maxRecDepth 20000 in
theorem k_ground_o1 (ys : List Int32) (a1 a2 : Int32) (p0 : (0 ≤ a1 ∧ a1 ≤ 47)) (n1 : ¬ (0 ≤ a2 ∧ a2 ≤ 3)) : sx_twoI ys 6 130 [.int a1, .int a2] := by
  refine ⟨(-1000000001), sx_vB, sx_vB2, _, rfl, ?_, ?_⟩
  · repeat (first
      | refine sx_RU.step rfl rfl ?_
      | exact sx_RU.ret rfl rfl
      | refine sx_RU.call rfl rfl rfl rfl (cf_B _) ?_
      | refine sx_RU.call rfl rfl rfl rfl (cf_N _) ?_
      | refine sx_RU.call rfl rfl rfl rfl (cf_M _) ?_
      | refine sx_RU.call rfl rfl rfl rfl (cf_Z _) ?_
      | refine sx_RU.call rfl rfl rfl rfl (cn_B _) ?_
      | refine sx_RU.call rfl rfl rfl rfl (cn_N _) ?_
      | refine sx_RU.call rfl rfl rfl rfl (cn_M _) ?_
      | refine sx_RU.call rfl rfl rfl rfl (cn_Z _) ?_
      | refine sx_RU.call rfl rfl rfl rfl (cg_27 _ _) ?_
      | refine sx_RU.call rfl rfl rfl rfl (cg_66 _ _) ?_
      | refine sx_RU.call rfl rfl rfl rfl (cg_156 _ _) ?_
      | refine sx_RU.call rfl rfl rfl rfl (cg_186 _ _) ?_
      | (refine sx_RU.call rfl rfl rfl rfl (cx_7 _ _ _ _) ?_; first | rw [if_pos (by assumption)] | rw [if_neg (by assumption)] | rw [if_pos (by decide)])
      | (refine sx_RU.call rfl rfl rfl rfl (cx_8 _ _ _ _ _ _) ?_; first | rw [if_pos (by assumption)] | rw [if_neg (by assumption)] | rw [if_pos (by decide)])
      | (refine sx_RU.call rfl rfl rfl rfl (cx_22 _ _ _ _) ?_; first | rw [if_pos (by assumption)] | rw [if_neg (by assumption)] | rw [if_pos (by decide)])
      | (refine sx_RU.call rfl rfl rfl rfl (cx_23 _ _ _ _) ?_; first | rw [if_pos (by assumption)] | rw [if_neg (by assumption)] | rw [if_pos (by decide)])
      | (refine sx_RU.call rfl rfl rfl rfl (cx_131 _ _ _ _) ?_; first | rw [if_pos (by assumption)] | rw [if_neg (by assumption)] | rw [if_pos (by decide)])
      | (refine sx_RU.call rfl rfl rfl rfl (cx_132 _ _ _ _ _ _) ?_; first | rw [if_pos (by assumption)] | rw [if_neg (by assumption)] | rw [if_pos (by decide)])
      | (refine sx_RU.call rfl rfl rfl rfl (cx_151 _ _ _ _) ?_; first | rw [if_pos (by assumption)] | rw [if_neg (by assumption)] | rw [if_pos (by decide)])
      | (refine sx_RU.call rfl rfl rfl rfl (cx_152 _ _ _ _) ?_; first | rw [if_pos (by assumption)] | rw [if_neg (by assumption)] | rw [if_pos (by decide)])
      | (refine sx_RU.call rfl rfl rfl rfl (cx_231 _ _ _ _) ?_; first | rw [if_pos (by assumption)] | rw [if_neg (by assumption)] | rw [if_pos (by decide)])
      | (refine sx_RU.call rfl rfl rfl rfl (cx_197 _ _ _ _) ?_; first | rw [if_pos (by assumption)] | rw [if_neg (by assumption)] | rw [if_pos (by decide)])
      | (refine sx_RU.call rfl rfl rfl rfl (cx_112 _ _ _ _) ?_; first | rw [if_pos (by assumption)] | rw [if_neg (by assumption)] | rw [if_pos (by decide)])
      | refine sx_RU.br rfl rfl (fun _ => ?_) (fun q => (of_decide_eq_false q (by assumption)).elim)
      | refine sx_RU.br rfl rfl (fun q => ((by assumption : ¬ _) (of_decide_eq_true q)).elim) (fun _ => ?_)
      | refine sx_RU.swo rfl (by assumption) rfl ?_)
  · repeat (first
      | refine sx_RU.step rfl rfl ?_
      | exact sx_RU.ret rfl rfl
      | refine sx_RU.call rfl rfl rfl rfl (cf_B _) ?_
      | refine sx_RU.call rfl rfl rfl rfl (cf_N _) ?_
      | refine sx_RU.call rfl rfl rfl rfl (cf_M _) ?_
      | refine sx_RU.call rfl rfl rfl rfl (cf_Z _) ?_
      | refine sx_RU.call rfl rfl rfl rfl (cn_B _) ?_
      | refine sx_RU.call rfl rfl rfl rfl (cn_N _) ?_
      | refine sx_RU.call rfl rfl rfl rfl (cn_M _) ?_
      | refine sx_RU.call rfl rfl rfl rfl (cn_Z _) ?_
      | refine sx_RU.call rfl rfl rfl rfl (cg_27 _ _) ?_
      | refine sx_RU.call rfl rfl rfl rfl (cg_66 _ _) ?_
      | refine sx_RU.call rfl rfl rfl rfl (cg_156 _ _) ?_
      | refine sx_RU.call rfl rfl rfl rfl (cg_186 _ _) ?_
      | (refine sx_RU.call rfl rfl rfl rfl (cx_7 _ _ _ _) ?_; first | rw [if_pos (by assumption)] | rw [if_neg (by assumption)] | rw [if_pos (by decide)])
      | (refine sx_RU.call rfl rfl rfl rfl (cx_8 _ _ _ _ _ _) ?_; first | rw [if_pos (by assumption)] | rw [if_neg (by assumption)] | rw [if_pos (by decide)])
      | (refine sx_RU.call rfl rfl rfl rfl (cx_22 _ _ _ _) ?_; first | rw [if_pos (by assumption)] | rw [if_neg (by assumption)] | rw [if_pos (by decide)])
      | (refine sx_RU.call rfl rfl rfl rfl (cx_23 _ _ _ _) ?_; first | rw [if_pos (by assumption)] | rw [if_neg (by assumption)] | rw [if_pos (by decide)])
      | (refine sx_RU.call rfl rfl rfl rfl (cx_131 _ _ _ _) ?_; first | rw [if_pos (by assumption)] | rw [if_neg (by assumption)] | rw [if_pos (by decide)])
      | (refine sx_RU.call rfl rfl rfl rfl (cx_132 _ _ _ _ _ _) ?_; first | rw [if_pos (by assumption)] | rw [if_neg (by assumption)] | rw [if_pos (by decide)])
      | (refine sx_RU.call rfl rfl rfl rfl (cx_151 _ _ _ _) ?_; first | rw [if_pos (by assumption)] | rw [if_neg (by assumption)] | rw [if_pos (by decide)])
      | (refine sx_RU.call rfl rfl rfl rfl (cx_152 _ _ _ _) ?_; first | rw [if_pos (by assumption)] | rw [if_neg (by assumption)] | rw [if_pos (by decide)])
      | (refine sx_RU.call rfl rfl rfl rfl (cx_231 _ _ _ _) ?_; first | rw [if_pos (by assumption)] | rw [if_neg (by assumption)] | rw [if_pos (by decide)])
      | (refine sx_RU.call rfl rfl rfl rfl (cx_197 _ _ _ _) ?_; first | rw [if_pos (by assumption)] | rw [if_neg (by assumption)] | rw [if_pos (by decide)])
      | (refine sx_RU.call rfl rfl rfl rfl (cx_112 _ _ _ _) ?_; first | rw [if_pos (by assumption)] | rw [if_neg (by assumption)] | rw [if_pos (by decide)])
      | refine sx_RU.br rfl rfl (fun _ => ?_) (fun q => (of_decide_eq_false q (by assumption)).elim)
      | refine sx_RU.br rfl rfl (fun q => ((by assumption : ¬ _) (of_decide_eq_true q)).elim) (fun _ => ?_)
      | refine sx_RU.swo rfl (by assumption) rfl ?_)
set_option maxRecDepth 20000 in
theorem k_cellOf_o0 (ys : List Int32) (a1 a2 : Int32) (n0 : ¬ (0 ≤ a1 ∧ a1 ≤ 47)) : sx_twoI ys 12 135 [.int a1, .int a2] := by
  refine ⟨(-1000000001), sx_vB, sx_vB2, _, rfl, ?_, ?_⟩
  · repeat (first
      | refine sx_RU.step rfl rfl ?_
      | exact sx_RU.ret rfl rfl
      | refine sx_RU.call rfl rfl rfl rfl (cf_B _) ?_
      | refine sx_RU.call rfl rfl rfl rfl (cf_N _) ?_
      | refine sx_RU.call rfl rfl rfl rfl (cf_M _) ?_
      | refine sx_RU.call rfl rfl rfl rfl (cf_Z _) ?_
      | refine sx_RU.call rfl rfl rfl rfl (cn_B _) ?_
      | refine sx_RU.call rfl rfl rfl rfl (cn_N _) ?_
      | refine sx_RU.call rfl rfl rfl rfl (cn_M _) ?_
      | refine sx_RU.call rfl rfl rfl rfl (cn_Z _) ?_
      | refine sx_RU.call rfl rfl rfl rfl (cg_27 _ _) ?_
      | refine sx_RU.call rfl rfl rfl rfl (cg_66 _ _) ?_
      | refine sx_RU.call rfl rfl rfl rfl (cg_156 _ _) ?_
      | refine sx_RU.call rfl rfl rfl rfl (cg_186 _ _) ?_
      | (refine sx_RU.call rfl rfl rfl rfl (cx_7 _ _ _ _) ?_; first | rw [if_pos (by assumption)] | rw [if_neg (by assumption)] | rw [if_pos (by decide)])
      | (refine sx_RU.call rfl rfl rfl rfl (cx_8 _ _ _ _ _ _) ?_; first | rw [if_pos (by assumption)] | rw [if_neg (by assumption)] | rw [if_pos (by decide)])
      | (refine sx_RU.call rfl rfl rfl rfl (cx_22 _ _ _ _) ?_; first | rw [if_pos (by assumption)] | rw [if_neg (by assumption)] | rw [if_pos (by decide)])
      | (refine sx_RU.call rfl rfl rfl rfl (cx_23 _ _ _ _) ?_; first | rw [if_pos (by assumption)] | rw [if_neg (by assumption)] | rw [if_pos (by decide)])
      | (refine sx_RU.call rfl rfl rfl rfl (cx_131 _ _ _ _) ?_; first | rw [if_pos (by assumption)] | rw [if_neg (by assumption)] | rw [if_pos (by decide)])
      | (refine sx_RU.call rfl rfl rfl rfl (cx_132 _ _ _ _ _ _) ?_; first | rw [if_pos (by assumption)] | rw [if_neg (by assumption)] | rw [if_pos (by decide)])
      | (refine sx_RU.call rfl rfl rfl rfl (cx_151 _ _ _ _) ?_; first | rw [if_pos (by assumption)] | rw [if_neg (by assumption)] | rw [if_pos (by decide)])
      | (refine sx_RU.call rfl rfl rfl rfl (cx_152 _ _ _ _) ?_; first | rw [if_pos (by assumption)] | rw [if_neg (by assumption)] | rw [if_pos (by decide)])
      | (refine sx_RU.call rfl rfl rfl rfl (cx_231 _ _ _ _) ?_; first | rw [if_pos (by assumption)] | rw [if_neg (by assumption)] | rw [if_pos (by decide)])
      | (refine sx_RU.call rfl rfl rfl rfl (cx_197 _ _ _ _) ?_; first | rw [if_pos (by assumption)] | rw [if_neg (by assumption)] | rw [if_pos (by decide)])
      | (refine sx_RU.call rfl rfl rfl rfl (cx_112 _ _ _ _) ?_; first | rw [if_pos (by assumption)] | rw [if_neg (by assumption)] | rw [if_pos (by decide)])
      | refine sx_RU.br rfl rfl (fun _ => ?_) (fun q => (of_decide_eq_false q (by assumption)).elim)
      | refine sx_RU.br rfl rfl (fun q => ((by assumption : ¬ _) (of_decide_eq_true q)).elim) (fun _ => ?_)
      | refine sx_RU.swo rfl (by assumption) rfl ?_)
  · repeat (first
      | refine sx_RU.step rfl rfl ?_
      | exact sx_RU.ret rfl rfl
      | refine sx_RU.call rfl rfl rfl rfl (cf_B _) ?_
      | refine sx_RU.call rfl rfl rfl rfl (cf_N _) ?_
      | refine sx_RU.call rfl rfl rfl rfl (cf_M _) ?_
      | refine sx_RU.call rfl rfl rfl rfl (cf_Z _) ?_
      | refine sx_RU.call rfl rfl rfl rfl (cn_B _) ?_
      | refine sx_RU.call rfl rfl rfl rfl (cn_N _) ?_
      | refine sx_RU.call rfl rfl rfl rfl (cn_M _) ?_
      | refine sx_RU.call rfl rfl rfl rfl (cn_Z _) ?_
      | refine sx_RU.call rfl rfl rfl rfl (cg_27 _ _) ?_
      | refine sx_RU.call rfl rfl rfl rfl (cg_66 _ _) ?_
      | refine sx_RU.call rfl rfl rfl rfl (cg_156 _ _) ?_
      | refine sx_RU.call rfl rfl rfl rfl (cg_186 _ _) ?_
      | (refine sx_RU.call rfl rfl rfl rfl (cx_7 _ _ _ _) ?_; first | rw [if_pos (by assumption)] | rw [if_neg (by assumption)] | rw [if_pos (by decide)])
      | (refine sx_RU.call rfl rfl rfl rfl (cx_8 _ _ _ _ _ _) ?_; first | rw [if_pos (by assumption)] | rw [if_neg (by assumption)] | rw [if_pos (by decide)])
      | (refine sx_RU.call rfl rfl rfl rfl (cx_22 _ _ _ _) ?_; first | rw [if_pos (by assumption)] | rw [if_neg (by assumption)] | rw [if_pos (by decide)])
      | (refine sx_RU.call rfl rfl rfl rfl (cx_23 _ _ _ _) ?_; first | rw [if_pos (by assumption)] | rw [if_neg (by assumption)] | rw [if_pos (by decide)])
      | (refine sx_RU.call rfl rfl rfl rfl (cx_131 _ _ _ _) ?_; first | rw [if_pos (by assumption)] | rw [if_neg (by assumption)] | rw [if_pos (by decide)])
      | (refine sx_RU.call rfl rfl rfl rfl (cx_132 _ _ _ _ _ _) ?_; first | rw [if_pos (by assumption)] | rw [if_neg (by assumption)] | rw [if_pos (by decide)])
      | (refine sx_RU.call rfl rfl rfl rfl (cx_151 _ _ _ _) ?_; first | rw [if_pos (by assumption)] | rw [if_neg (by assumption)] | rw [if_pos (by decide)])
      | (refine sx_RU.call rfl rfl rfl rfl (cx_152 _ _ _ _) ?_; first | rw [if_pos (by assumption)] | rw [if_neg (by assumption)] | rw [if_pos (by decide)])
      | (refine sx_RU.call rfl rfl rfl rfl (cx_231 _ _ _ _) ?_; first | rw [if_pos (by assumption)] | rw [if_neg (by assumption)] | rw [if_pos (by decide)])
      | (refine sx_RU.call rfl rfl rfl rfl (cx_197 _ _ _ _) ?_; first | rw [if_pos (by assumption)] | rw [if_neg (by assumption)] | rw [if_pos (by decide)])
      | (refine sx_RU.call rfl rfl rfl rfl (cx_112 _ _ _ _) ?_; first | rw [if_pos (by assumption)] | rw [if_neg (by assumption)] | rw [if_pos (by decide)])
      | refine sx_RU.br rfl rfl (fun _ => ?_) (fun q => (of_decide_eq_false q (by assumption)).elim)
      | refine sx_RU.br rfl rfl (fun q => ((by assumption : ¬ _) (of_decide_eq_true q)).elim) (fun _ => ?_)
      | refine sx_RU.swo rfl (by assumption) rfl ?_)
set_option maxRecDepth 20000 in
theorem k_far_o0 (ys : List Int32) (a1 a2 : Int32) (n0 : ¬ (0 ≤ a1 ∧ a1 ≤ 47)) : sx_twoI ys 15 140 [.int a1, .int a2] := by
  refine ⟨(-1000000001), sx_vB, sx_vB2, _, rfl, ?_, ?_⟩
  · repeat (first
      | refine sx_RU.step rfl rfl ?_
      | exact sx_RU.ret rfl rfl
      | refine sx_RU.call rfl rfl rfl rfl (cf_B _) ?_
      | refine sx_RU.call rfl rfl rfl rfl (cf_N _) ?_
      | refine sx_RU.call rfl rfl rfl rfl (cf_M _) ?_
      | refine sx_RU.call rfl rfl rfl rfl (cf_Z _) ?_
      | refine sx_RU.call rfl rfl rfl rfl (cn_B _) ?_
      | refine sx_RU.call rfl rfl rfl rfl (cn_N _) ?_
      | refine sx_RU.call rfl rfl rfl rfl (cn_M _) ?_
      | refine sx_RU.call rfl rfl rfl rfl (cn_Z _) ?_
      | refine sx_RU.call rfl rfl rfl rfl (cg_27 _ _) ?_
      | refine sx_RU.call rfl rfl rfl rfl (cg_66 _ _) ?_
      | refine sx_RU.call rfl rfl rfl rfl (cg_156 _ _) ?_
      | refine sx_RU.call rfl rfl rfl rfl (cg_186 _ _) ?_
      | (refine sx_RU.call rfl rfl rfl rfl (cx_7 _ _ _ _) ?_; first | rw [if_pos (by assumption)] | rw [if_neg (by assumption)] | rw [if_pos (by decide)])
      | (refine sx_RU.call rfl rfl rfl rfl (cx_8 _ _ _ _ _ _) ?_; first | rw [if_pos (by assumption)] | rw [if_neg (by assumption)] | rw [if_pos (by decide)])
      | (refine sx_RU.call rfl rfl rfl rfl (cx_22 _ _ _ _) ?_; first | rw [if_pos (by assumption)] | rw [if_neg (by assumption)] | rw [if_pos (by decide)])
      | (refine sx_RU.call rfl rfl rfl rfl (cx_23 _ _ _ _) ?_; first | rw [if_pos (by assumption)] | rw [if_neg (by assumption)] | rw [if_pos (by decide)])
      | (refine sx_RU.call rfl rfl rfl rfl (cx_131 _ _ _ _) ?_; first | rw [if_pos (by assumption)] | rw [if_neg (by assumption)] | rw [if_pos (by decide)])
      | (refine sx_RU.call rfl rfl rfl rfl (cx_132 _ _ _ _ _ _) ?_; first | rw [if_pos (by assumption)] | rw [if_neg (by assumption)] | rw [if_pos (by decide)])
      | (refine sx_RU.call rfl rfl rfl rfl (cx_151 _ _ _ _) ?_; first | rw [if_pos (by assumption)] | rw [if_neg (by assumption)] | rw [if_pos (by decide)])
      | (refine sx_RU.call rfl rfl rfl rfl (cx_152 _ _ _ _) ?_; first | rw [if_pos (by assumption)] | rw [if_neg (by assumption)] | rw [if_pos (by decide)])
      | (refine sx_RU.call rfl rfl rfl rfl (cx_231 _ _ _ _) ?_; first | rw [if_pos (by assumption)] | rw [if_neg (by assumption)] | rw [if_pos (by decide)])
      | (refine sx_RU.call rfl rfl rfl rfl (cx_197 _ _ _ _) ?_; first | rw [if_pos (by assumption)] | rw [if_neg (by assumption)] | rw [if_pos (by decide)])
      | (refine sx_RU.call rfl rfl rfl rfl (cx_112 _ _ _ _) ?_; first | rw [if_pos (by assumption)] | rw [if_neg (by assumption)] | rw [if_pos (by decide)])
      | refine sx_RU.br rfl rfl (fun _ => ?_) (fun q => (of_decide_eq_false q (by assumption)).elim)
      | refine sx_RU.br rfl rfl (fun q => ((by assumption : ¬ _) (of_decide_eq_true q)).elim) (fun _ => ?_)
      | refine sx_RU.swo rfl (by assumption) rfl ?_)
  · repeat (first
      | refine sx_RU.step rfl rfl ?_
      | exact sx_RU.ret rfl rfl
      | refine sx_RU.call rfl rfl rfl rfl (cf_B _) ?_
      | refine sx_RU.call rfl rfl rfl rfl (cf_N _) ?_
      | refine sx_RU.call rfl rfl rfl rfl (cf_M _) ?_
      | refine sx_RU.call rfl rfl rfl rfl (cf_Z _) ?_
      | refine sx_RU.call rfl rfl rfl rfl (cn_B _) ?_
      | refine sx_RU.call rfl rfl rfl rfl (cn_N _) ?_
      | refine sx_RU.call rfl rfl rfl rfl (cn_M _) ?_
      | refine sx_RU.call rfl rfl rfl rfl (cn_Z _) ?_
      | refine sx_RU.call rfl rfl rfl rfl (cg_27 _ _) ?_
      | refine sx_RU.call rfl rfl rfl rfl (cg_66 _ _) ?_
      | refine sx_RU.call rfl rfl rfl rfl (cg_156 _ _) ?_
      | refine sx_RU.call rfl rfl rfl rfl (cg_186 _ _) ?_
      | (refine sx_RU.call rfl rfl rfl rfl (cx_7 _ _ _ _) ?_; first | rw [if_pos (by assumption)] | rw [if_neg (by assumption)] | rw [if_pos (by decide)])
      | (refine sx_RU.call rfl rfl rfl rfl (cx_8 _ _ _ _ _ _) ?_; first | rw [if_pos (by assumption)] | rw [if_neg (by assumption)] | rw [if_pos (by decide)])
      | (refine sx_RU.call rfl rfl rfl rfl (cx_22 _ _ _ _) ?_; first | rw [if_pos (by assumption)] | rw [if_neg (by assumption)] | rw [if_pos (by decide)])
      | (refine sx_RU.call rfl rfl rfl rfl (cx_23 _ _ _ _) ?_; first | rw [if_pos (by assumption)] | rw [if_neg (by assumption)] | rw [if_pos (by decide)])
      | (refine sx_RU.call rfl rfl rfl rfl (cx_131 _ _ _ _) ?_; first | rw [if_pos (by assumption)] | rw [if_neg (by assumption)] | rw [if_pos (by decide)])
      | (refine sx_RU.call rfl rfl rfl rfl (cx_132 _ _ _ _ _ _) ?_; first | rw [if_pos (by assumption)] | rw [if_neg (by assumption)] | rw [if_pos (by decide)])
      | (refine sx_RU.call rfl rfl rfl rfl (cx_151 _ _ _ _) ?_; first | rw [if_pos (by assumption)] | rw [if_neg (by assumption)] | rw [if_pos (by decide)])
      | (refine sx_RU.call rfl rfl rfl rfl (cx_152 _ _ _ _) ?_; first | rw [if_pos (by assumption)] | rw [if_neg (by assumption)] | rw [if_pos (by decide)])
      | (refine sx_RU.call rfl rfl rfl rfl (cx_231 _ _ _ _) ?_; first | rw [if_pos (by assumption)] | rw [if_neg (by assumption)] | rw [if_pos (by decide)])
      | (refine sx_RU.call rfl rfl rfl rfl (cx_197 _ _ _ _) ?_; first | rw [if_pos (by assumption)] | rw [if_neg (by assumption)] | rw [if_pos (by decide)])
      | (refine sx_RU.call rfl rfl rfl rfl (cx_112 _ _ _ _) ?_; first | rw [if_pos (by assumption)] | rw [if_neg (by assumption)] | rw [if_pos (by decide)])
      | refine sx_RU.br rfl rfl (fun _ => ?_) (fun q => (of_decide_eq_false q (by assumption)).elim)
      | refine sx_RU.br rfl rfl (fun q => ((by assumption : ¬ _) (of_decide_eq_true q)).elim) (fun _ => ?_)
      | refine sx_RU.swo rfl (by assumption) rfl ?_)
set_option maxRecDepth 20000 in
theorem k_far_o1 (ys : List Int32) (a1 a2 : Int32) (p0 : (0 ≤ a1 ∧ a1 ≤ 47)) (n1 : ¬ (0 ≤ a2 ∧ a2 ≤ 47)) : sx_twoI ys 15 140 [.int a1, .int a2] := by
  refine ⟨(-1000000001), sx_vB, sx_vB2, _, rfl, ?_, ?_⟩
  · repeat (first
      | refine sx_RU.step rfl rfl ?_
      | exact sx_RU.ret rfl rfl
      | refine sx_RU.call rfl rfl rfl rfl (cf_B _) ?_
      | refine sx_RU.call rfl rfl rfl rfl (cf_N _) ?_
      | refine sx_RU.call rfl rfl rfl rfl (cf_M _) ?_
      | refine sx_RU.call rfl rfl rfl rfl (cf_Z _) ?_
      | refine sx_RU.call rfl rfl rfl rfl (cn_B _) ?_
      | refine sx_RU.call rfl rfl rfl rfl (cn_N _) ?_
      | refine sx_RU.call rfl rfl rfl rfl (cn_M _) ?_
      | refine sx_RU.call rfl rfl rfl rfl (cn_Z _) ?_
      | refine sx_RU.call rfl rfl rfl rfl (cg_27 _ _) ?_
      | refine sx_RU.call rfl rfl rfl rfl (cg_66 _ _) ?_
      | refine sx_RU.call rfl rfl rfl rfl (cg_156 _ _) ?_
      | refine sx_RU.call rfl rfl rfl rfl (cg_186 _ _) ?_
      | (refine sx_RU.call rfl rfl rfl rfl (cx_7 _ _ _ _) ?_; first | rw [if_pos (by assumption)] | rw [if_neg (by assumption)] | rw [if_pos (by decide)])
      | (refine sx_RU.call rfl rfl rfl rfl (cx_8 _ _ _ _ _ _) ?_; first | rw [if_pos (by assumption)] | rw [if_neg (by assumption)] | rw [if_pos (by decide)])
      | (refine sx_RU.call rfl rfl rfl rfl (cx_22 _ _ _ _) ?_; first | rw [if_pos (by assumption)] | rw [if_neg (by assumption)] | rw [if_pos (by decide)])
      | (refine sx_RU.call rfl rfl rfl rfl (cx_23 _ _ _ _) ?_; first | rw [if_pos (by assumption)] | rw [if_neg (by assumption)] | rw [if_pos (by decide)])
      | (refine sx_RU.call rfl rfl rfl rfl (cx_131 _ _ _ _) ?_; first | rw [if_pos (by assumption)] | rw [if_neg (by assumption)] | rw [if_pos (by decide)])
      | (refine sx_RU.call rfl rfl rfl rfl (cx_132 _ _ _ _ _ _) ?_; first | rw [if_pos (by assumption)] | rw [if_neg (by assumption)] | rw [if_pos (by decide)])
      | (refine sx_RU.call rfl rfl rfl rfl (cx_151 _ _ _ _) ?_; first | rw [if_pos (by assumption)] | rw [if_neg (by assumption)] | rw [if_pos (by decide)])
      | (refine sx_RU.call rfl rfl rfl rfl (cx_152 _ _ _ _) ?_; first | rw [if_pos (by assumption)] | rw [if_neg (by assumption)] | rw [if_pos (by decide)])
      | (refine sx_RU.call rfl rfl rfl rfl (cx_231 _ _ _ _) ?_; first | rw [if_pos (by assumption)] | rw [if_neg (by assumption)] | rw [if_pos (by decide)])
      | (refine sx_RU.call rfl rfl rfl rfl (cx_197 _ _ _ _) ?_; first | rw [if_pos (by assumption)] | rw [if_neg (by assumption)] | rw [if_pos (by decide)])
      | (refine sx_RU.call rfl rfl rfl rfl (cx_112 _ _ _ _) ?_; first | rw [if_pos (by assumption)] | rw [if_neg (by assumption)] | rw [if_pos (by decide)])
      | refine sx_RU.br rfl rfl (fun _ => ?_) (fun q => (of_decide_eq_false q (by assumption)).elim)
      | refine sx_RU.br rfl rfl (fun q => ((by assumption : ¬ _) (of_decide_eq_true q)).elim) (fun _ => ?_)
      | refine sx_RU.swo rfl (by assumption) rfl ?_)
  · repeat (first
      | refine sx_RU.step rfl rfl ?_
      | exact sx_RU.ret rfl rfl
      | refine sx_RU.call rfl rfl rfl rfl (cf_B _) ?_
      | refine sx_RU.call rfl rfl rfl rfl (cf_N _) ?_
      | refine sx_RU.call rfl rfl rfl rfl (cf_M _) ?_
      | refine sx_RU.call rfl rfl rfl rfl (cf_Z _) ?_
      | refine sx_RU.call rfl rfl rfl rfl (cn_B _) ?_
      | refine sx_RU.call rfl rfl rfl rfl (cn_N _) ?_
      | refine sx_RU.call rfl rfl rfl rfl (cn_M _) ?_
      | refine sx_RU.call rfl rfl rfl rfl (cn_Z _) ?_
      | refine sx_RU.call rfl rfl rfl rfl (cg_27 _ _) ?_
      | refine sx_RU.call rfl rfl rfl rfl (cg_66 _ _) ?_
      | refine sx_RU.call rfl rfl rfl rfl (cg_156 _ _) ?_
      | refine sx_RU.call rfl rfl rfl rfl (cg_186 _ _) ?_
      | (refine sx_RU.call rfl rfl rfl rfl (cx_7 _ _ _ _) ?_; first | rw [if_pos (by assumption)] | rw [if_neg (by assumption)] | rw [if_pos (by decide)])
      | (refine sx_RU.call rfl rfl rfl rfl (cx_8 _ _ _ _ _ _) ?_; first | rw [if_pos (by assumption)] | rw [if_neg (by assumption)] | rw [if_pos (by decide)])
      | (refine sx_RU.call rfl rfl rfl rfl (cx_22 _ _ _ _) ?_; first | rw [if_pos (by assumption)] | rw [if_neg (by assumption)] | rw [if_pos (by decide)])
      | (refine sx_RU.call rfl rfl rfl rfl (cx_23 _ _ _ _) ?_; first | rw [if_pos (by assumption)] | rw [if_neg (by assumption)] | rw [if_pos (by decide)])
      | (refine sx_RU.call rfl rfl rfl rfl (cx_131 _ _ _ _) ?_; first | rw [if_pos (by assumption)] | rw [if_neg (by assumption)] | rw [if_pos (by decide)])
      | (refine sx_RU.call rfl rfl rfl rfl (cx_132 _ _ _ _ _ _) ?_; first | rw [if_pos (by assumption)] | rw [if_neg (by assumption)] | rw [if_pos (by decide)])
      | (refine sx_RU.call rfl rfl rfl rfl (cx_151 _ _ _ _) ?_; first | rw [if_pos (by assumption)] | rw [if_neg (by assumption)] | rw [if_pos (by decide)])
      | (refine sx_RU.call rfl rfl rfl rfl (cx_152 _ _ _ _) ?_; first | rw [if_pos (by assumption)] | rw [if_neg (by assumption)] | rw [if_pos (by decide)])
      | (refine sx_RU.call rfl rfl rfl rfl (cx_231 _ _ _ _) ?_; first | rw [if_pos (by assumption)] | rw [if_neg (by assumption)] | rw [if_pos (by decide)])
      | (refine sx_RU.call rfl rfl rfl rfl (cx_197 _ _ _ _) ?_; first | rw [if_pos (by assumption)] | rw [if_neg (by assumption)] | rw [if_pos (by decide)])
      | (refine sx_RU.call rfl rfl rfl rfl (cx_112 _ _ _ _) ?_; first | rw [if_pos (by assumption)] | rw [if_neg (by assumption)] | rw [if_pos (by decide)])
      | refine sx_RU.br rfl rfl (fun _ => ?_) (fun q => (of_decide_eq_false q (by assumption)).elim)
      | refine sx_RU.br rfl rfl (fun q => ((by assumption : ¬ _) (of_decide_eq_true q)).elim) (fun _ => ?_)
      | refine sx_RU.swo rfl (by assumption) rfl ?_)
set_option maxRecDepth 20000 in
theorem k_gallery_o0 (ys : List Int32) (a1 a2 a3 a4 : Int32) (n0 : ¬ (0 ≤ a1 ∧ a1 ≤ 5)) : sx_twoI ys 21 150 [.int a1, .int a2, .int a3, .int a4] := by
  refine ⟨(-1000000001), sx_vB, sx_vB2, _, rfl, ?_, ?_⟩
  · repeat (first
      | refine sx_RU.step rfl rfl ?_
      | exact sx_RU.ret rfl rfl
      | refine sx_RU.call rfl rfl rfl rfl (cf_B _) ?_
      | refine sx_RU.call rfl rfl rfl rfl (cf_N _) ?_
      | refine sx_RU.call rfl rfl rfl rfl (cf_M _) ?_
      | refine sx_RU.call rfl rfl rfl rfl (cf_Z _) ?_
      | refine sx_RU.call rfl rfl rfl rfl (cn_B _) ?_
      | refine sx_RU.call rfl rfl rfl rfl (cn_N _) ?_
      | refine sx_RU.call rfl rfl rfl rfl (cn_M _) ?_
      | refine sx_RU.call rfl rfl rfl rfl (cn_Z _) ?_
      | refine sx_RU.call rfl rfl rfl rfl (cg_27 _ _) ?_
      | refine sx_RU.call rfl rfl rfl rfl (cg_66 _ _) ?_
      | refine sx_RU.call rfl rfl rfl rfl (cg_156 _ _) ?_
      | refine sx_RU.call rfl rfl rfl rfl (cg_186 _ _) ?_
      | (refine sx_RU.call rfl rfl rfl rfl (cx_7 _ _ _ _) ?_; first | rw [if_pos (by assumption)] | rw [if_neg (by assumption)] | rw [if_pos (by decide)])
      | (refine sx_RU.call rfl rfl rfl rfl (cx_8 _ _ _ _ _ _) ?_; first | rw [if_pos (by assumption)] | rw [if_neg (by assumption)] | rw [if_pos (by decide)])
      | (refine sx_RU.call rfl rfl rfl rfl (cx_22 _ _ _ _) ?_; first | rw [if_pos (by assumption)] | rw [if_neg (by assumption)] | rw [if_pos (by decide)])
      | (refine sx_RU.call rfl rfl rfl rfl (cx_23 _ _ _ _) ?_; first | rw [if_pos (by assumption)] | rw [if_neg (by assumption)] | rw [if_pos (by decide)])
      | (refine sx_RU.call rfl rfl rfl rfl (cx_131 _ _ _ _) ?_; first | rw [if_pos (by assumption)] | rw [if_neg (by assumption)] | rw [if_pos (by decide)])
      | (refine sx_RU.call rfl rfl rfl rfl (cx_132 _ _ _ _ _ _) ?_; first | rw [if_pos (by assumption)] | rw [if_neg (by assumption)] | rw [if_pos (by decide)])
      | (refine sx_RU.call rfl rfl rfl rfl (cx_151 _ _ _ _) ?_; first | rw [if_pos (by assumption)] | rw [if_neg (by assumption)] | rw [if_pos (by decide)])
      | (refine sx_RU.call rfl rfl rfl rfl (cx_152 _ _ _ _) ?_; first | rw [if_pos (by assumption)] | rw [if_neg (by assumption)] | rw [if_pos (by decide)])
      | (refine sx_RU.call rfl rfl rfl rfl (cx_231 _ _ _ _) ?_; first | rw [if_pos (by assumption)] | rw [if_neg (by assumption)] | rw [if_pos (by decide)])
      | (refine sx_RU.call rfl rfl rfl rfl (cx_197 _ _ _ _) ?_; first | rw [if_pos (by assumption)] | rw [if_neg (by assumption)] | rw [if_pos (by decide)])
      | (refine sx_RU.call rfl rfl rfl rfl (cx_112 _ _ _ _) ?_; first | rw [if_pos (by assumption)] | rw [if_neg (by assumption)] | rw [if_pos (by decide)])
      | refine sx_RU.br rfl rfl (fun _ => ?_) (fun q => (of_decide_eq_false q (by assumption)).elim)
      | refine sx_RU.br rfl rfl (fun q => ((by assumption : ¬ _) (of_decide_eq_true q)).elim) (fun _ => ?_)
      | refine sx_RU.swo rfl (by assumption) rfl ?_)
  · repeat (first
      | refine sx_RU.step rfl rfl ?_
      | exact sx_RU.ret rfl rfl
      | refine sx_RU.call rfl rfl rfl rfl (cf_B _) ?_
      | refine sx_RU.call rfl rfl rfl rfl (cf_N _) ?_
      | refine sx_RU.call rfl rfl rfl rfl (cf_M _) ?_
      | refine sx_RU.call rfl rfl rfl rfl (cf_Z _) ?_
      | refine sx_RU.call rfl rfl rfl rfl (cn_B _) ?_
      | refine sx_RU.call rfl rfl rfl rfl (cn_N _) ?_
      | refine sx_RU.call rfl rfl rfl rfl (cn_M _) ?_
      | refine sx_RU.call rfl rfl rfl rfl (cn_Z _) ?_
      | refine sx_RU.call rfl rfl rfl rfl (cg_27 _ _) ?_
      | refine sx_RU.call rfl rfl rfl rfl (cg_66 _ _) ?_
      | refine sx_RU.call rfl rfl rfl rfl (cg_156 _ _) ?_
      | refine sx_RU.call rfl rfl rfl rfl (cg_186 _ _) ?_
      | (refine sx_RU.call rfl rfl rfl rfl (cx_7 _ _ _ _) ?_; first | rw [if_pos (by assumption)] | rw [if_neg (by assumption)] | rw [if_pos (by decide)])
      | (refine sx_RU.call rfl rfl rfl rfl (cx_8 _ _ _ _ _ _) ?_; first | rw [if_pos (by assumption)] | rw [if_neg (by assumption)] | rw [if_pos (by decide)])
      | (refine sx_RU.call rfl rfl rfl rfl (cx_22 _ _ _ _) ?_; first | rw [if_pos (by assumption)] | rw [if_neg (by assumption)] | rw [if_pos (by decide)])
      | (refine sx_RU.call rfl rfl rfl rfl (cx_23 _ _ _ _) ?_; first | rw [if_pos (by assumption)] | rw [if_neg (by assumption)] | rw [if_pos (by decide)])
      | (refine sx_RU.call rfl rfl rfl rfl (cx_131 _ _ _ _) ?_; first | rw [if_pos (by assumption)] | rw [if_neg (by assumption)] | rw [if_pos (by decide)])
      | (refine sx_RU.call rfl rfl rfl rfl (cx_132 _ _ _ _ _ _) ?_; first | rw [if_pos (by assumption)] | rw [if_neg (by assumption)] | rw [if_pos (by decide)])
      | (refine sx_RU.call rfl rfl rfl rfl (cx_151 _ _ _ _) ?_; first | rw [if_pos (by assumption)] | rw [if_neg (by assumption)] | rw [if_pos (by decide)])
      | (refine sx_RU.call rfl rfl rfl rfl (cx_152 _ _ _ _) ?_; first | rw [if_pos (by assumption)] | rw [if_neg (by assumption)] | rw [if_pos (by decide)])
      | (refine sx_RU.call rfl rfl rfl rfl (cx_231 _ _ _ _) ?_; first | rw [if_pos (by assumption)] | rw [if_neg (by assumption)] | rw [if_pos (by decide)])
      | (refine sx_RU.call rfl rfl rfl rfl (cx_197 _ _ _ _) ?_; first | rw [if_pos (by assumption)] | rw [if_neg (by assumption)] | rw [if_pos (by decide)])
      | (refine sx_RU.call rfl rfl rfl rfl (cx_112 _ _ _ _) ?_; first | rw [if_pos (by assumption)] | rw [if_neg (by assumption)] | rw [if_pos (by decide)])
      | refine sx_RU.br rfl rfl (fun _ => ?_) (fun q => (of_decide_eq_false q (by assumption)).elim)
      | refine sx_RU.br rfl rfl (fun q => ((by assumption : ¬ _) (of_decide_eq_true q)).elim) (fun _ => ?_)
      | refine sx_RU.swo rfl (by assumption) rfl ?_)
set_option maxRecDepth 20000 in
theorem k_gallery_o1 (ys : List Int32) (a1 a2 a3 a4 : Int32) (p0 : (0 ≤ a1 ∧ a1 ≤ 5)) (n1 : ¬ (0 ≤ a2 ∧ a2 ≤ 1)) : sx_twoI ys 21 150 [.int a1, .int a2, .int a3, .int a4] := by
  refine ⟨(-1000000001), sx_vB, sx_vB2, _, rfl, ?_, ?_⟩
  · repeat (first
      | refine sx_RU.step rfl rfl ?_
      | exact sx_RU.ret rfl rfl
      | refine sx_RU.call rfl rfl rfl rfl (cf_B _) ?_
      | refine sx_RU.call rfl rfl rfl rfl (cf_N _) ?_
      | refine sx_RU.call rfl rfl rfl rfl (cf_M _) ?_
      | refine sx_RU.call rfl rfl rfl rfl (cf_Z _) ?_
      | refine sx_RU.call rfl rfl rfl rfl (cn_B _) ?_
      | refine sx_RU.call rfl rfl rfl rfl (cn_N _) ?_
      | refine sx_RU.call rfl rfl rfl rfl (cn_M _) ?_
      | refine sx_RU.call rfl rfl rfl rfl (cn_Z _) ?_
      | refine sx_RU.call rfl rfl rfl rfl (cg_27 _ _) ?_
      | refine sx_RU.call rfl rfl rfl rfl (cg_66 _ _) ?_
      | refine sx_RU.call rfl rfl rfl rfl (cg_156 _ _) ?_
      | refine sx_RU.call rfl rfl rfl rfl (cg_186 _ _) ?_
      | (refine sx_RU.call rfl rfl rfl rfl (cx_7 _ _ _ _) ?_; first | rw [if_pos (by assumption)] | rw [if_neg (by assumption)] | rw [if_pos (by decide)])
      | (refine sx_RU.call rfl rfl rfl rfl (cx_8 _ _ _ _ _ _) ?_; first | rw [if_pos (by assumption)] | rw [if_neg (by assumption)] | rw [if_pos (by decide)])
      | (refine sx_RU.call rfl rfl rfl rfl (cx_22 _ _ _ _) ?_; first | rw [if_pos (by assumption)] | rw [if_neg (by assumption)] | rw [if_pos (by decide)])
      | (refine sx_RU.call rfl rfl rfl rfl (cx_23 _ _ _ _) ?_; first | rw [if_pos (by assumption)] | rw [if_neg (by assumption)] | rw [if_pos (by decide)])
      | (refine sx_RU.call rfl rfl rfl rfl (cx_131 _ _ _ _) ?_; first | rw [if_pos (by assumption)] | rw [if_neg (by assumption)] | rw [if_pos (by decide)])
      | (refine sx_RU.call rfl rfl rfl rfl (cx_132 _ _ _ _ _ _) ?_; first | rw [if_pos (by assumption)] | rw [if_neg (by assumption)] | rw [if_pos (by decide)])
      | (refine sx_RU.call rfl rfl rfl rfl (cx_151 _ _ _ _) ?_; first | rw [if_pos (by assumption)] | rw [if_neg (by assumption)] | rw [if_pos (by decide)])
      | (refine sx_RU.call rfl rfl rfl rfl (cx_152 _ _ _ _) ?_; first | rw [if_pos (by assumption)] | rw [if_neg (by assumption)] | rw [if_pos (by decide)])
      | (refine sx_RU.call rfl rfl rfl rfl (cx_231 _ _ _ _) ?_; first | rw [if_pos (by assumption)] | rw [if_neg (by assumption)] | rw [if_pos (by decide)])
      | (refine sx_RU.call rfl rfl rfl rfl (cx_197 _ _ _ _) ?_; first | rw [if_pos (by assumption)] | rw [if_neg (by assumption)] | rw [if_pos (by decide)])
      | (refine sx_RU.call rfl rfl rfl rfl (cx_112 _ _ _ _) ?_; first | rw [if_pos (by assumption)] | rw [if_neg (by assumption)] | rw [if_pos (by decide)])
      | refine sx_RU.br rfl rfl (fun _ => ?_) (fun q => (of_decide_eq_false q (by assumption)).elim)
      | refine sx_RU.br rfl rfl (fun q => ((by assumption : ¬ _) (of_decide_eq_true q)).elim) (fun _ => ?_)
      | refine sx_RU.swo rfl (by assumption) rfl ?_)
  · repeat (first
      | refine sx_RU.step rfl rfl ?_
      | exact sx_RU.ret rfl rfl
      | refine sx_RU.call rfl rfl rfl rfl (cf_B _) ?_
      | refine sx_RU.call rfl rfl rfl rfl (cf_N _) ?_
      | refine sx_RU.call rfl rfl rfl rfl (cf_M _) ?_
      | refine sx_RU.call rfl rfl rfl rfl (cf_Z _) ?_
      | refine sx_RU.call rfl rfl rfl rfl (cn_B _) ?_
      | refine sx_RU.call rfl rfl rfl rfl (cn_N _) ?_
      | refine sx_RU.call rfl rfl rfl rfl (cn_M _) ?_
      | refine sx_RU.call rfl rfl rfl rfl (cn_Z _) ?_
      | refine sx_RU.call rfl rfl rfl rfl (cg_27 _ _) ?_
      | refine sx_RU.call rfl rfl rfl rfl (cg_66 _ _) ?_
      | refine sx_RU.call rfl rfl rfl rfl (cg_156 _ _) ?_
      | refine sx_RU.call rfl rfl rfl rfl (cg_186 _ _) ?_
      | (refine sx_RU.call rfl rfl rfl rfl (cx_7 _ _ _ _) ?_; first | rw [if_pos (by assumption)] | rw [if_neg (by assumption)] | rw [if_pos (by decide)])
      | (refine sx_RU.call rfl rfl rfl rfl (cx_8 _ _ _ _ _ _) ?_; first | rw [if_pos (by assumption)] | rw [if_neg (by assumption)] | rw [if_pos (by decide)])
      | (refine sx_RU.call rfl rfl rfl rfl (cx_22 _ _ _ _) ?_; first | rw [if_pos (by assumption)] | rw [if_neg (by assumption)] | rw [if_pos (by decide)])
      | (refine sx_RU.call rfl rfl rfl rfl (cx_23 _ _ _ _) ?_; first | rw [if_pos (by assumption)] | rw [if_neg (by assumption)] | rw [if_pos (by decide)])
      | (refine sx_RU.call rfl rfl rfl rfl (cx_131 _ _ _ _) ?_; first | rw [if_pos (by assumption)] | rw [if_neg (by assumption)] | rw [if_pos (by decide)])
      | (refine sx_RU.call rfl rfl rfl rfl (cx_132 _ _ _ _ _ _) ?_; first | rw [if_pos (by assumption)] | rw [if_neg (by assumption)] | rw [if_pos (by decide)])
      | (refine sx_RU.call rfl rfl rfl rfl (cx_151 _ _ _ _) ?_; first | rw [if_pos (by assumption)] | rw [if_neg (by assumption)] | rw [if_pos (by decide)])
      | (refine sx_RU.call rfl rfl rfl rfl (cx_152 _ _ _ _) ?_; first | rw [if_pos (by assumption)] | rw [if_neg (by assumption)] | rw [if_pos (by decide)])
      | (refine sx_RU.call rfl rfl rfl rfl (cx_231 _ _ _ _) ?_; first | rw [if_pos (by assumption)] | rw [if_neg (by assumption)] | rw [if_pos (by decide)])
      | (refine sx_RU.call rfl rfl rfl rfl (cx_197 _ _ _ _) ?_; first | rw [if_pos (by assumption)] | rw [if_neg (by assumption)] | rw [if_pos (by decide)])
      | (refine sx_RU.call rfl rfl rfl rfl (cx_112 _ _ _ _) ?_; first | rw [if_pos (by assumption)] | rw [if_neg (by assumption)] | rw [if_pos (by decide)])
      | refine sx_RU.br rfl rfl (fun _ => ?_) (fun q => (of_decide_eq_false q (by assumption)).elim)
      | refine sx_RU.br rfl rfl (fun q => ((by assumption : ¬ _) (of_decide_eq_true q)).elim) (fun _ => ?_)
      | refine sx_RU.swo rfl (by assumption) rfl ?_)
set_option maxRecDepth 20000 in
theorem k_gallery_o2 (ys : List Int32) (a1 a2 a3 a4 : Int32) (p0 : (0 ≤ a1 ∧ a1 ≤ 5)) (p1 : (0 ≤ a2 ∧ a2 ≤ 1)) (n2 : ¬ (0 ≤ a3 ∧ a3 ≤ 47)) : sx_twoI ys 21 150 [.int a1, .int a2, .int a3, .int a4] := by
  refine ⟨(-1000000001), sx_vB, sx_vB2, _, rfl, ?_, ?_⟩
  · repeat (first
      | refine sx_RU.step rfl rfl ?_
      | exact sx_RU.ret rfl rfl
      | refine sx_RU.call rfl rfl rfl rfl (cf_B _) ?_
      | refine sx_RU.call rfl rfl rfl rfl (cf_N _) ?_
      | refine sx_RU.call rfl rfl rfl rfl (cf_M _) ?_
      | refine sx_RU.call rfl rfl rfl rfl (cf_Z _) ?_
      | refine sx_RU.call rfl rfl rfl rfl (cn_B _) ?_
      | refine sx_RU.call rfl rfl rfl rfl (cn_N _) ?_
      | refine sx_RU.call rfl rfl rfl rfl (cn_M _) ?_
      | refine sx_RU.call rfl rfl rfl rfl (cn_Z _) ?_
      | refine sx_RU.call rfl rfl rfl rfl (cg_27 _ _) ?_
      | refine sx_RU.call rfl rfl rfl rfl (cg_66 _ _) ?_
      | refine sx_RU.call rfl rfl rfl rfl (cg_156 _ _) ?_
      | refine sx_RU.call rfl rfl rfl rfl (cg_186 _ _) ?_
      | (refine sx_RU.call rfl rfl rfl rfl (cx_7 _ _ _ _) ?_; first | rw [if_pos (by assumption)] | rw [if_neg (by assumption)] | rw [if_pos (by decide)])
      | (refine sx_RU.call rfl rfl rfl rfl (cx_8 _ _ _ _ _ _) ?_; first | rw [if_pos (by assumption)] | rw [if_neg (by assumption)] | rw [if_pos (by decide)])
      | (refine sx_RU.call rfl rfl rfl rfl (cx_22 _ _ _ _) ?_; first | rw [if_pos (by assumption)] | rw [if_neg (by assumption)] | rw [if_pos (by decide)])
      | (refine sx_RU.call rfl rfl rfl rfl (cx_23 _ _ _ _) ?_; first | rw [if_pos (by assumption)] | rw [if_neg (by assumption)] | rw [if_pos (by decide)])
      | (refine sx_RU.call rfl rfl rfl rfl (cx_131 _ _ _ _) ?_; first | rw [if_pos (by assumption)] | rw [if_neg (by assumption)] | rw [if_pos (by decide)])
      | (refine sx_RU.call rfl rfl rfl rfl (cx_132 _ _ _ _ _ _) ?_; first | rw [if_pos (by assumption)] | rw [if_neg (by assumption)] | rw [if_pos (by decide)])
      | (refine sx_RU.call rfl rfl rfl rfl (cx_151 _ _ _ _) ?_; first | rw [if_pos (by assumption)] | rw [if_neg (by assumption)] | rw [if_pos (by decide)])
      | (refine sx_RU.call rfl rfl rfl rfl (cx_152 _ _ _ _) ?_; first | rw [if_pos (by assumption)] | rw [if_neg (by assumption)] | rw [if_pos (by decide)])
      | (refine sx_RU.call rfl rfl rfl rfl (cx_231 _ _ _ _) ?_; first | rw [if_pos (by assumption)] | rw [if_neg (by assumption)] | rw [if_pos (by decide)])
      | (refine sx_RU.call rfl rfl rfl rfl (cx_197 _ _ _ _) ?_; first | rw [if_pos (by assumption)] | rw [if_neg (by assumption)] | rw [if_pos (by decide)])
      | (refine sx_RU.call rfl rfl rfl rfl (cx_112 _ _ _ _) ?_; first | rw [if_pos (by assumption)] | rw [if_neg (by assumption)] | rw [if_pos (by decide)])
      | refine sx_RU.br rfl rfl (fun _ => ?_) (fun q => (of_decide_eq_false q (by assumption)).elim)
      | refine sx_RU.br rfl rfl (fun q => ((by assumption : ¬ _) (of_decide_eq_true q)).elim) (fun _ => ?_)
      | refine sx_RU.swo rfl (by assumption) rfl ?_)
  · repeat (first
      | refine sx_RU.step rfl rfl ?_
      | exact sx_RU.ret rfl rfl
      | refine sx_RU.call rfl rfl rfl rfl (cf_B _) ?_
      | refine sx_RU.call rfl rfl rfl rfl (cf_N _) ?_
      | refine sx_RU.call rfl rfl rfl rfl (cf_M _) ?_
      | refine sx_RU.call rfl rfl rfl rfl (cf_Z _) ?_
      | refine sx_RU.call rfl rfl rfl rfl (cn_B _) ?_
      | refine sx_RU.call rfl rfl rfl rfl (cn_N _) ?_
      | refine sx_RU.call rfl rfl rfl rfl (cn_M _) ?_
      | refine sx_RU.call rfl rfl rfl rfl (cn_Z _) ?_
      | refine sx_RU.call rfl rfl rfl rfl (cg_27 _ _) ?_
      | refine sx_RU.call rfl rfl rfl rfl (cg_66 _ _) ?_
      | refine sx_RU.call rfl rfl rfl rfl (cg_156 _ _) ?_
      | refine sx_RU.call rfl rfl rfl rfl (cg_186 _ _) ?_
      | (refine sx_RU.call rfl rfl rfl rfl (cx_7 _ _ _ _) ?_; first | rw [if_pos (by assumption)] | rw [if_neg (by assumption)] | rw [if_pos (by decide)])
      | (refine sx_RU.call rfl rfl rfl rfl (cx_8 _ _ _ _ _ _) ?_; first | rw [if_pos (by assumption)] | rw [if_neg (by assumption)] | rw [if_pos (by decide)])
      | (refine sx_RU.call rfl rfl rfl rfl (cx_22 _ _ _ _) ?_; first | rw [if_pos (by assumption)] | rw [if_neg (by assumption)] | rw [if_pos (by decide)])
      | (refine sx_RU.call rfl rfl rfl rfl (cx_23 _ _ _ _) ?_; first | rw [if_pos (by assumption)] | rw [if_neg (by assumption)] | rw [if_pos (by decide)])
      | (refine sx_RU.call rfl rfl rfl rfl (cx_131 _ _ _ _) ?_; first | rw [if_pos (by assumption)] | rw [if_neg (by assumption)] | rw [if_pos (by decide)])
      | (refine sx_RU.call rfl rfl rfl rfl (cx_132 _ _ _ _ _ _) ?_; first | rw [if_pos (by assumption)] | rw [if_neg (by assumption)] | rw [if_pos (by decide)])
      | (refine sx_RU.call rfl rfl rfl rfl (cx_151 _ _ _ _) ?_; first | rw [if_pos (by assumption)] | rw [if_neg (by assumption)] | rw [if_pos (by decide)])
      | (refine sx_RU.call rfl rfl rfl rfl (cx_152 _ _ _ _) ?_; first | rw [if_pos (by assumption)] | rw [if_neg (by assumption)] | rw [if_pos (by decide)])
      | (refine sx_RU.call rfl rfl rfl rfl (cx_231 _ _ _ _) ?_; first | rw [if_pos (by assumption)] | rw [if_neg (by assumption)] | rw [if_pos (by decide)])
      | (refine sx_RU.call rfl rfl rfl rfl (cx_197 _ _ _ _) ?_; first | rw [if_pos (by assumption)] | rw [if_neg (by assumption)] | rw [if_pos (by decide)])
      | (refine sx_RU.call rfl rfl rfl rfl (cx_112 _ _ _ _) ?_; first | rw [if_pos (by assumption)] | rw [if_neg (by assumption)] | rw [if_pos (by decide)])
      | refine sx_RU.br rfl rfl (fun _ => ?_) (fun q => (of_decide_eq_false q (by assumption)).elim)
      | refine sx_RU.br rfl rfl (fun q => ((by assumption : ¬ _) (of_decide_eq_true q)).elim) (fun _ => ?_)
      | refine sx_RU.swo rfl (by assumption) rfl ?_)
set_option maxRecDepth 20000 in
theorem k_gallery_o3 (ys : List Int32) (a1 a2 a3 a4 : Int32) (p0 : (0 ≤ a1 ∧ a1 ≤ 5)) (p1 : (0 ≤ a2 ∧ a2 ≤ 1)) (p2 : (0 ≤ a3 ∧ a3 ≤ 47)) (n3 : ¬ (0 ≤ a4 ∧ a4 ≤ 3)) : sx_twoI ys 21 150 [.int a1, .int a2, .int a3, .int a4] := by
  refine ⟨(-1000000001), sx_vB, sx_vB2, _, rfl, ?_, ?_⟩
  · repeat (first
      | refine sx_RU.step rfl rfl ?_
      | exact sx_RU.ret rfl rfl
      | refine sx_RU.call rfl rfl rfl rfl (cf_B _) ?_
      | refine sx_RU.call rfl rfl rfl rfl (cf_N _) ?_
      | refine sx_RU.call rfl rfl rfl rfl (cf_M _) ?_
      | refine sx_RU.call rfl rfl rfl rfl (cf_Z _) ?_
      | refine sx_RU.call rfl rfl rfl rfl (cn_B _) ?_
      | refine sx_RU.call rfl rfl rfl rfl (cn_N _) ?_
      | refine sx_RU.call rfl rfl rfl rfl (cn_M _) ?_
      | refine sx_RU.call rfl rfl rfl rfl (cn_Z _) ?_
      | refine sx_RU.call rfl rfl rfl rfl (cg_27 _ _) ?_
      | refine sx_RU.call rfl rfl rfl rfl (cg_66 _ _) ?_
      | refine sx_RU.call rfl rfl rfl rfl (cg_156 _ _) ?_
      | refine sx_RU.call rfl rfl rfl rfl (cg_186 _ _) ?_
      | (refine sx_RU.call rfl rfl rfl rfl (cx_7 _ _ _ _) ?_; first | rw [if_pos (by assumption)] | rw [if_neg (by assumption)] | rw [if_pos (by decide)])
      | (refine sx_RU.call rfl rfl rfl rfl (cx_8 _ _ _ _ _ _) ?_; first | rw [if_pos (by assumption)] | rw [if_neg (by assumption)] | rw [if_pos (by decide)])
      | (refine sx_RU.call rfl rfl rfl rfl (cx_22 _ _ _ _) ?_; first | rw [if_pos (by assumption)] | rw [if_neg (by assumption)] | rw [if_pos (by decide)])
      | (refine sx_RU.call rfl rfl rfl rfl (cx_23 _ _ _ _) ?_; first | rw [if_pos (by assumption)] | rw [if_neg (by assumption)] | rw [if_pos (by decide)])
      | (refine sx_RU.call rfl rfl rfl rfl (cx_131 _ _ _ _) ?_; first | rw [if_pos (by assumption)] | rw [if_neg (by assumption)] | rw [if_pos (by decide)])
      | (refine sx_RU.call rfl rfl rfl rfl (cx_132 _ _ _ _ _ _) ?_; first | rw [if_pos (by assumption)] | rw [if_neg (by assumption)] | rw [if_pos (by decide)])
      | (refine sx_RU.call rfl rfl rfl rfl (cx_151 _ _ _ _) ?_; first | rw [if_pos (by assumption)] | rw [if_neg (by assumption)] | rw [if_pos (by decide)])
      | (refine sx_RU.call rfl rfl rfl rfl (cx_152 _ _ _ _) ?_; first | rw [if_pos (by assumption)] | rw [if_neg (by assumption)] | rw [if_pos (by decide)])
      | (refine sx_RU.call rfl rfl rfl rfl (cx_231 _ _ _ _) ?_; first | rw [if_pos (by assumption)] | rw [if_neg (by assumption)] | rw [if_pos (by decide)])
      | (refine sx_RU.call rfl rfl rfl rfl (cx_197 _ _ _ _) ?_; first | rw [if_pos (by assumption)] | rw [if_neg (by assumption)] | rw [if_pos (by decide)])
      | (refine sx_RU.call rfl rfl rfl rfl (cx_112 _ _ _ _) ?_; first | rw [if_pos (by assumption)] | rw [if_neg (by assumption)] | rw [if_pos (by decide)])
      | refine sx_RU.br rfl rfl (fun _ => ?_) (fun q => (of_decide_eq_false q (by assumption)).elim)
      | refine sx_RU.br rfl rfl (fun q => ((by assumption : ¬ _) (of_decide_eq_true q)).elim) (fun _ => ?_)
      | refine sx_RU.swo rfl (by assumption) rfl ?_)
  · repeat (first
      | refine sx_RU.step rfl rfl ?_
      | exact sx_RU.ret rfl rfl
      | refine sx_RU.call rfl rfl rfl rfl (cf_B _) ?_
      | refine sx_RU.call rfl rfl rfl rfl (cf_N _) ?_
      | refine sx_RU.call rfl rfl rfl rfl (cf_M _) ?_
      | refine sx_RU.call rfl rfl rfl rfl (cf_Z _) ?_
      | refine sx_RU.call rfl rfl rfl rfl (cn_B _) ?_
      | refine sx_RU.call rfl rfl rfl rfl (cn_N _) ?_
      | refine sx_RU.call rfl rfl rfl rfl (cn_M _) ?_
      | refine sx_RU.call rfl rfl rfl rfl (cn_Z _) ?_
      | refine sx_RU.call rfl rfl rfl rfl (cg_27 _ _) ?_
      | refine sx_RU.call rfl rfl rfl rfl (cg_66 _ _) ?_
      | refine sx_RU.call rfl rfl rfl rfl (cg_156 _ _) ?_
      | refine sx_RU.call rfl rfl rfl rfl (cg_186 _ _) ?_
      | (refine sx_RU.call rfl rfl rfl rfl (cx_7 _ _ _ _) ?_; first | rw [if_pos (by assumption)] | rw [if_neg (by assumption)] | rw [if_pos (by decide)])
      | (refine sx_RU.call rfl rfl rfl rfl (cx_8 _ _ _ _ _ _) ?_; first | rw [if_pos (by assumption)] | rw [if_neg (by assumption)] | rw [if_pos (by decide)])
      | (refine sx_RU.call rfl rfl rfl rfl (cx_22 _ _ _ _) ?_; first | rw [if_pos (by assumption)] | rw [if_neg (by assumption)] | rw [if_pos (by decide)])
      | (refine sx_RU.call rfl rfl rfl rfl (cx_23 _ _ _ _) ?_; first | rw [if_pos (by assumption)] | rw [if_neg (by assumption)] | rw [if_pos (by decide)])
      | (refine sx_RU.call rfl rfl rfl rfl (cx_131 _ _ _ _) ?_; first | rw [if_pos (by assumption)] | rw [if_neg (by assumption)] | rw [if_pos (by decide)])
      | (refine sx_RU.call rfl rfl rfl rfl (cx_132 _ _ _ _ _ _) ?_; first | rw [if_pos (by assumption)] | rw [if_neg (by assumption)] | rw [if_pos (by decide)])
      | (refine sx_RU.call rfl rfl rfl rfl (cx_151 _ _ _ _) ?_; first | rw [if_pos (by assumption)] | rw [if_neg (by assumption)] | rw [if_pos (by decide)])
      | (refine sx_RU.call rfl rfl rfl rfl (cx_152 _ _ _ _) ?_; first | rw [if_pos (by assumption)] | rw [if_neg (by assumption)] | rw [if_pos (by decide)])
      | (refine sx_RU.call rfl rfl rfl rfl (cx_231 _ _ _ _) ?_; first | rw [if_pos (by assumption)] | rw [if_neg (by assumption)] | rw [if_pos (by decide)])
      | (refine sx_RU.call rfl rfl rfl rfl (cx_197 _ _ _ _) ?_; first | rw [if_pos (by assumption)] | rw [if_neg (by assumption)] | rw [if_pos (by decide)])
      | (refine sx_RU.call rfl rfl rfl rfl (cx_112 _ _ _ _) ?_; first | rw [if_pos (by assumption)] | rw [if_neg (by assumption)] | rw [if_pos (by decide)])
      | refine sx_RU.br rfl rfl (fun _ => ?_) (fun q => (of_decide_eq_false q (by assumption)).elim)
      | refine sx_RU.br rfl rfl (fun q => ((by assumption : ¬ _) (of_decide_eq_true q)).elim) (fun _ => ?_)
      | refine sx_RU.swo rfl (by assumption) rfl ?_)
set_option maxRecDepth 20000 in
theorem k_nights_o0 (ys : List Int32) (a1 : Int32) (n0 : ¬ (1 ≤ a1 ∧ a1 ≤ 60)) : sx_twoI ys 39 164 [.int a1] := by
  refine ⟨(-1000000001), sx_vB, sx_vB2, _, rfl, ?_, ?_⟩
  · repeat (first
      | refine sx_RU.step rfl rfl ?_
      | exact sx_RU.ret rfl rfl
      | refine sx_RU.call rfl rfl rfl rfl (cf_B _) ?_
      | refine sx_RU.call rfl rfl rfl rfl (cf_N _) ?_
      | refine sx_RU.call rfl rfl rfl rfl (cf_M _) ?_
      | refine sx_RU.call rfl rfl rfl rfl (cf_Z _) ?_
      | refine sx_RU.call rfl rfl rfl rfl (cn_B _) ?_
      | refine sx_RU.call rfl rfl rfl rfl (cn_N _) ?_
      | refine sx_RU.call rfl rfl rfl rfl (cn_M _) ?_
      | refine sx_RU.call rfl rfl rfl rfl (cn_Z _) ?_
      | refine sx_RU.call rfl rfl rfl rfl (cg_27 _ _) ?_
      | refine sx_RU.call rfl rfl rfl rfl (cg_66 _ _) ?_
      | refine sx_RU.call rfl rfl rfl rfl (cg_156 _ _) ?_
      | refine sx_RU.call rfl rfl rfl rfl (cg_186 _ _) ?_
      | (refine sx_RU.call rfl rfl rfl rfl (cx_7 _ _ _ _) ?_; first | rw [if_pos (by assumption)] | rw [if_neg (by assumption)] | rw [if_pos (by decide)])
      | (refine sx_RU.call rfl rfl rfl rfl (cx_8 _ _ _ _ _ _) ?_; first | rw [if_pos (by assumption)] | rw [if_neg (by assumption)] | rw [if_pos (by decide)])
      | (refine sx_RU.call rfl rfl rfl rfl (cx_22 _ _ _ _) ?_; first | rw [if_pos (by assumption)] | rw [if_neg (by assumption)] | rw [if_pos (by decide)])
      | (refine sx_RU.call rfl rfl rfl rfl (cx_23 _ _ _ _) ?_; first | rw [if_pos (by assumption)] | rw [if_neg (by assumption)] | rw [if_pos (by decide)])
      | (refine sx_RU.call rfl rfl rfl rfl (cx_131 _ _ _ _) ?_; first | rw [if_pos (by assumption)] | rw [if_neg (by assumption)] | rw [if_pos (by decide)])
      | (refine sx_RU.call rfl rfl rfl rfl (cx_132 _ _ _ _ _ _) ?_; first | rw [if_pos (by assumption)] | rw [if_neg (by assumption)] | rw [if_pos (by decide)])
      | (refine sx_RU.call rfl rfl rfl rfl (cx_151 _ _ _ _) ?_; first | rw [if_pos (by assumption)] | rw [if_neg (by assumption)] | rw [if_pos (by decide)])
      | (refine sx_RU.call rfl rfl rfl rfl (cx_152 _ _ _ _) ?_; first | rw [if_pos (by assumption)] | rw [if_neg (by assumption)] | rw [if_pos (by decide)])
      | (refine sx_RU.call rfl rfl rfl rfl (cx_231 _ _ _ _) ?_; first | rw [if_pos (by assumption)] | rw [if_neg (by assumption)] | rw [if_pos (by decide)])
      | (refine sx_RU.call rfl rfl rfl rfl (cx_197 _ _ _ _) ?_; first | rw [if_pos (by assumption)] | rw [if_neg (by assumption)] | rw [if_pos (by decide)])
      | (refine sx_RU.call rfl rfl rfl rfl (cx_112 _ _ _ _) ?_; first | rw [if_pos (by assumption)] | rw [if_neg (by assumption)] | rw [if_pos (by decide)])
      | refine sx_RU.br rfl rfl (fun _ => ?_) (fun q => (of_decide_eq_false q (by assumption)).elim)
      | refine sx_RU.br rfl rfl (fun q => ((by assumption : ¬ _) (of_decide_eq_true q)).elim) (fun _ => ?_)
      | refine sx_RU.swo rfl (by assumption) rfl ?_)
  · repeat (first
      | refine sx_RU.step rfl rfl ?_
      | exact sx_RU.ret rfl rfl
      | refine sx_RU.call rfl rfl rfl rfl (cf_B _) ?_
      | refine sx_RU.call rfl rfl rfl rfl (cf_N _) ?_
      | refine sx_RU.call rfl rfl rfl rfl (cf_M _) ?_
      | refine sx_RU.call rfl rfl rfl rfl (cf_Z _) ?_
      | refine sx_RU.call rfl rfl rfl rfl (cn_B _) ?_
      | refine sx_RU.call rfl rfl rfl rfl (cn_N _) ?_
      | refine sx_RU.call rfl rfl rfl rfl (cn_M _) ?_
      | refine sx_RU.call rfl rfl rfl rfl (cn_Z _) ?_
      | refine sx_RU.call rfl rfl rfl rfl (cg_27 _ _) ?_
      | refine sx_RU.call rfl rfl rfl rfl (cg_66 _ _) ?_
      | refine sx_RU.call rfl rfl rfl rfl (cg_156 _ _) ?_
      | refine sx_RU.call rfl rfl rfl rfl (cg_186 _ _) ?_
      | (refine sx_RU.call rfl rfl rfl rfl (cx_7 _ _ _ _) ?_; first | rw [if_pos (by assumption)] | rw [if_neg (by assumption)] | rw [if_pos (by decide)])
      | (refine sx_RU.call rfl rfl rfl rfl (cx_8 _ _ _ _ _ _) ?_; first | rw [if_pos (by assumption)] | rw [if_neg (by assumption)] | rw [if_pos (by decide)])
      | (refine sx_RU.call rfl rfl rfl rfl (cx_22 _ _ _ _) ?_; first | rw [if_pos (by assumption)] | rw [if_neg (by assumption)] | rw [if_pos (by decide)])
      | (refine sx_RU.call rfl rfl rfl rfl (cx_23 _ _ _ _) ?_; first | rw [if_pos (by assumption)] | rw [if_neg (by assumption)] | rw [if_pos (by decide)])
      | (refine sx_RU.call rfl rfl rfl rfl (cx_131 _ _ _ _) ?_; first | rw [if_pos (by assumption)] | rw [if_neg (by assumption)] | rw [if_pos (by decide)])
      | (refine sx_RU.call rfl rfl rfl rfl (cx_132 _ _ _ _ _ _) ?_; first | rw [if_pos (by assumption)] | rw [if_neg (by assumption)] | rw [if_pos (by decide)])
      | (refine sx_RU.call rfl rfl rfl rfl (cx_151 _ _ _ _) ?_; first | rw [if_pos (by assumption)] | rw [if_neg (by assumption)] | rw [if_pos (by decide)])
      | (refine sx_RU.call rfl rfl rfl rfl (cx_152 _ _ _ _) ?_; first | rw [if_pos (by assumption)] | rw [if_neg (by assumption)] | rw [if_pos (by decide)])
      | (refine sx_RU.call rfl rfl rfl rfl (cx_231 _ _ _ _) ?_; first | rw [if_pos (by assumption)] | rw [if_neg (by assumption)] | rw [if_pos (by decide)])
      | (refine sx_RU.call rfl rfl rfl rfl (cx_197 _ _ _ _) ?_; first | rw [if_pos (by assumption)] | rw [if_neg (by assumption)] | rw [if_pos (by decide)])
      | (refine sx_RU.call rfl rfl rfl rfl (cx_112 _ _ _ _) ?_; first | rw [if_pos (by assumption)] | rw [if_neg (by assumption)] | rw [if_pos (by decide)])
      | refine sx_RU.br rfl rfl (fun _ => ?_) (fun q => (of_decide_eq_false q (by assumption)).elim)
      | refine sx_RU.br rfl rfl (fun q => ((by assumption : ¬ _) (of_decide_eq_true q)).elim) (fun _ => ?_)
      | refine sx_RU.swo rfl (by assumption) rfl ?_)
set_option maxRecDepth 20000 in
theorem k_dish_o0 (ys : List Int32) (a1 : Int32) (n0 : ¬ (0 ≤ a1 ∧ a1 ≤ 47)) : sx_twoI ys 62 184 [.int a1] := by
  refine ⟨(-1000000001), sx_vB, sx_vB2, _, rfl, ?_, ?_⟩
  · repeat (first
      | refine sx_RU.step rfl rfl ?_
      | exact sx_RU.ret rfl rfl
      | refine sx_RU.call rfl rfl rfl rfl (cf_B _) ?_
      | refine sx_RU.call rfl rfl rfl rfl (cf_N _) ?_
      | refine sx_RU.call rfl rfl rfl rfl (cf_M _) ?_
      | refine sx_RU.call rfl rfl rfl rfl (cf_Z _) ?_
      | refine sx_RU.call rfl rfl rfl rfl (cn_B _) ?_
      | refine sx_RU.call rfl rfl rfl rfl (cn_N _) ?_
      | refine sx_RU.call rfl rfl rfl rfl (cn_M _) ?_
      | refine sx_RU.call rfl rfl rfl rfl (cn_Z _) ?_
      | refine sx_RU.call rfl rfl rfl rfl (cg_27 _ _) ?_
      | refine sx_RU.call rfl rfl rfl rfl (cg_66 _ _) ?_
      | refine sx_RU.call rfl rfl rfl rfl (cg_156 _ _) ?_
      | refine sx_RU.call rfl rfl rfl rfl (cg_186 _ _) ?_
      | (refine sx_RU.call rfl rfl rfl rfl (cx_7 _ _ _ _) ?_; first | rw [if_pos (by assumption)] | rw [if_neg (by assumption)] | rw [if_pos (by decide)])
      | (refine sx_RU.call rfl rfl rfl rfl (cx_8 _ _ _ _ _ _) ?_; first | rw [if_pos (by assumption)] | rw [if_neg (by assumption)] | rw [if_pos (by decide)])
      | (refine sx_RU.call rfl rfl rfl rfl (cx_22 _ _ _ _) ?_; first | rw [if_pos (by assumption)] | rw [if_neg (by assumption)] | rw [if_pos (by decide)])
      | (refine sx_RU.call rfl rfl rfl rfl (cx_23 _ _ _ _) ?_; first | rw [if_pos (by assumption)] | rw [if_neg (by assumption)] | rw [if_pos (by decide)])
      | (refine sx_RU.call rfl rfl rfl rfl (cx_131 _ _ _ _) ?_; first | rw [if_pos (by assumption)] | rw [if_neg (by assumption)] | rw [if_pos (by decide)])
      | (refine sx_RU.call rfl rfl rfl rfl (cx_132 _ _ _ _ _ _) ?_; first | rw [if_pos (by assumption)] | rw [if_neg (by assumption)] | rw [if_pos (by decide)])
      | (refine sx_RU.call rfl rfl rfl rfl (cx_151 _ _ _ _) ?_; first | rw [if_pos (by assumption)] | rw [if_neg (by assumption)] | rw [if_pos (by decide)])
      | (refine sx_RU.call rfl rfl rfl rfl (cx_152 _ _ _ _) ?_; first | rw [if_pos (by assumption)] | rw [if_neg (by assumption)] | rw [if_pos (by decide)])
      | (refine sx_RU.call rfl rfl rfl rfl (cx_231 _ _ _ _) ?_; first | rw [if_pos (by assumption)] | rw [if_neg (by assumption)] | rw [if_pos (by decide)])
      | (refine sx_RU.call rfl rfl rfl rfl (cx_197 _ _ _ _) ?_; first | rw [if_pos (by assumption)] | rw [if_neg (by assumption)] | rw [if_pos (by decide)])
      | (refine sx_RU.call rfl rfl rfl rfl (cx_112 _ _ _ _) ?_; first | rw [if_pos (by assumption)] | rw [if_neg (by assumption)] | rw [if_pos (by decide)])
      | refine sx_RU.br rfl rfl (fun _ => ?_) (fun q => (of_decide_eq_false q (by assumption)).elim)
      | refine sx_RU.br rfl rfl (fun q => ((by assumption : ¬ _) (of_decide_eq_true q)).elim) (fun _ => ?_)
      | refine sx_RU.swo rfl (by assumption) rfl ?_)
  · repeat (first
      | refine sx_RU.step rfl rfl ?_
      | exact sx_RU.ret rfl rfl
      | refine sx_RU.call rfl rfl rfl rfl (cf_B _) ?_
      | refine sx_RU.call rfl rfl rfl rfl (cf_N _) ?_
      | refine sx_RU.call rfl rfl rfl rfl (cf_M _) ?_
      | refine sx_RU.call rfl rfl rfl rfl (cf_Z _) ?_
      | refine sx_RU.call rfl rfl rfl rfl (cn_B _) ?_
      | refine sx_RU.call rfl rfl rfl rfl (cn_N _) ?_
      | refine sx_RU.call rfl rfl rfl rfl (cn_M _) ?_
      | refine sx_RU.call rfl rfl rfl rfl (cn_Z _) ?_
      | refine sx_RU.call rfl rfl rfl rfl (cg_27 _ _) ?_
      | refine sx_RU.call rfl rfl rfl rfl (cg_66 _ _) ?_
      | refine sx_RU.call rfl rfl rfl rfl (cg_156 _ _) ?_
      | refine sx_RU.call rfl rfl rfl rfl (cg_186 _ _) ?_
      | (refine sx_RU.call rfl rfl rfl rfl (cx_7 _ _ _ _) ?_; first | rw [if_pos (by assumption)] | rw [if_neg (by assumption)] | rw [if_pos (by decide)])
      | (refine sx_RU.call rfl rfl rfl rfl (cx_8 _ _ _ _ _ _) ?_; first | rw [if_pos (by assumption)] | rw [if_neg (by assumption)] | rw [if_pos (by decide)])
      | (refine sx_RU.call rfl rfl rfl rfl (cx_22 _ _ _ _) ?_; first | rw [if_pos (by assumption)] | rw [if_neg (by assumption)] | rw [if_pos (by decide)])
      | (refine sx_RU.call rfl rfl rfl rfl (cx_23 _ _ _ _) ?_; first | rw [if_pos (by assumption)] | rw [if_neg (by assumption)] | rw [if_pos (by decide)])
      | (refine sx_RU.call rfl rfl rfl rfl (cx_131 _ _ _ _) ?_; first | rw [if_pos (by assumption)] | rw [if_neg (by assumption)] | rw [if_pos (by decide)])
      | (refine sx_RU.call rfl rfl rfl rfl (cx_132 _ _ _ _ _ _) ?_; first | rw [if_pos (by assumption)] | rw [if_neg (by assumption)] | rw [if_pos (by decide)])
      | (refine sx_RU.call rfl rfl rfl rfl (cx_151 _ _ _ _) ?_; first | rw [if_pos (by assumption)] | rw [if_neg (by assumption)] | rw [if_pos (by decide)])
      | (refine sx_RU.call rfl rfl rfl rfl (cx_152 _ _ _ _) ?_; first | rw [if_pos (by assumption)] | rw [if_neg (by assumption)] | rw [if_pos (by decide)])
      | (refine sx_RU.call rfl rfl rfl rfl (cx_231 _ _ _ _) ?_; first | rw [if_pos (by assumption)] | rw [if_neg (by assumption)] | rw [if_pos (by decide)])
      | (refine sx_RU.call rfl rfl rfl rfl (cx_197 _ _ _ _) ?_; first | rw [if_pos (by assumption)] | rw [if_neg (by assumption)] | rw [if_pos (by decide)])
      | (refine sx_RU.call rfl rfl rfl rfl (cx_112 _ _ _ _) ?_; first | rw [if_pos (by assumption)] | rw [if_neg (by assumption)] | rw [if_pos (by decide)])
      | refine sx_RU.br rfl rfl (fun _ => ?_) (fun q => (of_decide_eq_false q (by assumption)).elim)
      | refine sx_RU.br rfl rfl (fun q => ((by assumption : ¬ _) (of_decide_eq_true q)).elim) (fun _ => ?_)
      | refine sx_RU.swo rfl (by assumption) rfl ?_)
set_option maxRecDepth 20000 in
theorem k_where_o0 (ys : List Int32) (a1 : Int32) (n0 : ¬ (0 ≤ a1 ∧ a1 ≤ 5)) : sx_twoL ys 71 192 [.int a1] := by
  refine ⟨((-1000000001 : Int32).toInt64), sx_vB, sx_vB2, _, rfl, ?_, ?_⟩
  · repeat (first
      | refine sx_RU.step rfl rfl ?_
      | exact sx_RU.ret rfl rfl
      | refine sx_RU.call rfl rfl rfl rfl (cf_B _) ?_
      | refine sx_RU.call rfl rfl rfl rfl (cf_N _) ?_
      | refine sx_RU.call rfl rfl rfl rfl (cf_M _) ?_
      | refine sx_RU.call rfl rfl rfl rfl (cf_Z _) ?_
      | refine sx_RU.call rfl rfl rfl rfl (cn_B _) ?_
      | refine sx_RU.call rfl rfl rfl rfl (cn_N _) ?_
      | refine sx_RU.call rfl rfl rfl rfl (cn_M _) ?_
      | refine sx_RU.call rfl rfl rfl rfl (cn_Z _) ?_
      | refine sx_RU.call rfl rfl rfl rfl (cg_27 _ _) ?_
      | refine sx_RU.call rfl rfl rfl rfl (cg_66 _ _) ?_
      | refine sx_RU.call rfl rfl rfl rfl (cg_156 _ _) ?_
      | refine sx_RU.call rfl rfl rfl rfl (cg_186 _ _) ?_
      | (refine sx_RU.call rfl rfl rfl rfl (cx_7 _ _ _ _) ?_; first | rw [if_pos (by assumption)] | rw [if_neg (by assumption)] | rw [if_pos (by decide)])
      | (refine sx_RU.call rfl rfl rfl rfl (cx_8 _ _ _ _ _ _) ?_; first | rw [if_pos (by assumption)] | rw [if_neg (by assumption)] | rw [if_pos (by decide)])
      | (refine sx_RU.call rfl rfl rfl rfl (cx_22 _ _ _ _) ?_; first | rw [if_pos (by assumption)] | rw [if_neg (by assumption)] | rw [if_pos (by decide)])
      | (refine sx_RU.call rfl rfl rfl rfl (cx_23 _ _ _ _) ?_; first | rw [if_pos (by assumption)] | rw [if_neg (by assumption)] | rw [if_pos (by decide)])
      | (refine sx_RU.call rfl rfl rfl rfl (cx_131 _ _ _ _) ?_; first | rw [if_pos (by assumption)] | rw [if_neg (by assumption)] | rw [if_pos (by decide)])
      | (refine sx_RU.call rfl rfl rfl rfl (cx_132 _ _ _ _ _ _) ?_; first | rw [if_pos (by assumption)] | rw [if_neg (by assumption)] | rw [if_pos (by decide)])
      | (refine sx_RU.call rfl rfl rfl rfl (cx_151 _ _ _ _) ?_; first | rw [if_pos (by assumption)] | rw [if_neg (by assumption)] | rw [if_pos (by decide)])
      | (refine sx_RU.call rfl rfl rfl rfl (cx_152 _ _ _ _) ?_; first | rw [if_pos (by assumption)] | rw [if_neg (by assumption)] | rw [if_pos (by decide)])
      | (refine sx_RU.call rfl rfl rfl rfl (cx_231 _ _ _ _) ?_; first | rw [if_pos (by assumption)] | rw [if_neg (by assumption)] | rw [if_pos (by decide)])
      | (refine sx_RU.call rfl rfl rfl rfl (cx_197 _ _ _ _) ?_; first | rw [if_pos (by assumption)] | rw [if_neg (by assumption)] | rw [if_pos (by decide)])
      | (refine sx_RU.call rfl rfl rfl rfl (cx_112 _ _ _ _) ?_; first | rw [if_pos (by assumption)] | rw [if_neg (by assumption)] | rw [if_pos (by decide)])
      | refine sx_RU.br rfl rfl (fun _ => ?_) (fun q => (of_decide_eq_false q (by assumption)).elim)
      | refine sx_RU.br rfl rfl (fun q => ((by assumption : ¬ _) (of_decide_eq_true q)).elim) (fun _ => ?_)
      | refine sx_RU.swo rfl (by assumption) rfl ?_)
  · repeat (first
      | refine sx_RU.step rfl rfl ?_
      | exact sx_RU.ret rfl rfl
      | refine sx_RU.call rfl rfl rfl rfl (cf_B _) ?_
      | refine sx_RU.call rfl rfl rfl rfl (cf_N _) ?_
      | refine sx_RU.call rfl rfl rfl rfl (cf_M _) ?_
      | refine sx_RU.call rfl rfl rfl rfl (cf_Z _) ?_
      | refine sx_RU.call rfl rfl rfl rfl (cn_B _) ?_
      | refine sx_RU.call rfl rfl rfl rfl (cn_N _) ?_
      | refine sx_RU.call rfl rfl rfl rfl (cn_M _) ?_
      | refine sx_RU.call rfl rfl rfl rfl (cn_Z _) ?_
      | refine sx_RU.call rfl rfl rfl rfl (cg_27 _ _) ?_
      | refine sx_RU.call rfl rfl rfl rfl (cg_66 _ _) ?_
      | refine sx_RU.call rfl rfl rfl rfl (cg_156 _ _) ?_
      | refine sx_RU.call rfl rfl rfl rfl (cg_186 _ _) ?_
      | (refine sx_RU.call rfl rfl rfl rfl (cx_7 _ _ _ _) ?_; first | rw [if_pos (by assumption)] | rw [if_neg (by assumption)] | rw [if_pos (by decide)])
      | (refine sx_RU.call rfl rfl rfl rfl (cx_8 _ _ _ _ _ _) ?_; first | rw [if_pos (by assumption)] | rw [if_neg (by assumption)] | rw [if_pos (by decide)])
      | (refine sx_RU.call rfl rfl rfl rfl (cx_22 _ _ _ _) ?_; first | rw [if_pos (by assumption)] | rw [if_neg (by assumption)] | rw [if_pos (by decide)])
      | (refine sx_RU.call rfl rfl rfl rfl (cx_23 _ _ _ _) ?_; first | rw [if_pos (by assumption)] | rw [if_neg (by assumption)] | rw [if_pos (by decide)])
      | (refine sx_RU.call rfl rfl rfl rfl (cx_131 _ _ _ _) ?_; first | rw [if_pos (by assumption)] | rw [if_neg (by assumption)] | rw [if_pos (by decide)])
      | (refine sx_RU.call rfl rfl rfl rfl (cx_132 _ _ _ _ _ _) ?_; first | rw [if_pos (by assumption)] | rw [if_neg (by assumption)] | rw [if_pos (by decide)])
      | (refine sx_RU.call rfl rfl rfl rfl (cx_151 _ _ _ _) ?_; first | rw [if_pos (by assumption)] | rw [if_neg (by assumption)] | rw [if_pos (by decide)])
      | (refine sx_RU.call rfl rfl rfl rfl (cx_152 _ _ _ _) ?_; first | rw [if_pos (by assumption)] | rw [if_neg (by assumption)] | rw [if_pos (by decide)])
      | (refine sx_RU.call rfl rfl rfl rfl (cx_231 _ _ _ _) ?_; first | rw [if_pos (by assumption)] | rw [if_neg (by assumption)] | rw [if_pos (by decide)])
      | (refine sx_RU.call rfl rfl rfl rfl (cx_197 _ _ _ _) ?_; first | rw [if_pos (by assumption)] | rw [if_neg (by assumption)] | rw [if_pos (by decide)])
      | (refine sx_RU.call rfl rfl rfl rfl (cx_112 _ _ _ _) ?_; first | rw [if_pos (by assumption)] | rw [if_neg (by assumption)] | rw [if_pos (by decide)])
      | refine sx_RU.br rfl rfl (fun _ => ?_) (fun q => (of_decide_eq_false q (by assumption)).elim)
      | refine sx_RU.br rfl rfl (fun q => ((by assumption : ¬ _) (of_decide_eq_true q)).elim) (fun _ => ?_)
      | refine sx_RU.swo rfl (by assumption) rfl ?_)
set_option maxRecDepth 20000 in
theorem k_where_n (ys : List Int32) (a1 : Int32) (p0 : (0 ≤ a1 ∧ a1 ≤ 5)) : sx_twoL ys 71 192 [.int a1] := by
  refine ⟨((-1000000004 : Int32).toInt64), sx_vN, sx_vN2, _, rfl, ?_, ?_⟩
  · repeat (first
      | refine sx_RU.step rfl rfl ?_
      | exact sx_RU.ret rfl rfl
      | refine sx_RU.call rfl rfl rfl rfl (cf_B _) ?_
      | refine sx_RU.call rfl rfl rfl rfl (cf_N _) ?_
      | refine sx_RU.call rfl rfl rfl rfl (cf_M _) ?_
      | refine sx_RU.call rfl rfl rfl rfl (cf_Z _) ?_
      | refine sx_RU.call rfl rfl rfl rfl (cn_B _) ?_
      | refine sx_RU.call rfl rfl rfl rfl (cn_N _) ?_
      | refine sx_RU.call rfl rfl rfl rfl (cn_M _) ?_
      | refine sx_RU.call rfl rfl rfl rfl (cn_Z _) ?_
      | refine sx_RU.call rfl rfl rfl rfl (cg_27 _ _) ?_
      | refine sx_RU.call rfl rfl rfl rfl (cg_66 _ _) ?_
      | refine sx_RU.call rfl rfl rfl rfl (cg_156 _ _) ?_
      | refine sx_RU.call rfl rfl rfl rfl (cg_186 _ _) ?_
      | (refine sx_RU.call rfl rfl rfl rfl (cx_7 _ _ _ _) ?_; first | rw [if_pos (by assumption)] | rw [if_neg (by assumption)] | rw [if_pos (by decide)])
      | (refine sx_RU.call rfl rfl rfl rfl (cx_8 _ _ _ _ _ _) ?_; first | rw [if_pos (by assumption)] | rw [if_neg (by assumption)] | rw [if_pos (by decide)])
      | (refine sx_RU.call rfl rfl rfl rfl (cx_22 _ _ _ _) ?_; first | rw [if_pos (by assumption)] | rw [if_neg (by assumption)] | rw [if_pos (by decide)])
      | (refine sx_RU.call rfl rfl rfl rfl (cx_23 _ _ _ _) ?_; first | rw [if_pos (by assumption)] | rw [if_neg (by assumption)] | rw [if_pos (by decide)])
      | (refine sx_RU.call rfl rfl rfl rfl (cx_131 _ _ _ _) ?_; first | rw [if_pos (by assumption)] | rw [if_neg (by assumption)] | rw [if_pos (by decide)])
      | (refine sx_RU.call rfl rfl rfl rfl (cx_132 _ _ _ _ _ _) ?_; first | rw [if_pos (by assumption)] | rw [if_neg (by assumption)] | rw [if_pos (by decide)])
      | (refine sx_RU.call rfl rfl rfl rfl (cx_151 _ _ _ _) ?_; first | rw [if_pos (by assumption)] | rw [if_neg (by assumption)] | rw [if_pos (by decide)])
      | (refine sx_RU.call rfl rfl rfl rfl (cx_152 _ _ _ _) ?_; first | rw [if_pos (by assumption)] | rw [if_neg (by assumption)] | rw [if_pos (by decide)])
      | (refine sx_RU.call rfl rfl rfl rfl (cx_231 _ _ _ _) ?_; first | rw [if_pos (by assumption)] | rw [if_neg (by assumption)] | rw [if_pos (by decide)])
      | (refine sx_RU.call rfl rfl rfl rfl (cx_197 _ _ _ _) ?_; first | rw [if_pos (by assumption)] | rw [if_neg (by assumption)] | rw [if_pos (by decide)])
      | (refine sx_RU.call rfl rfl rfl rfl (cx_112 _ _ _ _) ?_; first | rw [if_pos (by assumption)] | rw [if_neg (by assumption)] | rw [if_pos (by decide)])
      | refine sx_RU.br rfl rfl (fun _ => ?_) (fun q => (of_decide_eq_false q (by assumption)).elim)
      | refine sx_RU.br rfl rfl (fun q => ((by assumption : ¬ _) (of_decide_eq_true q)).elim) (fun _ => ?_)
      | refine sx_RU.swo rfl (by assumption) rfl ?_)
  · repeat (first
      | refine sx_RU.step rfl rfl ?_
      | exact sx_RU.ret rfl rfl
      | refine sx_RU.call rfl rfl rfl rfl (cf_B _) ?_
      | refine sx_RU.call rfl rfl rfl rfl (cf_N _) ?_
      | refine sx_RU.call rfl rfl rfl rfl (cf_M _) ?_
      | refine sx_RU.call rfl rfl rfl rfl (cf_Z _) ?_
      | refine sx_RU.call rfl rfl rfl rfl (cn_B _) ?_
      | refine sx_RU.call rfl rfl rfl rfl (cn_N _) ?_
      | refine sx_RU.call rfl rfl rfl rfl (cn_M _) ?_
      | refine sx_RU.call rfl rfl rfl rfl (cn_Z _) ?_
      | refine sx_RU.call rfl rfl rfl rfl (cg_27 _ _) ?_
      | refine sx_RU.call rfl rfl rfl rfl (cg_66 _ _) ?_
      | refine sx_RU.call rfl rfl rfl rfl (cg_156 _ _) ?_
      | refine sx_RU.call rfl rfl rfl rfl (cg_186 _ _) ?_
      | (refine sx_RU.call rfl rfl rfl rfl (cx_7 _ _ _ _) ?_; first | rw [if_pos (by assumption)] | rw [if_neg (by assumption)] | rw [if_pos (by decide)])
      | (refine sx_RU.call rfl rfl rfl rfl (cx_8 _ _ _ _ _ _) ?_; first | rw [if_pos (by assumption)] | rw [if_neg (by assumption)] | rw [if_pos (by decide)])
      | (refine sx_RU.call rfl rfl rfl rfl (cx_22 _ _ _ _) ?_; first | rw [if_pos (by assumption)] | rw [if_neg (by assumption)] | rw [if_pos (by decide)])
      | (refine sx_RU.call rfl rfl rfl rfl (cx_23 _ _ _ _) ?_; first | rw [if_pos (by assumption)] | rw [if_neg (by assumption)] | rw [if_pos (by decide)])
      | (refine sx_RU.call rfl rfl rfl rfl (cx_131 _ _ _ _) ?_; first | rw [if_pos (by assumption)] | rw [if_neg (by assumption)] | rw [if_pos (by decide)])
      | (refine sx_RU.call rfl rfl rfl rfl (cx_132 _ _ _ _ _ _) ?_; first | rw [if_pos (by assumption)] | rw [if_neg (by assumption)] | rw [if_pos (by decide)])
      | (refine sx_RU.call rfl rfl rfl rfl (cx_151 _ _ _ _) ?_; first | rw [if_pos (by assumption)] | rw [if_neg (by assumption)] | rw [if_pos (by decide)])
      | (refine sx_RU.call rfl rfl rfl rfl (cx_152 _ _ _ _) ?_; first | rw [if_pos (by assumption)] | rw [if_neg (by assumption)] | rw [if_pos (by decide)])
      | (refine sx_RU.call rfl rfl rfl rfl (cx_231 _ _ _ _) ?_; first | rw [if_pos (by assumption)] | rw [if_neg (by assumption)] | rw [if_pos (by decide)])
      | (refine sx_RU.call rfl rfl rfl rfl (cx_197 _ _ _ _) ?_; first | rw [if_pos (by assumption)] | rw [if_neg (by assumption)] | rw [if_pos (by decide)])
      | (refine sx_RU.call rfl rfl rfl rfl (cx_112 _ _ _ _) ?_; first | rw [if_pos (by assumption)] | rw [if_neg (by assumption)] | rw [if_pos (by decide)])
      | refine sx_RU.br rfl rfl (fun _ => ?_) (fun q => (of_decide_eq_false q (by assumption)).elim)
      | refine sx_RU.br rfl rfl (fun q => ((by assumption : ¬ _) (of_decide_eq_true q)).elim) (fun _ => ?_)
      | refine sx_RU.swo rfl (by assumption) rfl ?_)
set_option maxRecDepth 20000 in
theorem k_best_o0 (ys : List Int32) (a1 : Int32) (n0 : ¬ (0 ≤ a1 ∧ a1 ≤ 5)) : sx_twoI ys 74 194 [.int a1] := by
  refine ⟨(-1000000001), sx_vB, sx_vB2, _, rfl, ?_, ?_⟩
  · repeat (first
      | refine sx_RU.step rfl rfl ?_
      | exact sx_RU.ret rfl rfl
      | refine sx_RU.call rfl rfl rfl rfl (cf_B _) ?_
      | refine sx_RU.call rfl rfl rfl rfl (cf_N _) ?_
      | refine sx_RU.call rfl rfl rfl rfl (cf_M _) ?_
      | refine sx_RU.call rfl rfl rfl rfl (cf_Z _) ?_
      | refine sx_RU.call rfl rfl rfl rfl (cn_B _) ?_
      | refine sx_RU.call rfl rfl rfl rfl (cn_N _) ?_
      | refine sx_RU.call rfl rfl rfl rfl (cn_M _) ?_
      | refine sx_RU.call rfl rfl rfl rfl (cn_Z _) ?_
      | refine sx_RU.call rfl rfl rfl rfl (cg_27 _ _) ?_
      | refine sx_RU.call rfl rfl rfl rfl (cg_66 _ _) ?_
      | refine sx_RU.call rfl rfl rfl rfl (cg_156 _ _) ?_
      | refine sx_RU.call rfl rfl rfl rfl (cg_186 _ _) ?_
      | (refine sx_RU.call rfl rfl rfl rfl (cx_7 _ _ _ _) ?_; first | rw [if_pos (by assumption)] | rw [if_neg (by assumption)] | rw [if_pos (by decide)])
      | (refine sx_RU.call rfl rfl rfl rfl (cx_8 _ _ _ _ _ _) ?_; first | rw [if_pos (by assumption)] | rw [if_neg (by assumption)] | rw [if_pos (by decide)])
      | (refine sx_RU.call rfl rfl rfl rfl (cx_22 _ _ _ _) ?_; first | rw [if_pos (by assumption)] | rw [if_neg (by assumption)] | rw [if_pos (by decide)])
      | (refine sx_RU.call rfl rfl rfl rfl (cx_23 _ _ _ _) ?_; first | rw [if_pos (by assumption)] | rw [if_neg (by assumption)] | rw [if_pos (by decide)])
      | (refine sx_RU.call rfl rfl rfl rfl (cx_131 _ _ _ _) ?_; first | rw [if_pos (by assumption)] | rw [if_neg (by assumption)] | rw [if_pos (by decide)])
      | (refine sx_RU.call rfl rfl rfl rfl (cx_132 _ _ _ _ _ _) ?_; first | rw [if_pos (by assumption)] | rw [if_neg (by assumption)] | rw [if_pos (by decide)])
      | (refine sx_RU.call rfl rfl rfl rfl (cx_151 _ _ _ _) ?_; first | rw [if_pos (by assumption)] | rw [if_neg (by assumption)] | rw [if_pos (by decide)])
      | (refine sx_RU.call rfl rfl rfl rfl (cx_152 _ _ _ _) ?_; first | rw [if_pos (by assumption)] | rw [if_neg (by assumption)] | rw [if_pos (by decide)])
      | (refine sx_RU.call rfl rfl rfl rfl (cx_231 _ _ _ _) ?_; first | rw [if_pos (by assumption)] | rw [if_neg (by assumption)] | rw [if_pos (by decide)])
      | (refine sx_RU.call rfl rfl rfl rfl (cx_197 _ _ _ _) ?_; first | rw [if_pos (by assumption)] | rw [if_neg (by assumption)] | rw [if_pos (by decide)])
      | (refine sx_RU.call rfl rfl rfl rfl (cx_112 _ _ _ _) ?_; first | rw [if_pos (by assumption)] | rw [if_neg (by assumption)] | rw [if_pos (by decide)])
      | refine sx_RU.br rfl rfl (fun _ => ?_) (fun q => (of_decide_eq_false q (by assumption)).elim)
      | refine sx_RU.br rfl rfl (fun q => ((by assumption : ¬ _) (of_decide_eq_true q)).elim) (fun _ => ?_)
      | refine sx_RU.swo rfl (by assumption) rfl ?_)
  · repeat (first
      | refine sx_RU.step rfl rfl ?_
      | exact sx_RU.ret rfl rfl
      | refine sx_RU.call rfl rfl rfl rfl (cf_B _) ?_
      | refine sx_RU.call rfl rfl rfl rfl (cf_N _) ?_
      | refine sx_RU.call rfl rfl rfl rfl (cf_M _) ?_
      | refine sx_RU.call rfl rfl rfl rfl (cf_Z _) ?_
      | refine sx_RU.call rfl rfl rfl rfl (cn_B _) ?_
      | refine sx_RU.call rfl rfl rfl rfl (cn_N _) ?_
      | refine sx_RU.call rfl rfl rfl rfl (cn_M _) ?_
      | refine sx_RU.call rfl rfl rfl rfl (cn_Z _) ?_
      | refine sx_RU.call rfl rfl rfl rfl (cg_27 _ _) ?_
      | refine sx_RU.call rfl rfl rfl rfl (cg_66 _ _) ?_
      | refine sx_RU.call rfl rfl rfl rfl (cg_156 _ _) ?_
      | refine sx_RU.call rfl rfl rfl rfl (cg_186 _ _) ?_
      | (refine sx_RU.call rfl rfl rfl rfl (cx_7 _ _ _ _) ?_; first | rw [if_pos (by assumption)] | rw [if_neg (by assumption)] | rw [if_pos (by decide)])
      | (refine sx_RU.call rfl rfl rfl rfl (cx_8 _ _ _ _ _ _) ?_; first | rw [if_pos (by assumption)] | rw [if_neg (by assumption)] | rw [if_pos (by decide)])
      | (refine sx_RU.call rfl rfl rfl rfl (cx_22 _ _ _ _) ?_; first | rw [if_pos (by assumption)] | rw [if_neg (by assumption)] | rw [if_pos (by decide)])
      | (refine sx_RU.call rfl rfl rfl rfl (cx_23 _ _ _ _) ?_; first | rw [if_pos (by assumption)] | rw [if_neg (by assumption)] | rw [if_pos (by decide)])
      | (refine sx_RU.call rfl rfl rfl rfl (cx_131 _ _ _ _) ?_; first | rw [if_pos (by assumption)] | rw [if_neg (by assumption)] | rw [if_pos (by decide)])
      | (refine sx_RU.call rfl rfl rfl rfl (cx_132 _ _ _ _ _ _) ?_; first | rw [if_pos (by assumption)] | rw [if_neg (by assumption)] | rw [if_pos (by decide)])
      | (refine sx_RU.call rfl rfl rfl rfl (cx_151 _ _ _ _) ?_; first | rw [if_pos (by assumption)] | rw [if_neg (by assumption)] | rw [if_pos (by decide)])
      | (refine sx_RU.call rfl rfl rfl rfl (cx_152 _ _ _ _) ?_; first | rw [if_pos (by assumption)] | rw [if_neg (by assumption)] | rw [if_pos (by decide)])
      | (refine sx_RU.call rfl rfl rfl rfl (cx_231 _ _ _ _) ?_; first | rw [if_pos (by assumption)] | rw [if_neg (by assumption)] | rw [if_pos (by decide)])
      | (refine sx_RU.call rfl rfl rfl rfl (cx_197 _ _ _ _) ?_; first | rw [if_pos (by assumption)] | rw [if_neg (by assumption)] | rw [if_pos (by decide)])
      | (refine sx_RU.call rfl rfl rfl rfl (cx_112 _ _ _ _) ?_; first | rw [if_pos (by assumption)] | rw [if_neg (by assumption)] | rw [if_pos (by decide)])
      | refine sx_RU.br rfl rfl (fun _ => ?_) (fun q => (of_decide_eq_false q (by assumption)).elim)
      | refine sx_RU.br rfl rfl (fun q => ((by assumption : ¬ _) (of_decide_eq_true q)).elim) (fun _ => ?_)
      | refine sx_RU.swo rfl (by assumption) rfl ?_)
set_option maxRecDepth 20000 in
theorem k_best_n (ys : List Int32) (a1 : Int32) (p0 : (0 ≤ a1 ∧ a1 ≤ 5)) : sx_twoI ys 74 194 [.int a1] := by
  refine ⟨(-1000000004), sx_vN, sx_vN2, _, rfl, ?_, ?_⟩
  · repeat (first
      | refine sx_RU.step rfl rfl ?_
      | exact sx_RU.ret rfl rfl
      | refine sx_RU.call rfl rfl rfl rfl (cf_B _) ?_
      | refine sx_RU.call rfl rfl rfl rfl (cf_N _) ?_
      | refine sx_RU.call rfl rfl rfl rfl (cf_M _) ?_
      | refine sx_RU.call rfl rfl rfl rfl (cf_Z _) ?_
      | refine sx_RU.call rfl rfl rfl rfl (cn_B _) ?_
      | refine sx_RU.call rfl rfl rfl rfl (cn_N _) ?_
      | refine sx_RU.call rfl rfl rfl rfl (cn_M _) ?_
      | refine sx_RU.call rfl rfl rfl rfl (cn_Z _) ?_
      | refine sx_RU.call rfl rfl rfl rfl (cg_27 _ _) ?_
      | refine sx_RU.call rfl rfl rfl rfl (cg_66 _ _) ?_
      | refine sx_RU.call rfl rfl rfl rfl (cg_156 _ _) ?_
      | refine sx_RU.call rfl rfl rfl rfl (cg_186 _ _) ?_
      | (refine sx_RU.call rfl rfl rfl rfl (cx_7 _ _ _ _) ?_; first | rw [if_pos (by assumption)] | rw [if_neg (by assumption)] | rw [if_pos (by decide)])
      | (refine sx_RU.call rfl rfl rfl rfl (cx_8 _ _ _ _ _ _) ?_; first | rw [if_pos (by assumption)] | rw [if_neg (by assumption)] | rw [if_pos (by decide)])
      | (refine sx_RU.call rfl rfl rfl rfl (cx_22 _ _ _ _) ?_; first | rw [if_pos (by assumption)] | rw [if_neg (by assumption)] | rw [if_pos (by decide)])
      | (refine sx_RU.call rfl rfl rfl rfl (cx_23 _ _ _ _) ?_; first | rw [if_pos (by assumption)] | rw [if_neg (by assumption)] | rw [if_pos (by decide)])
      | (refine sx_RU.call rfl rfl rfl rfl (cx_131 _ _ _ _) ?_; first | rw [if_pos (by assumption)] | rw [if_neg (by assumption)] | rw [if_pos (by decide)])
      | (refine sx_RU.call rfl rfl rfl rfl (cx_132 _ _ _ _ _ _) ?_; first | rw [if_pos (by assumption)] | rw [if_neg (by assumption)] | rw [if_pos (by decide)])
      | (refine sx_RU.call rfl rfl rfl rfl (cx_151 _ _ _ _) ?_; first | rw [if_pos (by assumption)] | rw [if_neg (by assumption)] | rw [if_pos (by decide)])
      | (refine sx_RU.call rfl rfl rfl rfl (cx_152 _ _ _ _) ?_; first | rw [if_pos (by assumption)] | rw [if_neg (by assumption)] | rw [if_pos (by decide)])
      | (refine sx_RU.call rfl rfl rfl rfl (cx_231 _ _ _ _) ?_; first | rw [if_pos (by assumption)] | rw [if_neg (by assumption)] | rw [if_pos (by decide)])
      | (refine sx_RU.call rfl rfl rfl rfl (cx_197 _ _ _ _) ?_; first | rw [if_pos (by assumption)] | rw [if_neg (by assumption)] | rw [if_pos (by decide)])
      | (refine sx_RU.call rfl rfl rfl rfl (cx_112 _ _ _ _) ?_; first | rw [if_pos (by assumption)] | rw [if_neg (by assumption)] | rw [if_pos (by decide)])
      | refine sx_RU.br rfl rfl (fun _ => ?_) (fun q => (of_decide_eq_false q (by assumption)).elim)
      | refine sx_RU.br rfl rfl (fun q => ((by assumption : ¬ _) (of_decide_eq_true q)).elim) (fun _ => ?_)
      | refine sx_RU.swo rfl (by assumption) rfl ?_)
  · repeat (first
      | refine sx_RU.step rfl rfl ?_
      | exact sx_RU.ret rfl rfl
      | refine sx_RU.call rfl rfl rfl rfl (cf_B _) ?_
      | refine sx_RU.call rfl rfl rfl rfl (cf_N _) ?_
      | refine sx_RU.call rfl rfl rfl rfl (cf_M _) ?_
      | refine sx_RU.call rfl rfl rfl rfl (cf_Z _) ?_
      | refine sx_RU.call rfl rfl rfl rfl (cn_B _) ?_
      | refine sx_RU.call rfl rfl rfl rfl (cn_N _) ?_
      | refine sx_RU.call rfl rfl rfl rfl (cn_M _) ?_
      | refine sx_RU.call rfl rfl rfl rfl (cn_Z _) ?_
      | refine sx_RU.call rfl rfl rfl rfl (cg_27 _ _) ?_
      | refine sx_RU.call rfl rfl rfl rfl (cg_66 _ _) ?_
      | refine sx_RU.call rfl rfl rfl rfl (cg_156 _ _) ?_
      | refine sx_RU.call rfl rfl rfl rfl (cg_186 _ _) ?_
      | (refine sx_RU.call rfl rfl rfl rfl (cx_7 _ _ _ _) ?_; first | rw [if_pos (by assumption)] | rw [if_neg (by assumption)] | rw [if_pos (by decide)])
      | (refine sx_RU.call rfl rfl rfl rfl (cx_8 _ _ _ _ _ _) ?_; first | rw [if_pos (by assumption)] | rw [if_neg (by assumption)] | rw [if_pos (by decide)])
      | (refine sx_RU.call rfl rfl rfl rfl (cx_22 _ _ _ _) ?_; first | rw [if_pos (by assumption)] | rw [if_neg (by assumption)] | rw [if_pos (by decide)])
      | (refine sx_RU.call rfl rfl rfl rfl (cx_23 _ _ _ _) ?_; first | rw [if_pos (by assumption)] | rw [if_neg (by assumption)] | rw [if_pos (by decide)])
      | (refine sx_RU.call rfl rfl rfl rfl (cx_131 _ _ _ _) ?_; first | rw [if_pos (by assumption)] | rw [if_neg (by assumption)] | rw [if_pos (by decide)])
      | (refine sx_RU.call rfl rfl rfl rfl (cx_132 _ _ _ _ _ _) ?_; first | rw [if_pos (by assumption)] | rw [if_neg (by assumption)] | rw [if_pos (by decide)])
      | (refine sx_RU.call rfl rfl rfl rfl (cx_151 _ _ _ _) ?_; first | rw [if_pos (by assumption)] | rw [if_neg (by assumption)] | rw [if_pos (by decide)])
      | (refine sx_RU.call rfl rfl rfl rfl (cx_152 _ _ _ _) ?_; first | rw [if_pos (by assumption)] | rw [if_neg (by assumption)] | rw [if_pos (by decide)])
      | (refine sx_RU.call rfl rfl rfl rfl (cx_231 _ _ _ _) ?_; first | rw [if_pos (by assumption)] | rw [if_neg (by assumption)] | rw [if_pos (by decide)])
      | (refine sx_RU.call rfl rfl rfl rfl (cx_197 _ _ _ _) ?_; first | rw [if_pos (by assumption)] | rw [if_neg (by assumption)] | rw [if_pos (by decide)])
      | (refine sx_RU.call rfl rfl rfl rfl (cx_112 _ _ _ _) ?_; first | rw [if_pos (by assumption)] | rw [if_neg (by assumption)] | rw [if_pos (by decide)])
      | refine sx_RU.br rfl rfl (fun _ => ?_) (fun q => (of_decide_eq_false q (by assumption)).elim)
      | refine sx_RU.br rfl rfl (fun q => ((by assumption : ¬ _) (of_decide_eq_true q)).elim) (fun _ => ?_)
      | refine sx_RU.swo rfl (by assumption) rfl ?_)
set_option maxRecDepth 20000 in
theorem k_falls_o0 (ys : List Int32) (a1 a2 : Int32) (n0 : ¬ (0 ≤ a1 ∧ a1 ≤ 47)) : sx_twoI ys 76 196 [.int a1, .int a2] := by
  refine ⟨(-1000000001), sx_vB, sx_vB2, _, rfl, ?_, ?_⟩
  · repeat (first
      | refine sx_RU.step rfl rfl ?_
      | exact sx_RU.ret rfl rfl
      | refine sx_RU.call rfl rfl rfl rfl (cf_B _) ?_
      | refine sx_RU.call rfl rfl rfl rfl (cf_N _) ?_
      | refine sx_RU.call rfl rfl rfl rfl (cf_M _) ?_
      | refine sx_RU.call rfl rfl rfl rfl (cf_Z _) ?_
      | refine sx_RU.call rfl rfl rfl rfl (cn_B _) ?_
      | refine sx_RU.call rfl rfl rfl rfl (cn_N _) ?_
      | refine sx_RU.call rfl rfl rfl rfl (cn_M _) ?_
      | refine sx_RU.call rfl rfl rfl rfl (cn_Z _) ?_
      | refine sx_RU.call rfl rfl rfl rfl (cg_27 _ _) ?_
      | refine sx_RU.call rfl rfl rfl rfl (cg_66 _ _) ?_
      | refine sx_RU.call rfl rfl rfl rfl (cg_156 _ _) ?_
      | refine sx_RU.call rfl rfl rfl rfl (cg_186 _ _) ?_
      | (refine sx_RU.call rfl rfl rfl rfl (cx_7 _ _ _ _) ?_; first | rw [if_pos (by assumption)] | rw [if_neg (by assumption)] | rw [if_pos (by decide)])
      | (refine sx_RU.call rfl rfl rfl rfl (cx_8 _ _ _ _ _ _) ?_; first | rw [if_pos (by assumption)] | rw [if_neg (by assumption)] | rw [if_pos (by decide)])
      | (refine sx_RU.call rfl rfl rfl rfl (cx_22 _ _ _ _) ?_; first | rw [if_pos (by assumption)] | rw [if_neg (by assumption)] | rw [if_pos (by decide)])
      | (refine sx_RU.call rfl rfl rfl rfl (cx_23 _ _ _ _) ?_; first | rw [if_pos (by assumption)] | rw [if_neg (by assumption)] | rw [if_pos (by decide)])
      | (refine sx_RU.call rfl rfl rfl rfl (cx_131 _ _ _ _) ?_; first | rw [if_pos (by assumption)] | rw [if_neg (by assumption)] | rw [if_pos (by decide)])
      | (refine sx_RU.call rfl rfl rfl rfl (cx_132 _ _ _ _ _ _) ?_; first | rw [if_pos (by assumption)] | rw [if_neg (by assumption)] | rw [if_pos (by decide)])
      | (refine sx_RU.call rfl rfl rfl rfl (cx_151 _ _ _ _) ?_; first | rw [if_pos (by assumption)] | rw [if_neg (by assumption)] | rw [if_pos (by decide)])
      | (refine sx_RU.call rfl rfl rfl rfl (cx_152 _ _ _ _) ?_; first | rw [if_pos (by assumption)] | rw [if_neg (by assumption)] | rw [if_pos (by decide)])
      | (refine sx_RU.call rfl rfl rfl rfl (cx_231 _ _ _ _) ?_; first | rw [if_pos (by assumption)] | rw [if_neg (by assumption)] | rw [if_pos (by decide)])
      | (refine sx_RU.call rfl rfl rfl rfl (cx_197 _ _ _ _) ?_; first | rw [if_pos (by assumption)] | rw [if_neg (by assumption)] | rw [if_pos (by decide)])
      | (refine sx_RU.call rfl rfl rfl rfl (cx_112 _ _ _ _) ?_; first | rw [if_pos (by assumption)] | rw [if_neg (by assumption)] | rw [if_pos (by decide)])
      | refine sx_RU.br rfl rfl (fun _ => ?_) (fun q => (of_decide_eq_false q (by assumption)).elim)
      | refine sx_RU.br rfl rfl (fun q => ((by assumption : ¬ _) (of_decide_eq_true q)).elim) (fun _ => ?_)
      | refine sx_RU.swo rfl (by assumption) rfl ?_)
  · repeat (first
      | refine sx_RU.step rfl rfl ?_
      | exact sx_RU.ret rfl rfl
      | refine sx_RU.call rfl rfl rfl rfl (cf_B _) ?_
      | refine sx_RU.call rfl rfl rfl rfl (cf_N _) ?_
      | refine sx_RU.call rfl rfl rfl rfl (cf_M _) ?_
      | refine sx_RU.call rfl rfl rfl rfl (cf_Z _) ?_
      | refine sx_RU.call rfl rfl rfl rfl (cn_B _) ?_
      | refine sx_RU.call rfl rfl rfl rfl (cn_N _) ?_
      | refine sx_RU.call rfl rfl rfl rfl (cn_M _) ?_
      | refine sx_RU.call rfl rfl rfl rfl (cn_Z _) ?_
      | refine sx_RU.call rfl rfl rfl rfl (cg_27 _ _) ?_
      | refine sx_RU.call rfl rfl rfl rfl (cg_66 _ _) ?_
      | refine sx_RU.call rfl rfl rfl rfl (cg_156 _ _) ?_
      | refine sx_RU.call rfl rfl rfl rfl (cg_186 _ _) ?_
      | (refine sx_RU.call rfl rfl rfl rfl (cx_7 _ _ _ _) ?_; first | rw [if_pos (by assumption)] | rw [if_neg (by assumption)] | rw [if_pos (by decide)])
      | (refine sx_RU.call rfl rfl rfl rfl (cx_8 _ _ _ _ _ _) ?_; first | rw [if_pos (by assumption)] | rw [if_neg (by assumption)] | rw [if_pos (by decide)])
      | (refine sx_RU.call rfl rfl rfl rfl (cx_22 _ _ _ _) ?_; first | rw [if_pos (by assumption)] | rw [if_neg (by assumption)] | rw [if_pos (by decide)])
      | (refine sx_RU.call rfl rfl rfl rfl (cx_23 _ _ _ _) ?_; first | rw [if_pos (by assumption)] | rw [if_neg (by assumption)] | rw [if_pos (by decide)])
      | (refine sx_RU.call rfl rfl rfl rfl (cx_131 _ _ _ _) ?_; first | rw [if_pos (by assumption)] | rw [if_neg (by assumption)] | rw [if_pos (by decide)])
      | (refine sx_RU.call rfl rfl rfl rfl (cx_132 _ _ _ _ _ _) ?_; first | rw [if_pos (by assumption)] | rw [if_neg (by assumption)] | rw [if_pos (by decide)])
      | (refine sx_RU.call rfl rfl rfl rfl (cx_151 _ _ _ _) ?_; first | rw [if_pos (by assumption)] | rw [if_neg (by assumption)] | rw [if_pos (by decide)])
      | (refine sx_RU.call rfl rfl rfl rfl (cx_152 _ _ _ _) ?_; first | rw [if_pos (by assumption)] | rw [if_neg (by assumption)] | rw [if_pos (by decide)])
      | (refine sx_RU.call rfl rfl rfl rfl (cx_231 _ _ _ _) ?_; first | rw [if_pos (by assumption)] | rw [if_neg (by assumption)] | rw [if_pos (by decide)])
      | (refine sx_RU.call rfl rfl rfl rfl (cx_197 _ _ _ _) ?_; first | rw [if_pos (by assumption)] | rw [if_neg (by assumption)] | rw [if_pos (by decide)])
      | (refine sx_RU.call rfl rfl rfl rfl (cx_112 _ _ _ _) ?_; first | rw [if_pos (by assumption)] | rw [if_neg (by assumption)] | rw [if_pos (by decide)])
      | refine sx_RU.br rfl rfl (fun _ => ?_) (fun q => (of_decide_eq_false q (by assumption)).elim)
      | refine sx_RU.br rfl rfl (fun q => ((by assumption : ¬ _) (of_decide_eq_true q)).elim) (fun _ => ?_)
      | refine sx_RU.swo rfl (by assumption) rfl ?_)
set_option maxRecDepth 20000 in
theorem k_falls_o1 (ys : List Int32) (a1 a2 : Int32) (p0 : (0 ≤ a1 ∧ a1 ≤ 47)) (n1 : ¬ (1 ≤ a2 ∧ a2 ≤ 30)) : sx_twoI ys 76 196 [.int a1, .int a2] := by
  refine ⟨(-1000000001), sx_vB, sx_vB2, _, rfl, ?_, ?_⟩
  · repeat (first
      | refine sx_RU.step rfl rfl ?_
      | exact sx_RU.ret rfl rfl
      | refine sx_RU.call rfl rfl rfl rfl (cf_B _) ?_
      | refine sx_RU.call rfl rfl rfl rfl (cf_N _) ?_
      | refine sx_RU.call rfl rfl rfl rfl (cf_M _) ?_
      | refine sx_RU.call rfl rfl rfl rfl (cf_Z _) ?_
      | refine sx_RU.call rfl rfl rfl rfl (cn_B _) ?_
      | refine sx_RU.call rfl rfl rfl rfl (cn_N _) ?_
      | refine sx_RU.call rfl rfl rfl rfl (cn_M _) ?_
      | refine sx_RU.call rfl rfl rfl rfl (cn_Z _) ?_
      | refine sx_RU.call rfl rfl rfl rfl (cg_27 _ _) ?_
      | refine sx_RU.call rfl rfl rfl rfl (cg_66 _ _) ?_
      | refine sx_RU.call rfl rfl rfl rfl (cg_156 _ _) ?_
      | refine sx_RU.call rfl rfl rfl rfl (cg_186 _ _) ?_
      | (refine sx_RU.call rfl rfl rfl rfl (cx_7 _ _ _ _) ?_; first | rw [if_pos (by assumption)] | rw [if_neg (by assumption)] | rw [if_pos (by decide)])
      | (refine sx_RU.call rfl rfl rfl rfl (cx_8 _ _ _ _ _ _) ?_; first | rw [if_pos (by assumption)] | rw [if_neg (by assumption)] | rw [if_pos (by decide)])
      | (refine sx_RU.call rfl rfl rfl rfl (cx_22 _ _ _ _) ?_; first | rw [if_pos (by assumption)] | rw [if_neg (by assumption)] | rw [if_pos (by decide)])
      | (refine sx_RU.call rfl rfl rfl rfl (cx_23 _ _ _ _) ?_; first | rw [if_pos (by assumption)] | rw [if_neg (by assumption)] | rw [if_pos (by decide)])
      | (refine sx_RU.call rfl rfl rfl rfl (cx_131 _ _ _ _) ?_; first | rw [if_pos (by assumption)] | rw [if_neg (by assumption)] | rw [if_pos (by decide)])
      | (refine sx_RU.call rfl rfl rfl rfl (cx_132 _ _ _ _ _ _) ?_; first | rw [if_pos (by assumption)] | rw [if_neg (by assumption)] | rw [if_pos (by decide)])
      | (refine sx_RU.call rfl rfl rfl rfl (cx_151 _ _ _ _) ?_; first | rw [if_pos (by assumption)] | rw [if_neg (by assumption)] | rw [if_pos (by decide)])
      | (refine sx_RU.call rfl rfl rfl rfl (cx_152 _ _ _ _) ?_; first | rw [if_pos (by assumption)] | rw [if_neg (by assumption)] | rw [if_pos (by decide)])
      | (refine sx_RU.call rfl rfl rfl rfl (cx_231 _ _ _ _) ?_; first | rw [if_pos (by assumption)] | rw [if_neg (by assumption)] | rw [if_pos (by decide)])
      | (refine sx_RU.call rfl rfl rfl rfl (cx_197 _ _ _ _) ?_; first | rw [if_pos (by assumption)] | rw [if_neg (by assumption)] | rw [if_pos (by decide)])
      | (refine sx_RU.call rfl rfl rfl rfl (cx_112 _ _ _ _) ?_; first | rw [if_pos (by assumption)] | rw [if_neg (by assumption)] | rw [if_pos (by decide)])
      | refine sx_RU.br rfl rfl (fun _ => ?_) (fun q => (of_decide_eq_false q (by assumption)).elim)
      | refine sx_RU.br rfl rfl (fun q => ((by assumption : ¬ _) (of_decide_eq_true q)).elim) (fun _ => ?_)
      | refine sx_RU.swo rfl (by assumption) rfl ?_)
  · repeat (first
      | refine sx_RU.step rfl rfl ?_
      | exact sx_RU.ret rfl rfl
      | refine sx_RU.call rfl rfl rfl rfl (cf_B _) ?_
      | refine sx_RU.call rfl rfl rfl rfl (cf_N _) ?_
      | refine sx_RU.call rfl rfl rfl rfl (cf_M _) ?_
      | refine sx_RU.call rfl rfl rfl rfl (cf_Z _) ?_
      | refine sx_RU.call rfl rfl rfl rfl (cn_B _) ?_
      | refine sx_RU.call rfl rfl rfl rfl (cn_N _) ?_
      | refine sx_RU.call rfl rfl rfl rfl (cn_M _) ?_
      | refine sx_RU.call rfl rfl rfl rfl (cn_Z _) ?_
      | refine sx_RU.call rfl rfl rfl rfl (cg_27 _ _) ?_
      | refine sx_RU.call rfl rfl rfl rfl (cg_66 _ _) ?_
      | refine sx_RU.call rfl rfl rfl rfl (cg_156 _ _) ?_
      | refine sx_RU.call rfl rfl rfl rfl (cg_186 _ _) ?_
      | (refine sx_RU.call rfl rfl rfl rfl (cx_7 _ _ _ _) ?_; first | rw [if_pos (by assumption)] | rw [if_neg (by assumption)] | rw [if_pos (by decide)])
      | (refine sx_RU.call rfl rfl rfl rfl (cx_8 _ _ _ _ _ _) ?_; first | rw [if_pos (by assumption)] | rw [if_neg (by assumption)] | rw [if_pos (by decide)])
      | (refine sx_RU.call rfl rfl rfl rfl (cx_22 _ _ _ _) ?_; first | rw [if_pos (by assumption)] | rw [if_neg (by assumption)] | rw [if_pos (by decide)])
      | (refine sx_RU.call rfl rfl rfl rfl (cx_23 _ _ _ _) ?_; first | rw [if_pos (by assumption)] | rw [if_neg (by assumption)] | rw [if_pos (by decide)])
      | (refine sx_RU.call rfl rfl rfl rfl (cx_131 _ _ _ _) ?_; first | rw [if_pos (by assumption)] | rw [if_neg (by assumption)] | rw [if_pos (by decide)])
      | (refine sx_RU.call rfl rfl rfl rfl (cx_132 _ _ _ _ _ _) ?_; first | rw [if_pos (by assumption)] | rw [if_neg (by assumption)] | rw [if_pos (by decide)])
      | (refine sx_RU.call rfl rfl rfl rfl (cx_151 _ _ _ _) ?_; first | rw [if_pos (by assumption)] | rw [if_neg (by assumption)] | rw [if_pos (by decide)])
      | (refine sx_RU.call rfl rfl rfl rfl (cx_152 _ _ _ _) ?_; first | rw [if_pos (by assumption)] | rw [if_neg (by assumption)] | rw [if_pos (by decide)])
      | (refine sx_RU.call rfl rfl rfl rfl (cx_231 _ _ _ _) ?_; first | rw [if_pos (by assumption)] | rw [if_neg (by assumption)] | rw [if_pos (by decide)])
      | (refine sx_RU.call rfl rfl rfl rfl (cx_197 _ _ _ _) ?_; first | rw [if_pos (by assumption)] | rw [if_neg (by assumption)] | rw [if_pos (by decide)])
      | (refine sx_RU.call rfl rfl rfl rfl (cx_112 _ _ _ _) ?_; first | rw [if_pos (by assumption)] | rw [if_neg (by assumption)] | rw [if_pos (by decide)])
      | refine sx_RU.br rfl rfl (fun _ => ?_) (fun q => (of_decide_eq_false q (by assumption)).elim)
      | refine sx_RU.br rfl rfl (fun q => ((by assumption : ¬ _) (of_decide_eq_true q)).elim) (fun _ => ?_)
      | refine sx_RU.swo rfl (by assumption) rfl ?_)
set_option maxRecDepth 20000 in
theorem k_blow_o0 (ys : List Int32) (a1 a2 : Int32) (n0 : ¬ (0 ≤ a1 ∧ a1 ≤ 47)) : sx_twoI ys 79 201 [.int a1, .int a2] := by
  refine ⟨(-1000000001), sx_vB, sx_vB2, _, rfl, ?_, ?_⟩
  · repeat (first
      | refine sx_RU.step rfl rfl ?_
      | exact sx_RU.ret rfl rfl
      | refine sx_RU.call rfl rfl rfl rfl (cf_B _) ?_
      | refine sx_RU.call rfl rfl rfl rfl (cf_N _) ?_
      | refine sx_RU.call rfl rfl rfl rfl (cf_M _) ?_
      | refine sx_RU.call rfl rfl rfl rfl (cf_Z _) ?_
      | refine sx_RU.call rfl rfl rfl rfl (cn_B _) ?_
      | refine sx_RU.call rfl rfl rfl rfl (cn_N _) ?_
      | refine sx_RU.call rfl rfl rfl rfl (cn_M _) ?_
      | refine sx_RU.call rfl rfl rfl rfl (cn_Z _) ?_
      | refine sx_RU.call rfl rfl rfl rfl (cg_27 _ _) ?_
      | refine sx_RU.call rfl rfl rfl rfl (cg_66 _ _) ?_
      | refine sx_RU.call rfl rfl rfl rfl (cg_156 _ _) ?_
      | refine sx_RU.call rfl rfl rfl rfl (cg_186 _ _) ?_
      | (refine sx_RU.call rfl rfl rfl rfl (cx_7 _ _ _ _) ?_; first | rw [if_pos (by assumption)] | rw [if_neg (by assumption)] | rw [if_pos (by decide)])
      | (refine sx_RU.call rfl rfl rfl rfl (cx_8 _ _ _ _ _ _) ?_; first | rw [if_pos (by assumption)] | rw [if_neg (by assumption)] | rw [if_pos (by decide)])
      | (refine sx_RU.call rfl rfl rfl rfl (cx_22 _ _ _ _) ?_; first | rw [if_pos (by assumption)] | rw [if_neg (by assumption)] | rw [if_pos (by decide)])
      | (refine sx_RU.call rfl rfl rfl rfl (cx_23 _ _ _ _) ?_; first | rw [if_pos (by assumption)] | rw [if_neg (by assumption)] | rw [if_pos (by decide)])
      | (refine sx_RU.call rfl rfl rfl rfl (cx_131 _ _ _ _) ?_; first | rw [if_pos (by assumption)] | rw [if_neg (by assumption)] | rw [if_pos (by decide)])
      | (refine sx_RU.call rfl rfl rfl rfl (cx_132 _ _ _ _ _ _) ?_; first | rw [if_pos (by assumption)] | rw [if_neg (by assumption)] | rw [if_pos (by decide)])
      | (refine sx_RU.call rfl rfl rfl rfl (cx_151 _ _ _ _) ?_; first | rw [if_pos (by assumption)] | rw [if_neg (by assumption)] | rw [if_pos (by decide)])
      | (refine sx_RU.call rfl rfl rfl rfl (cx_152 _ _ _ _) ?_; first | rw [if_pos (by assumption)] | rw [if_neg (by assumption)] | rw [if_pos (by decide)])
      | (refine sx_RU.call rfl rfl rfl rfl (cx_231 _ _ _ _) ?_; first | rw [if_pos (by assumption)] | rw [if_neg (by assumption)] | rw [if_pos (by decide)])
      | (refine sx_RU.call rfl rfl rfl rfl (cx_197 _ _ _ _) ?_; first | rw [if_pos (by assumption)] | rw [if_neg (by assumption)] | rw [if_pos (by decide)])
      | (refine sx_RU.call rfl rfl rfl rfl (cx_112 _ _ _ _) ?_; first | rw [if_pos (by assumption)] | rw [if_neg (by assumption)] | rw [if_pos (by decide)])
      | refine sx_RU.br rfl rfl (fun _ => ?_) (fun q => (of_decide_eq_false q (by assumption)).elim)
      | refine sx_RU.br rfl rfl (fun q => ((by assumption : ¬ _) (of_decide_eq_true q)).elim) (fun _ => ?_)
      | refine sx_RU.swo rfl (by assumption) rfl ?_)
  · repeat (first
      | refine sx_RU.step rfl rfl ?_
      | exact sx_RU.ret rfl rfl
      | refine sx_RU.call rfl rfl rfl rfl (cf_B _) ?_
      | refine sx_RU.call rfl rfl rfl rfl (cf_N _) ?_
      | refine sx_RU.call rfl rfl rfl rfl (cf_M _) ?_
      | refine sx_RU.call rfl rfl rfl rfl (cf_Z _) ?_
      | refine sx_RU.call rfl rfl rfl rfl (cn_B _) ?_
      | refine sx_RU.call rfl rfl rfl rfl (cn_N _) ?_
      | refine sx_RU.call rfl rfl rfl rfl (cn_M _) ?_
      | refine sx_RU.call rfl rfl rfl rfl (cn_Z _) ?_
      | refine sx_RU.call rfl rfl rfl rfl (cg_27 _ _) ?_
      | refine sx_RU.call rfl rfl rfl rfl (cg_66 _ _) ?_
      | refine sx_RU.call rfl rfl rfl rfl (cg_156 _ _) ?_
      | refine sx_RU.call rfl rfl rfl rfl (cg_186 _ _) ?_
      | (refine sx_RU.call rfl rfl rfl rfl (cx_7 _ _ _ _) ?_; first | rw [if_pos (by assumption)] | rw [if_neg (by assumption)] | rw [if_pos (by decide)])
      | (refine sx_RU.call rfl rfl rfl rfl (cx_8 _ _ _ _ _ _) ?_; first | rw [if_pos (by assumption)] | rw [if_neg (by assumption)] | rw [if_pos (by decide)])
      | (refine sx_RU.call rfl rfl rfl rfl (cx_22 _ _ _ _) ?_; first | rw [if_pos (by assumption)] | rw [if_neg (by assumption)] | rw [if_pos (by decide)])
      | (refine sx_RU.call rfl rfl rfl rfl (cx_23 _ _ _ _) ?_; first | rw [if_pos (by assumption)] | rw [if_neg (by assumption)] | rw [if_pos (by decide)])
      | (refine sx_RU.call rfl rfl rfl rfl (cx_131 _ _ _ _) ?_; first | rw [if_pos (by assumption)] | rw [if_neg (by assumption)] | rw [if_pos (by decide)])
      | (refine sx_RU.call rfl rfl rfl rfl (cx_132 _ _ _ _ _ _) ?_; first | rw [if_pos (by assumption)] | rw [if_neg (by assumption)] | rw [if_pos (by decide)])
      | (refine sx_RU.call rfl rfl rfl rfl (cx_151 _ _ _ _) ?_; first | rw [if_pos (by assumption)] | rw [if_neg (by assumption)] | rw [if_pos (by decide)])
      | (refine sx_RU.call rfl rfl rfl rfl (cx_152 _ _ _ _) ?_; first | rw [if_pos (by assumption)] | rw [if_neg (by assumption)] | rw [if_pos (by decide)])
      | (refine sx_RU.call rfl rfl rfl rfl (cx_231 _ _ _ _) ?_; first | rw [if_pos (by assumption)] | rw [if_neg (by assumption)] | rw [if_pos (by decide)])
      | (refine sx_RU.call rfl rfl rfl rfl (cx_197 _ _ _ _) ?_; first | rw [if_pos (by assumption)] | rw [if_neg (by assumption)] | rw [if_pos (by decide)])
      | (refine sx_RU.call rfl rfl rfl rfl (cx_112 _ _ _ _) ?_; first | rw [if_pos (by assumption)] | rw [if_neg (by assumption)] | rw [if_pos (by decide)])
      | refine sx_RU.br rfl rfl (fun _ => ?_) (fun q => (of_decide_eq_false q (by assumption)).elim)
      | refine sx_RU.br rfl rfl (fun q => ((by assumption : ¬ _) (of_decide_eq_true q)).elim) (fun _ => ?_)
      | refine sx_RU.swo rfl (by assumption) rfl ?_)
set_option maxRecDepth 20000 in
theorem k_blow_o1 (ys : List Int32) (a1 a2 : Int32) (p0 : (0 ≤ a1 ∧ a1 ≤ 47)) (n1 : ¬ (1 ≤ a2 ∧ a2 ≤ 30)) : sx_twoI ys 79 201 [.int a1, .int a2] := by
  refine ⟨(-1000000001), sx_vB, sx_vB2, _, rfl, ?_, ?_⟩
  · repeat (first
      | refine sx_RU.step rfl rfl ?_
      | exact sx_RU.ret rfl rfl
      | refine sx_RU.call rfl rfl rfl rfl (cf_B _) ?_
      | refine sx_RU.call rfl rfl rfl rfl (cf_N _) ?_
      | refine sx_RU.call rfl rfl rfl rfl (cf_M _) ?_
      | refine sx_RU.call rfl rfl rfl rfl (cf_Z _) ?_
      | refine sx_RU.call rfl rfl rfl rfl (cn_B _) ?_
      | refine sx_RU.call rfl rfl rfl rfl (cn_N _) ?_
      | refine sx_RU.call rfl rfl rfl rfl (cn_M _) ?_
      | refine sx_RU.call rfl rfl rfl rfl (cn_Z _) ?_
      | refine sx_RU.call rfl rfl rfl rfl (cg_27 _ _) ?_
      | refine sx_RU.call rfl rfl rfl rfl (cg_66 _ _) ?_
      | refine sx_RU.call rfl rfl rfl rfl (cg_156 _ _) ?_
      | refine sx_RU.call rfl rfl rfl rfl (cg_186 _ _) ?_
      | (refine sx_RU.call rfl rfl rfl rfl (cx_7 _ _ _ _) ?_; first | rw [if_pos (by assumption)] | rw [if_neg (by assumption)] | rw [if_pos (by decide)])
      | (refine sx_RU.call rfl rfl rfl rfl (cx_8 _ _ _ _ _ _) ?_; first | rw [if_pos (by assumption)] | rw [if_neg (by assumption)] | rw [if_pos (by decide)])
      | (refine sx_RU.call rfl rfl rfl rfl (cx_22 _ _ _ _) ?_; first | rw [if_pos (by assumption)] | rw [if_neg (by assumption)] | rw [if_pos (by decide)])
      | (refine sx_RU.call rfl rfl rfl rfl (cx_23 _ _ _ _) ?_; first | rw [if_pos (by assumption)] | rw [if_neg (by assumption)] | rw [if_pos (by decide)])
      | (refine sx_RU.call rfl rfl rfl rfl (cx_131 _ _ _ _) ?_; first | rw [if_pos (by assumption)] | rw [if_neg (by assumption)] | rw [if_pos (by decide)])
      | (refine sx_RU.call rfl rfl rfl rfl (cx_132 _ _ _ _ _ _) ?_; first | rw [if_pos (by assumption)] | rw [if_neg (by assumption)] | rw [if_pos (by decide)])
      | (refine sx_RU.call rfl rfl rfl rfl (cx_151 _ _ _ _) ?_; first | rw [if_pos (by assumption)] | rw [if_neg (by assumption)] | rw [if_pos (by decide)])
      | (refine sx_RU.call rfl rfl rfl rfl (cx_152 _ _ _ _) ?_; first | rw [if_pos (by assumption)] | rw [if_neg (by assumption)] | rw [if_pos (by decide)])
      | (refine sx_RU.call rfl rfl rfl rfl (cx_231 _ _ _ _) ?_; first | rw [if_pos (by assumption)] | rw [if_neg (by assumption)] | rw [if_pos (by decide)])
      | (refine sx_RU.call rfl rfl rfl rfl (cx_197 _ _ _ _) ?_; first | rw [if_pos (by assumption)] | rw [if_neg (by assumption)] | rw [if_pos (by decide)])
      | (refine sx_RU.call rfl rfl rfl rfl (cx_112 _ _ _ _) ?_; first | rw [if_pos (by assumption)] | rw [if_neg (by assumption)] | rw [if_pos (by decide)])
      | refine sx_RU.br rfl rfl (fun _ => ?_) (fun q => (of_decide_eq_false q (by assumption)).elim)
      | refine sx_RU.br rfl rfl (fun q => ((by assumption : ¬ _) (of_decide_eq_true q)).elim) (fun _ => ?_)
      | refine sx_RU.swo rfl (by assumption) rfl ?_)
  · repeat (first
      | refine sx_RU.step rfl rfl ?_
      | exact sx_RU.ret rfl rfl
      | refine sx_RU.call rfl rfl rfl rfl (cf_B _) ?_
      | refine sx_RU.call rfl rfl rfl rfl (cf_N _) ?_
      | refine sx_RU.call rfl rfl rfl rfl (cf_M _) ?_
      | refine sx_RU.call rfl rfl rfl rfl (cf_Z _) ?_
      | refine sx_RU.call rfl rfl rfl rfl (cn_B _) ?_
      | refine sx_RU.call rfl rfl rfl rfl (cn_N _) ?_
      | refine sx_RU.call rfl rfl rfl rfl (cn_M _) ?_
      | refine sx_RU.call rfl rfl rfl rfl (cn_Z _) ?_
      | refine sx_RU.call rfl rfl rfl rfl (cg_27 _ _) ?_
      | refine sx_RU.call rfl rfl rfl rfl (cg_66 _ _) ?_
      | refine sx_RU.call rfl rfl rfl rfl (cg_156 _ _) ?_
      | refine sx_RU.call rfl rfl rfl rfl (cg_186 _ _) ?_
      | (refine sx_RU.call rfl rfl rfl rfl (cx_7 _ _ _ _) ?_; first | rw [if_pos (by assumption)] | rw [if_neg (by assumption)] | rw [if_pos (by decide)])
      | (refine sx_RU.call rfl rfl rfl rfl (cx_8 _ _ _ _ _ _) ?_; first | rw [if_pos (by assumption)] | rw [if_neg (by assumption)] | rw [if_pos (by decide)])
      | (refine sx_RU.call rfl rfl rfl rfl (cx_22 _ _ _ _) ?_; first | rw [if_pos (by assumption)] | rw [if_neg (by assumption)] | rw [if_pos (by decide)])
      | (refine sx_RU.call rfl rfl rfl rfl (cx_23 _ _ _ _) ?_; first | rw [if_pos (by assumption)] | rw [if_neg (by assumption)] | rw [if_pos (by decide)])
      | (refine sx_RU.call rfl rfl rfl rfl (cx_131 _ _ _ _) ?_; first | rw [if_pos (by assumption)] | rw [if_neg (by assumption)] | rw [if_pos (by decide)])
      | (refine sx_RU.call rfl rfl rfl rfl (cx_132 _ _ _ _ _ _) ?_; first | rw [if_pos (by assumption)] | rw [if_neg (by assumption)] | rw [if_pos (by decide)])
      | (refine sx_RU.call rfl rfl rfl rfl (cx_151 _ _ _ _) ?_; first | rw [if_pos (by assumption)] | rw [if_neg (by assumption)] | rw [if_pos (by decide)])
      | (refine sx_RU.call rfl rfl rfl rfl (cx_152 _ _ _ _) ?_; first | rw [if_pos (by assumption)] | rw [if_neg (by assumption)] | rw [if_pos (by decide)])
      | (refine sx_RU.call rfl rfl rfl rfl (cx_231 _ _ _ _) ?_; first | rw [if_pos (by assumption)] | rw [if_neg (by assumption)] | rw [if_pos (by decide)])
      | (refine sx_RU.call rfl rfl rfl rfl (cx_197 _ _ _ _) ?_; first | rw [if_pos (by assumption)] | rw [if_neg (by assumption)] | rw [if_pos (by decide)])
      | (refine sx_RU.call rfl rfl rfl rfl (cx_112 _ _ _ _) ?_; first | rw [if_pos (by assumption)] | rw [if_neg (by assumption)] | rw [if_pos (by decide)])
      | refine sx_RU.br rfl rfl (fun _ => ?_) (fun q => (of_decide_eq_false q (by assumption)).elim)
      | refine sx_RU.br rfl rfl (fun q => ((by assumption : ¬ _) (of_decide_eq_true q)).elim) (fun _ => ?_)
      | refine sx_RU.swo rfl (by assumption) rfl ?_)
set_option maxRecDepth 20000 in
theorem k_mine_o0 (ys : List Int32) (a1 : Int32) (n0 : ¬ (1 ≤ a1 ∧ a1 ≤ 30)) : sx_twoI ys 81 202 [.int a1] := by
  refine ⟨(-1000000001), sx_vB, sx_vB2, _, rfl, ?_, ?_⟩
  · repeat (first
      | refine sx_RU.step rfl rfl ?_
      | exact sx_RU.ret rfl rfl
      | refine sx_RU.call rfl rfl rfl rfl (cf_B _) ?_
      | refine sx_RU.call rfl rfl rfl rfl (cf_N _) ?_
      | refine sx_RU.call rfl rfl rfl rfl (cf_M _) ?_
      | refine sx_RU.call rfl rfl rfl rfl (cf_Z _) ?_
      | refine sx_RU.call rfl rfl rfl rfl (cn_B _) ?_
      | refine sx_RU.call rfl rfl rfl rfl (cn_N _) ?_
      | refine sx_RU.call rfl rfl rfl rfl (cn_M _) ?_
      | refine sx_RU.call rfl rfl rfl rfl (cn_Z _) ?_
      | refine sx_RU.call rfl rfl rfl rfl (cg_27 _ _) ?_
      | refine sx_RU.call rfl rfl rfl rfl (cg_66 _ _) ?_
      | refine sx_RU.call rfl rfl rfl rfl (cg_156 _ _) ?_
      | refine sx_RU.call rfl rfl rfl rfl (cg_186 _ _) ?_
      | (refine sx_RU.call rfl rfl rfl rfl (cx_7 _ _ _ _) ?_; first | rw [if_pos (by assumption)] | rw [if_neg (by assumption)] | rw [if_pos (by decide)])
      | (refine sx_RU.call rfl rfl rfl rfl (cx_8 _ _ _ _ _ _) ?_; first | rw [if_pos (by assumption)] | rw [if_neg (by assumption)] | rw [if_pos (by decide)])
      | (refine sx_RU.call rfl rfl rfl rfl (cx_22 _ _ _ _) ?_; first | rw [if_pos (by assumption)] | rw [if_neg (by assumption)] | rw [if_pos (by decide)])
      | (refine sx_RU.call rfl rfl rfl rfl (cx_23 _ _ _ _) ?_; first | rw [if_pos (by assumption)] | rw [if_neg (by assumption)] | rw [if_pos (by decide)])
      | (refine sx_RU.call rfl rfl rfl rfl (cx_131 _ _ _ _) ?_; first | rw [if_pos (by assumption)] | rw [if_neg (by assumption)] | rw [if_pos (by decide)])
      | (refine sx_RU.call rfl rfl rfl rfl (cx_132 _ _ _ _ _ _) ?_; first | rw [if_pos (by assumption)] | rw [if_neg (by assumption)] | rw [if_pos (by decide)])
      | (refine sx_RU.call rfl rfl rfl rfl (cx_151 _ _ _ _) ?_; first | rw [if_pos (by assumption)] | rw [if_neg (by assumption)] | rw [if_pos (by decide)])
      | (refine sx_RU.call rfl rfl rfl rfl (cx_152 _ _ _ _) ?_; first | rw [if_pos (by assumption)] | rw [if_neg (by assumption)] | rw [if_pos (by decide)])
      | (refine sx_RU.call rfl rfl rfl rfl (cx_231 _ _ _ _) ?_; first | rw [if_pos (by assumption)] | rw [if_neg (by assumption)] | rw [if_pos (by decide)])
      | (refine sx_RU.call rfl rfl rfl rfl (cx_197 _ _ _ _) ?_; first | rw [if_pos (by assumption)] | rw [if_neg (by assumption)] | rw [if_pos (by decide)])
      | (refine sx_RU.call rfl rfl rfl rfl (cx_112 _ _ _ _) ?_; first | rw [if_pos (by assumption)] | rw [if_neg (by assumption)] | rw [if_pos (by decide)])
      | refine sx_RU.br rfl rfl (fun _ => ?_) (fun q => (of_decide_eq_false q (by assumption)).elim)
      | refine sx_RU.br rfl rfl (fun q => ((by assumption : ¬ _) (of_decide_eq_true q)).elim) (fun _ => ?_)
      | refine sx_RU.swo rfl (by assumption) rfl ?_)
  · repeat (first
      | refine sx_RU.step rfl rfl ?_
      | exact sx_RU.ret rfl rfl
      | refine sx_RU.call rfl rfl rfl rfl (cf_B _) ?_
      | refine sx_RU.call rfl rfl rfl rfl (cf_N _) ?_
      | refine sx_RU.call rfl rfl rfl rfl (cf_M _) ?_
      | refine sx_RU.call rfl rfl rfl rfl (cf_Z _) ?_
      | refine sx_RU.call rfl rfl rfl rfl (cn_B _) ?_
      | refine sx_RU.call rfl rfl rfl rfl (cn_N _) ?_
      | refine sx_RU.call rfl rfl rfl rfl (cn_M _) ?_
      | refine sx_RU.call rfl rfl rfl rfl (cn_Z _) ?_
      | refine sx_RU.call rfl rfl rfl rfl (cg_27 _ _) ?_
      | refine sx_RU.call rfl rfl rfl rfl (cg_66 _ _) ?_
      | refine sx_RU.call rfl rfl rfl rfl (cg_156 _ _) ?_
      | refine sx_RU.call rfl rfl rfl rfl (cg_186 _ _) ?_
      | (refine sx_RU.call rfl rfl rfl rfl (cx_7 _ _ _ _) ?_; first | rw [if_pos (by assumption)] | rw [if_neg (by assumption)] | rw [if_pos (by decide)])
      | (refine sx_RU.call rfl rfl rfl rfl (cx_8 _ _ _ _ _ _) ?_; first | rw [if_pos (by assumption)] | rw [if_neg (by assumption)] | rw [if_pos (by decide)])
      | (refine sx_RU.call rfl rfl rfl rfl (cx_22 _ _ _ _) ?_; first | rw [if_pos (by assumption)] | rw [if_neg (by assumption)] | rw [if_pos (by decide)])
      | (refine sx_RU.call rfl rfl rfl rfl (cx_23 _ _ _ _) ?_; first | rw [if_pos (by assumption)] | rw [if_neg (by assumption)] | rw [if_pos (by decide)])
      | (refine sx_RU.call rfl rfl rfl rfl (cx_131 _ _ _ _) ?_; first | rw [if_pos (by assumption)] | rw [if_neg (by assumption)] | rw [if_pos (by decide)])
      | (refine sx_RU.call rfl rfl rfl rfl (cx_132 _ _ _ _ _ _) ?_; first | rw [if_pos (by assumption)] | rw [if_neg (by assumption)] | rw [if_pos (by decide)])
      | (refine sx_RU.call rfl rfl rfl rfl (cx_151 _ _ _ _) ?_; first | rw [if_pos (by assumption)] | rw [if_neg (by assumption)] | rw [if_pos (by decide)])
      | (refine sx_RU.call rfl rfl rfl rfl (cx_152 _ _ _ _) ?_; first | rw [if_pos (by assumption)] | rw [if_neg (by assumption)] | rw [if_pos (by decide)])
      | (refine sx_RU.call rfl rfl rfl rfl (cx_231 _ _ _ _) ?_; first | rw [if_pos (by assumption)] | rw [if_neg (by assumption)] | rw [if_pos (by decide)])
      | (refine sx_RU.call rfl rfl rfl rfl (cx_197 _ _ _ _) ?_; first | rw [if_pos (by assumption)] | rw [if_neg (by assumption)] | rw [if_pos (by decide)])
      | (refine sx_RU.call rfl rfl rfl rfl (cx_112 _ _ _ _) ?_; first | rw [if_pos (by assumption)] | rw [if_neg (by assumption)] | rw [if_pos (by decide)])
      | refine sx_RU.br rfl rfl (fun _ => ?_) (fun q => (of_decide_eq_false q (by assumption)).elim)
      | refine sx_RU.br rfl rfl (fun q => ((by assumption : ¬ _) (of_decide_eq_true q)).elim) (fun _ => ?_)
      | refine sx_RU.swo rfl (by assumption) rfl ?_)
set_option maxRecDepth 20000 in
theorem k_ration_o0 (ys : List Int32) (a1 : Int32) (n0 : ¬ (1 ≤ a1 ∧ a1 ≤ 999)) : sx_twoI ys 86 207 [.int a1] := by
  refine ⟨(-1000000001), sx_vB, sx_vB2, _, rfl, ?_, ?_⟩
  · repeat (first
      | refine sx_RU.step rfl rfl ?_
      | exact sx_RU.ret rfl rfl
      | refine sx_RU.call rfl rfl rfl rfl (cf_B _) ?_
      | refine sx_RU.call rfl rfl rfl rfl (cf_N _) ?_
      | refine sx_RU.call rfl rfl rfl rfl (cf_M _) ?_
      | refine sx_RU.call rfl rfl rfl rfl (cf_Z _) ?_
      | refine sx_RU.call rfl rfl rfl rfl (cn_B _) ?_
      | refine sx_RU.call rfl rfl rfl rfl (cn_N _) ?_
      | refine sx_RU.call rfl rfl rfl rfl (cn_M _) ?_
      | refine sx_RU.call rfl rfl rfl rfl (cn_Z _) ?_
      | refine sx_RU.call rfl rfl rfl rfl (cg_27 _ _) ?_
      | refine sx_RU.call rfl rfl rfl rfl (cg_66 _ _) ?_
      | refine sx_RU.call rfl rfl rfl rfl (cg_156 _ _) ?_
      | refine sx_RU.call rfl rfl rfl rfl (cg_186 _ _) ?_
      | (refine sx_RU.call rfl rfl rfl rfl (cx_7 _ _ _ _) ?_; first | rw [if_pos (by assumption)] | rw [if_neg (by assumption)] | rw [if_pos (by decide)])
      | (refine sx_RU.call rfl rfl rfl rfl (cx_8 _ _ _ _ _ _) ?_; first | rw [if_pos (by assumption)] | rw [if_neg (by assumption)] | rw [if_pos (by decide)])
      | (refine sx_RU.call rfl rfl rfl rfl (cx_22 _ _ _ _) ?_; first | rw [if_pos (by assumption)] | rw [if_neg (by assumption)] | rw [if_pos (by decide)])
      | (refine sx_RU.call rfl rfl rfl rfl (cx_23 _ _ _ _) ?_; first | rw [if_pos (by assumption)] | rw [if_neg (by assumption)] | rw [if_pos (by decide)])
      | (refine sx_RU.call rfl rfl rfl rfl (cx_131 _ _ _ _) ?_; first | rw [if_pos (by assumption)] | rw [if_neg (by assumption)] | rw [if_pos (by decide)])
      | (refine sx_RU.call rfl rfl rfl rfl (cx_132 _ _ _ _ _ _) ?_; first | rw [if_pos (by assumption)] | rw [if_neg (by assumption)] | rw [if_pos (by decide)])
      | (refine sx_RU.call rfl rfl rfl rfl (cx_151 _ _ _ _) ?_; first | rw [if_pos (by assumption)] | rw [if_neg (by assumption)] | rw [if_pos (by decide)])
      | (refine sx_RU.call rfl rfl rfl rfl (cx_152 _ _ _ _) ?_; first | rw [if_pos (by assumption)] | rw [if_neg (by assumption)] | rw [if_pos (by decide)])
      | (refine sx_RU.call rfl rfl rfl rfl (cx_231 _ _ _ _) ?_; first | rw [if_pos (by assumption)] | rw [if_neg (by assumption)] | rw [if_pos (by decide)])
      | (refine sx_RU.call rfl rfl rfl rfl (cx_197 _ _ _ _) ?_; first | rw [if_pos (by assumption)] | rw [if_neg (by assumption)] | rw [if_pos (by decide)])
      | (refine sx_RU.call rfl rfl rfl rfl (cx_112 _ _ _ _) ?_; first | rw [if_pos (by assumption)] | rw [if_neg (by assumption)] | rw [if_pos (by decide)])
      | refine sx_RU.br rfl rfl (fun _ => ?_) (fun q => (of_decide_eq_false q (by assumption)).elim)
      | refine sx_RU.br rfl rfl (fun q => ((by assumption : ¬ _) (of_decide_eq_true q)).elim) (fun _ => ?_)
      | refine sx_RU.swo rfl (by assumption) rfl ?_)
  · repeat (first
      | refine sx_RU.step rfl rfl ?_
      | exact sx_RU.ret rfl rfl
      | refine sx_RU.call rfl rfl rfl rfl (cf_B _) ?_
      | refine sx_RU.call rfl rfl rfl rfl (cf_N _) ?_
      | refine sx_RU.call rfl rfl rfl rfl (cf_M _) ?_
      | refine sx_RU.call rfl rfl rfl rfl (cf_Z _) ?_
      | refine sx_RU.call rfl rfl rfl rfl (cn_B _) ?_
      | refine sx_RU.call rfl rfl rfl rfl (cn_N _) ?_
      | refine sx_RU.call rfl rfl rfl rfl (cn_M _) ?_
      | refine sx_RU.call rfl rfl rfl rfl (cn_Z _) ?_
      | refine sx_RU.call rfl rfl rfl rfl (cg_27 _ _) ?_
      | refine sx_RU.call rfl rfl rfl rfl (cg_66 _ _) ?_
      | refine sx_RU.call rfl rfl rfl rfl (cg_156 _ _) ?_
      | refine sx_RU.call rfl rfl rfl rfl (cg_186 _ _) ?_
      | (refine sx_RU.call rfl rfl rfl rfl (cx_7 _ _ _ _) ?_; first | rw [if_pos (by assumption)] | rw [if_neg (by assumption)] | rw [if_pos (by decide)])
      | (refine sx_RU.call rfl rfl rfl rfl (cx_8 _ _ _ _ _ _) ?_; first | rw [if_pos (by assumption)] | rw [if_neg (by assumption)] | rw [if_pos (by decide)])
      | (refine sx_RU.call rfl rfl rfl rfl (cx_22 _ _ _ _) ?_; first | rw [if_pos (by assumption)] | rw [if_neg (by assumption)] | rw [if_pos (by decide)])
      | (refine sx_RU.call rfl rfl rfl rfl (cx_23 _ _ _ _) ?_; first | rw [if_pos (by assumption)] | rw [if_neg (by assumption)] | rw [if_pos (by decide)])
      | (refine sx_RU.call rfl rfl rfl rfl (cx_131 _ _ _ _) ?_; first | rw [if_pos (by assumption)] | rw [if_neg (by assumption)] | rw [if_pos (by decide)])
      | (refine sx_RU.call rfl rfl rfl rfl (cx_132 _ _ _ _ _ _) ?_; first | rw [if_pos (by assumption)] | rw [if_neg (by assumption)] | rw [if_pos (by decide)])
      | (refine sx_RU.call rfl rfl rfl rfl (cx_151 _ _ _ _) ?_; first | rw [if_pos (by assumption)] | rw [if_neg (by assumption)] | rw [if_pos (by decide)])
      | (refine sx_RU.call rfl rfl rfl rfl (cx_152 _ _ _ _) ?_; first | rw [if_pos (by assumption)] | rw [if_neg (by assumption)] | rw [if_pos (by decide)])
      | (refine sx_RU.call rfl rfl rfl rfl (cx_231 _ _ _ _) ?_; first | rw [if_pos (by assumption)] | rw [if_neg (by assumption)] | rw [if_pos (by decide)])
      | (refine sx_RU.call rfl rfl rfl rfl (cx_197 _ _ _ _) ?_; first | rw [if_pos (by assumption)] | rw [if_neg (by assumption)] | rw [if_pos (by decide)])
      | (refine sx_RU.call rfl rfl rfl rfl (cx_112 _ _ _ _) ?_; first | rw [if_pos (by assumption)] | rw [if_neg (by assumption)] | rw [if_pos (by decide)])
      | refine sx_RU.br rfl rfl (fun _ => ?_) (fun q => (of_decide_eq_false q (by assumption)).elim)
      | refine sx_RU.br rfl rfl (fun q => ((by assumption : ¬ _) (of_decide_eq_true q)).elim) (fun _ => ?_)
      | refine sx_RU.swo rfl (by assumption) rfl ?_)
set_option maxRecDepth 20000 in
theorem k_feed_o0 (ys : List Int32) (a1 a2 : Int32) (n0 : ¬ (1 ≤ a2 ∧ a2 ≤ 4)) : sx_twoI ys 87 208 [.int a1, .int a2] := by
  refine ⟨(-1000000001), sx_vB, sx_vB2, _, rfl, ?_, ?_⟩
  · repeat (first
      | refine sx_RU.step rfl rfl ?_
      | exact sx_RU.ret rfl rfl
      | refine sx_RU.call rfl rfl rfl rfl (cf_B _) ?_
      | refine sx_RU.call rfl rfl rfl rfl (cf_N _) ?_
      | refine sx_RU.call rfl rfl rfl rfl (cf_M _) ?_
      | refine sx_RU.call rfl rfl rfl rfl (cf_Z _) ?_
      | refine sx_RU.call rfl rfl rfl rfl (cn_B _) ?_
      | refine sx_RU.call rfl rfl rfl rfl (cn_N _) ?_
      | refine sx_RU.call rfl rfl rfl rfl (cn_M _) ?_
      | refine sx_RU.call rfl rfl rfl rfl (cn_Z _) ?_
      | refine sx_RU.call rfl rfl rfl rfl (cg_27 _ _) ?_
      | refine sx_RU.call rfl rfl rfl rfl (cg_66 _ _) ?_
      | refine sx_RU.call rfl rfl rfl rfl (cg_156 _ _) ?_
      | refine sx_RU.call rfl rfl rfl rfl (cg_186 _ _) ?_
      | (refine sx_RU.call rfl rfl rfl rfl (cx_7 _ _ _ _) ?_; first | rw [if_pos (by assumption)] | rw [if_neg (by assumption)] | rw [if_pos (by decide)])
      | (refine sx_RU.call rfl rfl rfl rfl (cx_8 _ _ _ _ _ _) ?_; first | rw [if_pos (by assumption)] | rw [if_neg (by assumption)] | rw [if_pos (by decide)])
      | (refine sx_RU.call rfl rfl rfl rfl (cx_22 _ _ _ _) ?_; first | rw [if_pos (by assumption)] | rw [if_neg (by assumption)] | rw [if_pos (by decide)])
      | (refine sx_RU.call rfl rfl rfl rfl (cx_23 _ _ _ _) ?_; first | rw [if_pos (by assumption)] | rw [if_neg (by assumption)] | rw [if_pos (by decide)])
      | (refine sx_RU.call rfl rfl rfl rfl (cx_131 _ _ _ _) ?_; first | rw [if_pos (by assumption)] | rw [if_neg (by assumption)] | rw [if_pos (by decide)])
      | (refine sx_RU.call rfl rfl rfl rfl (cx_132 _ _ _ _ _ _) ?_; first | rw [if_pos (by assumption)] | rw [if_neg (by assumption)] | rw [if_pos (by decide)])
      | (refine sx_RU.call rfl rfl rfl rfl (cx_151 _ _ _ _) ?_; first | rw [if_pos (by assumption)] | rw [if_neg (by assumption)] | rw [if_pos (by decide)])
      | (refine sx_RU.call rfl rfl rfl rfl (cx_152 _ _ _ _) ?_; first | rw [if_pos (by assumption)] | rw [if_neg (by assumption)] | rw [if_pos (by decide)])
      | (refine sx_RU.call rfl rfl rfl rfl (cx_231 _ _ _ _) ?_; first | rw [if_pos (by assumption)] | rw [if_neg (by assumption)] | rw [if_pos (by decide)])
      | (refine sx_RU.call rfl rfl rfl rfl (cx_197 _ _ _ _) ?_; first | rw [if_pos (by assumption)] | rw [if_neg (by assumption)] | rw [if_pos (by decide)])
      | (refine sx_RU.call rfl rfl rfl rfl (cx_112 _ _ _ _) ?_; first | rw [if_pos (by assumption)] | rw [if_neg (by assumption)] | rw [if_pos (by decide)])
      | refine sx_RU.br rfl rfl (fun _ => ?_) (fun q => (of_decide_eq_false q (by assumption)).elim)
      | refine sx_RU.br rfl rfl (fun q => ((by assumption : ¬ _) (of_decide_eq_true q)).elim) (fun _ => ?_)
      | refine sx_RU.swo rfl (by assumption) rfl ?_)
  · repeat (first
      | refine sx_RU.step rfl rfl ?_
      | exact sx_RU.ret rfl rfl
      | refine sx_RU.call rfl rfl rfl rfl (cf_B _) ?_
      | refine sx_RU.call rfl rfl rfl rfl (cf_N _) ?_
      | refine sx_RU.call rfl rfl rfl rfl (cf_M _) ?_
      | refine sx_RU.call rfl rfl rfl rfl (cf_Z _) ?_
      | refine sx_RU.call rfl rfl rfl rfl (cn_B _) ?_
      | refine sx_RU.call rfl rfl rfl rfl (cn_N _) ?_
      | refine sx_RU.call rfl rfl rfl rfl (cn_M _) ?_
      | refine sx_RU.call rfl rfl rfl rfl (cn_Z _) ?_
      | refine sx_RU.call rfl rfl rfl rfl (cg_27 _ _) ?_
      | refine sx_RU.call rfl rfl rfl rfl (cg_66 _ _) ?_
      | refine sx_RU.call rfl rfl rfl rfl (cg_156 _ _) ?_
      | refine sx_RU.call rfl rfl rfl rfl (cg_186 _ _) ?_
      | (refine sx_RU.call rfl rfl rfl rfl (cx_7 _ _ _ _) ?_; first | rw [if_pos (by assumption)] | rw [if_neg (by assumption)] | rw [if_pos (by decide)])
      | (refine sx_RU.call rfl rfl rfl rfl (cx_8 _ _ _ _ _ _) ?_; first | rw [if_pos (by assumption)] | rw [if_neg (by assumption)] | rw [if_pos (by decide)])
      | (refine sx_RU.call rfl rfl rfl rfl (cx_22 _ _ _ _) ?_; first | rw [if_pos (by assumption)] | rw [if_neg (by assumption)] | rw [if_pos (by decide)])
      | (refine sx_RU.call rfl rfl rfl rfl (cx_23 _ _ _ _) ?_; first | rw [if_pos (by assumption)] | rw [if_neg (by assumption)] | rw [if_pos (by decide)])
      | (refine sx_RU.call rfl rfl rfl rfl (cx_131 _ _ _ _) ?_; first | rw [if_pos (by assumption)] | rw [if_neg (by assumption)] | rw [if_pos (by decide)])
      | (refine sx_RU.call rfl rfl rfl rfl (cx_132 _ _ _ _ _ _) ?_; first | rw [if_pos (by assumption)] | rw [if_neg (by assumption)] | rw [if_pos (by decide)])
      | (refine sx_RU.call rfl rfl rfl rfl (cx_151 _ _ _ _) ?_; first | rw [if_pos (by assumption)] | rw [if_neg (by assumption)] | rw [if_pos (by decide)])
      | (refine sx_RU.call rfl rfl rfl rfl (cx_152 _ _ _ _) ?_; first | rw [if_pos (by assumption)] | rw [if_neg (by assumption)] | rw [if_pos (by decide)])
      | (refine sx_RU.call rfl rfl rfl rfl (cx_231 _ _ _ _) ?_; first | rw [if_pos (by assumption)] | rw [if_neg (by assumption)] | rw [if_pos (by decide)])
      | (refine sx_RU.call rfl rfl rfl rfl (cx_197 _ _ _ _) ?_; first | rw [if_pos (by assumption)] | rw [if_neg (by assumption)] | rw [if_pos (by decide)])
      | (refine sx_RU.call rfl rfl rfl rfl (cx_112 _ _ _ _) ?_; first | rw [if_pos (by assumption)] | rw [if_neg (by assumption)] | rw [if_pos (by decide)])
      | refine sx_RU.br rfl rfl (fun _ => ?_) (fun q => (of_decide_eq_false q (by assumption)).elim)
      | refine sx_RU.br rfl rfl (fun q => ((by assumption : ¬ _) (of_decide_eq_true q)).elim) (fun _ => ?_)
      | refine sx_RU.swo rfl (by assumption) rfl ?_)
set_option maxRecDepth 20000 in
theorem k_write_o0 (ys : List Int32) (a1 a2 : Int32) (lv9 : Int64) (n0 : ¬ (0 ≤ a1 ∧ a1 ≤ 3)) : sx_twoL ys 115 232 [.int a1, .int a2, .long lv9] := by
  refine ⟨((-1000000001 : Int32).toInt64), sx_vB, sx_vB2, _, rfl, ?_, ?_⟩
  · repeat (first
      | refine sx_RU.step rfl rfl ?_
      | exact sx_RU.ret rfl rfl
      | refine sx_RU.call rfl rfl rfl rfl (cf_B _) ?_
      | refine sx_RU.call rfl rfl rfl rfl (cf_N _) ?_
      | refine sx_RU.call rfl rfl rfl rfl (cf_M _) ?_
      | refine sx_RU.call rfl rfl rfl rfl (cf_Z _) ?_
      | refine sx_RU.call rfl rfl rfl rfl (cn_B _) ?_
      | refine sx_RU.call rfl rfl rfl rfl (cn_N _) ?_
      | refine sx_RU.call rfl rfl rfl rfl (cn_M _) ?_
      | refine sx_RU.call rfl rfl rfl rfl (cn_Z _) ?_
      | refine sx_RU.call rfl rfl rfl rfl (cg_27 _ _) ?_
      | refine sx_RU.call rfl rfl rfl rfl (cg_66 _ _) ?_
      | refine sx_RU.call rfl rfl rfl rfl (cg_156 _ _) ?_
      | refine sx_RU.call rfl rfl rfl rfl (cg_186 _ _) ?_
      | (refine sx_RU.call rfl rfl rfl rfl (cx_7 _ _ _ _) ?_; first | rw [if_pos (by assumption)] | rw [if_neg (by assumption)] | rw [if_pos (by decide)])
      | (refine sx_RU.call rfl rfl rfl rfl (cx_8 _ _ _ _ _ _) ?_; first | rw [if_pos (by assumption)] | rw [if_neg (by assumption)] | rw [if_pos (by decide)])
      | (refine sx_RU.call rfl rfl rfl rfl (cx_22 _ _ _ _) ?_; first | rw [if_pos (by assumption)] | rw [if_neg (by assumption)] | rw [if_pos (by decide)])
      | (refine sx_RU.call rfl rfl rfl rfl (cx_23 _ _ _ _) ?_; first | rw [if_pos (by assumption)] | rw [if_neg (by assumption)] | rw [if_pos (by decide)])
      | (refine sx_RU.call rfl rfl rfl rfl (cx_131 _ _ _ _) ?_; first | rw [if_pos (by assumption)] | rw [if_neg (by assumption)] | rw [if_pos (by decide)])
      | (refine sx_RU.call rfl rfl rfl rfl (cx_132 _ _ _ _ _ _) ?_; first | rw [if_pos (by assumption)] | rw [if_neg (by assumption)] | rw [if_pos (by decide)])
      | (refine sx_RU.call rfl rfl rfl rfl (cx_151 _ _ _ _) ?_; first | rw [if_pos (by assumption)] | rw [if_neg (by assumption)] | rw [if_pos (by decide)])
      | (refine sx_RU.call rfl rfl rfl rfl (cx_152 _ _ _ _) ?_; first | rw [if_pos (by assumption)] | rw [if_neg (by assumption)] | rw [if_pos (by decide)])
      | (refine sx_RU.call rfl rfl rfl rfl (cx_231 _ _ _ _) ?_; first | rw [if_pos (by assumption)] | rw [if_neg (by assumption)] | rw [if_pos (by decide)])
      | (refine sx_RU.call rfl rfl rfl rfl (cx_197 _ _ _ _) ?_; first | rw [if_pos (by assumption)] | rw [if_neg (by assumption)] | rw [if_pos (by decide)])
      | (refine sx_RU.call rfl rfl rfl rfl (cx_112 _ _ _ _) ?_; first | rw [if_pos (by assumption)] | rw [if_neg (by assumption)] | rw [if_pos (by decide)])
      | refine sx_RU.br rfl rfl (fun _ => ?_) (fun q => (of_decide_eq_false q (by assumption)).elim)
      | refine sx_RU.br rfl rfl (fun q => ((by assumption : ¬ _) (of_decide_eq_true q)).elim) (fun _ => ?_)
      | refine sx_RU.swo rfl (by assumption) rfl ?_)
  · repeat (first
      | refine sx_RU.step rfl rfl ?_
      | exact sx_RU.ret rfl rfl
      | refine sx_RU.call rfl rfl rfl rfl (cf_B _) ?_
      | refine sx_RU.call rfl rfl rfl rfl (cf_N _) ?_
      | refine sx_RU.call rfl rfl rfl rfl (cf_M _) ?_
      | refine sx_RU.call rfl rfl rfl rfl (cf_Z _) ?_
      | refine sx_RU.call rfl rfl rfl rfl (cn_B _) ?_
      | refine sx_RU.call rfl rfl rfl rfl (cn_N _) ?_
      | refine sx_RU.call rfl rfl rfl rfl (cn_M _) ?_
      | refine sx_RU.call rfl rfl rfl rfl (cn_Z _) ?_
      | refine sx_RU.call rfl rfl rfl rfl (cg_27 _ _) ?_
      | refine sx_RU.call rfl rfl rfl rfl (cg_66 _ _) ?_
      | refine sx_RU.call rfl rfl rfl rfl (cg_156 _ _) ?_
      | refine sx_RU.call rfl rfl rfl rfl (cg_186 _ _) ?_
      | (refine sx_RU.call rfl rfl rfl rfl (cx_7 _ _ _ _) ?_; first | rw [if_pos (by assumption)] | rw [if_neg (by assumption)] | rw [if_pos (by decide)])
      | (refine sx_RU.call rfl rfl rfl rfl (cx_8 _ _ _ _ _ _) ?_; first | rw [if_pos (by assumption)] | rw [if_neg (by assumption)] | rw [if_pos (by decide)])
      | (refine sx_RU.call rfl rfl rfl rfl (cx_22 _ _ _ _) ?_; first | rw [if_pos (by assumption)] | rw [if_neg (by assumption)] | rw [if_pos (by decide)])
      | (refine sx_RU.call rfl rfl rfl rfl (cx_23 _ _ _ _) ?_; first | rw [if_pos (by assumption)] | rw [if_neg (by assumption)] | rw [if_pos (by decide)])
      | (refine sx_RU.call rfl rfl rfl rfl (cx_131 _ _ _ _) ?_; first | rw [if_pos (by assumption)] | rw [if_neg (by assumption)] | rw [if_pos (by decide)])
      | (refine sx_RU.call rfl rfl rfl rfl (cx_132 _ _ _ _ _ _) ?_; first | rw [if_pos (by assumption)] | rw [if_neg (by assumption)] | rw [if_pos (by decide)])
      | (refine sx_RU.call rfl rfl rfl rfl (cx_151 _ _ _ _) ?_; first | rw [if_pos (by assumption)] | rw [if_neg (by assumption)] | rw [if_pos (by decide)])
      | (refine sx_RU.call rfl rfl rfl rfl (cx_152 _ _ _ _) ?_; first | rw [if_pos (by assumption)] | rw [if_neg (by assumption)] | rw [if_pos (by decide)])
      | (refine sx_RU.call rfl rfl rfl rfl (cx_231 _ _ _ _) ?_; first | rw [if_pos (by assumption)] | rw [if_neg (by assumption)] | rw [if_pos (by decide)])
      | (refine sx_RU.call rfl rfl rfl rfl (cx_197 _ _ _ _) ?_; first | rw [if_pos (by assumption)] | rw [if_neg (by assumption)] | rw [if_pos (by decide)])
      | (refine sx_RU.call rfl rfl rfl rfl (cx_112 _ _ _ _) ?_; first | rw [if_pos (by assumption)] | rw [if_neg (by assumption)] | rw [if_pos (by decide)])
      | refine sx_RU.br rfl rfl (fun _ => ?_) (fun q => (of_decide_eq_false q (by assumption)).elim)
      | refine sx_RU.br rfl rfl (fun q => ((by assumption : ¬ _) (of_decide_eq_true q)).elim) (fun _ => ?_)
      | refine sx_RU.swo rfl (by assumption) rfl ?_)
set_option maxRecDepth 20000 in
theorem k_copy_o0 (ys : List Int32) (a1 a2 a3 a4 a5 : Int32) (n0 : ¬ (0 ≤ a1 ∧ a1 ≤ 3)) : sx_twoI ys 118 234 [.int a1, .int a2, .int a3, .int a4, .int a5] := by
  refine ⟨(-1000000001), sx_vB, sx_vB2, _, rfl, ?_, ?_⟩
  · repeat (first
      | refine sx_RU.step rfl rfl ?_
      | exact sx_RU.ret rfl rfl
      | refine sx_RU.call rfl rfl rfl rfl (cf_B _) ?_
      | refine sx_RU.call rfl rfl rfl rfl (cf_N _) ?_
      | refine sx_RU.call rfl rfl rfl rfl (cf_M _) ?_
      | refine sx_RU.call rfl rfl rfl rfl (cf_Z _) ?_
      | refine sx_RU.call rfl rfl rfl rfl (cn_B _) ?_
      | refine sx_RU.call rfl rfl rfl rfl (cn_N _) ?_
      | refine sx_RU.call rfl rfl rfl rfl (cn_M _) ?_
      | refine sx_RU.call rfl rfl rfl rfl (cn_Z _) ?_
      | refine sx_RU.call rfl rfl rfl rfl (cg_27 _ _) ?_
      | refine sx_RU.call rfl rfl rfl rfl (cg_66 _ _) ?_
      | refine sx_RU.call rfl rfl rfl rfl (cg_156 _ _) ?_
      | refine sx_RU.call rfl rfl rfl rfl (cg_186 _ _) ?_
      | (refine sx_RU.call rfl rfl rfl rfl (cx_7 _ _ _ _) ?_; first | rw [if_pos (by assumption)] | rw [if_neg (by assumption)] | rw [if_pos (by decide)])
      | (refine sx_RU.call rfl rfl rfl rfl (cx_8 _ _ _ _ _ _) ?_; first | rw [if_pos (by assumption)] | rw [if_neg (by assumption)] | rw [if_pos (by decide)])
      | (refine sx_RU.call rfl rfl rfl rfl (cx_22 _ _ _ _) ?_; first | rw [if_pos (by assumption)] | rw [if_neg (by assumption)] | rw [if_pos (by decide)])
      | (refine sx_RU.call rfl rfl rfl rfl (cx_23 _ _ _ _) ?_; first | rw [if_pos (by assumption)] | rw [if_neg (by assumption)] | rw [if_pos (by decide)])
      | (refine sx_RU.call rfl rfl rfl rfl (cx_131 _ _ _ _) ?_; first | rw [if_pos (by assumption)] | rw [if_neg (by assumption)] | rw [if_pos (by decide)])
      | (refine sx_RU.call rfl rfl rfl rfl (cx_132 _ _ _ _ _ _) ?_; first | rw [if_pos (by assumption)] | rw [if_neg (by assumption)] | rw [if_pos (by decide)])
      | (refine sx_RU.call rfl rfl rfl rfl (cx_151 _ _ _ _) ?_; first | rw [if_pos (by assumption)] | rw [if_neg (by assumption)] | rw [if_pos (by decide)])
      | (refine sx_RU.call rfl rfl rfl rfl (cx_152 _ _ _ _) ?_; first | rw [if_pos (by assumption)] | rw [if_neg (by assumption)] | rw [if_pos (by decide)])
      | (refine sx_RU.call rfl rfl rfl rfl (cx_231 _ _ _ _) ?_; first | rw [if_pos (by assumption)] | rw [if_neg (by assumption)] | rw [if_pos (by decide)])
      | (refine sx_RU.call rfl rfl rfl rfl (cx_197 _ _ _ _) ?_; first | rw [if_pos (by assumption)] | rw [if_neg (by assumption)] | rw [if_pos (by decide)])
      | (refine sx_RU.call rfl rfl rfl rfl (cx_112 _ _ _ _) ?_; first | rw [if_pos (by assumption)] | rw [if_neg (by assumption)] | rw [if_pos (by decide)])
      | refine sx_RU.br rfl rfl (fun _ => ?_) (fun q => (of_decide_eq_false q (by assumption)).elim)
      | refine sx_RU.br rfl rfl (fun q => ((by assumption : ¬ _) (of_decide_eq_true q)).elim) (fun _ => ?_)
      | refine sx_RU.swo rfl (by assumption) rfl ?_)
  · repeat (first
      | refine sx_RU.step rfl rfl ?_
      | exact sx_RU.ret rfl rfl
      | refine sx_RU.call rfl rfl rfl rfl (cf_B _) ?_
      | refine sx_RU.call rfl rfl rfl rfl (cf_N _) ?_
      | refine sx_RU.call rfl rfl rfl rfl (cf_M _) ?_
      | refine sx_RU.call rfl rfl rfl rfl (cf_Z _) ?_
      | refine sx_RU.call rfl rfl rfl rfl (cn_B _) ?_
      | refine sx_RU.call rfl rfl rfl rfl (cn_N _) ?_
      | refine sx_RU.call rfl rfl rfl rfl (cn_M _) ?_
      | refine sx_RU.call rfl rfl rfl rfl (cn_Z _) ?_
      | refine sx_RU.call rfl rfl rfl rfl (cg_27 _ _) ?_
      | refine sx_RU.call rfl rfl rfl rfl (cg_66 _ _) ?_
      | refine sx_RU.call rfl rfl rfl rfl (cg_156 _ _) ?_
      | refine sx_RU.call rfl rfl rfl rfl (cg_186 _ _) ?_
      | (refine sx_RU.call rfl rfl rfl rfl (cx_7 _ _ _ _) ?_; first | rw [if_pos (by assumption)] | rw [if_neg (by assumption)] | rw [if_pos (by decide)])
      | (refine sx_RU.call rfl rfl rfl rfl (cx_8 _ _ _ _ _ _) ?_; first | rw [if_pos (by assumption)] | rw [if_neg (by assumption)] | rw [if_pos (by decide)])
      | (refine sx_RU.call rfl rfl rfl rfl (cx_22 _ _ _ _) ?_; first | rw [if_pos (by assumption)] | rw [if_neg (by assumption)] | rw [if_pos (by decide)])
      | (refine sx_RU.call rfl rfl rfl rfl (cx_23 _ _ _ _) ?_; first | rw [if_pos (by assumption)] | rw [if_neg (by assumption)] | rw [if_pos (by decide)])
      | (refine sx_RU.call rfl rfl rfl rfl (cx_131 _ _ _ _) ?_; first | rw [if_pos (by assumption)] | rw [if_neg (by assumption)] | rw [if_pos (by decide)])
      | (refine sx_RU.call rfl rfl rfl rfl (cx_132 _ _ _ _ _ _) ?_; first | rw [if_pos (by assumption)] | rw [if_neg (by assumption)] | rw [if_pos (by decide)])
      | (refine sx_RU.call rfl rfl rfl rfl (cx_151 _ _ _ _) ?_; first | rw [if_pos (by assumption)] | rw [if_neg (by assumption)] | rw [if_pos (by decide)])
      | (refine sx_RU.call rfl rfl rfl rfl (cx_152 _ _ _ _) ?_; first | rw [if_pos (by assumption)] | rw [if_neg (by assumption)] | rw [if_pos (by decide)])
      | (refine sx_RU.call rfl rfl rfl rfl (cx_231 _ _ _ _) ?_; first | rw [if_pos (by assumption)] | rw [if_neg (by assumption)] | rw [if_pos (by decide)])
      | (refine sx_RU.call rfl rfl rfl rfl (cx_197 _ _ _ _) ?_; first | rw [if_pos (by assumption)] | rw [if_neg (by assumption)] | rw [if_pos (by decide)])
      | (refine sx_RU.call rfl rfl rfl rfl (cx_112 _ _ _ _) ?_; first | rw [if_pos (by assumption)] | rw [if_neg (by assumption)] | rw [if_pos (by decide)])
      | refine sx_RU.br rfl rfl (fun _ => ?_) (fun q => (of_decide_eq_false q (by assumption)).elim)
      | refine sx_RU.br rfl rfl (fun q => ((by assumption : ¬ _) (of_decide_eq_true q)).elim) (fun _ => ?_)
      | refine sx_RU.swo rfl (by assumption) rfl ?_)
set_option maxRecDepth 20000 in
theorem k_copy_o1 (ys : List Int32) (a1 a2 a3 a4 a5 : Int32) (p0 : (0 ≤ a1 ∧ a1 ≤ 3)) (n1 : ¬ (0 ≤ a3 ∧ a3 ≤ 3)) : sx_twoI ys 118 234 [.int a1, .int a2, .int a3, .int a4, .int a5] := by
  refine ⟨(-1000000001), sx_vB, sx_vB2, _, rfl, ?_, ?_⟩
  · repeat (first
      | refine sx_RU.step rfl rfl ?_
      | exact sx_RU.ret rfl rfl
      | refine sx_RU.call rfl rfl rfl rfl (cf_B _) ?_
      | refine sx_RU.call rfl rfl rfl rfl (cf_N _) ?_
      | refine sx_RU.call rfl rfl rfl rfl (cf_M _) ?_
      | refine sx_RU.call rfl rfl rfl rfl (cf_Z _) ?_
      | refine sx_RU.call rfl rfl rfl rfl (cn_B _) ?_
      | refine sx_RU.call rfl rfl rfl rfl (cn_N _) ?_
      | refine sx_RU.call rfl rfl rfl rfl (cn_M _) ?_
      | refine sx_RU.call rfl rfl rfl rfl (cn_Z _) ?_
      | refine sx_RU.call rfl rfl rfl rfl (cg_27 _ _) ?_
      | refine sx_RU.call rfl rfl rfl rfl (cg_66 _ _) ?_
      | refine sx_RU.call rfl rfl rfl rfl (cg_156 _ _) ?_
      | refine sx_RU.call rfl rfl rfl rfl (cg_186 _ _) ?_
      | (refine sx_RU.call rfl rfl rfl rfl (cx_7 _ _ _ _) ?_; first | rw [if_pos (by assumption)] | rw [if_neg (by assumption)] | rw [if_pos (by decide)])
      | (refine sx_RU.call rfl rfl rfl rfl (cx_8 _ _ _ _ _ _) ?_; first | rw [if_pos (by assumption)] | rw [if_neg (by assumption)] | rw [if_pos (by decide)])
      | (refine sx_RU.call rfl rfl rfl rfl (cx_22 _ _ _ _) ?_; first | rw [if_pos (by assumption)] | rw [if_neg (by assumption)] | rw [if_pos (by decide)])
      | (refine sx_RU.call rfl rfl rfl rfl (cx_23 _ _ _ _) ?_; first | rw [if_pos (by assumption)] | rw [if_neg (by assumption)] | rw [if_pos (by decide)])
      | (refine sx_RU.call rfl rfl rfl rfl (cx_131 _ _ _ _) ?_; first | rw [if_pos (by assumption)] | rw [if_neg (by assumption)] | rw [if_pos (by decide)])
      | (refine sx_RU.call rfl rfl rfl rfl (cx_132 _ _ _ _ _ _) ?_; first | rw [if_pos (by assumption)] | rw [if_neg (by assumption)] | rw [if_pos (by decide)])
      | (refine sx_RU.call rfl rfl rfl rfl (cx_151 _ _ _ _) ?_; first | rw [if_pos (by assumption)] | rw [if_neg (by assumption)] | rw [if_pos (by decide)])
      | (refine sx_RU.call rfl rfl rfl rfl (cx_152 _ _ _ _) ?_; first | rw [if_pos (by assumption)] | rw [if_neg (by assumption)] | rw [if_pos (by decide)])
      | (refine sx_RU.call rfl rfl rfl rfl (cx_231 _ _ _ _) ?_; first | rw [if_pos (by assumption)] | rw [if_neg (by assumption)] | rw [if_pos (by decide)])
      | (refine sx_RU.call rfl rfl rfl rfl (cx_197 _ _ _ _) ?_; first | rw [if_pos (by assumption)] | rw [if_neg (by assumption)] | rw [if_pos (by decide)])
      | (refine sx_RU.call rfl rfl rfl rfl (cx_112 _ _ _ _) ?_; first | rw [if_pos (by assumption)] | rw [if_neg (by assumption)] | rw [if_pos (by decide)])
      | refine sx_RU.br rfl rfl (fun _ => ?_) (fun q => (of_decide_eq_false q (by assumption)).elim)
      | refine sx_RU.br rfl rfl (fun q => ((by assumption : ¬ _) (of_decide_eq_true q)).elim) (fun _ => ?_)
      | refine sx_RU.swo rfl (by assumption) rfl ?_)
  · repeat (first
      | refine sx_RU.step rfl rfl ?_
      | exact sx_RU.ret rfl rfl
      | refine sx_RU.call rfl rfl rfl rfl (cf_B _) ?_
      | refine sx_RU.call rfl rfl rfl rfl (cf_N _) ?_
      | refine sx_RU.call rfl rfl rfl rfl (cf_M _) ?_
      | refine sx_RU.call rfl rfl rfl rfl (cf_Z _) ?_
      | refine sx_RU.call rfl rfl rfl rfl (cn_B _) ?_
      | refine sx_RU.call rfl rfl rfl rfl (cn_N _) ?_
      | refine sx_RU.call rfl rfl rfl rfl (cn_M _) ?_
      | refine sx_RU.call rfl rfl rfl rfl (cn_Z _) ?_
      | refine sx_RU.call rfl rfl rfl rfl (cg_27 _ _) ?_
      | refine sx_RU.call rfl rfl rfl rfl (cg_66 _ _) ?_
      | refine sx_RU.call rfl rfl rfl rfl (cg_156 _ _) ?_
      | refine sx_RU.call rfl rfl rfl rfl (cg_186 _ _) ?_
      | (refine sx_RU.call rfl rfl rfl rfl (cx_7 _ _ _ _) ?_; first | rw [if_pos (by assumption)] | rw [if_neg (by assumption)] | rw [if_pos (by decide)])
      | (refine sx_RU.call rfl rfl rfl rfl (cx_8 _ _ _ _ _ _) ?_; first | rw [if_pos (by assumption)] | rw [if_neg (by assumption)] | rw [if_pos (by decide)])
      | (refine sx_RU.call rfl rfl rfl rfl (cx_22 _ _ _ _) ?_; first | rw [if_pos (by assumption)] | rw [if_neg (by assumption)] | rw [if_pos (by decide)])
      | (refine sx_RU.call rfl rfl rfl rfl (cx_23 _ _ _ _) ?_; first | rw [if_pos (by assumption)] | rw [if_neg (by assumption)] | rw [if_pos (by decide)])
      | (refine sx_RU.call rfl rfl rfl rfl (cx_131 _ _ _ _) ?_; first | rw [if_pos (by assumption)] | rw [if_neg (by assumption)] | rw [if_pos (by decide)])
      | (refine sx_RU.call rfl rfl rfl rfl (cx_132 _ _ _ _ _ _) ?_; first | rw [if_pos (by assumption)] | rw [if_neg (by assumption)] | rw [if_pos (by decide)])
      | (refine sx_RU.call rfl rfl rfl rfl (cx_151 _ _ _ _) ?_; first | rw [if_pos (by assumption)] | rw [if_neg (by assumption)] | rw [if_pos (by decide)])
      | (refine sx_RU.call rfl rfl rfl rfl (cx_152 _ _ _ _) ?_; first | rw [if_pos (by assumption)] | rw [if_neg (by assumption)] | rw [if_pos (by decide)])
      | (refine sx_RU.call rfl rfl rfl rfl (cx_231 _ _ _ _) ?_; first | rw [if_pos (by assumption)] | rw [if_neg (by assumption)] | rw [if_pos (by decide)])
      | (refine sx_RU.call rfl rfl rfl rfl (cx_197 _ _ _ _) ?_; first | rw [if_pos (by assumption)] | rw [if_neg (by assumption)] | rw [if_pos (by decide)])
      | (refine sx_RU.call rfl rfl rfl rfl (cx_112 _ _ _ _) ?_; first | rw [if_pos (by assumption)] | rw [if_neg (by assumption)] | rw [if_pos (by decide)])
      | refine sx_RU.br rfl rfl (fun _ => ?_) (fun q => (of_decide_eq_false q (by assumption)).elim)
      | refine sx_RU.br rfl rfl (fun q => ((by assumption : ¬ _) (of_decide_eq_true q)).elim) (fun _ => ?_)
      | refine sx_RU.swo rfl (by assumption) rfl ?_)
set_option maxRecDepth 20000 in
theorem k_lays_o0 (ys : List Int32) (a1 a2 : Int32) (n0 : ¬ (0 ≤ a1 ∧ a1 ≤ 3)) : sx_twoI ys 120 235 [.int a1, .int a2] := by
  refine ⟨(-1000000001), sx_vB, sx_vB2, _, rfl, ?_, ?_⟩
  · repeat (first
      | refine sx_RU.step rfl rfl ?_
      | exact sx_RU.ret rfl rfl
      | refine sx_RU.call rfl rfl rfl rfl (cf_B _) ?_
      | refine sx_RU.call rfl rfl rfl rfl (cf_N _) ?_
      | refine sx_RU.call rfl rfl rfl rfl (cf_M _) ?_
      | refine sx_RU.call rfl rfl rfl rfl (cf_Z _) ?_
      | refine sx_RU.call rfl rfl rfl rfl (cn_B _) ?_
      | refine sx_RU.call rfl rfl rfl rfl (cn_N _) ?_
      | refine sx_RU.call rfl rfl rfl rfl (cn_M _) ?_
      | refine sx_RU.call rfl rfl rfl rfl (cn_Z _) ?_
      | refine sx_RU.call rfl rfl rfl rfl (cg_27 _ _) ?_
      | refine sx_RU.call rfl rfl rfl rfl (cg_66 _ _) ?_
      | refine sx_RU.call rfl rfl rfl rfl (cg_156 _ _) ?_
      | refine sx_RU.call rfl rfl rfl rfl (cg_186 _ _) ?_
      | (refine sx_RU.call rfl rfl rfl rfl (cx_7 _ _ _ _) ?_; first | rw [if_pos (by assumption)] | rw [if_neg (by assumption)] | rw [if_pos (by decide)])
      | (refine sx_RU.call rfl rfl rfl rfl (cx_8 _ _ _ _ _ _) ?_; first | rw [if_pos (by assumption)] | rw [if_neg (by assumption)] | rw [if_pos (by decide)])
      | (refine sx_RU.call rfl rfl rfl rfl (cx_22 _ _ _ _) ?_; first | rw [if_pos (by assumption)] | rw [if_neg (by assumption)] | rw [if_pos (by decide)])
      | (refine sx_RU.call rfl rfl rfl rfl (cx_23 _ _ _ _) ?_; first | rw [if_pos (by assumption)] | rw [if_neg (by assumption)] | rw [if_pos (by decide)])
      | (refine sx_RU.call rfl rfl rfl rfl (cx_131 _ _ _ _) ?_; first | rw [if_pos (by assumption)] | rw [if_neg (by assumption)] | rw [if_pos (by decide)])
      | (refine sx_RU.call rfl rfl rfl rfl (cx_132 _ _ _ _ _ _) ?_; first | rw [if_pos (by assumption)] | rw [if_neg (by assumption)] | rw [if_pos (by decide)])
      | (refine sx_RU.call rfl rfl rfl rfl (cx_151 _ _ _ _) ?_; first | rw [if_pos (by assumption)] | rw [if_neg (by assumption)] | rw [if_pos (by decide)])
      | (refine sx_RU.call rfl rfl rfl rfl (cx_152 _ _ _ _) ?_; first | rw [if_pos (by assumption)] | rw [if_neg (by assumption)] | rw [if_pos (by decide)])
      | (refine sx_RU.call rfl rfl rfl rfl (cx_231 _ _ _ _) ?_; first | rw [if_pos (by assumption)] | rw [if_neg (by assumption)] | rw [if_pos (by decide)])
      | (refine sx_RU.call rfl rfl rfl rfl (cx_197 _ _ _ _) ?_; first | rw [if_pos (by assumption)] | rw [if_neg (by assumption)] | rw [if_pos (by decide)])
      | (refine sx_RU.call rfl rfl rfl rfl (cx_112 _ _ _ _) ?_; first | rw [if_pos (by assumption)] | rw [if_neg (by assumption)] | rw [if_pos (by decide)])
      | refine sx_RU.br rfl rfl (fun _ => ?_) (fun q => (of_decide_eq_false q (by assumption)).elim)
      | refine sx_RU.br rfl rfl (fun q => ((by assumption : ¬ _) (of_decide_eq_true q)).elim) (fun _ => ?_)
      | refine sx_RU.swo rfl (by assumption) rfl ?_)
  · repeat (first
      | refine sx_RU.step rfl rfl ?_
      | exact sx_RU.ret rfl rfl
      | refine sx_RU.call rfl rfl rfl rfl (cf_B _) ?_
      | refine sx_RU.call rfl rfl rfl rfl (cf_N _) ?_
      | refine sx_RU.call rfl rfl rfl rfl (cf_M _) ?_
      | refine sx_RU.call rfl rfl rfl rfl (cf_Z _) ?_
      | refine sx_RU.call rfl rfl rfl rfl (cn_B _) ?_
      | refine sx_RU.call rfl rfl rfl rfl (cn_N _) ?_
      | refine sx_RU.call rfl rfl rfl rfl (cn_M _) ?_
      | refine sx_RU.call rfl rfl rfl rfl (cn_Z _) ?_
      | refine sx_RU.call rfl rfl rfl rfl (cg_27 _ _) ?_
      | refine sx_RU.call rfl rfl rfl rfl (cg_66 _ _) ?_
      | refine sx_RU.call rfl rfl rfl rfl (cg_156 _ _) ?_
      | refine sx_RU.call rfl rfl rfl rfl (cg_186 _ _) ?_
      | (refine sx_RU.call rfl rfl rfl rfl (cx_7 _ _ _ _) ?_; first | rw [if_pos (by assumption)] | rw [if_neg (by assumption)] | rw [if_pos (by decide)])
      | (refine sx_RU.call rfl rfl rfl rfl (cx_8 _ _ _ _ _ _) ?_; first | rw [if_pos (by assumption)] | rw [if_neg (by assumption)] | rw [if_pos (by decide)])
      | (refine sx_RU.call rfl rfl rfl rfl (cx_22 _ _ _ _) ?_; first | rw [if_pos (by assumption)] | rw [if_neg (by assumption)] | rw [if_pos (by decide)])
      | (refine sx_RU.call rfl rfl rfl rfl (cx_23 _ _ _ _) ?_; first | rw [if_pos (by assumption)] | rw [if_neg (by assumption)] | rw [if_pos (by decide)])
      | (refine sx_RU.call rfl rfl rfl rfl (cx_131 _ _ _ _) ?_; first | rw [if_pos (by assumption)] | rw [if_neg (by assumption)] | rw [if_pos (by decide)])
      | (refine sx_RU.call rfl rfl rfl rfl (cx_132 _ _ _ _ _ _) ?_; first | rw [if_pos (by assumption)] | rw [if_neg (by assumption)] | rw [if_pos (by decide)])
      | (refine sx_RU.call rfl rfl rfl rfl (cx_151 _ _ _ _) ?_; first | rw [if_pos (by assumption)] | rw [if_neg (by assumption)] | rw [if_pos (by decide)])
      | (refine sx_RU.call rfl rfl rfl rfl (cx_152 _ _ _ _) ?_; first | rw [if_pos (by assumption)] | rw [if_neg (by assumption)] | rw [if_pos (by decide)])
      | (refine sx_RU.call rfl rfl rfl rfl (cx_231 _ _ _ _) ?_; first | rw [if_pos (by assumption)] | rw [if_neg (by assumption)] | rw [if_pos (by decide)])
      | (refine sx_RU.call rfl rfl rfl rfl (cx_197 _ _ _ _) ?_; first | rw [if_pos (by assumption)] | rw [if_neg (by assumption)] | rw [if_pos (by decide)])
      | (refine sx_RU.call rfl rfl rfl rfl (cx_112 _ _ _ _) ?_; first | rw [if_pos (by assumption)] | rw [if_neg (by assumption)] | rw [if_pos (by decide)])
      | refine sx_RU.br rfl rfl (fun _ => ?_) (fun q => (of_decide_eq_false q (by assumption)).elim)
      | refine sx_RU.br rfl rfl (fun q => ((by assumption : ¬ _) (of_decide_eq_true q)).elim) (fun _ => ?_)
      | refine sx_RU.swo rfl (by assumption) rfl ?_)
set_option maxRecDepth 20000 in
theorem k_book_o0 (ys : List Int32) (a1 : Int32) (n0 : ¬ (0 ≤ a1 ∧ a1 ≤ 3)) : sx_twoI ys 121 236 [.int a1] := by
  refine ⟨(-1000000001), sx_vB, sx_vB2, _, rfl, ?_, ?_⟩
  · repeat (first
      | refine sx_RU.step rfl rfl ?_
      | exact sx_RU.ret rfl rfl
      | refine sx_RU.call rfl rfl rfl rfl (cf_B _) ?_
      | refine sx_RU.call rfl rfl rfl rfl (cf_N _) ?_
      | refine sx_RU.call rfl rfl rfl rfl (cf_M _) ?_
      | refine sx_RU.call rfl rfl rfl rfl (cf_Z _) ?_
      | refine sx_RU.call rfl rfl rfl rfl (cn_B _) ?_
      | refine sx_RU.call rfl rfl rfl rfl (cn_N _) ?_
      | refine sx_RU.call rfl rfl rfl rfl (cn_M _) ?_
      | refine sx_RU.call rfl rfl rfl rfl (cn_Z _) ?_
      | refine sx_RU.call rfl rfl rfl rfl (cg_27 _ _) ?_
      | refine sx_RU.call rfl rfl rfl rfl (cg_66 _ _) ?_
      | refine sx_RU.call rfl rfl rfl rfl (cg_156 _ _) ?_
      | refine sx_RU.call rfl rfl rfl rfl (cg_186 _ _) ?_
      | (refine sx_RU.call rfl rfl rfl rfl (cx_7 _ _ _ _) ?_; first | rw [if_pos (by assumption)] | rw [if_neg (by assumption)] | rw [if_pos (by decide)])
      | (refine sx_RU.call rfl rfl rfl rfl (cx_8 _ _ _ _ _ _) ?_; first | rw [if_pos (by assumption)] | rw [if_neg (by assumption)] | rw [if_pos (by decide)])
      | (refine sx_RU.call rfl rfl rfl rfl (cx_22 _ _ _ _) ?_; first | rw [if_pos (by assumption)] | rw [if_neg (by assumption)] | rw [if_pos (by decide)])
      | (refine sx_RU.call rfl rfl rfl rfl (cx_23 _ _ _ _) ?_; first | rw [if_pos (by assumption)] | rw [if_neg (by assumption)] | rw [if_pos (by decide)])
      | (refine sx_RU.call rfl rfl rfl rfl (cx_131 _ _ _ _) ?_; first | rw [if_pos (by assumption)] | rw [if_neg (by assumption)] | rw [if_pos (by decide)])
      | (refine sx_RU.call rfl rfl rfl rfl (cx_132 _ _ _ _ _ _) ?_; first | rw [if_pos (by assumption)] | rw [if_neg (by assumption)] | rw [if_pos (by decide)])
      | (refine sx_RU.call rfl rfl rfl rfl (cx_151 _ _ _ _) ?_; first | rw [if_pos (by assumption)] | rw [if_neg (by assumption)] | rw [if_pos (by decide)])
      | (refine sx_RU.call rfl rfl rfl rfl (cx_152 _ _ _ _) ?_; first | rw [if_pos (by assumption)] | rw [if_neg (by assumption)] | rw [if_pos (by decide)])
      | (refine sx_RU.call rfl rfl rfl rfl (cx_231 _ _ _ _) ?_; first | rw [if_pos (by assumption)] | rw [if_neg (by assumption)] | rw [if_pos (by decide)])
      | (refine sx_RU.call rfl rfl rfl rfl (cx_197 _ _ _ _) ?_; first | rw [if_pos (by assumption)] | rw [if_neg (by assumption)] | rw [if_pos (by decide)])
      | (refine sx_RU.call rfl rfl rfl rfl (cx_112 _ _ _ _) ?_; first | rw [if_pos (by assumption)] | rw [if_neg (by assumption)] | rw [if_pos (by decide)])
      | refine sx_RU.br rfl rfl (fun _ => ?_) (fun q => (of_decide_eq_false q (by assumption)).elim)
      | refine sx_RU.br rfl rfl (fun q => ((by assumption : ¬ _) (of_decide_eq_true q)).elim) (fun _ => ?_)
      | refine sx_RU.swo rfl (by assumption) rfl ?_)
  · repeat (first
      | refine sx_RU.step rfl rfl ?_
      | exact sx_RU.ret rfl rfl
      | refine sx_RU.call rfl rfl rfl rfl (cf_B _) ?_
      | refine sx_RU.call rfl rfl rfl rfl (cf_N _) ?_
      | refine sx_RU.call rfl rfl rfl rfl (cf_M _) ?_
      | refine sx_RU.call rfl rfl rfl rfl (cf_Z _) ?_
      | refine sx_RU.call rfl rfl rfl rfl (cn_B _) ?_
      | refine sx_RU.call rfl rfl rfl rfl (cn_N _) ?_
      | refine sx_RU.call rfl rfl rfl rfl (cn_M _) ?_
      | refine sx_RU.call rfl rfl rfl rfl (cn_Z _) ?_
      | refine sx_RU.call rfl rfl rfl rfl (cg_27 _ _) ?_
      | refine sx_RU.call rfl rfl rfl rfl (cg_66 _ _) ?_
      | refine sx_RU.call rfl rfl rfl rfl (cg_156 _ _) ?_
      | refine sx_RU.call rfl rfl rfl rfl (cg_186 _ _) ?_
      | (refine sx_RU.call rfl rfl rfl rfl (cx_7 _ _ _ _) ?_; first | rw [if_pos (by assumption)] | rw [if_neg (by assumption)] | rw [if_pos (by decide)])
      | (refine sx_RU.call rfl rfl rfl rfl (cx_8 _ _ _ _ _ _) ?_; first | rw [if_pos (by assumption)] | rw [if_neg (by assumption)] | rw [if_pos (by decide)])
      | (refine sx_RU.call rfl rfl rfl rfl (cx_22 _ _ _ _) ?_; first | rw [if_pos (by assumption)] | rw [if_neg (by assumption)] | rw [if_pos (by decide)])
      | (refine sx_RU.call rfl rfl rfl rfl (cx_23 _ _ _ _) ?_; first | rw [if_pos (by assumption)] | rw [if_neg (by assumption)] | rw [if_pos (by decide)])
      | (refine sx_RU.call rfl rfl rfl rfl (cx_131 _ _ _ _) ?_; first | rw [if_pos (by assumption)] | rw [if_neg (by assumption)] | rw [if_pos (by decide)])
      | (refine sx_RU.call rfl rfl rfl rfl (cx_132 _ _ _ _ _ _) ?_; first | rw [if_pos (by assumption)] | rw [if_neg (by assumption)] | rw [if_pos (by decide)])
      | (refine sx_RU.call rfl rfl rfl rfl (cx_151 _ _ _ _) ?_; first | rw [if_pos (by assumption)] | rw [if_neg (by assumption)] | rw [if_pos (by decide)])
      | (refine sx_RU.call rfl rfl rfl rfl (cx_152 _ _ _ _) ?_; first | rw [if_pos (by assumption)] | rw [if_neg (by assumption)] | rw [if_pos (by decide)])
      | (refine sx_RU.call rfl rfl rfl rfl (cx_231 _ _ _ _) ?_; first | rw [if_pos (by assumption)] | rw [if_neg (by assumption)] | rw [if_pos (by decide)])
      | (refine sx_RU.call rfl rfl rfl rfl (cx_197 _ _ _ _) ?_; first | rw [if_pos (by assumption)] | rw [if_neg (by assumption)] | rw [if_pos (by decide)])
      | (refine sx_RU.call rfl rfl rfl rfl (cx_112 _ _ _ _) ?_; first | rw [if_pos (by assumption)] | rw [if_neg (by assumption)] | rw [if_pos (by decide)])
      | refine sx_RU.br rfl rfl (fun _ => ?_) (fun q => (of_decide_eq_false q (by assumption)).elim)
      | refine sx_RU.br rfl rfl (fun q => ((by assumption : ¬ _) (of_decide_eq_true q)).elim) (fun _ => ?_)
      | refine sx_RU.swo rfl (by assumption) rfl ?_)
set_option maxRecDepth 20000 in
theorem k_read_o0 (ys : List Int32) (a1 : Int32) (n0 : ¬ (0 ≤ a1 ∧ a1 ≤ 3)) : sx_twoI ys 122 238 [.int a1] := by
  refine ⟨(-1000000001), sx_vB, sx_vB2, _, rfl, ?_, ?_⟩
  · repeat (first
      | refine sx_RU.step rfl rfl ?_
      | exact sx_RU.ret rfl rfl
      | refine sx_RU.call rfl rfl rfl rfl (cf_B _) ?_
      | refine sx_RU.call rfl rfl rfl rfl (cf_N _) ?_
      | refine sx_RU.call rfl rfl rfl rfl (cf_M _) ?_
      | refine sx_RU.call rfl rfl rfl rfl (cf_Z _) ?_
      | refine sx_RU.call rfl rfl rfl rfl (cn_B _) ?_
      | refine sx_RU.call rfl rfl rfl rfl (cn_N _) ?_
      | refine sx_RU.call rfl rfl rfl rfl (cn_M _) ?_
      | refine sx_RU.call rfl rfl rfl rfl (cn_Z _) ?_
      | refine sx_RU.call rfl rfl rfl rfl (cg_27 _ _) ?_
      | refine sx_RU.call rfl rfl rfl rfl (cg_66 _ _) ?_
      | refine sx_RU.call rfl rfl rfl rfl (cg_156 _ _) ?_
      | refine sx_RU.call rfl rfl rfl rfl (cg_186 _ _) ?_
      | (refine sx_RU.call rfl rfl rfl rfl (cx_7 _ _ _ _) ?_; first | rw [if_pos (by assumption)] | rw [if_neg (by assumption)] | rw [if_pos (by decide)])
      | (refine sx_RU.call rfl rfl rfl rfl (cx_8 _ _ _ _ _ _) ?_; first | rw [if_pos (by assumption)] | rw [if_neg (by assumption)] | rw [if_pos (by decide)])
      | (refine sx_RU.call rfl rfl rfl rfl (cx_22 _ _ _ _) ?_; first | rw [if_pos (by assumption)] | rw [if_neg (by assumption)] | rw [if_pos (by decide)])
      | (refine sx_RU.call rfl rfl rfl rfl (cx_23 _ _ _ _) ?_; first | rw [if_pos (by assumption)] | rw [if_neg (by assumption)] | rw [if_pos (by decide)])
      | (refine sx_RU.call rfl rfl rfl rfl (cx_131 _ _ _ _) ?_; first | rw [if_pos (by assumption)] | rw [if_neg (by assumption)] | rw [if_pos (by decide)])
      | (refine sx_RU.call rfl rfl rfl rfl (cx_132 _ _ _ _ _ _) ?_; first | rw [if_pos (by assumption)] | rw [if_neg (by assumption)] | rw [if_pos (by decide)])
      | (refine sx_RU.call rfl rfl rfl rfl (cx_151 _ _ _ _) ?_; first | rw [if_pos (by assumption)] | rw [if_neg (by assumption)] | rw [if_pos (by decide)])
      | (refine sx_RU.call rfl rfl rfl rfl (cx_152 _ _ _ _) ?_; first | rw [if_pos (by assumption)] | rw [if_neg (by assumption)] | rw [if_pos (by decide)])
      | (refine sx_RU.call rfl rfl rfl rfl (cx_231 _ _ _ _) ?_; first | rw [if_pos (by assumption)] | rw [if_neg (by assumption)] | rw [if_pos (by decide)])
      | (refine sx_RU.call rfl rfl rfl rfl (cx_197 _ _ _ _) ?_; first | rw [if_pos (by assumption)] | rw [if_neg (by assumption)] | rw [if_pos (by decide)])
      | (refine sx_RU.call rfl rfl rfl rfl (cx_112 _ _ _ _) ?_; first | rw [if_pos (by assumption)] | rw [if_neg (by assumption)] | rw [if_pos (by decide)])
      | refine sx_RU.br rfl rfl (fun _ => ?_) (fun q => (of_decide_eq_false q (by assumption)).elim)
      | refine sx_RU.br rfl rfl (fun q => ((by assumption : ¬ _) (of_decide_eq_true q)).elim) (fun _ => ?_)
      | refine sx_RU.swo rfl (by assumption) rfl ?_)
  · repeat (first
      | refine sx_RU.step rfl rfl ?_
      | exact sx_RU.ret rfl rfl
      | refine sx_RU.call rfl rfl rfl rfl (cf_B _) ?_
      | refine sx_RU.call rfl rfl rfl rfl (cf_N _) ?_
      | refine sx_RU.call rfl rfl rfl rfl (cf_M _) ?_
      | refine sx_RU.call rfl rfl rfl rfl (cf_Z _) ?_
      | refine sx_RU.call rfl rfl rfl rfl (cn_B _) ?_
      | refine sx_RU.call rfl rfl rfl rfl (cn_N _) ?_
      | refine sx_RU.call rfl rfl rfl rfl (cn_M _) ?_
      | refine sx_RU.call rfl rfl rfl rfl (cn_Z _) ?_
      | refine sx_RU.call rfl rfl rfl rfl (cg_27 _ _) ?_
      | refine sx_RU.call rfl rfl rfl rfl (cg_66 _ _) ?_
      | refine sx_RU.call rfl rfl rfl rfl (cg_156 _ _) ?_
      | refine sx_RU.call rfl rfl rfl rfl (cg_186 _ _) ?_
      | (refine sx_RU.call rfl rfl rfl rfl (cx_7 _ _ _ _) ?_; first | rw [if_pos (by assumption)] | rw [if_neg (by assumption)] | rw [if_pos (by decide)])
      | (refine sx_RU.call rfl rfl rfl rfl (cx_8 _ _ _ _ _ _) ?_; first | rw [if_pos (by assumption)] | rw [if_neg (by assumption)] | rw [if_pos (by decide)])
      | (refine sx_RU.call rfl rfl rfl rfl (cx_22 _ _ _ _) ?_; first | rw [if_pos (by assumption)] | rw [if_neg (by assumption)] | rw [if_pos (by decide)])
      | (refine sx_RU.call rfl rfl rfl rfl (cx_23 _ _ _ _) ?_; first | rw [if_pos (by assumption)] | rw [if_neg (by assumption)] | rw [if_pos (by decide)])
      | (refine sx_RU.call rfl rfl rfl rfl (cx_131 _ _ _ _) ?_; first | rw [if_pos (by assumption)] | rw [if_neg (by assumption)] | rw [if_pos (by decide)])
      | (refine sx_RU.call rfl rfl rfl rfl (cx_132 _ _ _ _ _ _) ?_; first | rw [if_pos (by assumption)] | rw [if_neg (by assumption)] | rw [if_pos (by decide)])
      | (refine sx_RU.call rfl rfl rfl rfl (cx_151 _ _ _ _) ?_; first | rw [if_pos (by assumption)] | rw [if_neg (by assumption)] | rw [if_pos (by decide)])
      | (refine sx_RU.call rfl rfl rfl rfl (cx_152 _ _ _ _) ?_; first | rw [if_pos (by assumption)] | rw [if_neg (by assumption)] | rw [if_pos (by decide)])
      | (refine sx_RU.call rfl rfl rfl rfl (cx_231 _ _ _ _) ?_; first | rw [if_pos (by assumption)] | rw [if_neg (by assumption)] | rw [if_pos (by decide)])
      | (refine sx_RU.call rfl rfl rfl rfl (cx_197 _ _ _ _) ?_; first | rw [if_pos (by assumption)] | rw [if_neg (by assumption)] | rw [if_pos (by decide)])
      | (refine sx_RU.call rfl rfl rfl rfl (cx_112 _ _ _ _) ?_; first | rw [if_pos (by assumption)] | rw [if_neg (by assumption)] | rw [if_pos (by decide)])
      | refine sx_RU.br rfl rfl (fun _ => ?_) (fun q => (of_decide_eq_false q (by assumption)).elim)
      | refine sx_RU.br rfl rfl (fun q => ((by assumption : ¬ _) (of_decide_eq_true q)).elim) (fun _ => ?_)
      | refine sx_RU.swo rfl (by assumption) rfl ?_)
set_option maxRecDepth 20000 in
theorem k_status_o0 (ys : List Int32) (a1 : Int32) (n0 : ¬ ((-1) ≤ a1 ∧ a1 ≤ 6)) : sx_twoI ys 128 245 [.int a1] := by
  refine ⟨(-1000000001), sx_vB, sx_vB2, _, rfl, ?_, ?_⟩
  · repeat (first
      | refine sx_RU.step rfl rfl ?_
      | exact sx_RU.ret rfl rfl
      | refine sx_RU.call rfl rfl rfl rfl (cf_B _) ?_
      | refine sx_RU.call rfl rfl rfl rfl (cf_N _) ?_
      | refine sx_RU.call rfl rfl rfl rfl (cf_M _) ?_
      | refine sx_RU.call rfl rfl rfl rfl (cf_Z _) ?_
      | refine sx_RU.call rfl rfl rfl rfl (cn_B _) ?_
      | refine sx_RU.call rfl rfl rfl rfl (cn_N _) ?_
      | refine sx_RU.call rfl rfl rfl rfl (cn_M _) ?_
      | refine sx_RU.call rfl rfl rfl rfl (cn_Z _) ?_
      | refine sx_RU.call rfl rfl rfl rfl (cg_27 _ _) ?_
      | refine sx_RU.call rfl rfl rfl rfl (cg_66 _ _) ?_
      | refine sx_RU.call rfl rfl rfl rfl (cg_156 _ _) ?_
      | refine sx_RU.call rfl rfl rfl rfl (cg_186 _ _) ?_
      | (refine sx_RU.call rfl rfl rfl rfl (cx_7 _ _ _ _) ?_; first | rw [if_pos (by assumption)] | rw [if_neg (by assumption)] | rw [if_pos (by decide)])
      | (refine sx_RU.call rfl rfl rfl rfl (cx_8 _ _ _ _ _ _) ?_; first | rw [if_pos (by assumption)] | rw [if_neg (by assumption)] | rw [if_pos (by decide)])
      | (refine sx_RU.call rfl rfl rfl rfl (cx_22 _ _ _ _) ?_; first | rw [if_pos (by assumption)] | rw [if_neg (by assumption)] | rw [if_pos (by decide)])
      | (refine sx_RU.call rfl rfl rfl rfl (cx_23 _ _ _ _) ?_; first | rw [if_pos (by assumption)] | rw [if_neg (by assumption)] | rw [if_pos (by decide)])
      | (refine sx_RU.call rfl rfl rfl rfl (cx_131 _ _ _ _) ?_; first | rw [if_pos (by assumption)] | rw [if_neg (by assumption)] | rw [if_pos (by decide)])
      | (refine sx_RU.call rfl rfl rfl rfl (cx_132 _ _ _ _ _ _) ?_; first | rw [if_pos (by assumption)] | rw [if_neg (by assumption)] | rw [if_pos (by decide)])
      | (refine sx_RU.call rfl rfl rfl rfl (cx_151 _ _ _ _) ?_; first | rw [if_pos (by assumption)] | rw [if_neg (by assumption)] | rw [if_pos (by decide)])
      | (refine sx_RU.call rfl rfl rfl rfl (cx_152 _ _ _ _) ?_; first | rw [if_pos (by assumption)] | rw [if_neg (by assumption)] | rw [if_pos (by decide)])
      | (refine sx_RU.call rfl rfl rfl rfl (cx_231 _ _ _ _) ?_; first | rw [if_pos (by assumption)] | rw [if_neg (by assumption)] | rw [if_pos (by decide)])
      | (refine sx_RU.call rfl rfl rfl rfl (cx_197 _ _ _ _) ?_; first | rw [if_pos (by assumption)] | rw [if_neg (by assumption)] | rw [if_pos (by decide)])
      | (refine sx_RU.call rfl rfl rfl rfl (cx_112 _ _ _ _) ?_; first | rw [if_pos (by assumption)] | rw [if_neg (by assumption)] | rw [if_pos (by decide)])
      | refine sx_RU.br rfl rfl (fun _ => ?_) (fun q => (of_decide_eq_false q (by assumption)).elim)
      | refine sx_RU.br rfl rfl (fun q => ((by assumption : ¬ _) (of_decide_eq_true q)).elim) (fun _ => ?_)
      | refine sx_RU.swo rfl (by assumption) rfl ?_)
  · repeat (first
      | refine sx_RU.step rfl rfl ?_
      | exact sx_RU.ret rfl rfl
      | refine sx_RU.call rfl rfl rfl rfl (cf_B _) ?_
      | refine sx_RU.call rfl rfl rfl rfl (cf_N _) ?_
      | refine sx_RU.call rfl rfl rfl rfl (cf_M _) ?_
      | refine sx_RU.call rfl rfl rfl rfl (cf_Z _) ?_
      | refine sx_RU.call rfl rfl rfl rfl (cn_B _) ?_
      | refine sx_RU.call rfl rfl rfl rfl (cn_N _) ?_
      | refine sx_RU.call rfl rfl rfl rfl (cn_M _) ?_
      | refine sx_RU.call rfl rfl rfl rfl (cn_Z _) ?_
      | refine sx_RU.call rfl rfl rfl rfl (cg_27 _ _) ?_
      | refine sx_RU.call rfl rfl rfl rfl (cg_66 _ _) ?_
      | refine sx_RU.call rfl rfl rfl rfl (cg_156 _ _) ?_
      | refine sx_RU.call rfl rfl rfl rfl (cg_186 _ _) ?_
      | (refine sx_RU.call rfl rfl rfl rfl (cx_7 _ _ _ _) ?_; first | rw [if_pos (by assumption)] | rw [if_neg (by assumption)] | rw [if_pos (by decide)])
      | (refine sx_RU.call rfl rfl rfl rfl (cx_8 _ _ _ _ _ _) ?_; first | rw [if_pos (by assumption)] | rw [if_neg (by assumption)] | rw [if_pos (by decide)])
      | (refine sx_RU.call rfl rfl rfl rfl (cx_22 _ _ _ _) ?_; first | rw [if_pos (by assumption)] | rw [if_neg (by assumption)] | rw [if_pos (by decide)])
      | (refine sx_RU.call rfl rfl rfl rfl (cx_23 _ _ _ _) ?_; first | rw [if_pos (by assumption)] | rw [if_neg (by assumption)] | rw [if_pos (by decide)])
      | (refine sx_RU.call rfl rfl rfl rfl (cx_131 _ _ _ _) ?_; first | rw [if_pos (by assumption)] | rw [if_neg (by assumption)] | rw [if_pos (by decide)])
      | (refine sx_RU.call rfl rfl rfl rfl (cx_132 _ _ _ _ _ _) ?_; first | rw [if_pos (by assumption)] | rw [if_neg (by assumption)] | rw [if_pos (by decide)])
      | (refine sx_RU.call rfl rfl rfl rfl (cx_151 _ _ _ _) ?_; first | rw [if_pos (by assumption)] | rw [if_neg (by assumption)] | rw [if_pos (by decide)])
      | (refine sx_RU.call rfl rfl rfl rfl (cx_152 _ _ _ _) ?_; first | rw [if_pos (by assumption)] | rw [if_neg (by assumption)] | rw [if_pos (by decide)])
      | (refine sx_RU.call rfl rfl rfl rfl (cx_231 _ _ _ _) ?_; first | rw [if_pos (by assumption)] | rw [if_neg (by assumption)] | rw [if_pos (by decide)])
      | (refine sx_RU.call rfl rfl rfl rfl (cx_197 _ _ _ _) ?_; first | rw [if_pos (by assumption)] | rw [if_neg (by assumption)] | rw [if_pos (by decide)])
      | (refine sx_RU.call rfl rfl rfl rfl (cx_112 _ _ _ _) ?_; first | rw [if_pos (by assumption)] | rw [if_neg (by assumption)] | rw [if_pos (by decide)])
      | refine sx_RU.br rfl rfl (fun _ => ?_) (fun q => (of_decide_eq_false q (by assumption)).elim)
      | refine sx_RU.br rfl rfl (fun q => ((by assumption : ¬ _) (of_decide_eq_true q)).elim) (fun _ => ?_)
      | refine sx_RU.swo rfl (by assumption) rfl ?_)
set_option maxRecDepth 20000 in
theorem k_write_m0 (ys : List Int32) (a2 : Int32) (lv9 : Int64) : sx_twoL ys 115 232 [.int 0, .int a2, .long lv9] := by
  refine ⟨((-1000000006 : Int32).toInt64), sx_vM, sx_vM2, _, rfl, ?_, ?_⟩
  · repeat (first
      | refine sx_RU.step rfl rfl ?_
      | exact sx_RU.ret rfl rfl
      | refine sx_RU.call rfl rfl rfl rfl (cf_B _) ?_
      | refine sx_RU.call rfl rfl rfl rfl (cf_N _) ?_
      | refine sx_RU.call rfl rfl rfl rfl (cf_M _) ?_
      | refine sx_RU.call rfl rfl rfl rfl (cf_Z _) ?_
      | refine sx_RU.call rfl rfl rfl rfl (cn_B _) ?_
      | refine sx_RU.call rfl rfl rfl rfl (cn_N _) ?_
      | refine sx_RU.call rfl rfl rfl rfl (cn_M _) ?_
      | refine sx_RU.call rfl rfl rfl rfl (cn_Z _) ?_
      | refine sx_RU.call rfl rfl rfl rfl (cg_113_0 _) ?_
      | (refine sx_RU.call rfl rfl rfl rfl (cx_7 _ _ _ _) ?_; first | rw [if_pos (by assumption)] | rw [if_neg (by assumption)] | rw [if_pos (by decide)])
      | (refine sx_RU.call rfl rfl rfl rfl (cx_8 _ _ _ _ _ _) ?_; first | rw [if_pos (by assumption)] | rw [if_neg (by assumption)] | rw [if_pos (by decide)])
      | (refine sx_RU.call rfl rfl rfl rfl (cx_22 _ _ _ _) ?_; first | rw [if_pos (by assumption)] | rw [if_neg (by assumption)] | rw [if_pos (by decide)])
      | (refine sx_RU.call rfl rfl rfl rfl (cx_23 _ _ _ _) ?_; first | rw [if_pos (by assumption)] | rw [if_neg (by assumption)] | rw [if_pos (by decide)])
      | (refine sx_RU.call rfl rfl rfl rfl (cx_131 _ _ _ _) ?_; first | rw [if_pos (by assumption)] | rw [if_neg (by assumption)] | rw [if_pos (by decide)])
      | (refine sx_RU.call rfl rfl rfl rfl (cx_132 _ _ _ _ _ _) ?_; first | rw [if_pos (by assumption)] | rw [if_neg (by assumption)] | rw [if_pos (by decide)])
      | (refine sx_RU.call rfl rfl rfl rfl (cx_151 _ _ _ _) ?_; first | rw [if_pos (by assumption)] | rw [if_neg (by assumption)] | rw [if_pos (by decide)])
      | (refine sx_RU.call rfl rfl rfl rfl (cx_152 _ _ _ _) ?_; first | rw [if_pos (by assumption)] | rw [if_neg (by assumption)] | rw [if_pos (by decide)])
      | (refine sx_RU.call rfl rfl rfl rfl (cx_231 _ _ _ _) ?_; first | rw [if_pos (by assumption)] | rw [if_neg (by assumption)] | rw [if_pos (by decide)])
      | (refine sx_RU.call rfl rfl rfl rfl (cx_197 _ _ _ _) ?_; first | rw [if_pos (by assumption)] | rw [if_neg (by assumption)] | rw [if_pos (by decide)])
      | (refine sx_RU.call rfl rfl rfl rfl (cx_112 _ _ _ _) ?_; first | rw [if_pos (by assumption)] | rw [if_neg (by assumption)] | rw [if_pos (by decide)])
      | refine sx_RU.br rfl rfl (fun _ => ?_) (fun q => (of_decide_eq_false q (by assumption)).elim)
      | refine sx_RU.br rfl rfl (fun q => ((by assumption : ¬ _) (of_decide_eq_true q)).elim) (fun _ => ?_)
      | refine sx_RU.swo rfl (by assumption) rfl ?_)
  · repeat (first
      | refine sx_RU.step rfl rfl ?_
      | exact sx_RU.ret rfl rfl
      | refine sx_RU.call rfl rfl rfl rfl (cf_B _) ?_
      | refine sx_RU.call rfl rfl rfl rfl (cf_N _) ?_
      | refine sx_RU.call rfl rfl rfl rfl (cf_M _) ?_
      | refine sx_RU.call rfl rfl rfl rfl (cf_Z _) ?_
      | refine sx_RU.call rfl rfl rfl rfl (cn_B _) ?_
      | refine sx_RU.call rfl rfl rfl rfl (cn_N _) ?_
      | refine sx_RU.call rfl rfl rfl rfl (cn_M _) ?_
      | refine sx_RU.call rfl rfl rfl rfl (cn_Z _) ?_
      | (refine sx_RU.call rfl rfl rfl rfl (cx_7 _ _ _ _) ?_; first | rw [if_pos (by assumption)] | rw [if_neg (by assumption)] | rw [if_pos (by decide)])
      | (refine sx_RU.call rfl rfl rfl rfl (cx_8 _ _ _ _ _ _) ?_; first | rw [if_pos (by assumption)] | rw [if_neg (by assumption)] | rw [if_pos (by decide)])
      | (refine sx_RU.call rfl rfl rfl rfl (cx_22 _ _ _ _) ?_; first | rw [if_pos (by assumption)] | rw [if_neg (by assumption)] | rw [if_pos (by decide)])
      | (refine sx_RU.call rfl rfl rfl rfl (cx_23 _ _ _ _) ?_; first | rw [if_pos (by assumption)] | rw [if_neg (by assumption)] | rw [if_pos (by decide)])
      | (refine sx_RU.call rfl rfl rfl rfl (cx_131 _ _ _ _) ?_; first | rw [if_pos (by assumption)] | rw [if_neg (by assumption)] | rw [if_pos (by decide)])
      | (refine sx_RU.call rfl rfl rfl rfl (cx_132 _ _ _ _ _ _) ?_; first | rw [if_pos (by assumption)] | rw [if_neg (by assumption)] | rw [if_pos (by decide)])
      | (refine sx_RU.call rfl rfl rfl rfl (cx_151 _ _ _ _) ?_; first | rw [if_pos (by assumption)] | rw [if_neg (by assumption)] | rw [if_pos (by decide)])
      | (refine sx_RU.call rfl rfl rfl rfl (cx_152 _ _ _ _) ?_; first | rw [if_pos (by assumption)] | rw [if_neg (by assumption)] | rw [if_pos (by decide)])
      | (refine sx_RU.call rfl rfl rfl rfl (cx_231 _ _ _ _) ?_; first | rw [if_pos (by assumption)] | rw [if_neg (by assumption)] | rw [if_pos (by decide)])
      | (refine sx_RU.call rfl rfl rfl rfl (cx_197 _ _ _ _) ?_; first | rw [if_pos (by assumption)] | rw [if_neg (by assumption)] | rw [if_pos (by decide)])
      | (refine sx_RU.call rfl rfl rfl rfl (cx_112 _ _ _ _) ?_; first | rw [if_pos (by assumption)] | rw [if_neg (by assumption)] | rw [if_pos (by decide)])
      | refine sx_RU.br rfl rfl (fun _ => ?_) (fun q => (of_decide_eq_false q (by assumption)).elim)
      | refine sx_RU.br rfl rfl (fun q => ((by assumption : ¬ _) (of_decide_eq_true q)).elim) (fun _ => ?_)
      | refine sx_RU.swo rfl (by assumption) rfl ?_)
set_option maxRecDepth 20000 in
theorem k_write_m1 (ys : List Int32) (a2 : Int32) (lv9 : Int64) : sx_twoL ys 115 232 [.int 1, .int a2, .long lv9] := by
  refine ⟨((-1000000006 : Int32).toInt64), sx_vM, sx_vM2, _, rfl, ?_, ?_⟩
  · repeat (first
      | refine sx_RU.step rfl rfl ?_
      | exact sx_RU.ret rfl rfl
      | refine sx_RU.call rfl rfl rfl rfl (cf_B _) ?_
      | refine sx_RU.call rfl rfl rfl rfl (cf_N _) ?_
      | refine sx_RU.call rfl rfl rfl rfl (cf_M _) ?_
      | refine sx_RU.call rfl rfl rfl rfl (cf_Z _) ?_
      | refine sx_RU.call rfl rfl rfl rfl (cn_B _) ?_
      | refine sx_RU.call rfl rfl rfl rfl (cn_N _) ?_
      | refine sx_RU.call rfl rfl rfl rfl (cn_M _) ?_
      | refine sx_RU.call rfl rfl rfl rfl (cn_Z _) ?_
      | refine sx_RU.call rfl rfl rfl rfl (cg_113_1 _) ?_
      | (refine sx_RU.call rfl rfl rfl rfl (cx_7 _ _ _ _) ?_; first | rw [if_pos (by assumption)] | rw [if_neg (by assumption)] | rw [if_pos (by decide)])
      | (refine sx_RU.call rfl rfl rfl rfl (cx_8 _ _ _ _ _ _) ?_; first | rw [if_pos (by assumption)] | rw [if_neg (by assumption)] | rw [if_pos (by decide)])
      | (refine sx_RU.call rfl rfl rfl rfl (cx_22 _ _ _ _) ?_; first | rw [if_pos (by assumption)] | rw [if_neg (by assumption)] | rw [if_pos (by decide)])
      | (refine sx_RU.call rfl rfl rfl rfl (cx_23 _ _ _ _) ?_; first | rw [if_pos (by assumption)] | rw [if_neg (by assumption)] | rw [if_pos (by decide)])
      | (refine sx_RU.call rfl rfl rfl rfl (cx_131 _ _ _ _) ?_; first | rw [if_pos (by assumption)] | rw [if_neg (by assumption)] | rw [if_pos (by decide)])
      | (refine sx_RU.call rfl rfl rfl rfl (cx_132 _ _ _ _ _ _) ?_; first | rw [if_pos (by assumption)] | rw [if_neg (by assumption)] | rw [if_pos (by decide)])
      | (refine sx_RU.call rfl rfl rfl rfl (cx_151 _ _ _ _) ?_; first | rw [if_pos (by assumption)] | rw [if_neg (by assumption)] | rw [if_pos (by decide)])
      | (refine sx_RU.call rfl rfl rfl rfl (cx_152 _ _ _ _) ?_; first | rw [if_pos (by assumption)] | rw [if_neg (by assumption)] | rw [if_pos (by decide)])
      | (refine sx_RU.call rfl rfl rfl rfl (cx_231 _ _ _ _) ?_; first | rw [if_pos (by assumption)] | rw [if_neg (by assumption)] | rw [if_pos (by decide)])
      | (refine sx_RU.call rfl rfl rfl rfl (cx_197 _ _ _ _) ?_; first | rw [if_pos (by assumption)] | rw [if_neg (by assumption)] | rw [if_pos (by decide)])
      | (refine sx_RU.call rfl rfl rfl rfl (cx_112 _ _ _ _) ?_; first | rw [if_pos (by assumption)] | rw [if_neg (by assumption)] | rw [if_pos (by decide)])
      | refine sx_RU.br rfl rfl (fun _ => ?_) (fun q => (of_decide_eq_false q (by assumption)).elim)
      | refine sx_RU.br rfl rfl (fun q => ((by assumption : ¬ _) (of_decide_eq_true q)).elim) (fun _ => ?_)
      | refine sx_RU.swo rfl (by assumption) rfl ?_)
  · repeat (first
      | refine sx_RU.step rfl rfl ?_
      | exact sx_RU.ret rfl rfl
      | refine sx_RU.call rfl rfl rfl rfl (cf_B _) ?_
      | refine sx_RU.call rfl rfl rfl rfl (cf_N _) ?_
      | refine sx_RU.call rfl rfl rfl rfl (cf_M _) ?_
      | refine sx_RU.call rfl rfl rfl rfl (cf_Z _) ?_
      | refine sx_RU.call rfl rfl rfl rfl (cn_B _) ?_
      | refine sx_RU.call rfl rfl rfl rfl (cn_N _) ?_
      | refine sx_RU.call rfl rfl rfl rfl (cn_M _) ?_
      | refine sx_RU.call rfl rfl rfl rfl (cn_Z _) ?_
      | (refine sx_RU.call rfl rfl rfl rfl (cx_7 _ _ _ _) ?_; first | rw [if_pos (by assumption)] | rw [if_neg (by assumption)] | rw [if_pos (by decide)])
      | (refine sx_RU.call rfl rfl rfl rfl (cx_8 _ _ _ _ _ _) ?_; first | rw [if_pos (by assumption)] | rw [if_neg (by assumption)] | rw [if_pos (by decide)])
      | (refine sx_RU.call rfl rfl rfl rfl (cx_22 _ _ _ _) ?_; first | rw [if_pos (by assumption)] | rw [if_neg (by assumption)] | rw [if_pos (by decide)])
      | (refine sx_RU.call rfl rfl rfl rfl (cx_23 _ _ _ _) ?_; first | rw [if_pos (by assumption)] | rw [if_neg (by assumption)] | rw [if_pos (by decide)])
      | (refine sx_RU.call rfl rfl rfl rfl (cx_131 _ _ _ _) ?_; first | rw [if_pos (by assumption)] | rw [if_neg (by assumption)] | rw [if_pos (by decide)])
      | (refine sx_RU.call rfl rfl rfl rfl (cx_132 _ _ _ _ _ _) ?_; first | rw [if_pos (by assumption)] | rw [if_neg (by assumption)] | rw [if_pos (by decide)])
      | (refine sx_RU.call rfl rfl rfl rfl (cx_151 _ _ _ _) ?_; first | rw [if_pos (by assumption)] | rw [if_neg (by assumption)] | rw [if_pos (by decide)])
      | (refine sx_RU.call rfl rfl rfl rfl (cx_152 _ _ _ _) ?_; first | rw [if_pos (by assumption)] | rw [if_neg (by assumption)] | rw [if_pos (by decide)])
      | (refine sx_RU.call rfl rfl rfl rfl (cx_231 _ _ _ _) ?_; first | rw [if_pos (by assumption)] | rw [if_neg (by assumption)] | rw [if_pos (by decide)])
      | (refine sx_RU.call rfl rfl rfl rfl (cx_197 _ _ _ _) ?_; first | rw [if_pos (by assumption)] | rw [if_neg (by assumption)] | rw [if_pos (by decide)])
      | (refine sx_RU.call rfl rfl rfl rfl (cx_112 _ _ _ _) ?_; first | rw [if_pos (by assumption)] | rw [if_neg (by assumption)] | rw [if_pos (by decide)])
      | refine sx_RU.br rfl rfl (fun _ => ?_) (fun q => (of_decide_eq_false q (by assumption)).elim)
      | refine sx_RU.br rfl rfl (fun q => ((by assumption : ¬ _) (of_decide_eq_true q)).elim) (fun _ => ?_)
      | refine sx_RU.swo rfl (by assumption) rfl ?_)
set_option maxRecDepth 20000 in
theorem k_write_m2 (ys : List Int32) (a2 : Int32) (lv9 : Int64) : sx_twoL ys 115 232 [.int 2, .int a2, .long lv9] := by
  refine ⟨((-1000000006 : Int32).toInt64), sx_vM, sx_vM2, _, rfl, ?_, ?_⟩
  · repeat (first
      | refine sx_RU.step rfl rfl ?_
      | exact sx_RU.ret rfl rfl
      | refine sx_RU.call rfl rfl rfl rfl (cf_B _) ?_
      | refine sx_RU.call rfl rfl rfl rfl (cf_N _) ?_
      | refine sx_RU.call rfl rfl rfl rfl (cf_M _) ?_
      | refine sx_RU.call rfl rfl rfl rfl (cf_Z _) ?_
      | refine sx_RU.call rfl rfl rfl rfl (cn_B _) ?_
      | refine sx_RU.call rfl rfl rfl rfl (cn_N _) ?_
      | refine sx_RU.call rfl rfl rfl rfl (cn_M _) ?_
      | refine sx_RU.call rfl rfl rfl rfl (cn_Z _) ?_
      | refine sx_RU.call rfl rfl rfl rfl (cg_113_2 _) ?_
      | (refine sx_RU.call rfl rfl rfl rfl (cx_7 _ _ _ _) ?_; first | rw [if_pos (by assumption)] | rw [if_neg (by assumption)] | rw [if_pos (by decide)])
      | (refine sx_RU.call rfl rfl rfl rfl (cx_8 _ _ _ _ _ _) ?_; first | rw [if_pos (by assumption)] | rw [if_neg (by assumption)] | rw [if_pos (by decide)])
      | (refine sx_RU.call rfl rfl rfl rfl (cx_22 _ _ _ _) ?_; first | rw [if_pos (by assumption)] | rw [if_neg (by assumption)] | rw [if_pos (by decide)])
      | (refine sx_RU.call rfl rfl rfl rfl (cx_23 _ _ _ _) ?_; first | rw [if_pos (by assumption)] | rw [if_neg (by assumption)] | rw [if_pos (by decide)])
      | (refine sx_RU.call rfl rfl rfl rfl (cx_131 _ _ _ _) ?_; first | rw [if_pos (by assumption)] | rw [if_neg (by assumption)] | rw [if_pos (by decide)])
      | (refine sx_RU.call rfl rfl rfl rfl (cx_132 _ _ _ _ _ _) ?_; first | rw [if_pos (by assumption)] | rw [if_neg (by assumption)] | rw [if_pos (by decide)])
      | (refine sx_RU.call rfl rfl rfl rfl (cx_151 _ _ _ _) ?_; first | rw [if_pos (by assumption)] | rw [if_neg (by assumption)] | rw [if_pos (by decide)])
      | (refine sx_RU.call rfl rfl rfl rfl (cx_152 _ _ _ _) ?_; first | rw [if_pos (by assumption)] | rw [if_neg (by assumption)] | rw [if_pos (by decide)])
      | (refine sx_RU.call rfl rfl rfl rfl (cx_231 _ _ _ _) ?_; first | rw [if_pos (by assumption)] | rw [if_neg (by assumption)] | rw [if_pos (by decide)])
      | (refine sx_RU.call rfl rfl rfl rfl (cx_197 _ _ _ _) ?_; first | rw [if_pos (by assumption)] | rw [if_neg (by assumption)] | rw [if_pos (by decide)])
      | (refine sx_RU.call rfl rfl rfl rfl (cx_112 _ _ _ _) ?_; first | rw [if_pos (by assumption)] | rw [if_neg (by assumption)] | rw [if_pos (by decide)])
      | refine sx_RU.br rfl rfl (fun _ => ?_) (fun q => (of_decide_eq_false q (by assumption)).elim)
      | refine sx_RU.br rfl rfl (fun q => ((by assumption : ¬ _) (of_decide_eq_true q)).elim) (fun _ => ?_)
      | refine sx_RU.swo rfl (by assumption) rfl ?_)
  · repeat (first
      | refine sx_RU.step rfl rfl ?_
      | exact sx_RU.ret rfl rfl
      | refine sx_RU.call rfl rfl rfl rfl (cf_B _) ?_
      | refine sx_RU.call rfl rfl rfl rfl (cf_N _) ?_
      | refine sx_RU.call rfl rfl rfl rfl (cf_M _) ?_
      | refine sx_RU.call rfl rfl rfl rfl (cf_Z _) ?_
      | refine sx_RU.call rfl rfl rfl rfl (cn_B _) ?_
      | refine sx_RU.call rfl rfl rfl rfl (cn_N _) ?_
      | refine sx_RU.call rfl rfl rfl rfl (cn_M _) ?_
      | refine sx_RU.call rfl rfl rfl rfl (cn_Z _) ?_
      | (refine sx_RU.call rfl rfl rfl rfl (cx_7 _ _ _ _) ?_; first | rw [if_pos (by assumption)] | rw [if_neg (by assumption)] | rw [if_pos (by decide)])
      | (refine sx_RU.call rfl rfl rfl rfl (cx_8 _ _ _ _ _ _) ?_; first | rw [if_pos (by assumption)] | rw [if_neg (by assumption)] | rw [if_pos (by decide)])
      | (refine sx_RU.call rfl rfl rfl rfl (cx_22 _ _ _ _) ?_; first | rw [if_pos (by assumption)] | rw [if_neg (by assumption)] | rw [if_pos (by decide)])
      | (refine sx_RU.call rfl rfl rfl rfl (cx_23 _ _ _ _) ?_; first | rw [if_pos (by assumption)] | rw [if_neg (by assumption)] | rw [if_pos (by decide)])
      | (refine sx_RU.call rfl rfl rfl rfl (cx_131 _ _ _ _) ?_; first | rw [if_pos (by assumption)] | rw [if_neg (by assumption)] | rw [if_pos (by decide)])
      | (refine sx_RU.call rfl rfl rfl rfl (cx_132 _ _ _ _ _ _) ?_; first | rw [if_pos (by assumption)] | rw [if_neg (by assumption)] | rw [if_pos (by decide)])
      | (refine sx_RU.call rfl rfl rfl rfl (cx_151 _ _ _ _) ?_; first | rw [if_pos (by assumption)] | rw [if_neg (by assumption)] | rw [if_pos (by decide)])
      | (refine sx_RU.call rfl rfl rfl rfl (cx_152 _ _ _ _) ?_; first | rw [if_pos (by assumption)] | rw [if_neg (by assumption)] | rw [if_pos (by decide)])
      | (refine sx_RU.call rfl rfl rfl rfl (cx_231 _ _ _ _) ?_; first | rw [if_pos (by assumption)] | rw [if_neg (by assumption)] | rw [if_pos (by decide)])
      | (refine sx_RU.call rfl rfl rfl rfl (cx_197 _ _ _ _) ?_; first | rw [if_pos (by assumption)] | rw [if_neg (by assumption)] | rw [if_pos (by decide)])
      | (refine sx_RU.call rfl rfl rfl rfl (cx_112 _ _ _ _) ?_; first | rw [if_pos (by assumption)] | rw [if_neg (by assumption)] | rw [if_pos (by decide)])
      | refine sx_RU.br rfl rfl (fun _ => ?_) (fun q => (of_decide_eq_false q (by assumption)).elim)
      | refine sx_RU.br rfl rfl (fun q => ((by assumption : ¬ _) (of_decide_eq_true q)).elim) (fun _ => ?_)
      | refine sx_RU.swo rfl (by assumption) rfl ?_)
set_option maxRecDepth 20000 in
theorem k_write_m3 (ys : List Int32) (a2 : Int32) (lv9 : Int64) : sx_twoL ys 115 232 [.int 3, .int a2, .long lv9] := by
  refine ⟨((-1000000006 : Int32).toInt64), sx_vM, sx_vM2, _, rfl, ?_, ?_⟩
  · repeat (first
      | refine sx_RU.step rfl rfl ?_
      | exact sx_RU.ret rfl rfl
      | refine sx_RU.call rfl rfl rfl rfl (cf_B _) ?_
      | refine sx_RU.call rfl rfl rfl rfl (cf_N _) ?_
      | refine sx_RU.call rfl rfl rfl rfl (cf_M _) ?_
      | refine sx_RU.call rfl rfl rfl rfl (cf_Z _) ?_
      | refine sx_RU.call rfl rfl rfl rfl (cn_B _) ?_
      | refine sx_RU.call rfl rfl rfl rfl (cn_N _) ?_
      | refine sx_RU.call rfl rfl rfl rfl (cn_M _) ?_
      | refine sx_RU.call rfl rfl rfl rfl (cn_Z _) ?_
      | refine sx_RU.call rfl rfl rfl rfl (cg_113_3 _) ?_
      | (refine sx_RU.call rfl rfl rfl rfl (cx_7 _ _ _ _) ?_; first | rw [if_pos (by assumption)] | rw [if_neg (by assumption)] | rw [if_pos (by decide)])
      | (refine sx_RU.call rfl rfl rfl rfl (cx_8 _ _ _ _ _ _) ?_; first | rw [if_pos (by assumption)] | rw [if_neg (by assumption)] | rw [if_pos (by decide)])
      | (refine sx_RU.call rfl rfl rfl rfl (cx_22 _ _ _ _) ?_; first | rw [if_pos (by assumption)] | rw [if_neg (by assumption)] | rw [if_pos (by decide)])
      | (refine sx_RU.call rfl rfl rfl rfl (cx_23 _ _ _ _) ?_; first | rw [if_pos (by assumption)] | rw [if_neg (by assumption)] | rw [if_pos (by decide)])
      | (refine sx_RU.call rfl rfl rfl rfl (cx_131 _ _ _ _) ?_; first | rw [if_pos (by assumption)] | rw [if_neg (by assumption)] | rw [if_pos (by decide)])
      | (refine sx_RU.call rfl rfl rfl rfl (cx_132 _ _ _ _ _ _) ?_; first | rw [if_pos (by assumption)] | rw [if_neg (by assumption)] | rw [if_pos (by decide)])
      | (refine sx_RU.call rfl rfl rfl rfl (cx_151 _ _ _ _) ?_; first | rw [if_pos (by assumption)] | rw [if_neg (by assumption)] | rw [if_pos (by decide)])
      | (refine sx_RU.call rfl rfl rfl rfl (cx_152 _ _ _ _) ?_; first | rw [if_pos (by assumption)] | rw [if_neg (by assumption)] | rw [if_pos (by decide)])
      | (refine sx_RU.call rfl rfl rfl rfl (cx_231 _ _ _ _) ?_; first | rw [if_pos (by assumption)] | rw [if_neg (by assumption)] | rw [if_pos (by decide)])
      | (refine sx_RU.call rfl rfl rfl rfl (cx_197 _ _ _ _) ?_; first | rw [if_pos (by assumption)] | rw [if_neg (by assumption)] | rw [if_pos (by decide)])
      | (refine sx_RU.call rfl rfl rfl rfl (cx_112 _ _ _ _) ?_; first | rw [if_pos (by assumption)] | rw [if_neg (by assumption)] | rw [if_pos (by decide)])
      | refine sx_RU.br rfl rfl (fun _ => ?_) (fun q => (of_decide_eq_false q (by assumption)).elim)
      | refine sx_RU.br rfl rfl (fun q => ((by assumption : ¬ _) (of_decide_eq_true q)).elim) (fun _ => ?_)
      | refine sx_RU.swo rfl (by assumption) rfl ?_)
  · repeat (first
      | refine sx_RU.step rfl rfl ?_
      | exact sx_RU.ret rfl rfl
      | refine sx_RU.call rfl rfl rfl rfl (cf_B _) ?_
      | refine sx_RU.call rfl rfl rfl rfl (cf_N _) ?_
      | refine sx_RU.call rfl rfl rfl rfl (cf_M _) ?_
      | refine sx_RU.call rfl rfl rfl rfl (cf_Z _) ?_
      | refine sx_RU.call rfl rfl rfl rfl (cn_B _) ?_
      | refine sx_RU.call rfl rfl rfl rfl (cn_N _) ?_
      | refine sx_RU.call rfl rfl rfl rfl (cn_M _) ?_
      | refine sx_RU.call rfl rfl rfl rfl (cn_Z _) ?_
      | (refine sx_RU.call rfl rfl rfl rfl (cx_7 _ _ _ _) ?_; first | rw [if_pos (by assumption)] | rw [if_neg (by assumption)] | rw [if_pos (by decide)])
      | (refine sx_RU.call rfl rfl rfl rfl (cx_8 _ _ _ _ _ _) ?_; first | rw [if_pos (by assumption)] | rw [if_neg (by assumption)] | rw [if_pos (by decide)])
      | (refine sx_RU.call rfl rfl rfl rfl (cx_22 _ _ _ _) ?_; first | rw [if_pos (by assumption)] | rw [if_neg (by assumption)] | rw [if_pos (by decide)])
      | (refine sx_RU.call rfl rfl rfl rfl (cx_23 _ _ _ _) ?_; first | rw [if_pos (by assumption)] | rw [if_neg (by assumption)] | rw [if_pos (by decide)])
      | (refine sx_RU.call rfl rfl rfl rfl (cx_131 _ _ _ _) ?_; first | rw [if_pos (by assumption)] | rw [if_neg (by assumption)] | rw [if_pos (by decide)])
      | (refine sx_RU.call rfl rfl rfl rfl (cx_132 _ _ _ _ _ _) ?_; first | rw [if_pos (by assumption)] | rw [if_neg (by assumption)] | rw [if_pos (by decide)])
      | (refine sx_RU.call rfl rfl rfl rfl (cx_151 _ _ _ _) ?_; first | rw [if_pos (by assumption)] | rw [if_neg (by assumption)] | rw [if_pos (by decide)])
      | (refine sx_RU.call rfl rfl rfl rfl (cx_152 _ _ _ _) ?_; first | rw [if_pos (by assumption)] | rw [if_neg (by assumption)] | rw [if_pos (by decide)])
      | (refine sx_RU.call rfl rfl rfl rfl (cx_231 _ _ _ _) ?_; first | rw [if_pos (by assumption)] | rw [if_neg (by assumption)] | rw [if_pos (by decide)])
      | (refine sx_RU.call rfl rfl rfl rfl (cx_197 _ _ _ _) ?_; first | rw [if_pos (by assumption)] | rw [if_neg (by assumption)] | rw [if_pos (by decide)])
      | (refine sx_RU.call rfl rfl rfl rfl (cx_112 _ _ _ _) ?_; first | rw [if_pos (by assumption)] | rw [if_neg (by assumption)] | rw [if_pos (by decide)])
      | refine sx_RU.br rfl rfl (fun _ => ?_) (fun q => (of_decide_eq_false q (by assumption)).elim)
      | refine sx_RU.br rfl rfl (fun q => ((by assumption : ¬ _) (of_decide_eq_true q)).elim) (fun _ => ?_)
      | refine sx_RU.swo rfl (by assumption) rfl ?_)
set_option maxRecDepth 20000 in
theorem k_lays_m0 (ys : List Int32) (a2 : Int32) : sx_twoI ys 120 235 [.int 0, .int a2] := by
  refine ⟨(-1000000006), sx_vM, sx_vM2, _, rfl, ?_, ?_⟩
  · repeat (first
      | refine sx_RU.step rfl rfl ?_
      | exact sx_RU.ret rfl rfl
      | refine sx_RU.call rfl rfl rfl rfl (cf_B _) ?_
      | refine sx_RU.call rfl rfl rfl rfl (cf_N _) ?_
      | refine sx_RU.call rfl rfl rfl rfl (cf_M _) ?_
      | refine sx_RU.call rfl rfl rfl rfl (cf_Z _) ?_
      | refine sx_RU.call rfl rfl rfl rfl (cn_B _) ?_
      | refine sx_RU.call rfl rfl rfl rfl (cn_N _) ?_
      | refine sx_RU.call rfl rfl rfl rfl (cn_M _) ?_
      | refine sx_RU.call rfl rfl rfl rfl (cn_Z _) ?_
      | refine sx_RU.call rfl rfl rfl rfl (cg_113_0 _) ?_
      | (refine sx_RU.call rfl rfl rfl rfl (cx_7 _ _ _ _) ?_; first | rw [if_pos (by assumption)] | rw [if_neg (by assumption)] | rw [if_pos (by decide)])
      | (refine sx_RU.call rfl rfl rfl rfl (cx_8 _ _ _ _ _ _) ?_; first | rw [if_pos (by assumption)] | rw [if_neg (by assumption)] | rw [if_pos (by decide)])
      | (refine sx_RU.call rfl rfl rfl rfl (cx_22 _ _ _ _) ?_; first | rw [if_pos (by assumption)] | rw [if_neg (by assumption)] | rw [if_pos (by decide)])
      | (refine sx_RU.call rfl rfl rfl rfl (cx_23 _ _ _ _) ?_; first | rw [if_pos (by assumption)] | rw [if_neg (by assumption)] | rw [if_pos (by decide)])
      | (refine sx_RU.call rfl rfl rfl rfl (cx_131 _ _ _ _) ?_; first | rw [if_pos (by assumption)] | rw [if_neg (by assumption)] | rw [if_pos (by decide)])
      | (refine sx_RU.call rfl rfl rfl rfl (cx_132 _ _ _ _ _ _) ?_; first | rw [if_pos (by assumption)] | rw [if_neg (by assumption)] | rw [if_pos (by decide)])
      | (refine sx_RU.call rfl rfl rfl rfl (cx_151 _ _ _ _) ?_; first | rw [if_pos (by assumption)] | rw [if_neg (by assumption)] | rw [if_pos (by decide)])
      | (refine sx_RU.call rfl rfl rfl rfl (cx_152 _ _ _ _) ?_; first | rw [if_pos (by assumption)] | rw [if_neg (by assumption)] | rw [if_pos (by decide)])
      | (refine sx_RU.call rfl rfl rfl rfl (cx_231 _ _ _ _) ?_; first | rw [if_pos (by assumption)] | rw [if_neg (by assumption)] | rw [if_pos (by decide)])
      | (refine sx_RU.call rfl rfl rfl rfl (cx_197 _ _ _ _) ?_; first | rw [if_pos (by assumption)] | rw [if_neg (by assumption)] | rw [if_pos (by decide)])
      | (refine sx_RU.call rfl rfl rfl rfl (cx_112 _ _ _ _) ?_; first | rw [if_pos (by assumption)] | rw [if_neg (by assumption)] | rw [if_pos (by decide)])
      | refine sx_RU.br rfl rfl (fun _ => ?_) (fun q => (of_decide_eq_false q (by assumption)).elim)
      | refine sx_RU.br rfl rfl (fun q => ((by assumption : ¬ _) (of_decide_eq_true q)).elim) (fun _ => ?_)
      | refine sx_RU.swo rfl (by assumption) rfl ?_)
  · repeat (first
      | refine sx_RU.step rfl rfl ?_
      | exact sx_RU.ret rfl rfl
      | refine sx_RU.call rfl rfl rfl rfl (cf_B _) ?_
      | refine sx_RU.call rfl rfl rfl rfl (cf_N _) ?_
      | refine sx_RU.call rfl rfl rfl rfl (cf_M _) ?_
      | refine sx_RU.call rfl rfl rfl rfl (cf_Z _) ?_
      | refine sx_RU.call rfl rfl rfl rfl (cn_B _) ?_
      | refine sx_RU.call rfl rfl rfl rfl (cn_N _) ?_
      | refine sx_RU.call rfl rfl rfl rfl (cn_M _) ?_
      | refine sx_RU.call rfl rfl rfl rfl (cn_Z _) ?_
      | (refine sx_RU.call rfl rfl rfl rfl (cx_7 _ _ _ _) ?_; first | rw [if_pos (by assumption)] | rw [if_neg (by assumption)] | rw [if_pos (by decide)])
      | (refine sx_RU.call rfl rfl rfl rfl (cx_8 _ _ _ _ _ _) ?_; first | rw [if_pos (by assumption)] | rw [if_neg (by assumption)] | rw [if_pos (by decide)])
      | (refine sx_RU.call rfl rfl rfl rfl (cx_22 _ _ _ _) ?_; first | rw [if_pos (by assumption)] | rw [if_neg (by assumption)] | rw [if_pos (by decide)])
      | (refine sx_RU.call rfl rfl rfl rfl (cx_23 _ _ _ _) ?_; first | rw [if_pos (by assumption)] | rw [if_neg (by assumption)] | rw [if_pos (by decide)])
      | (refine sx_RU.call rfl rfl rfl rfl (cx_131 _ _ _ _) ?_; first | rw [if_pos (by assumption)] | rw [if_neg (by assumption)] | rw [if_pos (by decide)])
      | (refine sx_RU.call rfl rfl rfl rfl (cx_132 _ _ _ _ _ _) ?_; first | rw [if_pos (by assumption)] | rw [if_neg (by assumption)] | rw [if_pos (by decide)])
      | (refine sx_RU.call rfl rfl rfl rfl (cx_151 _ _ _ _) ?_; first | rw [if_pos (by assumption)] | rw [if_neg (by assumption)] | rw [if_pos (by decide)])
      | (refine sx_RU.call rfl rfl rfl rfl (cx_152 _ _ _ _) ?_; first | rw [if_pos (by assumption)] | rw [if_neg (by assumption)] | rw [if_pos (by decide)])
      | (refine sx_RU.call rfl rfl rfl rfl (cx_231 _ _ _ _) ?_; first | rw [if_pos (by assumption)] | rw [if_neg (by assumption)] | rw [if_pos (by decide)])
      | (refine sx_RU.call rfl rfl rfl rfl (cx_197 _ _ _ _) ?_; first | rw [if_pos (by assumption)] | rw [if_neg (by assumption)] | rw [if_pos (by decide)])
      | (refine sx_RU.call rfl rfl rfl rfl (cx_112 _ _ _ _) ?_; first | rw [if_pos (by assumption)] | rw [if_neg (by assumption)] | rw [if_pos (by decide)])
      | refine sx_RU.br rfl rfl (fun _ => ?_) (fun q => (of_decide_eq_false q (by assumption)).elim)
      | refine sx_RU.br rfl rfl (fun q => ((by assumption : ¬ _) (of_decide_eq_true q)).elim) (fun _ => ?_)
      | refine sx_RU.swo rfl (by assumption) rfl ?_)
set_option maxRecDepth 20000 in
theorem k_lays_m1 (ys : List Int32) (a2 : Int32) : sx_twoI ys 120 235 [.int 1, .int a2] := by
  refine ⟨(-1000000006), sx_vM, sx_vM2, _, rfl, ?_, ?_⟩
  · repeat (first
      | refine sx_RU.step rfl rfl ?_
      | exact sx_RU.ret rfl rfl
      | refine sx_RU.call rfl rfl rfl rfl (cf_B _) ?_
      | refine sx_RU.call rfl rfl rfl rfl (cf_N _) ?_
      | refine sx_RU.call rfl rfl rfl rfl (cf_M _) ?_
      | refine sx_RU.call rfl rfl rfl rfl (cf_Z _) ?_
      | refine sx_RU.call rfl rfl rfl rfl (cn_B _) ?_
      | refine sx_RU.call rfl rfl rfl rfl (cn_N _) ?_
      | refine sx_RU.call rfl rfl rfl rfl (cn_M _) ?_
      | refine sx_RU.call rfl rfl rfl rfl (cn_Z _) ?_
      | refine sx_RU.call rfl rfl rfl rfl (cg_113_1 _) ?_
      | (refine sx_RU.call rfl rfl rfl rfl (cx_7 _ _ _ _) ?_; first | rw [if_pos (by assumption)] | rw [if_neg (by assumption)] | rw [if_pos (by decide)])
      | (refine sx_RU.call rfl rfl rfl rfl (cx_8 _ _ _ _ _ _) ?_; first | rw [if_pos (by assumption)] | rw [if_neg (by assumption)] | rw [if_pos (by decide)])
      | (refine sx_RU.call rfl rfl rfl rfl (cx_22 _ _ _ _) ?_; first | rw [if_pos (by assumption)] | rw [if_neg (by assumption)] | rw [if_pos (by decide)])
      | (refine sx_RU.call rfl rfl rfl rfl (cx_23 _ _ _ _) ?_; first | rw [if_pos (by assumption)] | rw [if_neg (by assumption)] | rw [if_pos (by decide)])
      | (refine sx_RU.call rfl rfl rfl rfl (cx_131 _ _ _ _) ?_; first | rw [if_pos (by assumption)] | rw [if_neg (by assumption)] | rw [if_pos (by decide)])
      | (refine sx_RU.call rfl rfl rfl rfl (cx_132 _ _ _ _ _ _) ?_; first | rw [if_pos (by assumption)] | rw [if_neg (by assumption)] | rw [if_pos (by decide)])
      | (refine sx_RU.call rfl rfl rfl rfl (cx_151 _ _ _ _) ?_; first | rw [if_pos (by assumption)] | rw [if_neg (by assumption)] | rw [if_pos (by decide)])
      | (refine sx_RU.call rfl rfl rfl rfl (cx_152 _ _ _ _) ?_; first | rw [if_pos (by assumption)] | rw [if_neg (by assumption)] | rw [if_pos (by decide)])
      | (refine sx_RU.call rfl rfl rfl rfl (cx_231 _ _ _ _) ?_; first | rw [if_pos (by assumption)] | rw [if_neg (by assumption)] | rw [if_pos (by decide)])
      | (refine sx_RU.call rfl rfl rfl rfl (cx_197 _ _ _ _) ?_; first | rw [if_pos (by assumption)] | rw [if_neg (by assumption)] | rw [if_pos (by decide)])
      | (refine sx_RU.call rfl rfl rfl rfl (cx_112 _ _ _ _) ?_; first | rw [if_pos (by assumption)] | rw [if_neg (by assumption)] | rw [if_pos (by decide)])
      | refine sx_RU.br rfl rfl (fun _ => ?_) (fun q => (of_decide_eq_false q (by assumption)).elim)
      | refine sx_RU.br rfl rfl (fun q => ((by assumption : ¬ _) (of_decide_eq_true q)).elim) (fun _ => ?_)
      | refine sx_RU.swo rfl (by assumption) rfl ?_)
  · repeat (first
      | refine sx_RU.step rfl rfl ?_
      | exact sx_RU.ret rfl rfl
      | refine sx_RU.call rfl rfl rfl rfl (cf_B _) ?_
      | refine sx_RU.call rfl rfl rfl rfl (cf_N _) ?_
      | refine sx_RU.call rfl rfl rfl rfl (cf_M _) ?_
      | refine sx_RU.call rfl rfl rfl rfl (cf_Z _) ?_
      | refine sx_RU.call rfl rfl rfl rfl (cn_B _) ?_
      | refine sx_RU.call rfl rfl rfl rfl (cn_N _) ?_
      | refine sx_RU.call rfl rfl rfl rfl (cn_M _) ?_
      | refine sx_RU.call rfl rfl rfl rfl (cn_Z _) ?_
      | (refine sx_RU.call rfl rfl rfl rfl (cx_7 _ _ _ _) ?_; first | rw [if_pos (by assumption)] | rw [if_neg (by assumption)] | rw [if_pos (by decide)])
      | (refine sx_RU.call rfl rfl rfl rfl (cx_8 _ _ _ _ _ _) ?_; first | rw [if_pos (by assumption)] | rw [if_neg (by assumption)] | rw [if_pos (by decide)])
      | (refine sx_RU.call rfl rfl rfl rfl (cx_22 _ _ _ _) ?_; first | rw [if_pos (by assumption)] | rw [if_neg (by assumption)] | rw [if_pos (by decide)])
      | (refine sx_RU.call rfl rfl rfl rfl (cx_23 _ _ _ _) ?_; first | rw [if_pos (by assumption)] | rw [if_neg (by assumption)] | rw [if_pos (by decide)])
      | (refine sx_RU.call rfl rfl rfl rfl (cx_131 _ _ _ _) ?_; first | rw [if_pos (by assumption)] | rw [if_neg (by assumption)] | rw [if_pos (by decide)])
      | (refine sx_RU.call rfl rfl rfl rfl (cx_132 _ _ _ _ _ _) ?_; first | rw [if_pos (by assumption)] | rw [if_neg (by assumption)] | rw [if_pos (by decide)])
      | (refine sx_RU.call rfl rfl rfl rfl (cx_151 _ _ _ _) ?_; first | rw [if_pos (by assumption)] | rw [if_neg (by assumption)] | rw [if_pos (by decide)])
      | (refine sx_RU.call rfl rfl rfl rfl (cx_152 _ _ _ _) ?_; first | rw [if_pos (by assumption)] | rw [if_neg (by assumption)] | rw [if_pos (by decide)])
      | (refine sx_RU.call rfl rfl rfl rfl (cx_231 _ _ _ _) ?_; first | rw [if_pos (by assumption)] | rw [if_neg (by assumption)] | rw [if_pos (by decide)])
      | (refine sx_RU.call rfl rfl rfl rfl (cx_197 _ _ _ _) ?_; first | rw [if_pos (by assumption)] | rw [if_neg (by assumption)] | rw [if_pos (by decide)])
      | (refine sx_RU.call rfl rfl rfl rfl (cx_112 _ _ _ _) ?_; first | rw [if_pos (by assumption)] | rw [if_neg (by assumption)] | rw [if_pos (by decide)])
      | refine sx_RU.br rfl rfl (fun _ => ?_) (fun q => (of_decide_eq_false q (by assumption)).elim)
      | refine sx_RU.br rfl rfl (fun q => ((by assumption : ¬ _) (of_decide_eq_true q)).elim) (fun _ => ?_)
      | refine sx_RU.swo rfl (by assumption) rfl ?_)
set_option maxRecDepth 20000 in
theorem k_lays_m2 (ys : List Int32) (a2 : Int32) : sx_twoI ys 120 235 [.int 2, .int a2] := by
  refine ⟨(-1000000006), sx_vM, sx_vM2, _, rfl, ?_, ?_⟩
  · repeat (first
      | refine sx_RU.step rfl rfl ?_
      | exact sx_RU.ret rfl rfl
      | refine sx_RU.call rfl rfl rfl rfl (cf_B _) ?_
      | refine sx_RU.call rfl rfl rfl rfl (cf_N _) ?_
      | refine sx_RU.call rfl rfl rfl rfl (cf_M _) ?_
      | refine sx_RU.call rfl rfl rfl rfl (cf_Z _) ?_
      | refine sx_RU.call rfl rfl rfl rfl (cn_B _) ?_
      | refine sx_RU.call rfl rfl rfl rfl (cn_N _) ?_
      | refine sx_RU.call rfl rfl rfl rfl (cn_M _) ?_
      | refine sx_RU.call rfl rfl rfl rfl (cn_Z _) ?_
      | refine sx_RU.call rfl rfl rfl rfl (cg_113_2 _) ?_
      | (refine sx_RU.call rfl rfl rfl rfl (cx_7 _ _ _ _) ?_; first | rw [if_pos (by assumption)] | rw [if_neg (by assumption)] | rw [if_pos (by decide)])
      | (refine sx_RU.call rfl rfl rfl rfl (cx_8 _ _ _ _ _ _) ?_; first | rw [if_pos (by assumption)] | rw [if_neg (by assumption)] | rw [if_pos (by decide)])
      | (refine sx_RU.call rfl rfl rfl rfl (cx_22 _ _ _ _) ?_; first | rw [if_pos (by assumption)] | rw [if_neg (by assumption)] | rw [if_pos (by decide)])
      | (refine sx_RU.call rfl rfl rfl rfl (cx_23 _ _ _ _) ?_; first | rw [if_pos (by assumption)] | rw [if_neg (by assumption)] | rw [if_pos (by decide)])
      | (refine sx_RU.call rfl rfl rfl rfl (cx_131 _ _ _ _) ?_; first | rw [if_pos (by assumption)] | rw [if_neg (by assumption)] | rw [if_pos (by decide)])
      | (refine sx_RU.call rfl rfl rfl rfl (cx_132 _ _ _ _ _ _) ?_; first | rw [if_pos (by assumption)] | rw [if_neg (by assumption)] | rw [if_pos (by decide)])
      | (refine sx_RU.call rfl rfl rfl rfl (cx_151 _ _ _ _) ?_; first | rw [if_pos (by assumption)] | rw [if_neg (by assumption)] | rw [if_pos (by decide)])
      | (refine sx_RU.call rfl rfl rfl rfl (cx_152 _ _ _ _) ?_; first | rw [if_pos (by assumption)] | rw [if_neg (by assumption)] | rw [if_pos (by decide)])
      | (refine sx_RU.call rfl rfl rfl rfl (cx_231 _ _ _ _) ?_; first | rw [if_pos (by assumption)] | rw [if_neg (by assumption)] | rw [if_pos (by decide)])
      | (refine sx_RU.call rfl rfl rfl rfl (cx_197 _ _ _ _) ?_; first | rw [if_pos (by assumption)] | rw [if_neg (by assumption)] | rw [if_pos (by decide)])
      | (refine sx_RU.call rfl rfl rfl rfl (cx_112 _ _ _ _) ?_; first | rw [if_pos (by assumption)] | rw [if_neg (by assumption)] | rw [if_pos (by decide)])
      | refine sx_RU.br rfl rfl (fun _ => ?_) (fun q => (of_decide_eq_false q (by assumption)).elim)
      | refine sx_RU.br rfl rfl (fun q => ((by assumption : ¬ _) (of_decide_eq_true q)).elim) (fun _ => ?_)
      | refine sx_RU.swo rfl (by assumption) rfl ?_)
  · repeat (first
      | refine sx_RU.step rfl rfl ?_
      | exact sx_RU.ret rfl rfl
      | refine sx_RU.call rfl rfl rfl rfl (cf_B _) ?_
      | refine sx_RU.call rfl rfl rfl rfl (cf_N _) ?_
      | refine sx_RU.call rfl rfl rfl rfl (cf_M _) ?_
      | refine sx_RU.call rfl rfl rfl rfl (cf_Z _) ?_
      | refine sx_RU.call rfl rfl rfl rfl (cn_B _) ?_
      | refine sx_RU.call rfl rfl rfl rfl (cn_N _) ?_
      | refine sx_RU.call rfl rfl rfl rfl (cn_M _) ?_
      | refine sx_RU.call rfl rfl rfl rfl (cn_Z _) ?_
      | (refine sx_RU.call rfl rfl rfl rfl (cx_7 _ _ _ _) ?_; first | rw [if_pos (by assumption)] | rw [if_neg (by assumption)] | rw [if_pos (by decide)])
      | (refine sx_RU.call rfl rfl rfl rfl (cx_8 _ _ _ _ _ _) ?_; first | rw [if_pos (by assumption)] | rw [if_neg (by assumption)] | rw [if_pos (by decide)])
      | (refine sx_RU.call rfl rfl rfl rfl (cx_22 _ _ _ _) ?_; first | rw [if_pos (by assumption)] | rw [if_neg (by assumption)] | rw [if_pos (by decide)])
      | (refine sx_RU.call rfl rfl rfl rfl (cx_23 _ _ _ _) ?_; first | rw [if_pos (by assumption)] | rw [if_neg (by assumption)] | rw [if_pos (by decide)])
      | (refine sx_RU.call rfl rfl rfl rfl (cx_131 _ _ _ _) ?_; first | rw [if_pos (by assumption)] | rw [if_neg (by assumption)] | rw [if_pos (by decide)])
      | (refine sx_RU.call rfl rfl rfl rfl (cx_132 _ _ _ _ _ _) ?_; first | rw [if_pos (by assumption)] | rw [if_neg (by assumption)] | rw [if_pos (by decide)])
      | (refine sx_RU.call rfl rfl rfl rfl (cx_151 _ _ _ _) ?_; first | rw [if_pos (by assumption)] | rw [if_neg (by assumption)] | rw [if_pos (by decide)])
      | (refine sx_RU.call rfl rfl rfl rfl (cx_152 _ _ _ _) ?_; first | rw [if_pos (by assumption)] | rw [if_neg (by assumption)] | rw [if_pos (by decide)])
      | (refine sx_RU.call rfl rfl rfl rfl (cx_231 _ _ _ _) ?_; first | rw [if_pos (by assumption)] | rw [if_neg (by assumption)] | rw [if_pos (by decide)])
      | (refine sx_RU.call rfl rfl rfl rfl (cx_197 _ _ _ _) ?_; first | rw [if_pos (by assumption)] | rw [if_neg (by assumption)] | rw [if_pos (by decide)])
      | (refine sx_RU.call rfl rfl rfl rfl (cx_112 _ _ _ _) ?_; first | rw [if_pos (by assumption)] | rw [if_neg (by assumption)] | rw [if_pos (by decide)])
      | refine sx_RU.br rfl rfl (fun _ => ?_) (fun q => (of_decide_eq_false q (by assumption)).elim)
      | refine sx_RU.br rfl rfl (fun q => ((by assumption : ¬ _) (of_decide_eq_true q)).elim) (fun _ => ?_)
      | refine sx_RU.swo rfl (by assumption) rfl ?_)
set_option maxRecDepth 20000 in
theorem k_lays_m3 (ys : List Int32) (a2 : Int32) : sx_twoI ys 120 235 [.int 3, .int a2] := by
  refine ⟨(-1000000006), sx_vM, sx_vM2, _, rfl, ?_, ?_⟩
  · repeat (first
      | refine sx_RU.step rfl rfl ?_
      | exact sx_RU.ret rfl rfl
      | refine sx_RU.call rfl rfl rfl rfl (cf_B _) ?_
      | refine sx_RU.call rfl rfl rfl rfl (cf_N _) ?_
      | refine sx_RU.call rfl rfl rfl rfl (cf_M _) ?_
      | refine sx_RU.call rfl rfl rfl rfl (cf_Z _) ?_
      | refine sx_RU.call rfl rfl rfl rfl (cn_B _) ?_
      | refine sx_RU.call rfl rfl rfl rfl (cn_N _) ?_
      | refine sx_RU.call rfl rfl rfl rfl (cn_M _) ?_
      | refine sx_RU.call rfl rfl rfl rfl (cn_Z _) ?_
      | refine sx_RU.call rfl rfl rfl rfl (cg_113_3 _) ?_
      | (refine sx_RU.call rfl rfl rfl rfl (cx_7 _ _ _ _) ?_; first | rw [if_pos (by assumption)] | rw [if_neg (by assumption)] | rw [if_pos (by decide)])
      | (refine sx_RU.call rfl rfl rfl rfl (cx_8 _ _ _ _ _ _) ?_; first | rw [if_pos (by assumption)] | rw [if_neg (by assumption)] | rw [if_pos (by decide)])
      | (refine sx_RU.call rfl rfl rfl rfl (cx_22 _ _ _ _) ?_; first | rw [if_pos (by assumption)] | rw [if_neg (by assumption)] | rw [if_pos (by decide)])
      | (refine sx_RU.call rfl rfl rfl rfl (cx_23 _ _ _ _) ?_; first | rw [if_pos (by assumption)] | rw [if_neg (by assumption)] | rw [if_pos (by decide)])
      | (refine sx_RU.call rfl rfl rfl rfl (cx_131 _ _ _ _) ?_; first | rw [if_pos (by assumption)] | rw [if_neg (by assumption)] | rw [if_pos (by decide)])
      | (refine sx_RU.call rfl rfl rfl rfl (cx_132 _ _ _ _ _ _) ?_; first | rw [if_pos (by assumption)] | rw [if_neg (by assumption)] | rw [if_pos (by decide)])
      | (refine sx_RU.call rfl rfl rfl rfl (cx_151 _ _ _ _) ?_; first | rw [if_pos (by assumption)] | rw [if_neg (by assumption)] | rw [if_pos (by decide)])
      | (refine sx_RU.call rfl rfl rfl rfl (cx_152 _ _ _ _) ?_; first | rw [if_pos (by assumption)] | rw [if_neg (by assumption)] | rw [if_pos (by decide)])
      | (refine sx_RU.call rfl rfl rfl rfl (cx_231 _ _ _ _) ?_; first | rw [if_pos (by assumption)] | rw [if_neg (by assumption)] | rw [if_pos (by decide)])
      | (refine sx_RU.call rfl rfl rfl rfl (cx_197 _ _ _ _) ?_; first | rw [if_pos (by assumption)] | rw [if_neg (by assumption)] | rw [if_pos (by decide)])
      | (refine sx_RU.call rfl rfl rfl rfl (cx_112 _ _ _ _) ?_; first | rw [if_pos (by assumption)] | rw [if_neg (by assumption)] | rw [if_pos (by decide)])
      | refine sx_RU.br rfl rfl (fun _ => ?_) (fun q => (of_decide_eq_false q (by assumption)).elim)
      | refine sx_RU.br rfl rfl (fun q => ((by assumption : ¬ _) (of_decide_eq_true q)).elim) (fun _ => ?_)
      | refine sx_RU.swo rfl (by assumption) rfl ?_)
  · repeat (first
      | refine sx_RU.step rfl rfl ?_
      | exact sx_RU.ret rfl rfl
      | refine sx_RU.call rfl rfl rfl rfl (cf_B _) ?_
      | refine sx_RU.call rfl rfl rfl rfl (cf_N _) ?_
      | refine sx_RU.call rfl rfl rfl rfl (cf_M _) ?_
      | refine sx_RU.call rfl rfl rfl rfl (cf_Z _) ?_
      | refine sx_RU.call rfl rfl rfl rfl (cn_B _) ?_
      | refine sx_RU.call rfl rfl rfl rfl (cn_N _) ?_
      | refine sx_RU.call rfl rfl rfl rfl (cn_M _) ?_
      | refine sx_RU.call rfl rfl rfl rfl (cn_Z _) ?_
      | (refine sx_RU.call rfl rfl rfl rfl (cx_7 _ _ _ _) ?_; first | rw [if_pos (by assumption)] | rw [if_neg (by assumption)] | rw [if_pos (by decide)])
      | (refine sx_RU.call rfl rfl rfl rfl (cx_8 _ _ _ _ _ _) ?_; first | rw [if_pos (by assumption)] | rw [if_neg (by assumption)] | rw [if_pos (by decide)])
      | (refine sx_RU.call rfl rfl rfl rfl (cx_22 _ _ _ _) ?_; first | rw [if_pos (by assumption)] | rw [if_neg (by assumption)] | rw [if_pos (by decide)])
      | (refine sx_RU.call rfl rfl rfl rfl (cx_23 _ _ _ _) ?_; first | rw [if_pos (by assumption)] | rw [if_neg (by assumption)] | rw [if_pos (by decide)])
      | (refine sx_RU.call rfl rfl rfl rfl (cx_131 _ _ _ _) ?_; first | rw [if_pos (by assumption)] | rw [if_neg (by assumption)] | rw [if_pos (by decide)])
      | (refine sx_RU.call rfl rfl rfl rfl (cx_132 _ _ _ _ _ _) ?_; first | rw [if_pos (by assumption)] | rw [if_neg (by assumption)] | rw [if_pos (by decide)])
      | (refine sx_RU.call rfl rfl rfl rfl (cx_151 _ _ _ _) ?_; first | rw [if_pos (by assumption)] | rw [if_neg (by assumption)] | rw [if_pos (by decide)])
      | (refine sx_RU.call rfl rfl rfl rfl (cx_152 _ _ _ _) ?_; first | rw [if_pos (by assumption)] | rw [if_neg (by assumption)] | rw [if_pos (by decide)])
      | (refine sx_RU.call rfl rfl rfl rfl (cx_231 _ _ _ _) ?_; first | rw [if_pos (by assumption)] | rw [if_neg (by assumption)] | rw [if_pos (by decide)])
      | (refine sx_RU.call rfl rfl rfl rfl (cx_197 _ _ _ _) ?_; first | rw [if_pos (by assumption)] | rw [if_neg (by assumption)] | rw [if_pos (by decide)])
      | (refine sx_RU.call rfl rfl rfl rfl (cx_112 _ _ _ _) ?_; first | rw [if_pos (by assumption)] | rw [if_neg (by assumption)] | rw [if_pos (by decide)])
      | refine sx_RU.br rfl rfl (fun _ => ?_) (fun q => (of_decide_eq_false q (by assumption)).elim)
      | refine sx_RU.br rfl rfl (fun q => ((by assumption : ¬ _) (of_decide_eq_true q)).elim) (fun _ => ?_)
      | refine sx_RU.swo rfl (by assumption) rfl ?_)
set_option maxRecDepth 20000 in
theorem k_book_m0 (ys : List Int32) : sx_twoI ys 121 236 [.int 0] := by
  refine ⟨(-1000000006), sx_vM, sx_vM2, _, rfl, ?_, ?_⟩
  · repeat (first
      | refine sx_RU.step rfl rfl ?_
      | exact sx_RU.ret rfl rfl
      | refine sx_RU.call rfl rfl rfl rfl (cf_B _) ?_
      | refine sx_RU.call rfl rfl rfl rfl (cf_N _) ?_
      | refine sx_RU.call rfl rfl rfl rfl (cf_M _) ?_
      | refine sx_RU.call rfl rfl rfl rfl (cf_Z _) ?_
      | refine sx_RU.call rfl rfl rfl rfl (cn_B _) ?_
      | refine sx_RU.call rfl rfl rfl rfl (cn_N _) ?_
      | refine sx_RU.call rfl rfl rfl rfl (cn_M _) ?_
      | refine sx_RU.call rfl rfl rfl rfl (cn_Z _) ?_
      | refine sx_RU.call rfl rfl rfl rfl (cg_113_0 _) ?_
      | (refine sx_RU.call rfl rfl rfl rfl (cx_7 _ _ _ _) ?_; first | rw [if_pos (by assumption)] | rw [if_neg (by assumption)] | rw [if_pos (by decide)])
      | (refine sx_RU.call rfl rfl rfl rfl (cx_8 _ _ _ _ _ _) ?_; first | rw [if_pos (by assumption)] | rw [if_neg (by assumption)] | rw [if_pos (by decide)])
      | (refine sx_RU.call rfl rfl rfl rfl (cx_22 _ _ _ _) ?_; first | rw [if_pos (by assumption)] | rw [if_neg (by assumption)] | rw [if_pos (by decide)])
      | (refine sx_RU.call rfl rfl rfl rfl (cx_23 _ _ _ _) ?_; first | rw [if_pos (by assumption)] | rw [if_neg (by assumption)] | rw [if_pos (by decide)])
      | (refine sx_RU.call rfl rfl rfl rfl (cx_131 _ _ _ _) ?_; first | rw [if_pos (by assumption)] | rw [if_neg (by assumption)] | rw [if_pos (by decide)])
      | (refine sx_RU.call rfl rfl rfl rfl (cx_132 _ _ _ _ _ _) ?_; first | rw [if_pos (by assumption)] | rw [if_neg (by assumption)] | rw [if_pos (by decide)])
      | (refine sx_RU.call rfl rfl rfl rfl (cx_151 _ _ _ _) ?_; first | rw [if_pos (by assumption)] | rw [if_neg (by assumption)] | rw [if_pos (by decide)])
      | (refine sx_RU.call rfl rfl rfl rfl (cx_152 _ _ _ _) ?_; first | rw [if_pos (by assumption)] | rw [if_neg (by assumption)] | rw [if_pos (by decide)])
      | (refine sx_RU.call rfl rfl rfl rfl (cx_231 _ _ _ _) ?_; first | rw [if_pos (by assumption)] | rw [if_neg (by assumption)] | rw [if_pos (by decide)])
      | (refine sx_RU.call rfl rfl rfl rfl (cx_197 _ _ _ _) ?_; first | rw [if_pos (by assumption)] | rw [if_neg (by assumption)] | rw [if_pos (by decide)])
      | (refine sx_RU.call rfl rfl rfl rfl (cx_112 _ _ _ _) ?_; first | rw [if_pos (by assumption)] | rw [if_neg (by assumption)] | rw [if_pos (by decide)])
      | refine sx_RU.br rfl rfl (fun _ => ?_) (fun q => (of_decide_eq_false q (by assumption)).elim)
      | refine sx_RU.br rfl rfl (fun q => ((by assumption : ¬ _) (of_decide_eq_true q)).elim) (fun _ => ?_)
      | refine sx_RU.swo rfl (by assumption) rfl ?_)
  · repeat (first
      | refine sx_RU.step rfl rfl ?_
      | exact sx_RU.ret rfl rfl
      | refine sx_RU.call rfl rfl rfl rfl (cf_B _) ?_
      | refine sx_RU.call rfl rfl rfl rfl (cf_N _) ?_
      | refine sx_RU.call rfl rfl rfl rfl (cf_M _) ?_
      | refine sx_RU.call rfl rfl rfl rfl (cf_Z _) ?_
      | refine sx_RU.call rfl rfl rfl rfl (cn_B _) ?_
      | refine sx_RU.call rfl rfl rfl rfl (cn_N _) ?_
      | refine sx_RU.call rfl rfl rfl rfl (cn_M _) ?_
      | refine sx_RU.call rfl rfl rfl rfl (cn_Z _) ?_
      | (refine sx_RU.call rfl rfl rfl rfl (cx_7 _ _ _ _) ?_; first | rw [if_pos (by assumption)] | rw [if_neg (by assumption)] | rw [if_pos (by decide)])
      | (refine sx_RU.call rfl rfl rfl rfl (cx_8 _ _ _ _ _ _) ?_; first | rw [if_pos (by assumption)] | rw [if_neg (by assumption)] | rw [if_pos (by decide)])
      | (refine sx_RU.call rfl rfl rfl rfl (cx_22 _ _ _ _) ?_; first | rw [if_pos (by assumption)] | rw [if_neg (by assumption)] | rw [if_pos (by decide)])
      | (refine sx_RU.call rfl rfl rfl rfl (cx_23 _ _ _ _) ?_; first | rw [if_pos (by assumption)] | rw [if_neg (by assumption)] | rw [if_pos (by decide)])
      | (refine sx_RU.call rfl rfl rfl rfl (cx_131 _ _ _ _) ?_; first | rw [if_pos (by assumption)] | rw [if_neg (by assumption)] | rw [if_pos (by decide)])
      | (refine sx_RU.call rfl rfl rfl rfl (cx_132 _ _ _ _ _ _) ?_; first | rw [if_pos (by assumption)] | rw [if_neg (by assumption)] | rw [if_pos (by decide)])
      | (refine sx_RU.call rfl rfl rfl rfl (cx_151 _ _ _ _) ?_; first | rw [if_pos (by assumption)] | rw [if_neg (by assumption)] | rw [if_pos (by decide)])
      | (refine sx_RU.call rfl rfl rfl rfl (cx_152 _ _ _ _) ?_; first | rw [if_pos (by assumption)] | rw [if_neg (by assumption)] | rw [if_pos (by decide)])
      | (refine sx_RU.call rfl rfl rfl rfl (cx_231 _ _ _ _) ?_; first | rw [if_pos (by assumption)] | rw [if_neg (by assumption)] | rw [if_pos (by decide)])
      | (refine sx_RU.call rfl rfl rfl rfl (cx_197 _ _ _ _) ?_; first | rw [if_pos (by assumption)] | rw [if_neg (by assumption)] | rw [if_pos (by decide)])
      | (refine sx_RU.call rfl rfl rfl rfl (cx_112 _ _ _ _) ?_; first | rw [if_pos (by assumption)] | rw [if_neg (by assumption)] | rw [if_pos (by decide)])
      | refine sx_RU.br rfl rfl (fun _ => ?_) (fun q => (of_decide_eq_false q (by assumption)).elim)
      | refine sx_RU.br rfl rfl (fun q => ((by assumption : ¬ _) (of_decide_eq_true q)).elim) (fun _ => ?_)
      | refine sx_RU.swo rfl (by assumption) rfl ?_)
set_option maxRecDepth 20000 in
theorem k_book_m1 (ys : List Int32) : sx_twoI ys 121 236 [.int 1] := by
  refine ⟨(-1000000006), sx_vM, sx_vM2, _, rfl, ?_, ?_⟩
  · repeat (first
      | refine sx_RU.step rfl rfl ?_
      | exact sx_RU.ret rfl rfl
      | refine sx_RU.call rfl rfl rfl rfl (cf_B _) ?_
      | refine sx_RU.call rfl rfl rfl rfl (cf_N _) ?_
      | refine sx_RU.call rfl rfl rfl rfl (cf_M _) ?_
      | refine sx_RU.call rfl rfl rfl rfl (cf_Z _) ?_
      | refine sx_RU.call rfl rfl rfl rfl (cn_B _) ?_
      | refine sx_RU.call rfl rfl rfl rfl (cn_N _) ?_
      | refine sx_RU.call rfl rfl rfl rfl (cn_M _) ?_
      | refine sx_RU.call rfl rfl rfl rfl (cn_Z _) ?_
      | refine sx_RU.call rfl rfl rfl rfl (cg_113_1 _) ?_
      | (refine sx_RU.call rfl rfl rfl rfl (cx_7 _ _ _ _) ?_; first | rw [if_pos (by assumption)] | rw [if_neg (by assumption)] | rw [if_pos (by decide)])
      | (refine sx_RU.call rfl rfl rfl rfl (cx_8 _ _ _ _ _ _) ?_; first | rw [if_pos (by assumption)] | rw [if_neg (by assumption)] | rw [if_pos (by decide)])
      | (refine sx_RU.call rfl rfl rfl rfl (cx_22 _ _ _ _) ?_; first | rw [if_pos (by assumption)] | rw [if_neg (by assumption)] | rw [if_pos (by decide)])
      | (refine sx_RU.call rfl rfl rfl rfl (cx_23 _ _ _ _) ?_; first | rw [if_pos (by assumption)] | rw [if_neg (by assumption)] | rw [if_pos (by decide)])
      | (refine sx_RU.call rfl rfl rfl rfl (cx_131 _ _ _ _) ?_; first | rw [if_pos (by assumption)] | rw [if_neg (by assumption)] | rw [if_pos (by decide)])
      | (refine sx_RU.call rfl rfl rfl rfl (cx_132 _ _ _ _ _ _) ?_; first | rw [if_pos (by assumption)] | rw [if_neg (by assumption)] | rw [if_pos (by decide)])
      | (refine sx_RU.call rfl rfl rfl rfl (cx_151 _ _ _ _) ?_; first | rw [if_pos (by assumption)] | rw [if_neg (by assumption)] | rw [if_pos (by decide)])
      | (refine sx_RU.call rfl rfl rfl rfl (cx_152 _ _ _ _) ?_; first | rw [if_pos (by assumption)] | rw [if_neg (by assumption)] | rw [if_pos (by decide)])
      | (refine sx_RU.call rfl rfl rfl rfl (cx_231 _ _ _ _) ?_; first | rw [if_pos (by assumption)] | rw [if_neg (by assumption)] | rw [if_pos (by decide)])
      | (refine sx_RU.call rfl rfl rfl rfl (cx_197 _ _ _ _) ?_; first | rw [if_pos (by assumption)] | rw [if_neg (by assumption)] | rw [if_pos (by decide)])
      | (refine sx_RU.call rfl rfl rfl rfl (cx_112 _ _ _ _) ?_; first | rw [if_pos (by assumption)] | rw [if_neg (by assumption)] | rw [if_pos (by decide)])
      | refine sx_RU.br rfl rfl (fun _ => ?_) (fun q => (of_decide_eq_false q (by assumption)).elim)
      | refine sx_RU.br rfl rfl (fun q => ((by assumption : ¬ _) (of_decide_eq_true q)).elim) (fun _ => ?_)
      | refine sx_RU.swo rfl (by assumption) rfl ?_)
  · repeat (first
      | refine sx_RU.step rfl rfl ?_
      | exact sx_RU.ret rfl rfl
      | refine sx_RU.call rfl rfl rfl rfl (cf_B _) ?_
      | refine sx_RU.call rfl rfl rfl rfl (cf_N _) ?_
      | refine sx_RU.call rfl rfl rfl rfl (cf_M _) ?_
      | refine sx_RU.call rfl rfl rfl rfl (cf_Z _) ?_
      | refine sx_RU.call rfl rfl rfl rfl (cn_B _) ?_
      | refine sx_RU.call rfl rfl rfl rfl (cn_N _) ?_
      | refine sx_RU.call rfl rfl rfl rfl (cn_M _) ?_
      | refine sx_RU.call rfl rfl rfl rfl (cn_Z _) ?_
      | (refine sx_RU.call rfl rfl rfl rfl (cx_7 _ _ _ _) ?_; first | rw [if_pos (by assumption)] | rw [if_neg (by assumption)] | rw [if_pos (by decide)])
      | (refine sx_RU.call rfl rfl rfl rfl (cx_8 _ _ _ _ _ _) ?_; first | rw [if_pos (by assumption)] | rw [if_neg (by assumption)] | rw [if_pos (by decide)])
      | (refine sx_RU.call rfl rfl rfl rfl (cx_22 _ _ _ _) ?_; first | rw [if_pos (by assumption)] | rw [if_neg (by assumption)] | rw [if_pos (by decide)])
      | (refine sx_RU.call rfl rfl rfl rfl (cx_23 _ _ _ _) ?_; first | rw [if_pos (by assumption)] | rw [if_neg (by assumption)] | rw [if_pos (by decide)])
      | (refine sx_RU.call rfl rfl rfl rfl (cx_131 _ _ _ _) ?_; first | rw [if_pos (by assumption)] | rw [if_neg (by assumption)] | rw [if_pos (by decide)])
      | (refine sx_RU.call rfl rfl rfl rfl (cx_132 _ _ _ _ _ _) ?_; first | rw [if_pos (by assumption)] | rw [if_neg (by assumption)] | rw [if_pos (by decide)])
      | (refine sx_RU.call rfl rfl rfl rfl (cx_151 _ _ _ _) ?_; first | rw [if_pos (by assumption)] | rw [if_neg (by assumption)] | rw [if_pos (by decide)])
      | (refine sx_RU.call rfl rfl rfl rfl (cx_152 _ _ _ _) ?_; first | rw [if_pos (by assumption)] | rw [if_neg (by assumption)] | rw [if_pos (by decide)])
      | (refine sx_RU.call rfl rfl rfl rfl (cx_231 _ _ _ _) ?_; first | rw [if_pos (by assumption)] | rw [if_neg (by assumption)] | rw [if_pos (by decide)])
      | (refine sx_RU.call rfl rfl rfl rfl (cx_197 _ _ _ _) ?_; first | rw [if_pos (by assumption)] | rw [if_neg (by assumption)] | rw [if_pos (by decide)])
      | (refine sx_RU.call rfl rfl rfl rfl (cx_112 _ _ _ _) ?_; first | rw [if_pos (by assumption)] | rw [if_neg (by assumption)] | rw [if_pos (by decide)])
      | refine sx_RU.br rfl rfl (fun _ => ?_) (fun q => (of_decide_eq_false q (by assumption)).elim)
      | refine sx_RU.br rfl rfl (fun q => ((by assumption : ¬ _) (of_decide_eq_true q)).elim) (fun _ => ?_)
      | refine sx_RU.swo rfl (by assumption) rfl ?_)
set_option maxRecDepth 20000 in
theorem k_book_m2 (ys : List Int32) : sx_twoI ys 121 236 [.int 2] := by
  refine ⟨(-1000000006), sx_vM, sx_vM2, _, rfl, ?_, ?_⟩
  · repeat (first
      | refine sx_RU.step rfl rfl ?_
      | exact sx_RU.ret rfl rfl
      | refine sx_RU.call rfl rfl rfl rfl (cf_B _) ?_
      | refine sx_RU.call rfl rfl rfl rfl (cf_N _) ?_
      | refine sx_RU.call rfl rfl rfl rfl (cf_M _) ?_
      | refine sx_RU.call rfl rfl rfl rfl (cf_Z _) ?_
      | refine sx_RU.call rfl rfl rfl rfl (cn_B _) ?_
      | refine sx_RU.call rfl rfl rfl rfl (cn_N _) ?_
      | refine sx_RU.call rfl rfl rfl rfl (cn_M _) ?_
      | refine sx_RU.call rfl rfl rfl rfl (cn_Z _) ?_
      | refine sx_RU.call rfl rfl rfl rfl (cg_113_2 _) ?_
      | (refine sx_RU.call rfl rfl rfl rfl (cx_7 _ _ _ _) ?_; first | rw [if_pos (by assumption)] | rw [if_neg (by assumption)] | rw [if_pos (by decide)])
      | (refine sx_RU.call rfl rfl rfl rfl (cx_8 _ _ _ _ _ _) ?_; first | rw [if_pos (by assumption)] | rw [if_neg (by assumption)] | rw [if_pos (by decide)])
      | (refine sx_RU.call rfl rfl rfl rfl (cx_22 _ _ _ _) ?_; first | rw [if_pos (by assumption)] | rw [if_neg (by assumption)] | rw [if_pos (by decide)])
      | (refine sx_RU.call rfl rfl rfl rfl (cx_23 _ _ _ _) ?_; first | rw [if_pos (by assumption)] | rw [if_neg (by assumption)] | rw [if_pos (by decide)])
      | (refine sx_RU.call rfl rfl rfl rfl (cx_131 _ _ _ _) ?_; first | rw [if_pos (by assumption)] | rw [if_neg (by assumption)] | rw [if_pos (by decide)])
      | (refine sx_RU.call rfl rfl rfl rfl (cx_132 _ _ _ _ _ _) ?_; first | rw [if_pos (by assumption)] | rw [if_neg (by assumption)] | rw [if_pos (by decide)])
      | (refine sx_RU.call rfl rfl rfl rfl (cx_151 _ _ _ _) ?_; first | rw [if_pos (by assumption)] | rw [if_neg (by assumption)] | rw [if_pos (by decide)])
      | (refine sx_RU.call rfl rfl rfl rfl (cx_152 _ _ _ _) ?_; first | rw [if_pos (by assumption)] | rw [if_neg (by assumption)] | rw [if_pos (by decide)])
      | (refine sx_RU.call rfl rfl rfl rfl (cx_231 _ _ _ _) ?_; first | rw [if_pos (by assumption)] | rw [if_neg (by assumption)] | rw [if_pos (by decide)])
      | (refine sx_RU.call rfl rfl rfl rfl (cx_197 _ _ _ _) ?_; first | rw [if_pos (by assumption)] | rw [if_neg (by assumption)] | rw [if_pos (by decide)])
      | (refine sx_RU.call rfl rfl rfl rfl (cx_112 _ _ _ _) ?_; first | rw [if_pos (by assumption)] | rw [if_neg (by assumption)] | rw [if_pos (by decide)])
      | refine sx_RU.br rfl rfl (fun _ => ?_) (fun q => (of_decide_eq_false q (by assumption)).elim)
      | refine sx_RU.br rfl rfl (fun q => ((by assumption : ¬ _) (of_decide_eq_true q)).elim) (fun _ => ?_)
      | refine sx_RU.swo rfl (by assumption) rfl ?_)
  · repeat (first
      | refine sx_RU.step rfl rfl ?_
      | exact sx_RU.ret rfl rfl
      | refine sx_RU.call rfl rfl rfl rfl (cf_B _) ?_
      | refine sx_RU.call rfl rfl rfl rfl (cf_N _) ?_
      | refine sx_RU.call rfl rfl rfl rfl (cf_M _) ?_
      | refine sx_RU.call rfl rfl rfl rfl (cf_Z _) ?_
      | refine sx_RU.call rfl rfl rfl rfl (cn_B _) ?_
      | refine sx_RU.call rfl rfl rfl rfl (cn_N _) ?_
      | refine sx_RU.call rfl rfl rfl rfl (cn_M _) ?_
      | refine sx_RU.call rfl rfl rfl rfl (cn_Z _) ?_
      | (refine sx_RU.call rfl rfl rfl rfl (cx_7 _ _ _ _) ?_; first | rw [if_pos (by assumption)] | rw [if_neg (by assumption)] | rw [if_pos (by decide)])
      | (refine sx_RU.call rfl rfl rfl rfl (cx_8 _ _ _ _ _ _) ?_; first | rw [if_pos (by assumption)] | rw [if_neg (by assumption)] | rw [if_pos (by decide)])
      | (refine sx_RU.call rfl rfl rfl rfl (cx_22 _ _ _ _) ?_; first | rw [if_pos (by assumption)] | rw [if_neg (by assumption)] | rw [if_pos (by decide)])
      | (refine sx_RU.call rfl rfl rfl rfl (cx_23 _ _ _ _) ?_; first | rw [if_pos (by assumption)] | rw [if_neg (by assumption)] | rw [if_pos (by decide)])
      | (refine sx_RU.call rfl rfl rfl rfl (cx_131 _ _ _ _) ?_; first | rw [if_pos (by assumption)] | rw [if_neg (by assumption)] | rw [if_pos (by decide)])
      | (refine sx_RU.call rfl rfl rfl rfl (cx_132 _ _ _ _ _ _) ?_; first | rw [if_pos (by assumption)] | rw [if_neg (by assumption)] | rw [if_pos (by decide)])
      | (refine sx_RU.call rfl rfl rfl rfl (cx_151 _ _ _ _) ?_; first | rw [if_pos (by assumption)] | rw [if_neg (by assumption)] | rw [if_pos (by decide)])
      | (refine sx_RU.call rfl rfl rfl rfl (cx_152 _ _ _ _) ?_; first | rw [if_pos (by assumption)] | rw [if_neg (by assumption)] | rw [if_pos (by decide)])
      | (refine sx_RU.call rfl rfl rfl rfl (cx_231 _ _ _ _) ?_; first | rw [if_pos (by assumption)] | rw [if_neg (by assumption)] | rw [if_pos (by decide)])
      | (refine sx_RU.call rfl rfl rfl rfl (cx_197 _ _ _ _) ?_; first | rw [if_pos (by assumption)] | rw [if_neg (by assumption)] | rw [if_pos (by decide)])
      | (refine sx_RU.call rfl rfl rfl rfl (cx_112 _ _ _ _) ?_; first | rw [if_pos (by assumption)] | rw [if_neg (by assumption)] | rw [if_pos (by decide)])
      | refine sx_RU.br rfl rfl (fun _ => ?_) (fun q => (of_decide_eq_false q (by assumption)).elim)
      | refine sx_RU.br rfl rfl (fun q => ((by assumption : ¬ _) (of_decide_eq_true q)).elim) (fun _ => ?_)
      | refine sx_RU.swo rfl (by assumption) rfl ?_)
set_option maxRecDepth 20000 in
theorem k_book_m3 (ys : List Int32) : sx_twoI ys 121 236 [.int 3] := by
  refine ⟨(-1000000006), sx_vM, sx_vM2, _, rfl, ?_, ?_⟩
  · repeat (first
      | refine sx_RU.step rfl rfl ?_
      | exact sx_RU.ret rfl rfl
      | refine sx_RU.call rfl rfl rfl rfl (cf_B _) ?_
      | refine sx_RU.call rfl rfl rfl rfl (cf_N _) ?_
      | refine sx_RU.call rfl rfl rfl rfl (cf_M _) ?_
      | refine sx_RU.call rfl rfl rfl rfl (cf_Z _) ?_
      | refine sx_RU.call rfl rfl rfl rfl (cn_B _) ?_
      | refine sx_RU.call rfl rfl rfl rfl (cn_N _) ?_
      | refine sx_RU.call rfl rfl rfl rfl (cn_M _) ?_
      | refine sx_RU.call rfl rfl rfl rfl (cn_Z _) ?_
      | refine sx_RU.call rfl rfl rfl rfl (cg_113_3 _) ?_
      | (refine sx_RU.call rfl rfl rfl rfl (cx_7 _ _ _ _) ?_; first | rw [if_pos (by assumption)] | rw [if_neg (by assumption)] | rw [if_pos (by decide)])
      | (refine sx_RU.call rfl rfl rfl rfl (cx_8 _ _ _ _ _ _) ?_; first | rw [if_pos (by assumption)] | rw [if_neg (by assumption)] | rw [if_pos (by decide)])
      | (refine sx_RU.call rfl rfl rfl rfl (cx_22 _ _ _ _) ?_; first | rw [if_pos (by assumption)] | rw [if_neg (by assumption)] | rw [if_pos (by decide)])
      | (refine sx_RU.call rfl rfl rfl rfl (cx_23 _ _ _ _) ?_; first | rw [if_pos (by assumption)] | rw [if_neg (by assumption)] | rw [if_pos (by decide)])
      | (refine sx_RU.call rfl rfl rfl rfl (cx_131 _ _ _ _) ?_; first | rw [if_pos (by assumption)] | rw [if_neg (by assumption)] | rw [if_pos (by decide)])
      | (refine sx_RU.call rfl rfl rfl rfl (cx_132 _ _ _ _ _ _) ?_; first | rw [if_pos (by assumption)] | rw [if_neg (by assumption)] | rw [if_pos (by decide)])
      | (refine sx_RU.call rfl rfl rfl rfl (cx_151 _ _ _ _) ?_; first | rw [if_pos (by assumption)] | rw [if_neg (by assumption)] | rw [if_pos (by decide)])
      | (refine sx_RU.call rfl rfl rfl rfl (cx_152 _ _ _ _) ?_; first | rw [if_pos (by assumption)] | rw [if_neg (by assumption)] | rw [if_pos (by decide)])
      | (refine sx_RU.call rfl rfl rfl rfl (cx_231 _ _ _ _) ?_; first | rw [if_pos (by assumption)] | rw [if_neg (by assumption)] | rw [if_pos (by decide)])
      | (refine sx_RU.call rfl rfl rfl rfl (cx_197 _ _ _ _) ?_; first | rw [if_pos (by assumption)] | rw [if_neg (by assumption)] | rw [if_pos (by decide)])
      | (refine sx_RU.call rfl rfl rfl rfl (cx_112 _ _ _ _) ?_; first | rw [if_pos (by assumption)] | rw [if_neg (by assumption)] | rw [if_pos (by decide)])
      | refine sx_RU.br rfl rfl (fun _ => ?_) (fun q => (of_decide_eq_false q (by assumption)).elim)
      | refine sx_RU.br rfl rfl (fun q => ((by assumption : ¬ _) (of_decide_eq_true q)).elim) (fun _ => ?_)
      | refine sx_RU.swo rfl (by assumption) rfl ?_)
  · repeat (first
      | refine sx_RU.step rfl rfl ?_
      | exact sx_RU.ret rfl rfl
      | refine sx_RU.call rfl rfl rfl rfl (cf_B _) ?_
      | refine sx_RU.call rfl rfl rfl rfl (cf_N _) ?_
      | refine sx_RU.call rfl rfl rfl rfl (cf_M _) ?_
      | refine sx_RU.call rfl rfl rfl rfl (cf_Z _) ?_
      | refine sx_RU.call rfl rfl rfl rfl (cn_B _) ?_
      | refine sx_RU.call rfl rfl rfl rfl (cn_N _) ?_
      | refine sx_RU.call rfl rfl rfl rfl (cn_M _) ?_
      | refine sx_RU.call rfl rfl rfl rfl (cn_Z _) ?_
      | (refine sx_RU.call rfl rfl rfl rfl (cx_7 _ _ _ _) ?_; first | rw [if_pos (by assumption)] | rw [if_neg (by assumption)] | rw [if_pos (by decide)])
      | (refine sx_RU.call rfl rfl rfl rfl (cx_8 _ _ _ _ _ _) ?_; first | rw [if_pos (by assumption)] | rw [if_neg (by assumption)] | rw [if_pos (by decide)])
      | (refine sx_RU.call rfl rfl rfl rfl (cx_22 _ _ _ _) ?_; first | rw [if_pos (by assumption)] | rw [if_neg (by assumption)] | rw [if_pos (by decide)])
      | (refine sx_RU.call rfl rfl rfl rfl (cx_23 _ _ _ _) ?_; first | rw [if_pos (by assumption)] | rw [if_neg (by assumption)] | rw [if_pos (by decide)])
      | (refine sx_RU.call rfl rfl rfl rfl (cx_131 _ _ _ _) ?_; first | rw [if_pos (by assumption)] | rw [if_neg (by assumption)] | rw [if_pos (by decide)])
      | (refine sx_RU.call rfl rfl rfl rfl (cx_132 _ _ _ _ _ _) ?_; first | rw [if_pos (by assumption)] | rw [if_neg (by assumption)] | rw [if_pos (by decide)])
      | (refine sx_RU.call rfl rfl rfl rfl (cx_151 _ _ _ _) ?_; first | rw [if_pos (by assumption)] | rw [if_neg (by assumption)] | rw [if_pos (by decide)])
      | (refine sx_RU.call rfl rfl rfl rfl (cx_152 _ _ _ _) ?_; first | rw [if_pos (by assumption)] | rw [if_neg (by assumption)] | rw [if_pos (by decide)])
      | (refine sx_RU.call rfl rfl rfl rfl (cx_231 _ _ _ _) ?_; first | rw [if_pos (by assumption)] | rw [if_neg (by assumption)] | rw [if_pos (by decide)])
      | (refine sx_RU.call rfl rfl rfl rfl (cx_197 _ _ _ _) ?_; first | rw [if_pos (by assumption)] | rw [if_neg (by assumption)] | rw [if_pos (by decide)])
      | (refine sx_RU.call rfl rfl rfl rfl (cx_112 _ _ _ _) ?_; first | rw [if_pos (by assumption)] | rw [if_neg (by assumption)] | rw [if_pos (by decide)])
      | refine sx_RU.br rfl rfl (fun _ => ?_) (fun q => (of_decide_eq_false q (by assumption)).elim)
      | refine sx_RU.br rfl rfl (fun q => ((by assumption : ¬ _) (of_decide_eq_true q)).elim) (fun _ => ?_)
      | refine sx_RU.swo rfl (by assumption) rfl ?_)
set_option maxRecDepth 20000 in
theorem k_read_m0 (ys : List Int32) : sx_twoI ys 122 238 [.int 0] := by
  refine ⟨(-1000000006), sx_vM, sx_vM2, _, rfl, ?_, ?_⟩
  · repeat (first
      | refine sx_RU.step rfl rfl ?_
      | exact sx_RU.ret rfl rfl
      | refine sx_RU.call rfl rfl rfl rfl (cf_B _) ?_
      | refine sx_RU.call rfl rfl rfl rfl (cf_N _) ?_
      | refine sx_RU.call rfl rfl rfl rfl (cf_M _) ?_
      | refine sx_RU.call rfl rfl rfl rfl (cf_Z _) ?_
      | refine sx_RU.call rfl rfl rfl rfl (cn_B _) ?_
      | refine sx_RU.call rfl rfl rfl rfl (cn_N _) ?_
      | refine sx_RU.call rfl rfl rfl rfl (cn_M _) ?_
      | refine sx_RU.call rfl rfl rfl rfl (cn_Z _) ?_
      | refine sx_RU.call rfl rfl rfl rfl (cg_113_0 _) ?_
      | (refine sx_RU.call rfl rfl rfl rfl (cx_7 _ _ _ _) ?_; first | rw [if_pos (by assumption)] | rw [if_neg (by assumption)] | rw [if_pos (by decide)])
      | (refine sx_RU.call rfl rfl rfl rfl (cx_8 _ _ _ _ _ _) ?_; first | rw [if_pos (by assumption)] | rw [if_neg (by assumption)] | rw [if_pos (by decide)])
      | (refine sx_RU.call rfl rfl rfl rfl (cx_22 _ _ _ _) ?_; first | rw [if_pos (by assumption)] | rw [if_neg (by assumption)] | rw [if_pos (by decide)])
      | (refine sx_RU.call rfl rfl rfl rfl (cx_23 _ _ _ _) ?_; first | rw [if_pos (by assumption)] | rw [if_neg (by assumption)] | rw [if_pos (by decide)])
      | (refine sx_RU.call rfl rfl rfl rfl (cx_131 _ _ _ _) ?_; first | rw [if_pos (by assumption)] | rw [if_neg (by assumption)] | rw [if_pos (by decide)])
      | (refine sx_RU.call rfl rfl rfl rfl (cx_132 _ _ _ _ _ _) ?_; first | rw [if_pos (by assumption)] | rw [if_neg (by assumption)] | rw [if_pos (by decide)])
      | (refine sx_RU.call rfl rfl rfl rfl (cx_151 _ _ _ _) ?_; first | rw [if_pos (by assumption)] | rw [if_neg (by assumption)] | rw [if_pos (by decide)])
      | (refine sx_RU.call rfl rfl rfl rfl (cx_152 _ _ _ _) ?_; first | rw [if_pos (by assumption)] | rw [if_neg (by assumption)] | rw [if_pos (by decide)])
      | (refine sx_RU.call rfl rfl rfl rfl (cx_231 _ _ _ _) ?_; first | rw [if_pos (by assumption)] | rw [if_neg (by assumption)] | rw [if_pos (by decide)])
      | (refine sx_RU.call rfl rfl rfl rfl (cx_197 _ _ _ _) ?_; first | rw [if_pos (by assumption)] | rw [if_neg (by assumption)] | rw [if_pos (by decide)])
      | (refine sx_RU.call rfl rfl rfl rfl (cx_112 _ _ _ _) ?_; first | rw [if_pos (by assumption)] | rw [if_neg (by assumption)] | rw [if_pos (by decide)])
      | refine sx_RU.br rfl rfl (fun _ => ?_) (fun q => (of_decide_eq_false q (by assumption)).elim)
      | refine sx_RU.br rfl rfl (fun q => ((by assumption : ¬ _) (of_decide_eq_true q)).elim) (fun _ => ?_)
      | refine sx_RU.swo rfl (by assumption) rfl ?_)
  · repeat (first
      | refine sx_RU.step rfl rfl ?_
      | exact sx_RU.ret rfl rfl
      | refine sx_RU.call rfl rfl rfl rfl (cf_B _) ?_
      | refine sx_RU.call rfl rfl rfl rfl (cf_N _) ?_
      | refine sx_RU.call rfl rfl rfl rfl (cf_M _) ?_
      | refine sx_RU.call rfl rfl rfl rfl (cf_Z _) ?_
      | refine sx_RU.call rfl rfl rfl rfl (cn_B _) ?_
      | refine sx_RU.call rfl rfl rfl rfl (cn_N _) ?_
      | refine sx_RU.call rfl rfl rfl rfl (cn_M _) ?_
      | refine sx_RU.call rfl rfl rfl rfl (cn_Z _) ?_
      | (refine sx_RU.call rfl rfl rfl rfl (cx_7 _ _ _ _) ?_; first | rw [if_pos (by assumption)] | rw [if_neg (by assumption)] | rw [if_pos (by decide)])
      | (refine sx_RU.call rfl rfl rfl rfl (cx_8 _ _ _ _ _ _) ?_; first | rw [if_pos (by assumption)] | rw [if_neg (by assumption)] | rw [if_pos (by decide)])
      | (refine sx_RU.call rfl rfl rfl rfl (cx_22 _ _ _ _) ?_; first | rw [if_pos (by assumption)] | rw [if_neg (by assumption)] | rw [if_pos (by decide)])
      | (refine sx_RU.call rfl rfl rfl rfl (cx_23 _ _ _ _) ?_; first | rw [if_pos (by assumption)] | rw [if_neg (by assumption)] | rw [if_pos (by decide)])
      | (refine sx_RU.call rfl rfl rfl rfl (cx_131 _ _ _ _) ?_; first | rw [if_pos (by assumption)] | rw [if_neg (by assumption)] | rw [if_pos (by decide)])
      | (refine sx_RU.call rfl rfl rfl rfl (cx_132 _ _ _ _ _ _) ?_; first | rw [if_pos (by assumption)] | rw [if_neg (by assumption)] | rw [if_pos (by decide)])
      | (refine sx_RU.call rfl rfl rfl rfl (cx_151 _ _ _ _) ?_; first | rw [if_pos (by assumption)] | rw [if_neg (by assumption)] | rw [if_pos (by decide)])
      | (refine sx_RU.call rfl rfl rfl rfl (cx_152 _ _ _ _) ?_; first | rw [if_pos (by assumption)] | rw [if_neg (by assumption)] | rw [if_pos (by decide)])
      | (refine sx_RU.call rfl rfl rfl rfl (cx_231 _ _ _ _) ?_; first | rw [if_pos (by assumption)] | rw [if_neg (by assumption)] | rw [if_pos (by decide)])
      | (refine sx_RU.call rfl rfl rfl rfl (cx_197 _ _ _ _) ?_; first | rw [if_pos (by assumption)] | rw [if_neg (by assumption)] | rw [if_pos (by decide)])
      | (refine sx_RU.call rfl rfl rfl rfl (cx_112 _ _ _ _) ?_; first | rw [if_pos (by assumption)] | rw [if_neg (by assumption)] | rw [if_pos (by decide)])
      | refine sx_RU.br rfl rfl (fun _ => ?_) (fun q => (of_decide_eq_false q (by assumption)).elim)
      | refine sx_RU.br rfl rfl (fun q => ((by assumption : ¬ _) (of_decide_eq_true q)).elim) (fun _ => ?_)
      | refine sx_RU.swo rfl (by assumption) rfl ?_)
set_option maxRecDepth 20000 in
theorem k_read_m1 (ys : List Int32) : sx_twoI ys 122 238 [.int 1] := by
  refine ⟨(-1000000006), sx_vM, sx_vM2, _, rfl, ?_, ?_⟩
  · repeat (first
      | refine sx_RU.step rfl rfl ?_
      | exact sx_RU.ret rfl rfl
      | refine sx_RU.call rfl rfl rfl rfl (cf_B _) ?_
      | refine sx_RU.call rfl rfl rfl rfl (cf_N _) ?_
      | refine sx_RU.call rfl rfl rfl rfl (cf_M _) ?_
      | refine sx_RU.call rfl rfl rfl rfl (cf_Z _) ?_
      | refine sx_RU.call rfl rfl rfl rfl (cn_B _) ?_
      | refine sx_RU.call rfl rfl rfl rfl (cn_N _) ?_
      | refine sx_RU.call rfl rfl rfl rfl (cn_M _) ?_
      | refine sx_RU.call rfl rfl rfl rfl (cn_Z _) ?_
      | refine sx_RU.call rfl rfl rfl rfl (cg_113_1 _) ?_
      | (refine sx_RU.call rfl rfl rfl rfl (cx_7 _ _ _ _) ?_; first | rw [if_pos (by assumption)] | rw [if_neg (by assumption)] | rw [if_pos (by decide)])
      | (refine sx_RU.call rfl rfl rfl rfl (cx_8 _ _ _ _ _ _) ?_; first | rw [if_pos (by assumption)] | rw [if_neg (by assumption)] | rw [if_pos (by decide)])
      | (refine sx_RU.call rfl rfl rfl rfl (cx_22 _ _ _ _) ?_; first | rw [if_pos (by assumption)] | rw [if_neg (by assumption)] | rw [if_pos (by decide)])
      | (refine sx_RU.call rfl rfl rfl rfl (cx_23 _ _ _ _) ?_; first | rw [if_pos (by assumption)] | rw [if_neg (by assumption)] | rw [if_pos (by decide)])
      | (refine sx_RU.call rfl rfl rfl rfl (cx_131 _ _ _ _) ?_; first | rw [if_pos (by assumption)] | rw [if_neg (by assumption)] | rw [if_pos (by decide)])
      | (refine sx_RU.call rfl rfl rfl rfl (cx_132 _ _ _ _ _ _) ?_; first | rw [if_pos (by assumption)] | rw [if_neg (by assumption)] | rw [if_pos (by decide)])
      | (refine sx_RU.call rfl rfl rfl rfl (cx_151 _ _ _ _) ?_; first | rw [if_pos (by assumption)] | rw [if_neg (by assumption)] | rw [if_pos (by decide)])
      | (refine sx_RU.call rfl rfl rfl rfl (cx_152 _ _ _ _) ?_; first | rw [if_pos (by assumption)] | rw [if_neg (by assumption)] | rw [if_pos (by decide)])
      | (refine sx_RU.call rfl rfl rfl rfl (cx_231 _ _ _ _) ?_; first | rw [if_pos (by assumption)] | rw [if_neg (by assumption)] | rw [if_pos (by decide)])
      | (refine sx_RU.call rfl rfl rfl rfl (cx_197 _ _ _ _) ?_; first | rw [if_pos (by assumption)] | rw [if_neg (by assumption)] | rw [if_pos (by decide)])
      | (refine sx_RU.call rfl rfl rfl rfl (cx_112 _ _ _ _) ?_; first | rw [if_pos (by assumption)] | rw [if_neg (by assumption)] | rw [if_pos (by decide)])
      | refine sx_RU.br rfl rfl (fun _ => ?_) (fun q => (of_decide_eq_false q (by assumption)).elim)
      | refine sx_RU.br rfl rfl (fun q => ((by assumption : ¬ _) (of_decide_eq_true q)).elim) (fun _ => ?_)
      | refine sx_RU.swo rfl (by assumption) rfl ?_)
  · repeat (first
      | refine sx_RU.step rfl rfl ?_
      | exact sx_RU.ret rfl rfl
      | refine sx_RU.call rfl rfl rfl rfl (cf_B _) ?_
      | refine sx_RU.call rfl rfl rfl rfl (cf_N _) ?_
      | refine sx_RU.call rfl rfl rfl rfl (cf_M _) ?_
      | refine sx_RU.call rfl rfl rfl rfl (cf_Z _) ?_
      | refine sx_RU.call rfl rfl rfl rfl (cn_B _) ?_
      | refine sx_RU.call rfl rfl rfl rfl (cn_N _) ?_
      | refine sx_RU.call rfl rfl rfl rfl (cn_M _) ?_
      | refine sx_RU.call rfl rfl rfl rfl (cn_Z _) ?_
      | (refine sx_RU.call rfl rfl rfl rfl (cx_7 _ _ _ _) ?_; first | rw [if_pos (by assumption)] | rw [if_neg (by assumption)] | rw [if_pos (by decide)])
      | (refine sx_RU.call rfl rfl rfl rfl (cx_8 _ _ _ _ _ _) ?_; first | rw [if_pos (by assumption)] | rw [if_neg (by assumption)] | rw [if_pos (by decide)])
      | (refine sx_RU.call rfl rfl rfl rfl (cx_22 _ _ _ _) ?_; first | rw [if_pos (by assumption)] | rw [if_neg (by assumption)] | rw [if_pos (by decide)])
      | (refine sx_RU.call rfl rfl rfl rfl (cx_23 _ _ _ _) ?_; first | rw [if_pos (by assumption)] | rw [if_neg (by assumption)] | rw [if_pos (by decide)])
      | (refine sx_RU.call rfl rfl rfl rfl (cx_131 _ _ _ _) ?_; first | rw [if_pos (by assumption)] | rw [if_neg (by assumption)] | rw [if_pos (by decide)])
      | (refine sx_RU.call rfl rfl rfl rfl (cx_132 _ _ _ _ _ _) ?_; first | rw [if_pos (by assumption)] | rw [if_neg (by assumption)] | rw [if_pos (by decide)])
      | (refine sx_RU.call rfl rfl rfl rfl (cx_151 _ _ _ _) ?_; first | rw [if_pos (by assumption)] | rw [if_neg (by assumption)] | rw [if_pos (by decide)])
      | (refine sx_RU.call rfl rfl rfl rfl (cx_152 _ _ _ _) ?_; first | rw [if_pos (by assumption)] | rw [if_neg (by assumption)] | rw [if_pos (by decide)])
      | (refine sx_RU.call rfl rfl rfl rfl (cx_231 _ _ _ _) ?_; first | rw [if_pos (by assumption)] | rw [if_neg (by assumption)] | rw [if_pos (by decide)])
      | (refine sx_RU.call rfl rfl rfl rfl (cx_197 _ _ _ _) ?_; first | rw [if_pos (by assumption)] | rw [if_neg (by assumption)] | rw [if_pos (by decide)])
      | (refine sx_RU.call rfl rfl rfl rfl (cx_112 _ _ _ _) ?_; first | rw [if_pos (by assumption)] | rw [if_neg (by assumption)] | rw [if_pos (by decide)])
      | refine sx_RU.br rfl rfl (fun _ => ?_) (fun q => (of_decide_eq_false q (by assumption)).elim)
      | refine sx_RU.br rfl rfl (fun q => ((by assumption : ¬ _) (of_decide_eq_true q)).elim) (fun _ => ?_)
      | refine sx_RU.swo rfl (by assumption) rfl ?_)
set_option maxRecDepth 20000 in
theorem k_read_m2 (ys : List Int32) : sx_twoI ys 122 238 [.int 2] := by
  refine ⟨(-1000000006), sx_vM, sx_vM2, _, rfl, ?_, ?_⟩
  · repeat (first
      | refine sx_RU.step rfl rfl ?_
      | exact sx_RU.ret rfl rfl
      | refine sx_RU.call rfl rfl rfl rfl (cf_B _) ?_
      | refine sx_RU.call rfl rfl rfl rfl (cf_N _) ?_
      | refine sx_RU.call rfl rfl rfl rfl (cf_M _) ?_
      | refine sx_RU.call rfl rfl rfl rfl (cf_Z _) ?_
      | refine sx_RU.call rfl rfl rfl rfl (cn_B _) ?_
      | refine sx_RU.call rfl rfl rfl rfl (cn_N _) ?_
      | refine sx_RU.call rfl rfl rfl rfl (cn_M _) ?_
      | refine sx_RU.call rfl rfl rfl rfl (cn_Z _) ?_
      | refine sx_RU.call rfl rfl rfl rfl (cg_113_2 _) ?_
      | (refine sx_RU.call rfl rfl rfl rfl (cx_7 _ _ _ _) ?_; first | rw [if_pos (by assumption)] | rw [if_neg (by assumption)] | rw [if_pos (by decide)])
      | (refine sx_RU.call rfl rfl rfl rfl (cx_8 _ _ _ _ _ _) ?_; first | rw [if_pos (by assumption)] | rw [if_neg (by assumption)] | rw [if_pos (by decide)])
      | (refine sx_RU.call rfl rfl rfl rfl (cx_22 _ _ _ _) ?_; first | rw [if_pos (by assumption)] | rw [if_neg (by assumption)] | rw [if_pos (by decide)])
      | (refine sx_RU.call rfl rfl rfl rfl (cx_23 _ _ _ _) ?_; first | rw [if_pos (by assumption)] | rw [if_neg (by assumption)] | rw [if_pos (by decide)])
      | (refine sx_RU.call rfl rfl rfl rfl (cx_131 _ _ _ _) ?_; first | rw [if_pos (by assumption)] | rw [if_neg (by assumption)] | rw [if_pos (by decide)])
      | (refine sx_RU.call rfl rfl rfl rfl (cx_132 _ _ _ _ _ _) ?_; first | rw [if_pos (by assumption)] | rw [if_neg (by assumption)] | rw [if_pos (by decide)])
      | (refine sx_RU.call rfl rfl rfl rfl (cx_151 _ _ _ _) ?_; first | rw [if_pos (by assumption)] | rw [if_neg (by assumption)] | rw [if_pos (by decide)])
      | (refine sx_RU.call rfl rfl rfl rfl (cx_152 _ _ _ _) ?_; first | rw [if_pos (by assumption)] | rw [if_neg (by assumption)] | rw [if_pos (by decide)])
      | (refine sx_RU.call rfl rfl rfl rfl (cx_231 _ _ _ _) ?_; first | rw [if_pos (by assumption)] | rw [if_neg (by assumption)] | rw [if_pos (by decide)])
      | (refine sx_RU.call rfl rfl rfl rfl (cx_197 _ _ _ _) ?_; first | rw [if_pos (by assumption)] | rw [if_neg (by assumption)] | rw [if_pos (by decide)])
      | (refine sx_RU.call rfl rfl rfl rfl (cx_112 _ _ _ _) ?_; first | rw [if_pos (by assumption)] | rw [if_neg (by assumption)] | rw [if_pos (by decide)])
      | refine sx_RU.br rfl rfl (fun _ => ?_) (fun q => (of_decide_eq_false q (by assumption)).elim)
      | refine sx_RU.br rfl rfl (fun q => ((by assumption : ¬ _) (of_decide_eq_true q)).elim) (fun _ => ?_)
      | refine sx_RU.swo rfl (by assumption) rfl ?_)
  · repeat (first
      | refine sx_RU.step rfl rfl ?_
      | exact sx_RU.ret rfl rfl
      | refine sx_RU.call rfl rfl rfl rfl (cf_B _) ?_
      | refine sx_RU.call rfl rfl rfl rfl (cf_N _) ?_
      | refine sx_RU.call rfl rfl rfl rfl (cf_M _) ?_
      | refine sx_RU.call rfl rfl rfl rfl (cf_Z _) ?_
      | refine sx_RU.call rfl rfl rfl rfl (cn_B _) ?_
      | refine sx_RU.call rfl rfl rfl rfl (cn_N _) ?_
      | refine sx_RU.call rfl rfl rfl rfl (cn_M _) ?_
      | refine sx_RU.call rfl rfl rfl rfl (cn_Z _) ?_
      | (refine sx_RU.call rfl rfl rfl rfl (cx_7 _ _ _ _) ?_; first | rw [if_pos (by assumption)] | rw [if_neg (by assumption)] | rw [if_pos (by decide)])
      | (refine sx_RU.call rfl rfl rfl rfl (cx_8 _ _ _ _ _ _) ?_; first | rw [if_pos (by assumption)] | rw [if_neg (by assumption)] | rw [if_pos (by decide)])
      | (refine sx_RU.call rfl rfl rfl rfl (cx_22 _ _ _ _) ?_; first | rw [if_pos (by assumption)] | rw [if_neg (by assumption)] | rw [if_pos (by decide)])
      | (refine sx_RU.call rfl rfl rfl rfl (cx_23 _ _ _ _) ?_; first | rw [if_pos (by assumption)] | rw [if_neg (by assumption)] | rw [if_pos (by decide)])
      | (refine sx_RU.call rfl rfl rfl rfl (cx_131 _ _ _ _) ?_; first | rw [if_pos (by assumption)] | rw [if_neg (by assumption)] | rw [if_pos (by decide)])
      | (refine sx_RU.call rfl rfl rfl rfl (cx_132 _ _ _ _ _ _) ?_; first | rw [if_pos (by assumption)] | rw [if_neg (by assumption)] | rw [if_pos (by decide)])
      | (refine sx_RU.call rfl rfl rfl rfl (cx_151 _ _ _ _) ?_; first | rw [if_pos (by assumption)] | rw [if_neg (by assumption)] | rw [if_pos (by decide)])
      | (refine sx_RU.call rfl rfl rfl rfl (cx_152 _ _ _ _) ?_; first | rw [if_pos (by assumption)] | rw [if_neg (by assumption)] | rw [if_pos (by decide)])
      | (refine sx_RU.call rfl rfl rfl rfl (cx_231 _ _ _ _) ?_; first | rw [if_pos (by assumption)] | rw [if_neg (by assumption)] | rw [if_pos (by decide)])
      | (refine sx_RU.call rfl rfl rfl rfl (cx_197 _ _ _ _) ?_; first | rw [if_pos (by assumption)] | rw [if_neg (by assumption)] | rw [if_pos (by decide)])
      | (refine sx_RU.call rfl rfl rfl rfl (cx_112 _ _ _ _) ?_; first | rw [if_pos (by assumption)] | rw [if_neg (by assumption)] | rw [if_pos (by decide)])
      | refine sx_RU.br rfl rfl (fun _ => ?_) (fun q => (of_decide_eq_false q (by assumption)).elim)
      | refine sx_RU.br rfl rfl (fun q => ((by assumption : ¬ _) (of_decide_eq_true q)).elim) (fun _ => ?_)
      | refine sx_RU.swo rfl (by assumption) rfl ?_)
set_option maxRecDepth 20000 in
theorem k_read_m3 (ys : List Int32) : sx_twoI ys 122 238 [.int 3] := by
  refine ⟨(-1000000006), sx_vM, sx_vM2, _, rfl, ?_, ?_⟩
  · repeat (first
      | refine sx_RU.step rfl rfl ?_
      | exact sx_RU.ret rfl rfl
      | refine sx_RU.call rfl rfl rfl rfl (cf_B _) ?_
      | refine sx_RU.call rfl rfl rfl rfl (cf_N _) ?_
      | refine sx_RU.call rfl rfl rfl rfl (cf_M _) ?_
      | refine sx_RU.call rfl rfl rfl rfl (cf_Z _) ?_
      | refine sx_RU.call rfl rfl rfl rfl (cn_B _) ?_
      | refine sx_RU.call rfl rfl rfl rfl (cn_N _) ?_
      | refine sx_RU.call rfl rfl rfl rfl (cn_M _) ?_
      | refine sx_RU.call rfl rfl rfl rfl (cn_Z _) ?_
      | refine sx_RU.call rfl rfl rfl rfl (cg_113_3 _) ?_
      | (refine sx_RU.call rfl rfl rfl rfl (cx_7 _ _ _ _) ?_; first | rw [if_pos (by assumption)] | rw [if_neg (by assumption)] | rw [if_pos (by decide)])
      | (refine sx_RU.call rfl rfl rfl rfl (cx_8 _ _ _ _ _ _) ?_; first | rw [if_pos (by assumption)] | rw [if_neg (by assumption)] | rw [if_pos (by decide)])
      | (refine sx_RU.call rfl rfl rfl rfl (cx_22 _ _ _ _) ?_; first | rw [if_pos (by assumption)] | rw [if_neg (by assumption)] | rw [if_pos (by decide)])
      | (refine sx_RU.call rfl rfl rfl rfl (cx_23 _ _ _ _) ?_; first | rw [if_pos (by assumption)] | rw [if_neg (by assumption)] | rw [if_pos (by decide)])
      | (refine sx_RU.call rfl rfl rfl rfl (cx_131 _ _ _ _) ?_; first | rw [if_pos (by assumption)] | rw [if_neg (by assumption)] | rw [if_pos (by decide)])
      | (refine sx_RU.call rfl rfl rfl rfl (cx_132 _ _ _ _ _ _) ?_; first | rw [if_pos (by assumption)] | rw [if_neg (by assumption)] | rw [if_pos (by decide)])
      | (refine sx_RU.call rfl rfl rfl rfl (cx_151 _ _ _ _) ?_; first | rw [if_pos (by assumption)] | rw [if_neg (by assumption)] | rw [if_pos (by decide)])
      | (refine sx_RU.call rfl rfl rfl rfl (cx_152 _ _ _ _) ?_; first | rw [if_pos (by assumption)] | rw [if_neg (by assumption)] | rw [if_pos (by decide)])
      | (refine sx_RU.call rfl rfl rfl rfl (cx_231 _ _ _ _) ?_; first | rw [if_pos (by assumption)] | rw [if_neg (by assumption)] | rw [if_pos (by decide)])
      | (refine sx_RU.call rfl rfl rfl rfl (cx_197 _ _ _ _) ?_; first | rw [if_pos (by assumption)] | rw [if_neg (by assumption)] | rw [if_pos (by decide)])
      | (refine sx_RU.call rfl rfl rfl rfl (cx_112 _ _ _ _) ?_; first | rw [if_pos (by assumption)] | rw [if_neg (by assumption)] | rw [if_pos (by decide)])
      | refine sx_RU.br rfl rfl (fun _ => ?_) (fun q => (of_decide_eq_false q (by assumption)).elim)
      | refine sx_RU.br rfl rfl (fun q => ((by assumption : ¬ _) (of_decide_eq_true q)).elim) (fun _ => ?_)
      | refine sx_RU.swo rfl (by assumption) rfl ?_)
  · repeat (first
      | refine sx_RU.step rfl rfl ?_
      | exact sx_RU.ret rfl rfl
      | refine sx_RU.call rfl rfl rfl rfl (cf_B _) ?_
      | refine sx_RU.call rfl rfl rfl rfl (cf_N _) ?_
      | refine sx_RU.call rfl rfl rfl rfl (cf_M _) ?_
      | refine sx_RU.call rfl rfl rfl rfl (cf_Z _) ?_
      | refine sx_RU.call rfl rfl rfl rfl (cn_B _) ?_
      | refine sx_RU.call rfl rfl rfl rfl (cn_N _) ?_
      | refine sx_RU.call rfl rfl rfl rfl (cn_M _) ?_
      | refine sx_RU.call rfl rfl rfl rfl (cn_Z _) ?_
      | (refine sx_RU.call rfl rfl rfl rfl (cx_7 _ _ _ _) ?_; first | rw [if_pos (by assumption)] | rw [if_neg (by assumption)] | rw [if_pos (by decide)])
      | (refine sx_RU.call rfl rfl rfl rfl (cx_8 _ _ _ _ _ _) ?_; first | rw [if_pos (by assumption)] | rw [if_neg (by assumption)] | rw [if_pos (by decide)])
      | (refine sx_RU.call rfl rfl rfl rfl (cx_22 _ _ _ _) ?_; first | rw [if_pos (by assumption)] | rw [if_neg (by assumption)] | rw [if_pos (by decide)])
      | (refine sx_RU.call rfl rfl rfl rfl (cx_23 _ _ _ _) ?_; first | rw [if_pos (by assumption)] | rw [if_neg (by assumption)] | rw [if_pos (by decide)])
      | (refine sx_RU.call rfl rfl rfl rfl (cx_131 _ _ _ _) ?_; first | rw [if_pos (by assumption)] | rw [if_neg (by assumption)] | rw [if_pos (by decide)])
      | (refine sx_RU.call rfl rfl rfl rfl (cx_132 _ _ _ _ _ _) ?_; first | rw [if_pos (by assumption)] | rw [if_neg (by assumption)] | rw [if_pos (by decide)])
      | (refine sx_RU.call rfl rfl rfl rfl (cx_151 _ _ _ _) ?_; first | rw [if_pos (by assumption)] | rw [if_neg (by assumption)] | rw [if_pos (by decide)])
      | (refine sx_RU.call rfl rfl rfl rfl (cx_152 _ _ _ _) ?_; first | rw [if_pos (by assumption)] | rw [if_neg (by assumption)] | rw [if_pos (by decide)])
      | (refine sx_RU.call rfl rfl rfl rfl (cx_231 _ _ _ _) ?_; first | rw [if_pos (by assumption)] | rw [if_neg (by assumption)] | rw [if_pos (by decide)])
      | (refine sx_RU.call rfl rfl rfl rfl (cx_197 _ _ _ _) ?_; first | rw [if_pos (by assumption)] | rw [if_neg (by assumption)] | rw [if_pos (by decide)])
      | (refine sx_RU.call rfl rfl rfl rfl (cx_112 _ _ _ _) ?_; first | rw [if_pos (by assumption)] | rw [if_neg (by assumption)] | rw [if_pos (by decide)])
      | refine sx_RU.br rfl rfl (fun _ => ?_) (fun q => (of_decide_eq_false q (by assumption)).elim)
      | refine sx_RU.br rfl rfl (fun q => ((by assumption : ¬ _) (of_decide_eq_true q)).elim) (fun _ => ?_)
      | refine sx_RU.swo rfl (by assumption) rfl ?_)
set_option maxRecDepth 20000 in
theorem k_copy_m00 (ys : List Int32) (a2 a4 a5 : Int32) : sx_twoI ys 118 234 [.int 0, .int a2, .int 0, .int a4, .int a5] := by
  refine ⟨(-1000000006), sx_vM, sx_vM2, _, rfl, ?_, ?_⟩
  · repeat (first
      | refine sx_RU.step rfl rfl ?_
      | exact sx_RU.ret rfl rfl
      | refine sx_RU.call rfl rfl rfl rfl (cf_B _) ?_
      | refine sx_RU.call rfl rfl rfl rfl (cf_N _) ?_
      | refine sx_RU.call rfl rfl rfl rfl (cf_M _) ?_
      | refine sx_RU.call rfl rfl rfl rfl (cf_Z _) ?_
      | refine sx_RU.call rfl rfl rfl rfl (cn_B _) ?_
      | refine sx_RU.call rfl rfl rfl rfl (cn_N _) ?_
      | refine sx_RU.call rfl rfl rfl rfl (cn_M _) ?_
      | refine sx_RU.call rfl rfl rfl rfl (cn_Z _) ?_
      | refine sx_RU.call rfl rfl rfl rfl (cg_113_0 _) ?_
      | (refine sx_RU.call rfl rfl rfl rfl (cx_7 _ _ _ _) ?_; first | rw [if_pos (by assumption)] | rw [if_neg (by assumption)] | rw [if_pos (by decide)])
      | (refine sx_RU.call rfl rfl rfl rfl (cx_8 _ _ _ _ _ _) ?_; first | rw [if_pos (by assumption)] | rw [if_neg (by assumption)] | rw [if_pos (by decide)])
      | (refine sx_RU.call rfl rfl rfl rfl (cx_22 _ _ _ _) ?_; first | rw [if_pos (by assumption)] | rw [if_neg (by assumption)] | rw [if_pos (by decide)])
      | (refine sx_RU.call rfl rfl rfl rfl (cx_23 _ _ _ _) ?_; first | rw [if_pos (by assumption)] | rw [if_neg (by assumption)] | rw [if_pos (by decide)])
      | (refine sx_RU.call rfl rfl rfl rfl (cx_131 _ _ _ _) ?_; first | rw [if_pos (by assumption)] | rw [if_neg (by assumption)] | rw [if_pos (by decide)])
      | (refine sx_RU.call rfl rfl rfl rfl (cx_132 _ _ _ _ _ _) ?_; first | rw [if_pos (by assumption)] | rw [if_neg (by assumption)] | rw [if_pos (by decide)])
      | (refine sx_RU.call rfl rfl rfl rfl (cx_151 _ _ _ _) ?_; first | rw [if_pos (by assumption)] | rw [if_neg (by assumption)] | rw [if_pos (by decide)])
      | (refine sx_RU.call rfl rfl rfl rfl (cx_152 _ _ _ _) ?_; first | rw [if_pos (by assumption)] | rw [if_neg (by assumption)] | rw [if_pos (by decide)])
      | (refine sx_RU.call rfl rfl rfl rfl (cx_231 _ _ _ _) ?_; first | rw [if_pos (by assumption)] | rw [if_neg (by assumption)] | rw [if_pos (by decide)])
      | (refine sx_RU.call rfl rfl rfl rfl (cx_197 _ _ _ _) ?_; first | rw [if_pos (by assumption)] | rw [if_neg (by assumption)] | rw [if_pos (by decide)])
      | (refine sx_RU.call rfl rfl rfl rfl (cx_112 _ _ _ _) ?_; first | rw [if_pos (by assumption)] | rw [if_neg (by assumption)] | rw [if_pos (by decide)])
      | refine sx_RU.br rfl rfl (fun _ => ?_) (fun q => (of_decide_eq_false q (by assumption)).elim)
      | refine sx_RU.br rfl rfl (fun q => ((by assumption : ¬ _) (of_decide_eq_true q)).elim) (fun _ => ?_)
      | refine sx_RU.swo rfl (by assumption) rfl ?_)
  · repeat (first
      | refine sx_RU.step rfl rfl ?_
      | exact sx_RU.ret rfl rfl
      | refine sx_RU.call rfl rfl rfl rfl (cf_B _) ?_
      | refine sx_RU.call rfl rfl rfl rfl (cf_N _) ?_
      | refine sx_RU.call rfl rfl rfl rfl (cf_M _) ?_
      | refine sx_RU.call rfl rfl rfl rfl (cf_Z _) ?_
      | refine sx_RU.call rfl rfl rfl rfl (cn_B _) ?_
      | refine sx_RU.call rfl rfl rfl rfl (cn_N _) ?_
      | refine sx_RU.call rfl rfl rfl rfl (cn_M _) ?_
      | refine sx_RU.call rfl rfl rfl rfl (cn_Z _) ?_
      | (refine sx_RU.call rfl rfl rfl rfl (cx_7 _ _ _ _) ?_; first | rw [if_pos (by assumption)] | rw [if_neg (by assumption)] | rw [if_pos (by decide)])
      | (refine sx_RU.call rfl rfl rfl rfl (cx_8 _ _ _ _ _ _) ?_; first | rw [if_pos (by assumption)] | rw [if_neg (by assumption)] | rw [if_pos (by decide)])
      | (refine sx_RU.call rfl rfl rfl rfl (cx_22 _ _ _ _) ?_; first | rw [if_pos (by assumption)] | rw [if_neg (by assumption)] | rw [if_pos (by decide)])
      | (refine sx_RU.call rfl rfl rfl rfl (cx_23 _ _ _ _) ?_; first | rw [if_pos (by assumption)] | rw [if_neg (by assumption)] | rw [if_pos (by decide)])
      | (refine sx_RU.call rfl rfl rfl rfl (cx_131 _ _ _ _) ?_; first | rw [if_pos (by assumption)] | rw [if_neg (by assumption)] | rw [if_pos (by decide)])
      | (refine sx_RU.call rfl rfl rfl rfl (cx_132 _ _ _ _ _ _) ?_; first | rw [if_pos (by assumption)] | rw [if_neg (by assumption)] | rw [if_pos (by decide)])
      | (refine sx_RU.call rfl rfl rfl rfl (cx_151 _ _ _ _) ?_; first | rw [if_pos (by assumption)] | rw [if_neg (by assumption)] | rw [if_pos (by decide)])
      | (refine sx_RU.call rfl rfl rfl rfl (cx_152 _ _ _ _) ?_; first | rw [if_pos (by assumption)] | rw [if_neg (by assumption)] | rw [if_pos (by decide)])
      | (refine sx_RU.call rfl rfl rfl rfl (cx_231 _ _ _ _) ?_; first | rw [if_pos (by assumption)] | rw [if_neg (by assumption)] | rw [if_pos (by decide)])
      | (refine sx_RU.call rfl rfl rfl rfl (cx_197 _ _ _ _) ?_; first | rw [if_pos (by assumption)] | rw [if_neg (by assumption)] | rw [if_pos (by decide)])
      | (refine sx_RU.call rfl rfl rfl rfl (cx_112 _ _ _ _) ?_; first | rw [if_pos (by assumption)] | rw [if_neg (by assumption)] | rw [if_pos (by decide)])
      | refine sx_RU.br rfl rfl (fun _ => ?_) (fun q => (of_decide_eq_false q (by assumption)).elim)
      | refine sx_RU.br rfl rfl (fun q => ((by assumption : ¬ _) (of_decide_eq_true q)).elim) (fun _ => ?_)
      | refine sx_RU.swo rfl (by assumption) rfl ?_)
set_option maxRecDepth 20000 in
theorem k_copy_m01 (ys : List Int32) (a2 a4 a5 : Int32) : sx_twoI ys 118 234 [.int 0, .int a2, .int 1, .int a4, .int a5] := by
  refine ⟨(-1000000006), sx_vM, sx_vM2, _, rfl, ?_, ?_⟩
  · repeat (first
      | refine sx_RU.step rfl rfl ?_
      | exact sx_RU.ret rfl rfl
      | refine sx_RU.call rfl rfl rfl rfl (cf_B _) ?_
      | refine sx_RU.call rfl rfl rfl rfl (cf_N _) ?_
      | refine sx_RU.call rfl rfl rfl rfl (cf_M _) ?_
      | refine sx_RU.call rfl rfl rfl rfl (cf_Z _) ?_
      | refine sx_RU.call rfl rfl rfl rfl (cn_B _) ?_
      | refine sx_RU.call rfl rfl rfl rfl (cn_N _) ?_
      | refine sx_RU.call rfl rfl rfl rfl (cn_M _) ?_
      | refine sx_RU.call rfl rfl rfl rfl (cn_Z _) ?_
      | refine sx_RU.call rfl rfl rfl rfl (cg_113_0 _) ?_
      | (refine sx_RU.call rfl rfl rfl rfl (cx_7 _ _ _ _) ?_; first | rw [if_pos (by assumption)] | rw [if_neg (by assumption)] | rw [if_pos (by decide)])
      | (refine sx_RU.call rfl rfl rfl rfl (cx_8 _ _ _ _ _ _) ?_; first | rw [if_pos (by assumption)] | rw [if_neg (by assumption)] | rw [if_pos (by decide)])
      | (refine sx_RU.call rfl rfl rfl rfl (cx_22 _ _ _ _) ?_; first | rw [if_pos (by assumption)] | rw [if_neg (by assumption)] | rw [if_pos (by decide)])
      | (refine sx_RU.call rfl rfl rfl rfl (cx_23 _ _ _ _) ?_; first | rw [if_pos (by assumption)] | rw [if_neg (by assumption)] | rw [if_pos (by decide)])
      | (refine sx_RU.call rfl rfl rfl rfl (cx_131 _ _ _ _) ?_; first | rw [if_pos (by assumption)] | rw [if_neg (by assumption)] | rw [if_pos (by decide)])
      | (refine sx_RU.call rfl rfl rfl rfl (cx_132 _ _ _ _ _ _) ?_; first | rw [if_pos (by assumption)] | rw [if_neg (by assumption)] | rw [if_pos (by decide)])
      | (refine sx_RU.call rfl rfl rfl rfl (cx_151 _ _ _ _) ?_; first | rw [if_pos (by assumption)] | rw [if_neg (by assumption)] | rw [if_pos (by decide)])
      | (refine sx_RU.call rfl rfl rfl rfl (cx_152 _ _ _ _) ?_; first | rw [if_pos (by assumption)] | rw [if_neg (by assumption)] | rw [if_pos (by decide)])
      | (refine sx_RU.call rfl rfl rfl rfl (cx_231 _ _ _ _) ?_; first | rw [if_pos (by assumption)] | rw [if_neg (by assumption)] | rw [if_pos (by decide)])
      | (refine sx_RU.call rfl rfl rfl rfl (cx_197 _ _ _ _) ?_; first | rw [if_pos (by assumption)] | rw [if_neg (by assumption)] | rw [if_pos (by decide)])
      | (refine sx_RU.call rfl rfl rfl rfl (cx_112 _ _ _ _) ?_; first | rw [if_pos (by assumption)] | rw [if_neg (by assumption)] | rw [if_pos (by decide)])
      | refine sx_RU.br rfl rfl (fun _ => ?_) (fun q => (of_decide_eq_false q (by assumption)).elim)
      | refine sx_RU.br rfl rfl (fun q => ((by assumption : ¬ _) (of_decide_eq_true q)).elim) (fun _ => ?_)
      | refine sx_RU.swo rfl (by assumption) rfl ?_)
  · repeat (first
      | refine sx_RU.step rfl rfl ?_
      | exact sx_RU.ret rfl rfl
      | refine sx_RU.call rfl rfl rfl rfl (cf_B _) ?_
      | refine sx_RU.call rfl rfl rfl rfl (cf_N _) ?_
      | refine sx_RU.call rfl rfl rfl rfl (cf_M _) ?_
      | refine sx_RU.call rfl rfl rfl rfl (cf_Z _) ?_
      | refine sx_RU.call rfl rfl rfl rfl (cn_B _) ?_
      | refine sx_RU.call rfl rfl rfl rfl (cn_N _) ?_
      | refine sx_RU.call rfl rfl rfl rfl (cn_M _) ?_
      | refine sx_RU.call rfl rfl rfl rfl (cn_Z _) ?_
      | (refine sx_RU.call rfl rfl rfl rfl (cx_7 _ _ _ _) ?_; first | rw [if_pos (by assumption)] | rw [if_neg (by assumption)] | rw [if_pos (by decide)])
      | (refine sx_RU.call rfl rfl rfl rfl (cx_8 _ _ _ _ _ _) ?_; first | rw [if_pos (by assumption)] | rw [if_neg (by assumption)] | rw [if_pos (by decide)])
      | (refine sx_RU.call rfl rfl rfl rfl (cx_22 _ _ _ _) ?_; first | rw [if_pos (by assumption)] | rw [if_neg (by assumption)] | rw [if_pos (by decide)])
      | (refine sx_RU.call rfl rfl rfl rfl (cx_23 _ _ _ _) ?_; first | rw [if_pos (by assumption)] | rw [if_neg (by assumption)] | rw [if_pos (by decide)])
      | (refine sx_RU.call rfl rfl rfl rfl (cx_131 _ _ _ _) ?_; first | rw [if_pos (by assumption)] | rw [if_neg (by assumption)] | rw [if_pos (by decide)])
      | (refine sx_RU.call rfl rfl rfl rfl (cx_132 _ _ _ _ _ _) ?_; first | rw [if_pos (by assumption)] | rw [if_neg (by assumption)] | rw [if_pos (by decide)])
      | (refine sx_RU.call rfl rfl rfl rfl (cx_151 _ _ _ _) ?_; first | rw [if_pos (by assumption)] | rw [if_neg (by assumption)] | rw [if_pos (by decide)])
      | (refine sx_RU.call rfl rfl rfl rfl (cx_152 _ _ _ _) ?_; first | rw [if_pos (by assumption)] | rw [if_neg (by assumption)] | rw [if_pos (by decide)])
      | (refine sx_RU.call rfl rfl rfl rfl (cx_231 _ _ _ _) ?_; first | rw [if_pos (by assumption)] | rw [if_neg (by assumption)] | rw [if_pos (by decide)])
      | (refine sx_RU.call rfl rfl rfl rfl (cx_197 _ _ _ _) ?_; first | rw [if_pos (by assumption)] | rw [if_neg (by assumption)] | rw [if_pos (by decide)])
      | (refine sx_RU.call rfl rfl rfl rfl (cx_112 _ _ _ _) ?_; first | rw [if_pos (by assumption)] | rw [if_neg (by assumption)] | rw [if_pos (by decide)])
      | refine sx_RU.br rfl rfl (fun _ => ?_) (fun q => (of_decide_eq_false q (by assumption)).elim)
      | refine sx_RU.br rfl rfl (fun q => ((by assumption : ¬ _) (of_decide_eq_true q)).elim) (fun _ => ?_)
      | refine sx_RU.swo rfl (by assumption) rfl ?_)
set_option maxRecDepth 20000 in
theorem k_copy_m02 (ys : List Int32) (a2 a4 a5 : Int32) : sx_twoI ys 118 234 [.int 0, .int a2, .int 2, .int a4, .int a5] := by
  refine ⟨(-1000000006), sx_vM, sx_vM2, _, rfl, ?_, ?_⟩
  · repeat (first
      | refine sx_RU.step rfl rfl ?_
      | exact sx_RU.ret rfl rfl
      | refine sx_RU.call rfl rfl rfl rfl (cf_B _) ?_
      | refine sx_RU.call rfl rfl rfl rfl (cf_N _) ?_
      | refine sx_RU.call rfl rfl rfl rfl (cf_M _) ?_
      | refine sx_RU.call rfl rfl rfl rfl (cf_Z _) ?_
      | refine sx_RU.call rfl rfl rfl rfl (cn_B _) ?_
      | refine sx_RU.call rfl rfl rfl rfl (cn_N _) ?_
      | refine sx_RU.call rfl rfl rfl rfl (cn_M _) ?_
      | refine sx_RU.call rfl rfl rfl rfl (cn_Z _) ?_
      | refine sx_RU.call rfl rfl rfl rfl (cg_113_0 _) ?_
      | (refine sx_RU.call rfl rfl rfl rfl (cx_7 _ _ _ _) ?_; first | rw [if_pos (by assumption)] | rw [if_neg (by assumption)] | rw [if_pos (by decide)])
      | (refine sx_RU.call rfl rfl rfl rfl (cx_8 _ _ _ _ _ _) ?_; first | rw [if_pos (by assumption)] | rw [if_neg (by assumption)] | rw [if_pos (by decide)])
      | (refine sx_RU.call rfl rfl rfl rfl (cx_22 _ _ _ _) ?_; first | rw [if_pos (by assumption)] | rw [if_neg (by assumption)] | rw [if_pos (by decide)])
      | (refine sx_RU.call rfl rfl rfl rfl (cx_23 _ _ _ _) ?_; first | rw [if_pos (by assumption)] | rw [if_neg (by assumption)] | rw [if_pos (by decide)])
      | (refine sx_RU.call rfl rfl rfl rfl (cx_131 _ _ _ _) ?_; first | rw [if_pos (by assumption)] | rw [if_neg (by assumption)] | rw [if_pos (by decide)])
      | (refine sx_RU.call rfl rfl rfl rfl (cx_132 _ _ _ _ _ _) ?_; first | rw [if_pos (by assumption)] | rw [if_neg (by assumption)] | rw [if_pos (by decide)])
      | (refine sx_RU.call rfl rfl rfl rfl (cx_151 _ _ _ _) ?_; first | rw [if_pos (by assumption)] | rw [if_neg (by assumption)] | rw [if_pos (by decide)])
      | (refine sx_RU.call rfl rfl rfl rfl (cx_152 _ _ _ _) ?_; first | rw [if_pos (by assumption)] | rw [if_neg (by assumption)] | rw [if_pos (by decide)])
      | (refine sx_RU.call rfl rfl rfl rfl (cx_231 _ _ _ _) ?_; first | rw [if_pos (by assumption)] | rw [if_neg (by assumption)] | rw [if_pos (by decide)])
      | (refine sx_RU.call rfl rfl rfl rfl (cx_197 _ _ _ _) ?_; first | rw [if_pos (by assumption)] | rw [if_neg (by assumption)] | rw [if_pos (by decide)])
      | (refine sx_RU.call rfl rfl rfl rfl (cx_112 _ _ _ _) ?_; first | rw [if_pos (by assumption)] | rw [if_neg (by assumption)] | rw [if_pos (by decide)])
      | refine sx_RU.br rfl rfl (fun _ => ?_) (fun q => (of_decide_eq_false q (by assumption)).elim)
      | refine sx_RU.br rfl rfl (fun q => ((by assumption : ¬ _) (of_decide_eq_true q)).elim) (fun _ => ?_)
      | refine sx_RU.swo rfl (by assumption) rfl ?_)
  · repeat (first
      | refine sx_RU.step rfl rfl ?_
      | exact sx_RU.ret rfl rfl
      | refine sx_RU.call rfl rfl rfl rfl (cf_B _) ?_
      | refine sx_RU.call rfl rfl rfl rfl (cf_N _) ?_
      | refine sx_RU.call rfl rfl rfl rfl (cf_M _) ?_
      | refine sx_RU.call rfl rfl rfl rfl (cf_Z _) ?_
      | refine sx_RU.call rfl rfl rfl rfl (cn_B _) ?_
      | refine sx_RU.call rfl rfl rfl rfl (cn_N _) ?_
      | refine sx_RU.call rfl rfl rfl rfl (cn_M _) ?_
      | refine sx_RU.call rfl rfl rfl rfl (cn_Z _) ?_
      | (refine sx_RU.call rfl rfl rfl rfl (cx_7 _ _ _ _) ?_; first | rw [if_pos (by assumption)] | rw [if_neg (by assumption)] | rw [if_pos (by decide)])
      | (refine sx_RU.call rfl rfl rfl rfl (cx_8 _ _ _ _ _ _) ?_; first | rw [if_pos (by assumption)] | rw [if_neg (by assumption)] | rw [if_pos (by decide)])
      | (refine sx_RU.call rfl rfl rfl rfl (cx_22 _ _ _ _) ?_; first | rw [if_pos (by assumption)] | rw [if_neg (by assumption)] | rw [if_pos (by decide)])
      | (refine sx_RU.call rfl rfl rfl rfl (cx_23 _ _ _ _) ?_; first | rw [if_pos (by assumption)] | rw [if_neg (by assumption)] | rw [if_pos (by decide)])
      | (refine sx_RU.call rfl rfl rfl rfl (cx_131 _ _ _ _) ?_; first | rw [if_pos (by assumption)] | rw [if_neg (by assumption)] | rw [if_pos (by decide)])
      | (refine sx_RU.call rfl rfl rfl rfl (cx_132 _ _ _ _ _ _) ?_; first | rw [if_pos (by assumption)] | rw [if_neg (by assumption)] | rw [if_pos (by decide)])
      | (refine sx_RU.call rfl rfl rfl rfl (cx_151 _ _ _ _) ?_; first | rw [if_pos (by assumption)] | rw [if_neg (by assumption)] | rw [if_pos (by decide)])
      | (refine sx_RU.call rfl rfl rfl rfl (cx_152 _ _ _ _) ?_; first | rw [if_pos (by assumption)] | rw [if_neg (by assumption)] | rw [if_pos (by decide)])
      | (refine sx_RU.call rfl rfl rfl rfl (cx_231 _ _ _ _) ?_; first | rw [if_pos (by assumption)] | rw [if_neg (by assumption)] | rw [if_pos (by decide)])
      | (refine sx_RU.call rfl rfl rfl rfl (cx_197 _ _ _ _) ?_; first | rw [if_pos (by assumption)] | rw [if_neg (by assumption)] | rw [if_pos (by decide)])
      | (refine sx_RU.call rfl rfl rfl rfl (cx_112 _ _ _ _) ?_; first | rw [if_pos (by assumption)] | rw [if_neg (by assumption)] | rw [if_pos (by decide)])
      | refine sx_RU.br rfl rfl (fun _ => ?_) (fun q => (of_decide_eq_false q (by assumption)).elim)
      | refine sx_RU.br rfl rfl (fun q => ((by assumption : ¬ _) (of_decide_eq_true q)).elim) (fun _ => ?_)
      | refine sx_RU.swo rfl (by assumption) rfl ?_)
set_option maxRecDepth 20000 in
theorem k_copy_m03 (ys : List Int32) (a2 a4 a5 : Int32) : sx_twoI ys 118 234 [.int 0, .int a2, .int 3, .int a4, .int a5] := by
  refine ⟨(-1000000006), sx_vM, sx_vM2, _, rfl, ?_, ?_⟩
  · repeat (first
      | refine sx_RU.step rfl rfl ?_
      | exact sx_RU.ret rfl rfl
      | refine sx_RU.call rfl rfl rfl rfl (cf_B _) ?_
      | refine sx_RU.call rfl rfl rfl rfl (cf_N _) ?_
      | refine sx_RU.call rfl rfl rfl rfl (cf_M _) ?_
      | refine sx_RU.call rfl rfl rfl rfl (cf_Z _) ?_
      | refine sx_RU.call rfl rfl rfl rfl (cn_B _) ?_
      | refine sx_RU.call rfl rfl rfl rfl (cn_N _) ?_
      | refine sx_RU.call rfl rfl rfl rfl (cn_M _) ?_
      | refine sx_RU.call rfl rfl rfl rfl (cn_Z _) ?_
      | refine sx_RU.call rfl rfl rfl rfl (cg_113_0 _) ?_
      | (refine sx_RU.call rfl rfl rfl rfl (cx_7 _ _ _ _) ?_; first | rw [if_pos (by assumption)] | rw [if_neg (by assumption)] | rw [if_pos (by decide)])
      | (refine sx_RU.call rfl rfl rfl rfl (cx_8 _ _ _ _ _ _) ?_; first | rw [if_pos (by assumption)] | rw [if_neg (by assumption)] | rw [if_pos (by decide)])
      | (refine sx_RU.call rfl rfl rfl rfl (cx_22 _ _ _ _) ?_; first | rw [if_pos (by assumption)] | rw [if_neg (by assumption)] | rw [if_pos (by decide)])
      | (refine sx_RU.call rfl rfl rfl rfl (cx_23 _ _ _ _) ?_; first | rw [if_pos (by assumption)] | rw [if_neg (by assumption)] | rw [if_pos (by decide)])
      | (refine sx_RU.call rfl rfl rfl rfl (cx_131 _ _ _ _) ?_; first | rw [if_pos (by assumption)] | rw [if_neg (by assumption)] | rw [if_pos (by decide)])
      | (refine sx_RU.call rfl rfl rfl rfl (cx_132 _ _ _ _ _ _) ?_; first | rw [if_pos (by assumption)] | rw [if_neg (by assumption)] | rw [if_pos (by decide)])
      | (refine sx_RU.call rfl rfl rfl rfl (cx_151 _ _ _ _) ?_; first | rw [if_pos (by assumption)] | rw [if_neg (by assumption)] | rw [if_pos (by decide)])
      | (refine sx_RU.call rfl rfl rfl rfl (cx_152 _ _ _ _) ?_; first | rw [if_pos (by assumption)] | rw [if_neg (by assumption)] | rw [if_pos (by decide)])
      | (refine sx_RU.call rfl rfl rfl rfl (cx_231 _ _ _ _) ?_; first | rw [if_pos (by assumption)] | rw [if_neg (by assumption)] | rw [if_pos (by decide)])
      | (refine sx_RU.call rfl rfl rfl rfl (cx_197 _ _ _ _) ?_; first | rw [if_pos (by assumption)] | rw [if_neg (by assumption)] | rw [if_pos (by decide)])
      | (refine sx_RU.call rfl rfl rfl rfl (cx_112 _ _ _ _) ?_; first | rw [if_pos (by assumption)] | rw [if_neg (by assumption)] | rw [if_pos (by decide)])
      | refine sx_RU.br rfl rfl (fun _ => ?_) (fun q => (of_decide_eq_false q (by assumption)).elim)
      | refine sx_RU.br rfl rfl (fun q => ((by assumption : ¬ _) (of_decide_eq_true q)).elim) (fun _ => ?_)
      | refine sx_RU.swo rfl (by assumption) rfl ?_)
  · repeat (first
      | refine sx_RU.step rfl rfl ?_
      | exact sx_RU.ret rfl rfl
      | refine sx_RU.call rfl rfl rfl rfl (cf_B _) ?_
      | refine sx_RU.call rfl rfl rfl rfl (cf_N _) ?_
      | refine sx_RU.call rfl rfl rfl rfl (cf_M _) ?_
      | refine sx_RU.call rfl rfl rfl rfl (cf_Z _) ?_
      | refine sx_RU.call rfl rfl rfl rfl (cn_B _) ?_
      | refine sx_RU.call rfl rfl rfl rfl (cn_N _) ?_
      | refine sx_RU.call rfl rfl rfl rfl (cn_M _) ?_
      | refine sx_RU.call rfl rfl rfl rfl (cn_Z _) ?_
      | (refine sx_RU.call rfl rfl rfl rfl (cx_7 _ _ _ _) ?_; first | rw [if_pos (by assumption)] | rw [if_neg (by assumption)] | rw [if_pos (by decide)])
      | (refine sx_RU.call rfl rfl rfl rfl (cx_8 _ _ _ _ _ _) ?_; first | rw [if_pos (by assumption)] | rw [if_neg (by assumption)] | rw [if_pos (by decide)])
      | (refine sx_RU.call rfl rfl rfl rfl (cx_22 _ _ _ _) ?_; first | rw [if_pos (by assumption)] | rw [if_neg (by assumption)] | rw [if_pos (by decide)])
      | (refine sx_RU.call rfl rfl rfl rfl (cx_23 _ _ _ _) ?_; first | rw [if_pos (by assumption)] | rw [if_neg (by assumption)] | rw [if_pos (by decide)])
      | (refine sx_RU.call rfl rfl rfl rfl (cx_131 _ _ _ _) ?_; first | rw [if_pos (by assumption)] | rw [if_neg (by assumption)] | rw [if_pos (by decide)])
      | (refine sx_RU.call rfl rfl rfl rfl (cx_132 _ _ _ _ _ _) ?_; first | rw [if_pos (by assumption)] | rw [if_neg (by assumption)] | rw [if_pos (by decide)])
      | (refine sx_RU.call rfl rfl rfl rfl (cx_151 _ _ _ _) ?_; first | rw [if_pos (by assumption)] | rw [if_neg (by assumption)] | rw [if_pos (by decide)])
      | (refine sx_RU.call rfl rfl rfl rfl (cx_152 _ _ _ _) ?_; first | rw [if_pos (by assumption)] | rw [if_neg (by assumption)] | rw [if_pos (by decide)])
      | (refine sx_RU.call rfl rfl rfl rfl (cx_231 _ _ _ _) ?_; first | rw [if_pos (by assumption)] | rw [if_neg (by assumption)] | rw [if_pos (by decide)])
      | (refine sx_RU.call rfl rfl rfl rfl (cx_197 _ _ _ _) ?_; first | rw [if_pos (by assumption)] | rw [if_neg (by assumption)] | rw [if_pos (by decide)])
      | (refine sx_RU.call rfl rfl rfl rfl (cx_112 _ _ _ _) ?_; first | rw [if_pos (by assumption)] | rw [if_neg (by assumption)] | rw [if_pos (by decide)])
      | refine sx_RU.br rfl rfl (fun _ => ?_) (fun q => (of_decide_eq_false q (by assumption)).elim)
      | refine sx_RU.br rfl rfl (fun q => ((by assumption : ¬ _) (of_decide_eq_true q)).elim) (fun _ => ?_)
      | refine sx_RU.swo rfl (by assumption) rfl ?_)
set_option maxRecDepth 20000 in
theorem k_copy_m10 (ys : List Int32) (a2 a4 a5 : Int32) : sx_twoI ys 118 234 [.int 1, .int a2, .int 0, .int a4, .int a5] := by
  refine ⟨(-1000000006), sx_vM, sx_vM2, _, rfl, ?_, ?_⟩
  · repeat (first
      | refine sx_RU.step rfl rfl ?_
      | exact sx_RU.ret rfl rfl
      | refine sx_RU.call rfl rfl rfl rfl (cf_B _) ?_
      | refine sx_RU.call rfl rfl rfl rfl (cf_N _) ?_
      | refine sx_RU.call rfl rfl rfl rfl (cf_M _) ?_
      | refine sx_RU.call rfl rfl rfl rfl (cf_Z _) ?_
      | refine sx_RU.call rfl rfl rfl rfl (cn_B _) ?_
      | refine sx_RU.call rfl rfl rfl rfl (cn_N _) ?_
      | refine sx_RU.call rfl rfl rfl rfl (cn_M _) ?_
      | refine sx_RU.call rfl rfl rfl rfl (cn_Z _) ?_
      | refine sx_RU.call rfl rfl rfl rfl (cg_113_1 _) ?_
      | (refine sx_RU.call rfl rfl rfl rfl (cx_7 _ _ _ _) ?_; first | rw [if_pos (by assumption)] | rw [if_neg (by assumption)] | rw [if_pos (by decide)])
      | (refine sx_RU.call rfl rfl rfl rfl (cx_8 _ _ _ _ _ _) ?_; first | rw [if_pos (by assumption)] | rw [if_neg (by assumption)] | rw [if_pos (by decide)])
      | (refine sx_RU.call rfl rfl rfl rfl (cx_22 _ _ _ _) ?_; first | rw [if_pos (by assumption)] | rw [if_neg (by assumption)] | rw [if_pos (by decide)])
      | (refine sx_RU.call rfl rfl rfl rfl (cx_23 _ _ _ _) ?_; first | rw [if_pos (by assumption)] | rw [if_neg (by assumption)] | rw [if_pos (by decide)])
      | (refine sx_RU.call rfl rfl rfl rfl (cx_131 _ _ _ _) ?_; first | rw [if_pos (by assumption)] | rw [if_neg (by assumption)] | rw [if_pos (by decide)])
      | (refine sx_RU.call rfl rfl rfl rfl (cx_132 _ _ _ _ _ _) ?_; first | rw [if_pos (by assumption)] | rw [if_neg (by assumption)] | rw [if_pos (by decide)])
      | (refine sx_RU.call rfl rfl rfl rfl (cx_151 _ _ _ _) ?_; first | rw [if_pos (by assumption)] | rw [if_neg (by assumption)] | rw [if_pos (by decide)])
      | (refine sx_RU.call rfl rfl rfl rfl (cx_152 _ _ _ _) ?_; first | rw [if_pos (by assumption)] | rw [if_neg (by assumption)] | rw [if_pos (by decide)])
      | (refine sx_RU.call rfl rfl rfl rfl (cx_231 _ _ _ _) ?_; first | rw [if_pos (by assumption)] | rw [if_neg (by assumption)] | rw [if_pos (by decide)])
      | (refine sx_RU.call rfl rfl rfl rfl (cx_197 _ _ _ _) ?_; first | rw [if_pos (by assumption)] | rw [if_neg (by assumption)] | rw [if_pos (by decide)])
      | (refine sx_RU.call rfl rfl rfl rfl (cx_112 _ _ _ _) ?_; first | rw [if_pos (by assumption)] | rw [if_neg (by assumption)] | rw [if_pos (by decide)])
      | refine sx_RU.br rfl rfl (fun _ => ?_) (fun q => (of_decide_eq_false q (by assumption)).elim)
      | refine sx_RU.br rfl rfl (fun q => ((by assumption : ¬ _) (of_decide_eq_true q)).elim) (fun _ => ?_)
      | refine sx_RU.swo rfl (by assumption) rfl ?_)
  · repeat (first
      | refine sx_RU.step rfl rfl ?_
      | exact sx_RU.ret rfl rfl
      | refine sx_RU.call rfl rfl rfl rfl (cf_B _) ?_
      | refine sx_RU.call rfl rfl rfl rfl (cf_N _) ?_
      | refine sx_RU.call rfl rfl rfl rfl (cf_M _) ?_
      | refine sx_RU.call rfl rfl rfl rfl (cf_Z _) ?_
      | refine sx_RU.call rfl rfl rfl rfl (cn_B _) ?_
      | refine sx_RU.call rfl rfl rfl rfl (cn_N _) ?_
      | refine sx_RU.call rfl rfl rfl rfl (cn_M _) ?_
      | refine sx_RU.call rfl rfl rfl rfl (cn_Z _) ?_
      | (refine sx_RU.call rfl rfl rfl rfl (cx_7 _ _ _ _) ?_; first | rw [if_pos (by assumption)] | rw [if_neg (by assumption)] | rw [if_pos (by decide)])
      | (refine sx_RU.call rfl rfl rfl rfl (cx_8 _ _ _ _ _ _) ?_; first | rw [if_pos (by assumption)] | rw [if_neg (by assumption)] | rw [if_pos (by decide)])
      | (refine sx_RU.call rfl rfl rfl rfl (cx_22 _ _ _ _) ?_; first | rw [if_pos (by assumption)] | rw [if_neg (by assumption)] | rw [if_pos (by decide)])
      | (refine sx_RU.call rfl rfl rfl rfl (cx_23 _ _ _ _) ?_; first | rw [if_pos (by assumption)] | rw [if_neg (by assumption)] | rw [if_pos (by decide)])
      | (refine sx_RU.call rfl rfl rfl rfl (cx_131 _ _ _ _) ?_; first | rw [if_pos (by assumption)] | rw [if_neg (by assumption)] | rw [if_pos (by decide)])
      | (refine sx_RU.call rfl rfl rfl rfl (cx_132 _ _ _ _ _ _) ?_; first | rw [if_pos (by assumption)] | rw [if_neg (by assumption)] | rw [if_pos (by decide)])
      | (refine sx_RU.call rfl rfl rfl rfl (cx_151 _ _ _ _) ?_; first | rw [if_pos (by assumption)] | rw [if_neg (by assumption)] | rw [if_pos (by decide)])
      | (refine sx_RU.call rfl rfl rfl rfl (cx_152 _ _ _ _) ?_; first | rw [if_pos (by assumption)] | rw [if_neg (by assumption)] | rw [if_pos (by decide)])
      | (refine sx_RU.call rfl rfl rfl rfl (cx_231 _ _ _ _) ?_; first | rw [if_pos (by assumption)] | rw [if_neg (by assumption)] | rw [if_pos (by decide)])
      | (refine sx_RU.call rfl rfl rfl rfl (cx_197 _ _ _ _) ?_; first | rw [if_pos (by assumption)] | rw [if_neg (by assumption)] | rw [if_pos (by decide)])
      | (refine sx_RU.call rfl rfl rfl rfl (cx_112 _ _ _ _) ?_; first | rw [if_pos (by assumption)] | rw [if_neg (by assumption)] | rw [if_pos (by decide)])
      | refine sx_RU.br rfl rfl (fun _ => ?_) (fun q => (of_decide_eq_false q (by assumption)).elim)
      | refine sx_RU.br rfl rfl (fun q => ((by assumption : ¬ _) (of_decide_eq_true q)).elim) (fun _ => ?_)
      | refine sx_RU.swo rfl (by assumption) rfl ?_)
set_option maxRecDepth 20000 in
theorem k_copy_m11 (ys : List Int32) (a2 a4 a5 : Int32) : sx_twoI ys 118 234 [.int 1, .int a2, .int 1, .int a4, .int a5] := by
  refine ⟨(-1000000006), sx_vM, sx_vM2, _, rfl, ?_, ?_⟩
  · repeat (first
      | refine sx_RU.step rfl rfl ?_
      | exact sx_RU.ret rfl rfl
      | refine sx_RU.call rfl rfl rfl rfl (cf_B _) ?_
      | refine sx_RU.call rfl rfl rfl rfl (cf_N _) ?_
      | refine sx_RU.call rfl rfl rfl rfl (cf_M _) ?_
      | refine sx_RU.call rfl rfl rfl rfl (cf_Z _) ?_
      | refine sx_RU.call rfl rfl rfl rfl (cn_B _) ?_
      | refine sx_RU.call rfl rfl rfl rfl (cn_N _) ?_
      | refine sx_RU.call rfl rfl rfl rfl (cn_M _) ?_
      | refine sx_RU.call rfl rfl rfl rfl (cn_Z _) ?_
      | refine sx_RU.call rfl rfl rfl rfl (cg_113_1 _) ?_
      | (refine sx_RU.call rfl rfl rfl rfl (cx_7 _ _ _ _) ?_; first | rw [if_pos (by assumption)] | rw [if_neg (by assumption)] | rw [if_pos (by decide)])
      | (refine sx_RU.call rfl rfl rfl rfl (cx_8 _ _ _ _ _ _) ?_; first | rw [if_pos (by assumption)] | rw [if_neg (by assumption)] | rw [if_pos (by decide)])
      | (refine sx_RU.call rfl rfl rfl rfl (cx_22 _ _ _ _) ?_; first | rw [if_pos (by assumption)] | rw [if_neg (by assumption)] | rw [if_pos (by decide)])
      | (refine sx_RU.call rfl rfl rfl rfl (cx_23 _ _ _ _) ?_; first | rw [if_pos (by assumption)] | rw [if_neg (by assumption)] | rw [if_pos (by decide)])
      | (refine sx_RU.call rfl rfl rfl rfl (cx_131 _ _ _ _) ?_; first | rw [if_pos (by assumption)] | rw [if_neg (by assumption)] | rw [if_pos (by decide)])
      | (refine sx_RU.call rfl rfl rfl rfl (cx_132 _ _ _ _ _ _) ?_; first | rw [if_pos (by assumption)] | rw [if_neg (by assumption)] | rw [if_pos (by decide)])
      | (refine sx_RU.call rfl rfl rfl rfl (cx_151 _ _ _ _) ?_; first | rw [if_pos (by assumption)] | rw [if_neg (by assumption)] | rw [if_pos (by decide)])
      | (refine sx_RU.call rfl rfl rfl rfl (cx_152 _ _ _ _) ?_; first | rw [if_pos (by assumption)] | rw [if_neg (by assumption)] | rw [if_pos (by decide)])
      | (refine sx_RU.call rfl rfl rfl rfl (cx_231 _ _ _ _) ?_; first | rw [if_pos (by assumption)] | rw [if_neg (by assumption)] | rw [if_pos (by decide)])
      | (refine sx_RU.call rfl rfl rfl rfl (cx_197 _ _ _ _) ?_; first | rw [if_pos (by assumption)] | rw [if_neg (by assumption)] | rw [if_pos (by decide)])
      | (refine sx_RU.call rfl rfl rfl rfl (cx_112 _ _ _ _) ?_; first | rw [if_pos (by assumption)] | rw [if_neg (by assumption)] | rw [if_pos (by decide)])
      | refine sx_RU.br rfl rfl (fun _ => ?_) (fun q => (of_decide_eq_false q (by assumption)).elim)
      | refine sx_RU.br rfl rfl (fun q => ((by assumption : ¬ _) (of_decide_eq_true q)).elim) (fun _ => ?_)
      | refine sx_RU.swo rfl (by assumption) rfl ?_)
  · repeat (first
      | refine sx_RU.step rfl rfl ?_
      | exact sx_RU.ret rfl rfl
      | refine sx_RU.call rfl rfl rfl rfl (cf_B _) ?_
      | refine sx_RU.call rfl rfl rfl rfl (cf_N _) ?_
      | refine sx_RU.call rfl rfl rfl rfl (cf_M _) ?_
      | refine sx_RU.call rfl rfl rfl rfl (cf_Z _) ?_
      | refine sx_RU.call rfl rfl rfl rfl (cn_B _) ?_
      | refine sx_RU.call rfl rfl rfl rfl (cn_N _) ?_
      | refine sx_RU.call rfl rfl rfl rfl (cn_M _) ?_
      | refine sx_RU.call rfl rfl rfl rfl (cn_Z _) ?_
      | (refine sx_RU.call rfl rfl rfl rfl (cx_7 _ _ _ _) ?_; first | rw [if_pos (by assumption)] | rw [if_neg (by assumption)] | rw [if_pos (by decide)])
      | (refine sx_RU.call rfl rfl rfl rfl (cx_8 _ _ _ _ _ _) ?_; first | rw [if_pos (by assumption)] | rw [if_neg (by assumption)] | rw [if_pos (by decide)])
      | (refine sx_RU.call rfl rfl rfl rfl (cx_22 _ _ _ _) ?_; first | rw [if_pos (by assumption)] | rw [if_neg (by assumption)] | rw [if_pos (by decide)])
      | (refine sx_RU.call rfl rfl rfl rfl (cx_23 _ _ _ _) ?_; first | rw [if_pos (by assumption)] | rw [if_neg (by assumption)] | rw [if_pos (by decide)])
      | (refine sx_RU.call rfl rfl rfl rfl (cx_131 _ _ _ _) ?_; first | rw [if_pos (by assumption)] | rw [if_neg (by assumption)] | rw [if_pos (by decide)])
      | (refine sx_RU.call rfl rfl rfl rfl (cx_132 _ _ _ _ _ _) ?_; first | rw [if_pos (by assumption)] | rw [if_neg (by assumption)] | rw [if_pos (by decide)])
      | (refine sx_RU.call rfl rfl rfl rfl (cx_151 _ _ _ _) ?_; first | rw [if_pos (by assumption)] | rw [if_neg (by assumption)] | rw [if_pos (by decide)])
      | (refine sx_RU.call rfl rfl rfl rfl (cx_152 _ _ _ _) ?_; first | rw [if_pos (by assumption)] | rw [if_neg (by assumption)] | rw [if_pos (by decide)])
      | (refine sx_RU.call rfl rfl rfl rfl (cx_231 _ _ _ _) ?_; first | rw [if_pos (by assumption)] | rw [if_neg (by assumption)] | rw [if_pos (by decide)])
      | (refine sx_RU.call rfl rfl rfl rfl (cx_197 _ _ _ _) ?_; first | rw [if_pos (by assumption)] | rw [if_neg (by assumption)] | rw [if_pos (by decide)])
      | (refine sx_RU.call rfl rfl rfl rfl (cx_112 _ _ _ _) ?_; first | rw [if_pos (by assumption)] | rw [if_neg (by assumption)] | rw [if_pos (by decide)])
      | refine sx_RU.br rfl rfl (fun _ => ?_) (fun q => (of_decide_eq_false q (by assumption)).elim)
      | refine sx_RU.br rfl rfl (fun q => ((by assumption : ¬ _) (of_decide_eq_true q)).elim) (fun _ => ?_)
      | refine sx_RU.swo rfl (by assumption) rfl ?_)
set_option maxRecDepth 20000 in
theorem k_copy_m12 (ys : List Int32) (a2 a4 a5 : Int32) : sx_twoI ys 118 234 [.int 1, .int a2, .int 2, .int a4, .int a5] := by
  refine ⟨(-1000000006), sx_vM, sx_vM2, _, rfl, ?_, ?_⟩
  · repeat (first
      | refine sx_RU.step rfl rfl ?_
      | exact sx_RU.ret rfl rfl
      | refine sx_RU.call rfl rfl rfl rfl (cf_B _) ?_
      | refine sx_RU.call rfl rfl rfl rfl (cf_N _) ?_
      | refine sx_RU.call rfl rfl rfl rfl (cf_M _) ?_
      | refine sx_RU.call rfl rfl rfl rfl (cf_Z _) ?_
      | refine sx_RU.call rfl rfl rfl rfl (cn_B _) ?_
      | refine sx_RU.call rfl rfl rfl rfl (cn_N _) ?_
      | refine sx_RU.call rfl rfl rfl rfl (cn_M _) ?_
      | refine sx_RU.call rfl rfl rfl rfl (cn_Z _) ?_
      | refine sx_RU.call rfl rfl rfl rfl (cg_113_1 _) ?_
      | (refine sx_RU.call rfl rfl rfl rfl (cx_7 _ _ _ _) ?_; first | rw [if_pos (by assumption)] | rw [if_neg (by assumption)] | rw [if_pos (by decide)])
      | (refine sx_RU.call rfl rfl rfl rfl (cx_8 _ _ _ _ _ _) ?_; first | rw [if_pos (by assumption)] | rw [if_neg (by assumption)] | rw [if_pos (by decide)])
      | (refine sx_RU.call rfl rfl rfl rfl (cx_22 _ _ _ _) ?_; first | rw [if_pos (by assumption)] | rw [if_neg (by assumption)] | rw [if_pos (by decide)])
      | (refine sx_RU.call rfl rfl rfl rfl (cx_23 _ _ _ _) ?_; first | rw [if_pos (by assumption)] | rw [if_neg (by assumption)] | rw [if_pos (by decide)])
      | (refine sx_RU.call rfl rfl rfl rfl (cx_131 _ _ _ _) ?_; first | rw [if_pos (by assumption)] | rw [if_neg (by assumption)] | rw [if_pos (by decide)])
      | (refine sx_RU.call rfl rfl rfl rfl (cx_132 _ _ _ _ _ _) ?_; first | rw [if_pos (by assumption)] | rw [if_neg (by assumption)] | rw [if_pos (by decide)])
      | (refine sx_RU.call rfl rfl rfl rfl (cx_151 _ _ _ _) ?_; first | rw [if_pos (by assumption)] | rw [if_neg (by assumption)] | rw [if_pos (by decide)])
      | (refine sx_RU.call rfl rfl rfl rfl (cx_152 _ _ _ _) ?_; first | rw [if_pos (by assumption)] | rw [if_neg (by assumption)] | rw [if_pos (by decide)])
      | (refine sx_RU.call rfl rfl rfl rfl (cx_231 _ _ _ _) ?_; first | rw [if_pos (by assumption)] | rw [if_neg (by assumption)] | rw [if_pos (by decide)])
      | (refine sx_RU.call rfl rfl rfl rfl (cx_197 _ _ _ _) ?_; first | rw [if_pos (by assumption)] | rw [if_neg (by assumption)] | rw [if_pos (by decide)])
      | (refine sx_RU.call rfl rfl rfl rfl (cx_112 _ _ _ _) ?_; first | rw [if_pos (by assumption)] | rw [if_neg (by assumption)] | rw [if_pos (by decide)])
      | refine sx_RU.br rfl rfl (fun _ => ?_) (fun q => (of_decide_eq_false q (by assumption)).elim)
      | refine sx_RU.br rfl rfl (fun q => ((by assumption : ¬ _) (of_decide_eq_true q)).elim) (fun _ => ?_)
      | refine sx_RU.swo rfl (by assumption) rfl ?_)
  · repeat (first
      | refine sx_RU.step rfl rfl ?_
      | exact sx_RU.ret rfl rfl
      | refine sx_RU.call rfl rfl rfl rfl (cf_B _) ?_
      | refine sx_RU.call rfl rfl rfl rfl (cf_N _) ?_
      | refine sx_RU.call rfl rfl rfl rfl (cf_M _) ?_
      | refine sx_RU.call rfl rfl rfl rfl (cf_Z _) ?_
      | refine sx_RU.call rfl rfl rfl rfl (cn_B _) ?_
      | refine sx_RU.call rfl rfl rfl rfl (cn_N _) ?_
      | refine sx_RU.call rfl rfl rfl rfl (cn_M _) ?_
      | refine sx_RU.call rfl rfl rfl rfl (cn_Z _) ?_
      | (refine sx_RU.call rfl rfl rfl rfl (cx_7 _ _ _ _) ?_; first | rw [if_pos (by assumption)] | rw [if_neg (by assumption)] | rw [if_pos (by decide)])
      | (refine sx_RU.call rfl rfl rfl rfl (cx_8 _ _ _ _ _ _) ?_; first | rw [if_pos (by assumption)] | rw [if_neg (by assumption)] | rw [if_pos (by decide)])
      | (refine sx_RU.call rfl rfl rfl rfl (cx_22 _ _ _ _) ?_; first | rw [if_pos (by assumption)] | rw [if_neg (by assumption)] | rw [if_pos (by decide)])
      | (refine sx_RU.call rfl rfl rfl rfl (cx_23 _ _ _ _) ?_; first | rw [if_pos (by assumption)] | rw [if_neg (by assumption)] | rw [if_pos (by decide)])
      | (refine sx_RU.call rfl rfl rfl rfl (cx_131 _ _ _ _) ?_; first | rw [if_pos (by assumption)] | rw [if_neg (by assumption)] | rw [if_pos (by decide)])
      | (refine sx_RU.call rfl rfl rfl rfl (cx_132 _ _ _ _ _ _) ?_; first | rw [if_pos (by assumption)] | rw [if_neg (by assumption)] | rw [if_pos (by decide)])
      | (refine sx_RU.call rfl rfl rfl rfl (cx_151 _ _ _ _) ?_; first | rw [if_pos (by assumption)] | rw [if_neg (by assumption)] | rw [if_pos (by decide)])
      | (refine sx_RU.call rfl rfl rfl rfl (cx_152 _ _ _ _) ?_; first | rw [if_pos (by assumption)] | rw [if_neg (by assumption)] | rw [if_pos (by decide)])
      | (refine sx_RU.call rfl rfl rfl rfl (cx_231 _ _ _ _) ?_; first | rw [if_pos (by assumption)] | rw [if_neg (by assumption)] | rw [if_pos (by decide)])
      | (refine sx_RU.call rfl rfl rfl rfl (cx_197 _ _ _ _) ?_; first | rw [if_pos (by assumption)] | rw [if_neg (by assumption)] | rw [if_pos (by decide)])
      | (refine sx_RU.call rfl rfl rfl rfl (cx_112 _ _ _ _) ?_; first | rw [if_pos (by assumption)] | rw [if_neg (by assumption)] | rw [if_pos (by decide)])
      | refine sx_RU.br rfl rfl (fun _ => ?_) (fun q => (of_decide_eq_false q (by assumption)).elim)
      | refine sx_RU.br rfl rfl (fun q => ((by assumption : ¬ _) (of_decide_eq_true q)).elim) (fun _ => ?_)
      | refine sx_RU.swo rfl (by assumption) rfl ?_)
set_option maxRecDepth 20000 in
theorem k_copy_m13 (ys : List Int32) (a2 a4 a5 : Int32) : sx_twoI ys 118 234 [.int 1, .int a2, .int 3, .int a4, .int a5] := by
  refine ⟨(-1000000006), sx_vM, sx_vM2, _, rfl, ?_, ?_⟩
  · repeat (first
      | refine sx_RU.step rfl rfl ?_
      | exact sx_RU.ret rfl rfl
      | refine sx_RU.call rfl rfl rfl rfl (cf_B _) ?_
      | refine sx_RU.call rfl rfl rfl rfl (cf_N _) ?_
      | refine sx_RU.call rfl rfl rfl rfl (cf_M _) ?_
      | refine sx_RU.call rfl rfl rfl rfl (cf_Z _) ?_
      | refine sx_RU.call rfl rfl rfl rfl (cn_B _) ?_
      | refine sx_RU.call rfl rfl rfl rfl (cn_N _) ?_
      | refine sx_RU.call rfl rfl rfl rfl (cn_M _) ?_
      | refine sx_RU.call rfl rfl rfl rfl (cn_Z _) ?_
      | refine sx_RU.call rfl rfl rfl rfl (cg_113_1 _) ?_
      | (refine sx_RU.call rfl rfl rfl rfl (cx_7 _ _ _ _) ?_; first | rw [if_pos (by assumption)] | rw [if_neg (by assumption)] | rw [if_pos (by decide)])
      | (refine sx_RU.call rfl rfl rfl rfl (cx_8 _ _ _ _ _ _) ?_; first | rw [if_pos (by assumption)] | rw [if_neg (by assumption)] | rw [if_pos (by decide)])
      | (refine sx_RU.call rfl rfl rfl rfl (cx_22 _ _ _ _) ?_; first | rw [if_pos (by assumption)] | rw [if_neg (by assumption)] | rw [if_pos (by decide)])
      | (refine sx_RU.call rfl rfl rfl rfl (cx_23 _ _ _ _) ?_; first | rw [if_pos (by assumption)] | rw [if_neg (by assumption)] | rw [if_pos (by decide)])
      | (refine sx_RU.call rfl rfl rfl rfl (cx_131 _ _ _ _) ?_; first | rw [if_pos (by assumption)] | rw [if_neg (by assumption)] | rw [if_pos (by decide)])
      | (refine sx_RU.call rfl rfl rfl rfl (cx_132 _ _ _ _ _ _) ?_; first | rw [if_pos (by assumption)] | rw [if_neg (by assumption)] | rw [if_pos (by decide)])
      | (refine sx_RU.call rfl rfl rfl rfl (cx_151 _ _ _ _) ?_; first | rw [if_pos (by assumption)] | rw [if_neg (by assumption)] | rw [if_pos (by decide)])
      | (refine sx_RU.call rfl rfl rfl rfl (cx_152 _ _ _ _) ?_; first | rw [if_pos (by assumption)] | rw [if_neg (by assumption)] | rw [if_pos (by decide)])
      | (refine sx_RU.call rfl rfl rfl rfl (cx_231 _ _ _ _) ?_; first | rw [if_pos (by assumption)] | rw [if_neg (by assumption)] | rw [if_pos (by decide)])
      | (refine sx_RU.call rfl rfl rfl rfl (cx_197 _ _ _ _) ?_; first | rw [if_pos (by assumption)] | rw [if_neg (by assumption)] | rw [if_pos (by decide)])
      | (refine sx_RU.call rfl rfl rfl rfl (cx_112 _ _ _ _) ?_; first | rw [if_pos (by assumption)] | rw [if_neg (by assumption)] | rw [if_pos (by decide)])
      | refine sx_RU.br rfl rfl (fun _ => ?_) (fun q => (of_decide_eq_false q (by assumption)).elim)
      | refine sx_RU.br rfl rfl (fun q => ((by assumption : ¬ _) (of_decide_eq_true q)).elim) (fun _ => ?_)
      | refine sx_RU.swo rfl (by assumption) rfl ?_)
  · repeat (first
      | refine sx_RU.step rfl rfl ?_
      | exact sx_RU.ret rfl rfl
      | refine sx_RU.call rfl rfl rfl rfl (cf_B _) ?_
      | refine sx_RU.call rfl rfl rfl rfl (cf_N _) ?_
      | refine sx_RU.call rfl rfl rfl rfl (cf_M _) ?_
      | refine sx_RU.call rfl rfl rfl rfl (cf_Z _) ?_
      | refine sx_RU.call rfl rfl rfl rfl (cn_B _) ?_
      | refine sx_RU.call rfl rfl rfl rfl (cn_N _) ?_
      | refine sx_RU.call rfl rfl rfl rfl (cn_M _) ?_
      | refine sx_RU.call rfl rfl rfl rfl (cn_Z _) ?_
      | (refine sx_RU.call rfl rfl rfl rfl (cx_7 _ _ _ _) ?_; first | rw [if_pos (by assumption)] | rw [if_neg (by assumption)] | rw [if_pos (by decide)])
      | (refine sx_RU.call rfl rfl rfl rfl (cx_8 _ _ _ _ _ _) ?_; first | rw [if_pos (by assumption)] | rw [if_neg (by assumption)] | rw [if_pos (by decide)])
      | (refine sx_RU.call rfl rfl rfl rfl (cx_22 _ _ _ _) ?_; first | rw [if_pos (by assumption)] | rw [if_neg (by assumption)] | rw [if_pos (by decide)])
      | (refine sx_RU.call rfl rfl rfl rfl (cx_23 _ _ _ _) ?_; first | rw [if_pos (by assumption)] | rw [if_neg (by assumption)] | rw [if_pos (by decide)])
      | (refine sx_RU.call rfl rfl rfl rfl (cx_131 _ _ _ _) ?_; first | rw [if_pos (by assumption)] | rw [if_neg (by assumption)] | rw [if_pos (by decide)])
      | (refine sx_RU.call rfl rfl rfl rfl (cx_132 _ _ _ _ _ _) ?_; first | rw [if_pos (by assumption)] | rw [if_neg (by assumption)] | rw [if_pos (by decide)])
      | (refine sx_RU.call rfl rfl rfl rfl (cx_151 _ _ _ _) ?_; first | rw [if_pos (by assumption)] | rw [if_neg (by assumption)] | rw [if_pos (by decide)])
      | (refine sx_RU.call rfl rfl rfl rfl (cx_152 _ _ _ _) ?_; first | rw [if_pos (by assumption)] | rw [if_neg (by assumption)] | rw [if_pos (by decide)])
      | (refine sx_RU.call rfl rfl rfl rfl (cx_231 _ _ _ _) ?_; first | rw [if_pos (by assumption)] | rw [if_neg (by assumption)] | rw [if_pos (by decide)])
      | (refine sx_RU.call rfl rfl rfl rfl (cx_197 _ _ _ _) ?_; first | rw [if_pos (by assumption)] | rw [if_neg (by assumption)] | rw [if_pos (by decide)])
      | (refine sx_RU.call rfl rfl rfl rfl (cx_112 _ _ _ _) ?_; first | rw [if_pos (by assumption)] | rw [if_neg (by assumption)] | rw [if_pos (by decide)])
      | refine sx_RU.br rfl rfl (fun _ => ?_) (fun q => (of_decide_eq_false q (by assumption)).elim)
      | refine sx_RU.br rfl rfl (fun q => ((by assumption : ¬ _) (of_decide_eq_true q)).elim) (fun _ => ?_)
      | refine sx_RU.swo rfl (by assumption) rfl ?_)
set_option maxRecDepth 20000 in
theorem k_copy_m20 (ys : List Int32) (a2 a4 a5 : Int32) : sx_twoI ys 118 234 [.int 2, .int a2, .int 0, .int a4, .int a5] := by
  refine ⟨(-1000000006), sx_vM, sx_vM2, _, rfl, ?_, ?_⟩
  · repeat (first
      | refine sx_RU.step rfl rfl ?_
      | exact sx_RU.ret rfl rfl
      | refine sx_RU.call rfl rfl rfl rfl (cf_B _) ?_
      | refine sx_RU.call rfl rfl rfl rfl (cf_N _) ?_
      | refine sx_RU.call rfl rfl rfl rfl (cf_M _) ?_
      | refine sx_RU.call rfl rfl rfl rfl (cf_Z _) ?_
      | refine sx_RU.call rfl rfl rfl rfl (cn_B _) ?_
      | refine sx_RU.call rfl rfl rfl rfl (cn_N _) ?_
      | refine sx_RU.call rfl rfl rfl rfl (cn_M _) ?_
      | refine sx_RU.call rfl rfl rfl rfl (cn_Z _) ?_
      | refine sx_RU.call rfl rfl rfl rfl (cg_113_2 _) ?_
      | (refine sx_RU.call rfl rfl rfl rfl (cx_7 _ _ _ _) ?_; first | rw [if_pos (by assumption)] | rw [if_neg (by assumption)] | rw [if_pos (by decide)])
      | (refine sx_RU.call rfl rfl rfl rfl (cx_8 _ _ _ _ _ _) ?_; first | rw [if_pos (by assumption)] | rw [if_neg (by assumption)] | rw [if_pos (by decide)])
      | (refine sx_RU.call rfl rfl rfl rfl (cx_22 _ _ _ _) ?_; first | rw [if_pos (by assumption)] | rw [if_neg (by assumption)] | rw [if_pos (by decide)])
      | (refine sx_RU.call rfl rfl rfl rfl (cx_23 _ _ _ _) ?_; first | rw [if_pos (by assumption)] | rw [if_neg (by assumption)] | rw [if_pos (by decide)])
      | (refine sx_RU.call rfl rfl rfl rfl (cx_131 _ _ _ _) ?_; first | rw [if_pos (by assumption)] | rw [if_neg (by assumption)] | rw [if_pos (by decide)])
      | (refine sx_RU.call rfl rfl rfl rfl (cx_132 _ _ _ _ _ _) ?_; first | rw [if_pos (by assumption)] | rw [if_neg (by assumption)] | rw [if_pos (by decide)])
      | (refine sx_RU.call rfl rfl rfl rfl (cx_151 _ _ _ _) ?_; first | rw [if_pos (by assumption)] | rw [if_neg (by assumption)] | rw [if_pos (by decide)])
      | (refine sx_RU.call rfl rfl rfl rfl (cx_152 _ _ _ _) ?_; first | rw [if_pos (by assumption)] | rw [if_neg (by assumption)] | rw [if_pos (by decide)])
      | (refine sx_RU.call rfl rfl rfl rfl (cx_231 _ _ _ _) ?_; first | rw [if_pos (by assumption)] | rw [if_neg (by assumption)] | rw [if_pos (by decide)])
      | (refine sx_RU.call rfl rfl rfl rfl (cx_197 _ _ _ _) ?_; first | rw [if_pos (by assumption)] | rw [if_neg (by assumption)] | rw [if_pos (by decide)])
      | (refine sx_RU.call rfl rfl rfl rfl (cx_112 _ _ _ _) ?_; first | rw [if_pos (by assumption)] | rw [if_neg (by assumption)] | rw [if_pos (by decide)])
      | refine sx_RU.br rfl rfl (fun _ => ?_) (fun q => (of_decide_eq_false q (by assumption)).elim)
      | refine sx_RU.br rfl rfl (fun q => ((by assumption : ¬ _) (of_decide_eq_true q)).elim) (fun _ => ?_)
      | refine sx_RU.swo rfl (by assumption) rfl ?_)
  · repeat (first
      | refine sx_RU.step rfl rfl ?_
      | exact sx_RU.ret rfl rfl
      | refine sx_RU.call rfl rfl rfl rfl (cf_B _) ?_
      | refine sx_RU.call rfl rfl rfl rfl (cf_N _) ?_
      | refine sx_RU.call rfl rfl rfl rfl (cf_M _) ?_
      | refine sx_RU.call rfl rfl rfl rfl (cf_Z _) ?_
      | refine sx_RU.call rfl rfl rfl rfl (cn_B _) ?_
      | refine sx_RU.call rfl rfl rfl rfl (cn_N _) ?_
      | refine sx_RU.call rfl rfl rfl rfl (cn_M _) ?_
      | refine sx_RU.call rfl rfl rfl rfl (cn_Z _) ?_
      | (refine sx_RU.call rfl rfl rfl rfl (cx_7 _ _ _ _) ?_; first | rw [if_pos (by assumption)] | rw [if_neg (by assumption)] | rw [if_pos (by decide)])
      | (refine sx_RU.call rfl rfl rfl rfl (cx_8 _ _ _ _ _ _) ?_; first | rw [if_pos (by assumption)] | rw [if_neg (by assumption)] | rw [if_pos (by decide)])
      | (refine sx_RU.call rfl rfl rfl rfl (cx_22 _ _ _ _) ?_; first | rw [if_pos (by assumption)] | rw [if_neg (by assumption)] | rw [if_pos (by decide)])
      | (refine sx_RU.call rfl rfl rfl rfl (cx_23 _ _ _ _) ?_; first | rw [if_pos (by assumption)] | rw [if_neg (by assumption)] | rw [if_pos (by decide)])
      | (refine sx_RU.call rfl rfl rfl rfl (cx_131 _ _ _ _) ?_; first | rw [if_pos (by assumption)] | rw [if_neg (by assumption)] | rw [if_pos (by decide)])
      | (refine sx_RU.call rfl rfl rfl rfl (cx_132 _ _ _ _ _ _) ?_; first | rw [if_pos (by assumption)] | rw [if_neg (by assumption)] | rw [if_pos (by decide)])
      | (refine sx_RU.call rfl rfl rfl rfl (cx_151 _ _ _ _) ?_; first | rw [if_pos (by assumption)] | rw [if_neg (by assumption)] | rw [if_pos (by decide)])
      | (refine sx_RU.call rfl rfl rfl rfl (cx_152 _ _ _ _) ?_; first | rw [if_pos (by assumption)] | rw [if_neg (by assumption)] | rw [if_pos (by decide)])
      | (refine sx_RU.call rfl rfl rfl rfl (cx_231 _ _ _ _) ?_; first | rw [if_pos (by assumption)] | rw [if_neg (by assumption)] | rw [if_pos (by decide)])
      | (refine sx_RU.call rfl rfl rfl rfl (cx_197 _ _ _ _) ?_; first | rw [if_pos (by assumption)] | rw [if_neg (by assumption)] | rw [if_pos (by decide)])
      | (refine sx_RU.call rfl rfl rfl rfl (cx_112 _ _ _ _) ?_; first | rw [if_pos (by assumption)] | rw [if_neg (by assumption)] | rw [if_pos (by decide)])
      | refine sx_RU.br rfl rfl (fun _ => ?_) (fun q => (of_decide_eq_false q (by assumption)).elim)
      | refine sx_RU.br rfl rfl (fun q => ((by assumption : ¬ _) (of_decide_eq_true q)).elim) (fun _ => ?_)
      | refine sx_RU.swo rfl (by assumption) rfl ?_)
set_option maxRecDepth 20000 in
theorem k_copy_m21 (ys : List Int32) (a2 a4 a5 : Int32) : sx_twoI ys 118 234 [.int 2, .int a2, .int 1, .int a4, .int a5] := by
  refine ⟨(-1000000006), sx_vM, sx_vM2, _, rfl, ?_, ?_⟩
  · repeat (first
      | refine sx_RU.step rfl rfl ?_
      | exact sx_RU.ret rfl rfl
      | refine sx_RU.call rfl rfl rfl rfl (cf_B _) ?_
      | refine sx_RU.call rfl rfl rfl rfl (cf_N _) ?_
      | refine sx_RU.call rfl rfl rfl rfl (cf_M _) ?_
      | refine sx_RU.call rfl rfl rfl rfl (cf_Z _) ?_
      | refine sx_RU.call rfl rfl rfl rfl (cn_B _) ?_
      | refine sx_RU.call rfl rfl rfl rfl (cn_N _) ?_
      | refine sx_RU.call rfl rfl rfl rfl (cn_M _) ?_
      | refine sx_RU.call rfl rfl rfl rfl (cn_Z _) ?_
      | refine sx_RU.call rfl rfl rfl rfl (cg_113_2 _) ?_
      | (refine sx_RU.call rfl rfl rfl rfl (cx_7 _ _ _ _) ?_; first | rw [if_pos (by assumption)] | rw [if_neg (by assumption)] | rw [if_pos (by decide)])
      | (refine sx_RU.call rfl rfl rfl rfl (cx_8 _ _ _ _ _ _) ?_; first | rw [if_pos (by assumption)] | rw [if_neg (by assumption)] | rw [if_pos (by decide)])
      | (refine sx_RU.call rfl rfl rfl rfl (cx_22 _ _ _ _) ?_; first | rw [if_pos (by assumption)] | rw [if_neg (by assumption)] | rw [if_pos (by decide)])
      | (refine sx_RU.call rfl rfl rfl rfl (cx_23 _ _ _ _) ?_; first | rw [if_pos (by assumption)] | rw [if_neg (by assumption)] | rw [if_pos (by decide)])
      | (refine sx_RU.call rfl rfl rfl rfl (cx_131 _ _ _ _) ?_; first | rw [if_pos (by assumption)] | rw [if_neg (by assumption)] | rw [if_pos (by decide)])
      | (refine sx_RU.call rfl rfl rfl rfl (cx_132 _ _ _ _ _ _) ?_; first | rw [if_pos (by assumption)] | rw [if_neg (by assumption)] | rw [if_pos (by decide)])
      | (refine sx_RU.call rfl rfl rfl rfl (cx_151 _ _ _ _) ?_; first | rw [if_pos (by assumption)] | rw [if_neg (by assumption)] | rw [if_pos (by decide)])
      | (refine sx_RU.call rfl rfl rfl rfl (cx_152 _ _ _ _) ?_; first | rw [if_pos (by assumption)] | rw [if_neg (by assumption)] | rw [if_pos (by decide)])
      | (refine sx_RU.call rfl rfl rfl rfl (cx_231 _ _ _ _) ?_; first | rw [if_pos (by assumption)] | rw [if_neg (by assumption)] | rw [if_pos (by decide)])
      | (refine sx_RU.call rfl rfl rfl rfl (cx_197 _ _ _ _) ?_; first | rw [if_pos (by assumption)] | rw [if_neg (by assumption)] | rw [if_pos (by decide)])
      | (refine sx_RU.call rfl rfl rfl rfl (cx_112 _ _ _ _) ?_; first | rw [if_pos (by assumption)] | rw [if_neg (by assumption)] | rw [if_pos (by decide)])
      | refine sx_RU.br rfl rfl (fun _ => ?_) (fun q => (of_decide_eq_false q (by assumption)).elim)
      | refine sx_RU.br rfl rfl (fun q => ((by assumption : ¬ _) (of_decide_eq_true q)).elim) (fun _ => ?_)
      | refine sx_RU.swo rfl (by assumption) rfl ?_)
  · repeat (first
      | refine sx_RU.step rfl rfl ?_
      | exact sx_RU.ret rfl rfl
      | refine sx_RU.call rfl rfl rfl rfl (cf_B _) ?_
      | refine sx_RU.call rfl rfl rfl rfl (cf_N _) ?_
      | refine sx_RU.call rfl rfl rfl rfl (cf_M _) ?_
      | refine sx_RU.call rfl rfl rfl rfl (cf_Z _) ?_
      | refine sx_RU.call rfl rfl rfl rfl (cn_B _) ?_
      | refine sx_RU.call rfl rfl rfl rfl (cn_N _) ?_
      | refine sx_RU.call rfl rfl rfl rfl (cn_M _) ?_
      | refine sx_RU.call rfl rfl rfl rfl (cn_Z _) ?_
      | (refine sx_RU.call rfl rfl rfl rfl (cx_7 _ _ _ _) ?_; first | rw [if_pos (by assumption)] | rw [if_neg (by assumption)] | rw [if_pos (by decide)])
      | (refine sx_RU.call rfl rfl rfl rfl (cx_8 _ _ _ _ _ _) ?_; first | rw [if_pos (by assumption)] | rw [if_neg (by assumption)] | rw [if_pos (by decide)])
      | (refine sx_RU.call rfl rfl rfl rfl (cx_22 _ _ _ _) ?_; first | rw [if_pos (by assumption)] | rw [if_neg (by assumption)] | rw [if_pos (by decide)])
      | (refine sx_RU.call rfl rfl rfl rfl (cx_23 _ _ _ _) ?_; first | rw [if_pos (by assumption)] | rw [if_neg (by assumption)] | rw [if_pos (by decide)])
      | (refine sx_RU.call rfl rfl rfl rfl (cx_131 _ _ _ _) ?_; first | rw [if_pos (by assumption)] | rw [if_neg (by assumption)] | rw [if_pos (by decide)])
      | (refine sx_RU.call rfl rfl rfl rfl (cx_132 _ _ _ _ _ _) ?_; first | rw [if_pos (by assumption)] | rw [if_neg (by assumption)] | rw [if_pos (by decide)])
      | (refine sx_RU.call rfl rfl rfl rfl (cx_151 _ _ _ _) ?_; first | rw [if_pos (by assumption)] | rw [if_neg (by assumption)] | rw [if_pos (by decide)])
      | (refine sx_RU.call rfl rfl rfl rfl (cx_152 _ _ _ _) ?_; first | rw [if_pos (by assumption)] | rw [if_neg (by assumption)] | rw [if_pos (by decide)])
      | (refine sx_RU.call rfl rfl rfl rfl (cx_231 _ _ _ _) ?_; first | rw [if_pos (by assumption)] | rw [if_neg (by assumption)] | rw [if_pos (by decide)])
      | (refine sx_RU.call rfl rfl rfl rfl (cx_197 _ _ _ _) ?_; first | rw [if_pos (by assumption)] | rw [if_neg (by assumption)] | rw [if_pos (by decide)])
      | (refine sx_RU.call rfl rfl rfl rfl (cx_112 _ _ _ _) ?_; first | rw [if_pos (by assumption)] | rw [if_neg (by assumption)] | rw [if_pos (by decide)])
      | refine sx_RU.br rfl rfl (fun _ => ?_) (fun q => (of_decide_eq_false q (by assumption)).elim)
      | refine sx_RU.br rfl rfl (fun q => ((by assumption : ¬ _) (of_decide_eq_true q)).elim) (fun _ => ?_)
      | refine sx_RU.swo rfl (by assumption) rfl ?_)
set_option maxRecDepth 20000 in
theorem k_copy_m22 (ys : List Int32) (a2 a4 a5 : Int32) : sx_twoI ys 118 234 [.int 2, .int a2, .int 2, .int a4, .int a5] := by
  refine ⟨(-1000000006), sx_vM, sx_vM2, _, rfl, ?_, ?_⟩
  · repeat (first
      | refine sx_RU.step rfl rfl ?_
      | exact sx_RU.ret rfl rfl
      | refine sx_RU.call rfl rfl rfl rfl (cf_B _) ?_
      | refine sx_RU.call rfl rfl rfl rfl (cf_N _) ?_
      | refine sx_RU.call rfl rfl rfl rfl (cf_M _) ?_
      | refine sx_RU.call rfl rfl rfl rfl (cf_Z _) ?_
      | refine sx_RU.call rfl rfl rfl rfl (cn_B _) ?_
      | refine sx_RU.call rfl rfl rfl rfl (cn_N _) ?_
      | refine sx_RU.call rfl rfl rfl rfl (cn_M _) ?_
      | refine sx_RU.call rfl rfl rfl rfl (cn_Z _) ?_
      | refine sx_RU.call rfl rfl rfl rfl (cg_113_2 _) ?_
      | (refine sx_RU.call rfl rfl rfl rfl (cx_7 _ _ _ _) ?_; first | rw [if_pos (by assumption)] | rw [if_neg (by assumption)] | rw [if_pos (by decide)])
      | (refine sx_RU.call rfl rfl rfl rfl (cx_8 _ _ _ _ _ _) ?_; first | rw [if_pos (by assumption)] | rw [if_neg (by assumption)] | rw [if_pos (by decide)])
      | (refine sx_RU.call rfl rfl rfl rfl (cx_22 _ _ _ _) ?_; first | rw [if_pos (by assumption)] | rw [if_neg (by assumption)] | rw [if_pos (by decide)])
      | (refine sx_RU.call rfl rfl rfl rfl (cx_23 _ _ _ _) ?_; first | rw [if_pos (by assumption)] | rw [if_neg (by assumption)] | rw [if_pos (by decide)])
      | (refine sx_RU.call rfl rfl rfl rfl (cx_131 _ _ _ _) ?_; first | rw [if_pos (by assumption)] | rw [if_neg (by assumption)] | rw [if_pos (by decide)])
      | (refine sx_RU.call rfl rfl rfl rfl (cx_132 _ _ _ _ _ _) ?_; first | rw [if_pos (by assumption)] | rw [if_neg (by assumption)] | rw [if_pos (by decide)])
      | (refine sx_RU.call rfl rfl rfl rfl (cx_151 _ _ _ _) ?_; first | rw [if_pos (by assumption)] | rw [if_neg (by assumption)] | rw [if_pos (by decide)])
      | (refine sx_RU.call rfl rfl rfl rfl (cx_152 _ _ _ _) ?_; first | rw [if_pos (by assumption)] | rw [if_neg (by assumption)] | rw [if_pos (by decide)])
      | (refine sx_RU.call rfl rfl rfl rfl (cx_231 _ _ _ _) ?_; first | rw [if_pos (by assumption)] | rw [if_neg (by assumption)] | rw [if_pos (by decide)])
      | (refine sx_RU.call rfl rfl rfl rfl (cx_197 _ _ _ _) ?_; first | rw [if_pos (by assumption)] | rw [if_neg (by assumption)] | rw [if_pos (by decide)])
      | (refine sx_RU.call rfl rfl rfl rfl (cx_112 _ _ _ _) ?_; first | rw [if_pos (by assumption)] | rw [if_neg (by assumption)] | rw [if_pos (by decide)])
      | refine sx_RU.br rfl rfl (fun _ => ?_) (fun q => (of_decide_eq_false q (by assumption)).elim)
      | refine sx_RU.br rfl rfl (fun q => ((by assumption : ¬ _) (of_decide_eq_true q)).elim) (fun _ => ?_)
      | refine sx_RU.swo rfl (by assumption) rfl ?_)
  · repeat (first
      | refine sx_RU.step rfl rfl ?_
      | exact sx_RU.ret rfl rfl
      | refine sx_RU.call rfl rfl rfl rfl (cf_B _) ?_
      | refine sx_RU.call rfl rfl rfl rfl (cf_N _) ?_
      | refine sx_RU.call rfl rfl rfl rfl (cf_M _) ?_
      | refine sx_RU.call rfl rfl rfl rfl (cf_Z _) ?_
      | refine sx_RU.call rfl rfl rfl rfl (cn_B _) ?_
      | refine sx_RU.call rfl rfl rfl rfl (cn_N _) ?_
      | refine sx_RU.call rfl rfl rfl rfl (cn_M _) ?_
      | refine sx_RU.call rfl rfl rfl rfl (cn_Z _) ?_
      | (refine sx_RU.call rfl rfl rfl rfl (cx_7 _ _ _ _) ?_; first | rw [if_pos (by assumption)] | rw [if_neg (by assumption)] | rw [if_pos (by decide)])
      | (refine sx_RU.call rfl rfl rfl rfl (cx_8 _ _ _ _ _ _) ?_; first | rw [if_pos (by assumption)] | rw [if_neg (by assumption)] | rw [if_pos (by decide)])
      | (refine sx_RU.call rfl rfl rfl rfl (cx_22 _ _ _ _) ?_; first | rw [if_pos (by assumption)] | rw [if_neg (by assumption)] | rw [if_pos (by decide)])
      | (refine sx_RU.call rfl rfl rfl rfl (cx_23 _ _ _ _) ?_; first | rw [if_pos (by assumption)] | rw [if_neg (by assumption)] | rw [if_pos (by decide)])
      | (refine sx_RU.call rfl rfl rfl rfl (cx_131 _ _ _ _) ?_; first | rw [if_pos (by assumption)] | rw [if_neg (by assumption)] | rw [if_pos (by decide)])
      | (refine sx_RU.call rfl rfl rfl rfl (cx_132 _ _ _ _ _ _) ?_; first | rw [if_pos (by assumption)] | rw [if_neg (by assumption)] | rw [if_pos (by decide)])
      | (refine sx_RU.call rfl rfl rfl rfl (cx_151 _ _ _ _) ?_; first | rw [if_pos (by assumption)] | rw [if_neg (by assumption)] | rw [if_pos (by decide)])
      | (refine sx_RU.call rfl rfl rfl rfl (cx_152 _ _ _ _) ?_; first | rw [if_pos (by assumption)] | rw [if_neg (by assumption)] | rw [if_pos (by decide)])
      | (refine sx_RU.call rfl rfl rfl rfl (cx_231 _ _ _ _) ?_; first | rw [if_pos (by assumption)] | rw [if_neg (by assumption)] | rw [if_pos (by decide)])
      | (refine sx_RU.call rfl rfl rfl rfl (cx_197 _ _ _ _) ?_; first | rw [if_pos (by assumption)] | rw [if_neg (by assumption)] | rw [if_pos (by decide)])
      | (refine sx_RU.call rfl rfl rfl rfl (cx_112 _ _ _ _) ?_; first | rw [if_pos (by assumption)] | rw [if_neg (by assumption)] | rw [if_pos (by decide)])
      | refine sx_RU.br rfl rfl (fun _ => ?_) (fun q => (of_decide_eq_false q (by assumption)).elim)
      | refine sx_RU.br rfl rfl (fun q => ((by assumption : ¬ _) (of_decide_eq_true q)).elim) (fun _ => ?_)
      | refine sx_RU.swo rfl (by assumption) rfl ?_)
set_option maxRecDepth 20000 in
theorem k_copy_m23 (ys : List Int32) (a2 a4 a5 : Int32) : sx_twoI ys 118 234 [.int 2, .int a2, .int 3, .int a4, .int a5] := by
  refine ⟨(-1000000006), sx_vM, sx_vM2, _, rfl, ?_, ?_⟩
  · repeat (first
      | refine sx_RU.step rfl rfl ?_
      | exact sx_RU.ret rfl rfl
      | refine sx_RU.call rfl rfl rfl rfl (cf_B _) ?_
      | refine sx_RU.call rfl rfl rfl rfl (cf_N _) ?_
      | refine sx_RU.call rfl rfl rfl rfl (cf_M _) ?_
      | refine sx_RU.call rfl rfl rfl rfl (cf_Z _) ?_
      | refine sx_RU.call rfl rfl rfl rfl (cn_B _) ?_
      | refine sx_RU.call rfl rfl rfl rfl (cn_N _) ?_
      | refine sx_RU.call rfl rfl rfl rfl (cn_M _) ?_
      | refine sx_RU.call rfl rfl rfl rfl (cn_Z _) ?_
      | refine sx_RU.call rfl rfl rfl rfl (cg_113_2 _) ?_
      | (refine sx_RU.call rfl rfl rfl rfl (cx_7 _ _ _ _) ?_; first | rw [if_pos (by assumption)] | rw [if_neg (by assumption)] | rw [if_pos (by decide)])
      | (refine sx_RU.call rfl rfl rfl rfl (cx_8 _ _ _ _ _ _) ?_; first | rw [if_pos (by assumption)] | rw [if_neg (by assumption)] | rw [if_pos (by decide)])
      | (refine sx_RU.call rfl rfl rfl rfl (cx_22 _ _ _ _) ?_; first | rw [if_pos (by assumption)] | rw [if_neg (by assumption)] | rw [if_pos (by decide)])
      | (refine sx_RU.call rfl rfl rfl rfl (cx_23 _ _ _ _) ?_; first | rw [if_pos (by assumption)] | rw [if_neg (by assumption)] | rw [if_pos (by decide)])
      | (refine sx_RU.call rfl rfl rfl rfl (cx_131 _ _ _ _) ?_; first | rw [if_pos (by assumption)] | rw [if_neg (by assumption)] | rw [if_pos (by decide)])
      | (refine sx_RU.call rfl rfl rfl rfl (cx_132 _ _ _ _ _ _) ?_; first | rw [if_pos (by assumption)] | rw [if_neg (by assumption)] | rw [if_pos (by decide)])
      | (refine sx_RU.call rfl rfl rfl rfl (cx_151 _ _ _ _) ?_; first | rw [if_pos (by assumption)] | rw [if_neg (by assumption)] | rw [if_pos (by decide)])
      | (refine sx_RU.call rfl rfl rfl rfl (cx_152 _ _ _ _) ?_; first | rw [if_pos (by assumption)] | rw [if_neg (by assumption)] | rw [if_pos (by decide)])
      | (refine sx_RU.call rfl rfl rfl rfl (cx_231 _ _ _ _) ?_; first | rw [if_pos (by assumption)] | rw [if_neg (by assumption)] | rw [if_pos (by decide)])
      | (refine sx_RU.call rfl rfl rfl rfl (cx_197 _ _ _ _) ?_; first | rw [if_pos (by assumption)] | rw [if_neg (by assumption)] | rw [if_pos (by decide)])
      | (refine sx_RU.call rfl rfl rfl rfl (cx_112 _ _ _ _) ?_; first | rw [if_pos (by assumption)] | rw [if_neg (by assumption)] | rw [if_pos (by decide)])
      | refine sx_RU.br rfl rfl (fun _ => ?_) (fun q => (of_decide_eq_false q (by assumption)).elim)
      | refine sx_RU.br rfl rfl (fun q => ((by assumption : ¬ _) (of_decide_eq_true q)).elim) (fun _ => ?_)
      | refine sx_RU.swo rfl (by assumption) rfl ?_)
  · repeat (first
      | refine sx_RU.step rfl rfl ?_
      | exact sx_RU.ret rfl rfl
      | refine sx_RU.call rfl rfl rfl rfl (cf_B _) ?_
      | refine sx_RU.call rfl rfl rfl rfl (cf_N _) ?_
      | refine sx_RU.call rfl rfl rfl rfl (cf_M _) ?_
      | refine sx_RU.call rfl rfl rfl rfl (cf_Z _) ?_
      | refine sx_RU.call rfl rfl rfl rfl (cn_B _) ?_
      | refine sx_RU.call rfl rfl rfl rfl (cn_N _) ?_
      | refine sx_RU.call rfl rfl rfl rfl (cn_M _) ?_
      | refine sx_RU.call rfl rfl rfl rfl (cn_Z _) ?_
      | (refine sx_RU.call rfl rfl rfl rfl (cx_7 _ _ _ _) ?_; first | rw [if_pos (by assumption)] | rw [if_neg (by assumption)] | rw [if_pos (by decide)])
      | (refine sx_RU.call rfl rfl rfl rfl (cx_8 _ _ _ _ _ _) ?_; first | rw [if_pos (by assumption)] | rw [if_neg (by assumption)] | rw [if_pos (by decide)])
      | (refine sx_RU.call rfl rfl rfl rfl (cx_22 _ _ _ _) ?_; first | rw [if_pos (by assumption)] | rw [if_neg (by assumption)] | rw [if_pos (by decide)])
      | (refine sx_RU.call rfl rfl rfl rfl (cx_23 _ _ _ _) ?_; first | rw [if_pos (by assumption)] | rw [if_neg (by assumption)] | rw [if_pos (by decide)])
      | (refine sx_RU.call rfl rfl rfl rfl (cx_131 _ _ _ _) ?_; first | rw [if_pos (by assumption)] | rw [if_neg (by assumption)] | rw [if_pos (by decide)])
      | (refine sx_RU.call rfl rfl rfl rfl (cx_132 _ _ _ _ _ _) ?_; first | rw [if_pos (by assumption)] | rw [if_neg (by assumption)] | rw [if_pos (by decide)])
      | (refine sx_RU.call rfl rfl rfl rfl (cx_151 _ _ _ _) ?_; first | rw [if_pos (by assumption)] | rw [if_neg (by assumption)] | rw [if_pos (by decide)])
      | (refine sx_RU.call rfl rfl rfl rfl (cx_152 _ _ _ _) ?_; first | rw [if_pos (by assumption)] | rw [if_neg (by assumption)] | rw [if_pos (by decide)])
      | (refine sx_RU.call rfl rfl rfl rfl (cx_231 _ _ _ _) ?_; first | rw [if_pos (by assumption)] | rw [if_neg (by assumption)] | rw [if_pos (by decide)])
      | (refine sx_RU.call rfl rfl rfl rfl (cx_197 _ _ _ _) ?_; first | rw [if_pos (by assumption)] | rw [if_neg (by assumption)] | rw [if_pos (by decide)])
      | (refine sx_RU.call rfl rfl rfl rfl (cx_112 _ _ _ _) ?_; first | rw [if_pos (by assumption)] | rw [if_neg (by assumption)] | rw [if_pos (by decide)])
      | refine sx_RU.br rfl rfl (fun _ => ?_) (fun q => (of_decide_eq_false q (by assumption)).elim)
      | refine sx_RU.br rfl rfl (fun q => ((by assumption : ¬ _) (of_decide_eq_true q)).elim) (fun _ => ?_)
      | refine sx_RU.swo rfl (by assumption) rfl ?_)
set_option maxRecDepth 20000 in
theorem k_copy_m30 (ys : List Int32) (a2 a4 a5 : Int32) : sx_twoI ys 118 234 [.int 3, .int a2, .int 0, .int a4, .int a5] := by
  refine ⟨(-1000000006), sx_vM, sx_vM2, _, rfl, ?_, ?_⟩
  · repeat (first
      | refine sx_RU.step rfl rfl ?_
      | exact sx_RU.ret rfl rfl
      | refine sx_RU.call rfl rfl rfl rfl (cf_B _) ?_
      | refine sx_RU.call rfl rfl rfl rfl (cf_N _) ?_
      | refine sx_RU.call rfl rfl rfl rfl (cf_M _) ?_
      | refine sx_RU.call rfl rfl rfl rfl (cf_Z _) ?_
      | refine sx_RU.call rfl rfl rfl rfl (cn_B _) ?_
      | refine sx_RU.call rfl rfl rfl rfl (cn_N _) ?_
      | refine sx_RU.call rfl rfl rfl rfl (cn_M _) ?_
      | refine sx_RU.call rfl rfl rfl rfl (cn_Z _) ?_
      | refine sx_RU.call rfl rfl rfl rfl (cg_113_3 _) ?_
      | (refine sx_RU.call rfl rfl rfl rfl (cx_7 _ _ _ _) ?_; first | rw [if_pos (by assumption)] | rw [if_neg (by assumption)] | rw [if_pos (by decide)])
      | (refine sx_RU.call rfl rfl rfl rfl (cx_8 _ _ _ _ _ _) ?_; first | rw [if_pos (by assumption)] | rw [if_neg (by assumption)] | rw [if_pos (by decide)])
      | (refine sx_RU.call rfl rfl rfl rfl (cx_22 _ _ _ _) ?_; first | rw [if_pos (by assumption)] | rw [if_neg (by assumption)] | rw [if_pos (by decide)])
      | (refine sx_RU.call rfl rfl rfl rfl (cx_23 _ _ _ _) ?_; first | rw [if_pos (by assumption)] | rw [if_neg (by assumption)] | rw [if_pos (by decide)])
      | (refine sx_RU.call rfl rfl rfl rfl (cx_131 _ _ _ _) ?_; first | rw [if_pos (by assumption)] | rw [if_neg (by assumption)] | rw [if_pos (by decide)])
      | (refine sx_RU.call rfl rfl rfl rfl (cx_132 _ _ _ _ _ _) ?_; first | rw [if_pos (by assumption)] | rw [if_neg (by assumption)] | rw [if_pos (by decide)])
      | (refine sx_RU.call rfl rfl rfl rfl (cx_151 _ _ _ _) ?_; first | rw [if_pos (by assumption)] | rw [if_neg (by assumption)] | rw [if_pos (by decide)])
      | (refine sx_RU.call rfl rfl rfl rfl (cx_152 _ _ _ _) ?_; first | rw [if_pos (by assumption)] | rw [if_neg (by assumption)] | rw [if_pos (by decide)])
      | (refine sx_RU.call rfl rfl rfl rfl (cx_231 _ _ _ _) ?_; first | rw [if_pos (by assumption)] | rw [if_neg (by assumption)] | rw [if_pos (by decide)])
      | (refine sx_RU.call rfl rfl rfl rfl (cx_197 _ _ _ _) ?_; first | rw [if_pos (by assumption)] | rw [if_neg (by assumption)] | rw [if_pos (by decide)])
      | (refine sx_RU.call rfl rfl rfl rfl (cx_112 _ _ _ _) ?_; first | rw [if_pos (by assumption)] | rw [if_neg (by assumption)] | rw [if_pos (by decide)])
      | refine sx_RU.br rfl rfl (fun _ => ?_) (fun q => (of_decide_eq_false q (by assumption)).elim)
      | refine sx_RU.br rfl rfl (fun q => ((by assumption : ¬ _) (of_decide_eq_true q)).elim) (fun _ => ?_)
      | refine sx_RU.swo rfl (by assumption) rfl ?_)
  · repeat (first
      | refine sx_RU.step rfl rfl ?_
      | exact sx_RU.ret rfl rfl
      | refine sx_RU.call rfl rfl rfl rfl (cf_B _) ?_
      | refine sx_RU.call rfl rfl rfl rfl (cf_N _) ?_
      | refine sx_RU.call rfl rfl rfl rfl (cf_M _) ?_
      | refine sx_RU.call rfl rfl rfl rfl (cf_Z _) ?_
      | refine sx_RU.call rfl rfl rfl rfl (cn_B _) ?_
      | refine sx_RU.call rfl rfl rfl rfl (cn_N _) ?_
      | refine sx_RU.call rfl rfl rfl rfl (cn_M _) ?_
      | refine sx_RU.call rfl rfl rfl rfl (cn_Z _) ?_
      | (refine sx_RU.call rfl rfl rfl rfl (cx_7 _ _ _ _) ?_; first | rw [if_pos (by assumption)] | rw [if_neg (by assumption)] | rw [if_pos (by decide)])
      | (refine sx_RU.call rfl rfl rfl rfl (cx_8 _ _ _ _ _ _) ?_; first | rw [if_pos (by assumption)] | rw [if_neg (by assumption)] | rw [if_pos (by decide)])
      | (refine sx_RU.call rfl rfl rfl rfl (cx_22 _ _ _ _) ?_; first | rw [if_pos (by assumption)] | rw [if_neg (by assumption)] | rw [if_pos (by decide)])
      | (refine sx_RU.call rfl rfl rfl rfl (cx_23 _ _ _ _) ?_; first | rw [if_pos (by assumption)] | rw [if_neg (by assumption)] | rw [if_pos (by decide)])
      | (refine sx_RU.call rfl rfl rfl rfl (cx_131 _ _ _ _) ?_; first | rw [if_pos (by assumption)] | rw [if_neg (by assumption)] | rw [if_pos (by decide)])
      | (refine sx_RU.call rfl rfl rfl rfl (cx_132 _ _ _ _ _ _) ?_; first | rw [if_pos (by assumption)] | rw [if_neg (by assumption)] | rw [if_pos (by decide)])
      | (refine sx_RU.call rfl rfl rfl rfl (cx_151 _ _ _ _) ?_; first | rw [if_pos (by assumption)] | rw [if_neg (by assumption)] | rw [if_pos (by decide)])
      | (refine sx_RU.call rfl rfl rfl rfl (cx_152 _ _ _ _) ?_; first | rw [if_pos (by assumption)] | rw [if_neg (by assumption)] | rw [if_pos (by decide)])
      | (refine sx_RU.call rfl rfl rfl rfl (cx_231 _ _ _ _) ?_; first | rw [if_pos (by assumption)] | rw [if_neg (by assumption)] | rw [if_pos (by decide)])
      | (refine sx_RU.call rfl rfl rfl rfl (cx_197 _ _ _ _) ?_; first | rw [if_pos (by assumption)] | rw [if_neg (by assumption)] | rw [if_pos (by decide)])
      | (refine sx_RU.call rfl rfl rfl rfl (cx_112 _ _ _ _) ?_; first | rw [if_pos (by assumption)] | rw [if_neg (by assumption)] | rw [if_pos (by decide)])
      | refine sx_RU.br rfl rfl (fun _ => ?_) (fun q => (of_decide_eq_false q (by assumption)).elim)
      | refine sx_RU.br rfl rfl (fun q => ((by assumption : ¬ _) (of_decide_eq_true q)).elim) (fun _ => ?_)
      | refine sx_RU.swo rfl (by assumption) rfl ?_)
set_option maxRecDepth 20000 in
theorem k_copy_m31 (ys : List Int32) (a2 a4 a5 : Int32) : sx_twoI ys 118 234 [.int 3, .int a2, .int 1, .int a4, .int a5] := by
  refine ⟨(-1000000006), sx_vM, sx_vM2, _, rfl, ?_, ?_⟩
  · repeat (first
      | refine sx_RU.step rfl rfl ?_
      | exact sx_RU.ret rfl rfl
      | refine sx_RU.call rfl rfl rfl rfl (cf_B _) ?_
      | refine sx_RU.call rfl rfl rfl rfl (cf_N _) ?_
      | refine sx_RU.call rfl rfl rfl rfl (cf_M _) ?_
      | refine sx_RU.call rfl rfl rfl rfl (cf_Z _) ?_
      | refine sx_RU.call rfl rfl rfl rfl (cn_B _) ?_
      | refine sx_RU.call rfl rfl rfl rfl (cn_N _) ?_
      | refine sx_RU.call rfl rfl rfl rfl (cn_M _) ?_
      | refine sx_RU.call rfl rfl rfl rfl (cn_Z _) ?_
      | refine sx_RU.call rfl rfl rfl rfl (cg_113_3 _) ?_
      | (refine sx_RU.call rfl rfl rfl rfl (cx_7 _ _ _ _) ?_; first | rw [if_pos (by assumption)] | rw [if_neg (by assumption)] | rw [if_pos (by decide)])
      | (refine sx_RU.call rfl rfl rfl rfl (cx_8 _ _ _ _ _ _) ?_; first | rw [if_pos (by assumption)] | rw [if_neg (by assumption)] | rw [if_pos (by decide)])
      | (refine sx_RU.call rfl rfl rfl rfl (cx_22 _ _ _ _) ?_; first | rw [if_pos (by assumption)] | rw [if_neg (by assumption)] | rw [if_pos (by decide)])
      | (refine sx_RU.call rfl rfl rfl rfl (cx_23 _ _ _ _) ?_; first | rw [if_pos (by assumption)] | rw [if_neg (by assumption)] | rw [if_pos (by decide)])
      | (refine sx_RU.call rfl rfl rfl rfl (cx_131 _ _ _ _) ?_; first | rw [if_pos (by assumption)] | rw [if_neg (by assumption)] | rw [if_pos (by decide)])
      | (refine sx_RU.call rfl rfl rfl rfl (cx_132 _ _ _ _ _ _) ?_; first | rw [if_pos (by assumption)] | rw [if_neg (by assumption)] | rw [if_pos (by decide)])
      | (refine sx_RU.call rfl rfl rfl rfl (cx_151 _ _ _ _) ?_; first | rw [if_pos (by assumption)] | rw [if_neg (by assumption)] | rw [if_pos (by decide)])
      | (refine sx_RU.call rfl rfl rfl rfl (cx_152 _ _ _ _) ?_; first | rw [if_pos (by assumption)] | rw [if_neg (by assumption)] | rw [if_pos (by decide)])
      | (refine sx_RU.call rfl rfl rfl rfl (cx_231 _ _ _ _) ?_; first | rw [if_pos (by assumption)] | rw [if_neg (by assumption)] | rw [if_pos (by decide)])
      | (refine sx_RU.call rfl rfl rfl rfl (cx_197 _ _ _ _) ?_; first | rw [if_pos (by assumption)] | rw [if_neg (by assumption)] | rw [if_pos (by decide)])
      | (refine sx_RU.call rfl rfl rfl rfl (cx_112 _ _ _ _) ?_; first | rw [if_pos (by assumption)] | rw [if_neg (by assumption)] | rw [if_pos (by decide)])
      | refine sx_RU.br rfl rfl (fun _ => ?_) (fun q => (of_decide_eq_false q (by assumption)).elim)
      | refine sx_RU.br rfl rfl (fun q => ((by assumption : ¬ _) (of_decide_eq_true q)).elim) (fun _ => ?_)
      | refine sx_RU.swo rfl (by assumption) rfl ?_)
  · repeat (first
      | refine sx_RU.step rfl rfl ?_
      | exact sx_RU.ret rfl rfl
      | refine sx_RU.call rfl rfl rfl rfl (cf_B _) ?_
      | refine sx_RU.call rfl rfl rfl rfl (cf_N _) ?_
      | refine sx_RU.call rfl rfl rfl rfl (cf_M _) ?_
      | refine sx_RU.call rfl rfl rfl rfl (cf_Z _) ?_
      | refine sx_RU.call rfl rfl rfl rfl (cn_B _) ?_
      | refine sx_RU.call rfl rfl rfl rfl (cn_N _) ?_
      | refine sx_RU.call rfl rfl rfl rfl (cn_M _) ?_
      | refine sx_RU.call rfl rfl rfl rfl (cn_Z _) ?_
      | (refine sx_RU.call rfl rfl rfl rfl (cx_7 _ _ _ _) ?_; first | rw [if_pos (by assumption)] | rw [if_neg (by assumption)] | rw [if_pos (by decide)])
      | (refine sx_RU.call rfl rfl rfl rfl (cx_8 _ _ _ _ _ _) ?_; first | rw [if_pos (by assumption)] | rw [if_neg (by assumption)] | rw [if_pos (by decide)])
      | (refine sx_RU.call rfl rfl rfl rfl (cx_22 _ _ _ _) ?_; first | rw [if_pos (by assumption)] | rw [if_neg (by assumption)] | rw [if_pos (by decide)])
      | (refine sx_RU.call rfl rfl rfl rfl (cx_23 _ _ _ _) ?_; first | rw [if_pos (by assumption)] | rw [if_neg (by assumption)] | rw [if_pos (by decide)])
      | (refine sx_RU.call rfl rfl rfl rfl (cx_131 _ _ _ _) ?_; first | rw [if_pos (by assumption)] | rw [if_neg (by assumption)] | rw [if_pos (by decide)])
      | (refine sx_RU.call rfl rfl rfl rfl (cx_132 _ _ _ _ _ _) ?_; first | rw [if_pos (by assumption)] | rw [if_neg (by assumption)] | rw [if_pos (by decide)])
      | (refine sx_RU.call rfl rfl rfl rfl (cx_151 _ _ _ _) ?_; first | rw [if_pos (by assumption)] | rw [if_neg (by assumption)] | rw [if_pos (by decide)])
      | (refine sx_RU.call rfl rfl rfl rfl (cx_152 _ _ _ _) ?_; first | rw [if_pos (by assumption)] | rw [if_neg (by assumption)] | rw [if_pos (by decide)])
      | (refine sx_RU.call rfl rfl rfl rfl (cx_231 _ _ _ _) ?_; first | rw [if_pos (by assumption)] | rw [if_neg (by assumption)] | rw [if_pos (by decide)])
      | (refine sx_RU.call rfl rfl rfl rfl (cx_197 _ _ _ _) ?_; first | rw [if_pos (by assumption)] | rw [if_neg (by assumption)] | rw [if_pos (by decide)])
      | (refine sx_RU.call rfl rfl rfl rfl (cx_112 _ _ _ _) ?_; first | rw [if_pos (by assumption)] | rw [if_neg (by assumption)] | rw [if_pos (by decide)])
      | refine sx_RU.br rfl rfl (fun _ => ?_) (fun q => (of_decide_eq_false q (by assumption)).elim)
      | refine sx_RU.br rfl rfl (fun q => ((by assumption : ¬ _) (of_decide_eq_true q)).elim) (fun _ => ?_)
      | refine sx_RU.swo rfl (by assumption) rfl ?_)
set_option maxRecDepth 20000 in
theorem k_copy_m32 (ys : List Int32) (a2 a4 a5 : Int32) : sx_twoI ys 118 234 [.int 3, .int a2, .int 2, .int a4, .int a5] := by
  refine ⟨(-1000000006), sx_vM, sx_vM2, _, rfl, ?_, ?_⟩
  · repeat (first
      | refine sx_RU.step rfl rfl ?_
      | exact sx_RU.ret rfl rfl
      | refine sx_RU.call rfl rfl rfl rfl (cf_B _) ?_
      | refine sx_RU.call rfl rfl rfl rfl (cf_N _) ?_
      | refine sx_RU.call rfl rfl rfl rfl (cf_M _) ?_
      | refine sx_RU.call rfl rfl rfl rfl (cf_Z _) ?_
      | refine sx_RU.call rfl rfl rfl rfl (cn_B _) ?_
      | refine sx_RU.call rfl rfl rfl rfl (cn_N _) ?_
      | refine sx_RU.call rfl rfl rfl rfl (cn_M _) ?_
      | refine sx_RU.call rfl rfl rfl rfl (cn_Z _) ?_
      | refine sx_RU.call rfl rfl rfl rfl (cg_113_3 _) ?_
      | (refine sx_RU.call rfl rfl rfl rfl (cx_7 _ _ _ _) ?_; first | rw [if_pos (by assumption)] | rw [if_neg (by assumption)] | rw [if_pos (by decide)])
      | (refine sx_RU.call rfl rfl rfl rfl (cx_8 _ _ _ _ _ _) ?_; first | rw [if_pos (by assumption)] | rw [if_neg (by assumption)] | rw [if_pos (by decide)])
      | (refine sx_RU.call rfl rfl rfl rfl (cx_22 _ _ _ _) ?_; first | rw [if_pos (by assumption)] | rw [if_neg (by assumption)] | rw [if_pos (by decide)])
      | (refine sx_RU.call rfl rfl rfl rfl (cx_23 _ _ _ _) ?_; first | rw [if_pos (by assumption)] | rw [if_neg (by assumption)] | rw [if_pos (by decide)])
      | (refine sx_RU.call rfl rfl rfl rfl (cx_131 _ _ _ _) ?_; first | rw [if_pos (by assumption)] | rw [if_neg (by assumption)] | rw [if_pos (by decide)])
      | (refine sx_RU.call rfl rfl rfl rfl (cx_132 _ _ _ _ _ _) ?_; first | rw [if_pos (by assumption)] | rw [if_neg (by assumption)] | rw [if_pos (by decide)])
      | (refine sx_RU.call rfl rfl rfl rfl (cx_151 _ _ _ _) ?_; first | rw [if_pos (by assumption)] | rw [if_neg (by assumption)] | rw [if_pos (by decide)])
      | (refine sx_RU.call rfl rfl rfl rfl (cx_152 _ _ _ _) ?_; first | rw [if_pos (by assumption)] | rw [if_neg (by assumption)] | rw [if_pos (by decide)])
      | (refine sx_RU.call rfl rfl rfl rfl (cx_231 _ _ _ _) ?_; first | rw [if_pos (by assumption)] | rw [if_neg (by assumption)] | rw [if_pos (by decide)])
      | (refine sx_RU.call rfl rfl rfl rfl (cx_197 _ _ _ _) ?_; first | rw [if_pos (by assumption)] | rw [if_neg (by assumption)] | rw [if_pos (by decide)])
      | (refine sx_RU.call rfl rfl rfl rfl (cx_112 _ _ _ _) ?_; first | rw [if_pos (by assumption)] | rw [if_neg (by assumption)] | rw [if_pos (by decide)])
      | refine sx_RU.br rfl rfl (fun _ => ?_) (fun q => (of_decide_eq_false q (by assumption)).elim)
      | refine sx_RU.br rfl rfl (fun q => ((by assumption : ¬ _) (of_decide_eq_true q)).elim) (fun _ => ?_)
      | refine sx_RU.swo rfl (by assumption) rfl ?_)
  · repeat (first
      | refine sx_RU.step rfl rfl ?_
      | exact sx_RU.ret rfl rfl
      | refine sx_RU.call rfl rfl rfl rfl (cf_B _) ?_
      | refine sx_RU.call rfl rfl rfl rfl (cf_N _) ?_
      | refine sx_RU.call rfl rfl rfl rfl (cf_M _) ?_
      | refine sx_RU.call rfl rfl rfl rfl (cf_Z _) ?_
      | refine sx_RU.call rfl rfl rfl rfl (cn_B _) ?_
      | refine sx_RU.call rfl rfl rfl rfl (cn_N _) ?_
      | refine sx_RU.call rfl rfl rfl rfl (cn_M _) ?_
      | refine sx_RU.call rfl rfl rfl rfl (cn_Z _) ?_
      | (refine sx_RU.call rfl rfl rfl rfl (cx_7 _ _ _ _) ?_; first | rw [if_pos (by assumption)] | rw [if_neg (by assumption)] | rw [if_pos (by decide)])
      | (refine sx_RU.call rfl rfl rfl rfl (cx_8 _ _ _ _ _ _) ?_; first | rw [if_pos (by assumption)] | rw [if_neg (by assumption)] | rw [if_pos (by decide)])
      | (refine sx_RU.call rfl rfl rfl rfl (cx_22 _ _ _ _) ?_; first | rw [if_pos (by assumption)] | rw [if_neg (by assumption)] | rw [if_pos (by decide)])
      | (refine sx_RU.call rfl rfl rfl rfl (cx_23 _ _ _ _) ?_; first | rw [if_pos (by assumption)] | rw [if_neg (by assumption)] | rw [if_pos (by decide)])
      | (refine sx_RU.call rfl rfl rfl rfl (cx_131 _ _ _ _) ?_; first | rw [if_pos (by assumption)] | rw [if_neg (by assumption)] | rw [if_pos (by decide)])
      | (refine sx_RU.call rfl rfl rfl rfl (cx_132 _ _ _ _ _ _) ?_; first | rw [if_pos (by assumption)] | rw [if_neg (by assumption)] | rw [if_pos (by decide)])
      | (refine sx_RU.call rfl rfl rfl rfl (cx_151 _ _ _ _) ?_; first | rw [if_pos (by assumption)] | rw [if_neg (by assumption)] | rw [if_pos (by decide)])
      | (refine sx_RU.call rfl rfl rfl rfl (cx_152 _ _ _ _) ?_; first | rw [if_pos (by assumption)] | rw [if_neg (by assumption)] | rw [if_pos (by decide)])
      | (refine sx_RU.call rfl rfl rfl rfl (cx_231 _ _ _ _) ?_; first | rw [if_pos (by assumption)] | rw [if_neg (by assumption)] | rw [if_pos (by decide)])
      | (refine sx_RU.call rfl rfl rfl rfl (cx_197 _ _ _ _) ?_; first | rw [if_pos (by assumption)] | rw [if_neg (by assumption)] | rw [if_pos (by decide)])
      | (refine sx_RU.call rfl rfl rfl rfl (cx_112 _ _ _ _) ?_; first | rw [if_pos (by assumption)] | rw [if_neg (by assumption)] | rw [if_pos (by decide)])
      | refine sx_RU.br rfl rfl (fun _ => ?_) (fun q => (of_decide_eq_false q (by assumption)).elim)
      | refine sx_RU.br rfl rfl (fun q => ((by assumption : ¬ _) (of_decide_eq_true q)).elim) (fun _ => ?_)
      | refine sx_RU.swo rfl (by assumption) rfl ?_)
set_option maxRecDepth 20000 in
theorem k_copy_m33 (ys : List Int32) (a2 a4 a5 : Int32) : sx_twoI ys 118 234 [.int 3, .int a2, .int 3, .int a4, .int a5] := by
  refine ⟨(-1000000006), sx_vM, sx_vM2, _, rfl, ?_, ?_⟩
  · repeat (first
      | refine sx_RU.step rfl rfl ?_
      | exact sx_RU.ret rfl rfl
      | refine sx_RU.call rfl rfl rfl rfl (cf_B _) ?_
      | refine sx_RU.call rfl rfl rfl rfl (cf_N _) ?_
      | refine sx_RU.call rfl rfl rfl rfl (cf_M _) ?_
      | refine sx_RU.call rfl rfl rfl rfl (cf_Z _) ?_
      | refine sx_RU.call rfl rfl rfl rfl (cn_B _) ?_
      | refine sx_RU.call rfl rfl rfl rfl (cn_N _) ?_
      | refine sx_RU.call rfl rfl rfl rfl (cn_M _) ?_
      | refine sx_RU.call rfl rfl rfl rfl (cn_Z _) ?_
      | refine sx_RU.call rfl rfl rfl rfl (cg_113_3 _) ?_
      | (refine sx_RU.call rfl rfl rfl rfl (cx_7 _ _ _ _) ?_; first | rw [if_pos (by assumption)] | rw [if_neg (by assumption)] | rw [if_pos (by decide)])
      | (refine sx_RU.call rfl rfl rfl rfl (cx_8 _ _ _ _ _ _) ?_; first | rw [if_pos (by assumption)] | rw [if_neg (by assumption)] | rw [if_pos (by decide)])
      | (refine sx_RU.call rfl rfl rfl rfl (cx_22 _ _ _ _) ?_; first | rw [if_pos (by assumption)] | rw [if_neg (by assumption)] | rw [if_pos (by decide)])
      | (refine sx_RU.call rfl rfl rfl rfl (cx_23 _ _ _ _) ?_; first | rw [if_pos (by assumption)] | rw [if_neg (by assumption)] | rw [if_pos (by decide)])
      | (refine sx_RU.call rfl rfl rfl rfl (cx_131 _ _ _ _) ?_; first | rw [if_pos (by assumption)] | rw [if_neg (by assumption)] | rw [if_pos (by decide)])
      | (refine sx_RU.call rfl rfl rfl rfl (cx_132 _ _ _ _ _ _) ?_; first | rw [if_pos (by assumption)] | rw [if_neg (by assumption)] | rw [if_pos (by decide)])
      | (refine sx_RU.call rfl rfl rfl rfl (cx_151 _ _ _ _) ?_; first | rw [if_pos (by assumption)] | rw [if_neg (by assumption)] | rw [if_pos (by decide)])
      | (refine sx_RU.call rfl rfl rfl rfl (cx_152 _ _ _ _) ?_; first | rw [if_pos (by assumption)] | rw [if_neg (by assumption)] | rw [if_pos (by decide)])
      | (refine sx_RU.call rfl rfl rfl rfl (cx_231 _ _ _ _) ?_; first | rw [if_pos (by assumption)] | rw [if_neg (by assumption)] | rw [if_pos (by decide)])
      | (refine sx_RU.call rfl rfl rfl rfl (cx_197 _ _ _ _) ?_; first | rw [if_pos (by assumption)] | rw [if_neg (by assumption)] | rw [if_pos (by decide)])
      | (refine sx_RU.call rfl rfl rfl rfl (cx_112 _ _ _ _) ?_; first | rw [if_pos (by assumption)] | rw [if_neg (by assumption)] | rw [if_pos (by decide)])
      | refine sx_RU.br rfl rfl (fun _ => ?_) (fun q => (of_decide_eq_false q (by assumption)).elim)
      | refine sx_RU.br rfl rfl (fun q => ((by assumption : ¬ _) (of_decide_eq_true q)).elim) (fun _ => ?_)
      | refine sx_RU.swo rfl (by assumption) rfl ?_)
  · repeat (first
      | refine sx_RU.step rfl rfl ?_
      | exact sx_RU.ret rfl rfl
      | refine sx_RU.call rfl rfl rfl rfl (cf_B _) ?_
      | refine sx_RU.call rfl rfl rfl rfl (cf_N _) ?_
      | refine sx_RU.call rfl rfl rfl rfl (cf_M _) ?_
      | refine sx_RU.call rfl rfl rfl rfl (cf_Z _) ?_
      | refine sx_RU.call rfl rfl rfl rfl (cn_B _) ?_
      | refine sx_RU.call rfl rfl rfl rfl (cn_N _) ?_
      | refine sx_RU.call rfl rfl rfl rfl (cn_M _) ?_
      | refine sx_RU.call rfl rfl rfl rfl (cn_Z _) ?_
      | (refine sx_RU.call rfl rfl rfl rfl (cx_7 _ _ _ _) ?_; first | rw [if_pos (by assumption)] | rw [if_neg (by assumption)] | rw [if_pos (by decide)])
      | (refine sx_RU.call rfl rfl rfl rfl (cx_8 _ _ _ _ _ _) ?_; first | rw [if_pos (by assumption)] | rw [if_neg (by assumption)] | rw [if_pos (by decide)])
      | (refine sx_RU.call rfl rfl rfl rfl (cx_22 _ _ _ _) ?_; first | rw [if_pos (by assumption)] | rw [if_neg (by assumption)] | rw [if_pos (by decide)])
      | (refine sx_RU.call rfl rfl rfl rfl (cx_23 _ _ _ _) ?_; first | rw [if_pos (by assumption)] | rw [if_neg (by assumption)] | rw [if_pos (by decide)])
      | (refine sx_RU.call rfl rfl rfl rfl (cx_131 _ _ _ _) ?_; first | rw [if_pos (by assumption)] | rw [if_neg (by assumption)] | rw [if_pos (by decide)])
      | (refine sx_RU.call rfl rfl rfl rfl (cx_132 _ _ _ _ _ _) ?_; first | rw [if_pos (by assumption)] | rw [if_neg (by assumption)] | rw [if_pos (by decide)])
      | (refine sx_RU.call rfl rfl rfl rfl (cx_151 _ _ _ _) ?_; first | rw [if_pos (by assumption)] | rw [if_neg (by assumption)] | rw [if_pos (by decide)])
      | (refine sx_RU.call rfl rfl rfl rfl (cx_152 _ _ _ _) ?_; first | rw [if_pos (by assumption)] | rw [if_neg (by assumption)] | rw [if_pos (by decide)])
      | (refine sx_RU.call rfl rfl rfl rfl (cx_231 _ _ _ _) ?_; first | rw [if_pos (by assumption)] | rw [if_neg (by assumption)] | rw [if_pos (by decide)])
      | (refine sx_RU.call rfl rfl rfl rfl (cx_197 _ _ _ _) ?_; first | rw [if_pos (by assumption)] | rw [if_neg (by assumption)] | rw [if_pos (by decide)])
      | (refine sx_RU.call rfl rfl rfl rfl (cx_112 _ _ _ _) ?_; first | rw [if_pos (by assumption)] | rw [if_neg (by assumption)] | rw [if_pos (by decide)])
      | refine sx_RU.br rfl rfl (fun _ => ?_) (fun q => (of_decide_eq_false q (by assumption)).elim)
      | refine sx_RU.br rfl rfl (fun q => ((by assumption : ¬ _) (of_decide_eq_true q)).elim) (fun _ => ?_)
      | refine sx_RU.swo rfl (by assumption) rfl ?_)
set_option maxRecDepth 20000 in
theorem k_wall_o0 (ys : List Int32) (a1 : Int32) (n0 : ¬ (0 ≤ a1 ∧ a1 ≤ 47)) : sx_twoI ys 10 134 [.int a1, .int 0] := by
  refine ⟨(-1000000001), sx_vB, sx_vB2, _, rfl, ?_, ?_⟩
  · repeat (first
      | refine sx_RU.step rfl rfl ?_
      | exact sx_RU.ret rfl rfl
      | refine sx_RU.call rfl rfl rfl rfl (cf_B _) ?_
      | refine sx_RU.call rfl rfl rfl rfl (cf_N _) ?_
      | refine sx_RU.call rfl rfl rfl rfl (cf_M _) ?_
      | refine sx_RU.call rfl rfl rfl rfl (cf_Z _) ?_
      | refine sx_RU.call rfl rfl rfl rfl (cn_B _) ?_
      | refine sx_RU.call rfl rfl rfl rfl (cn_N _) ?_
      | refine sx_RU.call rfl rfl rfl rfl (cn_M _) ?_
      | refine sx_RU.call rfl rfl rfl rfl (cn_Z _) ?_
      | (refine sx_RU.call rfl rfl rfl rfl (cx_7 _ _ _ _) ?_; first | rw [if_pos (by assumption)] | rw [if_neg (by assumption)] | rw [if_pos (by decide)])
      | (refine sx_RU.call rfl rfl rfl rfl (cx_8 _ _ _ _ _ _) ?_; first | rw [if_pos (by assumption)] | rw [if_neg (by assumption)] | rw [if_pos (by decide)])
      | (refine sx_RU.call rfl rfl rfl rfl (cx_22 _ _ _ _) ?_; first | rw [if_pos (by assumption)] | rw [if_neg (by assumption)] | rw [if_pos (by decide)])
      | (refine sx_RU.call rfl rfl rfl rfl (cx_23 _ _ _ _) ?_; first | rw [if_pos (by assumption)] | rw [if_neg (by assumption)] | rw [if_pos (by decide)])
      | (refine sx_RU.call rfl rfl rfl rfl (cx_131 _ _ _ _) ?_; first | rw [if_pos (by assumption)] | rw [if_neg (by assumption)] | rw [if_pos (by decide)])
      | (refine sx_RU.call rfl rfl rfl rfl (cx_132 _ _ _ _ _ _) ?_; first | rw [if_pos (by assumption)] | rw [if_neg (by assumption)] | rw [if_pos (by decide)])
      | (refine sx_RU.call rfl rfl rfl rfl (cx_151 _ _ _ _) ?_; first | rw [if_pos (by assumption)] | rw [if_neg (by assumption)] | rw [if_pos (by decide)])
      | (refine sx_RU.call rfl rfl rfl rfl (cx_152 _ _ _ _) ?_; first | rw [if_pos (by assumption)] | rw [if_neg (by assumption)] | rw [if_pos (by decide)])
      | (refine sx_RU.call rfl rfl rfl rfl (cx_231 _ _ _ _) ?_; first | rw [if_pos (by assumption)] | rw [if_neg (by assumption)] | rw [if_pos (by decide)])
      | (refine sx_RU.call rfl rfl rfl rfl (cx_197 _ _ _ _) ?_; first | rw [if_pos (by assumption)] | rw [if_neg (by assumption)] | rw [if_pos (by decide)])
      | (refine sx_RU.call rfl rfl rfl rfl (cx_112 _ _ _ _) ?_; first | rw [if_pos (by assumption)] | rw [if_neg (by assumption)] | rw [if_pos (by decide)])
      | refine sx_RU.br rfl rfl (fun _ => ?_) (fun q => (of_decide_eq_false q (by assumption)).elim)
      | refine sx_RU.br rfl rfl (fun q => ((by assumption : ¬ _) (of_decide_eq_true q)).elim) (fun _ => ?_)
      | refine sx_RU.swo rfl (by assumption) rfl ?_)
  · repeat (first
      | refine sx_RU.step rfl rfl ?_
      | exact sx_RU.ret rfl rfl
      | refine sx_RU.call rfl rfl rfl rfl (cf_B _) ?_
      | refine sx_RU.call rfl rfl rfl rfl (cf_N _) ?_
      | refine sx_RU.call rfl rfl rfl rfl (cf_M _) ?_
      | refine sx_RU.call rfl rfl rfl rfl (cf_Z _) ?_
      | refine sx_RU.call rfl rfl rfl rfl (cn_B _) ?_
      | refine sx_RU.call rfl rfl rfl rfl (cn_N _) ?_
      | refine sx_RU.call rfl rfl rfl rfl (cn_M _) ?_
      | refine sx_RU.call rfl rfl rfl rfl (cn_Z _) ?_
      | (refine sx_RU.call rfl rfl rfl rfl (cx_7 _ _ _ _) ?_; first | rw [if_pos (by assumption)] | rw [if_neg (by assumption)] | rw [if_pos (by decide)])
      | (refine sx_RU.call rfl rfl rfl rfl (cx_8 _ _ _ _ _ _) ?_; first | rw [if_pos (by assumption)] | rw [if_neg (by assumption)] | rw [if_pos (by decide)])
      | (refine sx_RU.call rfl rfl rfl rfl (cx_22 _ _ _ _) ?_; first | rw [if_pos (by assumption)] | rw [if_neg (by assumption)] | rw [if_pos (by decide)])
      | (refine sx_RU.call rfl rfl rfl rfl (cx_23 _ _ _ _) ?_; first | rw [if_pos (by assumption)] | rw [if_neg (by assumption)] | rw [if_pos (by decide)])
      | (refine sx_RU.call rfl rfl rfl rfl (cx_131 _ _ _ _) ?_; first | rw [if_pos (by assumption)] | rw [if_neg (by assumption)] | rw [if_pos (by decide)])
      | (refine sx_RU.call rfl rfl rfl rfl (cx_132 _ _ _ _ _ _) ?_; first | rw [if_pos (by assumption)] | rw [if_neg (by assumption)] | rw [if_pos (by decide)])
      | (refine sx_RU.call rfl rfl rfl rfl (cx_151 _ _ _ _) ?_; first | rw [if_pos (by assumption)] | rw [if_neg (by assumption)] | rw [if_pos (by decide)])
      | (refine sx_RU.call rfl rfl rfl rfl (cx_152 _ _ _ _) ?_; first | rw [if_pos (by assumption)] | rw [if_neg (by assumption)] | rw [if_pos (by decide)])
      | (refine sx_RU.call rfl rfl rfl rfl (cx_231 _ _ _ _) ?_; first | rw [if_pos (by assumption)] | rw [if_neg (by assumption)] | rw [if_pos (by decide)])
      | (refine sx_RU.call rfl rfl rfl rfl (cx_197 _ _ _ _) ?_; first | rw [if_pos (by assumption)] | rw [if_neg (by assumption)] | rw [if_pos (by decide)])
      | (refine sx_RU.call rfl rfl rfl rfl (cx_112 _ _ _ _) ?_; first | rw [if_pos (by assumption)] | rw [if_neg (by assumption)] | rw [if_pos (by decide)])
      | refine sx_RU.br rfl rfl (fun _ => ?_) (fun q => (of_decide_eq_false q (by assumption)).elim)
      | refine sx_RU.br rfl rfl (fun q => ((by assumption : ¬ _) (of_decide_eq_true q)).elim) (fun _ => ?_)
      | refine sx_RU.swo rfl (by assumption) rfl ?_)
set_option maxRecDepth 20000 in
theorem k_wall_o1 (ys : List Int32) (a1 : Int32) (n0 : ¬ (0 ≤ a1 ∧ a1 ≤ 47)) : sx_twoI ys 10 134 [.int a1, .int 1] := by
  refine ⟨(-1000000001), sx_vB, sx_vB2, _, rfl, ?_, ?_⟩
  · repeat (first
      | refine sx_RU.step rfl rfl ?_
      | exact sx_RU.ret rfl rfl
      | refine sx_RU.call rfl rfl rfl rfl (cf_B _) ?_
      | refine sx_RU.call rfl rfl rfl rfl (cf_N _) ?_
      | refine sx_RU.call rfl rfl rfl rfl (cf_M _) ?_
      | refine sx_RU.call rfl rfl rfl rfl (cf_Z _) ?_
      | refine sx_RU.call rfl rfl rfl rfl (cn_B _) ?_
      | refine sx_RU.call rfl rfl rfl rfl (cn_N _) ?_
      | refine sx_RU.call rfl rfl rfl rfl (cn_M _) ?_
      | refine sx_RU.call rfl rfl rfl rfl (cn_Z _) ?_
      | (refine sx_RU.call rfl rfl rfl rfl (cx_7 _ _ _ _) ?_; first | rw [if_pos (by assumption)] | rw [if_neg (by assumption)] | rw [if_pos (by decide)])
      | (refine sx_RU.call rfl rfl rfl rfl (cx_8 _ _ _ _ _ _) ?_; first | rw [if_pos (by assumption)] | rw [if_neg (by assumption)] | rw [if_pos (by decide)])
      | (refine sx_RU.call rfl rfl rfl rfl (cx_22 _ _ _ _) ?_; first | rw [if_pos (by assumption)] | rw [if_neg (by assumption)] | rw [if_pos (by decide)])
      | (refine sx_RU.call rfl rfl rfl rfl (cx_23 _ _ _ _) ?_; first | rw [if_pos (by assumption)] | rw [if_neg (by assumption)] | rw [if_pos (by decide)])
      | (refine sx_RU.call rfl rfl rfl rfl (cx_131 _ _ _ _) ?_; first | rw [if_pos (by assumption)] | rw [if_neg (by assumption)] | rw [if_pos (by decide)])
      | (refine sx_RU.call rfl rfl rfl rfl (cx_132 _ _ _ _ _ _) ?_; first | rw [if_pos (by assumption)] | rw [if_neg (by assumption)] | rw [if_pos (by decide)])
      | (refine sx_RU.call rfl rfl rfl rfl (cx_151 _ _ _ _) ?_; first | rw [if_pos (by assumption)] | rw [if_neg (by assumption)] | rw [if_pos (by decide)])
      | (refine sx_RU.call rfl rfl rfl rfl (cx_152 _ _ _ _) ?_; first | rw [if_pos (by assumption)] | rw [if_neg (by assumption)] | rw [if_pos (by decide)])
      | (refine sx_RU.call rfl rfl rfl rfl (cx_231 _ _ _ _) ?_; first | rw [if_pos (by assumption)] | rw [if_neg (by assumption)] | rw [if_pos (by decide)])
      | (refine sx_RU.call rfl rfl rfl rfl (cx_197 _ _ _ _) ?_; first | rw [if_pos (by assumption)] | rw [if_neg (by assumption)] | rw [if_pos (by decide)])
      | (refine sx_RU.call rfl rfl rfl rfl (cx_112 _ _ _ _) ?_; first | rw [if_pos (by assumption)] | rw [if_neg (by assumption)] | rw [if_pos (by decide)])
      | refine sx_RU.br rfl rfl (fun _ => ?_) (fun q => (of_decide_eq_false q (by assumption)).elim)
      | refine sx_RU.br rfl rfl (fun q => ((by assumption : ¬ _) (of_decide_eq_true q)).elim) (fun _ => ?_)
      | refine sx_RU.swo rfl (by assumption) rfl ?_)
  · repeat (first
      | refine sx_RU.step rfl rfl ?_
      | exact sx_RU.ret rfl rfl
      | refine sx_RU.call rfl rfl rfl rfl (cf_B _) ?_
      | refine sx_RU.call rfl rfl rfl rfl (cf_N _) ?_
      | refine sx_RU.call rfl rfl rfl rfl (cf_M _) ?_
      | refine sx_RU.call rfl rfl rfl rfl (cf_Z _) ?_
      | refine sx_RU.call rfl rfl rfl rfl (cn_B _) ?_
      | refine sx_RU.call rfl rfl rfl rfl (cn_N _) ?_
      | refine sx_RU.call rfl rfl rfl rfl (cn_M _) ?_
      | refine sx_RU.call rfl rfl rfl rfl (cn_Z _) ?_
      | (refine sx_RU.call rfl rfl rfl rfl (cx_7 _ _ _ _) ?_; first | rw [if_pos (by assumption)] | rw [if_neg (by assumption)] | rw [if_pos (by decide)])
      | (refine sx_RU.call rfl rfl rfl rfl (cx_8 _ _ _ _ _ _) ?_; first | rw [if_pos (by assumption)] | rw [if_neg (by assumption)] | rw [if_pos (by decide)])
      | (refine sx_RU.call rfl rfl rfl rfl (cx_22 _ _ _ _) ?_; first | rw [if_pos (by assumption)] | rw [if_neg (by assumption)] | rw [if_pos (by decide)])
      | (refine sx_RU.call rfl rfl rfl rfl (cx_23 _ _ _ _) ?_; first | rw [if_pos (by assumption)] | rw [if_neg (by assumption)] | rw [if_pos (by decide)])
      | (refine sx_RU.call rfl rfl rfl rfl (cx_131 _ _ _ _) ?_; first | rw [if_pos (by assumption)] | rw [if_neg (by assumption)] | rw [if_pos (by decide)])
      | (refine sx_RU.call rfl rfl rfl rfl (cx_132 _ _ _ _ _ _) ?_; first | rw [if_pos (by assumption)] | rw [if_neg (by assumption)] | rw [if_pos (by decide)])
      | (refine sx_RU.call rfl rfl rfl rfl (cx_151 _ _ _ _) ?_; first | rw [if_pos (by assumption)] | rw [if_neg (by assumption)] | rw [if_pos (by decide)])
      | (refine sx_RU.call rfl rfl rfl rfl (cx_152 _ _ _ _) ?_; first | rw [if_pos (by assumption)] | rw [if_neg (by assumption)] | rw [if_pos (by decide)])
      | (refine sx_RU.call rfl rfl rfl rfl (cx_231 _ _ _ _) ?_; first | rw [if_pos (by assumption)] | rw [if_neg (by assumption)] | rw [if_pos (by decide)])
      | (refine sx_RU.call rfl rfl rfl rfl (cx_197 _ _ _ _) ?_; first | rw [if_pos (by assumption)] | rw [if_neg (by assumption)] | rw [if_pos (by decide)])
      | (refine sx_RU.call rfl rfl rfl rfl (cx_112 _ _ _ _) ?_; first | rw [if_pos (by assumption)] | rw [if_neg (by assumption)] | rw [if_pos (by decide)])
      | refine sx_RU.br rfl rfl (fun _ => ?_) (fun q => (of_decide_eq_false q (by assumption)).elim)
      | refine sx_RU.br rfl rfl (fun q => ((by assumption : ¬ _) (of_decide_eq_true q)).elim) (fun _ => ?_)
      | refine sx_RU.swo rfl (by assumption) rfl ?_)
set_option maxRecDepth 20000 in
theorem k_cellOf_s (ys : List Int32) (a1 a2 : Int32) (p0 : (0 ≤ a1 ∧ a1 ≤ 47)) (hs : a2.toInt < 0 ∨ 2 < a2.toInt) (n1 : ¬ (0 ≤ a2 ∧ a2 ≤ 2)) : sx_twoI ys 12 135 [.int a1, .int a2] := by
  refine ⟨(-1000000001), sx_vB, sx_vB2, _, rfl, ?_, ?_⟩
  · repeat (first
      | refine sx_RU.step rfl rfl ?_
      | exact sx_RU.ret rfl rfl
      | refine sx_RU.call rfl rfl rfl rfl (cf_B _) ?_
      | refine sx_RU.call rfl rfl rfl rfl (cf_N _) ?_
      | refine sx_RU.call rfl rfl rfl rfl (cf_M _) ?_
      | refine sx_RU.call rfl rfl rfl rfl (cf_Z _) ?_
      | refine sx_RU.call rfl rfl rfl rfl (cn_B _) ?_
      | refine sx_RU.call rfl rfl rfl rfl (cn_N _) ?_
      | refine sx_RU.call rfl rfl rfl rfl (cn_M _) ?_
      | refine sx_RU.call rfl rfl rfl rfl (cn_Z _) ?_
      | refine sx_RU.call rfl rfl rfl rfl (cg_27 _ _) ?_
      | refine sx_RU.call rfl rfl rfl rfl (cg_66 _ _) ?_
      | refine sx_RU.call rfl rfl rfl rfl (cg_156 _ _) ?_
      | refine sx_RU.call rfl rfl rfl rfl (cg_186 _ _) ?_
      | (refine sx_RU.call rfl rfl rfl rfl (cx_7 _ _ _ _) ?_; first | rw [if_pos (by assumption)] | rw [if_neg (by assumption)] | rw [if_pos (by decide)])
      | (refine sx_RU.call rfl rfl rfl rfl (cx_8 _ _ _ _ _ _) ?_; first | rw [if_pos (by assumption)] | rw [if_neg (by assumption)] | rw [if_pos (by decide)])
      | (refine sx_RU.call rfl rfl rfl rfl (cx_22 _ _ _ _) ?_; first | rw [if_pos (by assumption)] | rw [if_neg (by assumption)] | rw [if_pos (by decide)])
      | (refine sx_RU.call rfl rfl rfl rfl (cx_23 _ _ _ _) ?_; first | rw [if_pos (by assumption)] | rw [if_neg (by assumption)] | rw [if_pos (by decide)])
      | (refine sx_RU.call rfl rfl rfl rfl (cx_131 _ _ _ _) ?_; first | rw [if_pos (by assumption)] | rw [if_neg (by assumption)] | rw [if_pos (by decide)])
      | (refine sx_RU.call rfl rfl rfl rfl (cx_132 _ _ _ _ _ _) ?_; first | rw [if_pos (by assumption)] | rw [if_neg (by assumption)] | rw [if_pos (by decide)])
      | (refine sx_RU.call rfl rfl rfl rfl (cx_151 _ _ _ _) ?_; first | rw [if_pos (by assumption)] | rw [if_neg (by assumption)] | rw [if_pos (by decide)])
      | (refine sx_RU.call rfl rfl rfl rfl (cx_152 _ _ _ _) ?_; first | rw [if_pos (by assumption)] | rw [if_neg (by assumption)] | rw [if_pos (by decide)])
      | (refine sx_RU.call rfl rfl rfl rfl (cx_231 _ _ _ _) ?_; first | rw [if_pos (by assumption)] | rw [if_neg (by assumption)] | rw [if_pos (by decide)])
      | (refine sx_RU.call rfl rfl rfl rfl (cx_197 _ _ _ _) ?_; first | rw [if_pos (by assumption)] | rw [if_neg (by assumption)] | rw [if_pos (by decide)])
      | (refine sx_RU.call rfl rfl rfl rfl (cx_112 _ _ _ _) ?_; first | rw [if_pos (by assumption)] | rw [if_neg (by assumption)] | rw [if_pos (by decide)])
      | refine sx_RU.br rfl rfl (fun _ => ?_) (fun q => (of_decide_eq_false q (by assumption)).elim)
      | refine sx_RU.br rfl rfl (fun q => ((by assumption : ¬ _) (of_decide_eq_true q)).elim) (fun _ => ?_)
      | refine sx_RU.swo rfl (by assumption) rfl ?_)
  · repeat (first
      | refine sx_RU.step rfl rfl ?_
      | exact sx_RU.ret rfl rfl
      | refine sx_RU.call rfl rfl rfl rfl (cf_B _) ?_
      | refine sx_RU.call rfl rfl rfl rfl (cf_N _) ?_
      | refine sx_RU.call rfl rfl rfl rfl (cf_M _) ?_
      | refine sx_RU.call rfl rfl rfl rfl (cf_Z _) ?_
      | refine sx_RU.call rfl rfl rfl rfl (cn_B _) ?_
      | refine sx_RU.call rfl rfl rfl rfl (cn_N _) ?_
      | refine sx_RU.call rfl rfl rfl rfl (cn_M _) ?_
      | refine sx_RU.call rfl rfl rfl rfl (cn_Z _) ?_
      | refine sx_RU.call rfl rfl rfl rfl (cg_27 _ _) ?_
      | refine sx_RU.call rfl rfl rfl rfl (cg_66 _ _) ?_
      | refine sx_RU.call rfl rfl rfl rfl (cg_156 _ _) ?_
      | refine sx_RU.call rfl rfl rfl rfl (cg_186 _ _) ?_
      | (refine sx_RU.call rfl rfl rfl rfl (cx_7 _ _ _ _) ?_; first | rw [if_pos (by assumption)] | rw [if_neg (by assumption)] | rw [if_pos (by decide)])
      | (refine sx_RU.call rfl rfl rfl rfl (cx_8 _ _ _ _ _ _) ?_; first | rw [if_pos (by assumption)] | rw [if_neg (by assumption)] | rw [if_pos (by decide)])
      | (refine sx_RU.call rfl rfl rfl rfl (cx_22 _ _ _ _) ?_; first | rw [if_pos (by assumption)] | rw [if_neg (by assumption)] | rw [if_pos (by decide)])
      | (refine sx_RU.call rfl rfl rfl rfl (cx_23 _ _ _ _) ?_; first | rw [if_pos (by assumption)] | rw [if_neg (by assumption)] | rw [if_pos (by decide)])
      | (refine sx_RU.call rfl rfl rfl rfl (cx_131 _ _ _ _) ?_; first | rw [if_pos (by assumption)] | rw [if_neg (by assumption)] | rw [if_pos (by decide)])
      | (refine sx_RU.call rfl rfl rfl rfl (cx_132 _ _ _ _ _ _) ?_; first | rw [if_pos (by assumption)] | rw [if_neg (by assumption)] | rw [if_pos (by decide)])
      | (refine sx_RU.call rfl rfl rfl rfl (cx_151 _ _ _ _) ?_; first | rw [if_pos (by assumption)] | rw [if_neg (by assumption)] | rw [if_pos (by decide)])
      | (refine sx_RU.call rfl rfl rfl rfl (cx_152 _ _ _ _) ?_; first | rw [if_pos (by assumption)] | rw [if_neg (by assumption)] | rw [if_pos (by decide)])
      | (refine sx_RU.call rfl rfl rfl rfl (cx_231 _ _ _ _) ?_; first | rw [if_pos (by assumption)] | rw [if_neg (by assumption)] | rw [if_pos (by decide)])
      | (refine sx_RU.call rfl rfl rfl rfl (cx_197 _ _ _ _) ?_; first | rw [if_pos (by assumption)] | rw [if_neg (by assumption)] | rw [if_pos (by decide)])
      | (refine sx_RU.call rfl rfl rfl rfl (cx_112 _ _ _ _) ?_; first | rw [if_pos (by assumption)] | rw [if_neg (by assumption)] | rw [if_pos (by decide)])
      | refine sx_RU.br rfl rfl (fun _ => ?_) (fun q => (of_decide_eq_false q (by assumption)).elim)
      | refine sx_RU.br rfl rfl (fun q => ((by assumption : ¬ _) (of_decide_eq_true q)).elim) (fun _ => ?_)
      | refine sx_RU.swo rfl (by assumption) rfl ?_)
set_option maxRecDepth 20000 in
theorem k_now_s (ys : List Int32) (a1 : Int32) (hs : a1.toInt < 0 ∨ 3 < a1.toInt) : sx_twoI ys 48 173 [.int a1] := by
  refine ⟨(-1000000001), sx_vB, sx_vB2, _, rfl, ?_, ?_⟩
  · repeat (first
      | refine sx_RU.step rfl rfl ?_
      | exact sx_RU.ret rfl rfl
      | refine sx_RU.call rfl rfl rfl rfl (cf_B _) ?_
      | refine sx_RU.call rfl rfl rfl rfl (cf_N _) ?_
      | refine sx_RU.call rfl rfl rfl rfl (cf_M _) ?_
      | refine sx_RU.call rfl rfl rfl rfl (cf_Z _) ?_
      | refine sx_RU.call rfl rfl rfl rfl (cn_B _) ?_
      | refine sx_RU.call rfl rfl rfl rfl (cn_N _) ?_
      | refine sx_RU.call rfl rfl rfl rfl (cn_M _) ?_
      | refine sx_RU.call rfl rfl rfl rfl (cn_Z _) ?_
      | refine sx_RU.call rfl rfl rfl rfl (cg_27 _ _) ?_
      | refine sx_RU.call rfl rfl rfl rfl (cg_66 _ _) ?_
      | refine sx_RU.call rfl rfl rfl rfl (cg_156 _ _) ?_
      | refine sx_RU.call rfl rfl rfl rfl (cg_186 _ _) ?_
      | (refine sx_RU.call rfl rfl rfl rfl (cx_7 _ _ _ _) ?_; first | rw [if_pos (by assumption)] | rw [if_neg (by assumption)] | rw [if_pos (by decide)])
      | (refine sx_RU.call rfl rfl rfl rfl (cx_8 _ _ _ _ _ _) ?_; first | rw [if_pos (by assumption)] | rw [if_neg (by assumption)] | rw [if_pos (by decide)])
      | (refine sx_RU.call rfl rfl rfl rfl (cx_22 _ _ _ _) ?_; first | rw [if_pos (by assumption)] | rw [if_neg (by assumption)] | rw [if_pos (by decide)])
      | (refine sx_RU.call rfl rfl rfl rfl (cx_23 _ _ _ _) ?_; first | rw [if_pos (by assumption)] | rw [if_neg (by assumption)] | rw [if_pos (by decide)])
      | (refine sx_RU.call rfl rfl rfl rfl (cx_131 _ _ _ _) ?_; first | rw [if_pos (by assumption)] | rw [if_neg (by assumption)] | rw [if_pos (by decide)])
      | (refine sx_RU.call rfl rfl rfl rfl (cx_132 _ _ _ _ _ _) ?_; first | rw [if_pos (by assumption)] | rw [if_neg (by assumption)] | rw [if_pos (by decide)])
      | (refine sx_RU.call rfl rfl rfl rfl (cx_151 _ _ _ _) ?_; first | rw [if_pos (by assumption)] | rw [if_neg (by assumption)] | rw [if_pos (by decide)])
      | (refine sx_RU.call rfl rfl rfl rfl (cx_152 _ _ _ _) ?_; first | rw [if_pos (by assumption)] | rw [if_neg (by assumption)] | rw [if_pos (by decide)])
      | (refine sx_RU.call rfl rfl rfl rfl (cx_231 _ _ _ _) ?_; first | rw [if_pos (by assumption)] | rw [if_neg (by assumption)] | rw [if_pos (by decide)])
      | (refine sx_RU.call rfl rfl rfl rfl (cx_197 _ _ _ _) ?_; first | rw [if_pos (by assumption)] | rw [if_neg (by assumption)] | rw [if_pos (by decide)])
      | (refine sx_RU.call rfl rfl rfl rfl (cx_112 _ _ _ _) ?_; first | rw [if_pos (by assumption)] | rw [if_neg (by assumption)] | rw [if_pos (by decide)])
      | refine sx_RU.br rfl rfl (fun _ => ?_) (fun q => (of_decide_eq_false q (by assumption)).elim)
      | refine sx_RU.br rfl rfl (fun q => ((by assumption : ¬ _) (of_decide_eq_true q)).elim) (fun _ => ?_)
      | refine sx_RU.swo rfl (by assumption) rfl ?_)
  · repeat (first
      | refine sx_RU.step rfl rfl ?_
      | exact sx_RU.ret rfl rfl
      | refine sx_RU.call rfl rfl rfl rfl (cf_B _) ?_
      | refine sx_RU.call rfl rfl rfl rfl (cf_N _) ?_
      | refine sx_RU.call rfl rfl rfl rfl (cf_M _) ?_
      | refine sx_RU.call rfl rfl rfl rfl (cf_Z _) ?_
      | refine sx_RU.call rfl rfl rfl rfl (cn_B _) ?_
      | refine sx_RU.call rfl rfl rfl rfl (cn_N _) ?_
      | refine sx_RU.call rfl rfl rfl rfl (cn_M _) ?_
      | refine sx_RU.call rfl rfl rfl rfl (cn_Z _) ?_
      | refine sx_RU.call rfl rfl rfl rfl (cg_27 _ _) ?_
      | refine sx_RU.call rfl rfl rfl rfl (cg_66 _ _) ?_
      | refine sx_RU.call rfl rfl rfl rfl (cg_156 _ _) ?_
      | refine sx_RU.call rfl rfl rfl rfl (cg_186 _ _) ?_
      | (refine sx_RU.call rfl rfl rfl rfl (cx_7 _ _ _ _) ?_; first | rw [if_pos (by assumption)] | rw [if_neg (by assumption)] | rw [if_pos (by decide)])
      | (refine sx_RU.call rfl rfl rfl rfl (cx_8 _ _ _ _ _ _) ?_; first | rw [if_pos (by assumption)] | rw [if_neg (by assumption)] | rw [if_pos (by decide)])
      | (refine sx_RU.call rfl rfl rfl rfl (cx_22 _ _ _ _) ?_; first | rw [if_pos (by assumption)] | rw [if_neg (by assumption)] | rw [if_pos (by decide)])
      | (refine sx_RU.call rfl rfl rfl rfl (cx_23 _ _ _ _) ?_; first | rw [if_pos (by assumption)] | rw [if_neg (by assumption)] | rw [if_pos (by decide)])
      | (refine sx_RU.call rfl rfl rfl rfl (cx_131 _ _ _ _) ?_; first | rw [if_pos (by assumption)] | rw [if_neg (by assumption)] | rw [if_pos (by decide)])
      | (refine sx_RU.call rfl rfl rfl rfl (cx_132 _ _ _ _ _ _) ?_; first | rw [if_pos (by assumption)] | rw [if_neg (by assumption)] | rw [if_pos (by decide)])
      | (refine sx_RU.call rfl rfl rfl rfl (cx_151 _ _ _ _) ?_; first | rw [if_pos (by assumption)] | rw [if_neg (by assumption)] | rw [if_pos (by decide)])
      | (refine sx_RU.call rfl rfl rfl rfl (cx_152 _ _ _ _) ?_; first | rw [if_pos (by assumption)] | rw [if_neg (by assumption)] | rw [if_pos (by decide)])
      | (refine sx_RU.call rfl rfl rfl rfl (cx_231 _ _ _ _) ?_; first | rw [if_pos (by assumption)] | rw [if_neg (by assumption)] | rw [if_pos (by decide)])
      | (refine sx_RU.call rfl rfl rfl rfl (cx_197 _ _ _ _) ?_; first | rw [if_pos (by assumption)] | rw [if_neg (by assumption)] | rw [if_pos (by decide)])
      | (refine sx_RU.call rfl rfl rfl rfl (cx_112 _ _ _ _) ?_; first | rw [if_pos (by assumption)] | rw [if_neg (by assumption)] | rw [if_pos (by decide)])
      | refine sx_RU.br rfl rfl (fun _ => ?_) (fun q => (of_decide_eq_false q (by assumption)).elim)
      | refine sx_RU.br rfl rfl (fun q => ((by assumption : ¬ _) (of_decide_eq_true q)).elim) (fun _ => ?_)
      | refine sx_RU.swo rfl (by assumption) rfl ?_)
set_option maxRecDepth 20000 in
theorem k_count_s (ys : List Int32) (a1 : Int32) (hs : a1.toInt < 0 ∨ 6 < a1.toInt) : sx_twoI ys 127 243 [.int a1] := by
  refine ⟨(-1000000001), sx_vB, sx_vB2, _, rfl, ?_, ?_⟩
  · repeat (first
      | refine sx_RU.step rfl rfl ?_
      | exact sx_RU.ret rfl rfl
      | refine sx_RU.call rfl rfl rfl rfl (cf_B _) ?_
      | refine sx_RU.call rfl rfl rfl rfl (cf_N _) ?_
      | refine sx_RU.call rfl rfl rfl rfl (cf_M _) ?_
      | refine sx_RU.call rfl rfl rfl rfl (cf_Z _) ?_
      | refine sx_RU.call rfl rfl rfl rfl (cn_B _) ?_
      | refine sx_RU.call rfl rfl rfl rfl (cn_N _) ?_
      | refine sx_RU.call rfl rfl rfl rfl (cn_M _) ?_
      | refine sx_RU.call rfl rfl rfl rfl (cn_Z _) ?_
      | refine sx_RU.call rfl rfl rfl rfl (cg_27 _ _) ?_
      | refine sx_RU.call rfl rfl rfl rfl (cg_66 _ _) ?_
      | refine sx_RU.call rfl rfl rfl rfl (cg_156 _ _) ?_
      | refine sx_RU.call rfl rfl rfl rfl (cg_186 _ _) ?_
      | (refine sx_RU.call rfl rfl rfl rfl (cx_7 _ _ _ _) ?_; first | rw [if_pos (by assumption)] | rw [if_neg (by assumption)] | rw [if_pos (by decide)])
      | (refine sx_RU.call rfl rfl rfl rfl (cx_8 _ _ _ _ _ _) ?_; first | rw [if_pos (by assumption)] | rw [if_neg (by assumption)] | rw [if_pos (by decide)])
      | (refine sx_RU.call rfl rfl rfl rfl (cx_22 _ _ _ _) ?_; first | rw [if_pos (by assumption)] | rw [if_neg (by assumption)] | rw [if_pos (by decide)])
      | (refine sx_RU.call rfl rfl rfl rfl (cx_23 _ _ _ _) ?_; first | rw [if_pos (by assumption)] | rw [if_neg (by assumption)] | rw [if_pos (by decide)])
      | (refine sx_RU.call rfl rfl rfl rfl (cx_131 _ _ _ _) ?_; first | rw [if_pos (by assumption)] | rw [if_neg (by assumption)] | rw [if_pos (by decide)])
      | (refine sx_RU.call rfl rfl rfl rfl (cx_132 _ _ _ _ _ _) ?_; first | rw [if_pos (by assumption)] | rw [if_neg (by assumption)] | rw [if_pos (by decide)])
      | (refine sx_RU.call rfl rfl rfl rfl (cx_151 _ _ _ _) ?_; first | rw [if_pos (by assumption)] | rw [if_neg (by assumption)] | rw [if_pos (by decide)])
      | (refine sx_RU.call rfl rfl rfl rfl (cx_152 _ _ _ _) ?_; first | rw [if_pos (by assumption)] | rw [if_neg (by assumption)] | rw [if_pos (by decide)])
      | (refine sx_RU.call rfl rfl rfl rfl (cx_231 _ _ _ _) ?_; first | rw [if_pos (by assumption)] | rw [if_neg (by assumption)] | rw [if_pos (by decide)])
      | (refine sx_RU.call rfl rfl rfl rfl (cx_197 _ _ _ _) ?_; first | rw [if_pos (by assumption)] | rw [if_neg (by assumption)] | rw [if_pos (by decide)])
      | (refine sx_RU.call rfl rfl rfl rfl (cx_112 _ _ _ _) ?_; first | rw [if_pos (by assumption)] | rw [if_neg (by assumption)] | rw [if_pos (by decide)])
      | refine sx_RU.br rfl rfl (fun _ => ?_) (fun q => (of_decide_eq_false q (by assumption)).elim)
      | refine sx_RU.br rfl rfl (fun q => ((by assumption : ¬ _) (of_decide_eq_true q)).elim) (fun _ => ?_)
      | refine sx_RU.swo rfl (by assumption) rfl ?_)
  · repeat (first
      | refine sx_RU.step rfl rfl ?_
      | exact sx_RU.ret rfl rfl
      | refine sx_RU.call rfl rfl rfl rfl (cf_B _) ?_
      | refine sx_RU.call rfl rfl rfl rfl (cf_N _) ?_
      | refine sx_RU.call rfl rfl rfl rfl (cf_M _) ?_
      | refine sx_RU.call rfl rfl rfl rfl (cf_Z _) ?_
      | refine sx_RU.call rfl rfl rfl rfl (cn_B _) ?_
      | refine sx_RU.call rfl rfl rfl rfl (cn_N _) ?_
      | refine sx_RU.call rfl rfl rfl rfl (cn_M _) ?_
      | refine sx_RU.call rfl rfl rfl rfl (cn_Z _) ?_
      | refine sx_RU.call rfl rfl rfl rfl (cg_27 _ _) ?_
      | refine sx_RU.call rfl rfl rfl rfl (cg_66 _ _) ?_
      | refine sx_RU.call rfl rfl rfl rfl (cg_156 _ _) ?_
      | refine sx_RU.call rfl rfl rfl rfl (cg_186 _ _) ?_
      | (refine sx_RU.call rfl rfl rfl rfl (cx_7 _ _ _ _) ?_; first | rw [if_pos (by assumption)] | rw [if_neg (by assumption)] | rw [if_pos (by decide)])
      | (refine sx_RU.call rfl rfl rfl rfl (cx_8 _ _ _ _ _ _) ?_; first | rw [if_pos (by assumption)] | rw [if_neg (by assumption)] | rw [if_pos (by decide)])
      | (refine sx_RU.call rfl rfl rfl rfl (cx_22 _ _ _ _) ?_; first | rw [if_pos (by assumption)] | rw [if_neg (by assumption)] | rw [if_pos (by decide)])
      | (refine sx_RU.call rfl rfl rfl rfl (cx_23 _ _ _ _) ?_; first | rw [if_pos (by assumption)] | rw [if_neg (by assumption)] | rw [if_pos (by decide)])
      | (refine sx_RU.call rfl rfl rfl rfl (cx_131 _ _ _ _) ?_; first | rw [if_pos (by assumption)] | rw [if_neg (by assumption)] | rw [if_pos (by decide)])
      | (refine sx_RU.call rfl rfl rfl rfl (cx_132 _ _ _ _ _ _) ?_; first | rw [if_pos (by assumption)] | rw [if_neg (by assumption)] | rw [if_pos (by decide)])
      | (refine sx_RU.call rfl rfl rfl rfl (cx_151 _ _ _ _) ?_; first | rw [if_pos (by assumption)] | rw [if_neg (by assumption)] | rw [if_pos (by decide)])
      | (refine sx_RU.call rfl rfl rfl rfl (cx_152 _ _ _ _) ?_; first | rw [if_pos (by assumption)] | rw [if_neg (by assumption)] | rw [if_pos (by decide)])
      | (refine sx_RU.call rfl rfl rfl rfl (cx_231 _ _ _ _) ?_; first | rw [if_pos (by assumption)] | rw [if_neg (by assumption)] | rw [if_pos (by decide)])
      | (refine sx_RU.call rfl rfl rfl rfl (cx_197 _ _ _ _) ?_; first | rw [if_pos (by assumption)] | rw [if_neg (by assumption)] | rw [if_pos (by decide)])
      | (refine sx_RU.call rfl rfl rfl rfl (cx_112 _ _ _ _) ?_; first | rw [if_pos (by assumption)] | rw [if_neg (by assumption)] | rw [if_pos (by decide)])
      | refine sx_RU.br rfl rfl (fun _ => ?_) (fun q => (of_decide_eq_false q (by assumption)).elim)
      | refine sx_RU.br rfl rfl (fun q => ((by assumption : ¬ _) (of_decide_eq_true q)).elim) (fun _ => ?_)
      | refine sx_RU.swo rfl (by assumption) rfl ?_)
