-- the law's cases out of the two calls
theorem sx_inv_v {mi k a ci : Nat} {st r : List Value} {w : List sx_C} {q : Nat × Nat} {fs : List Value} (hq : sx_lk (sx_ml (sx_own mi)) k = some q) (hd : st.drop (sx_nar q.1) = .ref a :: r) (hw : w[a]? = some (.inr (.inr (.inr (ci, fs))))) (hc : (Nat.beq (sx_kd q.1) 1 && Nat.beq ci (sx_own q.1) && Nat.ble (r.map (fun v => v.category)).sum 8) = true) : sx_inv mi (.invokevirtual k) st w = some (q.1, .ref a :: (st.take (sx_nar q.1)).reverse, r) := by
  unfold sx_inv
  simp only
  rw [hq]
  simp only
  rw [hd]
  simp only
  rw [hw]
  simp only
  rw [hc]
  rfl
theorem sx_cmp0 (v : Int64) : lg_cmp v v = 0 := by simp [lg_cmp]
theorem lw_c0 (a0 a1 a2 a3 a4 a5 : Int32) (h : sx_twoI [a0, a1, a2, a3, a4, a5] 6 130 [.int a1, .int a2]) : ∃ w2, sx_RU (some [a0, a1, a2, a3, a4, a5]) 8 246 228 sx_l3 [] sx_w0 (some (.int 1)) w2 := by
  obtain ⟨v, w1, w2, fs, hw, h1, h2⟩ := h
  refine ⟨w2, ?_⟩
  (repeat (refine sx_RU.step rfl rfl ?_))
  refine sx_RU.call rfl rfl rfl rfl h1 ?_
  (repeat (refine sx_RU.step rfl rfl ?_))
  refine sx_RU.call rfl rfl (sx_inv_v rfl rfl hw rfl) rfl h2 ?_
  refine sx_RU.br rfl rfl (fun _ => ?_) (fun q => absurd rfl (of_decide_eq_false q))
  (repeat (refine sx_RU.step rfl rfl ?_))
  refine sx_RU.br rfl rfl (fun _ => ?_) (fun q => absurd (show (6 : Int32) - 6 < 6 by decide) (of_decide_eq_false q))
  (repeat (refine sx_RU.step rfl rfl ?_))
  exact sx_RU.ret rfl rfl
theorem lw_c1z (a0 a1 a2 a3 a4 a5 : Int32) (h : sx_twoI [a0, a1, 0, a3, a4, a5] 10 134 [.int a1, .int 0]) : ∃ w2, sx_RU (some [a0, a1, 0, a3, a4, a5]) 8 246 261 sx_l3 [] sx_w0 (some (.int 1)) w2 := by
  obtain ⟨v, w1, w2, fs, hw, h1, h2⟩ := h
  refine ⟨w2, ?_⟩
  (repeat (refine sx_RU.step rfl rfl ?_))
  refine sx_RU.call rfl rfl rfl rfl h1 ?_
  (repeat (refine sx_RU.step rfl rfl ?_))
  refine sx_RU.call rfl rfl (sx_inv_v rfl rfl hw rfl) rfl h2 ?_
  refine sx_RU.br rfl rfl (fun _ => ?_) (fun q => absurd rfl (of_decide_eq_false q))
  (repeat (refine sx_RU.step rfl rfl ?_))
  refine sx_RU.br rfl rfl (fun _ => ?_) (fun q => absurd (show (6 : Int32) - 6 < 6 by decide) (of_decide_eq_false q))
  (repeat (refine sx_RU.step rfl rfl ?_))
  exact sx_RU.ret rfl rfl
theorem lw_c1n (a0 a1 a2 a3 a4 a5 : Int32) (hn : ¬ a2 = 0) (h : sx_twoI [a0, a1, a2, a3, a4, a5] 10 134 [.int a1, .int 1]) : ∃ w2, sx_RU (some [a0, a1, a2, a3, a4, a5]) 8 246 261 sx_l3 [] sx_w0 (some (.int 1)) w2 := by
  obtain ⟨v, w1, w2, fs, hw, h1, h2⟩ := h
  refine ⟨w2, ?_⟩
  (repeat (refine sx_RU.step rfl rfl ?_))
  refine sx_RU.br rfl rfl (fun q => absurd (of_decide_eq_true q) hn) (fun _ => ?_)
  (repeat (refine sx_RU.step rfl rfl ?_))
  refine sx_RU.call rfl rfl rfl rfl h1 ?_
  (repeat (refine sx_RU.step rfl rfl ?_))
  refine sx_RU.br rfl rfl (fun q => absurd (of_decide_eq_true q) hn) (fun _ => ?_)
  (repeat (refine sx_RU.step rfl rfl ?_))
  refine sx_RU.call rfl rfl (sx_inv_v rfl rfl hw rfl) rfl h2 ?_
  refine sx_RU.br rfl rfl (fun _ => ?_) (fun q => absurd rfl (of_decide_eq_false q))
  (repeat (refine sx_RU.step rfl rfl ?_))
  refine sx_RU.br rfl rfl (fun _ => ?_) (fun q => absurd (show (6 : Int32) - 6 < 6 by decide) (of_decide_eq_false q))
  (repeat (refine sx_RU.step rfl rfl ?_))
  exact sx_RU.ret rfl rfl
theorem lw_c2 (a0 a1 a2 a3 a4 a5 : Int32) (h : sx_twoI [a0, a1, a2, a3, a4, a5] 12 135 [.int a1, .int a2]) : ∃ w2, sx_RU (some [a0, a1, a2, a3, a4, a5]) 8 246 310 sx_l3 [] sx_w0 (some (.int 1)) w2 := by
  obtain ⟨v, w1, w2, fs, hw, h1, h2⟩ := h
  refine ⟨w2, ?_⟩
  (repeat (refine sx_RU.step rfl rfl ?_))
  refine sx_RU.call rfl rfl rfl rfl h1 ?_
  (repeat (refine sx_RU.step rfl rfl ?_))
  refine sx_RU.call rfl rfl (sx_inv_v rfl rfl hw rfl) rfl h2 ?_
  refine sx_RU.br rfl rfl (fun _ => ?_) (fun q => absurd rfl (of_decide_eq_false q))
  (repeat (refine sx_RU.step rfl rfl ?_))
  refine sx_RU.br rfl rfl (fun _ => ?_) (fun q => absurd (show (6 : Int32) - 6 < 6 by decide) (of_decide_eq_false q))
  (repeat (refine sx_RU.step rfl rfl ?_))
  exact sx_RU.ret rfl rfl
theorem lw_c3 (a0 a1 a2 a3 a4 a5 : Int32) (h : sx_twoL [a0, a1, a2, a3, a4, a5] 14 139 []) : ∃ w2, sx_RU (some [a0, a1, a2, a3, a4, a5]) 8 246 343 sx_l3 [] sx_w0 (some (.int 1)) w2 := by
  obtain ⟨v, w1, w2, fs, hw, h1, h2⟩ := h
  refine ⟨w2, ?_⟩
  (repeat (refine sx_RU.step rfl rfl ?_))
  refine sx_RU.call rfl rfl rfl rfl h1 ?_
  (repeat (refine sx_RU.step rfl rfl ?_))
  refine sx_RU.call rfl rfl (sx_inv_v rfl rfl hw rfl) rfl h2 ?_
  refine sx_RU.step rfl rfl ?_
  refine sx_RU.br rfl rfl (fun _ => ?_) (fun q => absurd (sx_cmp0 v) (of_decide_eq_false q))
  (repeat (refine sx_RU.step rfl rfl ?_))
  refine sx_RU.br rfl rfl (fun _ => ?_) (fun q => absurd (show (6 : Int32) - 6 < 6 by decide) (of_decide_eq_false q))
  (repeat (refine sx_RU.step rfl rfl ?_))
  exact sx_RU.ret rfl rfl
theorem lw_c4 (a0 a1 a2 a3 a4 a5 : Int32) (h : sx_twoI [a0, a1, a2, a3, a4, a5] 15 140 [.int a1, .int a2]) : ∃ w2, sx_RU (some [a0, a1, a2, a3, a4, a5]) 8 246 357 sx_l3 [] sx_w0 (some (.int 1)) w2 := by
  obtain ⟨v, w1, w2, fs, hw, h1, h2⟩ := h
  refine ⟨w2, ?_⟩
  (repeat (refine sx_RU.step rfl rfl ?_))
  refine sx_RU.call rfl rfl rfl rfl h1 ?_
  (repeat (refine sx_RU.step rfl rfl ?_))
  refine sx_RU.call rfl rfl (sx_inv_v rfl rfl hw rfl) rfl h2 ?_
  refine sx_RU.br rfl rfl (fun _ => ?_) (fun q => absurd rfl (of_decide_eq_false q))
  (repeat (refine sx_RU.step rfl rfl ?_))
  refine sx_RU.br rfl rfl (fun _ => ?_) (fun q => absurd (show (6 : Int32) - 6 < 6 by decide) (of_decide_eq_false q))
  (repeat (refine sx_RU.step rfl rfl ?_))
  exact sx_RU.ret rfl rfl
theorem lw_c5 (a0 a1 a2 a3 a4 a5 : Int32) (h : sx_twoI [a0, a1, a2, a3, a4, a5] 21 150 [.int a1, .int a2, .int a3, .int a4]) : ∃ w2, sx_RU (some [a0, a1, a2, a3, a4, a5]) 8 246 390 sx_l3 [] sx_w0 (some (.int 1)) w2 := by
  obtain ⟨v, w1, w2, fs, hw, h1, h2⟩ := h
  refine ⟨w2, ?_⟩
  (repeat (refine sx_RU.step rfl rfl ?_))
  refine sx_RU.call rfl rfl rfl rfl h1 ?_
  (repeat (refine sx_RU.step rfl rfl ?_))
  refine sx_RU.call rfl rfl (sx_inv_v rfl rfl hw rfl) rfl h2 ?_
  refine sx_RU.br rfl rfl (fun _ => ?_) (fun q => absurd rfl (of_decide_eq_false q))
  (repeat (refine sx_RU.step rfl rfl ?_))
  refine sx_RU.br rfl rfl (fun _ => ?_) (fun q => absurd (show (6 : Int32) - 6 < 6 by decide) (of_decide_eq_false q))
  (repeat (refine sx_RU.step rfl rfl ?_))
  exact sx_RU.ret rfl rfl
theorem lw_c6 (a0 a1 a2 a3 a4 a5 : Int32) (h : sx_twoI [a0, a1, a2, a3, a4, a5] 26 155 [.int a1, .int a2]) : ∃ w2, sx_RU (some [a0, a1, a2, a3, a4, a5]) 8 246 443 sx_l3 [] sx_w0 (some (.int 1)) w2 := by
  obtain ⟨v, w1, w2, fs, hw, h1, h2⟩ := h
  refine ⟨w2, ?_⟩
  (repeat (refine sx_RU.step rfl rfl ?_))
  refine sx_RU.call rfl rfl rfl rfl h1 ?_
  (repeat (refine sx_RU.step rfl rfl ?_))
  refine sx_RU.call rfl rfl (sx_inv_v rfl rfl hw rfl) rfl h2 ?_
  refine sx_RU.br rfl rfl (fun _ => ?_) (fun q => absurd rfl (of_decide_eq_false q))
  (repeat (refine sx_RU.step rfl rfl ?_))
  refine sx_RU.br rfl rfl (fun _ => ?_) (fun q => absurd (show (6 : Int32) - 6 < 6 by decide) (of_decide_eq_false q))
  (repeat (refine sx_RU.step rfl rfl ?_))
  exact sx_RU.ret rfl rfl
theorem lw_c7 (a0 a1 a2 a3 a4 a5 : Int32) (h : sx_twoI [a0, a1, a2, a3, a4, a5] 28 157 [.int a1, .int a2]) : ∃ w2, sx_RU (some [a0, a1, a2, a3, a4, a5]) 8 246 476 sx_l3 [] sx_w0 (some (.int 1)) w2 := by
  obtain ⟨v, w1, w2, fs, hw, h1, h2⟩ := h
  refine ⟨w2, ?_⟩
  (repeat (refine sx_RU.step rfl rfl ?_))
  refine sx_RU.call rfl rfl rfl rfl h1 ?_
  (repeat (refine sx_RU.step rfl rfl ?_))
  refine sx_RU.call rfl rfl (sx_inv_v rfl rfl hw rfl) rfl h2 ?_
  refine sx_RU.br rfl rfl (fun _ => ?_) (fun q => absurd rfl (of_decide_eq_false q))
  (repeat (refine sx_RU.step rfl rfl ?_))
  refine sx_RU.br rfl rfl (fun _ => ?_) (fun q => absurd (show (6 : Int32) - 6 < 6 by decide) (of_decide_eq_false q))
  (repeat (refine sx_RU.step rfl rfl ?_))
  exact sx_RU.ret rfl rfl
theorem lw_c8 (a0 a1 a2 a3 a4 a5 : Int32) (h : sx_twoI [a0, a1, a2, a3, a4, a5] 29 158 [.int a1, .int a2]) : ∃ w2, sx_RU (some [a0, a1, a2, a3, a4, a5]) 8 246 509 sx_l3 [] sx_w0 (some (.int 1)) w2 := by
  obtain ⟨v, w1, w2, fs, hw, h1, h2⟩ := h
  refine ⟨w2, ?_⟩
  (repeat (refine sx_RU.step rfl rfl ?_))
  refine sx_RU.call rfl rfl rfl rfl h1 ?_
  (repeat (refine sx_RU.step rfl rfl ?_))
  refine sx_RU.call rfl rfl (sx_inv_v rfl rfl hw rfl) rfl h2 ?_
  refine sx_RU.br rfl rfl (fun _ => ?_) (fun q => absurd rfl (of_decide_eq_false q))
  (repeat (refine sx_RU.step rfl rfl ?_))
  refine sx_RU.br rfl rfl (fun _ => ?_) (fun q => absurd (show (6 : Int32) - 6 < 6 by decide) (of_decide_eq_false q))
  (repeat (refine sx_RU.step rfl rfl ?_))
  exact sx_RU.ret rfl rfl
theorem lw_c9 (a0 a1 a2 a3 a4 a5 : Int32) (h : sx_twoI [a0, a1, a2, a3, a4, a5] 30 159 [.int a1, .int a2]) : ∃ w2, sx_RU (some [a0, a1, a2, a3, a4, a5]) 8 246 542 sx_l3 [] sx_w0 (some (.int 1)) w2 := by
  obtain ⟨v, w1, w2, fs, hw, h1, h2⟩ := h
  refine ⟨w2, ?_⟩
  (repeat (refine sx_RU.step rfl rfl ?_))
  refine sx_RU.call rfl rfl rfl rfl h1 ?_
  (repeat (refine sx_RU.step rfl rfl ?_))
  refine sx_RU.call rfl rfl (sx_inv_v rfl rfl hw rfl) rfl h2 ?_
  refine sx_RU.br rfl rfl (fun _ => ?_) (fun q => absurd rfl (of_decide_eq_false q))
  (repeat (refine sx_RU.step rfl rfl ?_))
  refine sx_RU.br rfl rfl (fun _ => ?_) (fun q => absurd (show (6 : Int32) - 6 < 6 by decide) (of_decide_eq_false q))
  (repeat (refine sx_RU.step rfl rfl ?_))
  exact sx_RU.ret rfl rfl
theorem lw_c10 (a0 a1 a2 a3 a4 a5 : Int32) (h : sx_twoI [a0, a1, a2, a3, a4, a5] 32 161 [.int a1, .int a2, .int a3]) : ∃ w2, sx_RU (some [a0, a1, a2, a3, a4, a5]) 8 246 575 sx_l3 [] sx_w0 (some (.int 1)) w2 := by
  obtain ⟨v, w1, w2, fs, hw, h1, h2⟩ := h
  refine ⟨w2, ?_⟩
  (repeat (refine sx_RU.step rfl rfl ?_))
  refine sx_RU.call rfl rfl rfl rfl h1 ?_
  (repeat (refine sx_RU.step rfl rfl ?_))
  refine sx_RU.call rfl rfl (sx_inv_v rfl rfl hw rfl) rfl h2 ?_
  refine sx_RU.br rfl rfl (fun _ => ?_) (fun q => absurd rfl (of_decide_eq_false q))
  (repeat (refine sx_RU.step rfl rfl ?_))
  refine sx_RU.br rfl rfl (fun _ => ?_) (fun q => absurd (show (6 : Int32) - 6 < 6 by decide) (of_decide_eq_false q))
  (repeat (refine sx_RU.step rfl rfl ?_))
  exact sx_RU.ret rfl rfl
theorem lw_c11 (a0 a1 a2 a3 a4 a5 : Int32) (h : sx_twoI [a0, a1, a2, a3, a4, a5] 39 164 [.int a1]) : ∃ w2, sx_RU (some [a0, a1, a2, a3, a4, a5]) 8 246 618 sx_l3 [] sx_w0 (some (.int 1)) w2 := by
  obtain ⟨v, w1, w2, fs, hw, h1, h2⟩ := h
  refine ⟨w2, ?_⟩
  (repeat (refine sx_RU.step rfl rfl ?_))
  refine sx_RU.call rfl rfl rfl rfl h1 ?_
  (repeat (refine sx_RU.step rfl rfl ?_))
  refine sx_RU.call rfl rfl (sx_inv_v rfl rfl hw rfl) rfl h2 ?_
  refine sx_RU.br rfl rfl (fun _ => ?_) (fun q => absurd rfl (of_decide_eq_false q))
  (repeat (refine sx_RU.step rfl rfl ?_))
  refine sx_RU.br rfl rfl (fun _ => ?_) (fun q => absurd (show (6 : Int32) - 6 < 6 by decide) (of_decide_eq_false q))
  (repeat (refine sx_RU.step rfl rfl ?_))
  exact sx_RU.ret rfl rfl
theorem lw_c12 (a0 a1 a2 a3 a4 a5 : Int32) (h : sx_twoI [a0, a1, a2, a3, a4, a5] 48 173 [.int a1]) : ∃ w2, sx_RU (some [a0, a1, a2, a3, a4, a5]) 8 246 641 sx_l3 [] sx_w0 (some (.int 1)) w2 := by
  obtain ⟨v, w1, w2, fs, hw, h1, h2⟩ := h
  refine ⟨w2, ?_⟩
  (repeat (refine sx_RU.step rfl rfl ?_))
  refine sx_RU.call rfl rfl rfl rfl h1 ?_
  (repeat (refine sx_RU.step rfl rfl ?_))
  refine sx_RU.call rfl rfl (sx_inv_v rfl rfl hw rfl) rfl h2 ?_
  refine sx_RU.br rfl rfl (fun _ => ?_) (fun q => absurd rfl (of_decide_eq_false q))
  (repeat (refine sx_RU.step rfl rfl ?_))
  refine sx_RU.br rfl rfl (fun _ => ?_) (fun q => absurd (show (6 : Int32) - 6 < 6 by decide) (of_decide_eq_false q))
  (repeat (refine sx_RU.step rfl rfl ?_))
  exact sx_RU.ret rfl rfl
theorem lw_c13 (a0 a1 a2 a3 a4 a5 : Int32) (h : sx_twoI [a0, a1, a2, a3, a4, a5] 49 174 [.int a1, .int a2]) : ∃ w2, sx_RU (some [a0, a1, a2, a3, a4, a5]) 8 246 664 sx_l3 [] sx_w0 (some (.int 1)) w2 := by
  obtain ⟨v, w1, w2, fs, hw, h1, h2⟩ := h
  refine ⟨w2, ?_⟩
  (repeat (refine sx_RU.step rfl rfl ?_))
  refine sx_RU.call rfl rfl rfl rfl h1 ?_
  (repeat (refine sx_RU.step rfl rfl ?_))
  refine sx_RU.call rfl rfl (sx_inv_v rfl rfl hw rfl) rfl h2 ?_
  refine sx_RU.br rfl rfl (fun _ => ?_) (fun q => absurd rfl (of_decide_eq_false q))
  (repeat (refine sx_RU.step rfl rfl ?_))
  refine sx_RU.br rfl rfl (fun _ => ?_) (fun q => absurd (show (6 : Int32) - 6 < 6 by decide) (of_decide_eq_false q))
  (repeat (refine sx_RU.step rfl rfl ?_))
  exact sx_RU.ret rfl rfl
theorem lw_c14 (a0 a1 a2 a3 a4 a5 : Int32) (h : sx_twoI [a0, a1, a2, a3, a4, a5] 52 176 [.int a1]) : ∃ w2, sx_RU (some [a0, a1, a2, a3, a4, a5]) 8 246 697 sx_l3 [] sx_w0 (some (.int 1)) w2 := by
  obtain ⟨v, w1, w2, fs, hw, h1, h2⟩ := h
  refine ⟨w2, ?_⟩
  (repeat (refine sx_RU.step rfl rfl ?_))
  refine sx_RU.call rfl rfl rfl rfl h1 ?_
  (repeat (refine sx_RU.step rfl rfl ?_))
  refine sx_RU.call rfl rfl (sx_inv_v rfl rfl hw rfl) rfl h2 ?_
  refine sx_RU.br rfl rfl (fun _ => ?_) (fun q => absurd rfl (of_decide_eq_false q))
  (repeat (refine sx_RU.step rfl rfl ?_))
  refine sx_RU.br rfl rfl (fun _ => ?_) (fun q => absurd (show (6 : Int32) - 6 < 6 by decide) (of_decide_eq_false q))
  (repeat (refine sx_RU.step rfl rfl ?_))
  exact sx_RU.ret rfl rfl
theorem lw_c15 (a0 a1 a2 a3 a4 a5 : Int32) (h : sx_twoI [a0, a1, a2, a3, a4, a5] 53 177 []) : ∃ w2, sx_RU (some [a0, a1, a2, a3, a4, a5]) 8 246 720 sx_l3 [] sx_w0 (some (.int 1)) w2 := by
  obtain ⟨v, w1, w2, fs, hw, h1, h2⟩ := h
  refine ⟨w2, ?_⟩
  (repeat (refine sx_RU.step rfl rfl ?_))
  refine sx_RU.call rfl rfl rfl rfl h1 ?_
  (repeat (refine sx_RU.step rfl rfl ?_))
  refine sx_RU.call rfl rfl (sx_inv_v rfl rfl hw rfl) rfl h2 ?_
  refine sx_RU.br rfl rfl (fun _ => ?_) (fun q => absurd rfl (of_decide_eq_false q))
  (repeat (refine sx_RU.step rfl rfl ?_))
  refine sx_RU.br rfl rfl (fun _ => ?_) (fun q => absurd (show (6 : Int32) - 6 < 6 by decide) (of_decide_eq_false q))
  (repeat (refine sx_RU.step rfl rfl ?_))
  exact sx_RU.ret rfl rfl
theorem lw_c16 (a0 a1 a2 a3 a4 a5 : Int32) (h : sx_twoI [a0, a1, a2, a3, a4, a5] 55 179 [.int a1, .int a2]) : ∃ w2, sx_RU (some [a0, a1, a2, a3, a4, a5]) 8 246 733 sx_l3 [] sx_w0 (some (.int 1)) w2 := by
  obtain ⟨v, w1, w2, fs, hw, h1, h2⟩ := h
  refine ⟨w2, ?_⟩
  (repeat (refine sx_RU.step rfl rfl ?_))
  refine sx_RU.call rfl rfl rfl rfl h1 ?_
  (repeat (refine sx_RU.step rfl rfl ?_))
  refine sx_RU.call rfl rfl (sx_inv_v rfl rfl hw rfl) rfl h2 ?_
  refine sx_RU.br rfl rfl (fun _ => ?_) (fun q => absurd rfl (of_decide_eq_false q))
  (repeat (refine sx_RU.step rfl rfl ?_))
  refine sx_RU.br rfl rfl (fun _ => ?_) (fun q => absurd (show (6 : Int32) - 6 < 6 by decide) (of_decide_eq_false q))
  (repeat (refine sx_RU.step rfl rfl ?_))
  exact sx_RU.ret rfl rfl
theorem lw_c17 (a0 a1 a2 a3 a4 a5 : Int32) (h : sx_twoI [a0, a1, a2, a3, a4, a5] 58 180 [.int a1, .int a2]) : ∃ w2, sx_RU (some [a0, a1, a2, a3, a4, a5]) 8 246 766 sx_l3 [] sx_w0 (some (.int 1)) w2 := by
  obtain ⟨v, w1, w2, fs, hw, h1, h2⟩ := h
  refine ⟨w2, ?_⟩
  (repeat (refine sx_RU.step rfl rfl ?_))
  refine sx_RU.call rfl rfl rfl rfl h1 ?_
  (repeat (refine sx_RU.step rfl rfl ?_))
  refine sx_RU.call rfl rfl (sx_inv_v rfl rfl hw rfl) rfl h2 ?_
  refine sx_RU.br rfl rfl (fun _ => ?_) (fun q => absurd rfl (of_decide_eq_false q))
  (repeat (refine sx_RU.step rfl rfl ?_))
  refine sx_RU.br rfl rfl (fun _ => ?_) (fun q => absurd (show (6 : Int32) - 6 < 6 by decide) (of_decide_eq_false q))
  (repeat (refine sx_RU.step rfl rfl ?_))
  exact sx_RU.ret rfl rfl
theorem lw_c18 (a0 a1 a2 a3 a4 a5 : Int32) (h : sx_twoI [a0, a1, a2, a3, a4, a5] 61 183 [.int a1]) : ∃ w2, sx_RU (some [a0, a1, a2, a3, a4, a5]) 8 246 799 sx_l3 [] sx_w0 (some (.int 1)) w2 := by
  obtain ⟨v, w1, w2, fs, hw, h1, h2⟩ := h
  refine ⟨w2, ?_⟩
  (repeat (refine sx_RU.step rfl rfl ?_))
  refine sx_RU.call rfl rfl rfl rfl h1 ?_
  (repeat (refine sx_RU.step rfl rfl ?_))
  refine sx_RU.call rfl rfl (sx_inv_v rfl rfl hw rfl) rfl h2 ?_
  refine sx_RU.br rfl rfl (fun _ => ?_) (fun q => absurd rfl (of_decide_eq_false q))
  (repeat (refine sx_RU.step rfl rfl ?_))
  refine sx_RU.br rfl rfl (fun _ => ?_) (fun q => absurd (show (6 : Int32) - 6 < 6 by decide) (of_decide_eq_false q))
  (repeat (refine sx_RU.step rfl rfl ?_))
  exact sx_RU.ret rfl rfl
theorem lw_c19 (a0 a1 a2 a3 a4 a5 : Int32) (h : sx_twoI [a0, a1, a2, a3, a4, a5] 62 184 [.int a1]) : ∃ w2, sx_RU (some [a0, a1, a2, a3, a4, a5]) 8 246 822 sx_l3 [] sx_w0 (some (.int 1)) w2 := by
  obtain ⟨v, w1, w2, fs, hw, h1, h2⟩ := h
  refine ⟨w2, ?_⟩
  (repeat (refine sx_RU.step rfl rfl ?_))
  refine sx_RU.call rfl rfl rfl rfl h1 ?_
  (repeat (refine sx_RU.step rfl rfl ?_))
  refine sx_RU.call rfl rfl (sx_inv_v rfl rfl hw rfl) rfl h2 ?_
  refine sx_RU.br rfl rfl (fun _ => ?_) (fun q => absurd rfl (of_decide_eq_false q))
  (repeat (refine sx_RU.step rfl rfl ?_))
  refine sx_RU.br rfl rfl (fun _ => ?_) (fun q => absurd (show (6 : Int32) - 6 < 6 by decide) (of_decide_eq_false q))
  (repeat (refine sx_RU.step rfl rfl ?_))
  exact sx_RU.ret rfl rfl
theorem lw_c20 (a0 a1 a2 a3 a4 a5 : Int32) (h : sx_twoI [a0, a1, a2, a3, a4, a5] 65 185 [.int a1, .int a2]) : ∃ w2, sx_RU (some [a0, a1, a2, a3, a4, a5]) 8 246 845 sx_l3 [] sx_w0 (some (.int 1)) w2 := by
  obtain ⟨v, w1, w2, fs, hw, h1, h2⟩ := h
  refine ⟨w2, ?_⟩
  (repeat (refine sx_RU.step rfl rfl ?_))
  refine sx_RU.call rfl rfl rfl rfl h1 ?_
  (repeat (refine sx_RU.step rfl rfl ?_))
  refine sx_RU.call rfl rfl (sx_inv_v rfl rfl hw rfl) rfl h2 ?_
  refine sx_RU.br rfl rfl (fun _ => ?_) (fun q => absurd rfl (of_decide_eq_false q))
  (repeat (refine sx_RU.step rfl rfl ?_))
  refine sx_RU.br rfl rfl (fun _ => ?_) (fun q => absurd (show (6 : Int32) - 6 < 6 by decide) (of_decide_eq_false q))
  (repeat (refine sx_RU.step rfl rfl ?_))
  exact sx_RU.ret rfl rfl
theorem lw_c21 (a0 a1 a2 a3 a4 a5 : Int32) (h : sx_twoI [a0, a1, a2, a3, a4, a5] 67 187 [.int a1]) : ∃ w2, sx_RU (some [a0, a1, a2, a3, a4, a5]) 8 246 878 sx_l3 [] sx_w0 (some (.int 1)) w2 := by
  obtain ⟨v, w1, w2, fs, hw, h1, h2⟩ := h
  refine ⟨w2, ?_⟩
  (repeat (refine sx_RU.step rfl rfl ?_))
  refine sx_RU.call rfl rfl rfl rfl h1 ?_
  (repeat (refine sx_RU.step rfl rfl ?_))
  refine sx_RU.call rfl rfl (sx_inv_v rfl rfl hw rfl) rfl h2 ?_
  refine sx_RU.br rfl rfl (fun _ => ?_) (fun q => absurd rfl (of_decide_eq_false q))
  (repeat (refine sx_RU.step rfl rfl ?_))
  refine sx_RU.br rfl rfl (fun _ => ?_) (fun q => absurd (show (6 : Int32) - 6 < 6 by decide) (of_decide_eq_false q))
  (repeat (refine sx_RU.step rfl rfl ?_))
  exact sx_RU.ret rfl rfl
theorem lw_c22 (a0 a1 a2 a3 a4 a5 : Int32) (h : sx_twoI [a0, a1, a2, a3, a4, a5] 70 191 [.int a1, .int a2]) : ∃ w2, sx_RU (some [a0, a1, a2, a3, a4, a5]) 8 246 901 sx_l3 [] sx_w0 (some (.int 1)) w2 := by
  obtain ⟨v, w1, w2, fs, hw, h1, h2⟩ := h
  refine ⟨w2, ?_⟩
  (repeat (refine sx_RU.step rfl rfl ?_))
  refine sx_RU.call rfl rfl rfl rfl h1 ?_
  (repeat (refine sx_RU.step rfl rfl ?_))
  refine sx_RU.call rfl rfl (sx_inv_v rfl rfl hw rfl) rfl h2 ?_
  refine sx_RU.br rfl rfl (fun _ => ?_) (fun q => absurd rfl (of_decide_eq_false q))
  (repeat (refine sx_RU.step rfl rfl ?_))
  refine sx_RU.br rfl rfl (fun _ => ?_) (fun q => absurd (show (6 : Int32) - 6 < 6 by decide) (of_decide_eq_false q))
  (repeat (refine sx_RU.step rfl rfl ?_))
  exact sx_RU.ret rfl rfl
theorem lw_c23 (a0 a1 a2 a3 a4 a5 : Int32) (h : sx_twoL [a0, a1, a2, a3, a4, a5] 71 192 [.int a1]) : ∃ w2, sx_RU (some [a0, a1, a2, a3, a4, a5]) 8 246 934 sx_l3 [] sx_w0 (some (.int 1)) w2 := by
  obtain ⟨v, w1, w2, fs, hw, h1, h2⟩ := h
  refine ⟨w2, ?_⟩
  (repeat (refine sx_RU.step rfl rfl ?_))
  refine sx_RU.call rfl rfl rfl rfl h1 ?_
  (repeat (refine sx_RU.step rfl rfl ?_))
  refine sx_RU.call rfl rfl (sx_inv_v rfl rfl hw rfl) rfl h2 ?_
  refine sx_RU.step rfl rfl ?_
  refine sx_RU.br rfl rfl (fun _ => ?_) (fun q => absurd (sx_cmp0 v) (of_decide_eq_false q))
  (repeat (refine sx_RU.step rfl rfl ?_))
  refine sx_RU.br rfl rfl (fun _ => ?_) (fun q => absurd (show (6 : Int32) - 6 < 6 by decide) (of_decide_eq_false q))
  (repeat (refine sx_RU.step rfl rfl ?_))
  exact sx_RU.ret rfl rfl
theorem lw_c24 (a0 a1 a2 a3 a4 a5 : Int32) (h : sx_twoI [a0, a1, a2, a3, a4, a5] 74 194 [.int a1]) : ∃ w2, sx_RU (some [a0, a1, a2, a3, a4, a5]) 8 246 958 sx_l3 [] sx_w0 (some (.int 1)) w2 := by
  obtain ⟨v, w1, w2, fs, hw, h1, h2⟩ := h
  refine ⟨w2, ?_⟩
  (repeat (refine sx_RU.step rfl rfl ?_))
  refine sx_RU.call rfl rfl rfl rfl h1 ?_
  (repeat (refine sx_RU.step rfl rfl ?_))
  refine sx_RU.call rfl rfl (sx_inv_v rfl rfl hw rfl) rfl h2 ?_
  refine sx_RU.br rfl rfl (fun _ => ?_) (fun q => absurd rfl (of_decide_eq_false q))
  (repeat (refine sx_RU.step rfl rfl ?_))
  refine sx_RU.br rfl rfl (fun _ => ?_) (fun q => absurd (show (6 : Int32) - 6 < 6 by decide) (of_decide_eq_false q))
  (repeat (refine sx_RU.step rfl rfl ?_))
  exact sx_RU.ret rfl rfl
theorem lw_c25 (a0 a1 a2 a3 a4 a5 : Int32) (h : sx_twoI [a0, a1, a2, a3, a4, a5] 76 196 [.int a1, .int a2]) : ∃ w2, sx_RU (some [a0, a1, a2, a3, a4, a5]) 8 246 981 sx_l3 [] sx_w0 (some (.int 1)) w2 := by
  obtain ⟨v, w1, w2, fs, hw, h1, h2⟩ := h
  refine ⟨w2, ?_⟩
  (repeat (refine sx_RU.step rfl rfl ?_))
  refine sx_RU.call rfl rfl rfl rfl h1 ?_
  (repeat (refine sx_RU.step rfl rfl ?_))
  refine sx_RU.call rfl rfl (sx_inv_v rfl rfl hw rfl) rfl h2 ?_
  refine sx_RU.br rfl rfl (fun _ => ?_) (fun q => absurd rfl (of_decide_eq_false q))
  (repeat (refine sx_RU.step rfl rfl ?_))
  refine sx_RU.br rfl rfl (fun _ => ?_) (fun q => absurd (show (6 : Int32) - 6 < 6 by decide) (of_decide_eq_false q))
  (repeat (refine sx_RU.step rfl rfl ?_))
  exact sx_RU.ret rfl rfl
theorem lw_c26 (a0 a1 a2 a3 a4 a5 : Int32) (h : sx_twoI [a0, a1, a2, a3, a4, a5] 79 201 [.int a1, .int a2]) : ∃ w2, sx_RU (some [a0, a1, a2, a3, a4, a5]) 8 246 1014 sx_l3 [] sx_w0 (some (.int 1)) w2 := by
  obtain ⟨v, w1, w2, fs, hw, h1, h2⟩ := h
  refine ⟨w2, ?_⟩
  (repeat (refine sx_RU.step rfl rfl ?_))
  refine sx_RU.call rfl rfl rfl rfl h1 ?_
  (repeat (refine sx_RU.step rfl rfl ?_))
  refine sx_RU.call rfl rfl (sx_inv_v rfl rfl hw rfl) rfl h2 ?_
  refine sx_RU.br rfl rfl (fun _ => ?_) (fun q => absurd rfl (of_decide_eq_false q))
  (repeat (refine sx_RU.step rfl rfl ?_))
  refine sx_RU.br rfl rfl (fun _ => ?_) (fun q => absurd (show (6 : Int32) - 6 < 6 by decide) (of_decide_eq_false q))
  (repeat (refine sx_RU.step rfl rfl ?_))
  exact sx_RU.ret rfl rfl
theorem lw_c27 (a0 a1 a2 a3 a4 a5 : Int32) (h : sx_twoI [a0, a1, a2, a3, a4, a5] 81 202 [.int a1]) : ∃ w2, sx_RU (some [a0, a1, a2, a3, a4, a5]) 8 246 1047 sx_l3 [] sx_w0 (some (.int 1)) w2 := by
  obtain ⟨v, w1, w2, fs, hw, h1, h2⟩ := h
  refine ⟨w2, ?_⟩
  (repeat (refine sx_RU.step rfl rfl ?_))
  refine sx_RU.call rfl rfl rfl rfl h1 ?_
  (repeat (refine sx_RU.step rfl rfl ?_))
  refine sx_RU.call rfl rfl (sx_inv_v rfl rfl hw rfl) rfl h2 ?_
  refine sx_RU.br rfl rfl (fun _ => ?_) (fun q => absurd rfl (of_decide_eq_false q))
  (repeat (refine sx_RU.step rfl rfl ?_))
  refine sx_RU.br rfl rfl (fun _ => ?_) (fun q => absurd (show (6 : Int32) - 6 < 6 by decide) (of_decide_eq_false q))
  (repeat (refine sx_RU.step rfl rfl ?_))
  exact sx_RU.ret rfl rfl
theorem lw_c28 (a0 a1 a2 a3 a4 a5 : Int32) (h : sx_twoI [a0, a1, a2, a3, a4, a5] 82 203 [.int a1, .int a2]) : ∃ w2, sx_RU (some [a0, a1, a2, a3, a4, a5]) 8 246 1070 sx_l3 [] sx_w0 (some (.int 1)) w2 := by
  obtain ⟨v, w1, w2, fs, hw, h1, h2⟩ := h
  refine ⟨w2, ?_⟩
  (repeat (refine sx_RU.step rfl rfl ?_))
  refine sx_RU.call rfl rfl rfl rfl h1 ?_
  (repeat (refine sx_RU.step rfl rfl ?_))
  refine sx_RU.call rfl rfl (sx_inv_v rfl rfl hw rfl) rfl h2 ?_
  refine sx_RU.br rfl rfl (fun _ => ?_) (fun q => absurd rfl (of_decide_eq_false q))
  (repeat (refine sx_RU.step rfl rfl ?_))
  refine sx_RU.br rfl rfl (fun _ => ?_) (fun q => absurd (show (6 : Int32) - 6 < 6 by decide) (of_decide_eq_false q))
  (repeat (refine sx_RU.step rfl rfl ?_))
  exact sx_RU.ret rfl rfl
theorem lw_c29 (a0 a1 a2 a3 a4 a5 : Int32) (h : sx_twoI [a0, a1, a2, a3, a4, a5] 83 205 []) : ∃ w2, sx_RU (some [a0, a1, a2, a3, a4, a5]) 8 246 1103 sx_l3 [] sx_w0 (some (.int 1)) w2 := by
  obtain ⟨v, w1, w2, fs, hw, h1, h2⟩ := h
  refine ⟨w2, ?_⟩
  (repeat (refine sx_RU.step rfl rfl ?_))
  refine sx_RU.call rfl rfl rfl rfl h1 ?_
  (repeat (refine sx_RU.step rfl rfl ?_))
  refine sx_RU.call rfl rfl (sx_inv_v rfl rfl hw rfl) rfl h2 ?_
  refine sx_RU.br rfl rfl (fun _ => ?_) (fun q => absurd rfl (of_decide_eq_false q))
  (repeat (refine sx_RU.step rfl rfl ?_))
  refine sx_RU.br rfl rfl (fun _ => ?_) (fun q => absurd (show (6 : Int32) - 6 < 6 by decide) (of_decide_eq_false q))
  (repeat (refine sx_RU.step rfl rfl ?_))
  exact sx_RU.ret rfl rfl
theorem lw_c30 (a0 a1 a2 a3 a4 a5 : Int32) (h : sx_twoI [a0, a1, a2, a3, a4, a5] 86 207 [.int a1]) : ∃ w2, sx_RU (some [a0, a1, a2, a3, a4, a5]) 8 246 1116 sx_l3 [] sx_w0 (some (.int 1)) w2 := by
  obtain ⟨v, w1, w2, fs, hw, h1, h2⟩ := h
  refine ⟨w2, ?_⟩
  (repeat (refine sx_RU.step rfl rfl ?_))
  refine sx_RU.call rfl rfl rfl rfl h1 ?_
  (repeat (refine sx_RU.step rfl rfl ?_))
  refine sx_RU.call rfl rfl (sx_inv_v rfl rfl hw rfl) rfl h2 ?_
  refine sx_RU.br rfl rfl (fun _ => ?_) (fun q => absurd rfl (of_decide_eq_false q))
  (repeat (refine sx_RU.step rfl rfl ?_))
  refine sx_RU.br rfl rfl (fun _ => ?_) (fun q => absurd (show (6 : Int32) - 6 < 6 by decide) (of_decide_eq_false q))
  (repeat (refine sx_RU.step rfl rfl ?_))
  exact sx_RU.ret rfl rfl
theorem lw_c31 (a0 a1 a2 a3 a4 a5 : Int32) (h : sx_twoI [a0, a1, a2, a3, a4, a5] 87 208 [.int a1, .int a2]) : ∃ w2, sx_RU (some [a0, a1, a2, a3, a4, a5]) 8 246 1139 sx_l3 [] sx_w0 (some (.int 1)) w2 := by
  obtain ⟨v, w1, w2, fs, hw, h1, h2⟩ := h
  refine ⟨w2, ?_⟩
  (repeat (refine sx_RU.step rfl rfl ?_))
  refine sx_RU.call rfl rfl rfl rfl h1 ?_
  (repeat (refine sx_RU.step rfl rfl ?_))
  refine sx_RU.call rfl rfl (sx_inv_v rfl rfl hw rfl) rfl h2 ?_
  refine sx_RU.br rfl rfl (fun _ => ?_) (fun q => absurd rfl (of_decide_eq_false q))
  (repeat (refine sx_RU.step rfl rfl ?_))
  refine sx_RU.br rfl rfl (fun _ => ?_) (fun q => absurd (show (6 : Int32) - 6 < 6 by decide) (of_decide_eq_false q))
  (repeat (refine sx_RU.step rfl rfl ?_))
  exact sx_RU.ret rfl rfl
theorem lw_c32 (a0 a1 a2 a3 a4 a5 : Int32) (h : sx_twoI [a0, a1, a2, a3, a4, a5] 90 209 []) : ∃ w2, sx_RU (some [a0, a1, a2, a3, a4, a5]) 8 246 1172 sx_l3 [] sx_w0 (some (.int 1)) w2 := by
  obtain ⟨v, w1, w2, fs, hw, h1, h2⟩ := h
  refine ⟨w2, ?_⟩
  (repeat (refine sx_RU.step rfl rfl ?_))
  refine sx_RU.call rfl rfl rfl rfl h1 ?_
  (repeat (refine sx_RU.step rfl rfl ?_))
  refine sx_RU.call rfl rfl (sx_inv_v rfl rfl hw rfl) rfl h2 ?_
  refine sx_RU.br rfl rfl (fun _ => ?_) (fun q => absurd rfl (of_decide_eq_false q))
  (repeat (refine sx_RU.step rfl rfl ?_))
  refine sx_RU.br rfl rfl (fun _ => ?_) (fun q => absurd (show (6 : Int32) - 6 < 6 by decide) (of_decide_eq_false q))
  (repeat (refine sx_RU.step rfl rfl ?_))
  exact sx_RU.ret rfl rfl
theorem lw_c33 (a0 a1 a2 a3 a4 a5 : Int32) (h : sx_twoI [a0, a1, a2, a3, a4, a5] 92 210 []) : ∃ w2, sx_RU (some [a0, a1, a2, a3, a4, a5]) 8 246 1185 sx_l3 [] sx_w0 (some (.int 1)) w2 := by
  obtain ⟨v, w1, w2, fs, hw, h1, h2⟩ := h
  refine ⟨w2, ?_⟩
  (repeat (refine sx_RU.step rfl rfl ?_))
  refine sx_RU.call rfl rfl rfl rfl h1 ?_
  (repeat (refine sx_RU.step rfl rfl ?_))
  refine sx_RU.call rfl rfl (sx_inv_v rfl rfl hw rfl) rfl h2 ?_
  refine sx_RU.br rfl rfl (fun _ => ?_) (fun q => absurd rfl (of_decide_eq_false q))
  (repeat (refine sx_RU.step rfl rfl ?_))
  refine sx_RU.br rfl rfl (fun _ => ?_) (fun q => absurd (show (6 : Int32) - 6 < 6 by decide) (of_decide_eq_false q))
  (repeat (refine sx_RU.step rfl rfl ?_))
  exact sx_RU.ret rfl rfl
theorem lw_c34 (a0 a1 a2 a3 a4 a5 : Int32) (h : sx_twoI [a0, a1, a2, a3, a4, a5] 111 230 [.int a1, .int a2, .int a3]) : ∃ w2, sx_RU (some [a0, a1, a2, a3, a4, a5]) 8 246 1198 sx_l3 [] sx_w0 (some (.int 1)) w2 := by
  obtain ⟨v, w1, w2, fs, hw, h1, h2⟩ := h
  refine ⟨w2, ?_⟩
  (repeat (refine sx_RU.step rfl rfl ?_))
  refine sx_RU.call rfl rfl rfl rfl h1 ?_
  (repeat (refine sx_RU.step rfl rfl ?_))
  refine sx_RU.call rfl rfl (sx_inv_v rfl rfl hw rfl) rfl h2 ?_
  refine sx_RU.br rfl rfl (fun _ => ?_) (fun q => absurd rfl (of_decide_eq_false q))
  (repeat (refine sx_RU.step rfl rfl ?_))
  refine sx_RU.br rfl rfl (fun _ => ?_) (fun q => absurd (show (6 : Int32) - 6 < 6 by decide) (of_decide_eq_false q))
  (repeat (refine sx_RU.step rfl rfl ?_))
  exact sx_RU.ret rfl rfl
theorem lw_c35 (a0 a1 a2 a3 a4 a5 : Int32) (h : sx_twoL [a0, a1, a2, a3, a4, a5] 115 232 [.int a1, .int a2, .long ((a3.toInt64 <<< ((32 : Int32).toInt64 &&& 63)) ||| (a4.toInt64 &&& 4294967295))]) : ∃ w2, sx_RU (some [a0, a1, a2, a3, a4, a5]) 8 246 1241 sx_l3 [] sx_w0 (some (.int 1)) w2 := by
  obtain ⟨v, w1, w2, fs, hw, h1, h2⟩ := h
  refine ⟨w2, ?_⟩
  (repeat (refine sx_RU.step rfl rfl ?_))
  refine sx_RU.call rfl rfl rfl rfl h1 ?_
  (repeat (refine sx_RU.step rfl rfl ?_))
  refine sx_RU.call rfl rfl (sx_inv_v rfl rfl hw rfl) rfl h2 ?_
  refine sx_RU.step rfl rfl ?_
  refine sx_RU.br rfl rfl (fun _ => ?_) (fun q => absurd (sx_cmp0 v) (of_decide_eq_false q))
  (repeat (refine sx_RU.step rfl rfl ?_))
  refine sx_RU.br rfl rfl (fun _ => ?_) (fun q => absurd (show (6 : Int32) - 6 < 6 by decide) (of_decide_eq_false q))
  (repeat (refine sx_RU.step rfl rfl ?_))
  exact sx_RU.ret rfl rfl
theorem lw_c36 (a0 a1 a2 a3 a4 a5 : Int32) (h : sx_twoI [a0, a1, a2, a3, a4, a5] 118 234 [.int a1, .int a2, .int a3, .int a4, .int a5]) : ∃ w2, sx_RU (some [a0, a1, a2, a3, a4, a5]) 8 246 1315 sx_l3 [] sx_w0 (some (.int 1)) w2 := by
  obtain ⟨v, w1, w2, fs, hw, h1, h2⟩ := h
  refine ⟨w2, ?_⟩
  (repeat (refine sx_RU.step rfl rfl ?_))
  refine sx_RU.call rfl rfl rfl rfl h1 ?_
  (repeat (refine sx_RU.step rfl rfl ?_))
  refine sx_RU.call rfl rfl (sx_inv_v rfl rfl hw rfl) rfl h2 ?_
  refine sx_RU.br rfl rfl (fun _ => ?_) (fun q => absurd rfl (of_decide_eq_false q))
  (repeat (refine sx_RU.step rfl rfl ?_))
  refine sx_RU.br rfl rfl (fun _ => ?_) (fun q => absurd (show (6 : Int32) - 6 < 6 by decide) (of_decide_eq_false q))
  (repeat (refine sx_RU.step rfl rfl ?_))
  exact sx_RU.ret rfl rfl
theorem lw_c37 (a0 a1 a2 a3 a4 a5 : Int32) (h : sx_twoI [a0, a1, a2, a3, a4, a5] 120 235 [.int a1, .int a2]) : ∃ w2, sx_RU (some [a0, a1, a2, a3, a4, a5]) 8 246 1378 sx_l3 [] sx_w0 (some (.int 1)) w2 := by
  obtain ⟨v, w1, w2, fs, hw, h1, h2⟩ := h
  refine ⟨w2, ?_⟩
  (repeat (refine sx_RU.step rfl rfl ?_))
  refine sx_RU.call rfl rfl rfl rfl h1 ?_
  (repeat (refine sx_RU.step rfl rfl ?_))
  refine sx_RU.call rfl rfl (sx_inv_v rfl rfl hw rfl) rfl h2 ?_
  refine sx_RU.br rfl rfl (fun _ => ?_) (fun q => absurd rfl (of_decide_eq_false q))
  (repeat (refine sx_RU.step rfl rfl ?_))
  refine sx_RU.br rfl rfl (fun _ => ?_) (fun q => absurd (show (6 : Int32) - 6 < 6 by decide) (of_decide_eq_false q))
  (repeat (refine sx_RU.step rfl rfl ?_))
  exact sx_RU.ret rfl rfl
theorem lw_c38 (a0 a1 a2 a3 a4 a5 : Int32) (h : sx_twoI [a0, a1, a2, a3, a4, a5] 121 236 [.int a1]) : ∃ w2, sx_RU (some [a0, a1, a2, a3, a4, a5]) 8 246 1411 sx_l3 [] sx_w0 (some (.int 1)) w2 := by
  obtain ⟨v, w1, w2, fs, hw, h1, h2⟩ := h
  refine ⟨w2, ?_⟩
  (repeat (refine sx_RU.step rfl rfl ?_))
  refine sx_RU.call rfl rfl rfl rfl h1 ?_
  (repeat (refine sx_RU.step rfl rfl ?_))
  refine sx_RU.call rfl rfl (sx_inv_v rfl rfl hw rfl) rfl h2 ?_
  refine sx_RU.br rfl rfl (fun _ => ?_) (fun q => absurd rfl (of_decide_eq_false q))
  (repeat (refine sx_RU.step rfl rfl ?_))
  refine sx_RU.br rfl rfl (fun _ => ?_) (fun q => absurd (show (6 : Int32) - 6 < 6 by decide) (of_decide_eq_false q))
  (repeat (refine sx_RU.step rfl rfl ?_))
  exact sx_RU.ret rfl rfl
theorem lw_c39 (a0 a1 a2 a3 a4 a5 : Int32) (h : sx_twoI [a0, a1, a2, a3, a4, a5] 122 238 [.int a1]) : ∃ w2, sx_RU (some [a0, a1, a2, a3, a4, a5]) 8 246 1434 sx_l3 [] sx_w0 (some (.int 1)) w2 := by
  obtain ⟨v, w1, w2, fs, hw, h1, h2⟩ := h
  refine ⟨w2, ?_⟩
  (repeat (refine sx_RU.step rfl rfl ?_))
  refine sx_RU.call rfl rfl rfl rfl h1 ?_
  (repeat (refine sx_RU.step rfl rfl ?_))
  refine sx_RU.call rfl rfl (sx_inv_v rfl rfl hw rfl) rfl h2 ?_
  refine sx_RU.br rfl rfl (fun _ => ?_) (fun q => absurd rfl (of_decide_eq_false q))
  (repeat (refine sx_RU.step rfl rfl ?_))
  refine sx_RU.br rfl rfl (fun _ => ?_) (fun q => absurd (show (6 : Int32) - 6 < 6 by decide) (of_decide_eq_false q))
  (repeat (refine sx_RU.step rfl rfl ?_))
  exact sx_RU.ret rfl rfl
theorem lw_c40 (a0 a1 a2 a3 a4 a5 : Int32) (h : sx_twoI [a0, a1, a2, a3, a4, a5] 124 240 []) : ∃ w2, sx_RU (some [a0, a1, a2, a3, a4, a5]) 8 246 1457 sx_l3 [] sx_w0 (some (.int 1)) w2 := by
  obtain ⟨v, w1, w2, fs, hw, h1, h2⟩ := h
  refine ⟨w2, ?_⟩
  (repeat (refine sx_RU.step rfl rfl ?_))
  refine sx_RU.call rfl rfl rfl rfl h1 ?_
  (repeat (refine sx_RU.step rfl rfl ?_))
  refine sx_RU.call rfl rfl (sx_inv_v rfl rfl hw rfl) rfl h2 ?_
  refine sx_RU.br rfl rfl (fun _ => ?_) (fun q => absurd rfl (of_decide_eq_false q))
  (repeat (refine sx_RU.step rfl rfl ?_))
  refine sx_RU.br rfl rfl (fun _ => ?_) (fun q => absurd (show (6 : Int32) - 6 < 6 by decide) (of_decide_eq_false q))
  (repeat (refine sx_RU.step rfl rfl ?_))
  exact sx_RU.ret rfl rfl
theorem lw_c41 (a0 a1 a2 a3 a4 a5 : Int32) (h : sx_twoI [a0, a1, a2, a3, a4, a5] 125 241 []) : ∃ w2, sx_RU (some [a0, a1, a2, a3, a4, a5]) 8 246 1470 sx_l3 [] sx_w0 (some (.int 1)) w2 := by
  obtain ⟨v, w1, w2, fs, hw, h1, h2⟩ := h
  refine ⟨w2, ?_⟩
  (repeat (refine sx_RU.step rfl rfl ?_))
  refine sx_RU.call rfl rfl rfl rfl h1 ?_
  (repeat (refine sx_RU.step rfl rfl ?_))
  refine sx_RU.call rfl rfl (sx_inv_v rfl rfl hw rfl) rfl h2 ?_
  refine sx_RU.br rfl rfl (fun _ => ?_) (fun q => absurd rfl (of_decide_eq_false q))
  (repeat (refine sx_RU.step rfl rfl ?_))
  refine sx_RU.br rfl rfl (fun _ => ?_) (fun q => absurd (show (6 : Int32) - 6 < 6 by decide) (of_decide_eq_false q))
  (repeat (refine sx_RU.step rfl rfl ?_))
  exact sx_RU.ret rfl rfl
theorem lw_c42 (a0 a1 a2 a3 a4 a5 : Int32) (h : sx_twoI [a0, a1, a2, a3, a4, a5] 126 242 []) : ∃ w2, sx_RU (some [a0, a1, a2, a3, a4, a5]) 8 246 1483 sx_l3 [] sx_w0 (some (.int 1)) w2 := by
  obtain ⟨v, w1, w2, fs, hw, h1, h2⟩ := h
  refine ⟨w2, ?_⟩
  (repeat (refine sx_RU.step rfl rfl ?_))
  refine sx_RU.call rfl rfl rfl rfl h1 ?_
  (repeat (refine sx_RU.step rfl rfl ?_))
  refine sx_RU.call rfl rfl (sx_inv_v rfl rfl hw rfl) rfl h2 ?_
  refine sx_RU.br rfl rfl (fun _ => ?_) (fun q => absurd rfl (of_decide_eq_false q))
  (repeat (refine sx_RU.step rfl rfl ?_))
  refine sx_RU.br rfl rfl (fun _ => ?_) (fun q => absurd (show (6 : Int32) - 6 < 6 by decide) (of_decide_eq_false q))
  (repeat (refine sx_RU.step rfl rfl ?_))
  exact sx_RU.ret rfl rfl
theorem lw_c43 (a0 a1 a2 a3 a4 a5 : Int32) (h : sx_twoI [a0, a1, a2, a3, a4, a5] 127 243 [.int a1]) : ∃ w2, sx_RU (some [a0, a1, a2, a3, a4, a5]) 8 246 1496 sx_l3 [] sx_w0 (some (.int 1)) w2 := by
  obtain ⟨v, w1, w2, fs, hw, h1, h2⟩ := h
  refine ⟨w2, ?_⟩
  (repeat (refine sx_RU.step rfl rfl ?_))
  refine sx_RU.call rfl rfl rfl rfl h1 ?_
  (repeat (refine sx_RU.step rfl rfl ?_))
  refine sx_RU.call rfl rfl (sx_inv_v rfl rfl hw rfl) rfl h2 ?_
  refine sx_RU.br rfl rfl (fun _ => ?_) (fun q => absurd rfl (of_decide_eq_false q))
  (repeat (refine sx_RU.step rfl rfl ?_))
  refine sx_RU.br rfl rfl (fun _ => ?_) (fun q => absurd (show (6 : Int32) - 6 < 6 by decide) (of_decide_eq_false q))
  (repeat (refine sx_RU.step rfl rfl ?_))
  exact sx_RU.ret rfl rfl
theorem lw_c44 (a0 a1 a2 a3 a4 a5 : Int32) (h : sx_twoI [a0, a1, a2, a3, a4, a5] 128 245 [.int a1]) : ∃ w2, sx_RU (some [a0, a1, a2, a3, a4, a5]) 8 246 1519 sx_l3 [] sx_w0 (some (.int 1)) w2 := by
  obtain ⟨v, w1, w2, fs, hw, h1, h2⟩ := h
  refine ⟨w2, ?_⟩
  (repeat (refine sx_RU.step rfl rfl ?_))
  refine sx_RU.call rfl rfl rfl rfl h1 ?_
  (repeat (refine sx_RU.step rfl rfl ?_))
  refine sx_RU.call rfl rfl (sx_inv_v rfl rfl hw rfl) rfl h2 ?_
  refine sx_RU.br rfl rfl (fun _ => ?_) (fun q => absurd rfl (of_decide_eq_false q))
  (repeat (refine sx_RU.step rfl rfl ?_))
  refine sx_RU.br rfl rfl (fun _ => ?_) (fun q => absurd (show (6 : Int32) - 6 < 6 by decide) (of_decide_eq_false q))
  (repeat (refine sx_RU.step rfl rfl ?_))
  exact sx_RU.ret rfl rfl
