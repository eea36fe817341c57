-- runs with what must hold behind them: calls are gone through where they stand
def sx_RP (xs : Option (List Int32)) (d mi pc : Nat) (ls : sx_L) (st : List Value) (w : List sx_C) (P : Option Value → List sx_C → Prop) : Prop := ∃ r w2, sx_RU xs d mi pc ls st w r w2 ∧ P r w2
section SXP
variable {xs : Option (List Int32)} {d mi pc : Nat} {ls : sx_L} {st : List Value} {w : List sx_C} {P : Option Value → List sx_C → Prop}
theorem sx_RP.step {i : Instr} {n pc2 : Nat} {ls2 : sx_L} {st2 : List Value} {w3 : List sx_C} (hi : sx_ins mi pc = some (i, n)) (hs : sx_step false xs mi pc i n ls st w = some (pc2, ls2, st2, w3)) (k : sx_RP xs d mi pc2 ls2 st2 w3 P) : sx_RP xs d mi pc ls st w P := by
  obtain ⟨r, w2, h, hp⟩ := k
  exact ⟨r, w2, sx_RU.step hi hs h, hp⟩
theorem sx_RP.br {i : Instr} {n : Nat} {b : Bool} {p1 p2 : Nat} {l1 l2 : sx_L} {s1 s2 : List Value} {v1 v2 : List sx_C} (hi : sx_ins mi pc = some (i, n)) (hs : sx_step false xs mi pc i n ls st w = cond b (some (p1, l1, s1, v1)) (some (p2, l2, s2, v2))) (k1 : b = true → sx_RP xs d mi p1 l1 s1 v1 P) (k2 : b = false → sx_RP xs d mi p2 l2 s2 v2 P) : sx_RP xs d mi pc ls st w P := by
  cases b with
  | true => exact sx_RP.step hi hs (k1 rfl)
  | false => exact sx_RP.step hi hs (k2 rfl)
theorem sx_RP.ret {i : Instr} {r : Option Value} (hi : sx_ins mi pc = some (i, 1)) (hr : sx_ret mi i st = some r) (k : P r w) : sx_RP xs d mi pc ls st w P := ⟨r, w, sx_RU.ret hi hr, k⟩
theorem sx_RP.callu {i : Instr} {mi2 : Nat} {as rest : List Value} {r2 : Option Value} {w4 : List sx_C} (hi : sx_ins mi pc = some (i, 3)) (hs : sx_step false xs mi pc i 3 ls st w = none) (hv : sx_inv mi i st w = some (mi2, as, rest)) (hm : Nat.ble (as.map (fun v => v.category)).sum (sx_maxL mi2) = true) (hc : sx_RU xs d mi2 0 (lv_args 0 as) [] w r2 w4) (k : sx_RP xs (d + 1) mi (pc + 3) ls (r2.toList ++ rest) w4 P) : sx_RP xs (d + 1) mi pc ls st w P := by
  obtain ⟨r, w2, h, hp⟩ := k
  exact ⟨r, w2, sx_RU.call hi hs hv hm hc h, hp⟩
theorem sx_RP.call {i : Instr} {mi2 : Nat} {as rest : List Value} (hi : sx_ins mi pc = some (i, 3)) (hs : sx_step false xs mi pc i 3 ls st w = none) (hv : sx_inv mi i st w = some (mi2, as, rest)) (hm : Nat.ble (as.map (fun v => v.category)).sum (sx_maxL mi2) = true) (k : sx_RP xs d mi2 0 (lv_args 0 as) [] w (fun r2 w4 => sx_RP xs (d + 1) mi (pc + 3) ls (r2.toList ++ rest) w4 P)) : sx_RP xs (d + 1) mi pc ls st w P := by
  obtain ⟨r2, w4, h, hp⟩ := k
  exact sx_RP.callu hi hs hv hm h hp
theorem sx_RP.cu {i : Instr} {mi2 : Nat} {as rest rest2 st3 : List Value} {r2 : Option Value} {w4 : List sx_C} (hi : sx_ins mi pc = some (i, 3)) (hs : sx_step false xs mi pc i 3 ls st w = none) (hv : sx_inv mi i st w = some (mi2, as, rest)) (hm : Nat.ble (as.map (fun v => v.category)).sum (sx_maxL mi2) = true) (hr : rest = rest2) (hc : sx_RU xs d mi2 0 (lv_args 0 as) [] w r2 w4) (h3 : r2.toList ++ rest2 = st3) (k : sx_RP xs (d + 1) mi (pc + 3) ls st3 w4 P) : sx_RP xs (d + 1) mi pc ls st w P := by
  subst hr
  subst h3
  exact sx_RP.callu hi hs hv hm hc k
theorem sx_RP.cl {i : Instr} {mi2 : Nat} {as as2 rest rest2 : List Value} (hi : sx_ins mi pc = some (i, 3)) (hs : sx_step false xs mi pc i 3 ls st w = none) (hv : sx_inv mi i st w = some (mi2, as, rest)) (hm : Nat.ble (as.map (fun v => v.category)).sum (sx_maxL mi2) = true) (hr : rest = rest2) (ha : as = as2) (k : sx_RP xs d mi2 0 (lv_args 0 as2) [] w (fun r2 w4 => sx_RP xs (d + 1) mi (pc + 3) ls (r2.toList ++ rest2) w4 P)) : sx_RP xs (d + 1) mi pc ls st w P := by
  subst hr
  subst ha
  exact sx_RP.call hi hs hv hm k
theorem sx_RP.retc {i : Instr} {r : Option Value} {d2 mi2 pc2 : Nat} {ls2 : sx_L} {rest st3 : List Value} {P2 : Option Value → List sx_C → Prop} (hi : sx_ins mi pc = some (i, 1)) (hr : sx_ret mi i st = some r) (h3 : r.toList ++ rest = st3) (k : sx_RP xs d2 mi2 pc2 ls2 st3 w P2) : sx_RP xs d mi pc ls st w (fun r2 w4 => sx_RP xs d2 mi2 pc2 ls2 (r2.toList ++ rest) w4 P2) := by
  subst h3
  exact sx_RP.ret hi hr k
theorem sx_RP.at {pc2 : Nat} (hp : pc = pc2) (k : sx_RP xs d mi pc2 ls st w P) : sx_RP xs d mi pc ls st w P := by
  subst hp
  exact k
theorem sx_RP.mono {P2 : Option Value → List sx_C → Prop} (h : sx_RP xs d mi pc ls st w P) (hp : ∀ r w2, P r w2 → P2 r w2) : sx_RP xs d mi pc ls st w P2 := by
  obtain ⟨r, w2, h1, h2⟩ := h
  exact ⟨r, w2, h1, hp r w2 h2⟩
theorem sx_RU.rp {r : Option Value} {w2 : List sx_C} (h : sx_RU xs d mi pc ls st w r w2) (k : P r w2) : sx_RP xs d mi pc ls st w P := ⟨r, w2, h, k⟩
end SXP
theorem sx_inv_v {mi k a ci : Nat} {st r : List Value} {w : List sx_C} {q : Nat × Nat} {fs : List Value} (hq : sx_lk (sx_ml (sx_own mi)) k = some q) (hd : st.drop (sx_nar q.1) = .ref a :: r) (hw : w[a]? = some (.inr (.inr (.inr (ci, fs))))) (hc : (Nat.beq (sx_kd q.1) 1 && Nat.beq ci (sx_own q.1) && Nat.ble (r.map (fun v => v.category)).sum 8) = true) : sx_inv mi (.invokevirtual k) st w = some (q.1, .ref a :: (st.take (sx_nar q.1)).reverse, r) := by
  unfold sx_inv
  simp only
  rw [hq]
  simp only
  rw [hd]
  simp only
  rw [hw]
  simp only
  rw [hc]
  rfl
