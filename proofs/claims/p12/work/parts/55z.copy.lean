-- copying among sheets
theorem cpy_len {α : Type} {f g : List α} {sp dp n : Nat} (h1 : sp + n ≤ f.length) (h2 : dp + n ≤ g.length) : (sx_cpy f g sp dp n).length = g.length := by
  unfold sx_cpy
  rw [List.length_append, List.length_append, List.length_take, List.length_take, List.length_drop, List.length_drop]
  omega
section SXK2
variable {xs : Option (List Int32)} {d mi pc pc2 idx p : Nat} {ls : sx_L} {r : List Value} {w w0 : List sx_C} {P : Option Value → List sx_C → Prop}
theorem sx_RP.acN {s t f g n : Nat} (hI : WI w) (hE : EC w0 w) (hs : s < 4) (ht : t < 4) (h1 : f + n ≤ 40) (h2 : g + n ≤ 40) (hi : sx_ins mi pc = some (.invokestatic idx, 3)) (hq : sx_lk (sx_ac (sx_own mi)) idx = some p) (hr : Nat.ble (r.map (fun v => v.category)).sum 8 = true) (hp : pc + 3 = pc2) (kk : ∀ w2, WI w2 → EC w0 w2 → sx_RP xs d mi pc2 ls r w2 P) : sx_RP xs d mi pc ls (.int (nI n) :: .int (nI g) :: .ref (104 + 2 * t) :: .int (nI f) :: .ref (104 + 2 * s) :: r) w P := by
  subst hp
  have ha := hI.1.aN ht
  have hb := hI.1.aN hs
  have hl := cpy_len (f := ja w (104 + 2 * s)) (g := ja w (104 + 2 * t)) (sp := f) (dp := g) (n := n) (by omega) (by omega)
  have hsh : sx_sh (.inr (.inl (3, sx_cpy (ja w (104 + 2 * s)) (ja w (104 + 2 * t)) f g n))) = sx_sh (.inr (.inl (3, ja w (104 + 2 * t)))) := by
    show (.inr (.inl (3, List.replicate (sx_cpy (ja w (104 + 2 * s)) (ja w (104 + 2 * t)) f g n).length 0)) : sx_C) = .inr (.inl (3, List.replicate (ja w (104 + 2 * t)).length 0))
    rw [hl]
  refine sx_RP.step hi (show sx_acp (sx_own mi) idx ls pc (.int (nI n) :: .int (nI g) :: .ref (104 + 2 * t) :: .int (nI f) :: .ref (104 + 2 * s) :: r) w = some (pc + 3, ls, r, w.set (104 + 2 * t) (.inr (.inl (3, sx_cpy (ja w (104 + 2 * s)) (ja w (104 + 2 * t)) f g n)))) from ?_) (kk _ (hI.set ha.1 hsh (cOK.free (by omega))) (hE.set ha.1 (by omega) (kp_n (by omega))))
  unfold sx_acp
  simp only
  rw [hq]
  simp only
  rw [decide_eq_false (nI_pos (n := f) (by omega)), decide_eq_false (nI_pos (n := g) (by omega)), decide_eq_false (nI_pos (n := n) (by omega)), hr, hb.1, ha.1]
  simp only [Bool.not_false, Bool.and_self, cond_true]
  rw [nI_clamp (n := f) (by omega), nI_clamp (n := g) (by omega), nI_clamp (n := n) (by omega), hb.2, ha.2, show Nat.ble (f + n) 40 = true from Nat.ble_eq.mpr h1, show Nat.ble (g + n) 40 = true from Nat.ble_eq.mpr h2]
  rfl
end SXK2
theorem run_of {x y : Int32} {n : Nat} (hn : n ≤ 40) (q1 : ¬ x < 0) (q2 : ¬ y < 0) (q3 : ¬ nI n < x) (q4 : ¬ nI n - x < y) : ∃ f m, x = nI f ∧ y = nI m ∧ f + m ≤ 40 := by
  obtain ⟨f, hf, rfl⟩ := nI_of q1
  obtain ⟨m, hm, rfl⟩ := nI_of q2
  have h3 := mt (nI_ltI (by omega) hf).mpr q3
  rw [nI_sub (by omega)] at q4
  have h4 := mt (nI_ltI (by omega) hm).mpr q4
  exact ⟨f, m, rfl, rfl, by omega⟩
