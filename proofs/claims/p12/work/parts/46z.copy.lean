-- copying of rows
theorem cpy_all {α : Type} {f g : List α} {n : Nat} (hf : f.length = n) (hg : g.length = n) : sx_cpy f g 0 0 n = f := by
  unfold sx_cpy
  subst hf
  rw [List.take_zero, List.drop_zero, List.take_length, Nat.zero_add, ← hg, List.drop_length, List.append_nil, List.nil_append]
section SXK
variable {xs : Option (List Int32)} {d mi pc pc2 idx p : Nat} {ls : sx_L} {r : List Value} {w w0 : List sx_C} {P : Option Value → List sx_C → Prop}
theorem sx_RP.acI {a b n : Nat} {x : Int32} {f g : List Int32} (hi : sx_ins mi pc = some (.invokestatic idx, 3)) (hq : sx_lk (sx_ac (sx_own mi)) idx = some p) (hr : Nat.ble (r.map (fun v => v.category)).sum 8 = true) (hx : x = nI n) (hn : n < 2 ^ 31) (hb : w[b]? = some (.inl (0, f))) (ha : w[a]? = some (.inl (0, g))) (hf : f.length = n) (hg : g.length = n) (hp : pc + 3 = pc2) (kk : sx_RP xs d mi pc2 ls r (w.set a (.inl (0, f))) P) : sx_RP xs d mi pc ls (.int x :: .int 0 :: .ref a :: .int 0 :: .ref b :: r) w P := by
  subst hp
  subst hx
  refine sx_RP.step hi (show sx_acp (sx_own mi) idx ls pc (.int (nI n) :: .int 0 :: .ref a :: .int 0 :: .ref b :: r) w = some (pc + 3, ls, r, w.set a (.inl (0, f))) from ?_) kk
  unfold sx_acp
  simp only
  rw [hq]
  simp only
  rw [decide_eq_false (show ¬ nI n < 0 from nI_pos hn), hr, hb, ha]
  simp only [show decide ((0 : Int32) < 0) = false from rfl, Bool.not_false, Bool.and_self, cond_true]
  rw [nI_clamp hn, show (0 : Int32).toNatClampNeg = 0 from rfl, cpy_all hf hg, Nat.zero_add, hf, hg]
  simp only [show Nat.ble n n = true from Nat.ble_self_eq_true n, Bool.and_self, cond_true]
theorem sx_RP.acS {A B : Nat} (hI : WI w) (hE : EC w0 w) (hA : isA A) (hB : isA B) (hi : sx_ins mi pc = some (.invokestatic idx, 3)) (hq : sx_lk (sx_ac (sx_own mi)) idx = some p) (hr : Nat.ble (r.map (fun v => v.category)).sum 8 = true) (hp : pc + 3 = pc2) (kk : ∀ w2, WI w2 → EC w0 w2 → sx_RP xs d mi pc2 ls r w2 P) : sx_RP xs d mi pc ls (.int 48 :: .int 0 :: .ref (A + 1) :: .int 0 :: .ref (B + 1) :: r) w P := by
  have h1 := hI.1.aS hA
  have h2 := hI.1.aS hB
  have h3 : A + 1 < 111 ∧ A + 1 ≠ 0 ∧ A + 1 ≠ 96 ∧ A + 1 ≠ 103 ∧ A + 1 ≠ 105 ∧ A + 1 ≠ 107 ∧ A + 1 ≠ 109 ∧ A + 1 ≠ 111 ∧ A + 1 ≠ 122 ∧ A + 1 ≠ 123 := by unfold isA at hA; omega
  refine sx_RP.acI (n := 48) hi hq hr rfl (by decide) h2.1 h1.1 h2.2 h1.2 hp (kk _ (hI.set h1.1 ?_ (cOK.st hA (fun k hk => hI.st hB hk))) (hE.set h1.1 h3.1 (kp_n h3.2)))
  show (.inl (0, List.replicate (ia w (B + 1)).length 0) : sx_C) = .inl (0, List.replicate (ia w (A + 1)).length 0)
  rw [h1.2, h2.2]
theorem sx_RP.acD {A B : Nat} (hI : WI w) (hE : EC w0 w) (hA : isA A) (hB : isA B) (hi : sx_ins mi pc = some (.invokestatic idx, 3)) (hq : sx_lk (sx_ac (sx_own mi)) idx = some p) (hr : Nat.ble (r.map (fun v => v.category)).sum 8 = true) (hp : pc + 3 = pc2) (kk : ∀ w2, WI w2 → EC w0 w2 → sx_RP xs d mi pc2 ls r w2 P) : sx_RP xs d mi pc ls (.int 9 :: .int 0 :: .ref (A + 3) :: .int 0 :: .ref (B + 3) :: r) w P := by
  have h1 := hI.1.aD hA
  have h2 := hI.1.aD hB
  have h3 : A + 3 < 111 ∧ A + 3 ≠ 0 ∧ A + 3 ≠ 96 ∧ A + 3 ≠ 103 ∧ A + 3 ≠ 105 ∧ A + 3 ≠ 107 ∧ A + 3 ≠ 109 ∧ A + 3 ≠ 111 ∧ A + 3 ≠ 122 ∧ A + 3 ≠ 123 := by unfold isA at hA; omega
  refine sx_RP.acI (n := 9) hi hq hr rfl (by decide) h2.1 h1.1 h2.2 h1.2 hp (kk _ (hI.set h1.1 ?_ (cOK.di hA (fun k hk => hI.di hB hk))) (hE.set h1.1 h3.1 (kp_n h3.2)))
  show (.inl (0, List.replicate (ia w (B + 3)).length 0) : sx_C) = .inl (0, List.replicate (ia w (A + 3)).length 0)
  rw [h1.2, h2.2]
end SXK
-- the sound's own rows: what they leave
theorem WI.st4 {w : List sx_C} (h : WI w) {A : Nat} (hA : isA A) : st4 (ia w (A + 1)) := fun c hc => by
  obtain ⟨j, hj, e⟩ := h.st hA hc
  exact ⟨j, by omega, e⟩
theorem sh_len {t : Nat} {l l2 : List Int32} (h : l2.length = l.length) : sx_sh (.inl (t, l2)) = sx_sh (.inl (t, l)) := by
  show (.inl (t, List.replicate l2.length 0) : sx_C) = .inl (t, List.replicate l.length 0)
  rw [h]
theorem WI.fr {w : List sx_C} (h : WI w) {a t : Nat} {l l2 : List Int32} (hw : w[a]? = some (.inl (t, l))) (hl : l2.length = l.length) (hf : (44 ≤ a ∧ a ≤ 95) ∨ (97 ≤ a ∧ a ≤ 102)) : WI (w.set a (.inl (t, l2))) := h.set hw (sh_len hl) (cOK.free (by omega))
theorem EC.fr {w0 w : List sx_C} (h : EC w0 w) {a : Nat} {c c2 : sx_C} (hw : w[a]? = some c) (hf : (44 ≤ a ∧ a ≤ 95) ∨ (97 ≤ a ∧ a ≤ 102)) : EC w0 (w.set a c2) := h.set hw (by omega) (kp_n (by omega))
theorem flF_l {v : Int32} {l : List Int32} {n : Nat} (h : l.length = n) : (flF v n 0 l).length = n := flF_len n 0 l h
theorem knF_len {sm : Int32} {kn : List Int32} (h : kn.length = 48) : (knF sm kn).length = 48 := by
  unfold knF
  split
  · exact flF_len 48 0 _ h
  · exact h
theorem s16 {xs : Option (List Int32)} {d : Nat} {w : List sx_C} (hI : WI w) {A : Nat} (hA : isA A) : sx_RP xs d 16 0 (lv_args 0 [.ref 44, .ref (A + 1)]) [] w (fun r w2 => r = none ∧ WI w2 ∧ EC w w2) := by
  have h45 := hI.1.a45
  have h95 := hI.1.a95
  have hS := hI.1.aS hA
  have h1 : A + 1 ≠ 45 ∧ A + 1 ≠ 95 := by unfold isA at hA; omega
  have c := cp_16 (xs := xs) (d := d) hI.1.o44 h45.1 h95.1 hS.1 h1.1 h1.2 hS.2 (hI.st4 hA) h45.2 h95.2
  have e1 : (ftF (ia w (A + 1)) 48 0 (ia w 45, 1)).1.length = 48 := ftF_len 48 0 (ia w 45, 1) h45.2
  refine c.rp ⟨rfl, ?_, ?_⟩
  · refine (hI.fr h45.1 (by rw [e1, h45.2]) (by decide)).fr (sx_gn2 (by decide) h95.1) (by rw [knF_len h95.2, h95.2]) (by decide)
  · exact (EC.rf.fr h45.1 (by decide)).fr (sx_gn2 (by decide) h95.1) (by decide)
theorem s17 {xs : Option (List Int32)} {d : Nat} {w : List sx_C} (hI : WI w) {t : Nat} (ht : t < 48) : sx_RP xs (d + 3) 17 0 (lv_args 0 [.ref 44, .int (nI t)]) [] w (fun r w2 => r = some (.ref (47 + t)) ∧ WI w2 ∧ EC w w2) := by
  have h45 := hI.1.a45
  have h95 := hI.1.a95
  have hR := hI.1.aR ht
  by_cases hk : (ia w 95).getD t 0 = 0
  · have c := cp_17 (xs := xs) (d := d) hI.1.o44 h45.1 hI.1.a46 h95.1 hR.1 h45.2 h95.2 ht hR.2 hk
    refine c.rp ⟨rfl, ?_, ?_⟩
    · exact (hI.fr h95.1 (List.length_set ..) (by decide)).fr (sx_gn2 (by omega) hR.1) (by rw [adF_len 48 0 _ (spF_len hR.2), hR.2]) (by omega)
    · exact (EC.rf.fr h95.1 (by decide)).fr (sx_gn2 (by omega) hR.1) (by omega)
  · have c := cp_17k (xs := xs) (d := d + 3) hI.1.o44 h45.1 hI.1.a46 h95.1 hR.1 h45.2 h95.2 ht hk
    exact c.rp ⟨rfl, hI, EC.rf⟩
theorem s18 {xs : Option (List Int32)} {d : Nat} {w : List sx_C} (hI : WI w) {t : Nat} (ht : t < 48) : sx_RP xs (d + 2) 18 0 (lv_args 0 [.int (nI t), .ref 100, .ref 101]) [] w (fun r w2 => r = none ∧ WI w2 ∧ EC w w2) := by
  have h1 := hI.1.a100
  have h2 := hI.1.a101
  have c := cp_18 (xs := xs) (d := d) h1.1 h2.1 (by decide) h1.2 h2.2 ht
  refine c.rp ⟨rfl, ?_, ?_⟩
  · exact hI.fr h2.1 (by rw [spF_len h2.2, h2.2]) (by decide)
  · exact EC.rf.fr h2.1 (by decide)
