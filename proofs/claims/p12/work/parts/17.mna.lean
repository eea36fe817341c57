-- new int[n][k]
theorem sx_w_link2 : Cond.classLink "PeasDrum$Sound" 15 "[[I" ∈ sx_tw := sx_twm (sx_memp (i := 200) (by decide +kernel)) rfl
theorem sx_outer (c : ClassId) (N g0 : Nat) : ∀ i : Nat, Jvm.Free.Multi.outerC c N g0 i = arrV c N (fun j => va_rf (if j < i then some (g0 + 1 + j) else none))
  | 0 => by
    show ({ cls := c, slots := Array.replicate N .null, vm := .none } : Cell) = _
    rw [arrV_new]
    exact congrArg (arrV c N) (funext fun j => by simp [va_rf])
  | i + 1 => by
    show (Jvm.Free.Multi.outerC c N g0 i).setSlot i (.ref (g0 + 1 + i)) = _
    rw [sx_outer c N g0 i, arrV_store]
    refine congrArg (arrV c N) (funext fun j => ?_)
    rcases Nat.lt_trichotomy j i with h | h | h
    · simp [updV, Nat.ne_of_lt h, h, Nat.lt_succ_of_lt h]
    · subst h
      simp [updV, va_rf]
    · simp [updV, Nat.ne_of_gt h, Nat.not_lt_of_gt h, show ¬ j < i + 1 by omega]
theorem sx_szr (n : Nat) (cw : sx_C) : sx_sz (List.replicate n cw) = n * sx_s cw := by
  induction n with
  | zero => simp [sx_sz]
  | succ n ih =>
    rw [List.replicate_succ]
    show sx_s cw + sx_sz (List.replicate n cw) = _
    rw [ih, Nat.succ_mul]
    omega
theorem sx_mna_ok : sx_MNA0 := by
  intro p l e R s m args below meth c Q D dA h0 sa n0 z0 nL pc ls st w F xs mi d idx dim X hd h hR K
  obtain ⟨hx, hb, hml, hown, hts, hnm, hfr, hlo, hG, hh, hmi⟩ := X
  unfold sx_mna at h
  split at h
  · rename_i k n r
    cases hbt : (Nat.beq (sx_own mi) 3 && Nat.beq idx 15 && Nat.beq dim 2 && sx_ln n && sx_ln k) with
    | false => rw [hbt] at h; cases h
    | true =>
      rw [hbt] at h
      cases h
      simp only [Bool.and_eq_true] at hbt
      obtain ⟨⟨⟨⟨b1, b2⟩, b3⟩, b4⟩, b5⟩ := hbt
      have hi15 : idx = 15 := Nat.eq_of_beq_eq_true b2
      have hd2 : dim = 2 := Nat.eq_of_beq_eq_true b3
      subst hi15
      subst hd2
      rw [Nat.eq_of_beq_eq_true b1] at hown
      obtain ⟨hn0, hn1⟩ := sx_ln_of b4
      obtain ⟨hk0, hk1⟩ := sx_ln_of b5
      intro H locs lsA hP hS hl h1 h2
      have h1 : n0 ≤ w.length := h1
      have h2 : z0 ≤ sx_sz w := h2
      have hsz : H.size = h0 + w.length := hP.2 rfl
      generalize hN : n.toNatClampNeg = N at *
      generalize hM : k.toNatClampNeg = M at *
      have hR1 : sx_ck true n0 (w ++ (.inr (.inr (.inl (6, (List.range N).map (fun i => some (w.length + 1 + i))))) :: List.replicate N (.inl (0, List.replicate M 0)))) ≤ R.cells := hR.1
      have hR2 : sx_cs true z0 (w ++ (.inr (.inr (.inl (6, (List.range N).map (fun i => some (w.length + 1 + i))))) :: List.replicate N (.inl (0, List.replicate M 0)))) ≤ R.slots := hR.2
      have eL : (w ++ (.inr (.inr (.inl (6, (List.range N).map (fun i => some (w.length + 1 + i))))) :: List.replicate N (.inl (0, List.replicate M 0)) : List sx_C)).length = w.length + 1 + N := by
        rw [List.length_append, List.length_cons, List.length_replicate]
        omega
      have eZ : sx_sz (w ++ (.inr (.inr (.inl (6, (List.range N).map (fun i => some (w.length + 1 + i))))) :: List.replicate N (.inl (0, List.replicate M 0)) : List sx_C)) = sx_sz w + N + N * M := by
        rw [sx_sz_app]
        show sx_sz w + (((List.range N).map (fun i => some (w.length + 1 + i))).length + sx_sz (List.replicate N (.inl (0, List.replicate M 0) : sx_C))) = _
        rw [sx_szr, List.length_map, List.length_range]
        show sx_sz w + (N + N * (List.replicate M (0 : Int32)).length) = _
        rw [List.length_replicate]
        omega
      have eK : sx_ck true n0 (w ++ (.inr (.inr (.inl (6, (List.range N).map (fun i => some (w.length + 1 + i))))) :: List.replicate N (.inl (0, List.replicate M 0)) : List sx_C)) = sx_ck true n0 w + 1 + N := by
        unfold sx_ck
        simp only [cond_true]
        rw [eL]
        omega
      have eS : sx_cs true z0 (w ++ (.inr (.inr (.inl (6, (List.range N).map (fun i => some (w.length + 1 + i))))) :: List.replicate N (.inl (0, List.replicate M 0)) : List sx_C)) = sx_cs true z0 w + N + N * M := by
        unfold sx_cs
        simp only [cond_true]
        rw [eZ]
        omega
      rw [eK] at hR1
      rw [eS] at hR2
      intro T hT Xs
      obtain ⟨vm₁, cA, comp, -, fA, fC, -, -, X', step⟩ := Xs.multianewarray2F hx (own := "PeasDrum$Sound") (index := 15) (ty := .int) hown (hts _ sx_w_link2) hG.2.2.2.2.2.1 (hts _ sx_w_acI) (g := F0 m pc lsA (.int k :: .int n :: r.map (sx_v h0 sa))) rfl (by rw [hb]; exact hd) rfl hn0 hk0 (by rw [hN]; omega) (by rw [hM]; show M * 4 ≤ _; omega) (by rw [hM]; omega) rfl rfl (by rw [hN]; show sx_ck true n0 w + (1 + N) ≤ _; omega) (by rw [hN, hM]; show sx_cs true z0 w + (N + N * M) ≤ _; omega)
      rw [hN, hM] at X' step
      have hcA : cA = dA 6 := by
        have := (hG.1.2 6 _ rfl).2
        exact Option.some.inj (fA.symm.trans this)
      have hcC : comp = dA 0 := by
        have := (hG.1.2 0 _ rfl).2
        exact Option.some.inj (fC.symm.trans this)
      generalize hF : Jvm.Free.Multi.fill (T.setVm vm₁) cA comp N M (defaultValue .int) N = U at X' step
      have hTh : (T.setVm vm₁).heap = H := hT
      obtain ⟨u1, u2, -, -⟩ := Jvm.Free.Multi.fill_facts (T.setVm vm₁) cA comp N M (defaultValue .int) N
      rw [hF, hTh] at u1 u2
      have hold : ∀ x : Nat, x < H.size → U.heap[x]? = H[x]? := fun x hx9 => by
        have := Jvm.Free.Multi.fill_old (T.setVm vm₁) cA comp N M (defaultValue .int) (a := x) (by rw [hTh]; exact hx9) N
        rw [hF, hTh] at this
        exact this
      have hrow : ∀ j : Nat, j < N → U.heap[H.size + 1 + j]? = some (Jvm.Free.Multi.innerC comp M (defaultValue .int)) := fun j hj => by
        have := Jvm.Free.Multi.fill_inner (T.setVm vm₁) cA comp N M (defaultValue .int) N j hj
        rw [hF, hTh] at this
        exact this
      have hP2 : sx_P D dA h0 sa true (w ++ (.inr (.inr (.inl (6, (List.range N).map (fun i => some (w.length + 1 + i))))) :: List.replicate N (.inl (0, List.replicate M 0)) : List sx_C)) U.heap := by
        refine ⟨fun i q hq => ?_, fun _ => by rw [u1, eL, hsz]; omega⟩
        rw [sx_W_get] at hq
        by_cases i1 : i < w.length
        · rw [List.getElem?_append_left i1] at hq
          have hq2 : (sx_W dA h0 sa w)[i]? = some q := by rw [sx_W_get]; exact hq
          exact (hP.1 i q hq2).kept (hold q.1 ((hP.1 i q hq2).lt))
        · rw [List.getElem?_append_right (by omega)] at hq
          by_cases i2 : i = w.length
          · subst i2
            rw [Nat.sub_self] at hq
            cases hq
            show U.heap[h0 + w.length]? = some (vp_cell (dA 6) (((List.range N).map (fun i => some (w.length + 1 + i))).length, .inr (.inr (.inr (.inr (fun j => (((List.range N).map (fun i => some (w.length + 1 + i))).getD j none).map (fun i => h0 + i)))))))
            rw [← hsz, u2, sx_outer, hcA, vp_cell_q, List.length_map, List.length_range]
            refine congrArg (fun z9 => some (arrV (dA 6) N z9)) (funext fun j => ?_)
            rw [List.getD_eq_getElem?_getD, List.getElem?_map]
            by_cases hj : j < N
            · rw [List.getElem?_range hj, if_pos hj, hsz]
              show va_rf (some (h0 + w.length + 1 + j)) = va_rf (some (h0 + (w.length + 1 + j)))
              rw [show h0 + w.length + 1 + j = h0 + (w.length + 1 + j) by omega]
            · rw [List.getElem?_eq_none (by rw [List.length_range]; omega), if_neg hj]
              rfl
          · obtain ⟨j, rfl⟩ : ∃ j, i = w.length + 1 + j := ⟨i - w.length - 1, by omega⟩
            rw [show w.length + 1 + j - w.length = j + 1 by omega, List.getElem?_cons_succ, List.getElem?_replicate] at hq
            by_cases hj : j < N
            · rw [if_pos hj] at hq
              cases hq
              show U.heap[h0 + (w.length + 1 + j)]? = some (vp_cell (dA 0) ((List.replicate M (0 : Int32)).length, .inl (fun j => (List.replicate M (0 : Int32)).getD j 0)))
              rw [show h0 + (w.length + 1 + j) = H.size + 1 + j by omega, hrow j hj, vp_cell_i, List.length_replicate]
              show some ({ cls := comp, slots := Array.replicate M (.int 0), vm := .none } : Cell) = _
              rw [arrV_new, hcC]
              refine congrArg (fun z9 => some (arrV (dA 0) M z9)) (funext fun j => ?_)
              rw [sx_rp]
            · rw [if_neg hj] at hq
              cases hq
      have K1 := K U.heap locs lsA hP2 ⟨Nat.le_trans hS.1 (by rw [u1]; omega), fun q g1 g2 => (hold q (Nat.lt_of_lt_of_le g1 hS.1)).trans (hS.2.1 q g1 g2), hS.2.2⟩ hl (by rw [eL]; omega) (by rw [eZ]; omega)
      have K2 : W p l e R s m args below meth c U.heap locs (sx_ck true n0 (w ++ (.inr (.inr (.inl (6, (List.range N).map (fun i => some (w.length + 1 + i))))) :: List.replicate N (.inl (0, List.replicate M 0)) : List sx_C))) (sx_cs true z0 (w ++ (.inr (.inr (.inl (6, (List.range N).map (fun i => some (w.length + 1 + i))))) :: List.replicate N (.inl (0, List.replicate M 0)) : List sx_C))) Q (F0 m (pc + 4) lsA ((Value.ref w.length :: r).map (sx_v h0 sa))) := K1
      rw [eK, eS] at K2
      obtain ⟨t, a1, a2⟩ := K2 U rfl X'
      refine ⟨t, step t ?_, a2⟩
      have e7 : T.heap.size = h0 + w.length := by rw [hT]; exact hsz
      rw [e7]
      exact a1
  · cases h
