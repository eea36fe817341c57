-- rows of the heap
theorem sx_in_of {i : Int32} {n : Nat} (h : sx_in i n = true) : vp_in i n := by
  unfold sx_in at h
  simp only [Bool.and_eq_true, Bool.not_eq_true', decide_eq_true_eq, decide_eq_false_iff_not] at h
  intro q
  rcases q with q | q
  · exact h.1 q
  · omega
theorem sx_in_lt {i : Int32} {n : Nat} (h : sx_in i n = true) : i.toNatClampNeg < n := Nat.not_le.mp fun q => sx_in_of h (Or.inr q)
theorem sx_gd {α : Type} {l : List α} {n : Nat} (h : n < l.length) (x d : α) (j : Nat) : (l.set n x).getD j d = if j = n then x else l.getD j d := by
  rw [List.getD_eq_getElem?_getD, List.getD_eq_getElem?_getD, List.getElem?_set]
  by_cases e : n = j
  · subst e
    simp [h]
  · simp [e, Ne.symm e]
theorem sx_okv_n {ty : FieldType} {v : Value} (h : sx_okv ty v = true) (h0 : Nat) (sa : Nat → Nat) : narrow ty (sx_v h0 sa v) = sx_v h0 sa v ∧ fits ty (sx_v h0 sa v) = true := by
  cases ty <;> cases v <;> first
    | (simp [sx_okv] at h; done)
    | exact ⟨rfl, rfl⟩
    | (simp only [sx_okv, Bool.or_eq_true, beq_iff_eq] at h
       rcases h with rfl | rfl
       · exact ⟨rfl, rfl⟩
       · exact ⟨rfl, rfl⟩)
section SXH
variable {p : Program} {l : Launch} {e : Env} {R : Room} {s : State} {m : MethodId} {args : Array Value} {below : List Frame} {meth : Method} {c : Code} {Q : State → Prop}
variable {D : va_G} {dA : Nat → ClassId} {h0 : Nat} {sa : Nat → Nat} {md : Bool} {n0 z0 nL : Nat} {pc : Nat} {ls : sx_L} {st : List Value} {w : List sx_C} {F : sx_F} {xs : Option (List Int32)} {mi d : Nat}
theorem sx_J.put {pc' a : Nat} {r : List Value} {c0 cw : sx_C} (K : sx_J p l e R s m args below meth c D dA h0 sa md n0 z0 nL Q (pc', ls, r, w.set a cw)) (hw : w[a]? = some c0) (hs : sx_s cw = sx_s c0) {H H1 : Heap} {locs : List Loc} {lsA : Array Slot} (hP : sx_P D dA h0 sa md w H) (hS : va_S (sx_A h0) s.heap H locs) (hl : lv_has lsA nL (ls.map (sx_q h0 sa))) (h1 : n0 ≤ w.length) (h2 : z0 ≤ sx_sz w) (he : va_at D sx_cl (h0 + a, sx_E dA h0 sa cw) H1) (z : H1.size = H.size) (oq : ∀ q : Nat, q ≠ h0 + a → H1[q]? = H[q]?) (k : Nat) : W p l e R s m args below meth c H1 (locs ++ [⟨h0 + a, k⟩]) (sx_ck md n0 w) (sx_cs md z0 w) Q (F0 m pc' lsA (r.map (sx_v h0 sa))) := by
  have e1 : (w.set a cw).length = w.length := List.length_set
  have e2 : sx_sz (w.set a cw) = sx_sz w := sx_sz_set w a c0 cw hw hs
  have K1 := K H1 (locs ++ [⟨h0 + a, k⟩]) lsA (hP.set hw he z oq) (hS.put z oq (Nat.le_add_right h0 a)) hl (by show n0 ≤ (w.set a cw).length; rw [e1]; exact h1) (by show z0 ≤ sx_sz (w.set a cw); rw [e2]; exact h2)
  have e3 : sx_ck md n0 (w.set a cw) = sx_ck md n0 w := by unfold sx_ck; rw [e1]
  have e4 : sx_cs md z0 (w.set a cw) = sx_cs md z0 w := by unfold sx_cs; rw [e2]
  have K2 : W p l e R s m args below meth c H1 (locs ++ [⟨h0 + a, k⟩]) (sx_ck md n0 (w.set a cw)) (sx_cs md z0 (w.set a cw)) Q (F0 m pc' lsA (r.map (sx_v h0 sa))) := K1
  rw [e3, e4] at K2
  exact K2
theorem sx_J.add {pc' : Nat} {st' : List Value} {cw : sx_C} (K : sx_J p l e R s m args below meth c D dA h0 sa true n0 z0 nL Q (pc', ls, st', w ++ [cw])) {H H1 : Heap} {locs : List Loc} {lsA : Array Slot} (hP : sx_P D dA h0 sa true w H) (hS : va_S (sx_A h0) s.heap H locs) (hl : lv_has lsA nL (ls.map (sx_q h0 sa))) (h1 : n0 ≤ w.length) (h2 : z0 ≤ sx_sz w) (he : va_at D sx_cl (h0 + w.length, sx_E dA h0 sa cw) H1) (z : H1.size = H.size + 1) (oq : ∀ q : Nat, q < H.size → H1[q]? = H[q]?) : W p l e R s m args below meth c H1 locs (sx_ck true n0 w + 1) (sx_cs true z0 w + sx_s cw) Q (F0 m pc' lsA (st'.map (sx_v h0 sa))) := by
  have e1 : (w ++ [cw]).length = w.length + 1 := by simp
  have e2 : sx_sz (w ++ [cw]) = sx_sz w + sx_s cw := by rw [sx_sz_app]; simp [sx_sz]
  have K1 := K H1 locs lsA (hP.push he z oq) ⟨Nat.le_trans hS.1 (by omega), fun q g1 g2 => (oq q (Nat.lt_of_lt_of_le g1 hS.1)).trans (hS.2.1 q g1 g2), hS.2.2⟩ hl (by show n0 ≤ (w ++ [cw]).length; omega) (by show z0 ≤ sx_sz (w ++ [cw]); omega)
  have e3 : sx_ck true n0 (w ++ [cw]) = sx_ck true n0 w + 1 := by unfold sx_ck; simp only [cond_true]; omega
  have e4 : sx_cs true z0 (w ++ [cw]) = sx_cs true z0 w + sx_s cw := by unfold sx_cs; simp only [cond_true]; omega
  have K2 : W p l e R s m args below meth c H1 locs (sx_ck true n0 (w ++ [cw])) (sx_cs true z0 (w ++ [cw])) Q (F0 m pc' lsA (st'.map (sx_v h0 sa))) := K1
  rw [e3, e4] at K2
  exact K2
theorem sx_fl_use {idx : Nat} {q : Nat × Nat × Nat} (hmi : mi < 247) (h : sx_lk (sx_fl (sx_own mi)) idx = some q) : ∃ cq : vw_C, sx_cl[q.1]? = some cq ∧ q.2.1 < cq.2.2 ∧ Cond.fieldLink (sx_cn.getD (sx_own mi) "") idx (cq.2.1 q.2.1).1 (cq.2.1 q.2.1).2.1 (cq.2.1 q.2.1).2.2.1 ∈ sx_tw := by
  have h1 := List.all_eq_true.mp (sx_all sx_fok (sx_own_lt mi hmi)) _ (sx_lk_mem _ _ _ h)
  unfold sx_fchk at h1
  split at h1
  · rename_i cq hcq
    rw [Bool.and_eq_true] at h1
    exact ⟨cq, hcq, Nat.le_of_ble_eq_true h1.1, sx_twm (sx_memp h1.2) rfl⟩
  · cases h1
theorem sx_o_gf {idx : Nat} (X : sx_Ctx p s m args meth c R D dA h0 sa xs mi d) (hd : decode (sx_M mi).2.1 pc = .ok (.getfield idx, 3)) (h : sx_gf (sx_own mi) idx ls pc st w = some F) (K : sx_J p l e R s m args below meth c D dA h0 sa md n0 z0 nL Q F) : sx_J p l e R s m args below meth c D dA h0 sa md n0 z0 nL Q (pc, ls, st, w) := by
  obtain ⟨hx, hb, hml, hown, hts, hnm, hfr, hlo, hG, hh, hmi⟩ := X
  unfold sx_gf at h
  split at h
  · rename_i a r
    split at h
    · rename_i q ci fs hq hw
      cases hbt : Nat.beq ci q.1 with
      | false => rw [hbt] at h; cases h
      | true =>
        rw [hbt] at h
        have hci : ci = q.1 := Nat.eq_of_beq_eq_true hbt
        subst hci
        simp only [cond_true] at h
        split at h
        · rename_i v hv
          cases h
          obtain ⟨⟨C, T, N⟩, hcq, hk, hlk⟩ := sx_fl_use hmi hq
          intro H locs lsA hP hS hl h1 h2
          exact va_get (D := D) (C := C) (T := T) (N := N) hx hb hts (sx_cok hcq).1 hown hG.1 (hP.one hw) 0 rfl hcq q.2.1 hk (hts _ hlk) (fun _ h9 => h9) (v := sx_v h0 sa v) (by rw [List.getElem?_map, hv]; rfl) hd (K H locs lsA hP hS hl h1 h2)
        · cases h
    · cases h
  · cases h
theorem sx_o_pf {idx : Nat} (X : sx_Ctx p s m args meth c R D dA h0 sa xs mi d) (hd : decode (sx_M mi).2.1 pc = .ok (.putfield idx, 3)) (h : sx_pf mi idx ls pc st w = some F) (K : sx_J p l e R s m args below meth c D dA h0 sa md n0 z0 nL Q F) : sx_J p l e R s m args below meth c D dA h0 sa md n0 z0 nL Q (pc, ls, st, w) := by
  obtain ⟨hx, hb, hml, hown, hts, hnm, hfr, hlo, hG, hh, hmi⟩ := X
  unfold sx_pf at h
  split at h
  · rename_i v a r
    split at h
    · rename_i q ci fs hq hw
      cases hbt : (Nat.beq ci q.1 && Nat.blt q.2.1 fs.length && sx_okv (sx_ty ci q.2.1) v && sx_fin mi ci q.2.1) with
      | false => rw [hbt] at h; cases h
      | true =>
        rw [hbt] at h
        cases h
        simp only [Bool.and_eq_true] at hbt
        obtain ⟨⟨⟨g1, g2⟩, g3⟩, g4⟩ := hbt
        have hci : ci = q.1 := Nat.eq_of_beq_eq_true g1
        subst hci
        have hkl : q.2.1 < fs.length := Nat.le_of_ble_eq_true g2
        obtain ⟨⟨C, T, N⟩, hcq, hk, hlk⟩ := sx_fl_use hmi hq
        obtain ⟨f1, f2, f3, f4, f5, f6, f7, f8, f9⟩ := sx_cok hcq
        obtain ⟨hn, hfit⟩ := sx_okv_n g3 h0 sa
        have hd3 : parseFieldDescriptor (T q.2.1).2.2.1 = some (sx_ty q.1 q.2.1) := f3 q.2.1 hk
        intro H locs lsA hP hS hl h1 h2
        have hap := va_apart (own := C) hts f1 (sx_ty q.1) f3 f2 hG.1 hcq
        obtain ⟨r', hr', cell, q1, q2, q3, q4⟩ := hP.at hw
        have er : r' = (C, T, N) := Option.some.inj (hr'.symm.trans hcq)
        subst er
        obtain ⟨hSl, hfc, kC, hkC, hkind⟩ := hG.1.1 q.1 _ hcq
        obtain ⟨cf, kf, fi, f, hi, hsl⟩ := hSl q.2.1 hk
        have hst := (u_facts hfc hkC (u_lays hts f1 hk) hi).1
        have hlay := hts _ (f1 _ (u_in_lay hk))
        unfold u_lay at hlay
        have done : ∀ H' : Heap, H'[h0 + a]? = some (cell.setSlot f.slot (sx_v h0 sa v)) → H'.size = H.size → (∀ q9, q9 ≠ h0 + a → H'[q9]? = H[q9]?) → W p l e R s m args below meth c H' (locs ++ [⟨h0 + a, f.slot⟩]) (sx_ck md n0 w) (sx_cs md z0 w) Q (F0 m (pc + 3) lsA (r.map (sx_v h0 sa))) := by
          intro H' e1 e2 e3
          rw [hsl] at e1
          refine K.put hw (by simp [sx_s]) hP hS hl h1 h2 ⟨_, hcq, t_OB.to (V := updV (vp_V (fs.map (sx_v h0 sa))) q.2.1 (sx_v h0 sa v)) ⟨_, e1, q2, q3, t_set q4 hap hk (sx_v h0 sa v)⟩ (fun j _ => ?_)⟩ e2 e3 f.slot
          rw [vp_updV_set (by simpa using hkl), List.map_set]
        cases hfin : (T q.2.1).2.2.2 with
        | false =>
          rw [if_neg (by rw [hfin]; decide)] at hlay
          have h6 := u_store hfc hkC hkind hlay hi hd3 hn hfit
          exact W.putK hx hb (f := f) ⟨hown, hts _ hlk, ⟨_, _, _, hi⟩, hst⟩ (by rw [q2]; exact h6) q1 q3 (by rw [hsl]; exact k2_hasslot (q4 q.2.1 hk)) rfl rfl hd done
        | true =>
          rw [if_pos hfin] at hlay
          unfold sx_fin at g4
          rw [hcq] at g4
          simp only [hfin, cond_true, Bool.and_eq_true, decide_eq_true_eq] at g4
          have ho : sx_own mi = q.1 := Nat.eq_of_beq_eq_true g4.1
          have hm9 : mi < 246 := by
            rcases Nat.lt_or_ge mi 246 with h9 | h9
            · exact h9
            · have e9 : mi = 246 := by omega
              rw [e9] at g4
              exact absurd g4.2 (by decide +kernel)
          have hcf : m.cls = cf := by
            obtain ⟨_, _, c', _, _, _, -, -, hf', -, -, -, hown2, -⟩ := Cond.laysFinal_spec hlay
            have e1 : c' = cf := by have := hi.symm.trans hf'; simp at this; exact this.1.symm
            have e2 : (T q.2.1).1 = sx_cn.getD (sx_own mi) "" := by
              have e5 : C = sx_cn.getD q.1 "" := f9
              rw [ho, ← e5]
              exact sx_decl hcq hk
            rw [e2] at hown2
            rw [← e1]; exact Option.some.inj (hown.symm.trans hown2)
          have h6 := u_fits hfc hkC hkind (Or.inr hlay) hi hd3 hn hfit
          exact W.putFinK hx hb hown (hts _ hlk) hi hst hcf (by rw [hnm hm9]; exact g4.2) (by rw [q2]; exact h6) q1 q3 (by rw [hsl]; exact k2_hasslot (q4 q.2.1 hk)) rfl rfl hd done
    · cases h
  · cases h
theorem sx_o_iald (X : sx_Ctx p s m args meth c R D dA h0 sa xs mi d) (hd : decode (sx_M mi).2.1 pc = .ok (.iaload, 1)) (h : sx_iald xs ls pc st w = some F) (K : sx_J p l e R s m args below meth c D dA h0 sa md n0 z0 nL Q F) : sx_J p l e R s m args below meth c D dA h0 sa md n0 z0 nL Q (pc, ls, st, w) := by
  obtain ⟨hx, hb, hml, hown, hts, hnm, hfr, hlo, hG, hh, hmi⟩ := X
  unfold sx_iald at h
  split at h
  · rename_i i a r
    split at h
    · rename_i li hw
      unfold sx_al at h
      cases hbt : sx_in i li.length with
      | false => rw [hbt] at h; cases h
      | true =>
        rw [hbt] at h
        cases h
        exact fun H locs lsA hP hS hl h1 h2 => va_iald hx hb hG.1 (hP.one hw) 0 0 rfl rfl (sx_in_of hbt) hd (K H locs lsA hP hS hl h1 h2)
    · cases h
  · rename_i i k r
    cases hk5 : Nat.blt k.toNat 5 with
    | false => rw [hk5] at h; cases h
    | true =>
      rw [hk5] at h
      simp only [cond_true] at h
      unfold sx_al at h
      cases hbt : sx_in i (sx_st xs k.toNat).length with
      | false => rw [hbt] at h; cases h
      | true =>
        rw [hbt] at h
        cases h
        exact fun H locs lsA hP hS hl h1 h2 => va_ti hx hb (hG.2.2.1 k.toNat (Nat.le_of_ble_eq_true hk5)) hS (sx_in_of hbt) rfl hd (K H locs lsA hP hS hl h1 h2)
  · cases h
theorem sx_o_bald (X : sx_Ctx p s m args meth c R D dA h0 sa xs mi d) (hd : decode (sx_M mi).2.1 pc = .ok (.baload, 1)) (h : sx_bald ls pc st w = some F) (K : sx_J p l e R s m args below meth c D dA h0 sa md n0 z0 nL Q F) : sx_J p l e R s m args below meth c D dA h0 sa md n0 z0 nL Q (pc, ls, st, w) := by
  obtain ⟨hx, hb, hml, hown, hts, hnm, hfr, hlo, hG, hh, hmi⟩ := X
  unfold sx_bald at h
  split at h
  · rename_i i a r
    split at h
    · rename_i li hw
      unfold sx_al at h
      cases hbt : sx_in i li.length with
      | false => rw [hbt] at h; cases h
      | true =>
        rw [hbt] at h
        cases h
        exact fun H locs lsA hP hS hl h1 h2 => va_zald hx hb hG.1 (hP.one hw) 0 1 rfl rfl (sx_in_of hbt) hd (K H locs lsA hP hS hl h1 h2)
    · rename_i li hw
      unfold sx_al at h
      cases hbt : sx_in i li.length with
      | false => rw [hbt] at h; cases h
      | true =>
        rw [hbt] at h
        cases h
        exact fun H locs lsA hP hS hl h1 h2 => va_bald hx hb hG.1 (hP.one hw) 0 2 rfl rfl (sx_in_of hbt) hd (K H locs lsA hP hS hl h1 h2)
    · cases h
  · cases h
theorem sx_o_lald (X : sx_Ctx p s m args meth c R D dA h0 sa xs mi d) (hd : decode (sx_M mi).2.1 pc = .ok (.laload, 1)) (h : sx_lald ls pc st w = some F) (K : sx_J p l e R s m args below meth c D dA h0 sa md n0 z0 nL Q F) : sx_J p l e R s m args below meth c D dA h0 sa md n0 z0 nL Q (pc, ls, st, w) := by
  obtain ⟨hx, hb, hml, hown, hts, hnm, hfr, hlo, hG, hh, hmi⟩ := X
  unfold sx_lald at h
  split at h
  · rename_i i a r
    split at h
    · rename_i li hw
      cases hbt : sx_in i li.length with
      | false => rw [hbt] at h; cases h
      | true =>
        rw [hbt] at h
        cases h
        exact fun H locs lsA hP hS hl h1 h2 => va_lald hx hb hG.1 (hP.one hw) 0 3 rfl rfl (sx_in_of hbt) hd (K H locs lsA hP hS hl h1 h2)
    · cases h
  · cases h
theorem sx_tyref {t : Nat} (h4 : 4 ≤ t) (h6 : t ≤ 6) : ∃ ty : FieldType, (sx_tys dA)[t]? = some (dA t, ty) ∧ ty.isReference = true := by
  rcases (show t = 4 ∨ t = 5 ∨ t = 6 by omega) with rfl | rfl | rfl
  · exact ⟨_, rfl, rfl⟩
  · exact ⟨_, rfl, rfl⟩
  · exact ⟨_, rfl, rfl⟩
theorem sx_o_aald (X : sx_Ctx p s m args meth c R D dA h0 sa xs mi d) (hd : decode (sx_M mi).2.1 pc = .ok (.aaload, 1)) (h : sx_aald ls pc st w = some F) (K : sx_J p l e R s m args below meth c D dA h0 sa md n0 z0 nL Q F) : sx_J p l e R s m args below meth c D dA h0 sa md n0 z0 nL Q (pc, ls, st, w) := by
  obtain ⟨hx, hb, hml, hown, hts, hnm, hfr, hlo, hG, hh, hmi⟩ := X
  unfold sx_aald at h
  split at h
  · rename_i i a r
    split at h
    · rename_i t li hw
      cases hbt : (sx_in i li.length && Nat.ble 4 t && Nat.ble t 6) with
      | false => rw [hbt] at h; cases h
      | true =>
        rw [hbt] at h
        cases h
        simp only [Bool.and_eq_true] at hbt
        obtain ⟨⟨g1, g2⟩, g3⟩ := hbt
        obtain ⟨ty, hty, href⟩ := sx_tyref (dA := dA) (Nat.le_of_ble_eq_true g2) (Nat.le_of_ble_eq_true g3)
        intro H locs lsA hP hS hl h1 h2
        have hat : H[h0 + a]? = some (vp_cell (dA t) (li.length, .inr (.inr (.inr (.inr (fun j => (li.getD j none).map (fun i => h0 + i))))))) := hP.at hw
        refine W.aald (v := sx_v h0 sa (sx_rf (li.getD i.toNatClampNeg none))) (ty := ty) hx hb hat ((hG.1.2 t _ hty).1 li.length (fun j => va_rf ((li.getD j none).map (fun i => h0 + i)))) href (fun q => by cases q) (by show ¬ (i < 0 ∨ (arrV _ _ _).slots.size ≤ _); rw [arrV_size]; exact sx_in_of g1) ?_ rfl rfl hd (K H locs lsA hP hS hl h1 h2)
        show (arrV _ _ _).slots[_]? = _
        rw [arrV_read _ _ (sx_in_lt g1), sx_vrf]
    · cases h
  · cases h
theorem sx_o_iast (X : sx_Ctx p s m args meth c R D dA h0 sa xs mi d) (hd : decode (sx_M mi).2.1 pc = .ok (.iastore, 1)) (h : sx_iast ls pc st w = some F) (K : sx_J p l e R s m args below meth c D dA h0 sa md n0 z0 nL Q F) : sx_J p l e R s m args below meth c D dA h0 sa md n0 z0 nL Q (pc, ls, st, w) := by
  obtain ⟨hx, hb, hml, hown, hts, hnm, hfr, hlo, hG, hh, hmi⟩ := X
  unfold sx_iast at h
  split at h
  · rename_i x i a r
    split at h
    · rename_i li hw
      cases hbt : sx_in i li.length with
      | false => rw [hbt] at h; cases h
      | true =>
        rw [hbt] at h
        cases h
        intro H locs lsA hP hS hl h1 h2
        have hat : H[h0 + a]? = some (vp_cell (dA 0) (li.length, .inl (fun j => li.getD j 0))) := hP.at hw
        refine W.iast hx hb hat ((hG.1.2 0 _ rfl).1 li.length (fun j => .int (li.getD j 0))) (fun q => by cases q) (by show ¬ (i < 0 ∨ (arrV _ _ _).slots.size ≤ _); rw [arrV_size]; exact sx_in_of hbt) rfl rfl hd fun H1 e1 z oq => ?_
        refine K.put hw (by simp [sx_s]) hP hS hl h1 h2 ?_ z oq _
        show H1[h0 + a]? = some (vp_cell (dA 0) ((li.set i.toNatClampNeg x).length, .inl (fun j => (li.set i.toNatClampNeg x).getD j 0)))
        rw [e1, vp_cell_i, vp_cell_i, arrV_store, List.length_set]
        refine congrArg (fun z9 => some (arrV (dA 0) li.length z9)) (funext fun j => ?_)
        rw [sx_gd (sx_in_lt hbt)]
        by_cases hj : j = i.toNatClampNeg
        · simp [updV, hj]
        · simp [updV, hj]
    · cases h
  · cases h
theorem sx_o_bast (X : sx_Ctx p s m args meth c R D dA h0 sa xs mi d) (hd : decode (sx_M mi).2.1 pc = .ok (.bastore, 1)) (h : sx_bast ls pc st w = some F) (K : sx_J p l e R s m args below meth c D dA h0 sa md n0 z0 nL Q F) : sx_J p l e R s m args below meth c D dA h0 sa md n0 z0 nL Q (pc, ls, st, w) := by
  obtain ⟨hx, hb, hml, hown, hts, hnm, hfr, hlo, hG, hh, hmi⟩ := X
  unfold sx_bast at h
  split at h
  · rename_i x i a r
    split at h
    · rename_i li hw
      cases hbt : sx_in i li.length with
      | false => rw [hbt] at h; cases h
      | true =>
        rw [hbt] at h
        cases h
        intro H locs lsA hP hS hl h1 h2
        have hat : H[h0 + a]? = some (vp_cell (dA 1) (li.length, .inl (fun j => li.getD j 0))) := hP.at hw
        refine W.zast hx hb hat ((hG.1.2 1 _ rfl).1 li.length (fun j => .int (li.getD j 0))) (fun q => by cases q) (by show ¬ (i < 0 ∨ (arrV _ _ _).slots.size ≤ _); rw [arrV_size]; exact sx_in_of hbt) rfl rfl hd fun H1 e1 z oq => ?_
        refine K.put hw (by simp [sx_s]) hP hS hl h1 h2 ?_ z oq _
        show H1[h0 + a]? = some (vp_cell (dA 1) ((li.set i.toNatClampNeg (vp_nar .boolean x)).length, .inl (fun j => (li.set i.toNatClampNeg (vp_nar .boolean x)).getD j 0)))
        rw [e1, vp_cell_i, vp_cell_i, arrV_store, List.length_set]
        refine congrArg (fun z9 => some (arrV (dA 1) li.length z9)) (funext fun j => ?_)
        rw [sx_gd (sx_in_lt hbt)]
        by_cases hj : j = i.toNatClampNeg
        · rw [if_pos hj]
          show (if j = i.toNatClampNeg then _ else _) = _
          rw [if_pos hj]
          rfl
        · simp [updV, hj]
    · rename_i li hw
      cases hbt : sx_in i li.length with
      | false => rw [hbt] at h; cases h
      | true =>
        rw [hbt] at h
        cases h
        intro H locs lsA hP hS hl h1 h2
        have hat : H[h0 + a]? = some (vp_cell (dA 2) (li.length, .inl (fun j => li.getD j 0))) := hP.at hw
        refine W.bast hx hb hat ((hG.1.2 2 _ rfl).1 li.length (fun j => .int (li.getD j 0))) (fun q => by cases q) (by show ¬ (i < 0 ∨ (arrV _ _ _).slots.size ≤ _); rw [arrV_size]; exact sx_in_of hbt) rfl rfl hd fun H1 e1 z oq => ?_
        refine K.put hw (by simp [sx_s]) hP hS hl h1 h2 ?_ z oq _
        show H1[h0 + a]? = some (vp_cell (dA 2) ((li.set i.toNatClampNeg (vp_nar .byte x)).length, .inl (fun j => (li.set i.toNatClampNeg (vp_nar .byte x)).getD j 0)))
        rw [e1, vp_cell_i, vp_cell_i, arrV_store, List.length_set]
        refine congrArg (fun z9 => some (arrV (dA 2) li.length z9)) (funext fun j => ?_)
        rw [sx_gd (sx_in_lt hbt)]
        by_cases hj : j = i.toNatClampNeg
        · rw [if_pos hj]
          show (if j = i.toNatClampNeg then _ else _) = _
          rw [if_pos hj]
          rfl
        · simp [updV, hj]
    · cases h
  · cases h
theorem sx_o_last (X : sx_Ctx p s m args meth c R D dA h0 sa xs mi d) (hd : decode (sx_M mi).2.1 pc = .ok (.lastore, 1)) (h : sx_last ls pc st w = some F) (K : sx_J p l e R s m args below meth c D dA h0 sa md n0 z0 nL Q F) : sx_J p l e R s m args below meth c D dA h0 sa md n0 z0 nL Q (pc, ls, st, w) := by
  obtain ⟨hx, hb, hml, hown, hts, hnm, hfr, hlo, hG, hh, hmi⟩ := X
  unfold sx_last at h
  split at h
  · rename_i x i a r
    split at h
    · rename_i li hw
      cases hbt : sx_in i li.length with
      | false => rw [hbt] at h; cases h
      | true =>
        rw [hbt] at h
        cases h
        intro H locs lsA hP hS hl h1 h2
        have hat : H[h0 + a]? = some (vp_cell (dA 3) (li.length, .inr (.inl (fun j => li.getD j 0)))) := hP.at hw
        refine W.last hx hb hat ((hG.1.2 3 _ rfl).1 li.length (fun j => .long (li.getD j 0))) (fun q => by cases q) (by show ¬ (i < 0 ∨ (arrV _ _ _).slots.size ≤ _); rw [arrV_size]; exact sx_in_of hbt) rfl rfl hd fun H1 e1 z oq => ?_
        refine K.put hw (by simp [sx_s]) hP hS hl h1 h2 ?_ z oq _
        show H1[h0 + a]? = some (vp_cell (dA 3) ((li.set i.toNatClampNeg x).length, .inr (.inl (fun j => (li.set i.toNatClampNeg x).getD j 0))))
        rw [e1, vp_cell_l, vp_cell_l, arrV_store, List.length_set]
        refine congrArg (fun z9 => some (arrV (dA 3) li.length z9)) (funext fun j => ?_)
        rw [sx_gd (sx_in_lt hbt)]
        by_cases hj : j = i.toNatClampNeg
        · simp [updV, hj]
        · simp [updV, hj]
    · cases h
  · cases h
theorem sx_oc_use {t ci : Nat} (h : ci = sx_oc t) {q : vw_C} (hq : sx_cl[ci]? = some q) : (sx_tys dA)[t]? = some (dA t, .object q.1) := by
  unfold sx_oc at h
  split at h
  · subst h; cases hq; rfl
  · subst h; cases hq; rfl
  · subst h; simp [sx_cl] at hq
theorem sx_o_aast (X : sx_Ctx p s m args meth c R D dA h0 sa xs mi d) (hd : decode (sx_M mi).2.1 pc = .ok (.aastore, 1)) (h : sx_aast ls pc st w = some F) (K : sx_J p l e R s m args below meth c D dA h0 sa md n0 z0 nL Q F) : sx_J p l e R s m args below meth c D dA h0 sa md n0 z0 nL Q (pc, ls, st, w) := by
  obtain ⟨hx, hb, hml, hown, hts, hnm, hfr, hlo, hG, hh, hmi⟩ := X
  unfold sx_aast at h
  split at h
  · rename_i v i a r
    split at h
    · rename_i t li ci fs hw hv
      cases hbt : (sx_in i li.length && Nat.beq ci (sx_oc t)) with
      | false => rw [hbt] at h; cases h
      | true =>
        rw [hbt] at h
        cases h
        simp only [Bool.and_eq_true] at hbt
        obtain ⟨g1, g2⟩ := hbt
        intro H locs lsA hP hS hl h1 h2
        have hat : H[h0 + a]? = some (vp_cell (dA t) (li.length, .inr (.inr (.inr (.inr (fun j => (li.getD j none).map (fun i => h0 + i))))))) := hP.at hw
        obtain ⟨r', hr', cellV, k1, k2, k3, -⟩ := hP.at hv
        have hty := sx_oc_use (dA := dA) (Nat.eq_of_beq_eq_true g2) hr'
        have hcls := (hG.1.1 ci r' hr').2
        obtain ⟨kA, comp, y1, y2, y3, -⟩ := (hG.1.2 t _ hty).2
        have hcomp : comp = D.1 ci := Option.some.inj (y3.symm.trans hcls.1)
        subst hcomp
        obtain ⟨kC, hkC, -⟩ := hcls.2
        refine W.aast hx hb hat (fun q h => by cases h) (fun h => by cases h) y1 y2 rfl hkC ⟨fun q => sx_in_of g1 (Or.inl q), by show _ < (arrV _ _ _).slots.size; rw [arrV_size]; exact sx_in_lt g1⟩ k1 (fun q h => by rw [k3] at h; cases h) (by rw [k2]; exact hkC) (by rw [k2]; exact va_assign hcls) rfl rfl hd fun H1 e1 z oq => ?_
        refine K.put hw (by simp [sx_s]) hP hS hl h1 h2 ?_ z oq _
        show H1[h0 + a]? = some (vp_cell (dA t) ((li.set i.toNatClampNeg (some v)).length, .inr (.inr (.inr (.inr (fun j => ((li.set i.toNatClampNeg (some v)).getD j none).map (fun i => h0 + i)))))))
        rw [e1, vp_cell_q, vp_cell_q, arrV_store, List.length_set]
        refine congrArg (fun z9 => some (arrV (dA t) li.length z9)) (funext fun j => ?_)
        rw [sx_gd (sx_in_lt g1)]
        by_cases hj : j = i.toNatClampNeg
        · simp [updV, hj, va_rf]
        · simp [updV, hj]
    · cases h
  · cases h
end SXH
