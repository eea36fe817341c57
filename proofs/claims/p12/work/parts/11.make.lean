-- rows that make cells, constants, statics, copies
theorem sx_ck_add {n0 : Nat} {w : List sx_C} (h1 : n0 ≤ w.length) (cw : sx_C) : sx_ck true n0 (w ++ [cw]) = sx_ck true n0 w + 1 := by
  unfold sx_ck
  simp only [cond_true, List.length_append, List.length_singleton]
  omega
theorem sx_cs_add {z0 : Nat} {w : List sx_C} (h2 : z0 ≤ sx_sz w) (cw : sx_C) : sx_cs true z0 (w ++ [cw]) = sx_cs true z0 w + sx_s cw := by
  unfold sx_cs
  rw [sx_sz_app]
  simp only [cond_true, sx_sz]
  omega
theorem sx_ln_of {n : Int32} (h : sx_ln n = true) : ¬ n < 0 ∧ n.toNatClampNeg ≤ 4096 := by
  unfold sx_ln at h
  simp only [Bool.and_eq_true, Bool.not_eq_true', decide_eq_false_iff_not] at h
  exact ⟨h.1, Nat.le_of_ble_eq_true h.2⟩
theorem sx_rp {α : Type} (n j : Nat) (x : α) : (List.replicate n x).getD j x = x := by
  rw [List.getD_eq_getElem?_getD, List.getElem?_replicate]
  split <;> rfl
theorem sx_w_objI : Cond.code objectInit ⟨#[0xb1]⟩ 1 none ∈ sx_tw := sx_twm (sx_memp (i := 98) (by decide +kernel)) rfl
theorem sx_w_objM : Cond.instanceMethod objectInit ∈ sx_tw := sx_twm (sx_memp (i := 97) (by decide +kernel)) rfl
theorem sx_w_acI : Cond.arrayClass .int ∈ sx_tw := sx_twm (sx_memp (i := 143) (by decide +kernel)) rfl
theorem sx_w_acZ : Cond.arrayClass .boolean ∈ sx_tw := sx_twm (sx_memp (i := 212) (by decide +kernel)) rfl
theorem sx_w_acB : Cond.arrayClass .byte ∈ sx_tw := sx_twm (sx_memp (i := 239) (by decide +kernel)) rfl
theorem sx_w_acJ : Cond.arrayClass .long ∈ sx_tw := sx_twm (sx_memp (i := 260) (by decide +kernel)) rfl
theorem sx_w_cpS : Cond.static arraycopyName ∈ sx_tw := sx_twm (sx_memp (i := 486) (by decide +kernel)) rfl
theorem sx_w_cpN : Cond.native arraycopyName ∈ sx_tw := sx_twm (sx_memp (i := 487) (by decide +kernel)) rfl
theorem sx_w_sys : Cond.initialized "java/lang/System" ∈ sx_tw := sx_twm (sx_memp (i := 85) (by decide +kernel)) rfl
theorem sx_cpy_len {α : Type} {f g : List α} {sp dp n : Nat} (h1 : sp + n ≤ f.length) (h2 : dp + n ≤ g.length) : (sx_cpy f g sp dp n).length = g.length := by
  unfold sx_cpy
  simp only [List.length_append, List.length_take, List.length_drop]
  omega
theorem sx_cpy_get {α : Type} {f g : List α} {sp dp n : Nat} (d : α) (h1 : sp + n ≤ f.length) (h2 : dp + n ≤ g.length) (j : Nat) : (sx_cpy f g sp dp n).getD j d = if dp ≤ j ∧ j < dp + n then f.getD (sp + (j - dp)) d else g.getD j d := by
  unfold sx_cpy
  rw [List.getD_eq_getElem?_getD, List.getD_eq_getElem?_getD, List.getD_eq_getElem?_getD, List.append_assoc]
  by_cases a1 : j < dp
  · rw [List.getElem?_append_left (by rw [List.length_take]; omega), List.getElem?_take, if_pos a1, if_neg (by omega)]
  · rw [List.getElem?_append_right (by rw [List.length_take]; omega)]
    have e1 : (List.take dp g).length = dp := by rw [List.length_take]; omega
    rw [e1]
    by_cases a2 : j < dp + n
    · rw [List.getElem?_append_left (by rw [List.length_take, List.length_drop]; omega), List.getElem?_take, if_pos (by omega), List.getElem?_drop, if_pos (by omega)]
    · have e2 : (List.take n (List.drop sp f)).length = n := by rw [List.length_take, List.length_drop]; omega
      rw [List.getElem?_append_right (by omega), e2, List.getElem?_drop, if_neg (by omega), show dp + n + (j - dp - n) = j by omega]
section SXN
variable {p : Program} {l : Launch} {e : Env} {R : Room} {s : State} {m : MethodId} {args : Array Value} {below : List Frame} {meth : Method} {c : Code} {Q : State → Prop}
variable {D : va_G} {dA : Nat → ClassId} {h0 : Nat} {sa : Nat → Nat} {md : Bool} {n0 z0 nL : Nat} {pc : Nat} {ls : sx_L} {st : List Value} {w : List sx_C} {F : sx_F} {xs : Option (List Int32)} {mi d : Nat}
theorem sx_kl_use {idx : Nat} {q : Nat × Nat} (hmi : mi < 247) (h : sx_lk (sx_kl (sx_own mi)) idx = some q) : ∃ cq : vw_C, sx_cl[q.1]? = some cq ∧ Cond.classLink (sx_cn.getD (sx_own mi) "") idx cq.1 ∈ sx_tw := by
  have h1 := List.all_eq_true.mp (sx_all sx_kok (sx_own_lt mi hmi)) _ (sx_lk_mem _ _ _ h)
  unfold sx_kchk at h1
  split at h1
  · rename_i cq hcq
    exact ⟨cq, hcq, sx_twm (sx_memp h1) rfl⟩
  · cases h1
theorem sx_o_new {idx : Nat} (X : sx_Ctx p s m args meth c R D dA h0 sa xs mi d) (hd : decode (sx_M mi).2.1 pc = .ok (.new idx, 3)) (h : sx_new (sx_own mi) idx ls pc st w = some F) (hR : sx_ck true n0 F.2.2.2 ≤ R.cells ∧ sx_cs true z0 F.2.2.2 ≤ R.slots) (K : sx_J p l e R s m args below meth c D dA h0 sa true n0 z0 nL Q F) : sx_J p l e R s m args below meth c D dA h0 sa true n0 z0 nL Q (pc, ls, st, w) := by
  obtain ⟨hx, hb, hml, hown, hts, hnm, hfr, hlo, hG, hh, hmi⟩ := X
  unfold sx_new at h
  split at h
  · rename_i q hq
    cases h
    obtain ⟨⟨C, T, N⟩, hcq, hlk⟩ := sx_kl_use hmi hq
    obtain ⟨f1, f2, f3, f4, f5, f6, f7, f8, f9⟩ := sx_cok hcq
    intro H locs lsA hP hS hl h1 h2
    have h1 : n0 ≤ w.length := h1
    have h2 : z0 ≤ sx_sz w := h2
    have hKn := hG.1.1 q.1 _ hcq
    have hsz : H.size = h0 + w.length := hP.2 rfl
    have e9 : sx_s (.inr (.inr (.inr (q.1, sx_df q.1))) : sx_C) = N := f7
    have hR1 : sx_ck true n0 (w ++ [.inr (.inr (.inr (q.1, sx_df q.1)))]) ≤ R.cells := hR.1
    have hR2 : sx_cs true z0 (w ++ [.inr (.inr (.inr (q.1, sx_df q.1)))]) ≤ R.slots := hR.2
    rw [sx_ck_add h1] at hR1
    rw [sx_cs_add h2, e9] at hR2
    refine W.newcK hx hb hown (hts _ hlk) (hts _ f4) (hts _ f5) rfl hd hR1 hR2 hKn.2.1 hsz fun H1 kC hkC e1 z1 o1 => ?_
    have K2 := K.add hP hS hl h1 h2 (H1 := H1) ⟨(C, T, N), hcq, by
      show t_OB (h0 + w.length) (D.1 q.1) N (D.2 q.1) H1 (vp_V ((sx_df q.1).map (sx_v h0 sa)))
      rw [f8]
      exact (u_born (sx_ty q.1) hts f1 hKn hkC e1 f3).to f6⟩ (by rw [z1, hsz]) (fun q9 h9 => o1 q9 (by rw [← hsz]; exact h9))
    rw [e9] at K2
    exact K2
  · cases h
theorem sx_na_i (X : sx_Ctx p s m args meth c R D dA h0 sa xs mi d) {t : Nat} {at_ : ArrayType} (hd : decode (sx_M mi).2.1 pc = .ok (.newarray at_, 2)) (ht : (sx_tys dA)[t]? = some (dA t, newarray.typeOf at_)) (hdv : defaultValue (newarray.typeOf at_) = .int 0) (hcb : componentBytes (newarray.typeOf at_) ≤ 8) (hra : ∀ cA, va_RA s cA (newarray.typeOf at_) → s.vm.findClass ("[" ++ (newarray.typeOf at_).toString) = some cA) (hac : Cond.arrayClass (newarray.typeOf at_) ∈ sx_tw) {n : Int32} {r : List Value} (hn : sx_ln n = true) (hR : sx_ck true n0 (w ++ [.inl (t, List.replicate n.toNatClampNeg 0)]) ≤ R.cells ∧ sx_cs true z0 (w ++ [.inl (t, List.replicate n.toNatClampNeg 0)]) ≤ R.slots) (K : sx_J p l e R s m args below meth c D dA h0 sa true n0 z0 nL Q (pc + 2, ls, .ref w.length :: r, w ++ [.inl (t, List.replicate n.toNatClampNeg 0)])) : sx_J p l e R s m args below meth c D dA h0 sa true n0 z0 nL Q (pc, ls, .int n :: r, w) := by
  obtain ⟨hx, hb, hml, hown, hts, hnm, hfr, hlo, hG, hh, hmi⟩ := X
  obtain ⟨hn0, hn1⟩ := sx_ln_of hn
  intro H locs lsA hP hS hl h1 h2
  have h1 : n0 ≤ w.length := h1
  have h2 : z0 ≤ sx_sz w := h2
  have hsz : H.size = h0 + w.length := hP.2 rfl
  have e9 : sx_s (.inl (t, List.replicate n.toNatClampNeg 0) : sx_C) = n.toNatClampNeg := List.length_replicate
  obtain ⟨hR1, hR2⟩ := hR
  rw [sx_ck_add h1] at hR1
  rw [sx_cs_add h2, e9] at hR2
  refine va_newaK hx hb (hts _ hac) rfl hd rfl hn0 rfl (Nat.le_trans (Nat.mul_le_mul hn1 hcb) (by decide)) hR1 hR2 hsz fun H1 cA e1 z1 o1 hAr hNm => ?_
  have hcA : cA = dA t := Option.some.inj (hNm.symm.trans (hra _ (hG.1.2 t _ ht).2))
  have K2 := K.add hP hS hl h1 h2 (H1 := H1) (by
    show H1[h0 + w.length]? = some (vp_cell (dA t) ((List.replicate n.toNatClampNeg (0 : Int32)).length, .inl (fun j => (List.replicate n.toNatClampNeg (0 : Int32)).getD j 0)))
    rw [e1, vp_cell_i, hcA, hdv, List.length_replicate]
    refine congrArg (fun z9 => some (arrV (dA t) n.toNatClampNeg z9)) (funext fun j => ?_)
    rw [sx_rp]) (by rw [z1, hsz]) (fun q9 h9 => o1 q9 (by rw [← hsz]; exact h9))
  rw [e9] at K2
  exact K2
theorem sx_na_l (X : sx_Ctx p s m args meth c R D dA h0 sa xs mi d) (hd : decode (sx_M mi).2.1 pc = .ok (.newarray .long, 2)) {n : Int32} {r : List Value} (hn : sx_ln n = true) (hR : sx_ck true n0 (w ++ [.inr (.inl (3, List.replicate n.toNatClampNeg 0))]) ≤ R.cells ∧ sx_cs true z0 (w ++ [.inr (.inl (3, List.replicate n.toNatClampNeg 0))]) ≤ R.slots) (K : sx_J p l e R s m args below meth c D dA h0 sa true n0 z0 nL Q (pc + 2, ls, .ref w.length :: r, w ++ [.inr (.inl (3, List.replicate n.toNatClampNeg 0))])) : sx_J p l e R s m args below meth c D dA h0 sa true n0 z0 nL Q (pc, ls, .int n :: r, w) := by
  obtain ⟨hx, hb, hml, hown, hts, hnm, hfr, hlo, hG, hh, hmi⟩ := X
  obtain ⟨hn0, hn1⟩ := sx_ln_of hn
  intro H locs lsA hP hS hl h1 h2
  have h1 : n0 ≤ w.length := h1
  have h2 : z0 ≤ sx_sz w := h2
  have hsz : H.size = h0 + w.length := hP.2 rfl
  have e9 : sx_s (.inr (.inl (3, List.replicate n.toNatClampNeg 0)) : sx_C) = n.toNatClampNeg := List.length_replicate
  obtain ⟨hR1, hR2⟩ := hR
  rw [sx_ck_add h1] at hR1
  rw [sx_cs_add h2, e9] at hR2
  refine va_newaK (atype := .long) hx hb (hts _ sx_w_acJ) rfl hd rfl hn0 rfl (Nat.le_trans (Nat.mul_le_mul hn1 (show componentBytes (newarray.typeOf .long) ≤ 8 by decide)) (by decide)) hR1 hR2 hsz fun H1 cA e1 z1 o1 hAr hNm => ?_
  have hcA : cA = dA 3 := Option.some.inj (hNm.symm.trans (hG.1.2 3 _ rfl).2)
  have K2 := K.add hP hS hl h1 h2 (H1 := H1) (by
    show H1[h0 + w.length]? = some (vp_cell (dA 3) ((List.replicate n.toNatClampNeg (0 : Int64)).length, .inr (.inl (fun j => (List.replicate n.toNatClampNeg (0 : Int64)).getD j 0))))
    rw [e1, vp_cell_l, hcA, List.length_replicate]
    refine congrArg (fun z9 => some (arrV (dA 3) n.toNatClampNeg z9)) (funext fun j => ?_)
    rw [sx_rp]
    rfl) (by rw [z1, hsz]) (fun q9 h9 => o1 q9 (by rw [← hsz]; exact h9))
  rw [e9] at K2
  exact K2
theorem sx_o_na {at_ : ArrayType} (X : sx_Ctx p s m args meth c R D dA h0 sa xs mi d) (hd : decode (sx_M mi).2.1 pc = .ok (.newarray at_, 2)) (h : sx_na at_ ls pc st w = some F) (hR : sx_ck true n0 F.2.2.2 ≤ R.cells ∧ sx_cs true z0 F.2.2.2 ≤ R.slots) (K : sx_J p l e R s m args below meth c D dA h0 sa true n0 z0 nL Q F) : sx_J p l e R s m args below meth c D dA h0 sa true n0 z0 nL Q (pc, ls, st, w) := by
  unfold sx_na at h
  split at h
  · rename_i n r
    cases hbt : sx_ln n with
    | false => rw [hbt] at h; cases h
    | true =>
      rw [hbt] at h
      simp only [cond_true] at h
      split at h
      · cases h
        exact sx_na_i X (t := 0) hd rfl rfl (by decide) (fun _ h9 => h9) sx_w_acI hbt hR K
      · cases h
        exact sx_na_i X (t := 1) hd rfl rfl (by decide) (fun _ h9 => h9) sx_w_acZ hbt hR K
      · cases h
        exact sx_na_i X (t := 2) hd rfl rfl (by decide) (fun _ h9 => h9) sx_w_acB hbt hR K
      · cases h
        exact sx_na_l X hd hbt hR K
      · cases h
  · cases h
theorem sx_an_q (X : sx_Ctx p s m args meth c R D dA h0 sa xs mi d) {t idx : Nat} {C : String} (hd : decode (sx_M mi).2.1 pc = .ok (.anewarray idx, 3)) (ht : (sx_tys dA)[t]? = some (dA t, .object C)) (hAO : va_AO C s) (hlk : Cond.classLink (sx_cn.getD (sx_own mi) "") idx C ∈ sx_tw) {n : Int32} {r : List Value} (hn : sx_ln n = true) (hR : sx_ck true n0 (w ++ [.inr (.inr (.inl (t, List.replicate n.toNatClampNeg none)))]) ≤ R.cells ∧ sx_cs true z0 (w ++ [.inr (.inr (.inl (t, List.replicate n.toNatClampNeg none)))]) ≤ R.slots) (K : sx_J p l e R s m args below meth c D dA h0 sa true n0 z0 nL Q (pc + 3, ls, .ref w.length :: r, w ++ [.inr (.inr (.inl (t, List.replicate n.toNatClampNeg none)))])) : sx_J p l e R s m args below meth c D dA h0 sa true n0 z0 nL Q (pc, ls, .int n :: r, w) := by
  obtain ⟨hx, hb, hml, hown, hts, hnm, hfr, hlo, hG, hh, hmi⟩ := X
  obtain ⟨hn0, hn1⟩ := sx_ln_of hn
  intro H locs lsA hP hS hl h1 h2
  have h1 : n0 ≤ w.length := h1
  have h2 : z0 ≤ sx_sz w := h2
  have hsz : H.size = h0 + w.length := hP.2 rfl
  have e9 : sx_s (.inr (.inr (.inl (t, List.replicate n.toNatClampNeg none))) : sx_C) = n.toNatClampNeg := List.length_replicate
  obtain ⟨hR1, hR2⟩ := hR
  rw [sx_ck_add h1] at hR1
  rw [sx_cs_add h2, e9] at hR2
  refine W.anew hx hb hown (hts _ hlk) (va_AO.use hAO) rfl hd rfl hn0 (by omega) hR1 hR2 fun cA kA comp f1 f2 f3 f4 => ?_
  obtain ⟨kA2, comp2, y1, y2, y3, y4⟩ := (hG.1.2 t _ ht).2
  have hcA : cA = dA t := Option.some.inj (f1.symm.trans y4)
  generalize hH1 : H.push ({ cls := cA, slots := Array.replicate n.toNatClampNeg .null, vm := .none } : Cell) = H1
  have z1 : H1.size = H.size + 1 := by rw [← hH1, Array.size_push]
  have e1 : H1[H.size]? = some (arrV cA n.toNatClampNeg (fun _ => .null)) := by rw [← hH1, Array.getElem?_push_size, ← arrV_new]
  have o1 : ∀ q : Nat, q < H.size → H1[q]? = H[q]? := fun q hq => by rw [← hH1, Array.getElem?_push, if_neg (Nat.ne_of_lt hq)]
  have K2 := K.add hP hS hl h1 h2 (H1 := H1) (by
    show H1[h0 + w.length]? = some (vp_cell (dA t) ((List.replicate n.toNatClampNeg (none : Option Nat)).length, .inr (.inr (.inr (.inr (fun j => ((List.replicate n.toNatClampNeg (none : Option Nat)).getD j none).map (fun i => h0 + i)))))))
    rw [← hsz, e1, vp_cell_q, hcA, List.length_replicate]
    refine congrArg (fun z9 => some (arrV (dA t) n.toNatClampNeg z9)) (funext fun j => ?_)
    rw [sx_rp]
    rfl) z1 o1
  rw [e9] at K2
  rw [hsz]
  exact K2
theorem sx_o_anew {idx : Nat} (X : sx_Ctx p s m args meth c R D dA h0 sa xs mi d) (hd : decode (sx_M mi).2.1 pc = .ok (.anewarray idx, 3)) (h : sx_anew (sx_own mi) idx ls pc st w = some F) (hR : sx_ck true n0 F.2.2.2 ≤ R.cells ∧ sx_cs true z0 F.2.2.2 ≤ R.slots) (K : sx_J p l e R s m args below meth c D dA h0 sa true n0 z0 nL Q F) : sx_J p l e R s m args below meth c D dA h0 sa true n0 z0 nL Q (pc, ls, st, w) := by
  have X0 := X
  obtain ⟨hx, hb, hml, hown, hts, hnm, hfr, hlo, hG, hh, hmi⟩ := X
  unfold sx_anew at h
  split at h
  · rename_i n r
    split at h
    · rename_i pl hq
      cases hbt : sx_ln n with
      | false => rw [hbt] at h; cases h
      | true =>
        rw [hbt] at h
        cases h
        obtain ⟨cq, hcq, hlk⟩ := sx_kl_use hmi hq
        cases hcq
        exact sx_an_q X0 (t := 4) hd rfl hG.2.2.2.1 hlk hbt hR K
    · rename_i pl hq
      cases hbt : sx_ln n with
      | false => rw [hbt] at h; cases h
      | true =>
        rw [hbt] at h
        cases h
        obtain ⟨cq, hcq, hlk⟩ := sx_kl_use hmi hq
        cases hcq
        exact sx_an_q X0 (t := 5) hd rfl hG.2.2.2.2.1 hlk hbt hR K
    · cases h
  · cases h
theorem sx_u120 {k : Nat} (h : k < 20) : (UInt32.ofNat (100 + k)).toNat = 100 + k := by
  show (100 + k) % 2 ^ 32 = 100 + k
  exact Nat.mod_eq_of_lt (by omega)
theorem sx_ldcwS {cc : ByteArray} {H : Heap} {locs : List Loc} {cells slots : Nat} {lsA : Array Slot} {rest : List Value} (hexec : p.tables.exec = Jvm.exec) (hb : c.code = cc) {own tx : String} {index q : Nat} (hown : s.vm.findClass own = some m.cls) (hZ : vk_R own index tx q s) (hdg : decode cc pc = .ok (.ldc_w index, 3))
    (k : W p l e R s m args below meth c H locs cells slots Q (F0 m (pc + 3) lsA (.ref q :: rest))) : W p l e R s m args below meth c H locs cells slots Q (F0 m pc lsA rest) := by
  intro T hT X
  obtain ⟨t, a1, b1⟩ := k T hT X
  obtain ⟨k9, cf, i9, a9, hk, hcf, hcp, -, hr, hev⟩ := Cond.stringRef_spec hown hZ.1
  cases hZ.2.symm.trans hev
  obtain ⟨k8, hk8, he⟩ := X.warmed.alike.2.2 _ _ hk
  have hr8 : k8.resolved[index]? = some (some (.string q)) := by
    rcases X.warmed.entry hk hk8 index with h | ⟨h, -⟩
    · rw [h]; exact hr
    · rw [hr] at h; cases h
  refine ⟨t, ?_, b1⟩
  jvm_step X.here [hexec, hb, hdg, ldc_w.wp_string (e := e) (s := T) (f := F0 m pc lsA rest) X.here.top hk8 (by rw [he]; exact hcf) hcp hr8]
  exact a1
theorem sx_o_kc2 {idx : Nat} (X : sx_Ctx p s m args meth c R D dA h0 sa xs mi d) (hd : decode (sx_M mi).2.1 pc = .ok (.ldc idx, 2)) (h : sx_kc (sx_own mi) idx pc 2 ls st w = some F) (K : sx_J p l e R s m args below meth c D dA h0 sa md n0 z0 nL Q F) : sx_J p l e R s m args below meth c D dA h0 sa md n0 z0 nL Q (pc, ls, st, w) := by
  obtain ⟨hx, hb, hml, hown, hts, hnm, hfr, hlo, hG, hh, hmi⟩ := X
  unfold sx_kc at h
  split at h
  · rename_i q hq
    cases h
    have h1 := List.all_eq_true.mp (sx_all sx_kIok (sx_own_lt mi hmi)) _ (sx_lk_mem _ _ _ hq)
    exact sx_o_go (fun H locs lsA cells slots k => lv_ldc hx hb hown (hts _ (sx_twm (sx_memp h1) rfl)) hd k) K
  · split at h
    · rename_i q hq
      cases hbt : Nat.blt q.1 20 with
      | false => rw [hbt] at h; cases h
      | true =>
        rw [hbt] at h
        cases h
        have hk : q.1 < 20 := Nat.le_of_ble_eq_true hbt
        have hZ := hG.2.2.2.2.2.2.2.1 _ _ (sx_lk_mem _ _ _ hq)
        have e1 : sx_v h0 sa (.float (UInt32.ofNat (100 + q.1))) = .ref (sa (100 + q.1)) := by
          show Value.ref (sa (UInt32.ofNat (100 + q.1)).toNat) = _
          rw [sx_u120 hk]
        refine sx_o_go (fun H locs lsA cells slots k => ?_) K
        rw [List.map_cons, e1] at k
        exact va_ldcS hx hb hown hZ hd k
    · cases h
theorem sx_o_kc3 {idx : Nat} (X : sx_Ctx p s m args meth c R D dA h0 sa xs mi d) (hd : decode (sx_M mi).2.1 pc = .ok (.ldc_w idx, 3)) (h : sx_kc (sx_own mi) idx pc 3 ls st w = some F) (K : sx_J p l e R s m args below meth c D dA h0 sa md n0 z0 nL Q F) : sx_J p l e R s m args below meth c D dA h0 sa md n0 z0 nL Q (pc, ls, st, w) := by
  obtain ⟨hx, hb, hml, hown, hts, hnm, hfr, hlo, hG, hh, hmi⟩ := X
  unfold sx_kc at h
  split at h
  · rename_i q hq
    cases h
    have h1 := List.all_eq_true.mp (sx_all sx_kIok (sx_own_lt mi hmi)) _ (sx_lk_mem _ _ _ hq)
    exact sx_o_go (fun H locs lsA cells slots k => lv_ldcw hx hb hown (hts _ (sx_twm (sx_memp h1) rfl)) hd k) K
  · split at h
    · rename_i q hq
      cases hbt : Nat.blt q.1 20 with
      | false => rw [hbt] at h; cases h
      | true =>
        rw [hbt] at h
        cases h
        have hk : q.1 < 20 := Nat.le_of_ble_eq_true hbt
        have hZ := hG.2.2.2.2.2.2.2.1 _ _ (sx_lk_mem _ _ _ hq)
        have e1 : sx_v h0 sa (.float (UInt32.ofNat (100 + q.1))) = .ref (sa (100 + q.1)) := by
          show Value.ref (sa (UInt32.ofNat (100 + q.1)).toNat) = _
          rw [sx_u120 hk]
        refine sx_o_go (fun H locs lsA cells slots k => ?_) K
        rw [List.map_cons, e1] at k
        exact sx_ldcwS hx hb hown hZ hd k
    · cases h
theorem sx_o_kj {idx : Nat} (X : sx_Ctx p s m args meth c R D dA h0 sa xs mi d) (hd : decode (sx_M mi).2.1 pc = .ok (.ldc2_w idx, 3)) (h : sx_kj (sx_own mi) idx ls pc st w = some F) (K : sx_J p l e R s m args below meth c D dA h0 sa md n0 z0 nL Q F) : sx_J p l e R s m args below meth c D dA h0 sa md n0 z0 nL Q (pc, ls, st, w) := by
  obtain ⟨hx, hb, hml, hown, hts, hnm, hfr, hlo, hG, hh, hmi⟩ := X
  unfold sx_kj at h
  split at h
  · rename_i q hq
    cases h
    have h1 := List.all_eq_true.mp (sx_all sx_kJok (sx_own_lt mi hmi)) _ (sx_lk_mem _ _ _ hq)
    exact sx_o_go (fun H locs lsA cells slots k => lv_ldc2 hx hb hown (hts _ (sx_twm (sx_memp h1) rfl)) hd k) K
  · cases h
theorem sx_u4 {k : Nat} (h : k < 4) : (UInt32.ofNat k).toNat = k := by
  rcases (show k = 0 ∨ k = 1 ∨ k = 2 ∨ k = 3 by omega) with rfl | rfl | rfl | rfl <;> rfl
theorem sx_o_gs {idx : Nat} (X : sx_Ctx p s m args meth c R D dA h0 sa xs mi d) (hd : decode (sx_M mi).2.1 pc = .ok (.getstatic idx, 3)) (h : sx_gs (sx_own mi) idx ls pc st w = some F) (K : sx_J p l e R s m args below meth c D dA h0 sa md n0 z0 nL Q F) : sx_J p l e R s m args below meth c D dA h0 sa md n0 z0 nL Q (pc, ls, st, w) := by
  obtain ⟨hx, hb, hml, hown, hts, hnm, hfr, hlo, hG, hh, hmi⟩ := X
  unfold sx_gs at h
  split at h
  · rename_i q hq
    cases hbt : Nat.blt q.1 4 with
    | false => rw [hbt] at h; cases h
    | true =>
      rw [hbt] at h
      cases h
      have hk : q.1 < 4 := Nat.le_of_ble_eq_true hbt
      have h1 := List.all_eq_true.mp (sx_all sx_sok (sx_own_lt mi hmi)) _ (sx_lk_mem _ _ _ hq)
      intro H locs lsA hP hS hl g1 g2
      have e1 : sx_v h0 sa (.float (UInt32.ofNat q.1)) = .ref (sa q.1) := by
        show Value.ref (sa (UInt32.ofNat q.1).toNat) = _
        rw [sx_u4 hk]
      refine va_gets hx hb (v := sx_v h0 sa (.float (UInt32.ofNat q.1))) (by rw [e1]; exact hG.2.1 q.1 hk) hS hown (hts _ (sx_twm (sx_memp h1) rfl)) (fun _ h9 => h9) hd (K H locs lsA hP hS hl g1 g2)
  · cases h
theorem sx_o_obj {idx : Nat} (X : sx_Ctx p s m args meth c R D dA h0 sa xs mi d) (hd : decode (sx_M mi).2.1 pc = .ok (.invokespecial idx, 3)) (h : sx_obj (sx_own mi) idx ls pc st w = some F) (K : sx_J p l e R s m args below meth c D dA h0 sa md n0 z0 (sx_maxL mi) Q F) : sx_J p l e R s m args below meth c D dA h0 sa md n0 z0 (sx_maxL mi) Q (pc, ls, st, w) := by
  obtain ⟨hx, hb, hml, hown, hts, hnm, hfr, hlo, hG, hh, hmi⟩ := X
  unfold sx_obj at h
  split at h
  · rename_i pl a r hq
    cases hbt : Nat.ble (r.map (fun v => v.category)).sum 8 with
    | false => rw [hbt] at h; cases h
    | true =>
      rw [hbt] at h
      cases h
      have h1 := List.all_eq_true.mp (sx_all sx_oiok (sx_own_lt mi hmi)) _ (sx_lk_mem _ _ _ hq)
      have h8 := Nat.le_of_ble_eq_true hbt
      intro H locs lsA hP hS hl g1 g2
      refine W.objInit hx hb hown (hts _ (sx_twm (sx_memp h1) rfl)) (hts _ sx_w_objM) (hts _ sx_w_objI) rfl (by rw [hml]; exact hl.1) rfl hd (by omega) ?_ (K H locs lsA hP hS hl g1 g2)
      show 2 * 0 + ((r.map (sx_v h0 sa)).map fun v => v.category).sum + 12 ≤ R.locals
      rw [sx_cat_map]
      omega
  · cases h
theorem sx_o_len (X : sx_Ctx p s m args meth c R D dA h0 sa xs mi d) (hd : decode (sx_M mi).2.1 pc = .ok (.arraylength, 1)) (h : sx_len xs ls pc st w = some F) (K : sx_J p l e R s m args below meth c D dA h0 sa md n0 z0 nL Q F) : sx_J p l e R s m args below meth c D dA h0 sa md n0 z0 nL Q (pc, ls, st, w) := by
  obtain ⟨hx, hb, hml, hown, hts, hnm, hfr, hlo, hG, hh, hmi⟩ := X
  unfold sx_len at h
  split at h
  · rename_i k r ys
    cases hbt : Nat.beq k.toNat 4 with
    | false => rw [hbt] at h; cases h
    | true =>
      rw [hbt] at h
      cases h
      have hk : k.toNat = 4 := Nat.eq_of_beq_eq_true hbt
      intro H locs lsA hP hS hl g1 g2
      have hT := hG.2.2.1 4 (by decide)
      have K1 := K H locs lsA hP hS hl g1 g2
      have e1 : sx_v h0 sa (.float k) = .ref (sa 4) := by
        show Value.ref (sa k.toNat) = _
        rw [hk]
      show W p l e R s m args below meth c H locs _ _ Q (F0 m pc lsA (sx_v h0 sa (.float k) :: r.map (sx_v h0 sa)))
      rw [e1]
      exact va_tlen hx hb hT hS rfl hd K1
  · cases h
theorem sx_o_acp {idx : Nat} (X : sx_Ctx p s m args meth c R D dA h0 sa xs mi d) (hd : decode (sx_M mi).2.1 pc = .ok (.invokestatic idx, 3)) (h : sx_acp (sx_own mi) idx ls pc st w = some F) (K : sx_J p l e R s m args below meth c D dA h0 sa false n0 z0 (sx_maxL mi) Q F) : sx_J p l e R s m args below meth c D dA h0 sa false n0 z0 (sx_maxL mi) Q (pc, ls, st, w) := by
  obtain ⟨hx, hb, hml, hown, hts, hnm, hfr, hlo, hG, hh, hmi⟩ := X
  unfold sx_acp at h
  split at h
  · rename_i n dp a sp a0 r
    split at h
    · rename_i pl hq
      cases hbt : (!(decide (sp < 0)) && !(decide (dp < 0)) && !(decide (n < 0)) && Nat.ble (r.map (fun v => v.category)).sum 8) with
      | false => rw [hbt] at h; cases h
      | true =>
        rw [hbt] at h
        simp only [cond_true] at h
        simp only [Bool.and_eq_true, Bool.not_eq_true', decide_eq_false_iff_not] at hbt
        obtain ⟨⟨⟨b1, b2⟩, b3⟩, b4⟩ := hbt
        have h8 := Nat.le_of_ble_eq_true b4
        have hlk := sx_memp (List.all_eq_true.mp (sx_all sx_aok (sx_own_lt mi hmi)) _ (sx_lk_mem _ _ _ hq))
        have hroom : ((r.map (sx_v h0 sa)).map fun v => v.category).sum + (nativeFrameWords "java/lang/System" "arraycopy" 5 + 11) ≤ R.locals := by
          rw [sx_cat_map, show nativeFrameWords "java/lang/System" "arraycopy" 5 = 7 by decide]
          omega
        split at h
        · rename_i f g hw0 hw1
          cases hc2 : (Nat.ble (sp.toNatClampNeg + n.toNatClampNeg) f.length && Nat.ble (dp.toNatClampNeg + n.toNatClampNeg) g.length) with
          | false => rw [hc2] at h; cases h
          | true =>
            rw [hc2] at h
            cases h
            simp only [Bool.and_eq_true] at hc2
            have c1 := Nat.le_of_ble_eq_true hc2.1
            have c2 := Nat.le_of_ble_eq_true hc2.2
            intro H locs lsA hP hS hl g1 g2
            refine va_copyi hx hb (by rw [hml]; exact hl.1.symm) hown (hts _ (sx_twm hlk rfl)) (hts _ sx_w_cpN) (hts _ sx_w_cpS) (hts _ sx_w_sys) hG.1 hP.1 (sx_D dA h0 sa w) hS a0 a 0 0 (by rw [sx_W_get, hw0]; rfl) (by rw [sx_W_get, hw1]; rfl) rfl rfl rfl b1 b2 b3 c1 c2 (fun _ _ => rfl) (by omega) hroom hd (fun H1 locs1 hP1 _ hS1 => ?_)
            have e1 : sx_E dA h0 sa (.inl (0, sx_cpy f g sp.toNatClampNeg dp.toNatClampNeg n.toNatClampNeg)) = .inl (dA 0, g.length, .inl (va_cpy (fun j => f.getD j 0) (fun j => g.getD j 0) sp.toNatClampNeg dp.toNatClampNeg n.toNatClampNeg)) := by
              show (Sum.inl (dA 0, (sx_cpy f g _ _ _).length, _) : va_E) = _
              rw [sx_cpy_len c1 c2]
              refine congrArg (fun z9 => (Sum.inl (dA 0, g.length, Sum.inl z9) : va_E)) (funext fun j => ?_)
              exact sx_cpy_get 0 c1 c2 j
            rw [← e1, sx_W_set] at hP1
            exact K H1 locs1 lsA ⟨hP1, fun hm => by cases hm⟩ hS1 hl (by show n0 ≤ (w.set a _).length; rw [List.length_set]; exact g1) (by show z0 ≤ sx_sz (w.set a _); rw [sx_sz_set w a _ (.inl (0, sx_cpy f g sp.toNatClampNeg dp.toNatClampNeg n.toNatClampNeg)) hw1 (sx_cpy_len c1 c2)]; exact g2)
        · rename_i f g hw0 hw1
          cases hc2 : (Nat.ble (sp.toNatClampNeg + n.toNatClampNeg) f.length && Nat.ble (dp.toNatClampNeg + n.toNatClampNeg) g.length) with
          | false => rw [hc2] at h; cases h
          | true =>
            rw [hc2] at h
            cases h
            simp only [Bool.and_eq_true] at hc2
            have c1 := Nat.le_of_ble_eq_true hc2.1
            have c2 := Nat.le_of_ble_eq_true hc2.2
            intro H locs lsA hP hS hl g1 g2
            refine va_copyl hx hb (by rw [hml]; exact hl.1.symm) hown (hts _ (sx_twm hlk rfl)) (hts _ sx_w_cpN) (hts _ sx_w_cpS) (hts _ sx_w_sys) hG.1 hP.1 (sx_D dA h0 sa w) hS a0 a 3 3 (by rw [sx_W_get, hw0]; rfl) (by rw [sx_W_get, hw1]; rfl) rfl rfl rfl b1 b2 b3 c1 c2 (fun _ _ => rfl) (by omega) hroom hd (fun H1 locs1 hP1 _ hS1 => ?_)
            have e1 : sx_E dA h0 sa (.inr (.inl (3, sx_cpy f g sp.toNatClampNeg dp.toNatClampNeg n.toNatClampNeg))) = .inl (dA 3, g.length, .inr (.inl (va_cpy (fun j => f.getD j 0) (fun j => g.getD j 0) sp.toNatClampNeg dp.toNatClampNeg n.toNatClampNeg))) := by
              show (Sum.inl (dA 3, (sx_cpy f g _ _ _).length, _) : va_E) = _
              rw [sx_cpy_len c1 c2]
              refine congrArg (fun z9 => (Sum.inl (dA 3, g.length, Sum.inr (Sum.inl z9)) : va_E)) (funext fun j => ?_)
              exact sx_cpy_get 0 c1 c2 j
            rw [← e1, sx_W_set] at hP1
            exact K H1 locs1 lsA ⟨hP1, fun hm => by cases hm⟩ hS1 hl (by show n0 ≤ (w.set a _).length; rw [List.length_set]; exact g1) (by show z0 ≤ sx_sz (w.set a _); rw [sx_sz_set w a _ (.inr (.inl (3, sx_cpy f g sp.toNatClampNeg dp.toNatClampNeg n.toNatClampNeg))) hw1 (sx_cpy_len c1 c2)]; exact g2)
        · cases h
    · cases h
  · cases h
end SXN
