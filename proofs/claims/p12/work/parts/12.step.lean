-- a step of the pure machine is a walk of the machine
/-- new int[n][k]: one row that stands elsewhere -/
def sx_MNA0 : Prop := ∀ {p : Program} {l : Launch} {e : Env} {R : Room} {s : State} {m : MethodId} {args : Array Value} {below : List Frame} {meth : Method} {c : Code} {Q : State → Prop} {D : va_G} {dA : Nat → ClassId} {h0 : Nat} {sa : Nat → Nat} {n0 z0 nL : Nat} {pc : Nat} {ls : sx_L} {st : List Value} {w : List sx_C} {F : sx_F} {xs : Option (List Int32)} {mi d idx dim : Nat}, sx_Ctx p s m args meth c R D dA h0 sa xs mi d → decode (sx_M mi).2.1 pc = .ok (.multianewarray idx dim, 4) → sx_mna (sx_own mi) idx dim ls pc st w = some F → (sx_ck true n0 F.2.2.2 ≤ R.cells ∧ sx_cs true z0 F.2.2.2 ≤ R.slots) → sx_J p l e R s m args below meth c D dA h0 sa true n0 z0 nL Q F → sx_J p l e R s m args below meth c D dA h0 sa true n0 z0 nL Q (pc, ls, st, w)
/-- String's own methods: one row that stands elsewhere -/
def sx_STR : Prop := ∀ {p : Program} {l : Launch} {e : Env} {R : Room} {s : State} {m : MethodId} {args : Array Value} {below : List Frame} {meth : Method} {c : Code} {Q : State → Prop} {D : va_G} {dA : Nat → ClassId} {h0 : Nat} {sa : Nat → Nat} {md : Bool} {n0 z0 : Nat} {pc : Nat} {ls : sx_L} {st : List Value} {w : List sx_C} {F : sx_F} {xs : Option (List Int32)} {mi d idx : Nat}, sx_Ctx p s m args meth c R D dA h0 sa xs mi d → decode (sx_M mi).2.1 pc = .ok (.invokevirtual idx, 3) → (sx_sv mi (.invokevirtual idx) = true → 5 ≤ R.frames ∧ 105 ≤ R.locals) → sx_str (sx_own mi) idx ls pc st w = some F → (sx_ck md n0 F.2.2.2 ≤ R.cells ∧ sx_cs md z0 F.2.2.2 ≤ R.slots) → sx_J p l e R s m args below meth c D dA h0 sa md n0 z0 (sx_maxL mi) Q F → sx_J p l e R s m args below meth c D dA h0 sa md n0 z0 (sx_maxL mi) Q (pc, ls, st, w)
def sx_MNA : Prop := sx_MNA0 ∧ sx_STR
section SXS
variable {p : Program} {l : Launch} {e : Env} {R : Room} {s : State} {m : MethodId} {args : Array Value} {below : List Frame} {meth : Method} {c : Code} {Q : State → Prop}
variable {D : va_G} {dA : Nat → ClassId} {h0 : Nat} {sa : Nat → Nat} {md : Bool} {n0 z0 : Nat} {pc : Nat} {ls : sx_L} {st : List Value} {w : List sx_C} {F : sx_F} {xs : Option (List Int32)} {mi d : Nat}
set_option maxHeartbeats 4000000 in
theorem sx_step_ok (hM : sx_MNA) {i : Instr} {n : Nat} (X : sx_Ctx p s m args meth c R D dA h0 sa xs mi d) (hd : decode (sx_M mi).2.1 pc = .ok (i, n)) (hst : sx_sv mi i = true → 5 ≤ R.frames ∧ 105 ≤ R.locals) (h : sx_step md xs mi pc i n ls st w = some F) (hR : sx_ck md n0 F.2.2.2 ≤ R.cells ∧ sx_cs md z0 F.2.2.2 ≤ R.slots) (K : sx_J p l e R s m args below meth c D dA h0 sa md n0 z0 (sx_maxL mi) Q F) : sx_J p l e R s m args below meth c D dA h0 sa md n0 z0 (sx_maxL mi) Q (pc, ls, st, w) := by
  have X0 := X
  obtain ⟨hx, hb, -⟩ := X
  unfold sx_step at h
  split at h
  · cases h; exact sx_o_go (fun H locs lsA cells slots k => lv_iconst hx hb hd rfl k) K
  · cases h; exact sx_o_go (fun H locs lsA cells slots k => lv_bipush hx hb hd rfl k) K
  · cases h; exact sx_o_go (fun H locs lsA cells slots k => lv_sipush hx hb hd rfl k) K
  · cases h; exact sx_o_go (fun H locs lsA cells slots k => lv_lconst hx hb hd rfl k) K
  · exact sx_o_kc2 X0 hd h K
  · exact sx_o_kc3 X0 hd h K
  · exact sx_o_kj X0 hd h K
  · exact sx_o_ldi (fun x rest H locs lsA cells slots hl k => lv_iload_n hx hb hd rfl hl k) h K
  · exact sx_o_ldi (fun x rest H locs lsA cells slots hl k => lv_iload hx hb hd hl k) h K
  · exact sx_o_ldl (fun x rest H locs lsA cells slots hl k => lv_lload_n hx hb hd rfl hl k) h K
  · exact sx_o_ldl (fun x rest H locs lsA cells slots hl k => lv_lload hx hb hd hl k) h K
  · exact sx_o_lda (fun x rest H locs lsA cells slots hl k => lv_aload_n hx hb hd rfl hl k) h K
  · exact sx_o_lda (fun x rest H locs lsA cells slots hl k => lv_aload hx hb hd hl k) h K
  · exact sx_o_sti (fun x rest H locs lsA cells slots lv lv2 h1 h2 h3 kk => lv_istore_n hx hb hd rfl h1 h2 h3 kk) h K
  · exact sx_o_sti (fun x rest H locs lsA cells slots lv lv2 h1 h2 h3 kk => lv_istore hx hb hd h1 h2 h3 kk) h K
  · exact sx_o_stl (fun x rest H locs lsA cells slots lv lv2 h1 h2 h3 kk => lv_lstore_n hx hb hd rfl h1 h2 h3 kk) h K
  · exact sx_o_stl (fun x rest H locs lsA cells slots lv lv2 h1 h2 h3 kk => lv_lstore hx hb hd h1 h2 h3 kk) h K
  · exact sx_o_sta (fun x rest H locs lsA cells slots lv lv2 h1 h2 h3 kk => lv_astore_n hx hb hd rfl h1 h2 h3 kk) h K
  · exact sx_o_sta (fun x rest H locs lsA cells slots lv lv2 h1 h2 h3 kk => lv_astore hx hb hd h1 h2 h3 kk) h K
  · exact sx_o_inc hx hb hd h K
  · exact sx_o_ii (fun x y rest H locs lsA cells slots k => lv_iadd hx hb hd k) h K
  · exact sx_o_ii (fun x y rest H locs lsA cells slots k => lv_isub hx hb hd k) h K
  · exact sx_o_ii (fun x y rest H locs lsA cells slots k => lv_imul hx hb hd k) h K
  · exact sx_o_ii (fun x y rest H locs lsA cells slots k => lv_iand hx hb hd k) h K
  · exact sx_o_ii (fun x y rest H locs lsA cells slots k => lv_ishl hx hb hd k) h K
  · exact sx_o_ii (fun x y rest H locs lsA cells slots k => lv_ishr hx hb hd k) h K
  · exact sx_o_iz (fun x y rest H locs lsA cells slots hz k => lv_idiv hx hb hd hz k) h K
  · exact sx_o_iz (fun x y rest H locs lsA cells slots hz k => lv_irem hx hb hd hz k) h K
  · exact sx_o_i1 (fun x rest H locs lsA cells slots k => lv_ineg hx hb hd k) h K
  · exact sx_o_i1 (fun x rest H locs lsA cells slots k => lv_i2b hx hb hd rfl k) h K
  · exact sx_o_i1 (fun x rest H locs lsA cells slots k => lv_i2s hx hb hd rfl k) h K
  · exact sx_o_jj (fun x y rest H locs lsA cells slots k => lv_ladd hx hb hd k) h K
  · exact sx_o_jj (fun x y rest H locs lsA cells slots k => lv_lsub hx hb hd k) h K
  · exact sx_o_jj (fun x y rest H locs lsA cells slots k => lv_lmul hx hb hd k) h K
  · exact sx_o_jj (fun x y rest H locs lsA cells slots k => lv_land hx hb hd k) h K
  · exact sx_o_jj (fun x y rest H locs lsA cells slots k => lv_lor hx hb hd k) h K
  · exact sx_o_jj (fun x y rest H locs lsA cells slots k => lv_lxor hx hb hd k) h K
  · exact sx_o_ji (fun x y rest H locs lsA cells slots k => lv_lshl hx hb hd rfl k) h K
  · exact sx_o_ji (fun x y rest H locs lsA cells slots k => lv_lushr hx hb hd rfl k) h K
  · split at h
    · cases h; exact sx_o_go (fun H locs lsA cells slots k => W.lcmp hx hb hd k) K
    · cases h
  · split at h
    · cases h; exact sx_o_go (fun H locs lsA cells slots k => lv_i2l hx hb hd rfl k) K
    · cases h
  · split at h
    · cases h; exact sx_o_go (fun H locs lsA cells slots k => lv_l2i hx hb hd rfl k) K
    · cases h
  · exact sx_o_dup hx hb hd h K
  · exact sx_o_pop hx hb hd h K
  · exact sx_o_dup2 hx hb hd h K
  · exact sx_o_pop2 hx hb hd h K
  · exact sx_o_b1 (fun x => inferInstance) (fun x t rest H locs lsA cells slots ht kt kf => lv_if_eq hx hb hd ht kt kf) h K
  · exact sx_o_b2 (fun x y => inferInstance) (fun x y t rest H locs lsA cells slots ht kt kf => lv_icmp_eq hx hb hd ht kt kf) h K
  · exact sx_o_b1 (fun x => inferInstance) (fun x t rest H locs lsA cells slots ht kt kf => lv_if_ne hx hb hd ht kt (fun q => kf (fun q2 => q2 q))) h K
  · exact sx_o_b2 (fun x y => inferInstance) (fun x y t rest H locs lsA cells slots ht kt kf => lv_icmp_ne hx hb hd ht kt (fun q => kf (fun q2 => q2 q))) h K
  · exact sx_o_b1 (fun x => inferInstance) (fun x t rest H locs lsA cells slots ht kt kf => lv_if_lt hx hb hd ht kt kf) h K
  · exact sx_o_b2 (fun x y => inferInstance) (fun x y t rest H locs lsA cells slots ht kt kf => lv_icmp_lt hx hb hd ht kt kf) h K
  · exact sx_o_b1 (fun x => inferInstance) (fun x t rest H locs lsA cells slots ht kt kf => lv_if_ge hx hb hd ht kt kf) h K
  · exact sx_o_b2 (fun x y => inferInstance) (fun x y t rest H locs lsA cells slots ht kt kf => lv_icmp_ge hx hb hd ht kt kf) h K
  · exact sx_o_b1 (fun x => inferInstance) (fun x t rest H locs lsA cells slots ht kt kf => lv_if_gt hx hb hd ht kt kf) h K
  · exact sx_o_b2 (fun x y => inferInstance) (fun x y t rest H locs lsA cells slots ht kt kf => lv_icmp_gt hx hb hd ht kt kf) h K
  · exact sx_o_b1 (fun x => inferInstance) (fun x t rest H locs lsA cells slots ht kt kf => lv_if_le hx hb hd ht kt kf) h K
  · exact sx_o_b2 (fun x y => inferInstance) (fun x y t rest H locs lsA cells slots ht kt kf => lv_icmp_le hx hb hd ht kt kf) h K
  · split at h
    · rename_i t ht
      cases h; exact sx_o_go (fun H locs lsA cells slots k => lv_goto hx hb hd (sx_to_eq ht) k) K
    · cases h
  · exact sx_o_sw hx hb hd h K
  · exact sx_o_gf X0 hd h K
  · exact sx_o_pf X0 hd h K
  · exact sx_o_gs X0 hd h K
  · exact sx_o_iald X0 hd h K
  · exact sx_o_bald X0 hd h K
  · exact sx_o_lald X0 hd h K
  · exact sx_o_aald X0 hd h K
  · exact sx_o_iast X0 hd h K
  · exact sx_o_bast X0 hd h K
  · exact sx_o_last X0 hd h K
  · exact sx_o_aast X0 hd h K
  · exact sx_o_len X0 hd h K
  · cases md with
    | false => cases h
    | true => exact sx_o_new X0 hd h hR K
  · cases md with
    | false => cases h
    | true => exact sx_o_na X0 hd h hR K
  · cases md with
    | false => cases h
    | true => exact sx_o_anew X0 hd h hR K
  · cases md with
    | false => cases h
    | true => exact hM.1 X0 hd h hR K
  · exact sx_o_obj X0 hd h K
  · cases md with
    | true => cases h
    | false => exact sx_o_acp X0 hd h K
  · exact hM.2 X0 hd hst h hR K
  · cases h
end SXS
