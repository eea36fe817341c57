noncomputable def sx_dchk (mi : Nat) : Bool := (List.range (sx_M mi).2.2.2.2.2.2.2.1).all (fun pc => match (sx_M mi).2.2.2.2.2.2.2.2 pc with
  | none => true
  | some x => decide (decode (sx_M mi).2.1 pc = .ok x))
theorem dw_u1r (c : ByteArray) (p : Nat) : (Reader.u1 : Decoder Nat).runAt c p = if h : p < c.size then .ok (c[p].toNat, p + 1) else .error (.truncated p) := by
  show (if h : p < c.size then (do set (p + 1); pure c[p].toNat : Decoder Nat) else throw (HasTruncated.truncated p)) c p = _
  by_cases h : p < c.size
  · rw [dif_pos h, dif_pos h]; rfl
  · rw [dif_neg h, dif_neg h]; rfl
theorem dw_dn {P : Nat → Prop} {n : Nat} (h : P n) (r : ∀ m, m < n → P m) : ∀ m, m < n + 1 → P m := fun m hm => if e : m = n then e ▸ h else r m (by omega)
noncomputable def dv_I (op a b : Nat) : Instr × Nat := cond (Nat.blt op 100) (cond (Nat.blt op 45) (cond (Nat.blt op 20) (cond (Nat.blt op 8) (cond (Nat.blt op 4) (cond (Nat.blt op 2) ((.aconst_null, 1)) (cond (Nat.blt op 3) ((.iconst (-1), 1)) ((.iconst (0), 1)))) (cond (Nat.blt op 6) (cond (Nat.blt op 5) ((.iconst (1), 1)) ((.iconst (2), 1))) (cond (Nat.blt op 7) ((.iconst (3), 1)) ((.iconst (4), 1))))) (cond (Nat.blt op 16) (cond (Nat.blt op 9) ((.iconst (5), 1)) (cond (Nat.blt op 10) ((.lconst 0, 1)) ((.lconst 1, 1)))) (cond (Nat.blt op 18) (cond (Nat.blt op 17) ((.bipush (Reader.signed 8 a), 2)) ((.sipush (Reader.signed 16 (a * 256 + b)), 3))) (cond (Nat.blt op 19) ((.ldc a, 2)) ((.ldc_w (a * 256 + b), 3)))))) (cond (Nat.blt op 29) (cond (Nat.blt op 25) (cond (Nat.blt op 21) ((.ldc2_w (a * 256 + b), 3)) (cond (Nat.blt op 22) ((.iload a, 2)) ((.lload a, 2)))) (cond (Nat.blt op 27) (cond (Nat.blt op 26) ((.aload a, 2)) ((.iload_n 0, 1))) (cond (Nat.blt op 28) ((.iload_n 1, 1)) ((.iload_n 2, 1))))) (cond (Nat.blt op 33) (cond (Nat.blt op 31) (cond (Nat.blt op 30) ((.iload_n 3, 1)) ((.lload_n 0, 1))) (cond (Nat.blt op 32) ((.lload_n 1, 1)) ((.lload_n 2, 1)))) (cond (Nat.blt op 43) (cond (Nat.blt op 42) ((.lload_n 3, 1)) ((.aload_n 0, 1))) (cond (Nat.blt op 44) ((.aload_n 1, 1)) ((.aload_n 2, 1))))))) (cond (Nat.blt op 66) (cond (Nat.blt op 58) (cond (Nat.blt op 50) (cond (Nat.blt op 46) ((.aload_n 3, 1)) (cond (Nat.blt op 47) ((.iaload, 1)) ((.laload, 1)))) (cond (Nat.blt op 54) (cond (Nat.blt op 51) ((.aaload, 1)) ((.baload, 1))) (cond (Nat.blt op 55) ((.istore a, 2)) ((.lstore a, 2))))) (cond (Nat.blt op 62) (cond (Nat.blt op 60) (cond (Nat.blt op 59) ((.astore a, 2)) ((.istore_n 0, 1))) (cond (Nat.blt op 61) ((.istore_n 1, 1)) ((.istore_n 2, 1)))) (cond (Nat.blt op 64) (cond (Nat.blt op 63) ((.istore_n 3, 1)) ((.lstore_n 0, 1))) (cond (Nat.blt op 65) ((.lstore_n 1, 1)) ((.lstore_n 2, 1)))))) (cond (Nat.blt op 83) (cond (Nat.blt op 77) (cond (Nat.blt op 75) ((.lstore_n 3, 1)) (cond (Nat.blt op 76) ((.astore_n 0, 1)) ((.astore_n 1, 1)))) (cond (Nat.blt op 79) (cond (Nat.blt op 78) ((.astore_n 2, 1)) ((.astore_n 3, 1))) (cond (Nat.blt op 80) ((.iastore, 1)) ((.lastore, 1))))) (cond (Nat.blt op 89) (cond (Nat.blt op 87) (cond (Nat.blt op 84) ((.aastore, 1)) ((.bastore, 1))) (cond (Nat.blt op 88) ((.pop, 1)) ((.pop2, 1)))) (cond (Nat.blt op 96) (cond (Nat.blt op 92) ((.dup, 1)) ((.dup2, 1))) (cond (Nat.blt op 97) ((.iadd, 1)) ((.ladd, 1)))))))) (cond (Nat.blt op 154) (cond (Nat.blt op 125) (cond (Nat.blt op 113) (cond (Nat.blt op 105) (cond (Nat.blt op 101) ((.isub, 1)) (cond (Nat.blt op 104) ((.lsub, 1)) ((.imul, 1)))) (cond (Nat.blt op 109) (cond (Nat.blt op 108) ((.lmul, 1)) ((.idiv, 1))) (cond (Nat.blt op 112) ((.ldiv, 1)) ((.irem, 1))))) (cond (Nat.blt op 121) (cond (Nat.blt op 117) (cond (Nat.blt op 116) ((.lrem, 1)) ((.ineg, 1))) (cond (Nat.blt op 120) ((.lneg, 1)) ((.ishl, 1)))) (cond (Nat.blt op 123) (cond (Nat.blt op 122) ((.lshl, 1)) ((.ishr, 1))) (cond (Nat.blt op 124) ((.lshr, 1)) ((.iushr, 1)))))) (cond (Nat.blt op 132) (cond (Nat.blt op 128) (cond (Nat.blt op 126) ((.lushr, 1)) (cond (Nat.blt op 127) ((.iand, 1)) ((.land, 1)))) (cond (Nat.blt op 130) (cond (Nat.blt op 129) ((.ior, 1)) ((.lor, 1))) (cond (Nat.blt op 131) ((.ixor, 1)) ((.lxor, 1))))) (cond (Nat.blt op 146) (cond (Nat.blt op 136) (cond (Nat.blt op 133) ((.iinc a (Reader.signed 8 b), 3)) ((.i2l, 1))) (cond (Nat.blt op 145) ((.l2i, 1)) ((.i2b, 1)))) (cond (Nat.blt op 148) (cond (Nat.blt op 147) ((.i2c, 1)) ((.i2s, 1))) (cond (Nat.blt op 153) ((.lcmp, 1)) ((.ifCond .eq (Reader.signed 16 (a * 256 + b)), 3))))))) (cond (Nat.blt op 173) (cond (Nat.blt op 161) (cond (Nat.blt op 157) (cond (Nat.blt op 155) ((.ifCond .ne (Reader.signed 16 (a * 256 + b)), 3)) (cond (Nat.blt op 156) ((.ifCond .lt (Reader.signed 16 (a * 256 + b)), 3)) ((.ifCond .ge (Reader.signed 16 (a * 256 + b)), 3)))) (cond (Nat.blt op 159) (cond (Nat.blt op 158) ((.ifCond .gt (Reader.signed 16 (a * 256 + b)), 3)) ((.ifCond .le (Reader.signed 16 (a * 256 + b)), 3))) (cond (Nat.blt op 160) ((.if_icmp .eq (Reader.signed 16 (a * 256 + b)), 3)) ((.if_icmp .ne (Reader.signed 16 (a * 256 + b)), 3))))) (cond (Nat.blt op 165) (cond (Nat.blt op 163) (cond (Nat.blt op 162) ((.if_icmp .lt (Reader.signed 16 (a * 256 + b)), 3)) ((.if_icmp .ge (Reader.signed 16 (a * 256 + b)), 3))) (cond (Nat.blt op 164) ((.if_icmp .gt (Reader.signed 16 (a * 256 + b)), 3)) ((.if_icmp .le (Reader.signed 16 (a * 256 + b)), 3)))) (cond (Nat.blt op 167) (cond (Nat.blt op 166) ((.if_acmp .eq (Reader.signed 16 (a * 256 + b)), 3)) ((.if_acmp .ne (Reader.signed 16 (a * 256 + b)), 3))) (cond (Nat.blt op 172) ((.goto (Reader.signed 16 (a * 256 + b)), 3)) ((.ireturn, 1)))))) (cond (Nat.blt op 182) (cond (Nat.blt op 178) (cond (Nat.blt op 176) ((.lreturn, 1)) (cond (Nat.blt op 177) ((.areturn, 1)) ((.return_, 1)))) (cond (Nat.blt op 180) (cond (Nat.blt op 179) ((.getstatic (a * 256 + b), 3)) ((.putstatic (a * 256 + b), 3))) (cond (Nat.blt op 181) ((.getfield (a * 256 + b), 3)) ((.putfield (a * 256 + b), 3))))) (cond (Nat.blt op 189) (cond (Nat.blt op 184) (cond (Nat.blt op 183) ((.invokevirtual (a * 256 + b), 3)) ((.invokespecial (a * 256 + b), 3))) (cond (Nat.blt op 187) ((.invokestatic (a * 256 + b), 3)) ((.new (a * 256 + b), 3)))) (cond (Nat.blt op 192) (cond (Nat.blt op 190) ((.anewarray (a * 256 + b), 3)) ((.arraylength, 1))) (cond (Nat.blt op 193) ((.checkcast (a * 256 + b), 3)) ((.instanceof (a * 256 + b), 3))))))))
def dv_ok (op : Nat) : Bool := Nat.blt op 202 && Nat.beq (Nat.land (Nat.shiftRight 21430340195563075505779285649942949201457189998635559880702 op) 1) 1
def dv_by (c : ByteArray) (q : Nat) : Nat := (c.data.toList.getD q 0).toNat
section SXDV
variable {c : ByteArray} {g : Decoder Instr} {y : Instr × Nat} {q : Nat}
theorem dv_at (h : q < c.size) : (Reader.u1 : Decoder Nat).runAt c q = .ok (dv_by c q, q + 1) := by
  rw [dw_u1r, dif_pos h]
  have e : c.data.toList.getD q 0 = c[q] := by
    rw [List.getD_eq_getElem?_getD, List.getElem?_eq_getElem (show q < c.data.toList.length from h)]; rfl
  unfold dv_by
  rw [e]
theorem dv_run {α β : Type} (r : Decoder α) (f : α → Decoder β) (q : Nat) {x : α} {q2 : Nat} (h : r.runAt c q = .ok (x, q2)) : (r >>= f).runAt c q = (f x).runAt c q2 := by
  show ((r.runAt c q) >>= fun y => (f y.1).runAt c y.2) = _
  rw [h]; rfl
theorem dv_map {α β : Type} (r : Decoder α) (f : α → β) (q : Nat) {x : α} {q2 : Nat} (h : r.runAt c q = .ok (x, q2)) : (f <$> r).runAt c q = .ok (f x, q2) := by
  show ((r.runAt c q) >>= fun y => (.ok (f y.1, y.2) : Except DecodeError (β × Nat))) = _
  rw [h]; rfl
theorem dv_u2 (h : q + 1 < c.size) : (Reader.u2 : Decoder Nat).runAt c q = .ok (dv_by c q * 256 + dv_by c (q + 1), q + 2) := by
  unfold Reader.u2
  rw [dv_run _ _ q (dv_at (by omega)), dv_run _ _ (q + 1) (dv_at h)]; rfl
theorem dv_A {I : Instr} (hg : g = (Pure.pure I : Decoder Instr)) (hy : y = (I, 1)) (h : q + y.2 ≤ c.size + 1) : g.runAt c q = .ok (y.1, q + y.2 - 1) := by
  subst hg; subst hy; rfl
theorem dv_B (C : Nat → Instr) (hg : g = Reader.u1 >>= fun a => pure (C a)) (hy : y = (C (dv_by c q), 2)) (h : q + y.2 ≤ c.size + 1) : g.runAt c q = .ok (y.1, q + y.2 - 1) := by
  subst hg; subst hy
  have h : q + 2 ≤ c.size + 1 := h
  rw [dv_run _ _ q (dv_at (by omega))]; rfl
theorem dv_S1 (C : Int → Instr) (hg : g = Reader.s1 >>= fun a => pure (C a)) (hy : y = (C (Reader.signed 8 (dv_by c q)), 2)) (h : q + y.2 ≤ c.size + 1) : g.runAt c q = .ok (y.1, q + y.2 - 1) := by
  subst hg; subst hy
  have h : q + 2 ≤ c.size + 1 := h
  have e : (Reader.s1 : Decoder Int).runAt c q = .ok (Reader.signed 8 (dv_by c q), q + 1) := dv_map _ _ q (dv_at (by omega))
  rw [dv_run _ _ q e]; rfl
theorem dv_U2 (C : Nat → Instr) (hg : g = Reader.u2 >>= fun a => pure (C a)) (hy : y = (C (dv_by c q * 256 + dv_by c (q + 1)), 3)) (h : q + y.2 ≤ c.size + 1) : g.runAt c q = .ok (y.1, q + y.2 - 1) := by
  subst hg; subst hy
  have h : q + 3 ≤ c.size + 1 := h
  rw [dv_run _ _ q (dv_u2 (by omega))]; rfl
theorem dv_S2 (C : Int → Instr) (hg : g = Reader.s2 >>= fun a => pure (C a)) (hy : y = (C (Reader.signed 16 (dv_by c q * 256 + dv_by c (q + 1))), 3)) (h : q + y.2 ≤ c.size + 1) : g.runAt c q = .ok (y.1, q + y.2 - 1) := by
  subst hg; subst hy
  have h : q + 3 ≤ c.size + 1 := h
  have e : (Reader.s2 : Decoder Int).runAt c q = .ok (Reader.signed 16 (dv_by c q * 256 + dv_by c (q + 1)), q + 2) := dv_map _ _ q (dv_u2 (by omega))
  rw [dv_run _ _ q e]; rfl
theorem dv_II (C : Nat → Int → Instr) (hg : g = Reader.u1 >>= fun a => Reader.s1 >>= fun b => pure (C a b)) (hy : y = (C (dv_by c q) (Reader.signed 8 (dv_by c (q + 1))), 3)) (h : q + y.2 ≤ c.size + 1) : g.runAt c q = .ok (y.1, q + y.2 - 1) := by
  subst hg; subst hy
  have h : q + 3 ≤ c.size + 1 := h
  have e : (Reader.s1 : Decoder Int).runAt c (q + 1) = .ok (Reader.signed 8 (dv_by c (q + 1)), q + 1 + 1) := dv_map _ _ (q + 1) (dv_at (by omega))
  rw [dv_run _ _ q (dv_at (by omega)), dv_run _ _ (q + 1) e]; rfl
set_option maxRecDepth 100000 in
set_option maxHeartbeats 4000000 in
theorem dv_ex (c : ByteArray) : ∃ g : Nat → Nat → Decoder Instr, (∀ p, Decoder.instr p = Reader.u1 >>= g p) ∧ ∀ op, op < 202 → dv_ok op = true → ∀ p q, q + (dv_I op (dv_by c q) (dv_by c (q + 1))).2 ≤ c.size + 1 → (g p op).runAt c q = .ok ((dv_I op (dv_by c q) (dv_by c (q + 1))).1, q + (dv_I op (dv_by c q) (dv_by c (q + 1))).2 - 1) := by
  refine ⟨_, fun p => by unfold Decoder.instr; rfl, ?_⟩
  refine dw_dn (fun hk p q h => ?_) ?_
  · exact absurd hk (by decide)
  refine dw_dn (fun hk p q h => ?_) ?_
  · exact absurd hk (by decide)
  refine dw_dn (fun hk p q h => ?_) ?_
  · exact absurd hk (by decide)
  refine dw_dn (fun hk p q h => ?_) ?_
  · exact absurd hk (by decide)
  refine dw_dn (fun hk p q h => ?_) ?_
  · exact absurd hk (by decide)
  refine dw_dn (fun hk p q h => ?_) ?_
  · exact absurd hk (by decide)
  refine dw_dn (fun hk p q h => ?_) ?_
  · exact absurd hk (by decide)
  refine dw_dn (fun hk p q h => ?_) ?_
  · exact absurd hk (by decide)
  refine dw_dn (fun hk p q h => ?_) ?_
  · exact dv_U2 (.instanceof) rfl rfl h
  refine dw_dn (fun hk p q h => ?_) ?_
  · exact dv_U2 (.checkcast) rfl rfl h
  refine dw_dn (fun hk p q h => ?_) ?_
  · exact absurd hk (by decide)
  refine dw_dn (fun hk p q h => ?_) ?_
  · exact dv_A rfl rfl h
  refine dw_dn (fun hk p q h => ?_) ?_
  · exact dv_U2 (.anewarray) rfl rfl h
  refine dw_dn (fun hk p q h => ?_) ?_
  · exact absurd hk (by decide)
  refine dw_dn (fun hk p q h => ?_) ?_
  · exact dv_U2 (.new) rfl rfl h
  refine dw_dn (fun hk p q h => ?_) ?_
  · exact absurd hk (by decide)
  refine dw_dn (fun hk p q h => ?_) ?_
  · exact absurd hk (by decide)
  refine dw_dn (fun hk p q h => ?_) ?_
  · exact dv_U2 (.invokestatic) rfl rfl h
  refine dw_dn (fun hk p q h => ?_) ?_
  · exact dv_U2 (.invokespecial) rfl rfl h
  refine dw_dn (fun hk p q h => ?_) ?_
  · exact dv_U2 (.invokevirtual) rfl rfl h
  refine dw_dn (fun hk p q h => ?_) ?_
  · exact dv_U2 (.putfield) rfl rfl h
  refine dw_dn (fun hk p q h => ?_) ?_
  · exact dv_U2 (.getfield) rfl rfl h
  refine dw_dn (fun hk p q h => ?_) ?_
  · exact dv_U2 (.putstatic) rfl rfl h
  refine dw_dn (fun hk p q h => ?_) ?_
  · exact dv_U2 (.getstatic) rfl rfl h
  refine dw_dn (fun hk p q h => ?_) ?_
  · exact dv_A rfl rfl h
  refine dw_dn (fun hk p q h => ?_) ?_
  · exact dv_A rfl rfl h
  refine dw_dn (fun hk p q h => ?_) ?_
  · exact absurd hk (by decide)
  refine dw_dn (fun hk p q h => ?_) ?_
  · exact absurd hk (by decide)
  refine dw_dn (fun hk p q h => ?_) ?_
  · exact dv_A rfl rfl h
  refine dw_dn (fun hk p q h => ?_) ?_
  · exact dv_A rfl rfl h
  refine dw_dn (fun hk p q h => ?_) ?_
  · exact absurd hk (by decide)
  refine dw_dn (fun hk p q h => ?_) ?_
  · exact absurd hk (by decide)
  refine dw_dn (fun hk p q h => ?_) ?_
  · exact absurd hk (by decide)
  refine dw_dn (fun hk p q h => ?_) ?_
  · exact absurd hk (by decide)
  refine dw_dn (fun hk p q h => ?_) ?_
  · exact dv_S2 (.goto) rfl rfl h
  refine dw_dn (fun hk p q h => ?_) ?_
  · exact dv_S2 (.if_acmp .ne) rfl rfl h
  refine dw_dn (fun hk p q h => ?_) ?_
  · exact dv_S2 (.if_acmp .eq) rfl rfl h
  refine dw_dn (fun hk p q h => ?_) ?_
  · exact dv_S2 (.if_icmp .le) rfl rfl h
  refine dw_dn (fun hk p q h => ?_) ?_
  · exact dv_S2 (.if_icmp .gt) rfl rfl h
  refine dw_dn (fun hk p q h => ?_) ?_
  · exact dv_S2 (.if_icmp .ge) rfl rfl h
  refine dw_dn (fun hk p q h => ?_) ?_
  · exact dv_S2 (.if_icmp .lt) rfl rfl h
  refine dw_dn (fun hk p q h => ?_) ?_
  · exact dv_S2 (.if_icmp .ne) rfl rfl h
  refine dw_dn (fun hk p q h => ?_) ?_
  · exact dv_S2 (.if_icmp .eq) rfl rfl h
  refine dw_dn (fun hk p q h => ?_) ?_
  · exact dv_S2 (.ifCond .le) rfl rfl h
  refine dw_dn (fun hk p q h => ?_) ?_
  · exact dv_S2 (.ifCond .gt) rfl rfl h
  refine dw_dn (fun hk p q h => ?_) ?_
  · exact dv_S2 (.ifCond .ge) rfl rfl h
  refine dw_dn (fun hk p q h => ?_) ?_
  · exact dv_S2 (.ifCond .lt) rfl rfl h
  refine dw_dn (fun hk p q h => ?_) ?_
  · exact dv_S2 (.ifCond .ne) rfl rfl h
  refine dw_dn (fun hk p q h => ?_) ?_
  · exact dv_S2 (.ifCond .eq) rfl rfl h
  refine dw_dn (fun hk p q h => ?_) ?_
  · exact absurd hk (by decide)
  refine dw_dn (fun hk p q h => ?_) ?_
  · exact absurd hk (by decide)
  refine dw_dn (fun hk p q h => ?_) ?_
  · exact absurd hk (by decide)
  refine dw_dn (fun hk p q h => ?_) ?_
  · exact absurd hk (by decide)
  refine dw_dn (fun hk p q h => ?_) ?_
  · exact dv_A rfl rfl h
  refine dw_dn (fun hk p q h => ?_) ?_
  · exact dv_A rfl rfl h
  refine dw_dn (fun hk p q h => ?_) ?_
  · exact dv_A rfl rfl h
  refine dw_dn (fun hk p q h => ?_) ?_
  · exact dv_A rfl rfl h
  refine dw_dn (fun hk p q h => ?_) ?_
  · exact absurd hk (by decide)
  refine dw_dn (fun hk p q h => ?_) ?_
  · exact absurd hk (by decide)
  refine dw_dn (fun hk p q h => ?_) ?_
  · exact absurd hk (by decide)
  refine dw_dn (fun hk p q h => ?_) ?_
  · exact absurd hk (by decide)
  refine dw_dn (fun hk p q h => ?_) ?_
  · exact absurd hk (by decide)
  refine dw_dn (fun hk p q h => ?_) ?_
  · exact absurd hk (by decide)
  refine dw_dn (fun hk p q h => ?_) ?_
  · exact absurd hk (by decide)
  refine dw_dn (fun hk p q h => ?_) ?_
  · exact absurd hk (by decide)
  refine dw_dn (fun hk p q h => ?_) ?_
  · exact dv_A rfl rfl h
  refine dw_dn (fun hk p q h => ?_) ?_
  · exact absurd hk (by decide)
  refine dw_dn (fun hk p q h => ?_) ?_
  · exact absurd hk (by decide)
  refine dw_dn (fun hk p q h => ?_) ?_
  · exact dv_A rfl rfl h
  refine dw_dn (fun hk p q h => ?_) ?_
  · exact dv_II (.iinc) rfl rfl h
  refine dw_dn (fun hk p q h => ?_) ?_
  · exact dv_A rfl rfl h
  refine dw_dn (fun hk p q h => ?_) ?_
  · exact dv_A rfl rfl h
  refine dw_dn (fun hk p q h => ?_) ?_
  · exact dv_A rfl rfl h
  refine dw_dn (fun hk p q h => ?_) ?_
  · exact dv_A rfl rfl h
  refine dw_dn (fun hk p q h => ?_) ?_
  · exact dv_A rfl rfl h
  refine dw_dn (fun hk p q h => ?_) ?_
  · exact dv_A rfl rfl h
  refine dw_dn (fun hk p q h => ?_) ?_
  · exact dv_A rfl rfl h
  refine dw_dn (fun hk p q h => ?_) ?_
  · exact dv_A rfl rfl h
  refine dw_dn (fun hk p q h => ?_) ?_
  · exact dv_A rfl rfl h
  refine dw_dn (fun hk p q h => ?_) ?_
  · exact dv_A rfl rfl h
  refine dw_dn (fun hk p q h => ?_) ?_
  · exact dv_A rfl rfl h
  refine dw_dn (fun hk p q h => ?_) ?_
  · exact dv_A rfl rfl h
  refine dw_dn (fun hk p q h => ?_) ?_
  · exact absurd hk (by decide)
  refine dw_dn (fun hk p q h => ?_) ?_
  · exact absurd hk (by decide)
  refine dw_dn (fun hk p q h => ?_) ?_
  · exact dv_A rfl rfl h
  refine dw_dn (fun hk p q h => ?_) ?_
  · exact dv_A rfl rfl h
  refine dw_dn (fun hk p q h => ?_) ?_
  · exact absurd hk (by decide)
  refine dw_dn (fun hk p q h => ?_) ?_
  · exact absurd hk (by decide)
  refine dw_dn (fun hk p q h => ?_) ?_
  · exact dv_A rfl rfl h
  refine dw_dn (fun hk p q h => ?_) ?_
  · exact dv_A rfl rfl h
  refine dw_dn (fun hk p q h => ?_) ?_
  · exact absurd hk (by decide)
  refine dw_dn (fun hk p q h => ?_) ?_
  · exact absurd hk (by decide)
  refine dw_dn (fun hk p q h => ?_) ?_
  · exact dv_A rfl rfl h
  refine dw_dn (fun hk p q h => ?_) ?_
  · exact dv_A rfl rfl h
  refine dw_dn (fun hk p q h => ?_) ?_
  · exact absurd hk (by decide)
  refine dw_dn (fun hk p q h => ?_) ?_
  · exact absurd hk (by decide)
  refine dw_dn (fun hk p q h => ?_) ?_
  · exact dv_A rfl rfl h
  refine dw_dn (fun hk p q h => ?_) ?_
  · exact dv_A rfl rfl h
  refine dw_dn (fun hk p q h => ?_) ?_
  · exact absurd hk (by decide)
  refine dw_dn (fun hk p q h => ?_) ?_
  · exact absurd hk (by decide)
  refine dw_dn (fun hk p q h => ?_) ?_
  · exact dv_A rfl rfl h
  refine dw_dn (fun hk p q h => ?_) ?_
  · exact dv_A rfl rfl h
  refine dw_dn (fun hk p q h => ?_) ?_
  · exact absurd hk (by decide)
  refine dw_dn (fun hk p q h => ?_) ?_
  · exact absurd hk (by decide)
  refine dw_dn (fun hk p q h => ?_) ?_
  · exact dv_A rfl rfl h
  refine dw_dn (fun hk p q h => ?_) ?_
  · exact dv_A rfl rfl h
  refine dw_dn (fun hk p q h => ?_) ?_
  · exact absurd hk (by decide)
  refine dw_dn (fun hk p q h => ?_) ?_
  · exact absurd hk (by decide)
  refine dw_dn (fun hk p q h => ?_) ?_
  · exact absurd hk (by decide)
  refine dw_dn (fun hk p q h => ?_) ?_
  · exact dv_A rfl rfl h
  refine dw_dn (fun hk p q h => ?_) ?_
  · exact absurd hk (by decide)
  refine dw_dn (fun hk p q h => ?_) ?_
  · exact absurd hk (by decide)
  refine dw_dn (fun hk p q h => ?_) ?_
  · exact dv_A rfl rfl h
  refine dw_dn (fun hk p q h => ?_) ?_
  · exact dv_A rfl rfl h
  refine dw_dn (fun hk p q h => ?_) ?_
  · exact dv_A rfl rfl h
  refine dw_dn (fun hk p q h => ?_) ?_
  · exact absurd hk (by decide)
  refine dw_dn (fun hk p q h => ?_) ?_
  · exact absurd hk (by decide)
  refine dw_dn (fun hk p q h => ?_) ?_
  · exact dv_A rfl rfl h
  refine dw_dn (fun hk p q h => ?_) ?_
  · exact dv_A rfl rfl h
  refine dw_dn (fun hk p q h => ?_) ?_
  · exact absurd hk (by decide)
  refine dw_dn (fun hk p q h => ?_) ?_
  · exact absurd hk (by decide)
  refine dw_dn (fun hk p q h => ?_) ?_
  · exact dv_A rfl rfl h
  refine dw_dn (fun hk p q h => ?_) ?_
  · exact dv_A rfl rfl h
  refine dw_dn (fun hk p q h => ?_) ?_
  · exact dv_A rfl rfl h
  refine dw_dn (fun hk p q h => ?_) ?_
  · exact dv_A rfl rfl h
  refine dw_dn (fun hk p q h => ?_) ?_
  · exact dv_A rfl rfl h
  refine dw_dn (fun hk p q h => ?_) ?_
  · exact dv_A rfl rfl h
  refine dw_dn (fun hk p q h => ?_) ?_
  · exact absurd hk (by decide)
  refine dw_dn (fun hk p q h => ?_) ?_
  · exact absurd hk (by decide)
  refine dw_dn (fun hk p q h => ?_) ?_
  · exact absurd hk (by decide)
  refine dw_dn (fun hk p q h => ?_) ?_
  · exact absurd hk (by decide)
  refine dw_dn (fun hk p q h => ?_) ?_
  · exact absurd hk (by decide)
  refine dw_dn (fun hk p q h => ?_) ?_
  · exact absurd hk (by decide)
  refine dw_dn (fun hk p q h => ?_) ?_
  · exact absurd hk (by decide)
  refine dw_dn (fun hk p q h => ?_) ?_
  · exact absurd hk (by decide)
  refine dw_dn (fun hk p q h => ?_) ?_
  · exact dv_A rfl rfl h
  refine dw_dn (fun hk p q h => ?_) ?_
  · exact dv_A rfl rfl h
  refine dw_dn (fun hk p q h => ?_) ?_
  · exact dv_A rfl rfl h
  refine dw_dn (fun hk p q h => ?_) ?_
  · exact dv_A rfl rfl h
  refine dw_dn (fun hk p q h => ?_) ?_
  · exact dv_A rfl rfl h
  refine dw_dn (fun hk p q h => ?_) ?_
  · exact dv_A rfl rfl h
  refine dw_dn (fun hk p q h => ?_) ?_
  · exact dv_A rfl rfl h
  refine dw_dn (fun hk p q h => ?_) ?_
  · exact dv_A rfl rfl h
  refine dw_dn (fun hk p q h => ?_) ?_
  · exact dv_B (.astore) rfl rfl h
  refine dw_dn (fun hk p q h => ?_) ?_
  · exact absurd hk (by decide)
  refine dw_dn (fun hk p q h => ?_) ?_
  · exact absurd hk (by decide)
  refine dw_dn (fun hk p q h => ?_) ?_
  · exact dv_B (.lstore) rfl rfl h
  refine dw_dn (fun hk p q h => ?_) ?_
  · exact dv_B (.istore) rfl rfl h
  refine dw_dn (fun hk p q h => ?_) ?_
  · exact absurd hk (by decide)
  refine dw_dn (fun hk p q h => ?_) ?_
  · exact absurd hk (by decide)
  refine dw_dn (fun hk p q h => ?_) ?_
  · exact dv_A rfl rfl h
  refine dw_dn (fun hk p q h => ?_) ?_
  · exact dv_A rfl rfl h
  refine dw_dn (fun hk p q h => ?_) ?_
  · exact absurd hk (by decide)
  refine dw_dn (fun hk p q h => ?_) ?_
  · exact absurd hk (by decide)
  refine dw_dn (fun hk p q h => ?_) ?_
  · exact dv_A rfl rfl h
  refine dw_dn (fun hk p q h => ?_) ?_
  · exact dv_A rfl rfl h
  refine dw_dn (fun hk p q h => ?_) ?_
  · exact dv_A rfl rfl h
  refine dw_dn (fun hk p q h => ?_) ?_
  · exact dv_A rfl rfl h
  refine dw_dn (fun hk p q h => ?_) ?_
  · exact dv_A rfl rfl h
  refine dw_dn (fun hk p q h => ?_) ?_
  · exact dv_A rfl rfl h
  refine dw_dn (fun hk p q h => ?_) ?_
  · exact absurd hk (by decide)
  refine dw_dn (fun hk p q h => ?_) ?_
  · exact absurd hk (by decide)
  refine dw_dn (fun hk p q h => ?_) ?_
  · exact absurd hk (by decide)
  refine dw_dn (fun hk p q h => ?_) ?_
  · exact absurd hk (by decide)
  refine dw_dn (fun hk p q h => ?_) ?_
  · exact absurd hk (by decide)
  refine dw_dn (fun hk p q h => ?_) ?_
  · exact absurd hk (by decide)
  refine dw_dn (fun hk p q h => ?_) ?_
  · exact absurd hk (by decide)
  refine dw_dn (fun hk p q h => ?_) ?_
  · exact absurd hk (by decide)
  refine dw_dn (fun hk p q h => ?_) ?_
  · exact dv_A rfl rfl h
  refine dw_dn (fun hk p q h => ?_) ?_
  · exact dv_A rfl rfl h
  refine dw_dn (fun hk p q h => ?_) ?_
  · exact dv_A rfl rfl h
  refine dw_dn (fun hk p q h => ?_) ?_
  · exact dv_A rfl rfl h
  refine dw_dn (fun hk p q h => ?_) ?_
  · exact dv_A rfl rfl h
  refine dw_dn (fun hk p q h => ?_) ?_
  · exact dv_A rfl rfl h
  refine dw_dn (fun hk p q h => ?_) ?_
  · exact dv_A rfl rfl h
  refine dw_dn (fun hk p q h => ?_) ?_
  · exact dv_A rfl rfl h
  refine dw_dn (fun hk p q h => ?_) ?_
  · exact dv_B (.aload) rfl rfl h
  refine dw_dn (fun hk p q h => ?_) ?_
  · exact absurd hk (by decide)
  refine dw_dn (fun hk p q h => ?_) ?_
  · exact absurd hk (by decide)
  refine dw_dn (fun hk p q h => ?_) ?_
  · exact dv_B (.lload) rfl rfl h
  refine dw_dn (fun hk p q h => ?_) ?_
  · exact dv_B (.iload) rfl rfl h
  refine dw_dn (fun hk p q h => ?_) ?_
  · exact dv_U2 (.ldc2_w) rfl rfl h
  refine dw_dn (fun hk p q h => ?_) ?_
  · exact dv_U2 (.ldc_w) rfl rfl h
  refine dw_dn (fun hk p q h => ?_) ?_
  · exact dv_B (.ldc) rfl rfl h
  refine dw_dn (fun hk p q h => ?_) ?_
  · exact dv_S2 (.sipush) rfl rfl h
  refine dw_dn (fun hk p q h => ?_) ?_
  · exact dv_S1 (.bipush) rfl rfl h
  refine dw_dn (fun hk p q h => ?_) ?_
  · exact absurd hk (by decide)
  refine dw_dn (fun hk p q h => ?_) ?_
  · exact absurd hk (by decide)
  refine dw_dn (fun hk p q h => ?_) ?_
  · exact absurd hk (by decide)
  refine dw_dn (fun hk p q h => ?_) ?_
  · exact absurd hk (by decide)
  refine dw_dn (fun hk p q h => ?_) ?_
  · exact absurd hk (by decide)
  refine dw_dn (fun hk p q h => ?_) ?_
  · exact dv_A rfl rfl h
  refine dw_dn (fun hk p q h => ?_) ?_
  · exact dv_A rfl rfl h
  refine dw_dn (fun hk p q h => ?_) ?_
  · exact dv_A rfl rfl h
  refine dw_dn (fun hk p q h => ?_) ?_
  · exact dv_A rfl rfl h
  refine dw_dn (fun hk p q h => ?_) ?_
  · exact dv_A rfl rfl h
  refine dw_dn (fun hk p q h => ?_) ?_
  · exact dv_A rfl rfl h
  refine dw_dn (fun hk p q h => ?_) ?_
  · exact dv_A rfl rfl h
  refine dw_dn (fun hk p q h => ?_) ?_
  · exact dv_A rfl rfl h
  refine dw_dn (fun hk p q h => ?_) ?_
  · exact dv_A rfl rfl h
  refine dw_dn (fun hk p q h => ?_) ?_
  · exact dv_A rfl rfl h
  refine dw_dn (fun hk p q h => ?_) ?_
  · exact absurd hk (by decide)
  intro m hm
  omega
theorem dv_dec {p : Nat} {x : Instr × Nat} (hp : p < c.size) (hop : dv_ok (dv_by c p) = true) (hx : dv_I (dv_by c p) (dv_by c (p + 1)) (dv_by c (p + 1 + 1)) = x) (hl : p + x.2 ≤ c.size) (h1 : 1 ≤ x.2) : decode c p = .ok x := by
  obtain ⟨g, hg, hs⟩ := dv_ex c
  have ho : dv_by c p < 202 := by
    unfold dv_ok at hop
    exact Nat.le_of_ble_eq_true ((Bool.and_eq_true _ _).mp hop).1
  show ((Decoder.instr p).runAt c p >>= fun y => (.ok (y.1, y.2 - p) : Except DecodeError (Instr × Nat))) = .ok x
  rw [hg, dv_run _ _ p (dv_at hp), hs _ ho hop p (p + 1) (by rw [hx]; omega), hx]
  show (Except.ok (x.1, p + 1 + x.2 - 1 - p) : Except DecodeError (Instr × Nat)) = .ok x
  rw [show p + 1 + x.2 - 1 - p = x.2 by omega]
end SXDV
noncomputable def dv_c (c : ByteArray) (pc : Nat) (l : List UInt8) (x : Instr × Nat) : Bool := match l with
  | h :: t => cond (dv_ok h.toNat) ((match (h :: t).drop (x.2 - 1) with
    | [] => false
    | _ :: _ => true) && (Nat.ble 1 x.2 && decide (dv_I h.toNat (t.getD 0 0).toNat (t.getD 1 0).toNat = x))) (decide (decode c pc = .ok x))
  | [] => false
theorem dv_c_ok {c : ByteArray} {pc : Nat} {l : List UInt8} {x : Instr × Nat} (hl : c.data.toList.drop pc = l) (h : dv_c c pc l x = true) : decode c pc = .ok x := by
  cases l with
  | nil => cases h
  | cons y t =>
    have h : (cond (dv_ok y.toNat) ((match (y :: t).drop (x.2 - 1) with
      | [] => false
      | _ :: _ => true) && (Nat.ble 1 x.2 && decide (dv_I y.toNat (t.getD 0 0).toNat (t.getD 1 0).toNat = x))) (decide (decode c pc = .ok x))) = true := h
    cases hv : dv_ok y.toNat with
    | false => rw [hv] at h; exact of_decide_eq_true h
    | true =>
      rw [hv] at h
      have h1 := (Bool.and_eq_true _ _).mp (show ((match (y :: t).drop (x.2 - 1) with
        | [] => false
        | _ :: _ => true) && (Nat.ble 1 x.2 && decide (dv_I y.toNat (t.getD 0 0).toNat (t.getD 1 0).toNat = x))) = true from h)
      have h3 := (Bool.and_eq_true _ _).mp h1.2
      have ho := Nat.le_of_ble_eq_true h3.1
      have hz : x.2 - 1 < (y :: t).length := by
        have h2 := h1.1
        revert h2
        cases hd : (y :: t).drop (x.2 - 1) with
        | nil => intro h2; cases h2
        | cons a b =>
          intro _
          have e := congrArg List.length hd
          simp only [List.length_drop, List.length_cons] at e ⊢
          omega
      have hs : (y :: t).length = c.size - pc := by
        rw [← hl, List.length_drop]; rfl
      have g0 : ∀ j, c.data.toList.getD (pc + j) 0 = (y :: t).getD j 0 := by
        intro j
        rw [← hl, List.getD_eq_getElem?_getD, List.getD_eq_getElem?_getD, List.getElem?_drop]
      have e0 : dv_by c pc = y.toNat := by unfold dv_by; rw [show pc = pc + 0 from rfl, g0 0]; rfl
      have e1 : dv_by c (pc + 1) = (t.getD 0 0).toNat := by unfold dv_by; rw [g0 1]; rfl
      have e2 : dv_by c (pc + 1 + 1) = (t.getD 1 0).toNat := by unfold dv_by; rw [Nat.add_assoc, g0 2]; rfl
      exact dv_dec (by omega) (by rw [e0]; exact hv) (by rw [e0, e1, e2]; exact of_decide_eq_true h3.2) (by omega) ho
noncomputable def dv_m (c : ByteArray) (pc : Nat) (l : List UInt8) (o : Option (Instr × Nat)) : Bool := match o with
  | none => true
  | some x => dv_c c pc l x
noncomputable def dv_w (c : ByteArray) (f : Nat → Option (Instr × Nat)) (N : Nat) (l : List UInt8) : Nat → Bool := List.rec (fun pc => Nat.ble N pc) (fun h t ih pc => dv_m c pc (h :: t) (f pc) && ih (Nat.succ pc)) l
theorem dv_w_ok {c : ByteArray} {f : Nat → Option (Instr × Nat)} {N : Nat} : ∀ (l : List UInt8) (pc : Nat), c.data.toList.drop pc = l → dv_w c f N l pc = true → ∀ i, pc ≤ i → i < N → (match f i with
    | none => true
    | some x => decide (decode c i = .ok x)) = true := by
  intro l
  induction l with
  | nil =>
    intro pc _ h i h1 h2
    have h : Nat.ble N pc = true := h
    have := Nat.le_of_ble_eq_true h
    omega
  | cons y t ih =>
    intro pc hl h i h1 h2
    have h : (dv_m c pc (y :: t) (f pc) && dv_w c f N t (Nat.succ pc)) = true := h
    have h3 := (Bool.and_eq_true _ _).mp h
    by_cases e : i = pc
    · subst e
      have h4 := h3.1
      revert h4
      cases f i with
      | none => exact fun _ => rfl
      | some x => exact fun h4 => decide_eq_true (dv_c_ok hl h4)
    · refine ih (Nat.succ pc) ?_ h3.2 i (by omega) h2
      rw [show Nat.succ pc = pc + 1 from rfl, ← List.drop_drop, hl]; rfl
noncomputable def sx_dV (mi : Nat) : Bool := dv_w (sx_M mi).2.1 (sx_M mi).2.2.2.2.2.2.2.2 (sx_M mi).2.2.2.2.2.2.2.1 (sx_M mi).2.1.data.toList 0
theorem sx_dV_1 {mi pc : Nat} (h : sx_dV mi = true) (hp : pc < (sx_M mi).2.2.2.2.2.2.2.1) : (match (sx_M mi).2.2.2.2.2.2.2.2 pc with
  | none => true
  | some x => decide (decode (sx_M mi).2.1 pc = .ok x)) = true := dv_w_ok _ 0 rfl h pc (Nat.zero_le _) hp
theorem sx_dVs {k : Nat} (h : (List.range 6).all (fun i => sx_dV (k + i)) = true) : (List.range 6).all (fun i => sx_dchk (k + i)) = true := by
  rw [List.all_eq_true] at h ⊢
  intro i hi
  unfold sx_dchk
  rw [List.all_eq_true]
  exact fun pc hpc => sx_dV_1 (h i hi) (List.mem_range.mp hpc)
theorem sx_d0 : (List.range 6).all (fun i => sx_dchk (0 + i)) = true := sx_dVs (by decide +kernel)
theorem sx_d1 : (List.range 6).all (fun i => sx_dchk (6 + i)) = true := sx_dVs (by decide +kernel)
theorem sx_d2 : (List.range 6).all (fun i => sx_dchk (12 + i)) = true := sx_dVs (by decide +kernel)
theorem sx_d3 : (List.range 6).all (fun i => sx_dchk (18 + i)) = true := sx_dVs (by decide +kernel)
theorem sx_d4 : (List.range 6).all (fun i => sx_dchk (24 + i)) = true := sx_dVs (by decide +kernel)
theorem sx_d5 : (List.range 6).all (fun i => sx_dchk (30 + i)) = true := sx_dVs (by decide +kernel)
theorem sx_d6 : (List.range 6).all (fun i => sx_dchk (36 + i)) = true := sx_dVs (by decide +kernel)
theorem sx_d7 : (List.range 6).all (fun i => sx_dchk (42 + i)) = true := sx_dVs (by decide +kernel)
theorem sx_d8 : (List.range 6).all (fun i => sx_dchk (48 + i)) = true := sx_dVs (by decide +kernel)
theorem sx_d9 : (List.range 6).all (fun i => sx_dchk (54 + i)) = true := sx_dVs (by decide +kernel)
theorem sx_d10 : (List.range 6).all (fun i => sx_dchk (60 + i)) = true := sx_dVs (by decide +kernel)
theorem sx_d11 : (List.range 6).all (fun i => sx_dchk (66 + i)) = true := sx_dVs (by decide +kernel)
theorem sx_d12 : (List.range 6).all (fun i => sx_dchk (72 + i)) = true := sx_dVs (by decide +kernel)
theorem sx_d13 : (List.range 6).all (fun i => sx_dchk (78 + i)) = true := sx_dVs (by decide +kernel)
theorem sx_d14 : (List.range 6).all (fun i => sx_dchk (84 + i)) = true := sx_dVs (by decide +kernel)
theorem sx_d15 : (List.range 6).all (fun i => sx_dchk (90 + i)) = true := sx_dVs (by decide +kernel)
theorem sx_d16 : (List.range 6).all (fun i => sx_dchk (96 + i)) = true := sx_dVs (by decide +kernel)
theorem sx_d17 : (List.range 6).all (fun i => sx_dchk (102 + i)) = true := sx_dVs (by decide +kernel)
theorem sx_d18 : (List.range 6).all (fun i => sx_dchk (108 + i)) = true := sx_dVs (by decide +kernel)
theorem sx_d19 : (List.range 6).all (fun i => sx_dchk (114 + i)) = true := sx_dVs (by decide +kernel)
theorem sx_d20 : (List.range 6).all (fun i => sx_dchk (120 + i)) = true := sx_dVs (by decide +kernel)
theorem sx_d21 : (List.range 6).all (fun i => sx_dchk (126 + i)) = true := sx_dVs (by decide +kernel)
theorem sx_d22 : (List.range 6).all (fun i => sx_dchk (132 + i)) = true := sx_dVs (by decide +kernel)
theorem sx_d23 : (List.range 6).all (fun i => sx_dchk (138 + i)) = true := sx_dVs (by decide +kernel)
theorem sx_d24 : (List.range 6).all (fun i => sx_dchk (144 + i)) = true := sx_dVs (by decide +kernel)
theorem sx_d25 : (List.range 6).all (fun i => sx_dchk (150 + i)) = true := sx_dVs (by decide +kernel)
theorem sx_d26 : (List.range 6).all (fun i => sx_dchk (156 + i)) = true := sx_dVs (by decide +kernel)
theorem sx_d27 : (List.range 6).all (fun i => sx_dchk (162 + i)) = true := sx_dVs (by decide +kernel)
theorem sx_d28 : (List.range 6).all (fun i => sx_dchk (168 + i)) = true := sx_dVs (by decide +kernel)
theorem sx_d29 : (List.range 6).all (fun i => sx_dchk (174 + i)) = true := sx_dVs (by decide +kernel)
theorem sx_d30 : (List.range 6).all (fun i => sx_dchk (180 + i)) = true := sx_dVs (by decide +kernel)
theorem sx_d31 : (List.range 6).all (fun i => sx_dchk (186 + i)) = true := sx_dVs (by decide +kernel)
theorem sx_d32 : (List.range 6).all (fun i => sx_dchk (192 + i)) = true := sx_dVs (by decide +kernel)
theorem sx_d33 : (List.range 6).all (fun i => sx_dchk (198 + i)) = true := sx_dVs (by decide +kernel)
theorem sx_d34 : (List.range 6).all (fun i => sx_dchk (204 + i)) = true := sx_dVs (by decide +kernel)
theorem sx_d35 : (List.range 6).all (fun i => sx_dchk (210 + i)) = true := sx_dVs (by decide +kernel)
theorem sx_d36 : (List.range 6).all (fun i => sx_dchk (216 + i)) = true := sx_dVs (by decide +kernel)
theorem sx_d37 : (List.range 6).all (fun i => sx_dchk (222 + i)) = true := sx_dVs (by decide +kernel)
theorem sx_d38 : (List.range 6).all (fun i => sx_dchk (228 + i)) = true := sx_dVs (by decide +kernel)
theorem sx_d39 : (List.range 6).all (fun i => sx_dchk (234 + i)) = true := sx_dVs (by decide +kernel)
theorem sx_d40 : (List.range 6).all (fun i => sx_dchk (240 + i)) = true := sx_dVs (by decide +kernel)
