-- every instruction of the pure tables is what the bytes decode to
noncomputable def sx_dchk (mi : Nat) : Bool := (List.range (sx_M mi).2.2.2.2.2.2.2.1).all (fun pc => match (sx_M mi).2.2.2.2.2.2.2.2 pc with
  | none => true
  | some x => decide (decode (sx_M mi).2.1 pc = .ok x))
-- decode over a window of the bytes tells decode over the whole
def dw_W (code b : ByteArray) (s : Nat) : Prop := s % 4 = 0 ∧ s + b.size ≤ code.size ∧ ∀ i (h : i < b.size) (h2 : s + i < code.size), code[s + i] = b[i]
def dw_S {α : Type} (code b : ByteArray) (s : Nat) (r r2 : Decoder α) : Prop := ∀ p v q, r.runAt b p = .ok (v, q) → r2.runAt code (s + p) = .ok (v, s + q)
section SXDW
variable {code b : ByteArray} {s : Nat} {α β : Type}
theorem dw_pure (x : α) : dw_S code b s (pure x) (pure x) := by
  intro p v q h
  have h : (Except.ok (x, p) : Except DecodeError (α × Nat)) = .ok (v, q) := h
  cases h; rfl
theorem dw_bind {r r2 : Decoder α} {f f2 : α → Decoder β} (h : dw_S code b s r r2) (hf : ∀ x, dw_S code b s (f x) (f2 x)) : dw_S code b s (r >>= f) (r2 >>= f2) := by
  intro p v q e
  have e : ((r.runAt b p) >>= fun y => (f y.1).runAt b y.2) = .ok (v, q) := e
  show ((r2.runAt code (s + p)) >>= fun y => (f2 y.1).runAt code y.2) = .ok (v, s + q)
  cases hr : r.runAt b p with
  | error x => rw [hr] at e; cases e
  | ok y =>
    obtain ⟨x, p'⟩ := y
    rw [hr] at e
    rw [h p x p' hr]
    exact hf x p' v q e
theorem dw_map {r r2 : Decoder α} (g : α → β) (h : dw_S code b s r r2) : dw_S code b s (g <$> r) (g <$> r2) := by
  intro p v q e
  have e : ((r.runAt b p) >>= fun y => (.ok (g y.1, y.2) : Except DecodeError (β × Nat))) = .ok (v, q) := e
  show ((r2.runAt code (s + p)) >>= fun y => (.ok (g y.1, y.2) : Except DecodeError (β × Nat))) = .ok (v, s + q)
  cases hr : r.runAt b p with
  | error x => rw [hr] at e; cases e
  | ok y =>
    obtain ⟨x, p'⟩ := y
    rw [hr] at e
    rw [h p x p' hr]
    have e : (Except.ok (g x, p') : Except DecodeError (β × Nat)) = .ok (v, q) := e
    cases e; rfl
theorem dw_throw (x : DecodeError) (r2 : Decoder α) : dw_S code b s (throw x) r2 := by
  intro p v q h
  have h : (Except.error x : Except DecodeError (α × Nat)) = .ok (v, q) := h
  cases h
theorem dw_u1r (c : ByteArray) (p : Nat) : (Reader.u1 : Decoder Nat).runAt c p = if h : p < c.size then .ok (c[p].toNat, p + 1) else .error (.truncated p) := by
  show (if h : p < c.size then (do set (p + 1); pure c[p].toNat : Decoder Nat) else throw (HasTruncated.truncated p)) c p = _
  by_cases h : p < c.size
  · rw [dif_pos h, dif_pos h]; rfl
  · rw [dif_neg h, dif_neg h]; rfl
theorem dw_u1 (hW : dw_W code b s) : dw_S code b s (Reader.u1 : Decoder Nat) Reader.u1 := by
  intro p v q e
  rw [dw_u1r] at e
  by_cases h : p < b.size
  · rw [dif_pos h] at e
    cases e
    have h2 : s + p < code.size := by have := hW.2.1; omega
    rw [dw_u1r, dif_pos h2, hW.2.2 p h h2]
    rfl
  · rw [dif_neg h] at e; cases e
theorem dw_u2 (hW : dw_W code b s) : dw_S code b s (Reader.u2 : Decoder Nat) Reader.u2 := dw_bind (dw_u1 hW) (fun _ => dw_bind (dw_u1 hW) (fun _ => dw_pure _))
theorem dw_u4 (hW : dw_W code b s) : dw_S code b s (Reader.u4 : Decoder Nat) Reader.u4 := dw_bind (dw_u2 hW) (fun _ => dw_bind (dw_u2 hW) (fun _ => dw_pure _))
theorem dw_s1 (hW : dw_W code b s) : dw_S code b s (Reader.s1 : Decoder Int) Reader.s1 := dw_map _ (dw_u1 hW)
theorem dw_s2 (hW : dw_W code b s) : dw_S code b s (Reader.s2 : Decoder Int) Reader.s2 := dw_map _ (dw_u2 hW)
theorem dw_s4 (hW : dw_W code b s) : dw_S code b s (Reader.s4 : Decoder Int) Reader.s4 := dw_map _ (dw_u4 hW)
theorem dw_go {r r2 : Decoder α} (h : dw_S code b s r r2) : ∀ (n : Nat) (acc : Array α), dw_S code b s (Reader.times.go r n acc) (Reader.times.go r2 n acc)
  | 0, acc => dw_pure acc
  | n + 1, acc => dw_bind h (fun x => dw_go h n (acc.push x))
theorem dw_times {r r2 : Decoder α} (n : Nat) (h : dw_S code b s r r2) : dw_S code b s (Reader.times n r) (Reader.times n r2) := dw_go h n #[]
theorem dw_byr (c : ByteArray) (n p : Nat) : (Reader.bytes n : Decoder ByteArray).runAt c p = if p + n ≤ c.size then .ok (c.extract p (p + n), p + n) else .error (.truncated c.size) := by
  show (if p + n ≤ c.size then (do set (p + n); pure (c.extract p (p + n)) : Decoder ByteArray) else throw (HasTruncated.truncated c.size)) c p = _
  by_cases h : p + n ≤ c.size
  · rw [if_pos h, if_pos h]; rfl
  · rw [if_neg h, if_neg h]; rfl
theorem dw_pad (hW : dw_W code b s) : dw_S code b s Decoder.padding Decoder.padding := by
  intro p v q e
  have e : (((Reader.bytes ((4 - p % 4) % 4) : Decoder ByteArray).runAt b p) >>= fun y => (.ok ((), y.2) : Except DecodeError (Unit × Nat))) = .ok (v, q) := e
  show (((Reader.bytes ((4 - (s + p) % 4) % 4) : Decoder ByteArray).runAt code (s + p)) >>= fun y => (.ok ((), y.2) : Except DecodeError (Unit × Nat))) = .ok (v, s + q)
  have h1 : (s + p) % 4 = p % 4 := by have := hW.1; omega
  rw [h1]
  generalize hn : (4 - p % 4) % 4 = n at e
  rw [dw_byr] at e
  rw [dw_byr]
  by_cases h : p + n ≤ b.size
  · rw [if_pos h] at e
    have e : (Except.ok ((), p + n) : Except DecodeError (Unit × Nat)) = .ok (v, q) := e
    cases e
    have := hW.2.1
    rw [if_pos (by omega)]
    show (Except.ok ((), s + p + n) : Except DecodeError (Unit × Nat)) = _
    rw [Nat.add_assoc]
  · rw [if_neg h] at e; cases e
theorem dw_ts (hW : dw_W code b s) (p p2 : Nat) : dw_S code b s (Decoder.tableswitch p) (Decoder.tableswitch p2) := by
  unfold Decoder.tableswitch
  refine dw_bind (dw_pad hW) (fun _ => dw_bind (dw_s4 hW) (fun d => dw_bind (dw_s4 hW) (fun lo => dw_bind (dw_s4 hW) (fun hi => ?_))))
  dsimp only
  split
  · exact dw_bind (dw_times _ (dw_s4 hW)) (fun _ => dw_pure _)
  · exact dw_bind (dw_throw _ _) (fun _ => dw_bind (dw_times _ (dw_s4 hW)) (fun _ => dw_pure _))
theorem dw_mna (hW : dw_W code b s) (p p2 : Nat) : dw_S code b s (Decoder.multianewarray p) (Decoder.multianewarray p2) := by
  unfold Decoder.multianewarray
  refine dw_bind (dw_u2 hW) (fun _ => dw_bind (dw_u1 hW) (fun d => ?_))
  dsimp only
  split
  · exact dw_pure _
  · exact dw_bind (dw_throw _ _) (fun _ => dw_pure _)
theorem dw_na (hW : dw_W code b s) (p p2 : Nat) : dw_S code b s (Decoder.newarray p) (Decoder.newarray p2) := by
  unfold Decoder.newarray
  refine dw_bind (dw_u1 hW) (fun d => ?_)
  split <;> first | exact dw_pure _ | exact dw_throw _ _
def dw_ok (op : Nat) : Bool := Nat.blt op 202 && Nat.beq (Nat.land (Nat.shiftRight 222689987918704682211649107819628958725581983360968533411838 op) 1) 1
theorem dw_dn {P : Nat → Prop} {n : Nat} (h : P n) (r : ∀ m, m < n → P m) : ∀ m, m < n + 1 → P m := fun m hm => if e : m = n then e ▸ h else r m (by omega)
set_option maxRecDepth 100000 in
set_option maxHeartbeats 4000000 in
theorem dw_ex (hW : dw_W code b s) : ∃ g : Nat → Nat → Decoder Instr, (∀ p, Decoder.instr p = Reader.u1 >>= g p) ∧ ∀ op, op < 202 → dw_ok op = true → ∀ p p2, dw_S code b s (g p op) (g p2 op) := by
  refine ⟨_, fun p => by unfold Decoder.instr; rfl, ?_⟩
  refine dw_dn (fun hk p p2 => ?_) ?_
  · exact absurd hk (by decide)
  refine dw_dn (fun hk p p2 => ?_) ?_
  · exact absurd hk (by decide)
  refine dw_dn (fun hk p p2 => ?_) ?_
  · exact absurd hk (by decide)
  refine dw_dn (fun hk p p2 => ?_) ?_
  · exact absurd hk (by decide)
  refine dw_dn (fun hk p p2 => ?_) ?_
  · exact dw_mna hW _ _
  refine dw_dn (fun hk p p2 => ?_) ?_
  · exact absurd hk (by decide)
  refine dw_dn (fun hk p p2 => ?_) ?_
  · exact absurd hk (by decide)
  refine dw_dn (fun hk p p2 => ?_) ?_
  · exact absurd hk (by decide)
  refine dw_dn (fun hk p p2 => ?_) ?_
  · exact dw_bind (dw_u2 hW) (fun _ => dw_pure _)
  refine dw_dn (fun hk p p2 => ?_) ?_
  · exact dw_bind (dw_u2 hW) (fun _ => dw_pure _)
  refine dw_dn (fun hk p p2 => ?_) ?_
  · exact absurd hk (by decide)
  refine dw_dn (fun hk p p2 => ?_) ?_
  · exact dw_pure _
  refine dw_dn (fun hk p p2 => ?_) ?_
  · exact dw_bind (dw_u2 hW) (fun _ => dw_pure _)
  refine dw_dn (fun hk p p2 => ?_) ?_
  · exact dw_na hW _ _
  refine dw_dn (fun hk p p2 => ?_) ?_
  · exact dw_bind (dw_u2 hW) (fun _ => dw_pure _)
  refine dw_dn (fun hk p p2 => ?_) ?_
  · exact absurd hk (by decide)
  refine dw_dn (fun hk p p2 => ?_) ?_
  · exact absurd hk (by decide)
  refine dw_dn (fun hk p p2 => ?_) ?_
  · exact dw_bind (dw_u2 hW) (fun _ => dw_pure _)
  refine dw_dn (fun hk p p2 => ?_) ?_
  · exact dw_bind (dw_u2 hW) (fun _ => dw_pure _)
  refine dw_dn (fun hk p p2 => ?_) ?_
  · exact dw_bind (dw_u2 hW) (fun _ => dw_pure _)
  refine dw_dn (fun hk p p2 => ?_) ?_
  · exact dw_bind (dw_u2 hW) (fun _ => dw_pure _)
  refine dw_dn (fun hk p p2 => ?_) ?_
  · exact dw_bind (dw_u2 hW) (fun _ => dw_pure _)
  refine dw_dn (fun hk p p2 => ?_) ?_
  · exact dw_bind (dw_u2 hW) (fun _ => dw_pure _)
  refine dw_dn (fun hk p p2 => ?_) ?_
  · exact dw_bind (dw_u2 hW) (fun _ => dw_pure _)
  refine dw_dn (fun hk p p2 => ?_) ?_
  · exact dw_pure _
  refine dw_dn (fun hk p p2 => ?_) ?_
  · exact dw_pure _
  refine dw_dn (fun hk p p2 => ?_) ?_
  · exact dw_pure _
  refine dw_dn (fun hk p p2 => ?_) ?_
  · exact dw_pure _
  refine dw_dn (fun hk p p2 => ?_) ?_
  · exact dw_pure _
  refine dw_dn (fun hk p p2 => ?_) ?_
  · exact dw_pure _
  refine dw_dn (fun hk p p2 => ?_) ?_
  · exact absurd hk (by decide)
  refine dw_dn (fun hk p p2 => ?_) ?_
  · exact dw_ts hW _ _
  refine dw_dn (fun hk p p2 => ?_) ?_
  · exact absurd hk (by decide)
  refine dw_dn (fun hk p p2 => ?_) ?_
  · exact absurd hk (by decide)
  refine dw_dn (fun hk p p2 => ?_) ?_
  · exact dw_bind (dw_s2 hW) (fun _ => dw_pure _)
  refine dw_dn (fun hk p p2 => ?_) ?_
  · exact dw_bind (dw_s2 hW) (fun _ => dw_pure _)
  refine dw_dn (fun hk p p2 => ?_) ?_
  · exact dw_bind (dw_s2 hW) (fun _ => dw_pure _)
  refine dw_dn (fun hk p p2 => ?_) ?_
  · exact dw_bind (dw_s2 hW) (fun _ => dw_pure _)
  refine dw_dn (fun hk p p2 => ?_) ?_
  · exact dw_bind (dw_s2 hW) (fun _ => dw_pure _)
  refine dw_dn (fun hk p p2 => ?_) ?_
  · exact dw_bind (dw_s2 hW) (fun _ => dw_pure _)
  refine dw_dn (fun hk p p2 => ?_) ?_
  · exact dw_bind (dw_s2 hW) (fun _ => dw_pure _)
  refine dw_dn (fun hk p p2 => ?_) ?_
  · exact dw_bind (dw_s2 hW) (fun _ => dw_pure _)
  refine dw_dn (fun hk p p2 => ?_) ?_
  · exact dw_bind (dw_s2 hW) (fun _ => dw_pure _)
  refine dw_dn (fun hk p p2 => ?_) ?_
  · exact dw_bind (dw_s2 hW) (fun _ => dw_pure _)
  refine dw_dn (fun hk p p2 => ?_) ?_
  · exact dw_bind (dw_s2 hW) (fun _ => dw_pure _)
  refine dw_dn (fun hk p p2 => ?_) ?_
  · exact dw_bind (dw_s2 hW) (fun _ => dw_pure _)
  refine dw_dn (fun hk p p2 => ?_) ?_
  · exact dw_bind (dw_s2 hW) (fun _ => dw_pure _)
  refine dw_dn (fun hk p p2 => ?_) ?_
  · exact dw_bind (dw_s2 hW) (fun _ => dw_pure _)
  refine dw_dn (fun hk p p2 => ?_) ?_
  · exact dw_bind (dw_s2 hW) (fun _ => dw_pure _)
  refine dw_dn (fun hk p p2 => ?_) ?_
  · exact absurd hk (by decide)
  refine dw_dn (fun hk p p2 => ?_) ?_
  · exact absurd hk (by decide)
  refine dw_dn (fun hk p p2 => ?_) ?_
  · exact absurd hk (by decide)
  refine dw_dn (fun hk p p2 => ?_) ?_
  · exact absurd hk (by decide)
  refine dw_dn (fun hk p p2 => ?_) ?_
  · exact dw_pure _
  refine dw_dn (fun hk p p2 => ?_) ?_
  · exact dw_pure _
  refine dw_dn (fun hk p p2 => ?_) ?_
  · exact dw_pure _
  refine dw_dn (fun hk p p2 => ?_) ?_
  · exact dw_pure _
  refine dw_dn (fun hk p p2 => ?_) ?_
  · exact absurd hk (by decide)
  refine dw_dn (fun hk p p2 => ?_) ?_
  · exact absurd hk (by decide)
  refine dw_dn (fun hk p p2 => ?_) ?_
  · exact absurd hk (by decide)
  refine dw_dn (fun hk p p2 => ?_) ?_
  · exact absurd hk (by decide)
  refine dw_dn (fun hk p p2 => ?_) ?_
  · exact absurd hk (by decide)
  refine dw_dn (fun hk p p2 => ?_) ?_
  · exact absurd hk (by decide)
  refine dw_dn (fun hk p p2 => ?_) ?_
  · exact absurd hk (by decide)
  refine dw_dn (fun hk p p2 => ?_) ?_
  · exact absurd hk (by decide)
  refine dw_dn (fun hk p p2 => ?_) ?_
  · exact dw_pure _
  refine dw_dn (fun hk p p2 => ?_) ?_
  · exact absurd hk (by decide)
  refine dw_dn (fun hk p p2 => ?_) ?_
  · exact absurd hk (by decide)
  refine dw_dn (fun hk p p2 => ?_) ?_
  · exact dw_pure _
  refine dw_dn (fun hk p p2 => ?_) ?_
  · exact dw_bind (dw_u1 hW) (fun _ => dw_bind (dw_s1 hW) (fun _ => dw_pure _))
  refine dw_dn (fun hk p p2 => ?_) ?_
  · exact dw_pure _
  refine dw_dn (fun hk p p2 => ?_) ?_
  · exact dw_pure _
  refine dw_dn (fun hk p p2 => ?_) ?_
  · exact dw_pure _
  refine dw_dn (fun hk p p2 => ?_) ?_
  · exact dw_pure _
  refine dw_dn (fun hk p p2 => ?_) ?_
  · exact dw_pure _
  refine dw_dn (fun hk p p2 => ?_) ?_
  · exact dw_pure _
  refine dw_dn (fun hk p p2 => ?_) ?_
  · exact dw_pure _
  refine dw_dn (fun hk p p2 => ?_) ?_
  · exact dw_pure _
  refine dw_dn (fun hk p p2 => ?_) ?_
  · exact dw_pure _
  refine dw_dn (fun hk p p2 => ?_) ?_
  · exact dw_pure _
  refine dw_dn (fun hk p p2 => ?_) ?_
  · exact dw_pure _
  refine dw_dn (fun hk p p2 => ?_) ?_
  · exact dw_pure _
  refine dw_dn (fun hk p p2 => ?_) ?_
  · exact absurd hk (by decide)
  refine dw_dn (fun hk p p2 => ?_) ?_
  · exact absurd hk (by decide)
  refine dw_dn (fun hk p p2 => ?_) ?_
  · exact dw_pure _
  refine dw_dn (fun hk p p2 => ?_) ?_
  · exact dw_pure _
  refine dw_dn (fun hk p p2 => ?_) ?_
  · exact absurd hk (by decide)
  refine dw_dn (fun hk p p2 => ?_) ?_
  · exact absurd hk (by decide)
  refine dw_dn (fun hk p p2 => ?_) ?_
  · exact dw_pure _
  refine dw_dn (fun hk p p2 => ?_) ?_
  · exact dw_pure _
  refine dw_dn (fun hk p p2 => ?_) ?_
  · exact absurd hk (by decide)
  refine dw_dn (fun hk p p2 => ?_) ?_
  · exact absurd hk (by decide)
  refine dw_dn (fun hk p p2 => ?_) ?_
  · exact dw_pure _
  refine dw_dn (fun hk p p2 => ?_) ?_
  · exact dw_pure _
  refine dw_dn (fun hk p p2 => ?_) ?_
  · exact absurd hk (by decide)
  refine dw_dn (fun hk p p2 => ?_) ?_
  · exact absurd hk (by decide)
  refine dw_dn (fun hk p p2 => ?_) ?_
  · exact dw_pure _
  refine dw_dn (fun hk p p2 => ?_) ?_
  · exact dw_pure _
  refine dw_dn (fun hk p p2 => ?_) ?_
  · exact absurd hk (by decide)
  refine dw_dn (fun hk p p2 => ?_) ?_
  · exact absurd hk (by decide)
  refine dw_dn (fun hk p p2 => ?_) ?_
  · exact dw_pure _
  refine dw_dn (fun hk p p2 => ?_) ?_
  · exact dw_pure _
  refine dw_dn (fun hk p p2 => ?_) ?_
  · exact absurd hk (by decide)
  refine dw_dn (fun hk p p2 => ?_) ?_
  · exact absurd hk (by decide)
  refine dw_dn (fun hk p p2 => ?_) ?_
  · exact dw_pure _
  refine dw_dn (fun hk p p2 => ?_) ?_
  · exact dw_pure _
  refine dw_dn (fun hk p p2 => ?_) ?_
  · exact absurd hk (by decide)
  refine dw_dn (fun hk p p2 => ?_) ?_
  · exact absurd hk (by decide)
  refine dw_dn (fun hk p p2 => ?_) ?_
  · exact absurd hk (by decide)
  refine dw_dn (fun hk p p2 => ?_) ?_
  · exact dw_pure _
  refine dw_dn (fun hk p p2 => ?_) ?_
  · exact absurd hk (by decide)
  refine dw_dn (fun hk p p2 => ?_) ?_
  · exact absurd hk (by decide)
  refine dw_dn (fun hk p p2 => ?_) ?_
  · exact dw_pure _
  refine dw_dn (fun hk p p2 => ?_) ?_
  · exact dw_pure _
  refine dw_dn (fun hk p p2 => ?_) ?_
  · exact dw_pure _
  refine dw_dn (fun hk p p2 => ?_) ?_
  · exact absurd hk (by decide)
  refine dw_dn (fun hk p p2 => ?_) ?_
  · exact dw_pure _
  refine dw_dn (fun hk p p2 => ?_) ?_
  · exact dw_pure _
  refine dw_dn (fun hk p p2 => ?_) ?_
  · exact dw_pure _
  refine dw_dn (fun hk p p2 => ?_) ?_
  · exact absurd hk (by decide)
  refine dw_dn (fun hk p p2 => ?_) ?_
  · exact absurd hk (by decide)
  refine dw_dn (fun hk p p2 => ?_) ?_
  · exact dw_pure _
  refine dw_dn (fun hk p p2 => ?_) ?_
  · exact dw_pure _
  refine dw_dn (fun hk p p2 => ?_) ?_
  · exact dw_pure _
  refine dw_dn (fun hk p p2 => ?_) ?_
  · exact dw_pure _
  refine dw_dn (fun hk p p2 => ?_) ?_
  · exact dw_pure _
  refine dw_dn (fun hk p p2 => ?_) ?_
  · exact dw_pure _
  refine dw_dn (fun hk p p2 => ?_) ?_
  · exact absurd hk (by decide)
  refine dw_dn (fun hk p p2 => ?_) ?_
  · exact absurd hk (by decide)
  refine dw_dn (fun hk p p2 => ?_) ?_
  · exact absurd hk (by decide)
  refine dw_dn (fun hk p p2 => ?_) ?_
  · exact absurd hk (by decide)
  refine dw_dn (fun hk p p2 => ?_) ?_
  · exact absurd hk (by decide)
  refine dw_dn (fun hk p p2 => ?_) ?_
  · exact absurd hk (by decide)
  refine dw_dn (fun hk p p2 => ?_) ?_
  · exact absurd hk (by decide)
  refine dw_dn (fun hk p p2 => ?_) ?_
  · exact absurd hk (by decide)
  refine dw_dn (fun hk p p2 => ?_) ?_
  · exact dw_pure _
  refine dw_dn (fun hk p p2 => ?_) ?_
  · exact dw_pure _
  refine dw_dn (fun hk p p2 => ?_) ?_
  · exact dw_pure _
  refine dw_dn (fun hk p p2 => ?_) ?_
  · exact dw_pure _
  refine dw_dn (fun hk p p2 => ?_) ?_
  · exact dw_pure _
  refine dw_dn (fun hk p p2 => ?_) ?_
  · exact dw_pure _
  refine dw_dn (fun hk p p2 => ?_) ?_
  · exact dw_pure _
  refine dw_dn (fun hk p p2 => ?_) ?_
  · exact dw_pure _
  refine dw_dn (fun hk p p2 => ?_) ?_
  · exact dw_bind (dw_u1 hW) (fun _ => dw_pure _)
  refine dw_dn (fun hk p p2 => ?_) ?_
  · exact absurd hk (by decide)
  refine dw_dn (fun hk p p2 => ?_) ?_
  · exact absurd hk (by decide)
  refine dw_dn (fun hk p p2 => ?_) ?_
  · exact dw_bind (dw_u1 hW) (fun _ => dw_pure _)
  refine dw_dn (fun hk p p2 => ?_) ?_
  · exact dw_bind (dw_u1 hW) (fun _ => dw_pure _)
  refine dw_dn (fun hk p p2 => ?_) ?_
  · exact absurd hk (by decide)
  refine dw_dn (fun hk p p2 => ?_) ?_
  · exact absurd hk (by decide)
  refine dw_dn (fun hk p p2 => ?_) ?_
  · exact dw_pure _
  refine dw_dn (fun hk p p2 => ?_) ?_
  · exact dw_pure _
  refine dw_dn (fun hk p p2 => ?_) ?_
  · exact absurd hk (by decide)
  refine dw_dn (fun hk p p2 => ?_) ?_
  · exact absurd hk (by decide)
  refine dw_dn (fun hk p p2 => ?_) ?_
  · exact dw_pure _
  refine dw_dn (fun hk p p2 => ?_) ?_
  · exact dw_pure _
  refine dw_dn (fun hk p p2 => ?_) ?_
  · exact dw_pure _
  refine dw_dn (fun hk p p2 => ?_) ?_
  · exact dw_pure _
  refine dw_dn (fun hk p p2 => ?_) ?_
  · exact dw_pure _
  refine dw_dn (fun hk p p2 => ?_) ?_
  · exact dw_pure _
  refine dw_dn (fun hk p p2 => ?_) ?_
  · exact absurd hk (by decide)
  refine dw_dn (fun hk p p2 => ?_) ?_
  · exact absurd hk (by decide)
  refine dw_dn (fun hk p p2 => ?_) ?_
  · exact absurd hk (by decide)
  refine dw_dn (fun hk p p2 => ?_) ?_
  · exact absurd hk (by decide)
  refine dw_dn (fun hk p p2 => ?_) ?_
  · exact absurd hk (by decide)
  refine dw_dn (fun hk p p2 => ?_) ?_
  · exact absurd hk (by decide)
  refine dw_dn (fun hk p p2 => ?_) ?_
  · exact absurd hk (by decide)
  refine dw_dn (fun hk p p2 => ?_) ?_
  · exact absurd hk (by decide)
  refine dw_dn (fun hk p p2 => ?_) ?_
  · exact dw_pure _
  refine dw_dn (fun hk p p2 => ?_) ?_
  · exact dw_pure _
  refine dw_dn (fun hk p p2 => ?_) ?_
  · exact dw_pure _
  refine dw_dn (fun hk p p2 => ?_) ?_
  · exact dw_pure _
  refine dw_dn (fun hk p p2 => ?_) ?_
  · exact dw_pure _
  refine dw_dn (fun hk p p2 => ?_) ?_
  · exact dw_pure _
  refine dw_dn (fun hk p p2 => ?_) ?_
  · exact dw_pure _
  refine dw_dn (fun hk p p2 => ?_) ?_
  · exact dw_pure _
  refine dw_dn (fun hk p p2 => ?_) ?_
  · exact dw_bind (dw_u1 hW) (fun _ => dw_pure _)
  refine dw_dn (fun hk p p2 => ?_) ?_
  · exact absurd hk (by decide)
  refine dw_dn (fun hk p p2 => ?_) ?_
  · exact absurd hk (by decide)
  refine dw_dn (fun hk p p2 => ?_) ?_
  · exact dw_bind (dw_u1 hW) (fun _ => dw_pure _)
  refine dw_dn (fun hk p p2 => ?_) ?_
  · exact dw_bind (dw_u1 hW) (fun _ => dw_pure _)
  refine dw_dn (fun hk p p2 => ?_) ?_
  · exact dw_bind (dw_u2 hW) (fun _ => dw_pure _)
  refine dw_dn (fun hk p p2 => ?_) ?_
  · exact dw_bind (dw_u2 hW) (fun _ => dw_pure _)
  refine dw_dn (fun hk p p2 => ?_) ?_
  · exact dw_bind (dw_u1 hW) (fun _ => dw_pure _)
  refine dw_dn (fun hk p p2 => ?_) ?_
  · exact dw_bind (dw_s2 hW) (fun _ => dw_pure _)
  refine dw_dn (fun hk p p2 => ?_) ?_
  · exact dw_bind (dw_s1 hW) (fun _ => dw_pure _)
  refine dw_dn (fun hk p p2 => ?_) ?_
  · exact absurd hk (by decide)
  refine dw_dn (fun hk p p2 => ?_) ?_
  · exact absurd hk (by decide)
  refine dw_dn (fun hk p p2 => ?_) ?_
  · exact absurd hk (by decide)
  refine dw_dn (fun hk p p2 => ?_) ?_
  · exact absurd hk (by decide)
  refine dw_dn (fun hk p p2 => ?_) ?_
  · exact absurd hk (by decide)
  refine dw_dn (fun hk p p2 => ?_) ?_
  · exact dw_pure _
  refine dw_dn (fun hk p p2 => ?_) ?_
  · exact dw_pure _
  refine dw_dn (fun hk p p2 => ?_) ?_
  · exact dw_pure _
  refine dw_dn (fun hk p p2 => ?_) ?_
  · exact dw_pure _
  refine dw_dn (fun hk p p2 => ?_) ?_
  · exact dw_pure _
  refine dw_dn (fun hk p p2 => ?_) ?_
  · exact dw_pure _
  refine dw_dn (fun hk p p2 => ?_) ?_
  · exact dw_pure _
  refine dw_dn (fun hk p p2 => ?_) ?_
  · exact dw_pure _
  refine dw_dn (fun hk p p2 => ?_) ?_
  · exact dw_pure _
  refine dw_dn (fun hk p p2 => ?_) ?_
  · exact dw_pure _
  refine dw_dn (fun hk p p2 => ?_) ?_
  · exact absurd hk (by decide)
  intro m hm
  omega
theorem dw_dec (hW : dw_W code b s) {p : Nat} {x : Instr × Nat} (hp : p < b.size) (hop : dw_ok (b[p]).toNat = true) (h : decode b p = .ok x) : decode code (s + p) = .ok x := by
  obtain ⟨g, hg, hs⟩ := dw_ex hW
  have h2 : s + p < code.size := by have := hW.2.1; omega
  have hl : (b[p]).toNat < 202 := by
    unfold dw_ok at hop
    exact Nat.le_of_ble_eq_true ((Bool.and_eq_true _ _).mp hop).1
  have h : ((Decoder.instr p).runAt b p >>= fun y => (.ok (y.1, y.2 - p) : Except DecodeError (Instr × Nat))) = .ok x := h
  show ((Decoder.instr (s + p)).runAt code (s + p) >>= fun y => (.ok (y.1, y.2 - (s + p)) : Except DecodeError (Instr × Nat))) = .ok x
  have e1 : (Decoder.instr p).runAt b p = (g p (b[p]).toNat).runAt b (p + 1) := by
    rw [hg]
    show ((Reader.u1 : Decoder Nat).runAt b p >>= fun y => (g p y.1).runAt b y.2) = _
    rw [dw_u1r, dif_pos hp]; rfl
  have e2 : (Decoder.instr (s + p)).runAt code (s + p) = (g (s + p) (b[p]).toNat).runAt code (s + p + 1) := by
    rw [hg]
    show ((Reader.u1 : Decoder Nat).runAt code (s + p) >>= fun y => (g (s + p) y.1).runAt code y.2) = _
    rw [dw_u1r, dif_pos h2, hW.2.2 p hp h2]; rfl
  rw [e1] at h
  rw [e2]
  cases hr : (g p (b[p]).toNat).runAt b (p + 1) with
  | error y => rw [hr] at h; cases h
  | ok y =>
    obtain ⟨v, q⟩ := y
    rw [hr] at h
    have h : (Except.ok (v, q - p) : Except DecodeError (Instr × Nat)) = .ok x := h
    rw [Nat.add_assoc, hs _ hl hop p (s + p) (p + 1) v q hr]
    show (Except.ok (v, s + q - (s + p)) : Except DecodeError (Instr × Nat)) = .ok x
    rw [← h, Nat.add_sub_add_left]
end SXDW
theorem dw_win (code : ByteArray) {s : Nat} (h4 : s % 4 = 0) (hs : s ≤ code.size) : dw_W code ⟨⟨(code.data.toList.drop s).take 512⟩⟩ s := by
  have hl : code.data.toList.length = code.size := rfl
  refine ⟨h4, ?_, fun i h h2 => ?_⟩
  · show s + ((code.data.toList.drop s).take 512).length ≤ code.size
    rw [List.length_take, List.length_drop, hl]; omega
  · show code.data.toList[s + i] = ((code.data.toList.drop s).take 512)[i]
    rw [List.getElem_take, List.getElem_drop]
noncomputable def sx_win (mi s : Nat) : ByteArray := ⟨⟨((sx_M mi).2.1.data.toList.drop s).take 512⟩⟩
noncomputable def sx_dw1 (mi k i : Nat) (x : Instr × Nat) : Bool := Nat.blt i (sx_win mi (64 * k)).size && (dw_ok ((sx_win mi (64 * k)).data.toList.getD i 0).toNat && decide (decode (sx_win mi (64 * k)) i = .ok x))
noncomputable def sx_dw (mi k : Nat) : Bool := Nat.ble (64 * k) (sx_M mi).2.1.size && (List.range 64).all (fun i => match (sx_M mi).2.2.2.2.2.2.2.2 (64 * k + i) with
  | none => true
  | some x => sx_dw1 mi k i x)
noncomputable def sx_dq (mi : Nat) : Bool := (List.range ((sx_M mi).2.2.2.2.2.2.2.1 / 64 + 1)).all (sx_dw mi)
theorem sx_dw_1 {mi k i : Nat} {x : Instr × Nat} (hk : 64 * k ≤ (sx_M mi).2.1.size) (h : sx_dw1 mi k i x = true) : decode (sx_M mi).2.1 (64 * k + i) = .ok x := by
  unfold sx_dw1 at h
  have h1 := (Bool.and_eq_true _ _).mp h
  have h2 := (Bool.and_eq_true _ _).mp h1.2
  have hi : i < (sx_win mi (64 * k)).size := Nat.le_of_ble_eq_true h1.1
  refine dw_dec (b := sx_win mi (64 * k)) (dw_win _ (by omega) hk) hi ?_ (of_decide_eq_true h2.2)
  have e : (sx_win mi (64 * k)).data.toList.getD i 0 = (sx_win mi (64 * k))[i] := by
    rw [List.getD_eq_getElem?_getD, List.getElem?_eq_getElem (show i < (sx_win mi (64 * k)).data.toList.length from hi)]; rfl
  rw [← e]; exact h2.1
theorem sx_dw_2 {mi k i : Nat} (h : sx_dw mi k = true) (hi : i < 64) : (match (sx_M mi).2.2.2.2.2.2.2.2 (64 * k + i) with
  | none => true
  | some x => decide (decode (sx_M mi).2.1 (64 * k + i) = .ok x)) = true := by
  unfold sx_dw at h
  have h1 := (Bool.and_eq_true _ _).mp h
  have h2 := sx_all h1.2 hi
  revert h2
  cases (sx_M mi).2.2.2.2.2.2.2.2 (64 * k + i) with
  | none => exact fun _ => rfl
  | some x => exact fun h2 => decide_eq_true (sx_dw_1 (Nat.le_of_ble_eq_true h1.1) h2)
theorem sx_dq_1 {mi : Nat} (h : sx_dq mi = true) : sx_dchk mi = true := by
  unfold sx_dchk
  rw [List.all_eq_true]
  intro pc hpc
  have hlt := List.mem_range.mp hpc
  have h2 := sx_dw_2 (i := pc % 64) (sx_all h (o := pc / 64) (by omega)) (by omega)
  rw [show 64 * (pc / 64) + pc % 64 = pc by omega] at h2
  exact h2
theorem sx_dqs {k : Nat} (h : (List.range 6).all (fun i => sx_dq (k + i)) = true) : (List.range 6).all (fun i => sx_dchk (k + i)) = true := by
  rw [List.all_eq_true] at h ⊢
  exact fun i hi => sx_dq_1 (h i hi)
theorem sx_d0 : (List.range 6).all (fun i => sx_dchk (0 + i)) = true := sx_dqs (by decide +kernel)
theorem sx_d1 : (List.range 6).all (fun i => sx_dchk (6 + i)) = true := sx_dqs (by decide +kernel)
theorem sx_d2 : (List.range 6).all (fun i => sx_dchk (12 + i)) = true := sx_dqs (by decide +kernel)
theorem sx_d3 : (List.range 6).all (fun i => sx_dchk (18 + i)) = true := sx_dqs (by decide +kernel)
theorem sx_d4 : (List.range 6).all (fun i => sx_dchk (24 + i)) = true := sx_dqs (by decide +kernel)
theorem sx_d5 : (List.range 6).all (fun i => sx_dchk (30 + i)) = true := sx_dqs (by decide +kernel)
theorem sx_d6 : (List.range 6).all (fun i => sx_dchk (36 + i)) = true := sx_dqs (by decide +kernel)
theorem sx_d7 : (List.range 6).all (fun i => sx_dchk (42 + i)) = true := sx_dqs (by decide +kernel)
theorem sx_d8 : (List.range 6).all (fun i => sx_dchk (48 + i)) = true := sx_dqs (by decide +kernel)
theorem sx_d9 : (List.range 6).all (fun i => sx_dchk (54 + i)) = true := sx_dqs (by decide +kernel)
theorem sx_d10 : (List.range 6).all (fun i => sx_dchk (60 + i)) = true := sx_dqs (by decide +kernel)
theorem sx_d11 : (List.range 6).all (fun i => sx_dchk (66 + i)) = true := sx_dqs (by decide +kernel)
theorem sx_d12 : (List.range 6).all (fun i => sx_dchk (72 + i)) = true := sx_dqs (by decide +kernel)
theorem sx_d13 : (List.range 6).all (fun i => sx_dchk (78 + i)) = true := sx_dqs (by decide +kernel)
theorem sx_d14 : (List.range 6).all (fun i => sx_dchk (84 + i)) = true := sx_dqs (by decide +kernel)
theorem sx_d15 : (List.range 6).all (fun i => sx_dchk (90 + i)) = true := sx_dqs (by decide +kernel)
theorem sx_d16 : (List.range 6).all (fun i => sx_dchk (96 + i)) = true := sx_dqs (by decide +kernel)
theorem sx_d17 : (List.range 6).all (fun i => sx_dchk (102 + i)) = true := sx_dqs (by decide +kernel)
theorem sx_d18 : (List.range 6).all (fun i => sx_dchk (108 + i)) = true := sx_dqs (by decide +kernel)
theorem sx_d19 : (List.range 6).all (fun i => sx_dchk (114 + i)) = true := sx_dqs (by decide +kernel)
theorem sx_d20 : (List.range 6).all (fun i => sx_dchk (120 + i)) = true := sx_dqs (by decide +kernel)
theorem sx_d21 : (List.range 6).all (fun i => sx_dchk (126 + i)) = true := sx_dqs (by decide +kernel)
theorem sx_d22 : (List.range 6).all (fun i => sx_dchk (132 + i)) = true := sx_dqs (by decide +kernel)
theorem sx_d23 : (List.range 6).all (fun i => sx_dchk (138 + i)) = true := sx_dqs (by decide +kernel)
theorem sx_d24 : (List.range 6).all (fun i => sx_dchk (144 + i)) = true := sx_dqs (by decide +kernel)
theorem sx_d25 : (List.range 6).all (fun i => sx_dchk (150 + i)) = true := sx_dqs (by decide +kernel)
theorem sx_d26 : (List.range 6).all (fun i => sx_dchk (156 + i)) = true := sx_dqs (by decide +kernel)
theorem sx_d27 : (List.range 6).all (fun i => sx_dchk (162 + i)) = true := sx_dqs (by decide +kernel)
theorem sx_d28 : (List.range 6).all (fun i => sx_dchk (168 + i)) = true := sx_dqs (by decide +kernel)
theorem sx_d29 : (List.range 6).all (fun i => sx_dchk (174 + i)) = true := sx_dqs (by decide +kernel)
theorem sx_d30 : (List.range 6).all (fun i => sx_dchk (180 + i)) = true := sx_dqs (by decide +kernel)
theorem sx_d31 : (List.range 6).all (fun i => sx_dchk (186 + i)) = true := sx_dqs (by decide +kernel)
theorem sx_d32 : (List.range 6).all (fun i => sx_dchk (192 + i)) = true := sx_dqs (by decide +kernel)
theorem sx_d33 : (List.range 6).all (fun i => sx_dchk (198 + i)) = true := sx_dqs (by decide +kernel)
theorem sx_d34 : (List.range 6).all (fun i => sx_dchk (204 + i)) = true := sx_dqs (by decide +kernel)
theorem sx_d35 : (List.range 6).all (fun i => sx_dchk (210 + i)) = true := sx_dqs (by decide +kernel)
theorem sx_d36 : (List.range 6).all (fun i => sx_dchk (216 + i)) = true := sx_dqs (by decide +kernel)
theorem sx_d37 : (List.range 6).all (fun i => sx_dchk (222 + i)) = true := sx_dqs (by decide +kernel)
theorem sx_d38 : (List.range 6).all (fun i => sx_dchk (228 + i)) = true := sx_dqs (by decide +kernel)
theorem sx_d39 : (List.range 6).all (fun i => sx_dchk (234 + i)) = true := sx_dqs (by decide +kernel)
theorem sx_d40 : (List.range 6).all (fun i => sx_dchk (240 + i)) = true := sx_dqs (by decide +kernel)
