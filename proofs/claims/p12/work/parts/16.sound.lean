-- every run of the pure machine is a walk of the machine
def sx_HQ (p : Program) (l : Launch) (e : Env) (R : Room) (s : State) (m : MethodId) (args : Array Value) (below : List Frame) (meth : Method) (c : Code) (D : va_G) (dA : Nat → ClassId) (h0 : Nat) (sa : Nat → Nat) (md : Bool) (n0 z0 mi : Nat) (Q : State → Prop) (r : Option Value) (w2 : List sx_C) : Prop :=
  ∀ (H : Heap) (locs : List Loc) (lsA : Array Slot) (pc : Nat) (st : List Value) (i : Instr), decode (sx_M mi).2.1 pc = .ok (i, 1) → sx_ret mi i st = some r → sx_P D dA h0 sa md w2 H → va_S (sx_A h0) s.heap H locs → W p l e R s m args below meth c H locs (sx_ck md n0 w2) (sx_cs md z0 w2) Q (F0 m pc lsA (st.map (sx_v h0 sa)))
def sx_BD (l : Launch) (D : va_G) (dA : Nat → ClassId) (h0 : Nat) (sa : Nat → Nat) (xs : Option (List Int32)) (md : Bool) (f : Nat) : Prop :=
  ∀ (p : Program) (e : Env) (R : Room) (s : State) (m : MethodId) (args : Array Value) (below : List Frame) (meth : Method) (c : Code) (Q : State → Prop) (n0 z0 d mi pc : Nat) (ls : sx_L) (st : List Value) (w : List sx_C) (r : Option Value) (w2 : List sx_C), sx_Ctx p s m args meth c R D dA h0 sa xs mi d → sx_run md xs f d mi pc ls st w = some (r, w2) → (sx_ck md n0 w2 ≤ R.cells ∧ sx_cs md z0 w2 ≤ R.slots) → sx_HQ p l e R s m args below meth c D dA h0 sa md n0 z0 mi Q r w2 → sx_J p l e R s m args below meth c D dA h0 sa md n0 z0 (sx_maxL mi) Q (pc, ls, st, w)
theorem sx_cbeq {α : Type} {n k : Nat} {x : Option α} {v : α} (h : cond (Nat.beq n k) x none = some v) : n = k ∧ x = some v := by
  cases hb : Nat.beq n k with
  | false => rw [hb] at h; cases h
  | true => rw [hb] at h; exact ⟨Nat.eq_of_beq_eq_true hb, h⟩
theorem sx_inv_i {mi : Nat} {i : Instr} {st : List Value} {w : List sx_C} {q : Nat × List Value × List Value} (h : sx_inv mi i st w = some q) : (∃ k, i = .invokestatic k) ∨ (∃ k, i = .invokevirtual k) ∨ (∃ k, i = .invokespecial k) := by
  unfold sx_inv at h
  split at h
  · exact Or.inl ⟨_, rfl⟩
  · exact Or.inr (Or.inl ⟨_, rfl⟩)
  · exact Or.inr (Or.inr ⟨_, rfl⟩)
  · cases h
theorem sx_bodyS (hM : sx_MNA) {l : Launch} {D : va_G} {dA : Nat → ClassId} {h0 : Nat} {sa : Nat → Nat} {xs : Option (List Int32)} {md : Bool} {f : Nat} (hC : sx_CT l D dA h0 sa xs md f) (hB : sx_BD l D dA h0 sa xs md f) : sx_BD l D dA h0 sa xs md (f + 1) := by
  intro p e R s m args below meth c Q n0 z0 d mi pc ls st w r w2 X h hR HQ
  have hmi : mi < 247 := X.2.2.2.2.2.2.2.2.2.2
  unfold sx_run at h
  split at h
  · cases h
  · rename_i i n hi
    have hd := sx_decs hmi hi
    split at h
    · rename_i pc2 ls2 st2 w3 hs
      have hx := sx_x_run md xs f d mi pc2 ls2 st2 w3 r w2 h
      exact sx_step_ok hM X hd (fun hz => (fun q : 3 ≤ sx_fr mi ∧ 75 ≤ sx_lo mi => ⟨Nat.le_trans (Nat.add_le_add_right q.1 2) X.2.2.2.2.2.2.1, Nat.le_trans (Nat.add_le_add_right q.2 30) X.2.2.2.2.2.2.2.1⟩) (sx_cri_str (sx_crI hmi hi) hz)) hs ⟨Nat.le_trans (sx_ck_le (fun _ => hx)) hR.1, Nat.le_trans (sx_cs_le (fun _ => hx)) hR.2⟩ (hB p e R s m args below meth c Q n0 z0 d mi pc2 ls2 st2 w3 r w2 X h hR HQ)
    · split at h
      · rename_i r2 hr
        obtain ⟨hn, hr⟩ := sx_cbeq hr
        cases h
        subst hn
        exact fun H locs lsA hP hS hl h1 h2 => HQ H locs lsA pc st i hd hr hP hS
      · split at h
        · rename_i mi2 as rest d2 hinv
          obtain ⟨hn, hinv⟩ := sx_cbeq hinv
          simp only [Bool.cond_eq_ite] at h
          split at h
          · rename_i hsum
            have hsum := Nat.le_of_ble_eq_true hsum
            split at h
            · rename_i r2 w4 hc
              have hx1 := sx_x_run md xs f d2 mi2 0 _ [] w r2 w4 hc
              have hx2 := sx_x_run md xs f (d2 + 1) mi (pc + 3) ls _ w4 r w2 h
              have K := hB p e R s m args below meth c Q n0 z0 (d2 + 1) mi (pc + 3) ls (r2.toList ++ rest) w4 r w2 X h hR HQ
              have hR2 : sx_ck md n0 w4 ≤ R.cells ∧ sx_cs md z0 w4 ≤ R.slots := ⟨Nat.le_trans (sx_ck_le (fun _ => hx2)) hR.1, Nat.le_trans (sx_cs_le (fun _ => hx2)) hR.2⟩
              rcases sx_inv_i hinv with ⟨k, rfl⟩ | ⟨k, rfl⟩ | ⟨k, rfl⟩
              · exact sx_callS X hi hn hinv hC hsum hc hx1 hR2 K
              · exact sx_callV X hi hn hinv hC hsum hc hx1 hR2 K
              · exact sx_callI X hi hn hinv hC hsum hc hx1 hR2 K
            · cases h
          · cases h
        · cases h
theorem sx_vbool {v : Int32} (h : (v == 0 || v == 1) = true) : narrow .boolean (.int v) = .int v := by
  simp only [Bool.or_eq_true, beq_iff_eq] at h
  rcases h with rfl | rfl
  · rfl
  · rfl
theorem sx_metS {l : Launch} {D : va_G} {dA : Nat → ClassId} {h0 : Nat} {sa : Nat → Nat} {xs : Option (List Int32)} {md : Bool} {f : Nat} (hB : sx_BD l D dA h0 sa xs md f) : sx_CT l D dA h0 sa xs md f := by
  intro d mi as w r w2 hm hsum hrun
  obtain ⟨f1, f2, f3, f4, f5, f6, f7⟩ := sx_mfacts hm (sx_codes hm)
  refine va_MetF (cc := (sx_M mi).2.1) (maxL := (sx_M mi).2.2.1) (ret := (sx_M mi).2.2.2.1) f7 rfl ?_
  intro p e s m args below meth c s₁ B hml hv
  obtain ⟨rfl, hG, hP, hh⟩ := hv
  have hx := B.exec
  have hb := B.bytes
  have hr := B.returns
  have hts0 := atoms_spec (ws := sx_Ws mi) B.pre
  have hown : s.vm.findClass (sx_M mi).1.cls = some m.cls := findClass_of_methodNamed B.named
  have hlocks := B.notSynchronized
  have hnm : meth.name = (sx_M mi).1.name := (name_of_methodNamed B.named B.method).1
  rw [f3] at hown
  have X : sx_Ctx p s m (as.map (sx_v h0 sa)).toArray meth c (headSpec (sx_Ws mi) (sx_rm mi (sx_ck md (sx_cn0 md w) w2) (sx_cs md (sx_cz0 md w) w2))).room D dA h0 sa xs mi d := ⟨hx, hb, hml, hown, fun w9 h9 => hts0 w9 (List.mem_cons_of_mem _ h9), fun _ => hnm, Nat.le_refl _, Nat.le_refl _, hG, hh, by omega⟩
  have hl := lv_entry (as.map (sx_v h0 sa)) (n := (sx_M mi).2.2.1) (by rw [sx_sl_len]; exact hsum)
  rw [lg_entry_eq]
  generalize (lg_sl (as.map (sx_v h0 sa)) ++ List.replicate ((sx_M mi).2.2.1 - (lg_sl (as.map (sx_v h0 sa))).length) Slot.unset).toArray = lsA at hl ⊢
  rw [sx_args_map] at hl
  have J := hB p e _ s m _ below meth c (MQ below (sx_Qc D dA h0 sa md r w2) (as.map (sx_v h0 sa)).toArray s (sx_ck md (sx_cn0 md w) w2) (sx_cs md (sx_cz0 md w) w2) (sx_A h0)) (sx_cn0 md w) (sx_cz0 md w) d mi 0 (lv_args 0 as) [] w r w2 X hrun ⟨Nat.le_refl _, Nat.le_refl _⟩ (by
    intro H locs lsB pc st i hd hret hP2 hS
    have hq : ∀ t : State, t.heap = H → s.WarmedH t.vm → sx_Qc D dA h0 sa md r w2 (as.map (sx_v h0 sa)).toArray s (.returned (r.map (sx_v h0 sa))) t := fun t ht hW => ⟨rfl, by rw [ht]; exact hP2, hS.F ht⟩
    unfold sx_ret at hret
    split at hret
    · rename_i v he
      cases hret
      exact W.iret hx hb (hr.trans he) hq hS.2.2 hd
    · rename_i v he
      cases hbt : (v == 0 || v == 1) with
      | false => rw [hbt] at hret; cases hret
      | true =>
        rw [hbt] at hret
        cases hret
        exact W.zret hx hb (hr.trans he) (sx_vbool hbt) hq hS.2.2 hd
    · rename_i v he
      cases hret
      exact W.lret hx hb (hr.trans he) hq hS.2.2 hd
    · rename_i C v he
      cases hret
      exact W.aret hx hb (hr.trans he) (Or.inl ⟨_, rfl⟩) (Or.inr ⟨_, rfl⟩) hq hS.2.2 hd
    · rename_i C v he
      cases hret
      exact W.aret hx hb (hr.trans he) (Or.inl ⟨_, rfl⟩) (Or.inr ⟨_, rfl⟩) hq hS.2.2 hd
    · rename_i C v he
      cases hret
      exact W.aret hx hb (hr.trans he) (Or.inr ⟨_, rfl⟩) (Or.inr ⟨_, rfl⟩) hq hS.2.2 hd
    · rename_i he
      cases hret
      exact W.vret hx hb (hr.trans he) hq hS.2.2 hd
    · cases hret)
  have J1 := J s.heap [] lsA hP va_S.rf hl (sx_cn0_le md w) (sx_cz0_le md w)
  have J2 : W p l e (headSpec (sx_Ws mi) (sx_rm mi (sx_ck md (sx_cn0 md w) w2) (sx_cs md (sx_cz0 md w) w2))).room s m (as.map (sx_v h0 sa)).toArray below meth c s.heap [] (sx_ck md (sx_cn0 md w) w) (sx_cs md (sx_cz0 md w) w) (MQ below (sx_Qc D dA h0 sa md r w2) (as.map (sx_v h0 sa)).toArray s (sx_ck md (sx_cn0 md w) w2) (sx_cs md (sx_cz0 md w) w2) (sx_A h0)) (F0 m 0 lsA []) := J1
  rw [sx_ck_0, sx_cs_0] at J2
  exact J2
theorem sx_sound (hM : sx_MNA) (l : Launch) (D : va_G) (dA : Nat → ClassId) (h0 : Nat) (sa : Nat → Nat) (xs : Option (List Int32)) (md : Bool) : ∀ f : Nat, sx_CT l D dA h0 sa xs md f ∧ sx_BD l D dA h0 sa xs md f
  | 0 => by
    have h0 : sx_BD l D dA h0 sa xs md 0 := by
      intro p e R s m args below meth c Q n0 z0 d mi pc ls st w r w2 X h
      cases h
    exact ⟨sx_metS h0, h0⟩
  | f + 1 => by
    obtain ⟨hC, hB⟩ := sx_sound hM l D dA h0 sa xs md f
    have h1 := sx_bodyS hM hC hB
    exact ⟨sx_metS h1, h1⟩
