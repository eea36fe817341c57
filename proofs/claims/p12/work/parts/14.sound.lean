-- a run of the pure machine is a contract of the machine
noncomputable def sx_Ws (mi : Nat) : List Cond := .code (sx_M mi).1 (sx_M mi).2.1 (sx_M mi).2.2.1 (sx_M mi).2.2.2.1 :: sx_tw
def sx_rm (mi K N : Nat) : Room := { frames := sx_fr mi + 2, cells := K, slots := N, locals := sx_lo mi + 30 }
theorem sx_AOA {u U : State} (hvm : u.vm.Alike U.vm) (h : (Cond.arrayOver (.array .int)).before #[] u = true) : (Cond.arrayOver (.array .int)).before #[] U = true := by
  have h1 : (Cond.arrayOver (.array .int)).value #[] u none u [] = some true := by
    simpa [Cond.before, Cond.holds] using h
  simp only [Cond.value] at h1
  obtain ⟨comp, hc, h2⟩ := Option.bind_eq_some_iff.mp h1
  obtain ⟨c, hi, h3⟩ := Option.bind_eq_some_iff.mp h2
  obtain ⟨k, hk, h4⟩ := Option.map_eq_some_iff.mp h3
  obtain ⟨k2, hk2, he⟩ := hvm.2.2 _ _ hk
  have hi2 : (U.vm.classes.findIdx? fun (x : Class) => match x.kind with | .array component _ => component == comp | _ => false) = some c := by
    have e1 := va_idx_bare u.vm comp
    have e2 := va_idx_bare U.vm comp
    have e3 : U.vm.bare = u.vm.bare := by first | exact hvm.bare_eq | exact hvm.bare_eq.symm
    rw [e3] at e2
    exact e2.symm.trans (e1.trans hi)
  have hc2 : U.vm.findClass (FieldType.array .int).toString = some comp := by rw [hvm.findClass]; exact hc
  have hkk : k2.kind = k.kind := by rw [he]
  have goal : (Cond.arrayOver (.array .int)).value #[] U none U [] = some true := by
    simp only [Cond.value]
    refine Option.bind_eq_some_iff.mpr ⟨comp, hc2, Option.bind_eq_some_iff.mpr ⟨c, hi2, Option.map_eq_some_iff.mpr ⟨k2, hk2, ?_⟩⟩⟩
    rw [hkk, hvm.findClass]
    exact h4
  simpa [Cond.before, Cond.holds] using goal
theorem sx_G.warm {D : va_G} {dA : Nat → ClassId} {h0 : Nat} {sa : Nat → Nat} {xs : Option (List Int32)} {s U : State} {H H1 : Heap} (hW : s.WarmedH U.vm) (hq : ∀ a : Nat, a < H.size → ¬ sx_A h0 a → H1[a]? = H[a]?) (h : sx_G D dA h0 sa xs s H) : sx_G D dA h0 sa xs U H1 :=
  ⟨va_K.moved hW.alike h.1, fun k hk => ((h.2.1 k hk).moved hW.alike).kept hq, fun k hk => ((h.2.2.1 k hk).moved hW.alike).kept hq, h.2.2.2.1.moved hW.alike, h.2.2.2.2.1.moved hW.alike, sx_AOA hW.alike h.2.2.2.2.2.1, fun o q hq2 => va_Nw.warmM hW (h.2.2.2.2.2.2.1 o q hq2), h.2.2.2.2.2.2.2.warm hW hq⟩
theorem sx_G.same {D : va_G} {dA : Nat → ClassId} {h0 : Nat} {sa : Nat → Nat} {xs : Option (List Int32)} {s U : State} {H : Heap} (hv : s.vm = U.vm) (h : sx_G D dA h0 sa xs s H) : sx_G D dA h0 sa xs U H := by
  have hA : s.vm.Alike U.vm := by rw [hv]; exact Vm.Alike.refl U.vm
  exact ⟨va_K.moved hA h.1, fun k hk => (h.2.1 k hk).moved hA, fun k hk => (h.2.2.1 k hk).moved hA, h.2.2.2.1.moved hA, h.2.2.2.2.1.moved hA, sx_AOA hA h.2.2.2.2.2.1, fun o q hq2 => va_tabs rfl hv (h.2.2.2.2.2.2.1 o q hq2), h.2.2.2.2.2.2.2.same hv⟩
def sx_Pc (D : va_G) (dA : Nat → ClassId) (h0 : Nat) (sa : Nat → Nat) (xs : Option (List Int32)) (md : Bool) (as : List Value) (w : List sx_C) : Array Value → State → Prop := fun v U => v = (as.map (sx_v h0 sa)).toArray ∧ sx_G D dA h0 sa xs U U.heap ∧ sx_P D dA h0 sa md w U.heap ∧ h0 ≤ U.heap.size
def sx_Qc (D : va_G) (dA : Nat → ClassId) (h0 : Nat) (sa : Nat → Nat) (md : Bool) (r : Option Value) (w : List sx_C) : Array Value → State → Outcome → State → Prop := fun _ st oc t => oc = .returned (r.map (sx_v h0 sa)) ∧ sx_P D dA h0 sa md w t.heap ∧ va_F (sx_A h0) st t
theorem sx_blind {D : va_G} {dA : Nat → ClassId} {h0 : Nat} {sa : Nat → Nat} {xs : Option (List Int32)} {md : Bool} {as : List Value} {w : List sx_C} : FrameBlind (sx_Pc D dA h0 sa xs md as w) := fun a U g mk q => ⟨q.1, sx_G.same (s := U) (U := U.calling g mk a) rfl q.2.1, q.2.2.1, q.2.2.2⟩
theorem sx_ck_cat {md : Bool} {n0 : Nat} {w w1 : List sx_C} (h : n0 ≤ w.length) (h1 : md = true → w.length ≤ w1.length) : sx_ck md n0 w + sx_ck md (sx_cn0 md w) w1 = sx_ck md n0 w1 := by
  cases md with
  | false => rfl
  | true =>
    have := h1 rfl
    simp only [sx_ck, sx_cn0, cond_true]
    omega
theorem sx_cs_cat {md : Bool} {z0 : Nat} {w w1 : List sx_C} (h : z0 ≤ sx_sz w) (h1 : md = true → sx_sz w ≤ sx_sz w1) : sx_cs md z0 w + sx_cs md (sx_cz0 md w) w1 = sx_cs md z0 w1 := by
  cases md with
  | false => rfl
  | true =>
    have := h1 rfl
    simp only [sx_cs, sx_cz0, cond_true]
    omega
theorem sx_ck_le {md : Bool} {n0 : Nat} {w w1 : List sx_C} (h1 : md = true → sx_ext w w1) : sx_ck md n0 w ≤ sx_ck md n0 w1 := by
  cases md with
  | false => exact Nat.le_refl _
  | true =>
    have := (h1 rfl).1
    simp only [sx_ck, cond_true]
    omega
theorem sx_cs_le {md : Bool} {z0 : Nat} {w w1 : List sx_C} (h1 : md = true → sx_ext w w1) : sx_cs md z0 w ≤ sx_cs md z0 w1 := by
  cases md with
  | false => exact Nat.le_refl _
  | true =>
    have := (h1 rfl).2
    simp only [sx_cs, cond_true]
    omega
theorem sx_ck_0 (md : Bool) (w : List sx_C) : sx_ck md (sx_cn0 md w) w = 0 := by cases md <;> simp [sx_ck, sx_cn0]
theorem sx_cn0_le (md : Bool) (w : List sx_C) : sx_cn0 md w ≤ w.length := by cases md <;> simp [sx_cn0]
theorem sx_cz0_le (md : Bool) (w : List sx_C) : sx_cz0 md w ≤ sx_sz w := by cases md <;> simp [sx_cz0]
theorem sx_cs_0 (md : Bool) (w : List sx_C) : sx_cs md (sx_cz0 md w) w = 0 := by cases md <;> simp [sx_cs, sx_cz0]
theorem sx_sl_len (h0 : Nat) (sa : Nat → Nat) : ∀ as : List Value, (lg_sl (as.map (sx_v h0 sa))).length = (as.map (fun v => v.category)).sum
  | [] => rfl
  | v :: r => by
    have ih := sx_sl_len h0 sa r
    unfold lg_sl at ih ⊢
    rw [List.map_cons, List.flatMap_cons, List.length_append, ih, List.map_cons, List.sum_cons, sx_vc]
    congr 1
    cases v <;> rfl
/-- what is known of a method by its number -/
theorem sx_mfacts {mi : Nat} (h : mi < 246) (hc : Cond.code (sx_M mi).1 (sx_M mi).2.1 (sx_M mi).2.2.1 (sx_M mi).2.2.2.1 ∈ lw_tbl) : Cond.code (sx_M mi).1 (sx_M mi).2.1 (sx_M mi).2.2.1 (sx_M mi).2.2.2.1 ∈ sx_tw ∧ Cond.initialized (sx_M mi).1.cls ∈ sx_tw ∧ (sx_M mi).1.cls = sx_cn.getD (sx_own mi) "" ∧ (sx_maxL mi) ≤ 21 ∧ (parseMethodDescriptor (sx_M mi).1.desc).map (fun d => d.parameters.length) = some (sx_nar mi) ∧ ((sx_M mi).1.cls ≠ "java/lang/invoke/MethodHandle" ∧ (sx_M mi).1.cls ≠ "java/lang/invoke/VarHandle") ∧ plainFor (sx_M mi).1 = true := by
  have h2 := sx_all sx_mc2 h
  have h3 := sx_all sx_mc3 h
  have h4 := sx_all sx_mc4 h
  simp only [sx_mchk2, Bool.and_eq_true] at h2
  simp only [sx_mchk3] at h3
  simp only [sx_mchk4, Bool.and_eq_true] at h4
  exact ⟨sx_twm hc rfl, sx_twm (sx_memp h2.1) rfl, of_decide_eq_true h2.2.1, Nat.le_of_ble_eq_true h2.2.2, of_decide_eq_true h3, of_decide_eq_true h4.1, h4.2⟩
