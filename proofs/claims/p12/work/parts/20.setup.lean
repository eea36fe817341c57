-- what the law's start gives
theorem sx_arrP {args : Array Value} {s : State} {ty : FieldType} (h : (Cond.arrayClass ty).before args s = true) : ∃ cA : ClassId, s.vm.findClass ("[" ++ ty.toString) = some cA ∧ ArrOfT s cA ty := by
  have h1 : (Cond.arrayClass ty).value args s none s [] = some true := by
    simpa [Cond.before, Cond.holds] using h
  simp only [Cond.value] at h1
  obtain ⟨k, hk, h2⟩ := Option.map_eq_some_iff.mp h1
  obtain ⟨cA, hc, hk2⟩ := Option.bind_eq_some_iff.mp hk
  cases hkind : k.kind with
  | array comp ty2 =>
    rw [hkind] at h2
    have e : ty2 = ty := of_decide_eq_true h2
    subst e
    exact ⟨cA, hc, fun n z => ⟨fun k9 h9 => (by cases h9), k, hk2, comp, hkind⟩⟩
  | _ => rw [hkind] at h2; cases h2
theorem sx_arrO {args : Array Value} {s : State} {C : String} (h : (Cond.arrayOver (.object C)).before args s = true) : ∃ cA : ClassId, ArrOfT s cA (.object C) ∧ va_RA s cA (.object C) := by
  obtain ⟨comp, c, k, h1, h2, h3, h4, h5⟩ := Cond.arrayOver_spec h
  exact ⟨c, fun n z => ⟨fun k9 h9 => (by cases h9), k, h3, comp, h4⟩, k, comp, h3, h4, h1, h5⟩
theorem sx_arrA {args : Array Value} {s : State} (h : (Cond.arrayOver (.array .int)).before args s = true) : ∃ cA : ClassId, ArrOfT s cA (.array .int) ∧ va_RA s cA (.array .int) := by
  have h1 : (Cond.arrayOver (.array .int)).value args s none s [] = some true := by
    simpa [Cond.before, Cond.holds] using h
  simp only [Cond.value] at h1
  obtain ⟨comp, hc, h2⟩ := Option.bind_eq_some_iff.mp h1
  obtain ⟨c, hi, h3⟩ := Option.bind_eq_some_iff.mp h2
  obtain ⟨k, hk, h4⟩ := Option.map_eq_some_iff.mp h3
  cases hkind : k.kind with
  | array comp2 ty2 =>
    rw [hkind] at h4
    simp only [Bool.and_eq_true] at h4
    have e : ty2 = .array .int := of_decide_eq_true h4.1
    subst e
    have h5 : s.vm.findClass ("[" ++ (FieldType.array .int).toString) = some c := of_decide_eq_true h4.2
    exact ⟨c, fun n z => ⟨fun k9 h9 => (by cases h9), k, hk, comp2, hkind⟩, h5⟩
  | _ => rw [hkind] at h4; cases h4
theorem sx_w_aoG : Cond.arrayOver (.object "PeasDrum$Gallery") ∈ lw_tbl := sx_memp (i := 106) (by decide +kernel)
theorem sx_w_aoS : Cond.arrayOver (.object "PeasDrum$Sheet") ∈ lw_tbl := sx_memp (i := 241) (by decide +kernel)
theorem sx_w_aoA : Cond.arrayOver (.array .int) ∈ lw_tbl := sx_memp (i := 201) (by decide +kernel)
set_option maxRecDepth 20000 in
theorem sx_stat0 {args : Array Value} {s : State} {h0 : Nat} (hts : ∀ w ∈ lw_tbl, w.before args s = true) (hs : ∀ c ∈ flatC (Jvm.Cond.and given_1 narrow_1), c.before args s = true) (hA : ∀ a : Nat, a < s.heap.size → ¬ sx_A h0 a) : ∃ t : Nat, va_Z "PeasDrum$Sound" "CARRIES" "[I" (.ref t) (sx_A h0) s s.heap ∧ va_T .int t 4 (fun j => .int ((sx_st none 0).getD j 0)) (sx_A h0) s s.heap := by
  obtain ⟨t, h1, h2⟩ := va_Tof (tm := .static "PeasDrum$Sound" "CARRIES" "[I") (ty := .int) (N := 4) (f := fun j => .int ((sx_st none 0).getD j 0)) (by decide) (hs _ (List.mem_of_getElem? (i := 5) (by decide +kernel))) (va_eqt (z := Int32.ofNat 4) (hs _ (List.mem_of_getElem? (i := 6) (by decide +kernel)))) (fun j hj => va_eqt (hs _ (va_run (N := 4) (p := 7) (f := fun j => Cond.eq (.elem (.static "PeasDrum$Sound" "CARRIES" "[I") (.int (Int32.ofNat j))) (.int ((sx_st none 0).getD j 0))) (by decide +kernel) j hj))) hA
  exact ⟨t, va_Zref (hts _ (sx_memp (i := 342) (by decide +kernel))) (hts _ (sx_memp (i := 78) (by decide +kernel))) h1 hA, h2⟩
set_option maxRecDepth 20000 in
theorem sx_stat1 {args : Array Value} {s : State} {h0 : Nat} (hts : ∀ w ∈ lw_tbl, w.before args s = true) (hs : ∀ c ∈ flatC (Jvm.Cond.and given_1 narrow_1), c.before args s = true) (hA : ∀ a : Nat, a < s.heap.size → ¬ sx_A h0 a) : ∃ t : Nat, va_Z "PeasDrum$Kinds" "ABOVE" "[I" (.ref t) (sx_A h0) s s.heap ∧ va_T .int t 6 (fun j => .int ((sx_st none 1).getD j 0)) (sx_A h0) s s.heap := by
  obtain ⟨t, h1, h2⟩ := va_Tof (tm := .static "PeasDrum$Kinds" "ABOVE" "[I") (ty := .int) (N := 6) (f := fun j => .int ((sx_st none 1).getD j 0)) (by decide) (hs _ (List.mem_of_getElem? (i := 12) (by decide +kernel))) (va_eqt (z := Int32.ofNat 6) (hs _ (List.mem_of_getElem? (i := 13) (by decide +kernel)))) (fun j hj => va_eqt (hs _ (va_run (N := 6) (p := 14) (f := fun j => Cond.eq (.elem (.static "PeasDrum$Kinds" "ABOVE" "[I") (.int (Int32.ofNat j))) (.int ((sx_st none 1).getD j 0))) (by decide +kernel) j hj))) hA
  exact ⟨t, va_Zref (hts _ (sx_memp (i := 401) (by decide +kernel))) (hts _ (sx_memp (i := 83) (by decide +kernel))) h1 hA, h2⟩
set_option maxRecDepth 20000 in
theorem sx_stat2 {args : Array Value} {s : State} {h0 : Nat} (hts : ∀ w ∈ lw_tbl, w.before args s = true) (hs : ∀ c ∈ flatC (Jvm.Cond.and given_1 narrow_1), c.before args s = true) (hA : ∀ a : Nat, a < s.heap.size → ¬ sx_A h0 a) : ∃ t : Nat, va_Z "PeasDrum$Kinds" "TIMES" "[I" (.ref t) (sx_A h0) s s.heap ∧ va_T .int t 24 (fun j => .int ((sx_st none 2).getD j 0)) (sx_A h0) s s.heap := by
  obtain ⟨t, h1, h2⟩ := va_Tof (tm := .static "PeasDrum$Kinds" "TIMES" "[I") (ty := .int) (N := 24) (f := fun j => .int ((sx_st none 2).getD j 0)) (by decide) (hs _ (List.mem_of_getElem? (i := 21) (by decide +kernel))) (va_eqt (z := Int32.ofNat 24) (hs _ (List.mem_of_getElem? (i := 22) (by decide +kernel)))) (fun j hj => va_eqt (hs _ (va_run (N := 24) (p := 23) (f := fun j => Cond.eq (.elem (.static "PeasDrum$Kinds" "TIMES" "[I") (.int (Int32.ofNat j))) (.int ((sx_st none 2).getD j 0))) (by decide +kernel) j hj))) hA
  exact ⟨t, va_Zref (hts _ (sx_memp (i := 417) (by decide +kernel))) (hts _ (sx_memp (i := 83) (by decide +kernel))) h1 hA, h2⟩
set_option maxRecDepth 20000 in
theorem sx_stat3 {args : Array Value} {s : State} {h0 : Nat} (hts : ∀ w ∈ lw_tbl, w.before args s = true) (hs : ∀ c ∈ flatC (Jvm.Cond.and given_1 narrow_1), c.before args s = true) (hA : ∀ a : Nat, a < s.heap.size → ¬ sx_A h0 a) : ∃ t : Nat, va_Z "PeasDrum$Kinds" "LOUDS" "[I" (.ref t) (sx_A h0) s s.heap ∧ va_T .int t 24 (fun j => .int ((sx_st none 3).getD j 0)) (sx_A h0) s s.heap := by
  obtain ⟨t, h1, h2⟩ := va_Tof (tm := .static "PeasDrum$Kinds" "LOUDS" "[I") (ty := .int) (N := 24) (f := fun j => .int ((sx_st none 3).getD j 0)) (by decide) (hs _ (List.mem_of_getElem? (i := 48) (by decide +kernel))) (va_eqt (z := Int32.ofNat 24) (hs _ (List.mem_of_getElem? (i := 49) (by decide +kernel)))) (fun j hj => va_eqt (hs _ (va_run (N := 24) (p := 50) (f := fun j => Cond.eq (.elem (.static "PeasDrum$Kinds" "LOUDS" "[I") (.int (Int32.ofNat j))) (.int ((sx_st none 3).getD j 0))) (by decide +kernel) j hj))) hA
  exact ⟨t, va_Zref (hts _ (sx_memp (i := 426) (by decide +kernel))) (hts _ (sx_memp (i := 83) (by decide +kernel))) h1 hA, h2⟩
theorem sx_nests : ∀ o, ∀ q ∈ sx_mn o, Cond.methodLinkNest (sx_cn.getD o "") q.1 (sx_M q.2.1).1 "PeasDrum" ∈ lw_tbl := by
  intro o q hq
  by_cases ho : o < 12
  · have h1 := List.all_eq_true.mp (sx_all sx_nok ho) _ hq
    rw [Bool.and_eq_true] at h1
    exact sx_memp h1.2
  · have e : sx_mn o = [] := by
      unfold sx_mn
      split
      · omega
      · omega
      · rfl
    rw [e] at hq
    cases hq
theorem sx_setup {args : Array Value} {s : State} {b L : Nat} {xs : Nat → Int32} (hL : L < 2 ^ 31) (hts : ∀ w ∈ lw_tbl, w.before args s = true) (hs : ∀ c ∈ flatC (Jvm.Cond.and given_1 narrow_1), c.before args s = true) (hX : va_X b L xs s s.heap) (hb : b < s.heap.size) : ∃ (D : va_G) (dA : Nat → ClassId) (sa : Nat → Nat), sx_G D dA s.heap.size sa (some ((List.range L).map xs)) s s.heap ∧ sa 4 = b := by
  have hA : ∀ a : Nat, a < s.heap.size → ¬ sx_A s.heap.size a := fun a h => Nat.not_le.mpr h
  have htw : ∀ w ∈ sx_tw, w.before args s = true := fun w h => hts w (sx_twg w h).1
  obtain ⟨c0, iS0, hK0⟩ := u_known (C := "PeasDrum") (T := sx_T0) (N := 12) (n := 12) htw sx_c0.1 (htw _ sx_c0.2.2.2.1)
  obtain ⟨c1, iS1, hK1⟩ := u_known (C := "PeasDrum$Camp") (T := sx_T1) (N := 11) (n := 11) htw sx_c1.1 (htw _ sx_c1.2.2.2.1)
  obtain ⟨c2, iS2, hK2⟩ := u_known (C := "PeasDrum$Gallery") (T := sx_T2) (N := 6) (n := 6) htw sx_c2.1 (htw _ sx_c2.2.2.2.1)
  obtain ⟨c3, iS3, hK3⟩ := u_known (C := "PeasDrum$Sound") (T := sx_T3) (N := 3) (n := 3) htw sx_c3.1 (htw _ sx_c3.2.2.2.1)
  obtain ⟨c4, iS4, hK4⟩ := u_known (C := "PeasDrum$Text") (T := sx_T4) (N := 6) (n := 6) htw sx_c4.1 (htw _ sx_c4.2.2.2.1)
  obtain ⟨c5, iS5, hK5⟩ := u_known (C := "PeasDrum$Sheet") (T := sx_T5) (N := 3) (n := 3) htw sx_c5.1 (htw _ sx_c5.2.2.2.1)
  obtain ⟨c6, iS6, hK6⟩ := u_known (C := "PeasDrumModel") (T := sx_T6) (N := 19) (n := 19) htw sx_c6.1 (htw _ sx_c6.2.2.2.1)
  obtain ⟨aI, fI, hI⟩ := sx_arrP (htw _ sx_w_acI)
  obtain ⟨aZ, fZ, hZ⟩ := sx_arrP (htw _ sx_w_acZ)
  obtain ⟨aB, fB, hB⟩ := sx_arrP (htw _ sx_w_acB)
  obtain ⟨aJ, fJ, hJ⟩ := sx_arrP (htw _ sx_w_acJ)
  obtain ⟨aG, hG1, hG2⟩ := sx_arrO (hts _ sx_w_aoG)
  obtain ⟨aS, hS1, hS2⟩ := sx_arrO (hts _ sx_w_aoS)
  obtain ⟨aA, hA1, hA2⟩ := sx_arrA (hts _ sx_w_aoA)
  obtain ⟨t0, z0, y0⟩ := sx_stat0 hts hs hA
  obtain ⟨t1, z1, y1⟩ := sx_stat1 hts hs hA
  obtain ⟨t2, z2, y2⟩ := sx_stat2 hts hs hA
  obtain ⟨t3, z3, y3⟩ := sx_stat3 hts hs hA
  obtain ⟨adK, adV, hTX⟩ := sx_texts hts hs hA
  refine ⟨(fun k => match k with | 0 => c0 | 1 => c1 | 2 => c2 | 3 => c3 | 4 => c4 | 5 => c5 | _ => c6, fun k => match k with | 0 => iS0 | 1 => iS1 | 2 => iS2 | 3 => iS3 | 4 => iS4 | 5 => iS5 | _ => iS6), fun k => match k with | 0 => aI | 1 => aZ | 2 => aB | 3 => aJ | 4 => aG | 5 => aS | _ => aA, sx_sa t0 t1 t2 t3 b adK adV, ⟨⟨?_, ?_⟩, ?_, ?_, hts _ sx_w_aoG, hts _ sx_w_aoS, hts _ sx_w_aoA, fun o q hq => va_Nw.of rfl (hts _ (sx_nests o q hq)), hTX _ sx_sa_t⟩, rfl⟩
  · intro k q hq
    match k, hq with
    | 0, hq => cases hq; exact hK0
    | 1, hq => cases hq; exact hK1
    | 2, hq => cases hq; exact hK2
    | 3, hq => cases hq; exact hK3
    | 4, hq => cases hq; exact hK4
    | 5, hq => cases hq; exact hK5
    | 6, hq => cases hq; exact hK6
    | k + 7, hq => simp [sx_cl] at hq
  · intro k q hq
    match k, hq with
    | 0, hq => cases hq; exact ⟨hI, fI⟩
    | 1, hq => cases hq; exact ⟨hZ, fZ⟩
    | 2, hq => cases hq; exact ⟨hB, fB⟩
    | 3, hq => cases hq; exact ⟨hJ, fJ⟩
    | 4, hq => cases hq; exact ⟨hG1, hG2⟩
    | 5, hq => cases hq; exact ⟨hS1, hS2⟩
    | 6, hq => cases hq; exact ⟨hA1, hA2⟩
    | k + 7, hq => simp [sx_tys] at hq
  · intro k hk
    match k, hk with
    | 0, _ => exact z0
    | 1, _ => exact z1
    | 2, _ => exact z2
    | 3, _ => exact z3
    | k + 4, hk => omega
  · intro k hk
    match k, hk with
    | 0, _ => exact y0
    | 1, _ => exact y1
    | 2, _ => exact y2
    | 3, _ => exact y3
    | 4, _ =>
      obtain ⟨scr, h1, h2, h3, h4, h5⟩ := hX
      have e1 : (sx_st (some ((List.range L).map xs)) 4).length = L := by
        show ((List.range L).map xs).length = L
        rw [List.length_map, List.length_range]
      refine ⟨scr, h1, h2, h3, by rw [e1, h4]; exact Nat.le_refl _, by rw [e1, h4], fun j hj => ?_, hA b hb⟩
      rw [e1] at hj
      rw [h5 j hj]
      show some (Value.int (xs j)) = some (.int (((List.range L).map xs).getD j 0))
      rw [List.getD_eq_getElem?_getD, List.getElem?_map, List.getElem?_range hj]
      rfl
    | k + 5, hk => omega
