-- String.length over the texts
abbrev sx_yL : MethodName := ⟨"java/lang/String", "length", "()I"⟩
abbrev sx_yC : MethodName := ⟨"java/lang/String", "coder", "()B"⟩
noncomputable def sx_WL : List Cond := .code sx_yL prog_13_method_54_code 1 (some .int) :: sx_tw
noncomputable def sx_WC : List Cond := .code sx_yC prog_13_method_152_code 1 (some .byte) :: sx_tw
def sx_rmS (f k : Nat) : Room := { frames := f, cells := 0, slots := 0, locals := k }
theorem sx_s_cL : Cond.code sx_yL prog_13_method_54_code 1 (some .int) ∈ sx_tw := sx_twm (sx_memp (i := 707) (by decide +kernel)) rfl
theorem sx_s_cC : Cond.code sx_yC prog_13_method_152_code 1 (some .byte) ∈ sx_tw := sx_twm (sx_memp (i := 711) (by decide +kernel)) rfl
theorem sx_s_iL : Cond.instanceMethod sx_yL ∈ sx_tw := sx_twm (sx_memp (i := 705) (by decide +kernel)) rfl
theorem sx_s_iC : Cond.instanceMethod sx_yC ∈ sx_tw := sx_twm (sx_memp (i := 709) (by decide +kernel)) rfl
theorem sx_s_sL : Cond.selects "java/lang/String" sx_yL sx_yL ∈ sx_tw := sx_twm (sx_memp (i := 706) (by decide +kernel)) rfl
theorem sx_s_sC : Cond.selects "java/lang/String" sx_yC sx_yC ∈ sx_tw := sx_twm (sx_memp (i := 710) (by decide +kernel)) rfl
theorem sx_s_init : Cond.initialized "java/lang/String" ∈ sx_tw := sx_twm (sx_memp (i := 87) (by decide +kernel)) rfl
theorem sx_s_lC : Cond.methodLink "java/lang/String" 335 sx_yC ∈ sx_tw := sx_twm (sx_memp (i := 708) (by decide +kernel)) rfl
theorem sx_s_fZ : Cond.fieldLink "java/lang/String" 38 "java/lang/String" "COMPACT_STRINGS" "Z" ∈ sx_tw := sx_twm (sx_memp (i := 712) (by decide +kernel)) rfl
theorem sx_s_fV : Cond.fieldLink "java/lang/String" 9 "java/lang/String" "value" "[B" ∈ sx_tw := sx_twm (sx_memp (i := 1419) (by decide +kernel)) rfl
theorem sx_s_fC : Cond.fieldLink "java/lang/String" 15 "java/lang/String" "coder" "B" ∈ sx_tw := sx_twm (sx_memp (i := 1420) (by decide +kernel)) rfl
theorem sx_d_L0 : decode prog_13_method_54_code 0 = .ok (.aload_n 0, 1) := by decide +kernel
theorem sx_d_L1 : decode prog_13_method_54_code 1 = .ok (.getfield 9, 3) := by decide +kernel
theorem sx_d_L4 : decode prog_13_method_54_code 4 = .ok (.arraylength, 1) := by decide +kernel
theorem sx_d_L5 : decode prog_13_method_54_code 5 = .ok (.aload_n 0, 1) := by decide +kernel
theorem sx_d_L6 : decode prog_13_method_54_code 6 = .ok (.invokevirtual 335, 3) := by decide +kernel
theorem sx_d_L9 : decode prog_13_method_54_code 9 = .ok (.ishr, 1) := by decide +kernel
theorem sx_d_L10 : decode prog_13_method_54_code 10 = .ok (.ireturn, 1) := by decide +kernel
theorem sx_d_C0 : decode prog_13_method_152_code 0 = .ok (.getstatic 38, 3) := by decide +kernel
theorem sx_d_C3 : decode prog_13_method_152_code 3 = .ok (.ifCond .eq 10, 3) := by decide +kernel
theorem sx_d_C6 : decode prog_13_method_152_code 6 = .ok (.aload_n 0, 1) := by decide +kernel
theorem sx_d_C7 : decode prog_13_method_152_code 7 = .ok (.getfield 15, 3) := by decide +kernel
theorem sx_d_C10 : decode prog_13_method_152_code 10 = .ok (.goto 4, 3) := by decide +kernel
theorem sx_d_C14 : decode prog_13_method_152_code 14 = .ok (.ireturn, 1) := by decide +kernel
theorem sx_goodC {y : MethodName} {cc : ByteArray} {n : Nat} {ret : Option FieldType} (h : Cond.code y cc n ret ∈ sx_tw) : GoodIn sx_tw (.code y cc n ret :: sx_tw) := by
  intro w2 hw
  rcases List.mem_cons.mp hw with rfl | hw
  · exact sx_goodI h
  · exact sx_goodI hw
section SXT
variable {l : Launch} {D : va_G} {dA : Nat → ClassId} {h0 : Nat} {sa : Nat → Nat} {xs : Option (List Int32)} {md : Bool} {w : List sx_C}
theorem sx_metC {k : UInt32} (hk : 100 ≤ k.toNat ∧ k.toNat < 120) : Met l sx_yC sx_WC (sx_rmS 1 20) (sx_Pc D dA h0 sa xs md [.float k] w) (sx_Qc D dA h0 sa md (some (.int 0)) w) 0 0 (sx_A h0) := by
  refine va_MetF (cc := prog_13_method_152_code) (maxL := 1) (ret := some .byte) (by decide) rfl ?_
  intro p e s m args below meth c s₁ B hml hv
  obtain ⟨rfl, hG, hP, hh⟩ := hv
  have hx := B.exec
  have hb := B.bytes
  have hr := B.returns
  have hts0 := atoms_spec (ws := sx_WC) B.pre
  have hts : ∀ w9 ∈ sx_tw, w9.before _ s = true := fun w9 h9 => hts0 w9 (List.mem_cons_of_mem _ h9)
  have hown : s.vm.findClass "java/lang/String" = some m.cls := findClass_of_methodNamed B.named
  have hlocks := B.notSynchronized
  have hT := hG.2.2.2.2.2.2.2
  have hS0 := hT.2.1 (k.toNat - 100) (by omega)
  rw [show 100 + (k.toNat - 100) = k.toNat by omega] at hS0
  have hl := lv_entry ([.ref (sa k.toNat)]) (n := 1) (Nat.le_refl _)
  show W p l e _ s m _ below meth c s.heap [] 0 0 _ (entryFrame m ([Value.ref (sa k.toNat)] : List Value).toArray 1)
  rw [lg_entry_eq]
  generalize (lg_sl ([.ref (sa k.toNat)]) ++ List.replicate (1 - (lg_sl ([.ref (sa k.toNat)])).length) Slot.unset).toArray = lsA at hl ⊢
  have hl0 : lsA[0]? = some (.val (.ref (sa k.toNat))) := hl.2.2 _ List.mem_cons_self
  refine va_gets hx hb (v := .int 1) hT.2.2.1 va_S.rf hown (hts _ sx_s_fZ) (fun _ h9 => h9) sx_d_C0 ?_
  refine lv_if_eq hx hb sx_d_C3 (tgt := 13) rfl (fun h => absurd h (by decide)) (fun _ => ?_)
  refine lv_aload_n hx hb sx_d_C6 rfl hl0 ?_
  refine vk_getf hx hb hS0.2.1 va_S.rf hown (hts _ sx_s_fC) (fun _ h9 => h9) sx_d_C7 ?_
  refine lv_goto hx hb sx_d_C10 (tgt := 14) rfl ?_
  have hS : va_S (sx_A h0) s.heap s.heap [] := va_S.rf
  exact W.zret hx hb hr rfl (fun t ht hW => ⟨rfl, by rw [ht]; exact hP, hS.F ht⟩) hS.2.2 sx_d_C14
theorem sx_shr0 : ∀ k, k < 20 → Int32.ofNat (sx_sn.getD k 0) >>> ((0 : Int32) &&& 31) = nI (sx_sn.getD k 0) := by decide +kernel
theorem sx_metL {k : UInt32} (hk : 100 ≤ k.toNat ∧ k.toNat < 120) : Met l sx_yL sx_WL (sx_rmS 2 60) (sx_Pc D dA h0 sa xs md [.float k] w) (sx_Qc D dA h0 sa md (some (.int (nI (sx_sn.getD (k.toNat - 100) 0)))) w) 0 0 (sx_A h0) := by
  refine va_MetF (cc := prog_13_method_54_code) (maxL := 1) (ret := some .int) (by decide) rfl ?_
  intro p e s m args below meth c s₁ B hml hv
  obtain ⟨rfl, hG, hP, hh⟩ := hv
  have hx := B.exec
  have hb := B.bytes
  have hr := B.returns
  have hts0 := atoms_spec (ws := sx_WL) B.pre
  have hts : ∀ w9 ∈ sx_tw, w9.before _ s = true := fun w9 h9 => hts0 w9 (List.mem_cons_of_mem _ h9)
  have hown : s.vm.findClass "java/lang/String" = some m.cls := findClass_of_methodNamed B.named
  have hlocks := B.notSynchronized
  have hT := hG.2.2.2.2.2.2.2
  have hS0 := hT.2.1 (k.toNat - 100) (by omega)
  rw [show 100 + (k.toNat - 100) = k.toNat by omega] at hS0
  have hl := lv_entry ([.ref (sa k.toNat)]) (n := 1) (Nat.le_refl _)
  show W p l e _ s m _ below meth c s.heap [] 0 0 _ (entryFrame m ([Value.ref (sa k.toNat)] : List Value).toArray 1)
  rw [lg_entry_eq]
  generalize (lg_sl ([.ref (sa k.toNat)]) ++ List.replicate (1 - (lg_sl ([.ref (sa k.toNat)])).length) Slot.unset).toArray = lsA at hl ⊢
  have hl0 : lsA[0]? = some (.val (.ref (sa k.toNat))) := hl.2.2 _ List.mem_cons_self
  refine lv_aload_n hx hb sx_d_L0 rfl hl0 ?_
  refine vk_getf hx hb hS0.2.2.1 va_S.rf hown (hts _ sx_s_fV) (fun _ h9 => h9) sx_d_L1 ?_
  refine va_tlen hx hb hS0.2.2.2 va_S.rf (v := Int32.ofNat (sx_sn.getD (k.toNat - 100) 0)) rfl sx_d_L4 ?_
  refine lv_aload_n hx hb sx_d_L5 rfl hl0 ?_
  have hrec : ∃ cell : Cell, s.heap[sa k.toNat]? = some cell ∧ cell.vm.isStatics = false ∧ s.vm.findClass "java/lang/String" = some cell.cls := by
    obtain ⟨cell, h1, h2, h3, -⟩ := hS0.1
    exact ⟨cell, h1, h2, h3⟩
  have hpre := sx_pre (xs := xs) (md := md) (as := [.float k]) (w := w) hG va_S.rf hP hh
  have hG2 : GoodIn sx_tw (wsV "java/lang/String" 335 "java/lang/String" sx_yC sx_WC) := by
    intro w9 hw
    unfold wsV at hw
    rcases List.mem_append.mp hw with hw | hw
    · simp only [List.mem_cons, List.mem_singleton, List.not_mem_nil, or_false] at hw
      rcases hw with rfl | rfl | rfl | rfl
      · exact sx_goodI sx_s_lC
      · exact sx_goodI sx_s_iC
      · exact sx_goodI sx_s_sC
      · exact sx_goodI sx_s_init
    · exact sx_goodC sx_s_cC w9 hw
  refine sx_after (D := D) (dA := dA) (h0 := h0) (sa := sa) (md := md) (r := some (.int 0)) (w2 := w) (rest := [.int (Int32.ofNat (sx_sn.getD (k.toNat - 100) 0))]) (va_runV (Ts := sx_tw) (ws := sx_WC) (C := "java/lang/String") (bytes := prog_13_method_152_code) (maxL := 1) (ret := some .byte) (n := 0) (nL := 1) (b := sa k.toNat) (As := []) (rest := [.int (Int32.ofNat (sx_sn.getD (k.toNat - 100) 0))]) ⟨hx, hb, hml, hown, hts⟩ (sx_metC (xs := xs) (w := w) hk) (cwV 0 hts hG2 rfl rfl rfl ⟨rfl, by decide, by decide, by decide⟩ ⟨by decide, by decide⟩) ⟨sx_blind, hrec, hpre.2⟩ rfl rfl hl.1 rfl (lv_room (show 1 + 0 ≤ 8 by decide)) sx_d_L6 ⟨Nat.le_refl _, Nat.le_refl _⟩) va_S.rf ?_
  intro H1 locs1 hP1 hS1
  refine lv_ishr hx hb sx_d_L9 ?_
  rw [sx_shr0 _ (by omega)]
  exact W.iret hx hb hr (fun t ht hW => ⟨rfl, by rw [ht]; exact hP1, hS1.F ht⟩) hS1.2.2 sx_d_L10
end SXT
