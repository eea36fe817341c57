-- String.charAt over the texts
abbrev sx_yA : MethodName := ⟨"java/lang/String", "charAt", "(I)C"⟩
abbrev sx_yI : MethodName := ⟨"java/lang/String", "isLatin1", "()Z"⟩
abbrev sx_yB : MethodName := ⟨"java/lang/StringLatin1", "charAt", "([BI)C"⟩
abbrev sx_yK : MethodName := ⟨"java/lang/String", "checkIndex", "(II)V"⟩
abbrev sx_yP : MethodName := ⟨"jdk/internal/util/Preconditions", "checkIndex", "(IILjava/util/function/BiFunction;)I"⟩
noncomputable def sx_WA : List Cond := .code sx_yA prog_13_method_56_code 2 (some .char) :: sx_tw
noncomputable def sx_WI : List Cond := .code sx_yI prog_13_method_154_code 1 (some .boolean) :: sx_tw
noncomputable def sx_WB : List Cond := .code sx_yB prog_14_method_2_code 2 (some .char) :: sx_tw
noncomputable def sx_WK : List Cond := .code sx_yK prog_13_method_155_code 2 none :: sx_tw
noncomputable def sx_WP : List Cond := .code sx_yP prog_17_method_11_code 3 (some .int) :: sx_tw
theorem sx_s_cA : Cond.code sx_yA prog_13_method_56_code 2 (some .char) ∈ sx_tw := sx_twm (sx_memp (i := 717) (by decide +kernel)) rfl
theorem sx_s_cI : Cond.code sx_yI prog_13_method_154_code 1 (some .boolean) ∈ sx_tw := sx_twm (sx_memp (i := 721) (by decide +kernel)) rfl
theorem sx_s_cB : Cond.code sx_yB prog_14_method_2_code 2 (some .char) ∈ sx_tw := sx_twm (sx_memp (i := 724) (by decide +kernel)) rfl
theorem sx_s_cK : Cond.code sx_yK prog_13_method_155_code 2 none ∈ sx_tw := sx_twm (sx_memp (i := 727) (by decide +kernel)) rfl
theorem sx_s_cP : Cond.code sx_yP prog_17_method_11_code 3 (some .int) ∈ sx_tw := sx_twm (sx_memp (i := 732) (by decide +kernel)) rfl
theorem sx_s_iA : Cond.instanceMethod sx_yA ∈ sx_tw := sx_twm (sx_memp (i := 715) (by decide +kernel)) rfl
theorem sx_s_iI : Cond.instanceMethod sx_yI ∈ sx_tw := sx_twm (sx_memp (i := 719) (by decide +kernel)) rfl
theorem sx_s_sA : Cond.selects "java/lang/String" sx_yA sx_yA ∈ sx_tw := sx_twm (sx_memp (i := 716) (by decide +kernel)) rfl
theorem sx_s_sI : Cond.selects "java/lang/String" sx_yI sx_yI ∈ sx_tw := sx_twm (sx_memp (i := 720) (by decide +kernel)) rfl
theorem sx_s_tB : Cond.static sx_yB ∈ sx_tw := sx_twm (sx_memp (i := 723) (by decide +kernel)) rfl
theorem sx_s_tK : Cond.static sx_yK ∈ sx_tw := sx_twm (sx_memp (i := 726) (by decide +kernel)) rfl
theorem sx_s_tP : Cond.static sx_yP ∈ sx_tw := sx_twm (sx_memp (i := 731) (by decide +kernel)) rfl
theorem sx_s_initB : Cond.initialized "java/lang/StringLatin1" ∈ sx_tw := sx_twm (sx_memp (i := 88) (by decide +kernel)) rfl
theorem sx_s_initP : Cond.initialized "jdk/internal/util/Preconditions" ∈ sx_tw := sx_twm (sx_memp (i := 89) (by decide +kernel)) rfl
theorem sx_s_lI : Cond.methodLink "java/lang/String" 492 sx_yI ∈ sx_tw := sx_twm (sx_memp (i := 718) (by decide +kernel)) rfl
theorem sx_s_lB : Cond.methodLink "java/lang/String" 495 sx_yB ∈ sx_tw := sx_twm (sx_memp (i := 722) (by decide +kernel)) rfl
theorem sx_s_lK : Cond.methodLink "java/lang/StringLatin1" 9 sx_yK ∈ sx_tw := sx_twm (sx_memp (i := 725) (by decide +kernel)) rfl
theorem sx_s_lP : Cond.methodLink "java/lang/String" 1059 sx_yP ∈ sx_tw := sx_twm (sx_memp (i := 730) (by decide +kernel)) rfl
theorem sx_s_fF : Cond.fieldLink "java/lang/String" 1053 "jdk/internal/util/Preconditions" "SIOOBE_FORMATTER" "Ljava/util/function/BiFunction;" ∈ sx_tw := sx_twm (sx_memp (i := 728) (by decide +kernel)) rfl
theorem sx_d_A0 : decode prog_13_method_56_code 0 = .ok (.aload_n 0, 1) := by decide +kernel
theorem sx_d_A1 : decode prog_13_method_56_code 1 = .ok (.invokevirtual 492, 3) := by decide +kernel
theorem sx_d_A4 : decode prog_13_method_56_code 4 = .ok (.ifCond .eq 12, 3) := by decide +kernel
theorem sx_d_A7 : decode prog_13_method_56_code 7 = .ok (.aload_n 0, 1) := by decide +kernel
theorem sx_d_A8 : decode prog_13_method_56_code 8 = .ok (.getfield 9, 3) := by decide +kernel
theorem sx_d_A11 : decode prog_13_method_56_code 11 = .ok (.iload_n 1, 1) := by decide +kernel
theorem sx_d_A12 : decode prog_13_method_56_code 12 = .ok (.invokestatic 495, 3) := by decide +kernel
theorem sx_d_A15 : decode prog_13_method_56_code 15 = .ok (.ireturn, 1) := by decide +kernel
theorem sx_d_I0 : decode prog_13_method_154_code 0 = .ok (.getstatic 38, 3) := by decide +kernel
theorem sx_d_I3 : decode prog_13_method_154_code 3 = .ok (.ifCond .eq 14, 3) := by decide +kernel
theorem sx_d_I6 : decode prog_13_method_154_code 6 = .ok (.aload_n 0, 1) := by decide +kernel
theorem sx_d_I7 : decode prog_13_method_154_code 7 = .ok (.getfield 15, 3) := by decide +kernel
theorem sx_d_I10 : decode prog_13_method_154_code 10 = .ok (.ifCond .ne 7, 3) := by decide +kernel
theorem sx_d_I13 : decode prog_13_method_154_code 13 = .ok (.iconst 1, 1) := by decide +kernel
theorem sx_d_I14 : decode prog_13_method_154_code 14 = .ok (.goto 4, 3) := by decide +kernel
theorem sx_d_I18 : decode prog_13_method_154_code 18 = .ok (.ireturn, 1) := by decide +kernel
theorem sx_d_B0 : decode prog_14_method_2_code 0 = .ok (.iload_n 1, 1) := by decide +kernel
theorem sx_d_B1 : decode prog_14_method_2_code 1 = .ok (.aload_n 0, 1) := by decide +kernel
theorem sx_d_B2 : decode prog_14_method_2_code 2 = .ok (.arraylength, 1) := by decide +kernel
theorem sx_d_B3 : decode prog_14_method_2_code 3 = .ok (.invokestatic 9, 3) := by decide +kernel
theorem sx_d_B6 : decode prog_14_method_2_code 6 = .ok (.aload_n 0, 1) := by decide +kernel
theorem sx_d_B7 : decode prog_14_method_2_code 7 = .ok (.iload_n 1, 1) := by decide +kernel
theorem sx_d_B8 : decode prog_14_method_2_code 8 = .ok (.baload, 1) := by decide +kernel
theorem sx_d_B9 : decode prog_14_method_2_code 9 = .ok (.sipush 255, 3) := by decide +kernel
theorem sx_d_B12 : decode prog_14_method_2_code 12 = .ok (.iand, 1) := by decide +kernel
theorem sx_d_B13 : decode prog_14_method_2_code 13 = .ok (.i2c, 1) := by decide +kernel
theorem sx_d_B14 : decode prog_14_method_2_code 14 = .ok (.ireturn, 1) := by decide +kernel
theorem sx_d_K0 : decode prog_13_method_155_code 0 = .ok (.iload_n 0, 1) := by decide +kernel
theorem sx_d_K1 : decode prog_13_method_155_code 1 = .ok (.iload_n 1, 1) := by decide +kernel
theorem sx_d_K2 : decode prog_13_method_155_code 2 = .ok (.getstatic 1053, 3) := by decide +kernel
theorem sx_d_K5 : decode prog_13_method_155_code 5 = .ok (.invokestatic 1059, 3) := by decide +kernel
theorem sx_d_K8 : decode prog_13_method_155_code 8 = .ok (.pop, 1) := by decide +kernel
theorem sx_d_K9 : decode prog_13_method_155_code 9 = .ok (.return_, 1) := by decide +kernel
theorem sx_d_P0 : decode prog_17_method_11_code 0 = .ok (.iload_n 0, 1) := by decide +kernel
theorem sx_d_P1 : decode prog_17_method_11_code 1 = .ok (.ifCond .lt 8, 3) := by decide +kernel
theorem sx_d_P4 : decode prog_17_method_11_code 4 = .ok (.iload_n 0, 1) := by decide +kernel
theorem sx_d_P5 : decode prog_17_method_11_code 5 = .ok (.iload_n 1, 1) := by decide +kernel
theorem sx_d_P6 : decode prog_17_method_11_code 6 = .ok (.if_icmp .lt 10, 3) := by decide +kernel
theorem sx_d_P16 : decode prog_17_method_11_code 16 = .ok (.iload_n 0, 1) := by decide +kernel
theorem sx_d_P17 : decode prog_17_method_11_code 17 = .ok (.ireturn, 1) := by decide +kernel
/-- a start with its arguments as the machine has them -/
def sx_Pr (D : va_G) (dA : Nat → ClassId) (h0 : Nat) (sa : Nat → Nat) (xs : Option (List Int32)) (md : Bool) (as : List Value) (w : List sx_C) : Array Value → State → Prop := fun v U => v = as.toArray ∧ sx_G D dA h0 sa xs U U.heap ∧ sx_P D dA h0 sa md w U.heap ∧ h0 ≤ U.heap.size
theorem sx_blindR {D : va_G} {dA : Nat → ClassId} {h0 : Nat} {sa : Nat → Nat} {xs : Option (List Int32)} {md : Bool} {as : List Value} {w : List sx_C} : FrameBlind (sx_Pr D dA h0 sa xs md as w) := fun a U g mk q => ⟨q.1, sx_G.same (s := U) (U := U.calling g mk a) rfl q.2.1, q.2.2.1, q.2.2.2⟩
section SXT2
variable {l : Launch} {D : va_G} {dA : Nat → ClassId} {h0 : Nat} {sa : Nat → Nat} {xs : Option (List Int32)} {md : Bool} {w : List sx_C}
theorem sx_preR {s : State} {H : Heap} {locs : List Loc} {as : List Value} (hG : sx_G D dA h0 sa xs s s.heap) (hS : va_S (sx_A h0) s.heap H locs) (hP : sx_P D dA h0 sa md w H) (hh : h0 ≤ s.heap.size) : PreS s H (sx_Pr D dA h0 sa xs md as w) as :=
  ⟨sx_blindR, fun U hU hW => by
    have h := (sx_pre (D := D) (dA := dA) (h0 := h0) (sa := sa) (md := md) (w := w) (as := []) hG hS hP hh).2 U hU hW
    exact ⟨rfl, h.2⟩⟩
theorem sx_metP {i n : Int32} {x : Value} (hx1 : x = .null ∨ ∃ t : Nat, x = .ref t) (h1 : ¬ i < 0) (h2 : i < n) : Met l sx_yP sx_WP (sx_rmS 1 20) (sx_Pr D dA h0 sa xs md [.int i, .int n, x] w) (sx_Qc D dA h0 sa md (some (.int i)) w) 0 0 (sx_A h0) := by
  refine va_MetF (cc := prog_17_method_11_code) (maxL := 3) (ret := some .int) (by decide) rfl ?_
  intro p e s m args below meth c s₁ B hml hv
  obtain ⟨rfl, hG, hP, hh⟩ := hv
  have hx := B.exec
  have hb := B.bytes
  have hr := B.returns
  have hlocks := B.notSynchronized
  have hlen : (lg_sl [.int i, .int n, x]).length ≤ 3 := by
    rcases hx1 with rfl | ⟨t, rfl⟩ <;> exact Nat.le_refl _
  have hl := lv_entry ([.int i, .int n, x]) (n := 3) hlen
  show W p l e _ s m _ below meth c s.heap [] 0 0 _ (entryFrame m ([.int i, .int n, x] : List Value).toArray 3)
  rw [lg_entry_eq]
  generalize (lg_sl ([.int i, .int n, x]) ++ List.replicate (3 - (lg_sl ([.int i, .int n, x])).length) Slot.unset).toArray = lsA at hl ⊢
  have hl0 : lsA[0]? = some (.val (.int i)) := hl.2.2 _ List.mem_cons_self
  have hl1 : lsA[1]? = some (.val (.int n)) := hl.2.2 _ (List.mem_cons_of_mem _ List.mem_cons_self)
  have hS : va_S (sx_A h0) s.heap s.heap [] := va_S.rf
  refine lv_iload_n hx hb sx_d_P0 rfl hl0 ?_
  refine lv_if_lt hx hb sx_d_P1 (tgt := 9) rfl (fun h => absurd h h1) (fun _ => ?_)
  refine lv_iload_n hx hb sx_d_P4 rfl hl0 ?_
  refine lv_iload_n hx hb sx_d_P5 rfl hl1 ?_
  refine lv_icmp_lt hx hb sx_d_P6 (tgt := 16) rfl (fun _ => ?_) (fun h => absurd h2 h)
  refine lv_iload_n hx hb sx_d_P16 rfl hl0 ?_
  exact W.iret hx hb hr (fun t ht hW => ⟨rfl, by rw [ht]; exact hP, hS.F ht⟩) hS.2.2 sx_d_P17
theorem sx_metK {i n : Int32} (h1 : ¬ i < 0) (h2 : i < n) : Met l sx_yK sx_WK (sx_rmS 2 42) (sx_Pr D dA h0 sa xs md [.int i, .int n] w) (sx_Qc D dA h0 sa md none w) 0 0 (sx_A h0) := by
  refine va_MetF (cc := prog_13_method_155_code) (maxL := 2) (ret := none) (by decide) rfl ?_
  intro p e s m args below meth c s₁ B hml hv
  obtain ⟨rfl, hG, hP, hh⟩ := hv
  have hx := B.exec
  have hb := B.bytes
  have hr := B.returns
  have hlocks := B.notSynchronized
  have hts0 := atoms_spec (ws := sx_WK) B.pre
  have hts : ∀ w9 ∈ sx_tw, w9.before _ s = true := fun w9 h9 => hts0 w9 (List.mem_cons_of_mem _ h9)
  have hown : s.vm.findClass "java/lang/String" = some m.cls := findClass_of_methodNamed B.named
  have hl := lv_entry ([.int i, .int n]) (n := 2) (Nat.le_refl _)
  show W p l e _ s m _ below meth c s.heap [] 0 0 _ (entryFrame m ([.int i, .int n] : List Value).toArray 2)
  rw [lg_entry_eq]
  generalize (lg_sl ([.int i, .int n]) ++ List.replicate (2 - (lg_sl ([.int i, .int n])).length) Slot.unset).toArray = lsA at hl ⊢
  have hl0 : lsA[0]? = some (.val (.int i)) := hl.2.2 _ List.mem_cons_self
  have hl1 : lsA[1]? = some (.val (.int n)) := hl.2.2 _ (List.mem_cons_of_mem _ List.mem_cons_self)
  obtain ⟨x, hx1, hZ⟩ : ∃ x : Value, (x = .null ∨ ∃ t : Nat, x = .ref t) ∧ va_Z "jdk/internal/util/Preconditions" "SIOOBE_FORMATTER" "Ljava/util/function/BiFunction;" x (sx_A h0) s s.heap := by
    rcases hG.2.2.2.2.2.2.2.2.2.2 with h | ⟨t, h⟩
    · exact ⟨_, Or.inl rfl, h⟩
    · exact ⟨_, Or.inr ⟨t, rfl⟩, h⟩
  refine lv_iload_n hx hb sx_d_K0 rfl hl0 ?_
  refine lv_iload_n hx hb sx_d_K1 rfl hl1 ?_
  refine va_gets hx hb (v := x) hZ va_S.rf hown (hts _ sx_s_fF) (fun _ h9 => h9) sx_d_K2 ?_
  have hG2 : GoodIn sx_tw (va_wsS "java/lang/String" 1059 sx_yP sx_WP) := by
    intro w9 hw
    unfold va_wsS at hw
    rcases List.mem_append.mp hw with hw | hw
    · simp only [List.mem_cons, List.mem_singleton, List.not_mem_nil, or_false] at hw
      rcases hw with rfl | rfl | rfl
      · exact sx_goodI sx_s_lP
      · exact sx_goodI sx_s_tP
      · exact sx_goodI sx_s_initP
    · exact sx_goodC sx_s_cP w9 hw
  refine sx_after (D := D) (dA := dA) (h0 := h0) (sa := sa) (md := md) (r := some (.int i)) (w2 := w) (rest := []) (va_runS (Ts := sx_tw) (ws := sx_WP) (bytes := prog_17_method_11_code) (maxL := 3) (ret := some .int) (n := 3) (nL := 2) (As := [.int i, .int n, x]) (rest := []) ⟨hx, hb, hml, hown, hts⟩ (sx_metP (xs := xs) (w := w) hx1 h1 h2) (va_cwS 3 hts hG2 rfl rfl rfl ⟨by decide, by decide, by decide +kernel⟩ ⟨by decide, by decide⟩) (sx_preR hG va_S.rf hP hh) rfl rfl hl.1 rfl (lv_room (show 0 ≤ 8 by decide)) sx_d_K5 ⟨Nat.le_refl _, Nat.le_refl _⟩) va_S.rf ?_
  intro H1 locs1 hP1 hS1
  refine lv_pop hx hb sx_d_K8 rfl ?_
  exact W.vret hx hb hr (fun t ht hW => ⟨rfl, by rw [ht]; exact hP1, hS1.F ht⟩) hS1.2.2 sx_d_K9
theorem sx_chr : ∀ k, k < 20 → ∀ j, j < sx_sn.getD k 0 → ((((sx_sb.getD k []).getD j 0) &&& 255).toUInt32 % 65536).toInt32 = (sx_sb.getD k []).getD j 0 ∧ narrow .char (.int ((sx_sb.getD k []).getD j 0)) = .int ((sx_sb.getD k []).getD j 0) := by decide +kernel
theorem sx_snlt : ∀ k, k < 20 → sx_sn.getD k 0 < 2 ^ 31 := by decide +kernel
theorem sx_metB {k : Nat} {i : Int32} (hk : k < 20) (hi : sx_in i (sx_sn.getD k 0) = true) : Met l sx_yB sx_WB (sx_rmS 3 63) (sx_Pr D dA h0 sa xs md [.ref (sa (200 + k)), .int i] w) (sx_Qc D dA h0 sa md (some (.int ((sx_sb.getD k []).getD i.toNatClampNeg 0))) w) 0 0 (sx_A h0) := by
  refine va_MetF (cc := prog_14_method_2_code) (maxL := 2) (ret := some .char) (by decide) rfl ?_
  intro p e s m args below meth c s₁ B hml hv
  obtain ⟨rfl, hG, hP, hh⟩ := hv
  have hx := B.exec
  have hb := B.bytes
  have hr := B.returns
  have hlocks := B.notSynchronized
  have hts0 := atoms_spec (ws := sx_WB) B.pre
  have hts : ∀ w9 ∈ sx_tw, w9.before _ s = true := fun w9 h9 => hts0 w9 (List.mem_cons_of_mem _ h9)
  have hown : s.vm.findClass "java/lang/StringLatin1" = some m.cls := findClass_of_methodNamed B.named
  have hT := hG.2.2.2.2.2.2.2
  have hS0 := hT.2.1 k hk
  have hlt := sx_in_lt hi
  have hn31 : sx_sn.getD k 0 < 2 ^ 31 := sx_snlt k hk
  have hi0 : ¬ i < 0 := by
    intro z
    unfold sx_in at hi
    rw [decide_eq_true z] at hi
    cases hi
  obtain ⟨j, hj, rfl⟩ := nI_of hi0
  rw [nI_clamp hj] at hlt
  have hl := lv_entry ([.ref (sa (200 + k)), .int (nI j)]) (n := 2) (Nat.le_refl _)
  show W p l e _ s m _ below meth c s.heap [] 0 0 _ (entryFrame m ([.ref (sa (200 + k)), .int (nI j)] : List Value).toArray 2)
  rw [lg_entry_eq]
  generalize (lg_sl ([.ref (sa (200 + k)), .int (nI j)]) ++ List.replicate (2 - (lg_sl ([.ref (sa (200 + k)), .int (nI j)])).length) Slot.unset).toArray = lsA at hl ⊢
  have hl0 : lsA[0]? = some (.val (.ref (sa (200 + k)))) := hl.2.2 _ List.mem_cons_self
  have hl1 : lsA[1]? = some (.val (.int (nI j))) := hl.2.2 _ (List.mem_cons_of_mem _ List.mem_cons_self)
  refine lv_iload_n hx hb sx_d_B0 rfl hl1 ?_
  refine lv_aload_n hx hb sx_d_B1 rfl hl0 ?_
  refine va_tlen hx hb hS0.2.2.2 va_S.rf (v := nI (sx_sn.getD k 0)) rfl sx_d_B2 ?_
  have hG2 : GoodIn sx_tw (va_wsS "java/lang/StringLatin1" 9 sx_yK sx_WK) := by
    intro w9 hw
    unfold va_wsS at hw
    rcases List.mem_append.mp hw with hw | hw
    · simp only [List.mem_cons, List.mem_singleton, List.not_mem_nil, or_false] at hw
      rcases hw with rfl | rfl | rfl
      · exact sx_goodI sx_s_lK
      · exact sx_goodI sx_s_tK
      · exact sx_goodI sx_s_init
    · exact sx_goodC sx_s_cK w9 hw
  refine sx_after (D := D) (dA := dA) (h0 := h0) (sa := sa) (md := md) (r := none) (w2 := w) (rest := []) (va_runS (Ts := sx_tw) (ws := sx_WK) (bytes := prog_13_method_155_code) (maxL := 2) (ret := none) (n := 2) (nL := 2) (As := [.int (nI j), .int (nI (sx_sn.getD k 0))]) (rest := []) ⟨hx, hb, hml, hown, hts⟩ (sx_metK (xs := xs) (w := w) hi0 (nI_lt hlt hn31)) (va_cwS 2 hts hG2 rfl rfl rfl ⟨by decide, by decide, by decide +kernel⟩ ⟨by decide, by decide⟩) (sx_preR hG va_S.rf hP hh) rfl rfl hl.1 rfl (lv_room (show 0 ≤ 8 by decide)) sx_d_B3 ⟨Nat.le_refl _, Nat.le_refl _⟩) va_S.rf ?_
  intro H1 locs1 hP1 hS1
  refine lv_aload_n hx hb sx_d_B6 rfl hl0 ?_
  refine lv_iload_n hx hb sx_d_B7 rfl hl1 ?_
  refine va_tb hx hb hS0.2.2.2 hS1 (sx_in_of hi) (v := .int ((sx_sb.getD k []).getD j 0)) (by rw [nI_clamp hj]) sx_d_B8 ?_
  refine lv_sipush hx hb sx_d_B9 (v := 255) rfl ?_
  refine lv_iand hx hb sx_d_B12 ?_
  refine lv_i2c hx hb sx_d_B13 (sx_chr k hk j hlt).1 ?_
  rw [nI_clamp hj]
  exact W.zret hx hb hr (sx_chr k hk j hlt).2 (fun t ht hW => ⟨rfl, by rw [ht]; exact hP1, hS1.F ht⟩) hS1.2.2 sx_d_B14
theorem sx_metI {k : UInt32} (hk : 100 ≤ k.toNat ∧ k.toNat < 120) : Met l sx_yI sx_WI (sx_rmS 1 20) (sx_Pc D dA h0 sa xs md [.float k] w) (sx_Qc D dA h0 sa md (some (.int 1)) w) 0 0 (sx_A h0) := by
  refine va_MetF (cc := prog_13_method_154_code) (maxL := 1) (ret := some .boolean) (by decide) rfl ?_
  intro p e s m args below meth c s₁ B hml hv
  obtain ⟨rfl, hG, hP, hh⟩ := hv
  have hx := B.exec
  have hb := B.bytes
  have hr := B.returns
  have hts0 := atoms_spec (ws := sx_WI) B.pre
  have hts : ∀ w9 ∈ sx_tw, w9.before _ s = true := fun w9 h9 => hts0 w9 (List.mem_cons_of_mem _ h9)
  have hown : s.vm.findClass "java/lang/String" = some m.cls := findClass_of_methodNamed B.named
  have hlocks := B.notSynchronized
  have hT := hG.2.2.2.2.2.2.2
  have hS0 := hT.2.1 (k.toNat - 100) (by omega)
  rw [show 100 + (k.toNat - 100) = k.toNat by omega] at hS0
  have hl := lv_entry ([.ref (sa k.toNat)]) (n := 1) (Nat.le_refl _)
  show W p l e _ s m _ below meth c s.heap [] 0 0 _ (entryFrame m ([Value.ref (sa k.toNat)] : List Value).toArray 1)
  rw [lg_entry_eq]
  generalize (lg_sl ([.ref (sa k.toNat)]) ++ List.replicate (1 - (lg_sl ([.ref (sa k.toNat)])).length) Slot.unset).toArray = lsA at hl ⊢
  have hl0 : lsA[0]? = some (.val (.ref (sa k.toNat))) := hl.2.2 _ List.mem_cons_self
  refine va_gets hx hb (v := .int 1) hT.2.2.1 va_S.rf hown (hts _ sx_s_fZ) (fun _ h9 => h9) sx_d_I0 ?_
  refine lv_if_eq hx hb sx_d_I3 (tgt := 17) rfl (fun h => absurd h (by decide)) (fun _ => ?_)
  refine lv_aload_n hx hb sx_d_I6 rfl hl0 ?_
  refine vk_getf hx hb hS0.2.1 va_S.rf hown (hts _ sx_s_fC) (fun _ h9 => h9) sx_d_I7 ?_
  refine lv_if_ne hx hb sx_d_I10 (tgt := 17) rfl (fun h => absurd rfl h) (fun _ => ?_)
  refine lv_iconst hx hb sx_d_I13 (v := 1) rfl ?_
  refine lv_goto hx hb sx_d_I14 (tgt := 18) rfl ?_
  have hS : va_S (sx_A h0) s.heap s.heap [] := va_S.rf
  exact W.zret hx hb hr rfl (fun t ht hW => ⟨rfl, by rw [ht]; exact hP, hS.F ht⟩) hS.2.2 sx_d_I18
theorem sx_metA {k : UInt32} {i : Int32} (hk : 100 ≤ k.toNat ∧ k.toNat < 120) (hi : sx_in i (sx_sn.getD (k.toNat - 100) 0) = true) : Met l sx_yA sx_WA (sx_rmS 4 84) (sx_Pc D dA h0 sa xs md [.float k, .int i] w) (sx_Qc D dA h0 sa md (some (.int ((sx_sb.getD (k.toNat - 100) []).getD i.toNatClampNeg 0))) w) 0 0 (sx_A h0) := by
  refine va_MetF (cc := prog_13_method_56_code) (maxL := 2) (ret := some .char) (by decide) rfl ?_
  intro p e s m args below meth c s₁ B hml hv
  obtain ⟨rfl, hG, hP, hh⟩ := hv
  have hx := B.exec
  have hb := B.bytes
  have hr := B.returns
  have hts0 := atoms_spec (ws := sx_WA) B.pre
  have hts : ∀ w9 ∈ sx_tw, w9.before _ s = true := fun w9 h9 => hts0 w9 (List.mem_cons_of_mem _ h9)
  have hown : s.vm.findClass "java/lang/String" = some m.cls := findClass_of_methodNamed B.named
  have hlocks := B.notSynchronized
  have hT := hG.2.2.2.2.2.2.2
  have hS0 := hT.2.1 (k.toNat - 100) (by omega)
  rw [show 100 + (k.toNat - 100) = k.toNat by omega] at hS0
  have hl := lv_entry ([.ref (sa k.toNat), .int i]) (n := 2) (Nat.le_refl _)
  show W p l e _ s m _ below meth c s.heap [] 0 0 _ (entryFrame m ([Value.ref (sa k.toNat), .int i] : List Value).toArray 2)
  rw [lg_entry_eq]
  generalize (lg_sl ([.ref (sa k.toNat), .int i]) ++ List.replicate (2 - (lg_sl ([.ref (sa k.toNat), .int i])).length) Slot.unset).toArray = lsA at hl ⊢
  have hl0 : lsA[0]? = some (.val (.ref (sa k.toNat))) := hl.2.2 _ List.mem_cons_self
  have hl1 : lsA[1]? = some (.val (.int i)) := hl.2.2 _ (List.mem_cons_of_mem _ List.mem_cons_self)
  refine lv_aload_n hx hb sx_d_A0 rfl hl0 ?_
  have hrec : ∃ cell : Cell, s.heap[sa k.toNat]? = some cell ∧ cell.vm.isStatics = false ∧ s.vm.findClass "java/lang/String" = some cell.cls := by
    obtain ⟨cell, h1, h2, h3, -⟩ := hS0.1
    exact ⟨cell, h1, h2, h3⟩
  have hpre := sx_pre (xs := xs) (md := md) (as := [.float k]) (w := w) hG va_S.rf hP hh
  have hG2 : GoodIn sx_tw (wsV "java/lang/String" 492 "java/lang/String" sx_yI sx_WI) := by
    intro w9 hw
    unfold wsV at hw
    rcases List.mem_append.mp hw with hw | hw
    · simp only [List.mem_cons, List.mem_singleton, List.not_mem_nil, or_false] at hw
      rcases hw with rfl | rfl | rfl | rfl
      · exact sx_goodI sx_s_lI
      · exact sx_goodI sx_s_iI
      · exact sx_goodI sx_s_sI
      · exact sx_goodI sx_s_init
    · exact sx_goodC sx_s_cI w9 hw
  refine sx_after (D := D) (dA := dA) (h0 := h0) (sa := sa) (md := md) (r := some (.int 1)) (w2 := w) (rest := []) (va_runV (Ts := sx_tw) (ws := sx_WI) (C := "java/lang/String") (bytes := prog_13_method_154_code) (maxL := 1) (ret := some .boolean) (n := 0) (nL := 2) (b := sa k.toNat) (As := []) (rest := []) ⟨hx, hb, hml, hown, hts⟩ (sx_metI (xs := xs) (w := w) hk) (cwV 0 hts hG2 rfl rfl rfl ⟨rfl, by decide, by decide, by decide⟩ ⟨by decide, by decide⟩) ⟨sx_blind, hrec, hpre.2⟩ rfl rfl hl.1 rfl (lv_room (show 0 ≤ 8 by decide)) sx_d_A1 ⟨Nat.le_refl _, Nat.le_refl _⟩) va_S.rf ?_
  intro H1 locs1 hP1 hS1
  refine lv_if_eq hx hb sx_d_A4 (tgt := 16) rfl (fun h => absurd h (by decide)) (fun _ => ?_)
  refine lv_aload_n hx hb sx_d_A7 rfl hl0 ?_
  refine vk_getf hx hb hS0.2.2.1 hS1 hown (hts _ sx_s_fV) (fun _ h9 => h9) sx_d_A8 ?_
  refine lv_iload_n hx hb sx_d_A11 rfl hl1 ?_
  have hG3 : GoodIn sx_tw (va_wsS "java/lang/String" 495 sx_yB sx_WB) := by
    intro w9 hw
    unfold va_wsS at hw
    rcases List.mem_append.mp hw with hw | hw
    · simp only [List.mem_cons, List.mem_singleton, List.not_mem_nil, or_false] at hw
      rcases hw with rfl | rfl | rfl
      · exact sx_goodI sx_s_lB
      · exact sx_goodI sx_s_tB
      · exact sx_goodI sx_s_initB
    · exact sx_goodC sx_s_cB w9 hw
  refine sx_after (D := D) (dA := dA) (h0 := h0) (sa := sa) (md := md) (r := some (.int ((sx_sb.getD (k.toNat - 100) []).getD i.toNatClampNeg 0))) (w2 := w) (rest := []) (va_runS (Ts := sx_tw) (ws := sx_WB) (bytes := prog_14_method_2_code) (maxL := 2) (ret := some .char) (n := 2) (nL := 2) (As := [.ref (sa (200 + (k.toNat - 100))), .int i]) (rest := []) ⟨hx, hb, hml, hown, hts⟩ (sx_metB (xs := xs) (w := w) (k := k.toNat - 100) (by omega) hi) (va_cwS 2 hts hG3 rfl rfl rfl ⟨by decide, by decide, by decide +kernel⟩ ⟨by decide, by decide⟩) (sx_preR hG hS1 hP1 hh) rfl rfl hl.1 rfl (lv_room (show 0 ≤ 8 by decide)) sx_d_A12 ⟨Nat.le_refl _, Nat.le_refl _⟩) hS1 ?_
  intro H2 locs2 hP2 hS2
  have hj := sx_in_lt hi
  exact W.zret hx hb hr (sx_chr _ (by omega) _ hj).2 (fun t ht hW => ⟨rfl, by rw [ht]; exact hP2, hS2.F ht⟩) hS2.2.2 sx_d_A15
end SXT2
theorem sx_smok : (List.range 12).all (fun o => (sx_sm o).all (fun e => decide (lw_tbl[e.2.2]? = some (.methodLink (sx_cn.getD o "") e.1 (cond (Nat.beq e.2.1 0) sx_yL sx_yA))))) = true := by decide +kernel
theorem sx_maxL21 : (List.range 247).all (fun mi => Nat.ble (sx_maxL mi) 21) = true := by decide +kernel
theorem sx_str_ok : sx_STR := by
  intro p l e R s m args below meth c Q D dA h0 sa md n0 z0 pc ls st w F xs mi d idx X hd hst h hR K
  obtain ⟨hx, hb, hml, hown, hts, hnm, hfr, hlo, hG, hh, hmi⟩ := X
  unfold sx_str at h
  split at h
  · rename_i pl k r hq
    cases hbt : (Nat.ble 100 k.toNat && Nat.blt k.toNat 120 && Nat.ble (r.map (fun v => v.category)).sum 8) with
    | false => rw [hbt] at h; cases h
    | true =>
      rw [hbt] at h
      cases h
      simp only [Bool.and_eq_true] at hbt
      have hk : 100 ≤ k.toNat ∧ k.toNat < 120 := ⟨Nat.le_of_ble_eq_true hbt.1.1, Nat.le_of_ble_eq_true hbt.1.2⟩
      have h8 := Nat.le_of_ble_eq_true hbt.2
      have h1 := List.all_eq_true.mp (sx_all sx_smok (sx_own_lt mi hmi)) _ (sx_lk_mem _ _ _ hq)
      have hst2 := hst (by show (sx_lk (sx_sm (sx_own mi)) idx).isSome = true; rw [hq]; rfl)
      have hlk := sx_twm (sx_memp h1) (rfl : goodWord (.methodLink (sx_cn.getD (sx_own mi) "") idx sx_yL) = true)
      have hT := hG.2.2.2.2.2.2.2
      have hS0 := hT.2.1 (k.toNat - 100) (by omega)
      rw [show 100 + (k.toNat - 100) = k.toNat by omega] at hS0
      have hm21 : (sx_M mi).2.2.1 ≤ 21 := Nat.le_of_ble_eq_true (sx_all sx_maxL21 hmi)
      intro H locs lsA hP hS hl g1 g2
      have hrec : ∃ cell : Cell, H[sa k.toNat]? = some cell ∧ cell.vm.isStatics = false ∧ s.vm.findClass "java/lang/String" = some cell.cls := by
        obtain ⟨cell, q1, q2, q3, -⟩ := hS0.1.kept hS.2.1
        exact ⟨cell, q1, q2, q3⟩
      have hpre := sx_pre (xs := xs) (md := md) (as := [.float k]) (w := w) hG hS hP hh
      have hG2 : GoodIn sx_tw (wsV (sx_cn.getD (sx_own mi) "") idx "java/lang/String" sx_yL sx_WL) := by
        intro w9 hw
        unfold wsV at hw
        rcases List.mem_append.mp hw with hw | hw
        · simp only [List.mem_cons, List.mem_singleton, List.not_mem_nil, or_false] at hw
          rcases hw with rfl | rfl | rfl | rfl
          · exact sx_goodI hlk
          · exact sx_goodI sx_s_iL
          · exact sx_goodI sx_s_sL
          · exact sx_goodI sx_s_init
        · exact sx_goodC sx_s_cL w9 hw
      refine sx_after (D := D) (dA := dA) (h0 := h0) (sa := sa) (md := md) (r := some (.int (nI (sx_sn.getD (k.toNat - 100) 0)))) (w2 := w) (rest := r.map (sx_v h0 sa)) (va_runV (Ts := sx_tw) (ws := sx_WL) (C := "java/lang/String") (bytes := prog_13_method_54_code) (maxL := 1) (ret := some .int) (n := 0) (nL := sx_maxL mi) (b := sa k.toNat) (As := []) (rest := r.map (sx_v h0 sa)) ⟨hx, hb, hml, hown, hts⟩ (sx_metL (xs := xs) (w := w) hk) (cwV 0 hts hG2 rfl rfl rfl ⟨rfl, by decide, by decide, by decide⟩ ⟨by show 2 + 1 ≤ R.frames; omega, by show 8 + (1 + 11) + 60 ≤ R.locals; omega⟩) ⟨sx_blind, hrec, hpre.2⟩ rfl rfl hl.1 rfl (lv_room (by rw [sx_cat_map]; exact h8)) hd hR) hS ?_
      intro H1 locs1 hP1 hS1
      exact K H1 locs1 lsA hP1 hS1 hl g1 g2
  · rename_i pl i k r hq
    cases hbt : (Nat.ble 100 k.toNat && Nat.blt k.toNat 120 && sx_in i (sx_sn.getD (k.toNat - 100) 0) && Nat.ble (r.map (fun v => v.category)).sum 8) with
    | false => rw [hbt] at h; cases h
    | true =>
      rw [hbt] at h
      cases h
      simp only [Bool.and_eq_true] at hbt
      have hk : 100 ≤ k.toNat ∧ k.toNat < 120 := ⟨Nat.le_of_ble_eq_true hbt.1.1.1, Nat.le_of_ble_eq_true hbt.1.1.2⟩
      have hin := hbt.1.2
      have h8 := Nat.le_of_ble_eq_true hbt.2
      have h1 := List.all_eq_true.mp (sx_all sx_smok (sx_own_lt mi hmi)) _ (sx_lk_mem _ _ _ hq)
      have hst2 := hst (by show (sx_lk (sx_sm (sx_own mi)) idx).isSome = true; rw [hq]; rfl)
      have hlk := sx_twm (sx_memp h1) (rfl : goodWord (.methodLink (sx_cn.getD (sx_own mi) "") idx sx_yA) = true)
      have hT := hG.2.2.2.2.2.2.2
      have hS0 := hT.2.1 (k.toNat - 100) (by omega)
      rw [show 100 + (k.toNat - 100) = k.toNat by omega] at hS0
      have hm21 : (sx_M mi).2.2.1 ≤ 21 := Nat.le_of_ble_eq_true (sx_all sx_maxL21 hmi)
      intro H locs lsA hP hS hl g1 g2
      have hrec : ∃ cell : Cell, H[sa k.toNat]? = some cell ∧ cell.vm.isStatics = false ∧ s.vm.findClass "java/lang/String" = some cell.cls := by
        obtain ⟨cell, q1, q2, q3, -⟩ := hS0.1.kept hS.2.1
        exact ⟨cell, q1, q2, q3⟩
      have hpre := sx_pre (xs := xs) (md := md) (as := [.float k, .int i]) (w := w) hG hS hP hh
      have hG2 : GoodIn sx_tw (wsV (sx_cn.getD (sx_own mi) "") idx "java/lang/String" sx_yA sx_WA) := by
        intro w9 hw
        unfold wsV at hw
        rcases List.mem_append.mp hw with hw | hw
        · simp only [List.mem_cons, List.mem_singleton, List.not_mem_nil, or_false] at hw
          rcases hw with rfl | rfl | rfl | rfl
          · exact sx_goodI hlk
          · exact sx_goodI sx_s_iA
          · exact sx_goodI sx_s_sA
          · exact sx_goodI sx_s_init
        · exact sx_goodC sx_s_cA w9 hw
      refine sx_after (D := D) (dA := dA) (h0 := h0) (sa := sa) (md := md) (r := some (.int ((sx_sb.getD (k.toNat - 100) []).getD i.toNatClampNeg 0))) (w2 := w) (rest := r.map (sx_v h0 sa)) (va_runV (Ts := sx_tw) (ws := sx_WA) (C := "java/lang/String") (bytes := prog_13_method_56_code) (maxL := 2) (ret := some .char) (n := 1) (nL := sx_maxL mi) (b := sa k.toNat) (As := [.int i]) (rest := r.map (sx_v h0 sa)) ⟨hx, hb, hml, hown, hts⟩ (sx_metA (xs := xs) (w := w) hk hin) (cwV 1 hts hG2 rfl rfl rfl ⟨rfl, by decide, by decide, by decide⟩ ⟨by show 4 + 1 ≤ R.frames; omega, by show 8 + (2 + 11) + 84 ≤ R.locals; omega⟩) ⟨sx_blind, hrec, hpre.2⟩ rfl rfl hl.1 rfl (lv_room (by rw [sx_cat_map]; exact h8)) hd hR) hS ?_
      intro H1 locs1 hP1 hS1
      exact K H1 locs1 lsA hP1 hS1 hl g1 g2
  · cases h
