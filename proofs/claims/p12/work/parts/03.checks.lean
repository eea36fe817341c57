-- what the tables say, by places
theorem sx_all {f : Nat → Bool} {n : Nat} (h : (List.range n).all f = true) {o : Nat} (ho : o < n) : f o = true := List.all_eq_true.mp h o (List.mem_range.mpr ho)
theorem sx_memp {i : Nat} {w : Cond} (h : decide (lw_tbl[i]? = some w) = true) : w ∈ lw_tbl := List.mem_of_getElem? (of_decide_eq_true h)
theorem sx_own_lt : ∀ mi, mi < 247 → sx_own mi < 12 := by decide +kernel
noncomputable def sx_fchk (o : Nat) (e : Nat × (Nat × Nat × Nat)) : Bool := match sx_cl[e.2.1]? with
  | some q => Nat.blt e.2.2.1 q.2.2 && decide (lw_tbl[e.2.2.2]? = some (.fieldLink (sx_cn.getD o "") e.1 (q.2.1 e.2.2.1).1 (q.2.1 e.2.2.1).2.1 (q.2.1 e.2.2.1).2.2.1))
  | none => false
theorem sx_fok : (List.range 12).all (fun o => (sx_fl o).all (sx_fchk o)) = true := by decide +kernel
theorem sx_sok : (List.range 12).all (fun o => (sx_sl o).all (fun e => decide (lw_tbl[e.2.2]? = some (.fieldLink (sx_cn.getD o "") e.1 (sx_SC e.2.1).1 (sx_SC e.2.1).2 "[I")))) = true := by decide +kernel
theorem sx_mok : (List.range 12).all (fun o => (sx_ml o).all (fun e => Nat.blt e.2.1 246 && decide (lw_tbl[e.2.2]? = some (.methodLink (sx_cn.getD o "") e.1 (sx_M e.2.1).1)))) = true := by decide +kernel
theorem sx_nok : (List.range 12).all (fun o => (sx_mn o).all (fun e => Nat.blt e.2.1 246 && decide (lw_tbl[e.2.2]? = some (.methodLinkNest (sx_cn.getD o "") e.1 (sx_M e.2.1).1 "PeasDrum")))) = true := by decide +kernel
theorem sx_oiok : (List.range 12).all (fun o => (sx_oi o).all (fun e => decide (lw_tbl[e.2]? = some (.methodLink (sx_cn.getD o "") e.1 objectInit)))) = true := by decide +kernel
theorem sx_aok : (List.range 12).all (fun o => (sx_ac o).all (fun e => decide (lw_tbl[e.2]? = some (.methodLink (sx_cn.getD o "") e.1 arraycopyName)))) = true := by decide +kernel
noncomputable def sx_kchk (o : Nat) (e : Nat × (Nat × Nat)) : Bool := match sx_cl[e.2.1]? with
  | some q => decide (lw_tbl[e.2.2]? = some (.classLink (sx_cn.getD o "") e.1 q.1))
  | none => false
theorem sx_kok : (List.range 12).all (fun o => (sx_kl o).all (sx_kchk o)) = true := by decide +kernel
theorem sx_kIok : (List.range 12).all (fun o => (sx_kI o).all (fun e => decide (lw_tbl[e.2.2]? = some (.constant (sx_cn.getD o "") e.1 e.2.1)))) = true := by decide +kernel
theorem sx_kJok : (List.range 12).all (fun o => (sx_kJ o).all (fun e => decide (lw_tbl[e.2.2]? = some (.constantLong (sx_cn.getD o "") e.1 e.2.1)))) = true := by decide +kernel
noncomputable def sx_mchk1 (mi : Nat) : Bool := decide (lw_tbl[(sx_pl mi).1]? = some (.code (sx_M mi).1 (sx_M mi).2.1 (sx_M mi).2.2.1 (sx_M mi).2.2.2.1))
noncomputable def sx_mchk2 (mi : Nat) : Bool := decide (lw_tbl[(sx_pl mi).2.2.2]? = some (.initialized (sx_M mi).1.cls)) && (decide ((sx_M mi).1.cls = sx_cn.getD (sx_own mi) "") && Nat.ble (sx_maxL mi) 21)
noncomputable def sx_mchk3 (mi : Nat) : Bool := decide ((parseMethodDescriptor (sx_M mi).1.desc).map (fun d => d.parameters.length) = some (sx_nar mi))
noncomputable def sx_mchk4 (mi : Nat) : Bool := decide ((sx_M mi).1.cls ≠ "java/lang/invoke/MethodHandle" ∧ (sx_M mi).1.cls ≠ "java/lang/invoke/VarHandle") && plainFor (sx_M mi).1
noncomputable def sx_vchk (mi : Nat) : Bool := match sx_kd mi with
  | 0 => decide (lw_tbl[(sx_pl mi).2.1]? = some (.static (sx_M mi).1))
  | 1 => decide (lw_tbl[(sx_pl mi).2.1]? = some (.instanceMethod (sx_M mi).1)) && (decide (lw_tbl[(sx_pl mi).2.2.1]? = some (.selects (sx_M mi).1.cls (sx_M mi).1 (sx_M mi).1)) && Nat.blt (sx_own mi) 7)
  | _ => decide (lw_tbl[(sx_pl mi).2.1]? = some (.instanceMethod (sx_M mi).1)) && (decide ((sx_M mi).1.name = "<init>") && decide ((sx_M mi).2.2.2.1 = none))
theorem sx_mc2 : (List.range 246).all sx_mchk2 = true := by decide +kernel
theorem sx_mc3 : (List.range 246).all sx_mchk3 = true := by decide +kernel
theorem sx_mc4 : (List.range 246).all sx_mchk4 = true := by decide +kernel
theorem sx_vcok : (List.range 246).all sx_vchk = true := by decide +kernel
noncomputable def sx_tw : List Cond := lw_tbl.filter goodWord
theorem sx_twm {w : Cond} (h : w ∈ lw_tbl) (hg : goodWord w = true) : w ∈ sx_tw := List.mem_filter.mpr ⟨h, hg⟩
theorem sx_twg : ∀ w ∈ sx_tw, w ∈ lw_tbl ∧ ((w.onTables && w.keeps) = true ∨ ∃ ty, w = .arrayClass ty) := fun w h => ⟨(List.mem_filter.mp h).1, good_of_word (List.mem_filter.mp h).2⟩
theorem sx_ws0 : ∀ w ∈ u_ws "PeasDrum" sx_T0 12, w ∈ sx_tw := fun w h => sx_twm ((by decide +kernel : ∀ w ∈ u_ws "PeasDrum" sx_T0 12, w ∈ lw_tbl) w h) ((by decide +kernel : ∀ w ∈ u_ws "PeasDrum" sx_T0 12, goodWord w = true) w h)
theorem sx_ws1 : ∀ w ∈ u_ws "PeasDrum$Camp" sx_T1 11, w ∈ sx_tw := fun w h => sx_twm ((by decide +kernel : ∀ w ∈ u_ws "PeasDrum$Camp" sx_T1 11, w ∈ lw_tbl) w h) ((by decide +kernel : ∀ w ∈ u_ws "PeasDrum$Camp" sx_T1 11, goodWord w = true) w h)
theorem sx_ws2 : ∀ w ∈ u_ws "PeasDrum$Gallery" sx_T2 6, w ∈ sx_tw := fun w h => sx_twm ((by decide +kernel : ∀ w ∈ u_ws "PeasDrum$Gallery" sx_T2 6, w ∈ lw_tbl) w h) ((by decide +kernel : ∀ w ∈ u_ws "PeasDrum$Gallery" sx_T2 6, goodWord w = true) w h)
theorem sx_ws3 : ∀ w ∈ u_ws "PeasDrum$Sound" sx_T3 3, w ∈ sx_tw := fun w h => sx_twm ((by decide +kernel : ∀ w ∈ u_ws "PeasDrum$Sound" sx_T3 3, w ∈ lw_tbl) w h) ((by decide +kernel : ∀ w ∈ u_ws "PeasDrum$Sound" sx_T3 3, goodWord w = true) w h)
theorem sx_ws4 : ∀ w ∈ u_ws "PeasDrum$Text" sx_T4 6, w ∈ sx_tw := fun w h => sx_twm ((by decide +kernel : ∀ w ∈ u_ws "PeasDrum$Text" sx_T4 6, w ∈ lw_tbl) w h) ((by decide +kernel : ∀ w ∈ u_ws "PeasDrum$Text" sx_T4 6, goodWord w = true) w h)
theorem sx_ws5 : ∀ w ∈ u_ws "PeasDrum$Sheet" sx_T5 3, w ∈ sx_tw := fun w h => sx_twm ((by decide +kernel : ∀ w ∈ u_ws "PeasDrum$Sheet" sx_T5 3, w ∈ lw_tbl) w h) ((by decide +kernel : ∀ w ∈ u_ws "PeasDrum$Sheet" sx_T5 3, goodWord w = true) w h)
theorem sx_ws6 : ∀ w ∈ u_ws "PeasDrumModel" sx_T6 19, w ∈ sx_tw := fun w h => sx_twm ((by decide +kernel : ∀ w ∈ u_ws "PeasDrumModel" sx_T6 19, w ∈ lw_tbl) w h) ((by decide +kernel : ∀ w ∈ u_ws "PeasDrumModel" sx_T6 19, goodWord w = true) w h)
