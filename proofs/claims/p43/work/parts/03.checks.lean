theorem sx_all {f : Nat → Bool} {n : Nat} (h : (List.range n).all f = true) {o : Nat} (ho : o < n) : f o = true := List.all_eq_true.mp h o (List.mem_range.mpr ho)
theorem sx_memp {i : Nat} {w : Cond} (h : decide (lw_tbl[i]? = some w) = true) : w ∈ lw_tbl := List.mem_of_getElem? (of_decide_eq_true h)
noncomputable def sx_dr (k : Nat) : List Cond := Nat.rec lw_tbl (fun _ l => l.drop 32) k
noncomputable def sx_at (i : Nat) : Option Cond := (sx_dr (i / 32))[i % 32]?
theorem sx_dr_eq : ∀ k, sx_dr k = lw_tbl.drop (32 * k)
  | 0 => rfl
  | k + 1 => by
    show (sx_dr k).drop 32 = _
    rw [sx_dr_eq k, List.drop_drop]
    rfl
theorem sx_atf : sx_at = fun i => lw_tbl[i]? := by
  funext i
  unfold sx_at
  rw [sx_dr_eq, List.getElem?_drop, Nat.div_add_mod]
theorem sx_Tq (P : (Nat → Option Cond) → Bool) (h : P sx_at = true) : P (fun i => lw_tbl[i]?) = true := by
  rw [← sx_atf]; exact h
theorem sx_own_lt : ∀ mi, mi < 247 → sx_own mi < 12 := by decide +kernel
noncomputable def sx_fchk (o : Nat) (e : Nat × (Nat × Nat × Nat)) : Bool := match sx_cl[e.2.1]? with
  | some q => Nat.blt e.2.2.1 q.2.2 && decide (lw_tbl[e.2.2.2]? = some (.fieldLink (sx_cn.getD o "") e.1 (q.2.1 e.2.2.1).1 (q.2.1 e.2.2.1).2.1 (q.2.1 e.2.2.1).2.2.1))
  | none => false
noncomputable def sx_fchkT (T : Nat → Option Cond) (o : Nat) (e : Nat × (Nat × Nat × Nat)) : Bool := match sx_cl[e.2.1]? with
  | some q => Nat.blt e.2.2.1 q.2.2 && decide (T (e.2.2.2) = some (.fieldLink (sx_cn.getD o "") e.1 (q.2.1 e.2.2.1).1 (q.2.1 e.2.2.1).2.1 (q.2.1 e.2.2.1).2.2.1))
  | none => false
theorem sx_fok : (List.range 12).all (fun o => (sx_fl o).all (sx_fchk o)) = true := sx_Tq (fun T => (List.range 12).all (fun o => (sx_fl o).all ((sx_fchkT T) o))) (by decide +kernel)
theorem sx_sok : (List.range 12).all (fun o => (sx_sl o).all (fun e => decide (lw_tbl[e.2.2]? = some (.fieldLink (sx_cn.getD o "") e.1 (sx_SC e.2.1).1 (sx_SC e.2.1).2 "[I")))) = true := sx_Tq (fun T => (List.range 12).all (fun o => (sx_sl o).all (fun e => decide (T (e.2.2) = some (.fieldLink (sx_cn.getD o "") e.1 (sx_SC e.2.1).1 (sx_SC e.2.1).2 "[I"))))) (by decide +kernel)
theorem sx_mok : (List.range 12).all (fun o => (sx_ml o).all (fun e => Nat.blt e.2.1 246 && decide (lw_tbl[e.2.2]? = some (.methodLink (sx_cn.getD o "") e.1 (sx_M e.2.1).1)))) = true := sx_Tq (fun T => (List.range 12).all (fun o => (sx_ml o).all (fun e => Nat.blt e.2.1 246 && decide (T (e.2.2) = some (.methodLink (sx_cn.getD o "") e.1 (sx_M e.2.1).1))))) (by decide +kernel)
theorem sx_nok : (List.range 12).all (fun o => (sx_mn o).all (fun e => Nat.blt e.2.1 246 && decide (lw_tbl[e.2.2]? = some (.methodLinkNest (sx_cn.getD o "") e.1 (sx_M e.2.1).1 "PeasDrum")))) = true := sx_Tq (fun T => (List.range 12).all (fun o => (sx_mn o).all (fun e => Nat.blt e.2.1 246 && decide (T (e.2.2) = some (.methodLinkNest (sx_cn.getD o "") e.1 (sx_M e.2.1).1 "PeasDrum"))))) (by decide +kernel)
theorem sx_oiok : (List.range 12).all (fun o => (sx_oi o).all (fun e => decide (lw_tbl[e.2]? = some (.methodLink (sx_cn.getD o "") e.1 objectInit)))) = true := sx_Tq (fun T => (List.range 12).all (fun o => (sx_oi o).all (fun e => decide (T (e.2) = some (.methodLink (sx_cn.getD o "") e.1 objectInit))))) (by decide +kernel)
theorem sx_aok : (List.range 12).all (fun o => (sx_ac o).all (fun e => decide (lw_tbl[e.2]? = some (.methodLink (sx_cn.getD o "") e.1 arraycopyName)))) = true := sx_Tq (fun T => (List.range 12).all (fun o => (sx_ac o).all (fun e => decide (T (e.2) = some (.methodLink (sx_cn.getD o "") e.1 arraycopyName))))) (by decide +kernel)
noncomputable def sx_kchk (o : Nat) (e : Nat × (Nat × Nat)) : Bool := match sx_cl[e.2.1]? with
  | some q => decide (lw_tbl[e.2.2]? = some (.classLink (sx_cn.getD o "") e.1 q.1))
  | none => false
noncomputable def sx_kchkT (T : Nat → Option Cond) (o : Nat) (e : Nat × (Nat × Nat)) : Bool := match sx_cl[e.2.1]? with
  | some q => decide (T (e.2.2) = some (.classLink (sx_cn.getD o "") e.1 q.1))
  | none => false
theorem sx_kok : (List.range 12).all (fun o => (sx_kl o).all (sx_kchk o)) = true := sx_Tq (fun T => (List.range 12).all (fun o => (sx_kl o).all ((sx_kchkT T) o))) (by decide +kernel)
theorem sx_kIok : (List.range 12).all (fun o => (sx_kI o).all (fun e => decide (lw_tbl[e.2.2]? = some (.constant (sx_cn.getD o "") e.1 e.2.1)))) = true := sx_Tq (fun T => (List.range 12).all (fun o => (sx_kI o).all (fun e => decide (T (e.2.2) = some (.constant (sx_cn.getD o "") e.1 e.2.1))))) (by decide +kernel)
theorem sx_kJok : (List.range 12).all (fun o => (sx_kJ o).all (fun e => decide (lw_tbl[e.2.2]? = some (.constantLong (sx_cn.getD o "") e.1 e.2.1)))) = true := sx_Tq (fun T => (List.range 12).all (fun o => (sx_kJ o).all (fun e => decide (T (e.2.2) = some (.constantLong (sx_cn.getD o "") e.1 e.2.1))))) (by decide +kernel)
noncomputable def sx_mchk1 (mi : Nat) : Bool := decide (lw_tbl[(sx_pl mi).1]? = some (.code (sx_M mi).1 (sx_M mi).2.1 (sx_M mi).2.2.1 (sx_M mi).2.2.2.1))
noncomputable def sx_mchk2 (mi : Nat) : Bool := decide (lw_tbl[(sx_pl mi).2.2.2]? = some (.initialized (sx_M mi).1.cls)) && (decide ((sx_M mi).1.cls = sx_cn.getD (sx_own mi) "") && Nat.ble (sx_maxL mi) 21)
noncomputable def sx_mchk2T (T : Nat → Option Cond) (mi : Nat) : Bool := decide (T ((sx_pl mi).2.2.2) = some (.initialized (sx_M mi).1.cls)) && (decide ((sx_M mi).1.cls = sx_cn.getD (sx_own mi) "") && Nat.ble (sx_maxL mi) 21)
noncomputable def sx_mchk3 (mi : Nat) : Bool := decide ((parseMethodDescriptor (sx_M mi).1.desc).map (fun d => d.parameters.length) = some (sx_nar mi))
noncomputable def sx_mchk4 (mi : Nat) : Bool := decide ((sx_M mi).1.cls ≠ "java/lang/invoke/MethodHandle" ∧ (sx_M mi).1.cls ≠ "java/lang/invoke/VarHandle") && plainFor (sx_M mi).1
noncomputable def sx_vchk (mi : Nat) : Bool := match sx_kd mi with
  | 0 => decide (lw_tbl[(sx_pl mi).2.1]? = some (.static (sx_M mi).1))
  | 1 => decide (lw_tbl[(sx_pl mi).2.1]? = some (.instanceMethod (sx_M mi).1)) && (decide (lw_tbl[(sx_pl mi).2.2.1]? = some (.selects (sx_M mi).1.cls (sx_M mi).1 (sx_M mi).1)) && Nat.blt (sx_own mi) 7)
  | _ => decide (lw_tbl[(sx_pl mi).2.1]? = some (.instanceMethod (sx_M mi).1)) && (decide ((sx_M mi).1.name = "<init>") && decide ((sx_M mi).2.2.2.1 = none))
noncomputable def sx_vchkT (T : Nat → Option Cond) (mi : Nat) : Bool := match sx_kd mi with
  | 0 => decide (T ((sx_pl mi).2.1) = some (.static (sx_M mi).1))
  | 1 => decide (T ((sx_pl mi).2.1) = some (.instanceMethod (sx_M mi).1)) && (decide (T ((sx_pl mi).2.2.1) = some (.selects (sx_M mi).1.cls (sx_M mi).1 (sx_M mi).1)) && Nat.blt (sx_own mi) 7)
  | _ => decide (T ((sx_pl mi).2.1) = some (.instanceMethod (sx_M mi).1)) && (decide ((sx_M mi).1.name = "<init>") && decide ((sx_M mi).2.2.2.1 = none))
theorem sx_mc2 : (List.range 246).all sx_mchk2 = true := sx_Tq (fun T => (List.range 246).all (sx_mchk2T T)) (by decide +kernel)
theorem sx_mc3 : (List.range 246).all sx_mchk3 = true := by decide +kernel
theorem sx_mc4 : (List.range 246).all sx_mchk4 = true := by decide +kernel
theorem sx_vcok : (List.range 246).all sx_vchk = true := sx_Tq (fun T => (List.range 246).all (sx_vchkT T)) (by decide +kernel)
noncomputable def sx_tw : List Cond := lw_tbl.filter goodWord
theorem sx_twm {w : Cond} (h : w ∈ lw_tbl) (hg : goodWord w = true) : w ∈ sx_tw := List.mem_filter.mpr ⟨h, hg⟩
theorem sx_twg : ∀ w ∈ sx_tw, w ∈ lw_tbl ∧ ((w.onTables && w.keeps) = true ∨ ∃ ty, w = .arrayClass ty) := fun w h => ⟨(List.mem_filter.mp h).1, good_of_word (List.mem_filter.mp h).2⟩
theorem sx_ws0 : ∀ w ∈ u_ws "PeasDrum" sx_T0 12, w ∈ sx_tw := fun w h => sx_twm ((by decide +kernel : ∀ w ∈ u_ws "PeasDrum" sx_T0 12, w ∈ lw_tbl) w h) ((by decide +kernel : ∀ w ∈ u_ws "PeasDrum" sx_T0 12, goodWord w = true) w h)
theorem sx_ws1 : ∀ w ∈ u_ws "PeasDrum$Camp" sx_T1 11, w ∈ sx_tw := fun w h => sx_twm ((by decide +kernel : ∀ w ∈ u_ws "PeasDrum$Camp" sx_T1 11, w ∈ lw_tbl) w h) ((by decide +kernel : ∀ w ∈ u_ws "PeasDrum$Camp" sx_T1 11, goodWord w = true) w h)
theorem sx_ws2 : ∀ w ∈ u_ws "PeasDrum$Gallery" sx_T2 6, w ∈ sx_tw := fun w h => sx_twm ((by decide +kernel : ∀ w ∈ u_ws "PeasDrum$Gallery" sx_T2 6, w ∈ lw_tbl) w h) ((by decide +kernel : ∀ w ∈ u_ws "PeasDrum$Gallery" sx_T2 6, goodWord w = true) w h)
theorem sx_ws3 : ∀ w ∈ u_ws "PeasDrum$Sound" sx_T3 3, w ∈ sx_tw := fun w h => sx_twm ((by decide +kernel : ∀ w ∈ u_ws "PeasDrum$Sound" sx_T3 3, w ∈ lw_tbl) w h) ((by decide +kernel : ∀ w ∈ u_ws "PeasDrum$Sound" sx_T3 3, goodWord w = true) w h)
theorem sx_ws4 : ∀ w ∈ u_ws "PeasDrum$Text" sx_T4 6, w ∈ sx_tw := fun w h => sx_twm ((by decide +kernel : ∀ w ∈ u_ws "PeasDrum$Text" sx_T4 6, w ∈ lw_tbl) w h) ((by decide +kernel : ∀ w ∈ u_ws "PeasDrum$Text" sx_T4 6, goodWord w = true) w h)
theorem sx_ws5 : ∀ w ∈ u_ws "PeasDrum$Sheet" sx_T5 3, w ∈ sx_tw := fun w h => sx_twm ((by decide +kernel : ∀ w ∈ u_ws "PeasDrum$Sheet" sx_T5 3, w ∈ lw_tbl) w h) ((by decide +kernel : ∀ w ∈ u_ws "PeasDrum$Sheet" sx_T5 3, goodWord w = true) w h)
theorem sx_ws6 : ∀ w ∈ u_ws "PeasDrumModel" sx_T6 19, w ∈ sx_tw := fun w h => sx_twm ((by decide +kernel : ∀ w ∈ u_ws "PeasDrumModel" sx_T6 19, w ∈ lw_tbl) w h) ((by decide +kernel : ∀ w ∈ u_ws "PeasDrumModel" sx_T6 19, goodWord w = true) w h)
