/-! THE CLAIM OUT OF ONE WALK OF THE LAW'S BODY. Your part is whole_start (and what it stands on); all else here is the same for every law, but numbers. -/
def R_law : String := "PeasDrumLaw"
def lw_P (b : Addr) (xs : List Int32) (args : Array Value) (s : State) : Prop := args = #[.ref b] ∧ s.IntsAt b xs ∧ xs.length ≤ 3072 ∧ (Jvm.Cond.and given_1 narrow_1).before args s = true
def lw_Q (_ : Array Value) (s : State) (o : Outcome) (t : State) : Prop := o = .returned (some (.int 1)) ∧ Framed s o t [] 600000 7302250
def lw_Z (below : List Frame) (a : Array Value) (s : State) : State → Prop := fun t => ∃ o, t.status = .running ∧ Ended t below o ∧ lw_Q a s o t
/-- the law's own end, with 1 on the stack, nothing written that was there before, its room as the claim has it -/
theorem lw_ret {p : Program} {l : Launch} {e : Env} {s : State} {m : MethodId} {below : List Frame} {meth : Method} {c : Code} {b : Nat} (hx : p.tables.exec = Jvm.exec) (hb : c.code = code) (hr : meth.sig.returnType = ret) (hlocks : meth.locks = false) {pc : Nat} {H : Heap} {ls : Array Slot} (hdg : decode code pc = .ok (.ireturn, 1)) : W p l e room_1 s m #[Value.ref b] below meth c H [] 600000 7302250 (lw_Z below #[Value.ref b] s) (F0 m pc ls [.int 1]) := by
  intro T hT X
  obtain ⟨fs, hret, hrun, hended, hW, hframe⟩ := X.leave (v := some (.int 1)) (hlocks := hlocks) (fun h => by rw [hr] at h; cases h)
  have hmeth' : T.vm.method? m = some meth := X.method'
  refine ⟨T.setFrames fs, ?_, .returned (some (.int 1)), hrun, hended, rfl, ⟨_, rfl⟩, hW, hframe⟩
  jvm_step X.here [X.here.top, hx, hb, hdg, hmeth', hr, ret, narrow_b1]
  (try refine ⟨rfl, ?_⟩); (try refine ⟨rfl, ?_⟩)
  first | (intro acts; rw [hret _ acts rfl rfl rfl]) | rw [hret _ _ rfl rfl rfl]
  exact Steps.refl _
/-- what holds at the law's entry: the machine, the code, the tables' words (any of lw_tbl by 'hts w (by decide +kernel)'), the script of L ints xs at the cell b, what the Statement gives of the start (any of its parts by flat_of_before) -/
def lw_At (p : Program) (s : State) (m : MethodId) (meth : Method) (c : Code) (b L : Nat) (xs : Nat → Int32) : Prop :=
  p.tables.exec = Jvm.exec ∧ c.code = code ∧ meth.sig.returnType = ret ∧ c.maxLocals = 4 ∧ s.vm.findClass R_law = some m.cls ∧ (∀ w ∈ lw_tbl, w.before #[Value.ref b] s = true) ∧ va_X b L xs s s.heap ∧ b < s.heap.size ∧ meth.locks = false ∧ (Jvm.Cond.and given_1 narrow_1).before #[Value.ref b] s = true
-- the law's body out of a run of the pure machine from its loop on
def sx_l3 : sx_L := [(3, .int 0), (2, .ref 111), (1, .ref 0), (0, .float 4)]
def sx_LAW : Prop := ∀ ys : List Int32, ys.length ≤ 3072 → ∃ w2, sx_RU (some ys) 9 246 18 sx_l3 [] sx_w0 (some (.int 1)) w2
theorem sx_retlaw {i : Instr} {st : List Value} (h : sx_ret 246 i st = some (some (.int 1))) : i = .ireturn ∧ st = [.int 1] := by
  unfold sx_ret at h
  split at h
  · cases h
    exact ⟨rfl, rfl⟩
  · rename_i v he
    cases hb : (v == 0 || v == 1) with
    | false => rw [hb] at h; cases h
    | true =>
      rw [hb] at h
      cases h
      exact ⟨rfl, rfl⟩
  · cases h
  · cases h
  · cases h
  · cases h
  · cases h
  · cases h
set_option maxRecDepth 20000 in
set_option maxHeartbeats 4000000 in
theorem sx_start (hLaw : sx_LAW) {p : Program} {e : Env} {s : State} {m : MethodId} {below : List Frame} {meth : Method} {c : Code} (l : Launch) {b L : Nat} {xs : Nat → Int32} (hL : L ≤ 3072) (C0 : lw_At p s m meth c b L xs) : W p l e room_1 s m #[Value.ref b] below meth c s.heap [] 0 0 (lw_Z below #[Value.ref b] s) (entryFrame m ([Value.ref b] : List Value).toArray 4) := by
  obtain ⟨hx, hb, hr, hml, hown, hts, hX, hbl, hlocks, hgv⟩ := id C0
  have hs := flat_of_before _ hgv
  obtain ⟨D, dA, sa, hG, hsa⟩ := sx_setup (by omega) hts hs hX hbl
  generalize hys : (List.range L).map xs = ys at hG
  have hlen : ys.length ≤ 3072 := by rw [← hys, List.length_map, List.length_range]; exact hL
  obtain ⟨w2, f, hrun⟩ := hLaw ys hlen
  have hM : sx_MNA := ⟨@sx_mna_ok, @sx_str_ok⟩
  have htw : ∀ w ∈ sx_tw, w.before #[Value.ref b] s = true := fun w h => hts w (sx_twg w h).1
  have hm7 : (246 : Nat) < 247 := by decide
  have X : sx_Ctx p s m #[Value.ref b] meth c room_1 D dA s.heap.size sa (some ys) 246 8 := ⟨hx, hb, hml, hown, htw, fun h => absurd h (by decide), Nat.le_of_ble_eq_true rfl, Nat.le_of_ble_eq_true rfl, hG, Nat.le_refl _, hm7⟩
  have hCt := (sx_sound hM l D dA s.heap.size sa (some ys) true 2500).1
  have hCt2 := (sx_sound hM l D dA s.heap.size sa (some ys) true 500).1
  have hBf := (sx_sound hM l D dA s.heap.size sa (some ys) false f).2
  have K18f := hBf p e room_1 s m #[Value.ref b] below meth c (lw_Z below #[Value.ref b] s) 126 (sx_sz sx_w0) 9 246 18 sx_l3 [] sx_w0 (some (.int 1)) w2 X hrun ⟨Nat.le_of_ble_eq_true rfl, sx_w0_sz⟩ (by
    intro H locs lsA pc st i hd hret hP hS
    obtain ⟨rfl, rfl⟩ := sx_retlaw hret
    refine va_forget (fun q hq => hS.2.2 q hq) ?_
    refine W.widen (k := 600000) (n := 7302250) (Nat.le_of_ble_eq_true rfl) sx_w0_sz ?_
    exact lw_ret hx hb hr hlocks hd)
  have K18 : sx_J p l e room_1 s m #[Value.ref b] below meth c D dA s.heap.size sa true 0 0 (sx_maxL 246) (lw_Z below #[Value.ref b] s) (18, sx_l3, [], sx_w0) := by
    intro H locs lsA hP hS hl h1 h2
    have K1 := K18f H locs lsA ⟨hP.1, fun h => by cases h⟩ hS hl (by rw [sx_w0_len]; exact Nat.le_refl _) (Nat.le_refl _)
    have e1 : sx_ck true 0 sx_w0 = 126 := by unfold sx_ck; rw [cond_true, sx_w0_len]
    have e2 : sx_cs true 0 sx_w0 = sx_sz sx_w0 := by unfold sx_cs; rw [cond_true, Nat.sub_zero]
    show W p l e room_1 s m #[Value.ref b] below meth c H locs (sx_ck true 0 sx_w0) (sx_cs true 0 sx_w0) _ _
    rw [e1, e2]
    exact K1
  have hR0 : sx_ck true 0 sx_w0 ≤ room_1.cells ∧ sx_cs true 0 sx_w0 ≤ room_1.slots := ⟨by unfold sx_ck; rw [cond_true, sx_w0_len]; exact Nat.le_of_ble_eq_true rfl, by unfold sx_cs; rw [cond_true, Nat.sub_zero]; exact sx_w0_sz⟩
  have hRX : ∀ w : List sx_C, sx_ext w sx_w0 → sx_ck true 0 w ≤ room_1.cells ∧ sx_cs true 0 w ≤ room_1.slots := fun w hw => ⟨Nat.le_trans (sx_ck_le (fun _ => hw)) hR0.1, Nat.le_trans (sx_cs_le (fun _ => hw)) hR0.2⟩
  have x0 : sx_ext sx_w0 sx_w0 := sx_ext.rf _
  have r2 := sx_lift_run true ys _ _ _ _ _ _ _ _ _ sx_ctor2
  have r1 := sx_lift_run true ys _ _ _ _ _ _ _ _ _ sx_ctor1
  have x2 : sx_ext (sx_wX ++ [.inr (.inr (.inr (6, sx_df 6)))]) sx_w0 := sx_x_run true (some ys) _ _ _ _ _ _ _ _ _ r2
  have x1 : sx_ext sx_wX sx_w0 := sx_ext.app _ _
  have xA : sx_ext [.inr (.inr (.inr (0, sx_df 0)))] sx_wX := sx_x_run true (some ys) _ _ _ _ _ _ _ _ _ r1
  have K17 := sx_step_ok hM (i := .istore_n 3) (n := 1) (st := [.int 0]) (ls := [(2, .ref 111), (1, .ref 0), (0, .float 4)]) X (sx_decs hm7 (pc := 17) rfl) (fun hz => absurd (show false = true from hz) (by decide)) (by rfl) (hRX sx_w0 x0) K18
  have K16 := sx_step_ok hM (i := .iconst 0) (n := 1) (st := []) (ls := [(2, .ref 111), (1, .ref 0), (0, .float 4)]) X (sx_decs hm7 (pc := 16) rfl) (fun hz => absurd (show false = true from hz) (by decide)) (by rfl) (hRX sx_w0 x0) K17
  have K15 := sx_step_ok hM (i := .astore_n 2) (n := 1) (st := [.ref 111]) (ls := [(1, .ref 0), (0, .float 4)]) X (sx_decs hm7 (pc := 15) rfl) (fun hz => absurd (show false = true from hz) (by decide)) (by rfl) (hRX sx_w0 x0) K16
  have K12 := sx_callI (idx := 12) (mi2 := 129) (as := [.ref 111]) (rest := [.ref 111]) (r := none) (st := [.ref 111, .ref 111]) (pc := 12) (ls := [(1, .ref 0), (0, .float 4)]) X (show sx_ins 246 12 = some (.invokespecial 12, 3) from rfl) rfl (w := sx_wX ++ [.inr (.inr (.inr (6, sx_df 6)))]) rfl hCt2 (by decide +kernel) r2 x2 (hRX sx_w0 x0) K15
  have K11 := sx_step_ok hM (i := .dup) (n := 1) (st := [.ref 111]) (ls := [(1, .ref 0), (0, .float 4)]) X (sx_decs hm7 (pc := 11) rfl) (fun hz => absurd (show false = true from hz) (by decide)) (by rfl) (hRX _ x2) K12
  have K8 := sx_step_ok hM (i := .new 10) (n := 3) (st := []) (w := sx_wX) (ls := [(1, .ref 0), (0, .float 4)]) X (sx_decs hm7 (pc := 8) rfl) (fun hz => absurd (show false = true from hz) (by decide)) (by rfl) (hRX _ x2) K11
  have K7 := sx_step_ok hM (i := .astore_n 1) (n := 1) (st := [.ref 0]) (ls := [(0, .float 4)]) X (sx_decs hm7 (pc := 7) rfl) (fun hz => absurd (show false = true from hz) (by decide)) (by rfl) (hRX sx_wX x1) K8
  have K4 := sx_callI (idx := 9) (mi2 := 0) (as := [.ref 0]) (rest := [.ref 0]) (r := none) (st := [.ref 0, .ref 0]) (pc := 4) (ls := [(0, .float 4)]) X (show sx_ins 246 4 = some (.invokespecial 9, 3) from rfl) rfl (w := [.inr (.inr (.inr (0, sx_df 0)))]) rfl hCt (by decide +kernel) r1 xA (hRX _ x1) K7
  have K3 := sx_step_ok hM (i := .dup) (n := 1) (st := [.ref 0]) (ls := [(0, .float 4)]) X (sx_decs hm7 (pc := 3) rfl) (fun hz => absurd (show false = true from hz) (by decide)) (by rfl) (hRX _ (xA.tr x1)) K4
  have K0 := sx_step_ok hM (i := .new 7) (n := 3) (st := []) (w := []) (ls := [(0, .float 4)]) X (sx_decs hm7 (pc := 0) rfl) (fun hz => absurd (show false = true from hz) (by decide)) (by rfl) (hRX _ (xA.tr x1)) K3
  have hl := lv_entry ([.ref b]) (n := 4) (Nat.le_of_ble_eq_true rfl)
  rw [lg_entry_eq]
  generalize (lg_sl ([.ref b]) ++ List.replicate (4 - (lg_sl ([.ref b])).length) Slot.unset).toArray = lsA at hl ⊢
  have hl2 : lv_has lsA (sx_maxL 246) ([(0, Value.float 4)].map (sx_q s.heap.size sa)) := by
    show lv_has lsA 4 [(0, .ref (sa 4))]
    rw [hsa]
    exact hl
  have hP : sx_P D dA s.heap.size sa true [] s.heap := ⟨fun k q h => by simp [sx_W] at h, fun _ => rfl⟩
  exact K0 s.heap [] lsA hP va_S.rf hl2 (Nat.le_refl _) (Nat.le_refl _)
