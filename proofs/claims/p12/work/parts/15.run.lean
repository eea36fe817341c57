-- the soundness of a run
theorem sx_codes {mi : Nat} (h : mi < 246) : Cond.code (sx_M mi).1 (sx_M mi).2.1 (sx_M mi).2.2.1 (sx_M mi).2.2.2.1 ∈ lw_tbl := by
  have key : ∀ k, k < 41 → (List.range 6).all (fun i => sx_mchk1 (6 * k + i)) = true := by
    intro k hk
    match k, hk with
    | 0, _ => exact sx_e0
    | 1, _ => exact sx_e1
    | 2, _ => exact sx_e2
    | 3, _ => exact sx_e3
    | 4, _ => exact sx_e4
    | 5, _ => exact sx_e5
    | 6, _ => exact sx_e6
    | 7, _ => exact sx_e7
    | 8, _ => exact sx_e8
    | 9, _ => exact sx_e9
    | 10, _ => exact sx_e10
    | 11, _ => exact sx_e11
    | 12, _ => exact sx_e12
    | 13, _ => exact sx_e13
    | 14, _ => exact sx_e14
    | 15, _ => exact sx_e15
    | 16, _ => exact sx_e16
    | 17, _ => exact sx_e17
    | 18, _ => exact sx_e18
    | 19, _ => exact sx_e19
    | 20, _ => exact sx_e20
    | 21, _ => exact sx_e21
    | 22, _ => exact sx_e22
    | 23, _ => exact sx_e23
    | 24, _ => exact sx_e24
    | 25, _ => exact sx_e25
    | 26, _ => exact sx_e26
    | 27, _ => exact sx_e27
    | 28, _ => exact sx_e28
    | 29, _ => exact sx_e29
    | 30, _ => exact sx_e30
    | 31, _ => exact sx_e31
    | 32, _ => exact sx_e32
    | 33, _ => exact sx_e33
    | 34, _ => exact sx_e34
    | 35, _ => exact sx_e35
    | 36, _ => exact sx_e36
    | 37, _ => exact sx_e37
    | 38, _ => exact sx_e38
    | 39, _ => exact sx_e39
    | 40, _ => exact sx_e40
    | k + 41, hk => omega
  have h2 := sx_all (key (mi / 6) (by omega)) (o := mi % 6) (by omega)
  rw [show 6 * (mi / 6) + mi % 6 = mi by omega] at h2
  exact sx_memp h2
theorem sx_dlcw (a n : Nat) (hn : n = 40 ∨ a + n = 1547) (h : sx_dlc a n = true) : (List.range 40).all (fun i => decide (1547 ≤ a + i) || (match (sx_M 246).2.2.2.2.2.2.2.2 (a + i) with
    | none => true
    | some x => decide (decode (sx_M 246).2.1 (a + i) = .ok x))) = true := by
  refine List.all_eq_true.mpr (fun i hi => ?_)
  have hi := List.mem_range.mp hi
  by_cases hb : i < n
  · have h2 := sx_all h hb
    rw [Bool.or_eq_true]
    exact Or.inr h2
  · rw [Bool.or_eq_true]
    exact Or.inl (decide_eq_true (by omega))
theorem sx_decs {mi pc : Nat} {x : Instr × Nat} (h : mi < 247) (hi : sx_ins mi pc = some x) : decode (sx_M mi).2.1 pc = .ok x := by
  unfold sx_ins at hi
  cases hb : Nat.blt pc (sx_M mi).2.2.2.2.2.2.2.1 with
  | false => rw [hb] at hi; cases hi
  | true =>
    rw [hb] at hi
    have hlt : pc < (sx_M mi).2.2.2.2.2.2.2.1 := Nat.le_of_ble_eq_true hb
    have hi : (sx_M mi).2.2.2.2.2.2.2.2 pc = some x := hi
    by_cases hm : mi < 246
    · have key : ∀ k, k < 41 → (List.range 6).all (fun i => sx_dchk (6 * k + i)) = true := by
        intro k hk
        match k, hk with
        | 0, _ => exact sx_d0
        | 1, _ => exact sx_d1
        | 2, _ => exact sx_d2
        | 3, _ => exact sx_d3
        | 4, _ => exact sx_d4
        | 5, _ => exact sx_d5
        | 6, _ => exact sx_d6
        | 7, _ => exact sx_d7
        | 8, _ => exact sx_d8
        | 9, _ => exact sx_d9
        | 10, _ => exact sx_d10
        | 11, _ => exact sx_d11
        | 12, _ => exact sx_d12
        | 13, _ => exact sx_d13
        | 14, _ => exact sx_d14
        | 15, _ => exact sx_d15
        | 16, _ => exact sx_d16
        | 17, _ => exact sx_d17
        | 18, _ => exact sx_d18
        | 19, _ => exact sx_d19
        | 20, _ => exact sx_d20
        | 21, _ => exact sx_d21
        | 22, _ => exact sx_d22
        | 23, _ => exact sx_d23
        | 24, _ => exact sx_d24
        | 25, _ => exact sx_d25
        | 26, _ => exact sx_d26
        | 27, _ => exact sx_d27
        | 28, _ => exact sx_d28
        | 29, _ => exact sx_d29
        | 30, _ => exact sx_d30
        | 31, _ => exact sx_d31
        | 32, _ => exact sx_d32
        | 33, _ => exact sx_d33
        | 34, _ => exact sx_d34
        | 35, _ => exact sx_d35
        | 36, _ => exact sx_d36
        | 37, _ => exact sx_d37
        | 38, _ => exact sx_d38
        | 39, _ => exact sx_d39
        | 40, _ => exact sx_d40
        | k + 41, hk => omega
      have h2 := sx_all (key (mi / 6) (by omega)) (o := mi % 6) (by omega)
      rw [show 6 * (mi / 6) + mi % 6 = mi by omega] at h2
      have h3 := sx_all h2 hlt
      rw [hi] at h3
      exact of_decide_eq_true h3
    · have hm2 : mi = 246 := by omega
      subst hm2
      have hB : (sx_M 246).2.2.2.2.2.2.2.1 = 1547 := by decide +kernel
      rw [hB] at hlt
      have key : ∀ k, k < 39 → (List.range 40).all (fun i => decide (1547 ≤ 40 * k + i) || (match (sx_M 246).2.2.2.2.2.2.2.2 (40 * k + i) with
          | none => true
          | some x => decide (decode (sx_M 246).2.1 (40 * k + i) = .ok x))) = true := by
        intro k hk
        match k, hk with
        | 0, _ => exact sx_dlcw 0 40 (by decide) sx_dl0
        | 1, _ => exact sx_dlcw 40 40 (by decide) sx_dl1
        | 2, _ => exact sx_dlcw 80 40 (by decide) sx_dl2
        | 3, _ => exact sx_dlcw 120 40 (by decide) sx_dl3
        | 4, _ => exact sx_dlcw 160 40 (by decide) sx_dl4
        | 5, _ => exact sx_dlcw 200 40 (by decide) sx_dl5
        | 6, _ => exact sx_dlcw 240 40 (by decide) sx_dl6
        | 7, _ => exact sx_dlcw 280 40 (by decide) sx_dl7
        | 8, _ => exact sx_dlcw 320 40 (by decide) sx_dl8
        | 9, _ => exact sx_dlcw 360 40 (by decide) sx_dl9
        | 10, _ => exact sx_dlcw 400 40 (by decide) sx_dl10
        | 11, _ => exact sx_dlcw 440 40 (by decide) sx_dl11
        | 12, _ => exact sx_dlcw 480 40 (by decide) sx_dl12
        | 13, _ => exact sx_dlcw 520 40 (by decide) sx_dl13
        | 14, _ => exact sx_dlcw 560 40 (by decide) sx_dl14
        | 15, _ => exact sx_dlcw 600 40 (by decide) sx_dl15
        | 16, _ => exact sx_dlcw 640 40 (by decide) sx_dl16
        | 17, _ => exact sx_dlcw 680 40 (by decide) sx_dl17
        | 18, _ => exact sx_dlcw 720 40 (by decide) sx_dl18
        | 19, _ => exact sx_dlcw 760 40 (by decide) sx_dl19
        | 20, _ => exact sx_dlcw 800 40 (by decide) sx_dl20
        | 21, _ => exact sx_dlcw 840 40 (by decide) sx_dl21
        | 22, _ => exact sx_dlcw 880 40 (by decide) sx_dl22
        | 23, _ => exact sx_dlcw 920 40 (by decide) sx_dl23
        | 24, _ => exact sx_dlcw 960 40 (by decide) sx_dl24
        | 25, _ => exact sx_dlcw 1000 40 (by decide) sx_dl25
        | 26, _ => exact sx_dlcw 1040 40 (by decide) sx_dl26
        | 27, _ => exact sx_dlcw 1080 40 (by decide) sx_dl27
        | 28, _ => exact sx_dlcw 1120 40 (by decide) sx_dl28
        | 29, _ => exact sx_dlcw 1160 40 (by decide) sx_dl29
        | 30, _ => exact sx_dlcw 1200 40 (by decide) sx_dl30
        | 31, _ => exact sx_dlcw 1240 40 (by decide) sx_dl31
        | 32, _ => exact sx_dlcw 1280 40 (by decide) sx_dl32
        | 33, _ => exact sx_dlcw 1320 40 (by decide) sx_dl33
        | 34, _ => exact sx_dlcw 1360 40 (by decide) sx_dl34
        | 35, _ => exact sx_dlcw 1400 40 (by decide) sx_dl35
        | 36, _ => exact sx_dlcw 1440 40 (by decide) sx_dl36
        | 37, _ => exact sx_dlcw 1480 40 (by decide) sx_dl37
        | 38, _ => exact sx_dlcw 1520 27 (by decide) sx_dl38
        | k + 39, hk => omega
      have h2 := sx_all (key (pc / 40) (by omega)) (o := pc % 40) (by omega)
      rw [show 40 * (pc / 40) + pc % 40 = pc by omega] at h2
      rw [hi, show decide (1547 ≤ pc) = false from decide_eq_false (by omega), Bool.false_or] at h2
      exact of_decide_eq_true h2
section SXR
variable {p : Program} {l : Launch} {e : Env} {R : Room} {s : State} {m : MethodId} {args : Array Value} {below : List Frame} {meth : Method} {c : Code} {Q : State → Prop}
variable {D : va_G} {dA : Nat → ClassId} {h0 : Nat} {sa : Nat → Nat} {md : Bool} {n0 z0 : Nat} {pc : Nat} {ls : sx_L} {st : List Value} {w : List sx_C} {xs : Option (List Int32)} {mi d : Nat}
theorem sx_after {H : Heap} {locs : List Loc} {cells slots mc ms : Nat} {lsA : Array Slot} {st0 rest : List Value} {r : Option Value} {w2 : List sx_C} {a : Array Value} (hr : va_Run p l e R s m args below meth c H locs cells slots mc ms (F0 m pc lsA st0) rest (sx_Qc D dA h0 sa md r w2 a) (sx_A h0)) (hS : va_S (sx_A h0) s.heap H locs) (kk : ∀ (H1 : Heap) (locs1 : List Loc), sx_P D dA h0 sa md w2 H1 → va_S (sx_A h0) s.heap H1 locs1 → W p l e R s m args below meth c H1 locs1 (cells + mc) (slots + ms) Q (F0 m (pc + 3) lsA ((r.map (sx_v h0 sa)).toList ++ rest))) : W p l e R s m args below meth c H locs cells slots Q (F0 m pc lsA st0) := by
  intro T hT X
  obtain ⟨v, st₀, t, T', L, g0, X', hL, e1, e2, ⟨hv, hp, hz, hk⟩, st⟩ := hr T hT X
  have hv2 : v = r.map (sx_v h0 sa) := Outcome.returned.inj hv
  subst hv2
  rw [g0] at hz hk
  obtain ⟨t2, a1, b1⟩ := kk T'.heap (locs ++ L) (by rw [e1]; exact hp) ⟨Nat.le_trans hS.1 (by rw [e1]; exact hz), fun q h1 h2 => by rw [e1, hk q (Nat.lt_of_lt_of_le h1 hS.1) h2]; exact hS.2.1 q h1 h2, fun q hq => by
      rcases List.mem_append.mp hq with h | h
      · exact hS.2.2 q h
      · exact hL q h⟩ T' rfl X'
  exact ⟨t2, st t2 a1, b1⟩
/-- the callee's start, out of the caller's state -/
theorem sx_pre {H : Heap} {locs : List Loc} {as : List Value} (hG : sx_G D dA h0 sa xs s s.heap) (hS : va_S (sx_A h0) s.heap H locs) (hP : sx_P D dA h0 sa md w H) (hh : h0 ≤ s.heap.size) : PreS s H (sx_Pc D dA h0 sa xs md as w) (as.map (sx_v h0 sa)) :=
  ⟨sx_blind, fun U hU hW => ⟨rfl, by rw [hU]; exact sx_G.warm hW hS.2.1 hG, by rw [hU]; exact hP, by rw [hU]; exact Nat.le_trans hh hS.1⟩⟩
theorem sx_goodW {mi2 : Nat} (hm : mi2 < 246) : GoodIn sx_tw (sx_Ws mi2) := by
  intro w2 hw
  unfold sx_Ws at hw
  rcases List.mem_cons.mp hw with rfl | hw
  · have h1 := (sx_mfacts hm (sx_codes hm)).1
    exact ⟨h1, (sx_twg _ h1).2⟩
  · exact ⟨hw, (sx_twg _ hw).2⟩
theorem sx_goodI {w2 : Cond} (h : w2 ∈ sx_tw) : w2 ∈ sx_tw ∧ ((w2.onTables && w2.keeps) = true ∨ ∃ ty, w2 = .arrayClass ty) := ⟨h, (sx_twg _ h).2⟩
/-- every call by a lesser run is a contract -/
def sx_CT (l : Launch) (D : va_G) (dA : Nat → ClassId) (h0 : Nat) (sa : Nat → Nat) (xs : Option (List Int32)) (md : Bool) (f : Nat) : Prop := ∀ (d mi : Nat) (as : List Value) (w : List sx_C) (r : Option Value) (w2 : List sx_C), mi < 246 → (as.map (fun v => v.category)).sum ≤ sx_maxL mi → sx_run md xs f d mi 0 (lv_args 0 as) [] w = some (r, w2) → Met l (sx_M mi).1 (sx_Ws mi) (sx_rm mi (sx_ck md (sx_cn0 md w) w2) (sx_cs md (sx_cz0 md w) w2)) (sx_Pc D dA h0 sa xs md as w) (sx_Qc D dA h0 sa md r w2) (sx_ck md (sx_cn0 md w) w2) (sx_cs md (sx_cz0 md w) w2) (sx_A h0)
theorem sx_ml_use {idx : Nat} {q : Nat × Nat} (hmi : mi < 247) (h : sx_lk (sx_ml (sx_own mi)) idx = some q) : q.1 < 246 ∧ Cond.methodLink (sx_cn.getD (sx_own mi) "") idx (sx_M q.1).1 ∈ sx_tw := by
  have h1 := List.all_eq_true.mp (sx_all sx_mok (sx_own_lt mi hmi)) _ (sx_lk_mem _ _ _ h)
  rw [Bool.and_eq_true] at h1
  exact ⟨Nat.le_of_ble_eq_true h1.1, sx_twm (sx_memp h1.2) rfl⟩
theorem sx_mn_use {idx : Nat} {q : Nat × Nat} (hmi : mi < 247) (h : sx_lk (sx_mn (sx_own mi)) idx = some q) : q.1 < 246 := by
  have h1 := List.all_eq_true.mp (sx_all sx_nok (sx_own_lt mi hmi)) _ (sx_lk_mem _ _ _ h)
  rw [Bool.and_eq_true] at h1
  exact Nat.le_of_ble_eq_true h1.1
theorem sx_stk {n : Nat} (st : List Value) : st.map (sx_v h0 sa) = (((st.take n).reverse).map (sx_v h0 sa)).reverse ++ (st.drop n).map (sx_v h0 sa) := by
  rw [List.map_reverse, List.reverse_reverse, ← List.map_append, List.take_append_drop]
theorem sx_roomC {mi0 K N : Nat} (hc : sx_crS mi0 mi) (hf : sx_fr mi0 + 2 ≤ R.frames) (hl : sx_lo mi0 + 30 ≤ R.locals) : (sx_rm mi K N).frames + 1 ≤ R.frames ∧ 8 + ((sx_M mi).2.2.1 + 11) + (sx_rm mi K N).locals ≤ R.locals := by
  obtain ⟨h1, h2⟩ := hc
  unfold sx_maxL at h2
  refine ⟨by show sx_fr mi + 2 + 1 ≤ R.frames; omega, ?_⟩
  show 8 + ((sx_M mi).2.2.1 + 11) + (sx_lo mi + 30) ≤ R.locals
  omega
/-- a static call -/
theorem sx_callS {idx mi2 d2 : Nat} {as rest : List Value} {r : Option Value} {w2 : List sx_C} {n : Nat} (X : sx_Ctx p s m args meth c R D dA h0 sa xs mi (d2 + 1)) (hi : sx_ins mi pc = some (.invokestatic idx, n)) (hn : n = 3) (hinv : sx_inv mi (.invokestatic idx) st w = some (mi2, as, rest)) {f : Nat} (hC : sx_CT l D dA h0 sa xs md f) (hsum : (as.map (fun v => v.category)).sum ≤ sx_maxL mi2) (hrun : sx_run md xs f d2 mi2 0 (lv_args 0 as) [] w = some (r, w2)) (hx2 : sx_ext w w2) (hR : sx_ck md n0 w2 ≤ R.cells ∧ sx_cs md z0 w2 ≤ R.slots) (K : sx_J p l e R s m args below meth c D dA h0 sa md n0 z0 (sx_maxL mi) Q (pc + 3, ls, r.toList ++ rest, w2)) : sx_J p l e R s m args below meth c D dA h0 sa md n0 z0 (sx_maxL mi) Q (pc, ls, st, w) := by
  subst hn
  obtain ⟨hx, hb, hml, hown, hts, hnm, hfr, hlo, hG, hh, hmi⟩ := X
  have hd := sx_decs hmi hi
  have hcr := sx_cri_s (sx_crI hmi hi)
  unfold sx_inv at hinv
  simp only at hinv
  split at hinv
  · rename_i q hq
    cases hbt : (Nat.beq (sx_kd q.1) 0 && Nat.ble (sx_nar q.1) st.length && Nat.ble ((st.drop (sx_nar q.1)).map (fun v => v.category)).sum 8) with
    | false => rw [hbt] at hinv; cases hinv
    | true =>
      rw [hbt] at hinv
      simp only [cond_true, Option.some.injEq, Prod.mk.injEq] at hinv
      obtain ⟨rfl, rfl, rfl⟩ := hinv
      simp only [Bool.and_eq_true] at hbt
      obtain ⟨⟨g1, g2⟩, g3⟩ := hbt
      obtain ⟨hm2, hlk⟩ := sx_ml_use hmi hq
      obtain ⟨f1, f2, f3, f4, f5, f6, f7⟩ := sx_mfacts hm2 (sx_codes hm2)
      have hv := sx_all sx_vcok hm2
      unfold sx_vchk at hv
      rw [Nat.eq_of_beq_eq_true g1] at hv
      have hstat := sx_twm (sx_memp hv) (rfl : goodWord (.static (sx_M q.1).1) = true)
      have hMet := hC d2 q.1 _ w r w2 hm2 hsum hrun
      intro H locs lsA hP hS hl h1 h2
      have h1 : n0 ≤ w.length := h1
      have h2 : z0 ≤ sx_sz w := h2
      have hl1 : lv_has lsA (sx_maxL mi) (ls.map (sx_q h0 sa)) := hl
      have hG2 : GoodIn sx_tw (va_wsS (sx_cn.getD (sx_own mi) "") idx (sx_M q.1).1 (sx_Ws q.1)) := by
        intro w9 hw
        unfold va_wsS at hw
        rcases List.mem_append.mp hw with hw | hw
        · simp only [List.mem_cons, List.mem_singleton, List.not_mem_nil, or_false] at hw
          rcases hw with rfl | rfl | rfl
          · exact sx_goodI hlk
          · exact sx_goodI hstat
          · exact sx_goodI f2
        · exact sx_goodW hm2 w9 hw
      refine sx_after (rest := (st.drop (sx_nar q.1)).map (sx_v h0 sa)) (va_runS (Ts := sx_tw) (ws := sx_Ws q.1) (bytes := (sx_M q.1).2.1) (maxL := (sx_M q.1).2.2.1) (ret := (sx_M q.1).2.2.2.1) (n := sx_nar q.1) (nL := sx_maxL mi) (As := ((st.take (sx_nar q.1)).reverse).map (sx_v h0 sa)) (rest := (st.drop (sx_nar q.1)).map (sx_v h0 sa)) ⟨hx, hb, hml, hown, hts⟩ hMet (va_cwS (sx_nar q.1) hts hG2 rfl rfl rfl ⟨f6.1, f6.2, f5⟩ (sx_roomC (sx_crk_l hcr hq) hfr hlo)) (sx_pre hG hS hP hh) rfl ?_ hl1.1 (sx_stk st) (lv_room (by rw [sx_cat_map]; exact Nat.le_of_ble_eq_true g3)) hd ?_) hS ?_
      · rw [List.length_map, List.length_reverse, List.length_take]
        exact Nat.min_eq_left (Nat.le_of_ble_eq_true g2)
      · rw [show sx_ck md n0 (pc, ls, st, w).2.2.2 = sx_ck md n0 w from rfl, show sx_cs md z0 (pc, ls, st, w).2.2.2 = sx_cs md z0 w from rfl, sx_ck_cat h1 (fun _ => hx2.1), sx_cs_cat h2 (fun _ => hx2.2)]
        exact hR
      · intro H1 locs1 hP1 hS1
        rw [show sx_ck md n0 (pc, ls, st, w).2.2.2 = sx_ck md n0 w from rfl, show sx_cs md z0 (pc, ls, st, w).2.2.2 = sx_cs md z0 w from rfl, sx_ck_cat h1 (fun _ => hx2.1), sx_cs_cat h2 (fun _ => hx2.2)]
        have K1 := K H1 locs1 lsA hP1 hS1 hl (by
          show n0 ≤ w2.length
          exact Nat.le_trans h1 hx2.1) (by
          show z0 ≤ sx_sz w2
          exact Nat.le_trans h2 hx2.2)
        have e9 : (r.toList ++ st.drop (sx_nar q.1)).map (sx_v h0 sa) = (r.map (sx_v h0 sa)).toList ++ (st.drop (sx_nar q.1)).map (sx_v h0 sa) := by cases r <;> simp
        rw [← e9]
        exact K1
  · cases hinv
/-- what follows a call, in every kind of call -/
theorem sx_kk {rest : List Value} {r : Option Value} {w2 : List sx_C} {lsA : Array Slot} (hx2 : sx_ext w w2) (K : sx_J p l e R s m args below meth c D dA h0 sa md n0 z0 (sx_maxL mi) Q (pc + 3, ls, r.toList ++ rest, w2)) (hl : lv_has lsA (sx_maxL mi) (ls.map (sx_q h0 sa))) (h1 : n0 ≤ w.length) (h2 : z0 ≤ sx_sz w) : ∀ (H1 : Heap) (locs1 : List Loc), sx_P D dA h0 sa md w2 H1 → va_S (sx_A h0) s.heap H1 locs1 → W p l e R s m args below meth c H1 locs1 (sx_ck md n0 w + sx_ck md (sx_cn0 md w) w2) (sx_cs md z0 w + sx_cs md (sx_cz0 md w) w2) Q (F0 m (pc + 3) lsA ((r.map (sx_v h0 sa)).toList ++ rest.map (sx_v h0 sa))) := by
  intro H1 locs1 hP1 hS1
  rw [sx_ck_cat h1 (fun _ => hx2.1), sx_cs_cat h2 (fun _ => hx2.2)]
  have K1 := K H1 locs1 lsA hP1 hS1 hl (Nat.le_trans h1 hx2.1) (Nat.le_trans h2 hx2.2)
  have e9 : (r.toList ++ rest).map (sx_v h0 sa) = (r.map (sx_v h0 sa)).toList ++ rest.map (sx_v h0 sa) := by cases r <;> simp
  rw [← e9]
  exact K1
theorem sx_callV {idx mi2 d2 : Nat} {as rest : List Value} {r : Option Value} {w2 : List sx_C} {n : Nat} (X : sx_Ctx p s m args meth c R D dA h0 sa xs mi (d2 + 1)) (hi : sx_ins mi pc = some (.invokevirtual idx, n)) (hn : n = 3) (hinv : sx_inv mi (.invokevirtual idx) st w = some (mi2, as, rest)) {f : Nat} (hC : sx_CT l D dA h0 sa xs md f) (hsum : (as.map (fun v => v.category)).sum ≤ sx_maxL mi2) (hrun : sx_run md xs f d2 mi2 0 (lv_args 0 as) [] w = some (r, w2)) (hx2 : sx_ext w w2) (hR : sx_ck md n0 w2 ≤ R.cells ∧ sx_cs md z0 w2 ≤ R.slots) (K : sx_J p l e R s m args below meth c D dA h0 sa md n0 z0 (sx_maxL mi) Q (pc + 3, ls, r.toList ++ rest, w2)) : sx_J p l e R s m args below meth c D dA h0 sa md n0 z0 (sx_maxL mi) Q (pc, ls, st, w) := by
  subst hn
  obtain ⟨hx, hb, hml, hown, hts, hnm, hfr, hlo, hG, hh, hmi⟩ := X
  have hd := sx_decs hmi hi
  have hcr := sx_cri_v (sx_crI hmi hi)
  unfold sx_inv at hinv
  simp only at hinv
  split at hinv
  · rename_i q hq
    split at hinv
    · rename_i a r9 hdr
      split at hinv
      · rename_i ci fs hw
        cases hbt : (Nat.beq (sx_kd q.1) 1 && Nat.beq ci (sx_own q.1) && Nat.ble (r9.map (fun v => v.category)).sum 8) with
        | false => rw [hbt] at hinv; cases hinv
        | true =>
          rw [hbt] at hinv
          simp only [cond_true, Option.some.injEq, Prod.mk.injEq] at hinv
          obtain ⟨rfl, rfl, rfl⟩ := hinv
          simp only [Bool.and_eq_true] at hbt
          obtain ⟨⟨g1, g2⟩, g3⟩ := hbt
          obtain ⟨hm2, hlk⟩ := sx_ml_use hmi hq
          obtain ⟨f1, f2, f3, f4, f5, f6, f7⟩ := sx_mfacts hm2 (sx_codes hm2)
          have hv := sx_all sx_vcok hm2
          unfold sx_vchk at hv
          rw [Nat.eq_of_beq_eq_true g1] at hv
          simp only [Bool.and_eq_true] at hv
          have hinst := sx_twm (sx_memp hv.1) (rfl : goodWord (.instanceMethod (sx_M q.1).1) = true)
          have hsel := sx_twm (sx_memp hv.2.1) (rfl : goodWord (.selects (sx_M q.1).1.cls (sx_M q.1).1 (sx_M q.1).1) = true)
          have hMet := hC d2 q.1 _ w r w2 hm2 hsum hrun
          have hci : ci = sx_own q.1 := Nat.eq_of_beq_eq_true g2
          intro H locs lsA hP hS hl h1 h2
          have h1 : n0 ≤ w.length := h1
          have h2 : z0 ≤ sx_sz w := h2
          have hl1 : lv_has lsA (sx_maxL mi) (ls.map (sx_q h0 sa)) := hl
          have hG2 : GoodIn sx_tw (wsV (sx_cn.getD (sx_own mi) "") idx (sx_M q.1).1.cls (sx_M q.1).1 (sx_Ws q.1)) := by
            intro w9 hw
            unfold wsV at hw
            rcases List.mem_append.mp hw with hw | hw
            · simp only [List.mem_cons, List.mem_singleton, List.not_mem_nil, or_false] at hw
              rcases hw with rfl | rfl | rfl | rfl
              · exact sx_goodI hlk
              · exact sx_goodI hinst
              · exact sx_goodI hsel
              · exact sx_goodI f2
            · exact sx_goodW hm2 w9 hw
          obtain ⟨⟨C, T, N⟩, hcq⟩ : ∃ cq : vw_C, sx_cl[ci]? = some cq := by
            obtain ⟨r8, hr8, -⟩ := hP.at hw
            exact ⟨r8, hr8⟩
          have hC9 : C = (sx_M q.1).1.cls := by
            have e1 : C = sx_cn.getD ci "" := (sx_cok hcq).2.2.2.2.2.2.2.2
            rw [e1, hci, f3]
          have hrec := va_recv hG.1 (hP.one hw) (ci := ci) (q0 := 0) hcq rfl
          have hlen : sx_nar q.1 ≤ st.length := by
            have := congrArg List.length hdr
            rw [List.length_drop, List.length_cons] at this
            omega
          have hpre := sx_pre (xs := xs) (md := md) (as := .ref a :: (st.take (sx_nar q.1)).reverse) hG hS hP hh
          refine sx_after (rest := r9.map (sx_v h0 sa)) (va_runV (Ts := sx_tw) (ws := sx_Ws q.1) (C := (sx_M q.1).1.cls) (bytes := (sx_M q.1).2.1) (maxL := (sx_M q.1).2.2.1) (ret := (sx_M q.1).2.2.2.1) (n := sx_nar q.1) (nL := sx_maxL mi) (b := h0 + a) (As := ((st.take (sx_nar q.1)).reverse).map (sx_v h0 sa)) (rest := r9.map (sx_v h0 sa)) ⟨hx, hb, hml, hown, hts⟩ hMet (cwV (sx_nar q.1) hts hG2 rfl rfl rfl ⟨rfl, f6.1, f6.2, f5⟩ (sx_roomC (sx_crk_l hcr hq) hfr hlo)) ⟨sx_blind, by rw [← hC9]; exact hrec, hpre.2⟩ rfl ?_ hl1.1 ?_ (lv_room (by rw [sx_cat_map]; exact Nat.le_of_ble_eq_true g3)) hd ?_) hS (sx_kk hx2 K hl1 h1 h2)
          · rw [List.length_map, List.length_reverse, List.length_take]
            exact Nat.min_eq_left hlen
          · show st.map (sx_v h0 sa) = _
            rw [sx_stk (n := sx_nar q.1) st, hdr]
            rfl
          · rw [show sx_ck md n0 (pc, ls, st, w).2.2.2 = sx_ck md n0 w from rfl, show sx_cs md z0 (pc, ls, st, w).2.2.2 = sx_cs md z0 w from rfl, sx_ck_cat h1 (fun _ => hx2.1), sx_cs_cat h2 (fun _ => hx2.2)]
            exact hR
      · cases hinv
    · cases hinv
  · cases hinv
theorem sx_callI {idx mi2 d2 : Nat} {as rest : List Value} {r : Option Value} {w2 : List sx_C} {n : Nat} (X : sx_Ctx p s m args meth c R D dA h0 sa xs mi (d2 + 1)) (hi : sx_ins mi pc = some (.invokespecial idx, n)) (hn : n = 3) (hinv : sx_inv mi (.invokespecial idx) st w = some (mi2, as, rest)) {f : Nat} (hC : sx_CT l D dA h0 sa xs md f) (hsum : (as.map (fun v => v.category)).sum ≤ sx_maxL mi2) (hrun : sx_run md xs f d2 mi2 0 (lv_args 0 as) [] w = some (r, w2)) (hx2 : sx_ext w w2) (hR : sx_ck md n0 w2 ≤ R.cells ∧ sx_cs md z0 w2 ≤ R.slots) (K : sx_J p l e R s m args below meth c D dA h0 sa md n0 z0 (sx_maxL mi) Q (pc + 3, ls, r.toList ++ rest, w2)) : sx_J p l e R s m args below meth c D dA h0 sa md n0 z0 (sx_maxL mi) Q (pc, ls, st, w) := by
  subst hn
  obtain ⟨hx, hb, hml, hown, hts, hnm, hfr, hlo, hG, hh, hmi⟩ := X
  have hd := sx_decs hmi hi
  have hcr := sx_cri_i (sx_crI hmi hi)
  unfold sx_inv at hinv
  simp only at hinv
  split at hinv
  · rename_i q hq
    split at hinv
    · rename_i a r9
      cases hbt : (Nat.beq (sx_kd q.1) 2 && Nat.beq (sx_nar q.1) 0 && Nat.ble (r9.map (fun v => v.category)).sum 8) with
      | false => rw [hbt] at hinv; cases hinv
      | true =>
        rw [hbt] at hinv
        simp only [cond_true, Option.some.injEq, Prod.mk.injEq] at hinv
        obtain ⟨rfl, rfl, rfl⟩ := hinv
        simp only [Bool.and_eq_true] at hbt
        obtain ⟨⟨g1, g2⟩, g3⟩ := hbt
        obtain ⟨hm2, hlk⟩ := sx_ml_use hmi hq
        obtain ⟨f1, f2, f3, f4, f5, f6, f7⟩ := sx_mfacts hm2 (sx_codes hm2)
        have hv := sx_all sx_vcok hm2
        unfold sx_vchk at hv
        rw [Nat.eq_of_beq_eq_true g1] at hv
        simp only [Bool.and_eq_true] at hv
        have hinst := sx_twm (sx_memp hv.1) (rfl : goodWord (.instanceMethod (sx_M q.1).1) = true)
        have hret : (sx_M q.1).2.2.2.1 = none := of_decide_eq_true hv.2.2
        have hMet := hC d2 q.1 _ w r w2 hm2 hsum hrun
        have hW9 : sx_Ws q.1 = Cond.code (sx_M q.1).1 (sx_M q.1).2.1 (sx_M q.1).2.2.1 none :: sx_tw := by unfold sx_Ws; rw [hret]
        intro H locs lsA hP hS hl h1 h2
        have h1 : n0 ≤ w.length := h1
        have h2 : z0 ≤ sx_sz w := h2
        have hl1 : lv_has lsA (sx_maxL mi) (ls.map (sx_q h0 sa)) := hl
        have hpre := sx_pre (xs := xs) (md := md) (as := [.ref a]) hG hS hP hh
        refine sx_after (rest := r9.map (sx_v h0 sa)) (va_runI (Ts := sx_tw) (ws := sx_Ws q.1) (bytes := (sx_M q.1).2.1) (maxL := (sx_M q.1).2.2.1) (n := 0) (nL := sx_maxL mi) (b := h0 + a) (As := []) (rest := r9.map (sx_v h0 sa)) ⟨hx, hb, hml, hown, hts⟩ hMet (cwI 0 hts (sx_goodW hm2) hW9 rfl rfl (hts _ f2) (hts _ hlk) (hts _ hinst) (of_decide_eq_true hv.2.1) ⟨f6.1, f6.2, by rw [f5, Nat.eq_of_beq_eq_true g2]⟩ (sx_roomC (sx_crk_l hcr hq) hfr hlo)) hpre rfl rfl hl1.1 rfl (lv_room (by rw [sx_cat_map]; exact Nat.le_of_ble_eq_true g3)) hd ?_) hS (sx_kk hx2 K hl1 h1 h2)
        rw [show sx_ck md n0 (pc, ls, Value.ref a :: r9, w).2.2.2 = sx_ck md n0 w from rfl, show sx_cs md z0 (pc, ls, Value.ref a :: r9, w).2.2.2 = sx_cs md z0 w from rfl, sx_ck_cat h1 (fun _ => hx2.1), sx_cs_cat h2 (fun _ => hx2.2)]
        exact hR
    · cases hinv
  · split at hinv
    · rename_i q hq
      split at hinv
      · rename_i a r9
        cases hbt : (Nat.beq (sx_kd q.1) 2 && Nat.beq (sx_nar q.1) 0 && Nat.ble (r9.map (fun v => v.category)).sum 8) with
        | false => rw [hbt] at hinv; cases hinv
        | true =>
          rw [hbt] at hinv
          simp only [cond_true, Option.some.injEq, Prod.mk.injEq] at hinv
          obtain ⟨rfl, rfl, rfl⟩ := hinv
          simp only [Bool.and_eq_true] at hbt
          obtain ⟨⟨g1, g2⟩, g3⟩ := hbt
          have hm2 := sx_mn_use hmi hq
          have hnw := hG.2.2.2.2.2.2.1 (sx_own mi) _ (sx_lk_mem _ _ _ hq)
          obtain ⟨f1, f2, f3, f4, f5, f6, f7⟩ := sx_mfacts hm2 (sx_codes hm2)
          have hv := sx_all sx_vcok hm2
          unfold sx_vchk at hv
          rw [Nat.eq_of_beq_eq_true g1] at hv
          simp only [Bool.and_eq_true] at hv
          have hinst := sx_twm (sx_memp hv.1) (rfl : goodWord (.instanceMethod (sx_M q.1).1) = true)
          have hret : (sx_M q.1).2.2.2.1 = none := of_decide_eq_true hv.2.2
          have hMet := hC d2 q.1 _ w r w2 hm2 hsum hrun
          have hW9 : sx_Ws q.1 = Cond.code (sx_M q.1).1 (sx_M q.1).2.1 (sx_M q.1).2.2.1 none :: sx_tw := by unfold sx_Ws; rw [hret]
          intro H locs lsA hP hS hl h1 h2
          have h1 : n0 ≤ w.length := h1
          have h2 : z0 ≤ sx_sz w := h2
          have hl1 : lv_has lsA (sx_maxL mi) (ls.map (sx_q h0 sa)) := hl
          have hpre := sx_pre (xs := xs) (md := md) (as := [.ref a]) hG hS hP hh
          refine sx_after (rest := r9.map (sx_v h0 sa)) (va_runIN (Ts := sx_tw) (ws := sx_Ws q.1) (host := "PeasDrum") (bytes := (sx_M q.1).2.1) (maxL := (sx_M q.1).2.2.1) (n := 0) (nL := sx_maxL mi) (b := h0 + a) (As := []) (rest := r9.map (sx_v h0 sa)) ⟨hx, hb, hml, hown, hts⟩ hMet ⟨va_cnB 0 hts (sx_goodW hm2) hW9 rfl rfl hnw (hts _ f2) ⟨f6.1, f6.2, by rw [f5, Nat.eq_of_beq_eq_true g2]⟩ (sx_roomC (sx_crk_n hcr hq) hfr hlo), of_decide_eq_true hv.2.1, hts _ hinst⟩ hpre rfl rfl hl1.1 rfl (lv_room (by rw [sx_cat_map]; exact Nat.le_of_ble_eq_true g3)) hd ?_) hS (sx_kk hx2 K hl1 h1 h2)
          rw [show sx_ck md n0 (pc, ls, Value.ref a :: r9, w).2.2.2 = sx_ck md n0 w from rfl, show sx_cs md z0 (pc, ls, Value.ref a :: r9, w).2.2.2 = sx_cs md z0 w from rfl, sx_ck_cat h1 (fun _ => hx2.1), sx_cs_cat h2 (fun _ => hx2.2)]
          exact hR
      · cases hinv
    · cases hinv
end SXR
