-- write and copy
theorem in_ltz {x : Int32} {n : Nat} (hn : n ≤ 40) : (0 ≤ x ∧ x ≤ nI n - 1) ↔ (0 ≤ x ∧ x < nI n) := by
  have e : (nI n - 1).toInt = (n : Int) - 1 := by
    rw [Int32.toInt_sub, nI_toInt (by omega), show (1 : Int32).toInt = 1 by decide, Int.bmod_def]
    split <;> omega
  rw [Int32.le_iff_toInt_le (x := x), Int32.lt_iff_toInt_lt (x := x), e, nI_toInt (by omega)]
  constructor <;> intro h <;> exact ⟨h.1, by omega⟩
theorem idx_getz {v : Int32} {n : Nat} (h : 0 ≤ v ∧ v < nI n) (hn : n ≤ 40) : ∃ x, x < n ∧ v = nI x := by
  obtain ⟨x, hx, rfl⟩ := nI_of (Int32.not_lt.mpr h.1)
  exact ⟨x, (nI_ltI hx (by omega)).mp h.2, rfl⟩
def wrA (F : Nat → Int32 × Int32) (N : Nat → Nat → Int64) (a1 a2 : Int32) : Int64 := if 0 ≤ a1 ∧ a1 ≤ 3 then (if (F (iN a1)).1 = 0 then -1000000006 else (if 0 ≤ a2 ∧ a2 < (F (iN a1)).2 then N (iN a1) (iN a2) else -1000000001)) else -1000000001
def wrR (F : Nat → Int32 × Int32) (N : Nat → Nat → Int64) (a1 a2 : Int32) (v : Int64) : Nat → Nat → Int64 := if 0 ≤ a1 ∧ a1 ≤ 3 then (if (F (iN a1)).1 = 0 then N else (if 0 ≤ a2 ∧ a2 < (F (iN a1)).2 then wrN N (iN a1) (iN a2) (ptF (F (iN a1)).1 v) else N)) else N
section SXW9
variable {F : Nat → Int32 × Int32} {N : Nat → Nat → Int64} {a1 a2 b z : Int32} {v : Int64} {s i : Nat}
theorem wr_1 (h : ¬ (0 ≤ a1 ∧ a1 ≤ 3)) : wrA F N a1 a2 = -1000000001 ∧ wrR F N a1 a2 v = N := ⟨if_neg h, if_neg h⟩
theorem wr_2 (hs : s < 4) (e : F s = (b, z)) (h : b = 0) : wrA F N (nI s) a2 = -1000000006 ∧ wrR F N (nI s) a2 v = N := by
  unfold wrA wrR
  rw [iN_n (by omega), e, if_pos (cp_r hs), if_pos (cp_r hs), if_pos h, if_pos h]
  exact ⟨rfl, rfl⟩
theorem wr_3 (hs : s < 4) (e : F s = (b, z)) (h : ¬ b = 0) (h2 : ¬ (0 ≤ a2 ∧ a2 < z)) : wrA F N (nI s) a2 = -1000000001 ∧ wrR F N (nI s) a2 v = N := by
  unfold wrA wrR
  rw [iN_n (by omega), e, if_pos (cp_r hs), if_pos (cp_r hs), if_neg h, if_neg h, if_neg h2, if_neg h2]
  exact ⟨rfl, rfl⟩
theorem wr_4 (hs : s < 4) (e : F s = (b, z)) (h : ¬ b = 0) (hi : i < 40) (h2 : 0 ≤ nI i ∧ nI i < z) : wrA F N (nI s) (nI i) = N s i ∧ wrR F N (nI s) (nI i) v = wrN N s i (ptF b v) := by
  unfold wrA wrR
  rw [iN_n (by omega), e, if_pos (cp_r hs), if_pos (cp_r hs), if_neg h, if_neg h, if_pos h2, if_pos h2, iN_n (by omega)]
  exact ⟨rfl, rfl⟩
end SXW9
theorem NCs_at {w : List sx_C} {s i : Nat} (hs : s < 4) (hi : i < 40) : NCs w s i = (ja w (104 + 2 * s)).getD i 0 := if_pos ⟨hs, hi⟩
theorem NMs_at {w : List sx_C} {s i : Nat} (hs : s < 4) (hi : i < 40) : NMs w s i = (ja w 124).getD (40 * s + i) 0 := if_pos ⟨hs, hi⟩
section SXC9
variable {xs : Option (List Int32)} {d mi pc pc2 a idx p : Nat} {ls : sx_L} {r : List Value} {w w0 : List sx_C} {P : Option Value → List sx_C → Prop}
theorem sx_RP.acX {s t f g n : Nat} (hI : WI w) (hs : s < 4) (ht : t < 4) (h1 : f + n ≤ 40) (h2 : g + n ≤ 40) (hi : sx_ins mi pc = some (.invokestatic idx, 3)) (hq : sx_lk (sx_ac (sx_own mi)) idx = some p) (hr : Nat.ble (r.map (fun v => v.category)).sum 8 = true) (hp : pc + 3 = pc2) (kk : ∀ w2, WI w2 → Same (104 + 2 * t) w w2 → ja w2 (104 + 2 * t) = sx_cpy (ja w (104 + 2 * s)) (ja w (104 + 2 * t)) f g n → sx_RP xs d mi pc2 ls r w2 P) : sx_RP xs d mi pc ls (.int (nI n) :: .int (nI g) :: .ref (104 + 2 * t) :: .int (nI f) :: .ref (104 + 2 * s) :: r) w P := by
  subst hp
  have ha := hI.1.aN ht
  have hb := hI.1.aN hs
  have hl := cpy_len (f := ja w (104 + 2 * s)) (g := ja w (104 + 2 * t)) (sp := f) (dp := g) (n := n) (by omega) (by omega)
  have hsh : sx_sh (.inr (.inl (3, sx_cpy (ja w (104 + 2 * s)) (ja w (104 + 2 * t)) f g n))) = sx_sh (.inr (.inl (3, ja w (104 + 2 * t)))) := by
    show (.inr (.inl (3, List.replicate (sx_cpy (ja w (104 + 2 * s)) (ja w (104 + 2 * t)) f g n).length 0)) : sx_C) = .inr (.inl (3, List.replicate (ja w (104 + 2 * t)).length 0))
    rw [hl]
  refine sx_RP.step hi (show sx_acp (sx_own mi) idx ls pc (.int (nI n) :: .int (nI g) :: .ref (104 + 2 * t) :: .int (nI f) :: .ref (104 + 2 * s) :: r) w = some (pc + 3, ls, r, w.set (104 + 2 * t) (.inr (.inl (3, sx_cpy (ja w (104 + 2 * s)) (ja w (104 + 2 * t)) f g n)))) from ?_) (kk _ (hI.set ha.1 hsh (cOK.free (by omega))) Same.set (by unfold ja; rw [sx_gs2 ha.1]))
  unfold sx_acp
  simp only
  rw [hq]
  simp only
  rw [decide_eq_false (nI_pos (n := f) (by omega)), decide_eq_false (nI_pos (n := g) (by omega)), decide_eq_false (nI_pos (n := n) (by omega)), hr, hb.1, ha.1]
  simp only [Bool.not_false, Bool.and_self, cond_true]
  rw [nI_clamp (by omega), nI_clamp (by omega), nI_clamp (by omega), Nat.ble_eq_true_of_le (by omega), Nat.ble_eq_true_of_le (by omega)]
  rfl
end SXC9
theorem cpy_at {f g : List Int64} {sp dp n i : Nat} (h1 : sp + n ≤ f.length) (h2 : dp + n ≤ g.length) (hi : i < g.length) : (sx_cpy f g sp dp n).getD i 0 = if dp ≤ i ∧ i < dp + n then f.getD (sp + (i - dp)) 0 else g.getD i 0 := by
  unfold sx_cpy
  simp only [List.getD_eq_getElem?_getD]
  by_cases c1 : i < dp
  · rw [if_neg (by omega), List.getElem?_append_left (by simp; omega), List.getElem?_append_left (by simp; omega), List.getElem?_take_of_lt c1]
  · by_cases c2 : i < dp + n
    · rw [if_pos (by omega), List.getElem?_append_left (by simp; omega), List.getElem?_append_right (by simp; omega)]
      rw [List.length_take, show min dp g.length = dp by omega, List.getElem?_take_of_lt (by omega), List.getElem?_drop]
    · rw [if_neg (by omega), List.getElem?_append_right (by simp; omega)]
      rw [List.length_append, List.length_take, List.length_take, List.length_drop, List.getElem?_drop, show min dp g.length + min n (f.length - sp) = dp + n by omega, show dp + n + (i - (dp + n)) = i by omega]
theorem NCs_cp {w w2 : List sx_C} (hI : WI w) {s t f g n : Nat} (hs : s < 4) (ht : t < 4) (h1 : f + n ≤ 40) (h2 : g + n ≤ 40) (hS : Same (104 + 2 * t) w w2) (hv : ja w2 (104 + 2 * t) = sx_cpy (ja w (104 + 2 * s)) (ja w (104 + 2 * t)) f g n) : NCs w2 = cpN (NCs w) s f t g n := by
  have l1 := (hI.1.aN hs).2
  have l2 := (hI.1.aN ht).2
  funext s2 i
  unfold cpN NCs
  by_cases h : s2 < 4 ∧ i < 40
  · rw [if_pos h]
    by_cases e : s2 = t
    · subst e
      rw [hv, cpy_at (by omega) (by omega) (by omega)]
      by_cases e2 : g ≤ i ∧ i < g + n
      · rw [if_pos e2, if_pos ⟨rfl, e2⟩, if_pos (by omega)]
      · rw [if_neg e2, if_neg (fun z => e2 z.2), if_pos h]
    · rw [ja_of (hS _ (by omega)), if_neg (fun z => e z.1), if_pos h]
  · rw [if_neg h, if_neg (by omega), if_neg h]
set_option maxRecDepth 20000 in
set_option maxHeartbeats 4000000 in
theorem X117 {xs : Option (List Int32)} {d : Nat} {w : List sx_C} (hI : WI w) {s i : Nat} (hs : s < 4) (hi : i < 40) (v : Int64) : sx_RP xs d 117 0 (lv_args 0 [.ref (103 + 2 * s), .int (nI i), .long v]) [] w (fun r w2 => (r = none ∧ ja w2 (104 + 2 * s) = (ja w (104 + 2 * s)).set i (ptF (fi w (103 + 2 * s) 1) v)) ∧ WI w2 ∧ Same (104 + 2 * s) w w2) := by
  refine sx_RP.step (pc2 := 1) (ls2 := [(0, .ref (103 + 2 * s)), (1, .int (nI i)), (2, .long v)]) (st2 := [.ref (103 + 2 * s)]) (w3 := w) rfl rfl ?_
  refine sx_RP.gf (v := .ref (104 + 2 * s)) rfl rfl (hI.1.oS (show s < 4 by omega)) rfl rfl (show _ = 4 from rfl) ?_
  refine sx_RP.step (pc2 := 5) (ls2 := [(0, .ref (103 + 2 * s)), (1, .int (nI i)), (2, .long v)]) (st2 := [.int (nI i), .ref (104 + 2 * s)]) (w3 := w) rfl rfl ?_
  refine sx_RP.step (pc2 := 6) (ls2 := [(0, .ref (103 + 2 * s)), (1, .int (nI i)), (2, .long v)]) (st2 := [.ref (103 + 2 * s), .int (nI i), .ref (104 + 2 * s)]) (w3 := w) rfl rfl ?_
  refine sx_RP.gf (v := .int (fi w (103 + 2 * s) 1)) rfl rfl (hI.1.oS (show s < 4 by omega)) rfl rfl (show _ = 9 from rfl) ?_
  refine sx_RP.step (pc2 := 11) (ls2 := [(0, .ref (103 + 2 * s)), (1, .int (nI i)), (2, .long v)]) (st2 := [.int 8, .int (fi w (103 + 2 * s) 1), .int (nI i), .ref (104 + 2 * s)]) (w3 := w) rfl rfl ?_
  refine sx_RP.br (p1 := 21) (l1 := [(0, .ref (103 + 2 * s)), (1, .int (nI i)), (2, .long v)]) (s1 := [.int (nI i), .ref (104 + 2 * s)]) (v1 := w) (p2 := 14) (l2 := [(0, .ref (103 + 2 * s)), (1, .int (nI i)), (2, .long v)]) (s2 := [.int (nI i), .ref (104 + 2 * s)]) (v2 := w) rfl rfl (fun q1 => ?_) (fun q1 => ?_)
  · replace q1 := of_decide_eq_true q1
    refine sx_RP.step (pc2 := 22) (ls2 := [(0, .ref (103 + 2 * s)), (1, .int (nI i)), (2, .long v)]) (st2 := [.ref (103 + 2 * s), .int (nI i), .ref (104 + 2 * s)]) (w3 := w) rfl rfl ?_
    refine sx_RP.gf (v := .int (fi w (103 + 2 * s) 1)) rfl rfl (hI.1.oS (show s < 4 by omega)) rfl rfl (show _ = 25 from rfl) ?_
    refine sx_RP.step (pc2 := 27) (ls2 := [(0, .ref (103 + 2 * s)), (1, .int (nI i)), (2, .long v)]) (st2 := [.int 16, .int (fi w (103 + 2 * s) 1), .int (nI i), .ref (104 + 2 * s)]) (w3 := w) rfl rfl ?_
    refine sx_RP.br (p1 := 37) (l1 := [(0, .ref (103 + 2 * s)), (1, .int (nI i)), (2, .long v)]) (s1 := [.int (nI i), .ref (104 + 2 * s)]) (v1 := w) (p2 := 30) (l2 := [(0, .ref (103 + 2 * s)), (1, .int (nI i)), (2, .long v)]) (s2 := [.int (nI i), .ref (104 + 2 * s)]) (v2 := w) rfl rfl (fun q2 => ?_) (fun q2 => ?_)
    · replace q2 := of_decide_eq_true q2
      refine sx_RP.step (pc2 := 38) (ls2 := [(0, .ref (103 + 2 * s)), (1, .int (nI i)), (2, .long v)]) (st2 := [.long v, .int (nI i), .ref (104 + 2 * s)]) (w3 := w) rfl rfl ?_
      refine sx_RP.xL (c := i) hI rfl (hI.1.aN (show s < 4 by omega)) (show i < 40 by omega) (by decide) (by omega) (show _ = 39 from rfl) (fun w3 hI4 hs5 hv6 => ?_)
      refine sx_RP.ret (r := none) rfl rfl ?_
      exact ⟨⟨rfl, by rw [hv6]; unfold ptF; rw [if_neg q1, if_neg q2]⟩, hI4, hs5⟩
    · replace q2 := Decidable.not_not.mp (of_decide_eq_false q2)
      refine sx_RP.step (pc2 := 31) (ls2 := [(0, .ref (103 + 2 * s)), (1, .int (nI i)), (2, .long v)]) (st2 := [.long v, .int (nI i), .ref (104 + 2 * s)]) (w3 := w) rfl rfl ?_
      refine sx_RP.step (pc2 := 32) (ls2 := [(0, .ref (103 + 2 * s)), (1, .int (nI i)), (2, .long v)]) (st2 := [.int v.toInt32, .int (nI i), .ref (104 + 2 * s)]) (w3 := w) rfl rfl ?_
      refine sx_RP.step (pc2 := 33) (ls2 := [(0, .ref (103 + 2 * s)), (1, .int (nI i)), (2, .long v)]) (st2 := [.int v.toInt32.toInt16.toInt32, .int (nI i), .ref (104 + 2 * s)]) (w3 := w) rfl rfl ?_
      refine sx_RP.step (pc2 := 34) (ls2 := [(0, .ref (103 + 2 * s)), (1, .int (nI i)), (2, .long v)]) (st2 := [.long v.toInt32.toInt16.toInt32.toInt64, .int (nI i), .ref (104 + 2 * s)]) (w3 := w) rfl rfl ?_
      refine sx_RP.step (pc2 := 38) (ls2 := [(0, .ref (103 + 2 * s)), (1, .int (nI i)), (2, .long v)]) (st2 := [.long v.toInt32.toInt16.toInt32.toInt64, .int (nI i), .ref (104 + 2 * s)]) (w3 := w) rfl rfl ?_
      refine sx_RP.xL (c := i) hI rfl (hI.1.aN (show s < 4 by omega)) (show i < 40 by omega) (by decide) (by omega) (show _ = 39 from rfl) (fun w7 hI8 hs9 hv10 => ?_)
      refine sx_RP.ret (r := none) rfl rfl ?_
      exact ⟨⟨rfl, by rw [hv10]; unfold ptF; rw [if_neg q1, if_pos q2]⟩, hI8, hs9⟩
  · replace q1 := Decidable.not_not.mp (of_decide_eq_false q1)
    refine sx_RP.step (pc2 := 15) (ls2 := [(0, .ref (103 + 2 * s)), (1, .int (nI i)), (2, .long v)]) (st2 := [.long v, .int (nI i), .ref (104 + 2 * s)]) (w3 := w) rfl rfl ?_
    refine sx_RP.step (pc2 := 16) (ls2 := [(0, .ref (103 + 2 * s)), (1, .int (nI i)), (2, .long v)]) (st2 := [.int v.toInt32, .int (nI i), .ref (104 + 2 * s)]) (w3 := w) rfl rfl ?_
    refine sx_RP.step (pc2 := 17) (ls2 := [(0, .ref (103 + 2 * s)), (1, .int (nI i)), (2, .long v)]) (st2 := [.int v.toInt32.toInt8.toInt32, .int (nI i), .ref (104 + 2 * s)]) (w3 := w) rfl rfl ?_
    refine sx_RP.step (pc2 := 18) (ls2 := [(0, .ref (103 + 2 * s)), (1, .int (nI i)), (2, .long v)]) (st2 := [.long v.toInt32.toInt8.toInt32.toInt64, .int (nI i), .ref (104 + 2 * s)]) (w3 := w) rfl rfl ?_
    refine sx_RP.step (pc2 := 38) (ls2 := [(0, .ref (103 + 2 * s)), (1, .int (nI i)), (2, .long v)]) (st2 := [.long v.toInt32.toInt8.toInt32.toInt64, .int (nI i), .ref (104 + 2 * s)]) (w3 := w) rfl rfl ?_
    refine sx_RP.xL (c := i) hI rfl (hI.1.aN (show s < 4 by omega)) (show i < 40 by omega) (by decide) (by omega) (show _ = 39 from rfl) (fun w11 hI12 hs13 hv14 => ?_)
    refine sx_RP.ret (r := none) rfl rfl ?_
    exact ⟨⟨rfl, by rw [hv14]; unfold ptF; rw [if_pos q1]⟩, hI12, hs13⟩
set_option maxRecDepth 20000 in
set_option maxHeartbeats 4000000 in
theorem X233 {xs : Option (List Int32)} {d : Nat} {w : List sx_C} (hI : WI w) {s i : Nat} (hs : s < 4) (hi : i < 40) (v : Int64) : sx_RP xs d 233 0 (lv_args 0 [.ref 111, .int (nI s), .int (nI i), .long v]) [] w (fun r w2 => (r = none ∧ ja w2 124 = (ja w 124).set (40 * s + i) (ptF ((ia w 122).getD s 0) v)) ∧ WI w2 ∧ Same (124) w w2) := by
  refine sx_RP.step (pc2 := 1) (ls2 := [(0, .ref 111), (1, .int (nI s)), (2, .int (nI i)), (3, .long v)]) (st2 := [.ref 111]) (w3 := w) rfl rfl ?_
  refine sx_RP.gf (v := .ref 124) rfl rfl hI.1.o111 rfl rfl (show _ = 4 from rfl) ?_
  refine sx_RP.step (pc2 := 6) (ls2 := [(0, .ref 111), (1, .int (nI s)), (2, .int (nI i)), (3, .long v)]) (st2 := [.int 40, .ref 124]) (w3 := w) rfl rfl ?_
  refine sx_RP.step (pc2 := 7) (ls2 := [(0, .ref 111), (1, .int (nI s)), (2, .int (nI i)), (3, .long v)]) (st2 := [.int (nI s), .int 40, .ref 124]) (w3 := w) rfl rfl ?_
  refine sx_RP.step (pc2 := 8) (ls2 := [(0, .ref 111), (1, .int (nI s)), (2, .int (nI i)), (3, .long v)]) (st2 := [.int (40 * (nI s)), .ref 124]) (w3 := w) rfl rfl ?_
  rw [show (40 * (nI s) : Int32) = nI (40 * s) from nI_mul 40 s]
  refine sx_RP.step (pc2 := 9) (ls2 := [(0, .ref 111), (1, .int (nI s)), (2, .int (nI i)), (3, .long v)]) (st2 := [.int (nI i), .int (nI (40 * s)), .ref 124]) (w3 := w) rfl rfl ?_
  refine sx_RP.step (pc2 := 10) (ls2 := [(0, .ref 111), (1, .int (nI s)), (2, .int (nI i)), (3, .long v)]) (st2 := [.int ((nI (40 * s)) + (nI i)), .ref 124]) (w3 := w) rfl rfl ?_
  rw [show ((nI (40 * s)) + (nI i) : Int32) = nI ((40 * s) + i) from nI_add (40 * s) i]
  refine sx_RP.step (pc2 := 11) (ls2 := [(0, .ref 111), (1, .int (nI s)), (2, .int (nI i)), (3, .long v)]) (st2 := [.ref 111, .int (nI ((40 * s) + i)), .ref 124]) (w3 := w) rfl rfl ?_
  refine sx_RP.gf (v := .ref 122) rfl rfl hI.1.o111 rfl rfl (show _ = 14 from rfl) ?_
  refine sx_RP.step (pc2 := 15) (ls2 := [(0, .ref 111), (1, .int (nI s)), (2, .int (nI i)), (3, .long v)]) (st2 := [.int (nI s), .ref 122, .int (nI ((40 * s) + i)), .ref 124]) (w3 := w) rfl rfl ?_
  refine sx_RP.ild (c := s) rfl hI.1.a122.1 hI.1.a122.2 (sx_in_nI (show s < 4 by omega) (by decide)) (show (nI s).toNatClampNeg = s from nI_clamp (by omega)) (show _ = 16 from rfl) ?_
  refine sx_RP.step (pc2 := 18) (ls2 := [(0, .ref 111), (1, .int (nI s)), (2, .int (nI i)), (3, .long v)]) (st2 := [.int 8, .int ((ia w 122).getD s 0), .int (nI ((40 * s) + i)), .ref 124]) (w3 := w) rfl rfl ?_
  refine sx_RP.br (p1 := 28) (l1 := [(0, .ref 111), (1, .int (nI s)), (2, .int (nI i)), (3, .long v)]) (s1 := [.int (nI ((40 * s) + i)), .ref 124]) (v1 := w) (p2 := 21) (l2 := [(0, .ref 111), (1, .int (nI s)), (2, .int (nI i)), (3, .long v)]) (s2 := [.int (nI ((40 * s) + i)), .ref 124]) (v2 := w) rfl rfl (fun q1 => ?_) (fun q1 => ?_)
  · replace q1 := of_decide_eq_true q1
    refine sx_RP.step (pc2 := 29) (ls2 := [(0, .ref 111), (1, .int (nI s)), (2, .int (nI i)), (3, .long v)]) (st2 := [.ref 111, .int (nI ((40 * s) + i)), .ref 124]) (w3 := w) rfl rfl ?_
    refine sx_RP.gf (v := .ref 122) rfl rfl hI.1.o111 rfl rfl (show _ = 32 from rfl) ?_
    refine sx_RP.step (pc2 := 33) (ls2 := [(0, .ref 111), (1, .int (nI s)), (2, .int (nI i)), (3, .long v)]) (st2 := [.int (nI s), .ref 122, .int (nI ((40 * s) + i)), .ref 124]) (w3 := w) rfl rfl ?_
    refine sx_RP.ild (c := s) rfl hI.1.a122.1 hI.1.a122.2 (sx_in_nI (show s < 4 by omega) (by decide)) (show (nI s).toNatClampNeg = s from nI_clamp (by omega)) (show _ = 34 from rfl) ?_
    refine sx_RP.step (pc2 := 36) (ls2 := [(0, .ref 111), (1, .int (nI s)), (2, .int (nI i)), (3, .long v)]) (st2 := [.int 16, .int ((ia w 122).getD s 0), .int (nI ((40 * s) + i)), .ref 124]) (w3 := w) rfl rfl ?_
    refine sx_RP.br (p1 := 46) (l1 := [(0, .ref 111), (1, .int (nI s)), (2, .int (nI i)), (3, .long v)]) (s1 := [.int (nI ((40 * s) + i)), .ref 124]) (v1 := w) (p2 := 39) (l2 := [(0, .ref 111), (1, .int (nI s)), (2, .int (nI i)), (3, .long v)]) (s2 := [.int (nI ((40 * s) + i)), .ref 124]) (v2 := w) rfl rfl (fun q2 => ?_) (fun q2 => ?_)
    · replace q2 := of_decide_eq_true q2
      refine sx_RP.step (pc2 := 47) (ls2 := [(0, .ref 111), (1, .int (nI s)), (2, .int (nI i)), (3, .long v)]) (st2 := [.long v, .int (nI ((40 * s) + i)), .ref 124]) (w3 := w) rfl rfl ?_
      refine sx_RP.xL (c := ((40 * s) + i)) hI rfl hI.1.a124 (show ((40 * s) + i) < 160 by omega) (by decide) (by omega) (show _ = 48 from rfl) (fun w3 hI4 hs5 hv6 => ?_)
      refine sx_RP.ret (r := none) rfl rfl ?_
      exact ⟨⟨rfl, by rw [hv6]; unfold ptF; rw [if_neg q1, if_neg q2]⟩, hI4, hs5⟩
    · replace q2 := Decidable.not_not.mp (of_decide_eq_false q2)
      refine sx_RP.step (pc2 := 40) (ls2 := [(0, .ref 111), (1, .int (nI s)), (2, .int (nI i)), (3, .long v)]) (st2 := [.long v, .int (nI ((40 * s) + i)), .ref 124]) (w3 := w) rfl rfl ?_
      refine sx_RP.step (pc2 := 41) (ls2 := [(0, .ref 111), (1, .int (nI s)), (2, .int (nI i)), (3, .long v)]) (st2 := [.int v.toInt32, .int (nI ((40 * s) + i)), .ref 124]) (w3 := w) rfl rfl ?_
      refine sx_RP.step (pc2 := 42) (ls2 := [(0, .ref 111), (1, .int (nI s)), (2, .int (nI i)), (3, .long v)]) (st2 := [.int v.toInt32.toInt16.toInt32, .int (nI ((40 * s) + i)), .ref 124]) (w3 := w) rfl rfl ?_
      refine sx_RP.step (pc2 := 43) (ls2 := [(0, .ref 111), (1, .int (nI s)), (2, .int (nI i)), (3, .long v)]) (st2 := [.long v.toInt32.toInt16.toInt32.toInt64, .int (nI ((40 * s) + i)), .ref 124]) (w3 := w) rfl rfl ?_
      refine sx_RP.step (pc2 := 47) (ls2 := [(0, .ref 111), (1, .int (nI s)), (2, .int (nI i)), (3, .long v)]) (st2 := [.long v.toInt32.toInt16.toInt32.toInt64, .int (nI ((40 * s) + i)), .ref 124]) (w3 := w) rfl rfl ?_
      refine sx_RP.xL (c := ((40 * s) + i)) hI rfl hI.1.a124 (show ((40 * s) + i) < 160 by omega) (by decide) (by omega) (show _ = 48 from rfl) (fun w7 hI8 hs9 hv10 => ?_)
      refine sx_RP.ret (r := none) rfl rfl ?_
      exact ⟨⟨rfl, by rw [hv10]; unfold ptF; rw [if_neg q1, if_pos q2]⟩, hI8, hs9⟩
  · replace q1 := Decidable.not_not.mp (of_decide_eq_false q1)
    refine sx_RP.step (pc2 := 22) (ls2 := [(0, .ref 111), (1, .int (nI s)), (2, .int (nI i)), (3, .long v)]) (st2 := [.long v, .int (nI ((40 * s) + i)), .ref 124]) (w3 := w) rfl rfl ?_
    refine sx_RP.step (pc2 := 23) (ls2 := [(0, .ref 111), (1, .int (nI s)), (2, .int (nI i)), (3, .long v)]) (st2 := [.int v.toInt32, .int (nI ((40 * s) + i)), .ref 124]) (w3 := w) rfl rfl ?_
    refine sx_RP.step (pc2 := 24) (ls2 := [(0, .ref 111), (1, .int (nI s)), (2, .int (nI i)), (3, .long v)]) (st2 := [.int v.toInt32.toInt8.toInt32, .int (nI ((40 * s) + i)), .ref 124]) (w3 := w) rfl rfl ?_
    refine sx_RP.step (pc2 := 25) (ls2 := [(0, .ref 111), (1, .int (nI s)), (2, .int (nI i)), (3, .long v)]) (st2 := [.long v.toInt32.toInt8.toInt32.toInt64, .int (nI ((40 * s) + i)), .ref 124]) (w3 := w) rfl rfl ?_
    refine sx_RP.step (pc2 := 47) (ls2 := [(0, .ref 111), (1, .int (nI s)), (2, .int (nI i)), (3, .long v)]) (st2 := [.long v.toInt32.toInt8.toInt32.toInt64, .int (nI ((40 * s) + i)), .ref 124]) (w3 := w) rfl rfl ?_
    refine sx_RP.xL (c := ((40 * s) + i)) hI rfl hI.1.a124 (show ((40 * s) + i) < 160 by omega) (by decide) (by omega) (show _ = 48 from rfl) (fun w11 hI12 hs13 hv14 => ?_)
    refine sx_RP.ret (r := none) rfl rfl ?_
    exact ⟨⟨rfl, by rw [hv14]; unfold ptF; rw [if_pos q1]⟩, hI12, hs13⟩
set_option maxRecDepth 20000 in
set_option maxHeartbeats 4000000 in
theorem Z115 {xs : Option (List Int32)} {d : Nat} {w : List sx_C} (hI : WI w) (a1 a2 : Int32) (v : Int64) : sx_RP xs (d + 7) 115 0 (lv_args 0 [.ref 0, .int a1, .int a2, .long v]) [] w (fun r w2 => (r = some (.long (wrA (FCs w) (NCs w) a1 a2)) ∧ NCs w2 = wrR (FCs w) (NCs w) a1 a2 v ∧ FCs w2 = FCs w) ∧ WI w2 ∧ ∀ a, a ≠ 99 → (a < 104 ∨ 111 ≤ a) → w2[a]? = w[a]?) := by
  refine sx_RP.step (pc2 := 1) (ls2 := [(0, .ref 0), (1, .int a1), (2, .int a2), (3, .long v)]) (st2 := [.int a1]) (w3 := w) rfl rfl ?_
  rcases in_cases a1 0 3 (m := 0) (n := 3) rfl rfl (by decide) (by decide) with q1 | ⟨x2, hx3, hx4, rfl⟩
  · refine sx_RP.cu (as := [.int a1]) (rest2 := []) (st3 := [.int 0]) rfl rfl rfl rfl rfl (cx_112n q1) rfl ?_
    refine sx_RP.step (pc2 := 7) (ls2 := [(0, .ref 0), (1, .int a1), (2, .int a2), (3, .long v)]) (st2 := []) (w3 := w) rfl rfl ?_
    refine sx_RP.step (pc2 := 8) (ls2 := [(0, .ref 0), (1, .int a1), (2, .int a2), (3, .long v)]) (st2 := [.ref 0]) (w3 := w) rfl rfl ?_
    refine sx_RP.step (pc2 := 10) (ls2 := [(0, .ref 0), (1, .int a1), (2, .int a2), (3, .long v)]) (st2 := [.int (-1000000001), .ref 0]) (w3 := w) rfl rfl ?_
    refine sx_RP.callp (as2 := [.ref 0, .int (-1000000001)]) (rest2 := []) rfl rfl (sx_inv_v2 (mi := 115) (k := 78) (st := [.int (-1000000001), .ref 0]) (w := w) rfl rfl hI.1.o0 rfl rfl rfl) rfl rfl rfl (S9_0 hI) (show _ = 13 from rfl) ?_
    rintro r4 w7 ⟨rfl, hI8, hs6⟩
    show sx_RP _ _ _ _ _ [.int (-1000000001)] _ _
    refine sx_RP.step (pc2 := 14) (ls2 := [(0, .ref 0), (1, .int a1), (2, .int a2), (3, .long v)]) (st2 := [.long (-1000000001)]) (w3 := w7) rfl rfl ?_
    refine sx_RP.ret (r := (some (.long (-1000000001)))) rfl rfl ?_
    exact ⟨⟨by rw [(wr_1 (F := FCs w) (N := NCs w) (v := v) q1).1], by rw [(wr_1 (F := FCs w) (N := NCs w) (v := v) q1).2]; exact NCs_eq (fun q hq => hs6 _ (by omega)), FCs_eq (fun q hq => hs6 _ (by omega))⟩, hI8, fun a h1 h2 => hs6 a h1⟩
  · refine sx_RP.cu (as := [.int (nI x2)]) (rest2 := []) (st3 := [.int 1]) rfl rfl rfl rfl rfl (cx_112p ⟨nI_le (a := 0) hx3 (by omega), nI_le (b := 3) hx4 (by decide)⟩) rfl ?_
    refine sx_RP.step (pc2 := 15) (ls2 := [(0, .ref 0), (1, .int (nI x2)), (2, .int a2), (3, .long v)]) (st2 := []) (w3 := w) rfl rfl ?_
    refine sx_RP.step (pc2 := 16) (ls2 := [(0, .ref 0), (1, .int (nI x2)), (2, .int a2), (3, .long v)]) (st2 := [.ref 0]) (w3 := w) rfl rfl ?_
    refine sx_RP.gf (v := .ref 98) rfl rfl hI.1.o0 rfl rfl (show _ = 19 from rfl) ?_
    refine sx_RP.step (pc2 := 20) (ls2 := [(0, .ref 0), (1, .int (nI x2)), (2, .int a2), (3, .long v)]) (st2 := [.int (nI x2), .ref 98]) (w3 := w) rfl rfl ?_
    refine sx_RP.ald (v := .ref (103 + 2 * x2)) rfl hI.1.a98 rfl (shA_at (show x2 < 4 by omega)) (show _ = 21 from rfl) ?_
    refine sx_RP.step (pc2 := 23) (ls2 := [(5, .ref (103 + 2 * x2)), (0, .ref 0), (1, .int (nI x2)), (2, .int a2), (3, .long v)]) (st2 := []) (w3 := w) rfl rfl ?_
    refine sx_RP.step (pc2 := 25) (ls2 := [(5, .ref (103 + 2 * x2)), (0, .ref 0), (1, .int (nI x2)), (2, .int a2), (3, .long v)]) (st2 := [.ref (103 + 2 * x2)]) (w3 := w) rfl rfl ?_
    rcases Decidable.em (fi w (103 + 2 * x2) 1 = 0) with c9 | c9
    · refine sx_RP.cu (as := [.ref (103 + 2 * x2)]) (rest2 := []) (st3 := [.int 1]) rfl rfl (sx_inv_v2 (mi := 115) (k := 310) (st := [.ref (103 + 2 * x2)]) (w := w) rfl rfl (hI.1.oS (show x2 < 4 by omega)) rfl rfl rfl) rfl rfl (p116y hI (show x2 < 4 by omega) c9) rfl ?_
      refine sx_RP.step (pc2 := 31) (ls2 := [(5, .ref (103 + 2 * x2)), (0, .ref 0), (1, .int (nI x2)), (2, .int a2), (3, .long v)]) (st2 := []) (w3 := w) rfl rfl ?_
      refine sx_RP.step (pc2 := 32) (ls2 := [(5, .ref (103 + 2 * x2)), (0, .ref 0), (1, .int (nI x2)), (2, .int a2), (3, .long v)]) (st2 := [.ref 0]) (w3 := w) rfl rfl ?_
      refine sx_RP.step (pc2 := 35) (ls2 := [(5, .ref (103 + 2 * x2)), (0, .ref 0), (1, .int (nI x2)), (2, .int a2), (3, .long v)]) (st2 := [.int (-1000000006), .ref 0]) (w3 := w) rfl rfl ?_
      refine sx_RP.callp (as2 := [.ref 0, .int (-1000000006)]) (rest2 := []) rfl rfl (sx_inv_v2 (mi := 115) (k := 78) (st := [.int (-1000000006), .ref 0]) (w := w) rfl rfl hI.1.o0 rfl rfl rfl) rfl rfl rfl (S9_5 hI) (show _ = 38 from rfl) ?_
      rintro r4 w11 ⟨rfl, hI12, hs10⟩
      show sx_RP _ _ _ _ _ [.int (-1000000006)] _ _
      refine sx_RP.step (pc2 := 39) (ls2 := [(5, .ref (103 + 2 * x2)), (0, .ref 0), (1, .int (nI x2)), (2, .int a2), (3, .long v)]) (st2 := [.long (-1000000006)]) (w3 := w11) rfl rfl ?_
      refine sx_RP.ret (r := (some (.long (-1000000006)))) rfl rfl ?_
      exact ⟨⟨by rw [(wr_2 (F := FCs w) (N := NCs w) (v := v) (show x2 < 4 by omega) (FCs_at (by omega)) c9).1], by rw [(wr_2 (F := FCs w) (N := NCs w) (v := v) (show x2 < 4 by omega) (FCs_at (by omega)) c9).2]; exact NCs_eq (fun q hq => hs10 _ (by omega)), FCs_eq (fun q hq => hs10 _ (by omega))⟩, hI12, fun a h1 h2 => hs10 a h1⟩
    · refine sx_RP.cu (as := [.ref (103 + 2 * x2)]) (rest2 := []) (st3 := [.int 0]) rfl rfl (sx_inv_v2 (mi := 115) (k := 310) (st := [.ref (103 + 2 * x2)]) (w := w) rfl rfl (hI.1.oS (show x2 < 4 by omega)) rfl rfl rfl) rfl rfl (p116n hI (show x2 < 4 by omega) c9) rfl ?_
      refine sx_RP.step (pc2 := 40) (ls2 := [(5, .ref (103 + 2 * x2)), (0, .ref 0), (1, .int (nI x2)), (2, .int a2), (3, .long v)]) (st2 := []) (w3 := w) rfl rfl ?_
      refine sx_RP.step (pc2 := 41) (ls2 := [(5, .ref (103 + 2 * x2)), (0, .ref 0), (1, .int (nI x2)), (2, .int a2), (3, .long v)]) (st2 := [.int a2]) (w3 := w) rfl rfl ?_
      refine sx_RP.step (pc2 := 42) (ls2 := [(5, .ref (103 + 2 * x2)), (0, .ref 0), (1, .int (nI x2)), (2, .int a2), (3, .long v)]) (st2 := [.int 0, .int a2]) (w3 := w) rfl rfl ?_
      refine sx_RP.step (pc2 := 44) (ls2 := [(5, .ref (103 + 2 * x2)), (0, .ref 0), (1, .int (nI x2)), (2, .int a2), (3, .long v)]) (st2 := [.ref (103 + 2 * x2), .int 0, .int a2]) (w3 := w) rfl rfl ?_
      refine sx_RP.gf (v := .int (fi w (103 + 2 * x2) 2)) rfl rfl (hI.1.oS (show x2 < 4 by omega)) rfl rfl (show _ = 47 from rfl) ?_
      obtain ⟨x13, hx14, ex15⟩ : inR (fi w (103 + 2 * x2) 2) 40 := hI.sh (show x2 < 4 by omega)
      rw [ex15]
      refine sx_RP.step (pc2 := 48) (ls2 := [(5, .ref (103 + 2 * x2)), (0, .ref 0), (1, .int (nI x2)), (2, .int a2), (3, .long v)]) (st2 := [.int 1, .int (nI x13), .int 0, .int a2]) (w3 := w) rfl rfl ?_
      refine sx_RP.step (pc2 := 49) (ls2 := [(5, .ref (103 + 2 * x2)), (0, .ref 0), (1, .int (nI x2)), (2, .int a2), (3, .long v)]) (st2 := [.int ((nI x13) - 1), .int 0, .int a2]) (w3 := w) rfl rfl ?_
      rcases Decidable.em (0 ≤ a2 ∧ a2 < nI x13) with c16 | c16
      · obtain ⟨x17, hx18, rfl⟩ := idx_getz c16 (by omega)
        refine sx_RP.cu (as := [.int (nI x17), .int 0, .int ((nI x13) - 1)]) (rest2 := []) (st3 := [.int 1]) rfl rfl rfl rfl rfl (cx_8p ((in_ltz (by omega)).mpr c16)) rfl ?_
        refine sx_RP.step (pc2 := 63) (ls2 := [(5, .ref (103 + 2 * x2)), (0, .ref 0), (1, .int (nI x2)), (2, .int (nI x17)), (3, .long v)]) (st2 := []) (w3 := w) rfl rfl ?_
        refine sx_RP.step (pc2 := 65) (ls2 := [(5, .ref (103 + 2 * x2)), (0, .ref 0), (1, .int (nI x2)), (2, .int (nI x17)), (3, .long v)]) (st2 := [.ref (103 + 2 * x2)]) (w3 := w) rfl rfl ?_
        refine sx_RP.gf (v := .ref (104 + 2 * x2)) rfl rfl (hI.1.oS (show x2 < 4 by omega)) rfl rfl (show _ = 68 from rfl) ?_
        refine sx_RP.step (pc2 := 69) (ls2 := [(5, .ref (103 + 2 * x2)), (0, .ref 0), (1, .int (nI x2)), (2, .int (nI x17)), (3, .long v)]) (st2 := [.int (nI x17), .ref (104 + 2 * x2)]) (w3 := w) rfl rfl ?_
        refine sx_RP.lld (c := x17) rfl (hI.1.aN (show x2 < 4 by omega)).1 (hI.1.aN (show x2 < 4 by omega)).2 (sx_in_nI (show x17 < 40 by omega) (by decide)) (show (nI x17).toNatClampNeg = x17 from nI_clamp (by omega)) (show _ = 70 from rfl) ?_
        refine sx_RP.step (pc2 := 72) (ls2 := [(6, .long ((ja w (104 + 2 * x2)).getD x17 0)), (5, .ref (103 + 2 * x2)), (0, .ref 0), (1, .int (nI x2)), (2, .int (nI x17)), (3, .long v)]) (st2 := []) (w3 := w) rfl rfl ?_
        refine sx_RP.step (pc2 := 74) (ls2 := [(6, .long ((ja w (104 + 2 * x2)).getD x17 0)), (5, .ref (103 + 2 * x2)), (0, .ref 0), (1, .int (nI x2)), (2, .int (nI x17)), (3, .long v)]) (st2 := [.ref (103 + 2 * x2)]) (w3 := w) rfl rfl ?_
        refine sx_RP.step (pc2 := 75) (ls2 := [(6, .long ((ja w (104 + 2 * x2)).getD x17 0)), (5, .ref (103 + 2 * x2)), (0, .ref 0), (1, .int (nI x2)), (2, .int (nI x17)), (3, .long v)]) (st2 := [.int (nI x17), .ref (103 + 2 * x2)]) (w3 := w) rfl rfl ?_
        refine sx_RP.step (pc2 := 76) (ls2 := [(6, .long ((ja w (104 + 2 * x2)).getD x17 0)), (5, .ref (103 + 2 * x2)), (0, .ref 0), (1, .int (nI x2)), (2, .int (nI x17)), (3, .long v)]) (st2 := [.long v, .int (nI x17), .ref (103 + 2 * x2)]) (w3 := w) rfl rfl ?_
        refine sx_RP.callp (as2 := [.ref (103 + 2 * x2), .int (nI x17), .long v]) (rest2 := []) rfl rfl (sx_inv_v2 (mi := 115) (k := 318) (st := [.long v, .int (nI x17), .ref (103 + 2 * x2)]) (w := w) rfl rfl (hI.1.oS (show x2 < 4 by omega)) rfl rfl rfl) rfl rfl rfl (X117 hI (show x2 < 4 by omega) (show x17 < 40 by omega) v) (show _ = 79 from rfl) ?_
        rintro r4 w21 ⟨⟨rfl, hv19⟩, hI22, hs20⟩
        show sx_RP _ _ _ _ _ [] _ _
        refine sx_RP.step (pc2 := 81) (ls2 := [(6, .long ((ja w (104 + 2 * x2)).getD x17 0)), (5, .ref (103 + 2 * x2)), (0, .ref 0), (1, .int (nI x2)), (2, .int (nI x17)), (3, .long v)]) (st2 := [.long ((ja w (104 + 2 * x2)).getD x17 0)]) (w3 := w21) rfl rfl ?_
        refine sx_RP.ret (r := (some (.long ((ja w (104 + 2 * x2)).getD x17 0)))) rfl rfl ?_
        exact ⟨⟨by rw [(wr_4 (F := FCs w) (N := NCs w) (v := v) (show x2 < 4 by omega) ((FCs_at (by omega)).trans (by rw [ex15])) c9 (show x17 < 40 by omega) c16).1, NCs_at (by omega) (by omega)], by rw [(wr_4 (F := FCs w) (N := NCs w) (v := v) (show x2 < 4 by omega) ((FCs_at (by omega)).trans (by rw [ex15])) c9 (show x17 < 40 by omega) c16).2]; exact NCs_wr hI (by omega) (by omega) hs20 hv19, FCs_eq (fun q hq => hs20 _ (by omega))⟩, hI22, fun a h1 h2 => hs20 a (by omega)⟩
      · refine sx_RP.cu (as := [.int a2, .int 0, .int ((nI x13) - 1)]) (rest2 := []) (st3 := [.int 0]) rfl rfl rfl rfl rfl (cx_8n (fun q => c16 ((in_ltz (by omega)).mp q))) rfl ?_
        refine sx_RP.step (pc2 := 55) (ls2 := [(5, .ref (103 + 2 * x2)), (0, .ref 0), (1, .int (nI x2)), (2, .int a2), (3, .long v)]) (st2 := []) (w3 := w) rfl rfl ?_
        refine sx_RP.step (pc2 := 56) (ls2 := [(5, .ref (103 + 2 * x2)), (0, .ref 0), (1, .int (nI x2)), (2, .int a2), (3, .long v)]) (st2 := [.ref 0]) (w3 := w) rfl rfl ?_
        refine sx_RP.step (pc2 := 58) (ls2 := [(5, .ref (103 + 2 * x2)), (0, .ref 0), (1, .int (nI x2)), (2, .int a2), (3, .long v)]) (st2 := [.int (-1000000001), .ref 0]) (w3 := w) rfl rfl ?_
        refine sx_RP.callp (as2 := [.ref 0, .int (-1000000001)]) (rest2 := []) rfl rfl (sx_inv_v2 (mi := 115) (k := 78) (st := [.int (-1000000001), .ref 0]) (w := w) rfl rfl hI.1.o0 rfl rfl rfl) rfl rfl rfl (S9_0 hI) (show _ = 61 from rfl) ?_
        rintro r4 w24 ⟨rfl, hI25, hs23⟩
        show sx_RP _ _ _ _ _ [.int (-1000000001)] _ _
        refine sx_RP.step (pc2 := 62) (ls2 := [(5, .ref (103 + 2 * x2)), (0, .ref 0), (1, .int (nI x2)), (2, .int a2), (3, .long v)]) (st2 := [.long (-1000000001)]) (w3 := w24) rfl rfl ?_
        refine sx_RP.ret (r := (some (.long (-1000000001)))) rfl rfl ?_
        exact ⟨⟨by rw [(wr_3 (F := FCs w) (N := NCs w) (v := v) (show x2 < 4 by omega) ((FCs_at (by omega)).trans (by rw [ex15])) c9 c16).1], by rw [(wr_3 (F := FCs w) (N := NCs w) (v := v) (show x2 < 4 by omega) ((FCs_at (by omega)).trans (by rw [ex15])) c9 c16).2]; exact NCs_eq (fun q hq => hs23 _ (by omega)), FCs_eq (fun q hq => hs23 _ (by omega))⟩, hI25, fun a h1 h2 => hs23 a h1⟩
set_option maxRecDepth 20000 in
set_option maxHeartbeats 4000000 in
theorem Y232 {xs : Option (List Int32)} {d : Nat} {w : List sx_C} (hI : WI w) (a1 a2 : Int32) (v : Int64) : sx_RP xs (d + 7) 232 0 (lv_args 0 [.ref 111, .int a1, .int a2, .long v]) [] w (fun r w2 => (r = some (.long (wrA (FMs w) (NMs w) a1 a2)) ∧ NMs w2 = wrR (FMs w) (NMs w) a1 a2 v ∧ FMs w2 = FMs w) ∧ WI w2 ∧ ∀ a, a ≠ 116 → a ≠ 124 → w2[a]? = w[a]?) := by
  refine sx_RP.step (pc2 := 1) (ls2 := [(0, .ref 111), (1, .int a1), (2, .int a2), (3, .long v)]) (st2 := [.int a1]) (w3 := w) rfl rfl ?_
  rcases in_cases a1 0 3 (m := 0) (n := 3) rfl rfl (by decide) (by decide) with q1 | ⟨x2, hx3, hx4, rfl⟩
  · refine sx_RP.cu (as := [.int a1]) (rest2 := []) (st3 := [.int 0]) rfl rfl rfl rfl rfl (cx_231n q1) rfl ?_
    refine sx_RP.step (pc2 := 7) (ls2 := [(0, .ref 111), (1, .int a1), (2, .int a2), (3, .long v)]) (st2 := []) (w3 := w) rfl rfl ?_
    refine sx_RP.step (pc2 := 8) (ls2 := [(0, .ref 111), (1, .int a1), (2, .int a2), (3, .long v)]) (st2 := [.ref 111]) (w3 := w) rfl rfl ?_
    refine sx_RP.step (pc2 := 9) (ls2 := [(0, .ref 111), (1, .int a1), (2, .int a2), (3, .long v)]) (st2 := [.int 0, .ref 111]) (w3 := w) rfl rfl ?_
    refine sx_RP.callp (as2 := [.ref 111, .int 0]) (rest2 := []) rfl rfl (sx_inv_v2 (mi := 232) (k := 70) (st := [.int 0, .ref 111]) (w := w) rfl rfl hI.1.o111 rfl rfl rfl) rfl rfl rfl (S133_0 hI) (show _ = 12 from rfl) ?_
    rintro r4 w7 ⟨rfl, hI8, hs6⟩
    show sx_RP _ _ _ _ _ [.int (-1000000001)] _ _
    refine sx_RP.step (pc2 := 13) (ls2 := [(0, .ref 111), (1, .int a1), (2, .int a2), (3, .long v)]) (st2 := [.long (-1000000001)]) (w3 := w7) rfl rfl ?_
    refine sx_RP.ret (r := (some (.long (-1000000001)))) rfl rfl ?_
    exact ⟨⟨by rw [(wr_1 (F := FMs w) (N := NMs w) (v := v) q1).1], by rw [(wr_1 (F := FMs w) (N := NMs w) (v := v) q1).2]; exact NMs_eq (hs6 124 (by decide)), FMs_eq (hs6 122 (by decide)) (hs6 123 (by decide))⟩, hI8, fun a h1 h2 => hs6 a h1⟩
  · refine sx_RP.cu (as := [.int (nI x2)]) (rest2 := []) (st3 := [.int 1]) rfl rfl rfl rfl rfl (cx_231p ⟨nI_le (a := 0) hx3 (by omega), nI_le (b := 3) hx4 (by decide)⟩) rfl ?_
    refine sx_RP.step (pc2 := 14) (ls2 := [(0, .ref 111), (1, .int (nI x2)), (2, .int a2), (3, .long v)]) (st2 := []) (w3 := w) rfl rfl ?_
    refine sx_RP.step (pc2 := 15) (ls2 := [(0, .ref 111), (1, .int (nI x2)), (2, .int a2), (3, .long v)]) (st2 := [.ref 111]) (w3 := w) rfl rfl ?_
    refine sx_RP.gf (v := .ref 122) rfl rfl hI.1.o111 rfl rfl (show _ = 18 from rfl) ?_
    refine sx_RP.step (pc2 := 19) (ls2 := [(0, .ref 111), (1, .int (nI x2)), (2, .int a2), (3, .long v)]) (st2 := [.int (nI x2), .ref 122]) (w3 := w) rfl rfl ?_
    refine sx_RP.ild (c := x2) rfl hI.1.a122.1 hI.1.a122.2 (sx_in_nI (show x2 < 4 by omega) (by decide)) (show (nI x2).toNatClampNeg = x2 from nI_clamp (by omega)) (show _ = 20 from rfl) ?_
    refine sx_RP.br (p1 := 30) (l1 := [(0, .ref 111), (1, .int (nI x2)), (2, .int a2), (3, .long v)]) (s1 := []) (v1 := w) (p2 := 23) (l2 := [(0, .ref 111), (1, .int (nI x2)), (2, .int a2), (3, .long v)]) (s2 := []) (v2 := w) rfl rfl (fun q9 => ?_) (fun q9 => ?_)
    · replace q9 := of_decide_eq_true q9
      refine sx_RP.step (pc2 := 31) (ls2 := [(0, .ref 111), (1, .int (nI x2)), (2, .int a2), (3, .long v)]) (st2 := [.int a2]) (w3 := w) rfl rfl ?_
      refine sx_RP.step (pc2 := 32) (ls2 := [(0, .ref 111), (1, .int (nI x2)), (2, .int a2), (3, .long v)]) (st2 := [.int 0, .int a2]) (w3 := w) rfl rfl ?_
      refine sx_RP.step (pc2 := 33) (ls2 := [(0, .ref 111), (1, .int (nI x2)), (2, .int a2), (3, .long v)]) (st2 := [.ref 111, .int 0, .int a2]) (w3 := w) rfl rfl ?_
      refine sx_RP.gf (v := .ref 123) rfl rfl hI.1.o111 rfl rfl (show _ = 36 from rfl) ?_
      refine sx_RP.step (pc2 := 37) (ls2 := [(0, .ref 111), (1, .int (nI x2)), (2, .int a2), (3, .long v)]) (st2 := [.int (nI x2), .ref 123, .int 0, .int a2]) (w3 := w) rfl rfl ?_
      refine sx_RP.ild (c := x2) rfl hI.1.a123.1 hI.1.a123.2 (sx_in_nI (show x2 < 4 by omega) (by decide)) (show (nI x2).toNatClampNeg = x2 from nI_clamp (by omega)) (show _ = 38 from rfl) ?_
      obtain ⟨x10, hx11, ex12⟩ : inR ((ia w 123).getD x2 0) 40 := hI.l (show x2 < 4 by omega)
      rw [ex12]
      refine sx_RP.step (pc2 := 39) (ls2 := [(0, .ref 111), (1, .int (nI x2)), (2, .int a2), (3, .long v)]) (st2 := [.int 1, .int (nI x10), .int 0, .int a2]) (w3 := w) rfl rfl ?_
      refine sx_RP.step (pc2 := 40) (ls2 := [(0, .ref 111), (1, .int (nI x2)), (2, .int a2), (3, .long v)]) (st2 := [.int ((nI x10) - 1), .int 0, .int a2]) (w3 := w) rfl rfl ?_
      rcases Decidable.em (0 ≤ a2 ∧ a2 < nI x10) with c13 | c13
      · obtain ⟨x14, hx15, rfl⟩ := idx_getz c13 (by omega)
        refine sx_RP.cu (as := [.int (nI x14), .int 0, .int ((nI x10) - 1)]) (rest2 := []) (st3 := [.int 1]) rfl rfl rfl rfl rfl (cx_132p ((in_ltz (by omega)).mpr c13)) rfl ?_
        refine sx_RP.step (pc2 := 53) (ls2 := [(0, .ref 111), (1, .int (nI x2)), (2, .int (nI x14)), (3, .long v)]) (st2 := []) (w3 := w) rfl rfl ?_
        refine sx_RP.step (pc2 := 54) (ls2 := [(0, .ref 111), (1, .int (nI x2)), (2, .int (nI x14)), (3, .long v)]) (st2 := [.ref 111]) (w3 := w) rfl rfl ?_
        refine sx_RP.gf (v := .ref 124) rfl rfl hI.1.o111 rfl rfl (show _ = 57 from rfl) ?_
        refine sx_RP.step (pc2 := 59) (ls2 := [(0, .ref 111), (1, .int (nI x2)), (2, .int (nI x14)), (3, .long v)]) (st2 := [.int 40, .ref 124]) (w3 := w) rfl rfl ?_
        refine sx_RP.step (pc2 := 60) (ls2 := [(0, .ref 111), (1, .int (nI x2)), (2, .int (nI x14)), (3, .long v)]) (st2 := [.int (nI x2), .int 40, .ref 124]) (w3 := w) rfl rfl ?_
        refine sx_RP.step (pc2 := 61) (ls2 := [(0, .ref 111), (1, .int (nI x2)), (2, .int (nI x14)), (3, .long v)]) (st2 := [.int (40 * (nI x2)), .ref 124]) (w3 := w) rfl rfl ?_
        rw [show (40 * (nI x2) : Int32) = nI (40 * x2) from nI_mul 40 x2]
        refine sx_RP.step (pc2 := 62) (ls2 := [(0, .ref 111), (1, .int (nI x2)), (2, .int (nI x14)), (3, .long v)]) (st2 := [.int (nI x14), .int (nI (40 * x2)), .ref 124]) (w3 := w) rfl rfl ?_
        refine sx_RP.step (pc2 := 63) (ls2 := [(0, .ref 111), (1, .int (nI x2)), (2, .int (nI x14)), (3, .long v)]) (st2 := [.int ((nI (40 * x2)) + (nI x14)), .ref 124]) (w3 := w) rfl rfl ?_
        rw [show ((nI (40 * x2)) + (nI x14) : Int32) = nI ((40 * x2) + x14) from nI_add (40 * x2) x14]
        refine sx_RP.lld (c := ((40 * x2) + x14)) rfl hI.1.a124.1 hI.1.a124.2 (sx_in_nI (show ((40 * x2) + x14) < 160 by omega) (by decide)) (show (nI ((40 * x2) + x14)).toNatClampNeg = ((40 * x2) + x14) from nI_clamp (by omega)) (show _ = 64 from rfl) ?_
        refine sx_RP.step (pc2 := 66) (ls2 := [(5, .long ((ja w 124).getD ((40 * x2) + x14) 0)), (0, .ref 111), (1, .int (nI x2)), (2, .int (nI x14)), (3, .long v)]) (st2 := []) (w3 := w) rfl rfl ?_
        refine sx_RP.step (pc2 := 67) (ls2 := [(5, .long ((ja w 124).getD ((40 * x2) + x14) 0)), (0, .ref 111), (1, .int (nI x2)), (2, .int (nI x14)), (3, .long v)]) (st2 := [.ref 111]) (w3 := w) rfl rfl ?_
        refine sx_RP.step (pc2 := 68) (ls2 := [(5, .long ((ja w 124).getD ((40 * x2) + x14) 0)), (0, .ref 111), (1, .int (nI x2)), (2, .int (nI x14)), (3, .long v)]) (st2 := [.int (nI x2), .ref 111]) (w3 := w) rfl rfl ?_
        refine sx_RP.step (pc2 := 69) (ls2 := [(5, .long ((ja w 124).getD ((40 * x2) + x14) 0)), (0, .ref 111), (1, .int (nI x2)), (2, .int (nI x14)), (3, .long v)]) (st2 := [.int (nI x14), .int (nI x2), .ref 111]) (w3 := w) rfl rfl ?_
        refine sx_RP.step (pc2 := 70) (ls2 := [(5, .long ((ja w 124).getD ((40 * x2) + x14) 0)), (0, .ref 111), (1, .int (nI x2)), (2, .int (nI x14)), (3, .long v)]) (st2 := [.long v, .int (nI x14), .int (nI x2), .ref 111]) (w3 := w) rfl rfl ?_
        refine sx_RP.callp (as2 := [.ref 111, .int (nI x2), .int (nI x14), .long v]) (rest2 := []) rfl rfl (sx_inv_v2 (mi := 232) (k := 339) (st := [.long v, .int (nI x14), .int (nI x2), .ref 111]) (w := w) rfl rfl hI.1.o111 rfl rfl rfl) rfl rfl rfl (X233 hI (show x2 < 4 by omega) (show x14 < 40 by omega) v) (show _ = 73 from rfl) ?_
        rintro r4 w18 ⟨⟨rfl, hv16⟩, hI19, hs17⟩
        show sx_RP _ _ _ _ _ [] _ _
        refine sx_RP.step (pc2 := 75) (ls2 := [(5, .long ((ja w 124).getD ((40 * x2) + x14) 0)), (0, .ref 111), (1, .int (nI x2)), (2, .int (nI x14)), (3, .long v)]) (st2 := [.long ((ja w 124).getD ((40 * x2) + x14) 0)]) (w3 := w18) rfl rfl ?_
        refine sx_RP.ret (r := (some (.long ((ja w 124).getD ((40 * x2) + x14) 0)))) rfl rfl ?_
        exact ⟨⟨by rw [(wr_4 (F := FMs w) (N := NMs w) (v := v) (show x2 < 4 by omega) (FMs_at (by omega) ex12) q9 (show x14 < 40 by omega) c13).1, NMs_at (by omega) (by omega)], by rw [(wr_4 (F := FMs w) (N := NMs w) (v := v) (show x2 < 4 by omega) (FMs_at (by omega) ex12) q9 (show x14 < 40 by omega) c13).2]; exact NMs_wr hI (by omega) (by omega) hv16, FMs_eq (hs17 122 (by decide)) (hs17 123 (by decide))⟩, hI19, fun a h1 h2 => hs17 a h2⟩
      · refine sx_RP.cu (as := [.int a2, .int 0, .int ((nI x10) - 1)]) (rest2 := []) (st3 := [.int 0]) rfl rfl rfl rfl rfl (cx_132o (fun q => c13 ((in_ltz (by omega)).mp q))) rfl ?_
        refine sx_RP.step (pc2 := 46) (ls2 := [(0, .ref 111), (1, .int (nI x2)), (2, .int a2), (3, .long v)]) (st2 := []) (w3 := w) rfl rfl ?_
        refine sx_RP.step (pc2 := 47) (ls2 := [(0, .ref 111), (1, .int (nI x2)), (2, .int a2), (3, .long v)]) (st2 := [.ref 111]) (w3 := w) rfl rfl ?_
        refine sx_RP.step (pc2 := 48) (ls2 := [(0, .ref 111), (1, .int (nI x2)), (2, .int a2), (3, .long v)]) (st2 := [.int 0, .ref 111]) (w3 := w) rfl rfl ?_
        refine sx_RP.callp (as2 := [.ref 111, .int 0]) (rest2 := []) rfl rfl (sx_inv_v2 (mi := 232) (k := 70) (st := [.int 0, .ref 111]) (w := w) rfl rfl hI.1.o111 rfl rfl rfl) rfl rfl rfl (S133_0 hI) (show _ = 51 from rfl) ?_
        rintro r4 w21 ⟨rfl, hI22, hs20⟩
        show sx_RP _ _ _ _ _ [.int (-1000000001)] _ _
        refine sx_RP.step (pc2 := 52) (ls2 := [(0, .ref 111), (1, .int (nI x2)), (2, .int a2), (3, .long v)]) (st2 := [.long (-1000000001)]) (w3 := w21) rfl rfl ?_
        refine sx_RP.ret (r := (some (.long (-1000000001)))) rfl rfl ?_
        exact ⟨⟨by rw [(wr_3 (F := FMs w) (N := NMs w) (v := v) (show x2 < 4 by omega) (FMs_at (by omega) ex12) q9 c13).1], by rw [(wr_3 (F := FMs w) (N := NMs w) (v := v) (show x2 < 4 by omega) (FMs_at (by omega) ex12) q9 c13).2]; exact NMs_eq (hs20 124 (by decide)), FMs_eq (hs20 122 (by decide)) (hs20 123 (by decide))⟩, hI22, fun a h1 h2 => hs20 a h1⟩
    · replace q9 := Decidable.not_not.mp (of_decide_eq_false q9)
      refine sx_RP.step (pc2 := 24) (ls2 := [(0, .ref 111), (1, .int (nI x2)), (2, .int a2), (3, .long v)]) (st2 := [.ref 111]) (w3 := w) rfl rfl ?_
      refine sx_RP.step (pc2 := 25) (ls2 := [(0, .ref 111), (1, .int (nI x2)), (2, .int a2), (3, .long v)]) (st2 := [.int 5, .ref 111]) (w3 := w) rfl rfl ?_
      refine sx_RP.callp (as2 := [.ref 111, .int 5]) (rest2 := []) rfl rfl (sx_inv_v2 (mi := 232) (k := 70) (st := [.int 5, .ref 111]) (w := w) rfl rfl hI.1.o111 rfl rfl rfl) rfl rfl rfl (S133_5 hI) (show _ = 28 from rfl) ?_
      rintro r4 w24 ⟨rfl, hI25, hs23⟩
      show sx_RP _ _ _ _ _ [.int (-1000000006)] _ _
      refine sx_RP.step (pc2 := 29) (ls2 := [(0, .ref 111), (1, .int (nI x2)), (2, .int a2), (3, .long v)]) (st2 := [.long (-1000000006)]) (w3 := w24) rfl rfl ?_
      refine sx_RP.ret (r := (some (.long (-1000000006)))) rfl rfl ?_
      exact ⟨⟨by rw [(wr_2 (F := FMs w) (N := NMs w) (v := v) (show x2 < 4 by omega) (FMs_at0 (by omega)) q9).1], by rw [(wr_2 (F := FMs w) (N := NMs w) (v := v) (show x2 < 4 by omega) (FMs_at0 (by omega)) q9).2]; exact NMs_eq (hs23 124 (by decide)), FMs_eq (hs23 122 (by decide)) (hs23 123 (by decide))⟩, hI25, fun a h1 h2 => hs23 a h1⟩
