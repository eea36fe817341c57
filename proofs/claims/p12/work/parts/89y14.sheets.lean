-- the sheets' numbers
theorem gj_set {l : List Int64} {i : Nat} {v : Int64} (hi : i < l.length) (k : Nat) : (l.set i v).getD k 0 = if k = i then v else l.getD k 0 := by
  rw [List.getD_eq_getElem?_getD, List.getElem?_set]
  by_cases e : k = i
  · subst e
    rw [if_pos rfl, if_pos hi, if_pos rfl]
    rfl
  · rw [if_neg (Ne.symm e), if_neg e, ← List.getD_eq_getElem?_getD]
theorem ja_of {w w2 : List sx_C} {a : Nat} (h : w2[a]? = w[a]?) : ja w2 a = ja w a := by
  unfold ja
  rw [h]
def NCs (w : List sx_C) : Nat → Nat → Int64 := fun s i => if s < 4 ∧ i < 40 then (ja w (104 + 2 * s)).getD i 0 else 0
def NMs (w : List sx_C) : Nat → Nat → Int64 := fun s i => if s < 4 ∧ i < 40 then (ja w 124).getD (40 * s + i) 0 else 0
theorem NCs_eq {w w2 : List sx_C} (h : ∀ s, s < 4 → w2[104 + 2 * s]? = w[104 + 2 * s]?) : NCs w2 = NCs w := by
  funext s i
  unfold NCs
  by_cases hs : s < 4 ∧ i < 40
  · rw [if_pos hs, if_pos hs, ja_of (h s hs.1)]
  · rw [if_neg hs, if_neg hs]
theorem NMs_eq {w w2 : List sx_C} (h : w2[124]? = w[124]?) : NMs w2 = NMs w := by
  unfold NMs
  rw [ja_of h]
theorem FCs_eq {w w2 : List sx_C} (h : ∀ s, s < 4 → w2[103 + 2 * s]? = w[103 + 2 * s]?) : FCs w2 = FCs w := by
  funext s
  unfold FCs
  by_cases hs : s < 4
  · rw [if_pos hs, if_pos hs, fi_same 1 (h s hs), fi_same 2 (h s hs)]
  · rw [if_neg hs, if_neg hs]
def shV (a1 a2 a3 : Int32) : Prop := ((0 ≤ a1 ∧ a1 ≤ 3) ∧ (a2 = 0 ∨ a2 = 8 ∨ a2 = 16 ∨ a2 = 64)) ∧ (0 ≤ a3 ∧ a3 ≤ 40)
def shN (f : Nat → Nat → Int64) (s0 : Nat) : Nat → Nat → Int64 := fun s i => if s = s0 then 0 else f s i
/-- a number of so many bits -/
def ptF (b : Int32) (v : Int64) : Int64 := if b = 8 then (v.toInt32.toInt8.toInt32).toInt64 else (if b = 16 then (v.toInt32.toInt16.toInt32).toInt64 else v)
def wrN (f : Nat → Nat → Int64) (s0 i0 : Nat) (x : Int64) : Nat → Nat → Int64 := fun s i => if s = s0 ∧ i = i0 then x else f s i
def cpN (f : Nat → Nat → Int64) (s f0 t t0 n : Nat) : Nat → Nat → Int64 := fun s2 i => if s2 = t ∧ t0 ≤ i ∧ i < t0 + n then f s (f0 + (i - t0)) else f s2 i
theorem NCs_sh {w w2 : List sx_C} {s0 : Nat} (hs0 : s0 < 4) (h0 : ∀ i, i < 40 → (ja w2 (104 + 2 * s0)).getD i 0 = 0) (h : ∀ s, s < 4 → s ≠ s0 → w2[104 + 2 * s]? = w[104 + 2 * s]?) : NCs w2 = shN (NCs w) s0 := by
  funext s i
  unfold shN NCs
  by_cases hs : s < 4 ∧ i < 40
  · rw [if_pos hs]
    by_cases e : s = s0
    · rw [if_pos e, e]
      exact h0 i hs.2
    · rw [if_neg e, if_pos hs, ja_of (h s hs.1 e)]
  · rw [if_neg hs, if_neg hs]
    split <;> rfl
theorem NMs_sh {w w2 : List sx_C} {s0 : Nat} (hs0 : s0 < 4) (h0 : ∀ k, k < 160 → (ja w2 124).getD k 0 = if 40 * s0 ≤ k ∧ k < 40 * s0 + 40 then 0 else (ja w 124).getD k 0) : NMs w2 = shN (NMs w) s0 := by
  funext s i
  unfold shN NMs
  by_cases hs : s < 4 ∧ i < 40
  · rw [if_pos hs, h0 _ (by omega)]
    by_cases e : s = s0
    · rw [if_pos (by omega), if_pos e]
    · rw [if_neg (by omega), if_neg e, if_pos hs]
  · rw [if_neg hs, if_neg hs]
    split <;> rfl
theorem NCs_wr {w w2 : List sx_C} (hI : WI w) {s0 i0 : Nat} {x : Int64} (hs0 : s0 < 4) (hi0 : i0 < 40) (hs : Same (104 + 2 * s0) w w2) (hv : ja w2 (104 + 2 * s0) = (ja w (104 + 2 * s0)).set i0 x) : NCs w2 = wrN (NCs w) s0 i0 x := by
  have hl := (hI.1.aN hs0).2
  funext s i
  unfold wrN NCs
  by_cases h : s < 4 ∧ i < 40
  · rw [if_pos h]
    by_cases e : s = s0
    · subst e
      rw [hv, gj_set (by omega)]
      by_cases e2 : i = i0
      · rw [if_pos e2, if_pos ⟨rfl, e2⟩]
      · rw [if_neg e2, if_neg (fun z => e2 z.2), if_pos h]
    · rw [ja_of (hs _ (by omega)), if_neg (fun z => e z.1), if_pos h]
  · rw [if_neg h, if_neg (by omega), if_neg h]
theorem NMs_wr {w w2 : List sx_C} (hI : WI w) {s0 i0 : Nat} {x : Int64} (hs0 : s0 < 4) (hi0 : i0 < 40) (hv : ja w2 124 = (ja w 124).set (40 * s0 + i0) x) : NMs w2 = wrN (NMs w) s0 i0 x := by
  have hl := hI.1.a124.2
  funext s i
  unfold wrN NMs
  by_cases h : s < 4 ∧ i < 40
  · rw [if_pos h, hv, gj_set (by omega)]
    by_cases e : s = s0 ∧ i = i0
    · rw [if_pos e, if_pos (by omega)]
    · rw [if_neg e, if_neg (by omega), if_pos h]
  · rw [if_neg h, if_neg (by omega), if_neg h]
section SXH
variable {xs : Option (List Int32)} {d mi pc pc2 a idx p : Nat} {ls : sx_L} {r : List Value} {w w0 : List sx_C} {P : Option Value → List sx_C → Prop}
theorem sx_RP.xH1 {v : Int32} {s : Nat} (hI : WI w) (hs : s < 4) (hi : sx_ins mi pc = some (.putfield idx, 3)) (hq : sx_lk (sx_fl (sx_own mi)) idx = some (5, 1, p)) (hf : sx_fin mi 5 1 = true) (hp : pc + 3 = pc2) (kk : ∀ w2, WI w2 → Same (103 + 2 * s) w w2 → sx_RP xs d mi pc2 ls r w2 P) : sx_RP xs d mi pc ls (.int v :: .ref (103 + 2 * s) :: r) w P := by
  have hw := hI.1.oS hs
  exact sx_RP.pf hi hq hw (by rw [hf]; rfl) rfl rfl hp (kk _ (hI.set hw rfl (cOK.sh hs (hI.sh hs))) Same.set)
theorem sx_RP.xH2 {v : Int32} {s : Nat} (hI : WI w) (hs : s < 4) (hi : sx_ins mi pc = some (.putfield idx, 3)) (hq : sx_lk (sx_fl (sx_own mi)) idx = some (5, 2, p)) (hf : sx_fin mi 5 2 = true) (hv : inR v 40) (hp : pc + 3 = pc2) (kk : ∀ w2, WI w2 → Same (103 + 2 * s) w w2 → sx_RP xs d mi pc2 ls r w2 P) : sx_RP xs d mi pc ls (.int v :: .ref (103 + 2 * s) :: r) w P := by
  have hw := hI.1.oS hs
  exact sx_RP.pf hi hq hw (by rw [hf]; rfl) rfl rfl hp (kk _ (hI.set hw rfl (cOK.sh hs hv)) Same.set)
end SXH
set_option maxRecDepth 20000 in
set_option maxHeartbeats 4000000 in
theorem X114L {xs : Option (List Int32)} {d s : Nat} {b x : Int32} (hs : s < 4) : ∀ (q j : Nat) (w : List sx_C), j + q = 40 → WI w → (∀ i, i < j → (ja w (104 + 2 * s)).getD i 0 = 0) → sx_RP xs d 114 20 [(0, .ref (103 + 2 * s)), (1, .int b), (2, .int x), (3, .int (nI j))] [] w (fun r w2 => (r = none ∧ ∀ i, i < 40 → (ja w2 (104 + 2 * s)).getD i 0 = 0) ∧ WI w2 ∧ Same (104 + 2 * s) w w2)
  | 0, j, w, hj, hI, hz => by
    obtain rfl : j = 40 := by omega
    refine sx_RP.step (pc2 := 21) (ls2 := [(0, .ref (103 + 2 * s)), (1, .int b), (2, .int x), (3, .int 40)]) (st2 := [.int 40]) (w3 := w) rfl rfl ?_
    refine sx_RP.step (pc2 := 23) (ls2 := [(0, .ref (103 + 2 * s)), (1, .int b), (2, .int x), (3, .int 40)]) (st2 := [.int 40, .int 40]) (w3 := w) rfl rfl ?_
    refine sx_RP.step (pc2 := 39) (ls2 := [(0, .ref (103 + 2 * s)), (1, .int b), (2, .int x), (3, .int 40)]) (st2 := []) (w3 := w) rfl rfl ?_
    refine sx_RP.ret (r := none) rfl rfl ?_
    exact ⟨⟨rfl, hz⟩, hI, Same.rf⟩
  | q + 1, j, w, hj, hI, hz => by
    refine sx_RP.step (pc2 := 21) (ls2 := [(0, .ref (103 + 2 * s)), (1, .int b), (2, .int x), (3, .int (nI j))]) (st2 := [.int (nI j)]) (w3 := w) rfl rfl ?_
    refine sx_RP.step (pc2 := 23) (ls2 := [(0, .ref (103 + 2 * s)), (1, .int b), (2, .int x), (3, .int (nI j))]) (st2 := [.int 40, .int (nI j)]) (w3 := w) rfl rfl ?_
    refine sx_RP.br (p2 := 26) (l2 := [(0, .ref (103 + 2 * s)), (1, .int b), (2, .int x), (3, .int (nI j))]) (s2 := []) (v2 := w) rfl rfl (fun q => absurd (of_decide_eq_true q) (fun z => absurd ((nI_leI (a := 40) (b := j) (by omega) (by omega)).mp z) (by omega))) (fun _ => ?_)
    refine sx_RP.step (pc2 := 27) (ls2 := [(0, .ref (103 + 2 * s)), (1, .int b), (2, .int x), (3, .int (nI j))]) (st2 := [.ref (103 + 2 * s)]) (w3 := w) rfl rfl ?_
    refine sx_RP.gf (v := .ref (104 + 2 * s)) rfl rfl (hI.1.oS (show s < 4 by omega)) rfl rfl (show _ = 30 from rfl) ?_
    refine sx_RP.step (pc2 := 31) (ls2 := [(0, .ref (103 + 2 * s)), (1, .int b), (2, .int x), (3, .int (nI j))]) (st2 := [.int (nI j), .ref (104 + 2 * s)]) (w3 := w) rfl rfl ?_
    refine sx_RP.step (pc2 := 32) (ls2 := [(0, .ref (103 + 2 * s)), (1, .int b), (2, .int x), (3, .int (nI j))]) (st2 := [.long 0, .int (nI j), .ref (104 + 2 * s)]) (w3 := w) rfl rfl ?_
    refine sx_RP.xL (c := j) hI rfl (hI.1.aN (show s < 4 by omega)) (show j < 40 by omega) (by decide) (by omega) (show _ = 33 from rfl) (fun w1 hI2 hs3 hv4 => ?_)
    refine sx_RP.step (pc2 := 36) (ls2 := [(3, .int ((nI j) + 1)), (0, .ref (103 + 2 * s)), (1, .int b), (2, .int x)]) (st2 := []) (w3 := w1) rfl rfl ?_
    rw [nI_1 j]
    refine sx_RP.step (pc2 := 20) (ls2 := [(3, .int (nI (j + 1))), (0, .ref (103 + 2 * s)), (1, .int b), (2, .int x)]) (st2 := []) (w3 := w1) rfl rfl ?_
    refine sx_RP.ls (sx_lr.cons rfl (sx_lr.cons rfl (sx_lr.cons rfl (sx_lr.cons rfl sx_lr.nil)))) ((X114L hs q (j + 1) w1 (by omega) hI2 (fun i hi => ?_)).mono9 (fun r w2 z => ⟨z.1, z.2.1, hs3.tr z.2.2⟩))
    rw [hv4, gj_set (by rw [(hI.1.aN hs).2]; omega)]
    split
    · rfl
    · exact hz i (by omega)
set_option maxRecDepth 20000 in
set_option maxHeartbeats 4000000 in
theorem X114 {xs : Option (List Int32)} {d : Nat} {w : List sx_C} (hI : WI w) {s : Nat} (hs : s < 4) (b x : Int32) (hx : inR x 40) : sx_RP xs d 114 0 (lv_args 0 [.ref (103 + 2 * s), .int b, .int x]) [] w (fun r w2 => (r = none ∧ ∀ i, i < 40 → (ja w2 (104 + 2 * s)).getD i 0 = 0) ∧ WI w2 ∧ ∀ a, a ≠ 103 + 2 * s → a ≠ 104 + 2 * s → w2[a]? = w[a]?) := by
  refine sx_RP.step (pc2 := 1) (ls2 := [(0, .ref (103 + 2 * s)), (1, .int b), (2, .int x)]) (st2 := [.ref (103 + 2 * s)]) (w3 := w) rfl rfl ?_
  refine sx_RP.step (pc2 := 2) (ls2 := [(0, .ref (103 + 2 * s)), (1, .int b), (2, .int x)]) (st2 := [.int b, .ref (103 + 2 * s)]) (w3 := w) rfl rfl ?_
  refine sx_RP.xH1 hI hs rfl rfl rfl (show _ = 5 from rfl) (fun w1 hI2 hs3 => ?_)
  refine sx_RP.step (pc2 := 6) (ls2 := [(0, .ref (103 + 2 * s)), (1, .int b), (2, .int x)]) (st2 := [.ref (103 + 2 * s)]) (w3 := w1) rfl rfl ?_
  refine sx_RP.step (pc2 := 7) (ls2 := [(0, .ref (103 + 2 * s)), (1, .int b), (2, .int x)]) (st2 := [.int b, .ref (103 + 2 * s)]) (w3 := w1) rfl rfl ?_
  refine sx_RP.br (p1 := 14) (l1 := [(0, .ref (103 + 2 * s)), (1, .int b), (2, .int x)]) (s1 := [.ref (103 + 2 * s)]) (v1 := w1) (p2 := 10) (l2 := [(0, .ref (103 + 2 * s)), (1, .int b), (2, .int x)]) (s2 := [.ref (103 + 2 * s)]) (v2 := w1) rfl rfl (fun q4 => ?_) (fun q4 => ?_)
  · replace q4 := of_decide_eq_true q4
    refine sx_RP.step (pc2 := 15) (ls2 := [(0, .ref (103 + 2 * s)), (1, .int b), (2, .int x)]) (st2 := [.int x, .ref (103 + 2 * s)]) (w3 := w1) rfl rfl ?_
    refine sx_RP.xH2 hI2 hs rfl rfl rfl hx (show _ = 18 from rfl) (fun w5 hI6 hs7 => ?_)
    refine sx_RP.step (pc2 := 19) (ls2 := [(0, .ref (103 + 2 * s)), (1, .int b), (2, .int x)]) (st2 := [.int 0]) (w3 := w5) rfl rfl ?_
    refine sx_RP.step (pc2 := 20) (ls2 := [(3, .int 0), (0, .ref (103 + 2 * s)), (1, .int b), (2, .int x)]) (st2 := []) (w3 := w5) rfl rfl ?_
    exact sx_RP.ls (sx_lr.cons rfl (sx_lr.cons rfl (sx_lr.cons rfl (sx_lr.cons rfl sx_lr.nil)))) ((X114L hs 40 0 w5 (by omega) hI6 (fun i hi => absurd hi (by omega))).mono9 (fun r w2 z => ⟨z.1, z.2.1, fun a g1 g2 => (z.2.2 a g2).trans ((hs7 a g1).trans (hs3 a g1))⟩))
  · replace q4 := Decidable.not_not.mp (of_decide_eq_false q4)
    refine sx_RP.step (pc2 := 11) (ls2 := [(0, .ref (103 + 2 * s)), (1, .int b), (2, .int x)]) (st2 := [.int 0, .ref (103 + 2 * s)]) (w3 := w1) rfl rfl ?_
    refine sx_RP.step (pc2 := 15) (ls2 := [(0, .ref (103 + 2 * s)), (1, .int b), (2, .int x)]) (st2 := [.int 0, .ref (103 + 2 * s)]) (w3 := w1) rfl rfl ?_
    refine sx_RP.xH2 hI2 hs rfl rfl rfl (show inR 0 40 from ⟨0, by decide, rfl⟩) (show _ = 18 from rfl) (fun w8 hI9 hs10 => ?_)
    refine sx_RP.step (pc2 := 19) (ls2 := [(0, .ref (103 + 2 * s)), (1, .int b), (2, .int x)]) (st2 := [.int 0]) (w3 := w8) rfl rfl ?_
    refine sx_RP.step (pc2 := 20) (ls2 := [(3, .int 0), (0, .ref (103 + 2 * s)), (1, .int b), (2, .int x)]) (st2 := []) (w3 := w8) rfl rfl ?_
    exact sx_RP.ls (sx_lr.cons rfl (sx_lr.cons rfl (sx_lr.cons rfl (sx_lr.cons rfl sx_lr.nil)))) ((X114L hs 40 0 w8 (by omega) hI9 (fun i hi => absurd hi (by omega))).mono9 (fun r w2 z => ⟨z.1, z.2.1, fun a g1 g2 => (z.2.2 a g2).trans ((hs10 a g1).trans (hs3 a g1))⟩))
set_option maxRecDepth 20000 in
set_option maxHeartbeats 4000000 in
theorem F111 {xs : Option (List Int32)} {d : Nat} {w : List sx_C} (hI : WI w) {s : Nat} (hs : s < 4) (a2 a3 : Int32) : sx_RP xs (d + 7) 111 0 (lv_args 0 [.ref 0, .int (nI s), .int a2, .int a3]) [] w (fun r w2 => WI w2 ∧ ((shV (nI s) a2 a3 ∧ (∀ i, i < 40 → (ja w2 (104 + 2 * s)).getD i 0 = 0) ∧ ∀ a, a ≠ 103 + 2 * s → a ≠ 104 + 2 * s → w2[a]? = w[a]?) ∨ (¬ shV (nI s) a2 a3 ∧ Same 99 w w2))) := by
  refine sx_RP.step (pc2 := 1) (ls2 := [(0, .ref 0), (1, .int (nI s)), (2, .int a2), (3, .int a3)]) (st2 := [.int (nI s)]) (w3 := w) rfl rfl ?_
  refine sx_RP.cu (as := [.int (nI s)]) (rest2 := []) (st3 := [.int 1]) rfl rfl rfl rfl rfl (cx_112p ⟨nI_le (a := 0) (Nat.zero_le _) (by omega), nI_le (b := 3) (show s ≤ 3 by omega) (by decide)⟩) rfl ?_
  refine sx_RP.step (pc2 := 7) (ls2 := [(0, .ref 0), (1, .int (nI s)), (2, .int a2), (3, .int a3)]) (st2 := []) (w3 := w) rfl rfl ?_
  refine sx_RP.step (pc2 := 8) (ls2 := [(0, .ref 0), (1, .int (nI s)), (2, .int a2), (3, .int a3)]) (st2 := [.int a2]) (w3 := w) rfl rfl ?_
  rcases Decidable.em (a2 = 8 ∨ a2 = 16 ∨ a2 = 64) with c1 | c1
  · refine sx_RP.cu (as := [.int a2]) (rest2 := []) (st3 := [.int 1]) rfl rfl rfl rfl rfl (p113y c1) rfl ?_
    refine sx_RP.step (pc2 := 25) (ls2 := [(0, .ref 0), (1, .int (nI s)), (2, .int a2), (3, .int a3)]) (st2 := []) (w3 := w) rfl rfl ?_
    refine sx_RP.step (pc2 := 26) (ls2 := [(0, .ref 0), (1, .int (nI s)), (2, .int a2), (3, .int a3)]) (st2 := [.int a3]) (w3 := w) rfl rfl ?_
    refine sx_RP.br (p1 := 37) (l1 := [(0, .ref 0), (1, .int (nI s)), (2, .int a2), (3, .int a3)]) (s1 := []) (v1 := w) (p2 := 29) (l2 := [(0, .ref 0), (1, .int (nI s)), (2, .int a2), (3, .int a3)]) (s2 := []) (v2 := w) rfl rfl (fun q2 => ?_) (fun q2 => ?_)
    · replace q2 := of_decide_eq_true q2
      refine sx_RP.step (pc2 := 38) (ls2 := [(0, .ref 0), (1, .int (nI s)), (2, .int a2), (3, .int a3)]) (st2 := [.int a3]) (w3 := w) rfl rfl ?_
      refine sx_RP.step (pc2 := 40) (ls2 := [(0, .ref 0), (1, .int (nI s)), (2, .int a2), (3, .int a3)]) (st2 := [.int 40, .int a3]) (w3 := w) rfl rfl ?_
      refine sx_RP.br (p1 := 50) (l1 := [(0, .ref 0), (1, .int (nI s)), (2, .int a2), (3, .int a3)]) (s1 := []) (v1 := w) (p2 := 43) (l2 := [(0, .ref 0), (1, .int (nI s)), (2, .int a2), (3, .int a3)]) (s2 := []) (v2 := w) rfl rfl (fun q3 => ?_) (fun q3 => ?_)
      · replace q3 := of_decide_eq_true q3
        refine sx_RP.step (pc2 := 51) (ls2 := [(0, .ref 0), (1, .int (nI s)), (2, .int a2), (3, .int a3)]) (st2 := [.ref 0]) (w3 := w) rfl rfl ?_
        refine sx_RP.gf (v := .ref 98) rfl rfl hI.1.o0 rfl rfl (show _ = 54 from rfl) ?_
        refine sx_RP.step (pc2 := 55) (ls2 := [(0, .ref 0), (1, .int (nI s)), (2, .int a2), (3, .int a3)]) (st2 := [.int (nI s), .ref 98]) (w3 := w) rfl rfl ?_
        refine sx_RP.ald (v := .ref (103 + 2 * s)) rfl hI.1.a98 rfl (shA_at (show s < 4 by omega)) (show _ = 56 from rfl) ?_
        refine sx_RP.step (pc2 := 57) (ls2 := [(0, .ref 0), (1, .int (nI s)), (2, .int a2), (3, .int a3)]) (st2 := [.int a2, .ref (103 + 2 * s)]) (w3 := w) rfl rfl ?_
        refine sx_RP.step (pc2 := 58) (ls2 := [(0, .ref 0), (1, .int (nI s)), (2, .int a2), (3, .int a3)]) (st2 := [.int a3, .int a2, .ref (103 + 2 * s)]) (w3 := w) rfl rfl ?_
        have hx40 : inR a3 40 := nI_of2 (M := 40) rfl (Int32.not_lt.mpr q2) q3
        refine sx_RP.callp (as2 := [.ref (103 + 2 * s), .int a2, .int a3]) (rest2 := []) rfl rfl (sx_inv_v2 (mi := 111) (k := 303) (st := [.int a3, .int a2, .ref (103 + 2 * s)]) (w := w) rfl rfl (hI.1.oS (show s < 4 by omega)) rfl rfl rfl) rfl rfl rfl (X114 hI hs a2 a3 hx40) (show _ = 61 from rfl) ?_
        rintro r4 w6 ⟨⟨rfl, hz4⟩, hI7, hf5⟩
        show sx_RP _ _ _ _ _ [] _ _
        refine sx_RP.step (pc2 := 62) (ls2 := [(0, .ref 0), (1, .int (nI s)), (2, .int a2), (3, .int a3)]) (st2 := [.ref 0]) (w3 := w6) rfl rfl ?_
        refine sx_RP.gf (v := .ref 98) rfl rfl hI7.1.o0 rfl rfl (show _ = 65 from rfl) ?_
        refine sx_RP.step (pc2 := 66) (ls2 := [(0, .ref 0), (1, .int (nI s)), (2, .int a2), (3, .int a3)]) (st2 := [.int (nI s), .ref 98]) (w3 := w6) rfl rfl ?_
        refine sx_RP.ald (v := .ref (103 + 2 * s)) rfl hI7.1.a98 rfl (shA_at (show s < 4 by omega)) (show _ = 67 from rfl) ?_
        refine sx_RP.gf (v := .int (fi w6 (103 + 2 * s) 2)) rfl rfl (hI7.1.oS (show s < 4 by omega)) rfl rfl (show _ = 70 from rfl) ?_
        obtain ⟨x8, hx9, ex10⟩ : inR (fi w6 (103 + 2 * s) 2) 40 := hI7.sh (show s < 4 by omega)
        rw [ex10]
        refine sx_RP.ret (r := (some (.int (nI x8)))) rfl rfl ?_
        exact ⟨hI7, Or.inl ⟨⟨⟨⟨nI_le (a := 0) (Nat.zero_le _) (by omega), nI_le (b := 3) (show s ≤ 3 by omega) (by decide)⟩, (Or.inr c1)⟩, ⟨q2, q3⟩⟩, hz4, hf5⟩⟩
      · replace q3 := of_decide_eq_false q3
        refine sx_RP.step (pc2 := 44) (ls2 := [(0, .ref 0), (1, .int (nI s)), (2, .int a2), (3, .int a3)]) (st2 := [.ref 0]) (w3 := w) rfl rfl ?_
        refine sx_RP.step (pc2 := 46) (ls2 := [(0, .ref 0), (1, .int (nI s)), (2, .int a2), (3, .int a3)]) (st2 := [.int (-1000000001), .ref 0]) (w3 := w) rfl rfl ?_
        refine sx_RP.callp (as2 := [.ref 0, .int (-1000000001)]) (rest2 := []) rfl rfl (sx_inv_v2 (mi := 111) (k := 78) (st := [.int (-1000000001), .ref 0]) (w := w) rfl rfl hI.1.o0 rfl rfl rfl) rfl rfl rfl (S9_0 hI) (show _ = 49 from rfl) ?_
        rintro r4 w12 ⟨rfl, hI13, hs11⟩
        show sx_RP _ _ _ _ _ [.int (-1000000001)] _ _
        refine sx_RP.ret (r := (some (.int (-1000000001)))) rfl rfl ?_
        exact ⟨hI13, Or.inr ⟨(fun z => q3 z.2.2), hs11⟩⟩
    · replace q2 := of_decide_eq_false q2
      refine sx_RP.step (pc2 := 30) (ls2 := [(0, .ref 0), (1, .int (nI s)), (2, .int a2), (3, .int a3)]) (st2 := [.ref 0]) (w3 := w) rfl rfl ?_
      refine sx_RP.step (pc2 := 33) (ls2 := [(0, .ref 0), (1, .int (nI s)), (2, .int a2), (3, .int a3)]) (st2 := [.int (-1000000007), .ref 0]) (w3 := w) rfl rfl ?_
      refine sx_RP.callp (as2 := [.ref 0, .int (-1000000007)]) (rest2 := []) rfl rfl (sx_inv_v2 (mi := 111) (k := 78) (st := [.int (-1000000007), .ref 0]) (w := w) rfl rfl hI.1.o0 rfl rfl rfl) rfl rfl rfl (S9_6 hI) (show _ = 36 from rfl) ?_
      rintro r4 w15 ⟨rfl, hI16, hs14⟩
      show sx_RP _ _ _ _ _ [.int (-1000000007)] _ _
      refine sx_RP.ret (r := (some (.int (-1000000007)))) rfl rfl ?_
      exact ⟨hI16, Or.inr ⟨(fun z => q2 z.2.1), hs14⟩⟩
  · refine sx_RP.cu (as := [.int a2]) (rest2 := []) (st3 := [.int 0]) rfl rfl rfl rfl rfl (p113n c1) rfl ?_
    refine sx_RP.step (pc2 := 14) (ls2 := [(0, .ref 0), (1, .int (nI s)), (2, .int a2), (3, .int a3)]) (st2 := []) (w3 := w) rfl rfl ?_
    refine sx_RP.step (pc2 := 15) (ls2 := [(0, .ref 0), (1, .int (nI s)), (2, .int a2), (3, .int a3)]) (st2 := [.int a2]) (w3 := w) rfl rfl ?_
    refine sx_RP.br (p1 := 25) (l1 := [(0, .ref 0), (1, .int (nI s)), (2, .int a2), (3, .int a3)]) (s1 := []) (v1 := w) (p2 := 18) (l2 := [(0, .ref 0), (1, .int (nI s)), (2, .int a2), (3, .int a3)]) (s2 := []) (v2 := w) rfl rfl (fun q17 => ?_) (fun q17 => ?_)
    · replace q17 := of_decide_eq_true q17
      refine sx_RP.step (pc2 := 26) (ls2 := [(0, .ref 0), (1, .int (nI s)), (2, .int a2), (3, .int a3)]) (st2 := [.int a3]) (w3 := w) rfl rfl ?_
      refine sx_RP.br (p1 := 37) (l1 := [(0, .ref 0), (1, .int (nI s)), (2, .int a2), (3, .int a3)]) (s1 := []) (v1 := w) (p2 := 29) (l2 := [(0, .ref 0), (1, .int (nI s)), (2, .int a2), (3, .int a3)]) (s2 := []) (v2 := w) rfl rfl (fun q18 => ?_) (fun q18 => ?_)
      · replace q18 := of_decide_eq_true q18
        refine sx_RP.step (pc2 := 38) (ls2 := [(0, .ref 0), (1, .int (nI s)), (2, .int a2), (3, .int a3)]) (st2 := [.int a3]) (w3 := w) rfl rfl ?_
        refine sx_RP.step (pc2 := 40) (ls2 := [(0, .ref 0), (1, .int (nI s)), (2, .int a2), (3, .int a3)]) (st2 := [.int 40, .int a3]) (w3 := w) rfl rfl ?_
        refine sx_RP.br (p1 := 50) (l1 := [(0, .ref 0), (1, .int (nI s)), (2, .int a2), (3, .int a3)]) (s1 := []) (v1 := w) (p2 := 43) (l2 := [(0, .ref 0), (1, .int (nI s)), (2, .int a2), (3, .int a3)]) (s2 := []) (v2 := w) rfl rfl (fun q19 => ?_) (fun q19 => ?_)
        · replace q19 := of_decide_eq_true q19
          refine sx_RP.step (pc2 := 51) (ls2 := [(0, .ref 0), (1, .int (nI s)), (2, .int a2), (3, .int a3)]) (st2 := [.ref 0]) (w3 := w) rfl rfl ?_
          refine sx_RP.gf (v := .ref 98) rfl rfl hI.1.o0 rfl rfl (show _ = 54 from rfl) ?_
          refine sx_RP.step (pc2 := 55) (ls2 := [(0, .ref 0), (1, .int (nI s)), (2, .int a2), (3, .int a3)]) (st2 := [.int (nI s), .ref 98]) (w3 := w) rfl rfl ?_
          refine sx_RP.ald (v := .ref (103 + 2 * s)) rfl hI.1.a98 rfl (shA_at (show s < 4 by omega)) (show _ = 56 from rfl) ?_
          refine sx_RP.step (pc2 := 57) (ls2 := [(0, .ref 0), (1, .int (nI s)), (2, .int a2), (3, .int a3)]) (st2 := [.int a2, .ref (103 + 2 * s)]) (w3 := w) rfl rfl ?_
          refine sx_RP.step (pc2 := 58) (ls2 := [(0, .ref 0), (1, .int (nI s)), (2, .int a2), (3, .int a3)]) (st2 := [.int a3, .int a2, .ref (103 + 2 * s)]) (w3 := w) rfl rfl ?_
          have hx40 : inR a3 40 := nI_of2 (M := 40) rfl (Int32.not_lt.mpr q18) q19
          refine sx_RP.callp (as2 := [.ref (103 + 2 * s), .int a2, .int a3]) (rest2 := []) rfl rfl (sx_inv_v2 (mi := 111) (k := 303) (st := [.int a3, .int a2, .ref (103 + 2 * s)]) (w := w) rfl rfl (hI.1.oS (show s < 4 by omega)) rfl rfl rfl) rfl rfl rfl (X114 hI hs a2 a3 hx40) (show _ = 61 from rfl) ?_
          rintro r4 w22 ⟨⟨rfl, hz20⟩, hI23, hf21⟩
          show sx_RP _ _ _ _ _ [] _ _
          refine sx_RP.step (pc2 := 62) (ls2 := [(0, .ref 0), (1, .int (nI s)), (2, .int a2), (3, .int a3)]) (st2 := [.ref 0]) (w3 := w22) rfl rfl ?_
          refine sx_RP.gf (v := .ref 98) rfl rfl hI23.1.o0 rfl rfl (show _ = 65 from rfl) ?_
          refine sx_RP.step (pc2 := 66) (ls2 := [(0, .ref 0), (1, .int (nI s)), (2, .int a2), (3, .int a3)]) (st2 := [.int (nI s), .ref 98]) (w3 := w22) rfl rfl ?_
          refine sx_RP.ald (v := .ref (103 + 2 * s)) rfl hI23.1.a98 rfl (shA_at (show s < 4 by omega)) (show _ = 67 from rfl) ?_
          refine sx_RP.gf (v := .int (fi w22 (103 + 2 * s) 2)) rfl rfl (hI23.1.oS (show s < 4 by omega)) rfl rfl (show _ = 70 from rfl) ?_
          obtain ⟨x24, hx25, ex26⟩ : inR (fi w22 (103 + 2 * s) 2) 40 := hI23.sh (show s < 4 by omega)
          rw [ex26]
          refine sx_RP.ret (r := (some (.int (nI x24)))) rfl rfl ?_
          exact ⟨hI23, Or.inl ⟨⟨⟨⟨nI_le (a := 0) (Nat.zero_le _) (by omega), nI_le (b := 3) (show s ≤ 3 by omega) (by decide)⟩, (Or.inl q17)⟩, ⟨q18, q19⟩⟩, hz20, hf21⟩⟩
        · replace q19 := of_decide_eq_false q19
          refine sx_RP.step (pc2 := 44) (ls2 := [(0, .ref 0), (1, .int (nI s)), (2, .int a2), (3, .int a3)]) (st2 := [.ref 0]) (w3 := w) rfl rfl ?_
          refine sx_RP.step (pc2 := 46) (ls2 := [(0, .ref 0), (1, .int (nI s)), (2, .int a2), (3, .int a3)]) (st2 := [.int (-1000000001), .ref 0]) (w3 := w) rfl rfl ?_
          refine sx_RP.callp (as2 := [.ref 0, .int (-1000000001)]) (rest2 := []) rfl rfl (sx_inv_v2 (mi := 111) (k := 78) (st := [.int (-1000000001), .ref 0]) (w := w) rfl rfl hI.1.o0 rfl rfl rfl) rfl rfl rfl (S9_0 hI) (show _ = 49 from rfl) ?_
          rintro r4 w28 ⟨rfl, hI29, hs27⟩
          show sx_RP _ _ _ _ _ [.int (-1000000001)] _ _
          refine sx_RP.ret (r := (some (.int (-1000000001)))) rfl rfl ?_
          exact ⟨hI29, Or.inr ⟨(fun z => q19 z.2.2), hs27⟩⟩
      · replace q18 := of_decide_eq_false q18
        refine sx_RP.step (pc2 := 30) (ls2 := [(0, .ref 0), (1, .int (nI s)), (2, .int a2), (3, .int a3)]) (st2 := [.ref 0]) (w3 := w) rfl rfl ?_
        refine sx_RP.step (pc2 := 33) (ls2 := [(0, .ref 0), (1, .int (nI s)), (2, .int a2), (3, .int a3)]) (st2 := [.int (-1000000007), .ref 0]) (w3 := w) rfl rfl ?_
        refine sx_RP.callp (as2 := [.ref 0, .int (-1000000007)]) (rest2 := []) rfl rfl (sx_inv_v2 (mi := 111) (k := 78) (st := [.int (-1000000007), .ref 0]) (w := w) rfl rfl hI.1.o0 rfl rfl rfl) rfl rfl rfl (S9_6 hI) (show _ = 36 from rfl) ?_
        rintro r4 w31 ⟨rfl, hI32, hs30⟩
        show sx_RP _ _ _ _ _ [.int (-1000000007)] _ _
        refine sx_RP.ret (r := (some (.int (-1000000007)))) rfl rfl ?_
        exact ⟨hI32, Or.inr ⟨(fun z => q18 z.2.1), hs30⟩⟩
    · replace q17 := of_decide_eq_false q17
      refine sx_RP.step (pc2 := 19) (ls2 := [(0, .ref 0), (1, .int (nI s)), (2, .int a2), (3, .int a3)]) (st2 := [.ref 0]) (w3 := w) rfl rfl ?_
      refine sx_RP.step (pc2 := 21) (ls2 := [(0, .ref 0), (1, .int (nI s)), (2, .int a2), (3, .int a3)]) (st2 := [.int (-1000000001), .ref 0]) (w3 := w) rfl rfl ?_
      refine sx_RP.callp (as2 := [.ref 0, .int (-1000000001)]) (rest2 := []) rfl rfl (sx_inv_v2 (mi := 111) (k := 78) (st := [.int (-1000000001), .ref 0]) (w := w) rfl rfl hI.1.o0 rfl rfl rfl) rfl rfl rfl (S9_0 hI) (show _ = 24 from rfl) ?_
      rintro r4 w34 ⟨rfl, hI35, hs33⟩
      show sx_RP _ _ _ _ _ [.int (-1000000001)] _ _
      refine sx_RP.ret (r := (some (.int (-1000000001)))) rfl rfl ?_
      exact ⟨hI35, Or.inr ⟨(fun z => z.1.2.elim q17 c1), hs33⟩⟩
set_option maxRecDepth 20000 in
set_option maxHeartbeats 4000000 in
theorem F111n {xs : Option (List Int32)} {d : Nat} {w : List sx_C} (hI : WI w) (a1 a2 a3 : Int32) (hn : ¬ (0 ≤ a1 ∧ a1 ≤ 3)) : sx_RP xs (d + 7) 111 0 (lv_args 0 [.ref 0, .int a1, .int a2, .int a3]) [] w (fun r w2 => WI w2 ∧ ¬ shV a1 a2 a3 ∧ Same 99 w w2) := by
  refine sx_RP.step (pc2 := 1) (ls2 := [(0, .ref 0), (1, .int a1), (2, .int a2), (3, .int a3)]) (st2 := [.int a1]) (w3 := w) rfl rfl ?_
  refine sx_RP.cu (as := [.int a1]) (rest2 := []) (st3 := [.int 0]) rfl rfl rfl rfl rfl (cx_112n hn) rfl ?_
  refine sx_RP.step (pc2 := 18) (ls2 := [(0, .ref 0), (1, .int a1), (2, .int a2), (3, .int a3)]) (st2 := []) (w3 := w) rfl rfl ?_
  refine sx_RP.step (pc2 := 19) (ls2 := [(0, .ref 0), (1, .int a1), (2, .int a2), (3, .int a3)]) (st2 := [.ref 0]) (w3 := w) rfl rfl ?_
  refine sx_RP.step (pc2 := 21) (ls2 := [(0, .ref 0), (1, .int a1), (2, .int a2), (3, .int a3)]) (st2 := [.int (-1000000001), .ref 0]) (w3 := w) rfl rfl ?_
  refine sx_RP.callp (as2 := [.ref 0, .int (-1000000001)]) (rest2 := []) rfl rfl (sx_inv_v2 (mi := 111) (k := 78) (st := [.int (-1000000001), .ref 0]) (w := w) rfl rfl hI.1.o0 rfl rfl rfl) rfl rfl rfl (S9_0 hI) (show _ = 24 from rfl) ?_
  rintro r4 w2 ⟨rfl, hI3, hs1⟩
  show sx_RP _ _ _ _ _ [.int (-1000000001)] _ _
  refine sx_RP.ret (r := (some (.int (-1000000001)))) rfl rfl ?_
  exact ⟨hI3, fun z => hn z.1.1, hs1⟩
set_option maxRecDepth 20000 in
set_option maxHeartbeats 4000000 in
theorem X230L {xs : Option (List Int32)} {d k : Nat} {w0 : List sx_C} (hk : k < 4) : ∀ (q j : Nat) (w : List sx_C), j + q = 40 → WI w → (∀ i, i < 160 → (ja w 124).getD i 0 = if 40 * k ≤ i ∧ i < 40 * k + j then 0 else (ja w0 124).getD i 0) → sx_RP xs (d + 7) 230 83 [(0, .ref 111), (1, .int (nI k)), (4, .int (nI j))] [] w (fun r w2 => (∀ i, i < 160 → (ja w2 124).getD i 0 = if 40 * k ≤ i ∧ i < 40 * k + 40 then 0 else (ja w0 124).getD i 0) ∧ WI w2 ∧ Same 124 w w2)
  | 0, j, w, hj, hI, hz => by
    obtain rfl : j = 40 := by omega
    refine sx_RP.step (pc2 := 85) (ls2 := [(0, .ref 111), (1, .int (nI k)), (4, .int 40)]) (st2 := [.int 40]) (w3 := w) rfl rfl ?_
    refine sx_RP.step (pc2 := 87) (ls2 := [(0, .ref 111), (1, .int (nI k)), (4, .int 40)]) (st2 := [.int 40, .int 40]) (w3 := w) rfl rfl ?_
    refine sx_RP.step (pc2 := 109) (ls2 := [(0, .ref 111), (1, .int (nI k)), (4, .int 40)]) (st2 := []) (w3 := w) rfl rfl ?_
    refine sx_RP.step (pc2 := 110) (ls2 := [(0, .ref 111), (1, .int (nI k)), (4, .int 40)]) (st2 := [.ref 111]) (w3 := w) rfl rfl ?_
    refine sx_RP.gf (v := .ref 123) rfl rfl hI.1.o111 rfl rfl (show _ = 113 from rfl) ?_
    refine sx_RP.step (pc2 := 114) (ls2 := [(0, .ref 111), (1, .int (nI k)), (4, .int 40)]) (st2 := [.int (nI k), .ref 123]) (w3 := w) rfl rfl ?_
    refine sx_RP.ild (c := k) rfl hI.1.a123.1 hI.1.a123.2 (sx_in_nI (show k < 4 by omega) (by decide)) (show (nI k).toNatClampNeg = k from nI_clamp (by omega)) (show _ = 115 from rfl) ?_
    obtain ⟨x1, hx2, ex3⟩ : inR ((ia w 123).getD k 0) 40 := hI.l (show k < 4 by omega)
    rw [ex3]
    refine sx_RP.ret (r := (some (.int (nI x1)))) rfl rfl ?_
    exact ⟨hz, hI, Same.rf⟩
  | q + 1, j, w, hj, hI, hz => by
    refine sx_RP.step (pc2 := 85) (ls2 := [(0, .ref 111), (1, .int (nI k)), (4, .int (nI j))]) (st2 := [.int (nI j)]) (w3 := w) rfl rfl ?_
    refine sx_RP.step (pc2 := 87) (ls2 := [(0, .ref 111), (1, .int (nI k)), (4, .int (nI j))]) (st2 := [.int 40, .int (nI j)]) (w3 := w) rfl rfl ?_
    refine sx_RP.br (p2 := 90) (l2 := [(0, .ref 111), (1, .int (nI k)), (4, .int (nI j))]) (s2 := []) (v2 := w) rfl rfl (fun q => absurd (of_decide_eq_true q) (fun z => absurd ((nI_leI (a := 40) (b := j) (by omega) (by omega)).mp z) (by omega))) (fun _ => ?_)
    refine sx_RP.step (pc2 := 91) (ls2 := [(0, .ref 111), (1, .int (nI k)), (4, .int (nI j))]) (st2 := [.ref 111]) (w3 := w) rfl rfl ?_
    refine sx_RP.gf (v := .ref 124) rfl rfl hI.1.o111 rfl rfl (show _ = 94 from rfl) ?_
    refine sx_RP.step (pc2 := 96) (ls2 := [(0, .ref 111), (1, .int (nI k)), (4, .int (nI j))]) (st2 := [.int 40, .ref 124]) (w3 := w) rfl rfl ?_
    refine sx_RP.step (pc2 := 97) (ls2 := [(0, .ref 111), (1, .int (nI k)), (4, .int (nI j))]) (st2 := [.int (nI k), .int 40, .ref 124]) (w3 := w) rfl rfl ?_
    refine sx_RP.step (pc2 := 98) (ls2 := [(0, .ref 111), (1, .int (nI k)), (4, .int (nI j))]) (st2 := [.int (40 * (nI k)), .ref 124]) (w3 := w) rfl rfl ?_
    rw [show (40 * (nI k) : Int32) = nI (40 * k) from nI_mul 40 k]
    refine sx_RP.step (pc2 := 100) (ls2 := [(0, .ref 111), (1, .int (nI k)), (4, .int (nI j))]) (st2 := [.int (nI j), .int (nI (40 * k)), .ref 124]) (w3 := w) rfl rfl ?_
    refine sx_RP.step (pc2 := 101) (ls2 := [(0, .ref 111), (1, .int (nI k)), (4, .int (nI j))]) (st2 := [.int ((nI (40 * k)) + (nI j)), .ref 124]) (w3 := w) rfl rfl ?_
    rw [show ((nI (40 * k)) + (nI j) : Int32) = nI ((40 * k) + j) from nI_add (40 * k) j]
    refine sx_RP.step (pc2 := 102) (ls2 := [(0, .ref 111), (1, .int (nI k)), (4, .int (nI j))]) (st2 := [.long 0, .int (nI ((40 * k) + j)), .ref 124]) (w3 := w) rfl rfl ?_
    refine sx_RP.xL (c := ((40 * k) + j)) hI rfl hI.1.a124 (show ((40 * k) + j) < 160 by omega) (by decide) (by omega) (show _ = 103 from rfl) (fun w1 hI2 hs3 hv4 => ?_)
    refine sx_RP.step (pc2 := 106) (ls2 := [(4, .int ((nI j) + 1)), (0, .ref 111), (1, .int (nI k))]) (st2 := []) (w3 := w1) rfl rfl ?_
    rw [nI_1 j]
    refine sx_RP.step (pc2 := 83) (ls2 := [(4, .int (nI (j + 1))), (0, .ref 111), (1, .int (nI k))]) (st2 := []) (w3 := w1) rfl rfl ?_
    refine sx_RP.ls (sx_lr.cons rfl (sx_lr.cons rfl (sx_lr.cons rfl sx_lr.nil))) ((X230L hk q (j + 1) w1 (by omega) hI2 (fun i hi => ?_)).mono9 (fun r w2 z => ⟨z.1, z.2.1, hs3.tr z.2.2⟩))
    rw [hv4, gj_set (by rw [hI.1.a124.2]; omega)]
    by_cases e : i = 40 * k + j
    · rw [if_pos e, if_pos (by omega)]
    · rw [if_neg e, hz i hi]
      by_cases e2 : 40 * k ≤ i ∧ i < 40 * k + j
      · rw [if_pos e2, if_pos (by omega)]
      · rw [if_neg e2, if_neg (by omega)]
set_option maxRecDepth 20000 in
set_option maxHeartbeats 4000000 in
theorem F230 {xs : Option (List Int32)} {d : Nat} {w : List sx_C} (hI : WI w) {k : Nat} (hk : k < 4) (a2 a3 : Int32) : sx_RP xs (d + 7) 230 0 (lv_args 0 [.ref 111, .int (nI k), .int a2, .int a3]) [] w (fun r w2 => WI w2 ∧ ((shV (nI k) a2 a3 ∧ (∀ i, i < 160 → (ja w2 124).getD i 0 = if 40 * k ≤ i ∧ i < 40 * k + 40 then 0 else (ja w 124).getD i 0) ∧ ∀ a, a ≠ 122 → a ≠ 123 → a ≠ 124 → w2[a]? = w[a]?) ∨ (¬ shV (nI k) a2 a3 ∧ Same 116 w w2))) := by
  refine sx_RP.step (pc2 := 1) (ls2 := [(0, .ref 111), (1, .int (nI k)), (2, .int a2), (3, .int a3)]) (st2 := [.int (nI k)]) (w3 := w) rfl rfl ?_
  refine sx_RP.cu (as := [.int (nI k)]) (rest2 := []) (st3 := [.int 1]) rfl rfl rfl rfl rfl (cx_231p ⟨nI_le (a := 0) (Nat.zero_le _) (by omega), nI_le (b := 3) (show k ≤ 3 by omega) (by decide)⟩) rfl ?_
  refine sx_RP.step (pc2 := 7) (ls2 := [(0, .ref 111), (1, .int (nI k)), (2, .int a2), (3, .int a3)]) (st2 := []) (w3 := w) rfl rfl ?_
  refine sx_RP.step (pc2 := 8) (ls2 := [(0, .ref 111), (1, .int (nI k)), (2, .int a2), (3, .int a3)]) (st2 := [.int a2]) (w3 := w) rfl rfl ?_
  refine sx_RP.br (p1 := 35) (l1 := [(0, .ref 111), (1, .int (nI k)), (2, .int a2), (3, .int a3)]) (s1 := []) (v1 := w) (p2 := 11) (l2 := [(0, .ref 111), (1, .int (nI k)), (2, .int a2), (3, .int a3)]) (s2 := []) (v2 := w) rfl rfl (fun q1 => ?_) (fun q1 => ?_)
  · replace q1 := of_decide_eq_true q1
    refine sx_RP.step (pc2 := 36) (ls2 := [(0, .ref 111), (1, .int (nI k)), (2, .int a2), (3, .int a3)]) (st2 := [.int a3]) (w3 := w) rfl rfl ?_
    refine sx_RP.br (p1 := 46) (l1 := [(0, .ref 111), (1, .int (nI k)), (2, .int a2), (3, .int a3)]) (s1 := []) (v1 := w) (p2 := 39) (l2 := [(0, .ref 111), (1, .int (nI k)), (2, .int a2), (3, .int a3)]) (s2 := []) (v2 := w) rfl rfl (fun q2 => ?_) (fun q2 => ?_)
    · replace q2 := of_decide_eq_true q2
      refine sx_RP.step (pc2 := 47) (ls2 := [(0, .ref 111), (1, .int (nI k)), (2, .int a2), (3, .int a3)]) (st2 := [.int a3]) (w3 := w) rfl rfl ?_
      refine sx_RP.step (pc2 := 49) (ls2 := [(0, .ref 111), (1, .int (nI k)), (2, .int a2), (3, .int a3)]) (st2 := [.int 40, .int a3]) (w3 := w) rfl rfl ?_
      refine sx_RP.br (p1 := 58) (l1 := [(0, .ref 111), (1, .int (nI k)), (2, .int a2), (3, .int a3)]) (s1 := []) (v1 := w) (p2 := 52) (l2 := [(0, .ref 111), (1, .int (nI k)), (2, .int a2), (3, .int a3)]) (s2 := []) (v2 := w) rfl rfl (fun q3 => ?_) (fun q3 => ?_)
      · replace q3 := of_decide_eq_true q3
        refine sx_RP.step (pc2 := 59) (ls2 := [(0, .ref 111), (1, .int (nI k)), (2, .int a2), (3, .int a3)]) (st2 := [.ref 111]) (w3 := w) rfl rfl ?_
        refine sx_RP.gf (v := .ref 122) rfl rfl hI.1.o111 rfl rfl (show _ = 62 from rfl) ?_
        refine sx_RP.step (pc2 := 63) (ls2 := [(0, .ref 111), (1, .int (nI k)), (2, .int a2), (3, .int a3)]) (st2 := [.int (nI k), .ref 122]) (w3 := w) rfl rfl ?_
        refine sx_RP.step (pc2 := 64) (ls2 := [(0, .ref 111), (1, .int (nI k)), (2, .int a2), (3, .int a3)]) (st2 := [.int a2, .int (nI k), .ref 122]) (w3 := w) rfl rfl ?_
        refine sx_RP.mBt (k := k) hI rfl hk (show _ = 65 from rfl) (fun w4 hI5 hF6 ex7 => ?_)
        refine sx_RP.step (pc2 := 66) (ls2 := [(0, .ref 111), (1, .int (nI k)), (2, .int a2), (3, .int a3)]) (st2 := [.ref 111]) (w3 := w4) rfl rfl ?_
        refine sx_RP.gf (v := .ref 123) rfl rfl hI5.1.o111 rfl rfl (show _ = 69 from rfl) ?_
        refine sx_RP.step (pc2 := 70) (ls2 := [(0, .ref 111), (1, .int (nI k)), (2, .int a2), (3, .int a3)]) (st2 := [.int (nI k), .ref 123]) (w3 := w4) rfl rfl ?_
        refine sx_RP.step (pc2 := 71) (ls2 := [(0, .ref 111), (1, .int (nI k)), (2, .int a2), (3, .int a3)]) (st2 := [.int a2, .int (nI k), .ref 123]) (w3 := w4) rfl rfl ?_
        refine sx_RP.br (p1 := 78) (l1 := [(0, .ref 111), (1, .int (nI k)), (2, .int a2), (3, .int a3)]) (s1 := [.int (nI k), .ref 123]) (v1 := w4) (p2 := 74) (l2 := [(0, .ref 111), (1, .int (nI k)), (2, .int a2), (3, .int a3)]) (s2 := [.int (nI k), .ref 123]) (v2 := w4) rfl rfl (fun q8 => ?_) (fun q8 => ?_)
        · replace q8 := of_decide_eq_true q8
          refine sx_RP.step (pc2 := 79) (ls2 := [(0, .ref 111), (1, .int (nI k)), (2, .int a2), (3, .int a3)]) (st2 := [.int a3, .int (nI k), .ref 123]) (w3 := w4) rfl rfl ?_
          refine sx_RP.mSt (k := k) hI5 rfl hk (sz_of (Int32.not_lt.mpr q2) q3) (show _ = 80 from rfl) (fun w9 hI10 hF11 ex12 => ?_)
          refine sx_RP.step (pc2 := 81) (ls2 := [(0, .ref 111), (1, .int (nI k)), (2, .int a2), (3, .int a3)]) (st2 := [.int 0]) (w3 := w9) rfl rfl ?_
          refine sx_RP.step (pc2 := 83) (ls2 := [(4, .int 0), (0, .ref 111), (1, .int (nI k)), (2, .int a2), (3, .int a3)]) (st2 := []) (w3 := w9) rfl rfl ?_
          refine sx_RP.ls (sx_lr.cons rfl (sx_lr.cons rfl (sx_lr.cons rfl sx_lr.nil))) ((X230L (w0 := w) hk 40 0 w9 (by omega) hI10 (fun i hi => by rw [if_neg (by omega), ja_of (hF11 124 (by decide)), ja_of (hF6 124 (by decide))])).mono9 (fun r w2 z => ⟨z.2.1, Or.inl ⟨⟨⟨⟨nI_le (a := 0) (Nat.zero_le _) (by omega), nI_le (b := 3) (show k ≤ 3 by omega) (by decide)⟩, (Or.inl q1)⟩, ⟨q2, q3⟩⟩, z.1, fun a g1 g2 g3 => (z.2.2 a g3).trans ((hF11 a g2).trans (hF6 a g1))⟩⟩))
        · replace q8 := Decidable.not_not.mp (of_decide_eq_false q8)
          refine sx_RP.step (pc2 := 75) (ls2 := [(0, .ref 111), (1, .int (nI k)), (2, .int a2), (3, .int a3)]) (st2 := [.int 0, .int (nI k), .ref 123]) (w3 := w4) rfl rfl ?_
          refine sx_RP.step (pc2 := 79) (ls2 := [(0, .ref 111), (1, .int (nI k)), (2, .int a2), (3, .int a3)]) (st2 := [.int 0, .int (nI k), .ref 123]) (w3 := w4) rfl rfl ?_
          refine sx_RP.mSt (k := k) hI5 rfl hk ⟨0, by decide, rfl⟩ (show _ = 80 from rfl) (fun w13 hI14 hF15 ex16 => ?_)
          refine sx_RP.step (pc2 := 81) (ls2 := [(0, .ref 111), (1, .int (nI k)), (2, .int a2), (3, .int a3)]) (st2 := [.int 0]) (w3 := w13) rfl rfl ?_
          refine sx_RP.step (pc2 := 83) (ls2 := [(4, .int 0), (0, .ref 111), (1, .int (nI k)), (2, .int a2), (3, .int a3)]) (st2 := []) (w3 := w13) rfl rfl ?_
          refine sx_RP.ls (sx_lr.cons rfl (sx_lr.cons rfl (sx_lr.cons rfl sx_lr.nil))) ((X230L (w0 := w) hk 40 0 w13 (by omega) hI14 (fun i hi => by rw [if_neg (by omega), ja_of (hF15 124 (by decide)), ja_of (hF6 124 (by decide))])).mono9 (fun r w2 z => ⟨z.2.1, Or.inl ⟨⟨⟨⟨nI_le (a := 0) (Nat.zero_le _) (by omega), nI_le (b := 3) (show k ≤ 3 by omega) (by decide)⟩, (Or.inl q1)⟩, ⟨q2, q3⟩⟩, z.1, fun a g1 g2 g3 => (z.2.2 a g3).trans ((hF15 a g2).trans (hF6 a g1))⟩⟩))
      · replace q3 := of_decide_eq_false q3
        refine sx_RP.step (pc2 := 53) (ls2 := [(0, .ref 111), (1, .int (nI k)), (2, .int a2), (3, .int a3)]) (st2 := [.ref 111]) (w3 := w) rfl rfl ?_
        refine sx_RP.step (pc2 := 54) (ls2 := [(0, .ref 111), (1, .int (nI k)), (2, .int a2), (3, .int a3)]) (st2 := [.int 0, .ref 111]) (w3 := w) rfl rfl ?_
        refine sx_RP.callp (as2 := [.ref 111, .int 0]) (rest2 := []) rfl rfl (sx_inv_v2 (mi := 230) (k := 70) (st := [.int 0, .ref 111]) (w := w) rfl rfl hI.1.o111 rfl rfl rfl) rfl rfl rfl (S133_0 hI) (show _ = 57 from rfl) ?_
        rintro r4 w18 ⟨rfl, hI19, hs17⟩
        show sx_RP _ _ _ _ _ [.int (-1000000001)] _ _
        refine sx_RP.ret (r := (some (.int (-1000000001)))) rfl rfl ?_
        exact ⟨hI19, Or.inr ⟨(fun z => q3 z.2.2), hs17⟩⟩
    · replace q2 := of_decide_eq_false q2
      refine sx_RP.step (pc2 := 40) (ls2 := [(0, .ref 111), (1, .int (nI k)), (2, .int a2), (3, .int a3)]) (st2 := [.ref 111]) (w3 := w) rfl rfl ?_
      refine sx_RP.step (pc2 := 42) (ls2 := [(0, .ref 111), (1, .int (nI k)), (2, .int a2), (3, .int a3)]) (st2 := [.int 6, .ref 111]) (w3 := w) rfl rfl ?_
      refine sx_RP.callp (as2 := [.ref 111, .int 6]) (rest2 := []) rfl rfl (sx_inv_v2 (mi := 230) (k := 70) (st := [.int 6, .ref 111]) (w := w) rfl rfl hI.1.o111 rfl rfl rfl) rfl rfl rfl (S133_6 hI) (show _ = 45 from rfl) ?_
      rintro r4 w21 ⟨rfl, hI22, hs20⟩
      show sx_RP _ _ _ _ _ [.int (-1000000007)] _ _
      refine sx_RP.ret (r := (some (.int (-1000000007)))) rfl rfl ?_
      exact ⟨hI22, Or.inr ⟨(fun z => q2 z.2.1), hs20⟩⟩
  · replace q1 := of_decide_eq_false q1
    refine sx_RP.step (pc2 := 12) (ls2 := [(0, .ref 111), (1, .int (nI k)), (2, .int a2), (3, .int a3)]) (st2 := [.int a2]) (w3 := w) rfl rfl ?_
    refine sx_RP.step (pc2 := 14) (ls2 := [(0, .ref 111), (1, .int (nI k)), (2, .int a2), (3, .int a3)]) (st2 := [.int 8, .int a2]) (w3 := w) rfl rfl ?_
    refine sx_RP.br (p1 := 35) (l1 := [(0, .ref 111), (1, .int (nI k)), (2, .int a2), (3, .int a3)]) (s1 := []) (v1 := w) (p2 := 17) (l2 := [(0, .ref 111), (1, .int (nI k)), (2, .int a2), (3, .int a3)]) (s2 := []) (v2 := w) rfl rfl (fun q23 => ?_) (fun q23 => ?_)
    · replace q23 := of_decide_eq_true q23
      refine sx_RP.step (pc2 := 36) (ls2 := [(0, .ref 111), (1, .int (nI k)), (2, .int a2), (3, .int a3)]) (st2 := [.int a3]) (w3 := w) rfl rfl ?_
      refine sx_RP.br (p1 := 46) (l1 := [(0, .ref 111), (1, .int (nI k)), (2, .int a2), (3, .int a3)]) (s1 := []) (v1 := w) (p2 := 39) (l2 := [(0, .ref 111), (1, .int (nI k)), (2, .int a2), (3, .int a3)]) (s2 := []) (v2 := w) rfl rfl (fun q24 => ?_) (fun q24 => ?_)
      · replace q24 := of_decide_eq_true q24
        refine sx_RP.step (pc2 := 47) (ls2 := [(0, .ref 111), (1, .int (nI k)), (2, .int a2), (3, .int a3)]) (st2 := [.int a3]) (w3 := w) rfl rfl ?_
        refine sx_RP.step (pc2 := 49) (ls2 := [(0, .ref 111), (1, .int (nI k)), (2, .int a2), (3, .int a3)]) (st2 := [.int 40, .int a3]) (w3 := w) rfl rfl ?_
        refine sx_RP.br (p1 := 58) (l1 := [(0, .ref 111), (1, .int (nI k)), (2, .int a2), (3, .int a3)]) (s1 := []) (v1 := w) (p2 := 52) (l2 := [(0, .ref 111), (1, .int (nI k)), (2, .int a2), (3, .int a3)]) (s2 := []) (v2 := w) rfl rfl (fun q25 => ?_) (fun q25 => ?_)
        · replace q25 := of_decide_eq_true q25
          refine sx_RP.step (pc2 := 59) (ls2 := [(0, .ref 111), (1, .int (nI k)), (2, .int a2), (3, .int a3)]) (st2 := [.ref 111]) (w3 := w) rfl rfl ?_
          refine sx_RP.gf (v := .ref 122) rfl rfl hI.1.o111 rfl rfl (show _ = 62 from rfl) ?_
          refine sx_RP.step (pc2 := 63) (ls2 := [(0, .ref 111), (1, .int (nI k)), (2, .int a2), (3, .int a3)]) (st2 := [.int (nI k), .ref 122]) (w3 := w) rfl rfl ?_
          refine sx_RP.step (pc2 := 64) (ls2 := [(0, .ref 111), (1, .int (nI k)), (2, .int a2), (3, .int a3)]) (st2 := [.int a2, .int (nI k), .ref 122]) (w3 := w) rfl rfl ?_
          refine sx_RP.mBt (k := k) hI rfl hk (show _ = 65 from rfl) (fun w26 hI27 hF28 ex29 => ?_)
          refine sx_RP.step (pc2 := 66) (ls2 := [(0, .ref 111), (1, .int (nI k)), (2, .int a2), (3, .int a3)]) (st2 := [.ref 111]) (w3 := w26) rfl rfl ?_
          refine sx_RP.gf (v := .ref 123) rfl rfl hI27.1.o111 rfl rfl (show _ = 69 from rfl) ?_
          refine sx_RP.step (pc2 := 70) (ls2 := [(0, .ref 111), (1, .int (nI k)), (2, .int a2), (3, .int a3)]) (st2 := [.int (nI k), .ref 123]) (w3 := w26) rfl rfl ?_
          refine sx_RP.step (pc2 := 71) (ls2 := [(0, .ref 111), (1, .int (nI k)), (2, .int a2), (3, .int a3)]) (st2 := [.int a2, .int (nI k), .ref 123]) (w3 := w26) rfl rfl ?_
          refine sx_RP.br (p1 := 78) (l1 := [(0, .ref 111), (1, .int (nI k)), (2, .int a2), (3, .int a3)]) (s1 := [.int (nI k), .ref 123]) (v1 := w26) (p2 := 74) (l2 := [(0, .ref 111), (1, .int (nI k)), (2, .int a2), (3, .int a3)]) (s2 := [.int (nI k), .ref 123]) (v2 := w26) rfl rfl (fun q30 => ?_) (fun q30 => ?_)
          · replace q30 := of_decide_eq_true q30
            refine sx_RP.step (pc2 := 79) (ls2 := [(0, .ref 111), (1, .int (nI k)), (2, .int a2), (3, .int a3)]) (st2 := [.int a3, .int (nI k), .ref 123]) (w3 := w26) rfl rfl ?_
            refine sx_RP.mSt (k := k) hI27 rfl hk (sz_of (Int32.not_lt.mpr q24) q25) (show _ = 80 from rfl) (fun w31 hI32 hF33 ex34 => ?_)
            refine sx_RP.step (pc2 := 81) (ls2 := [(0, .ref 111), (1, .int (nI k)), (2, .int a2), (3, .int a3)]) (st2 := [.int 0]) (w3 := w31) rfl rfl ?_
            refine sx_RP.step (pc2 := 83) (ls2 := [(4, .int 0), (0, .ref 111), (1, .int (nI k)), (2, .int a2), (3, .int a3)]) (st2 := []) (w3 := w31) rfl rfl ?_
            refine sx_RP.ls (sx_lr.cons rfl (sx_lr.cons rfl (sx_lr.cons rfl sx_lr.nil))) ((X230L (w0 := w) hk 40 0 w31 (by omega) hI32 (fun i hi => by rw [if_neg (by omega), ja_of (hF33 124 (by decide)), ja_of (hF28 124 (by decide))])).mono9 (fun r w2 z => ⟨z.2.1, Or.inl ⟨⟨⟨⟨nI_le (a := 0) (Nat.zero_le _) (by omega), nI_le (b := 3) (show k ≤ 3 by omega) (by decide)⟩, (Or.inr (Or.inl q23))⟩, ⟨q24, q25⟩⟩, z.1, fun a g1 g2 g3 => (z.2.2 a g3).trans ((hF33 a g2).trans (hF28 a g1))⟩⟩))
          · replace q30 := Decidable.not_not.mp (of_decide_eq_false q30)
            refine sx_RP.step (pc2 := 75) (ls2 := [(0, .ref 111), (1, .int (nI k)), (2, .int a2), (3, .int a3)]) (st2 := [.int 0, .int (nI k), .ref 123]) (w3 := w26) rfl rfl ?_
            refine sx_RP.step (pc2 := 79) (ls2 := [(0, .ref 111), (1, .int (nI k)), (2, .int a2), (3, .int a3)]) (st2 := [.int 0, .int (nI k), .ref 123]) (w3 := w26) rfl rfl ?_
            refine sx_RP.mSt (k := k) hI27 rfl hk ⟨0, by decide, rfl⟩ (show _ = 80 from rfl) (fun w35 hI36 hF37 ex38 => ?_)
            refine sx_RP.step (pc2 := 81) (ls2 := [(0, .ref 111), (1, .int (nI k)), (2, .int a2), (3, .int a3)]) (st2 := [.int 0]) (w3 := w35) rfl rfl ?_
            refine sx_RP.step (pc2 := 83) (ls2 := [(4, .int 0), (0, .ref 111), (1, .int (nI k)), (2, .int a2), (3, .int a3)]) (st2 := []) (w3 := w35) rfl rfl ?_
            refine sx_RP.ls (sx_lr.cons rfl (sx_lr.cons rfl (sx_lr.cons rfl sx_lr.nil))) ((X230L (w0 := w) hk 40 0 w35 (by omega) hI36 (fun i hi => by rw [if_neg (by omega), ja_of (hF37 124 (by decide)), ja_of (hF28 124 (by decide))])).mono9 (fun r w2 z => ⟨z.2.1, Or.inl ⟨⟨⟨⟨nI_le (a := 0) (Nat.zero_le _) (by omega), nI_le (b := 3) (show k ≤ 3 by omega) (by decide)⟩, (Or.inl q30)⟩, ⟨q24, q25⟩⟩, z.1, fun a g1 g2 g3 => (z.2.2 a g3).trans ((hF37 a g2).trans (hF28 a g1))⟩⟩))
        · replace q25 := of_decide_eq_false q25
          refine sx_RP.step (pc2 := 53) (ls2 := [(0, .ref 111), (1, .int (nI k)), (2, .int a2), (3, .int a3)]) (st2 := [.ref 111]) (w3 := w) rfl rfl ?_
          refine sx_RP.step (pc2 := 54) (ls2 := [(0, .ref 111), (1, .int (nI k)), (2, .int a2), (3, .int a3)]) (st2 := [.int 0, .ref 111]) (w3 := w) rfl rfl ?_
          refine sx_RP.callp (as2 := [.ref 111, .int 0]) (rest2 := []) rfl rfl (sx_inv_v2 (mi := 230) (k := 70) (st := [.int 0, .ref 111]) (w := w) rfl rfl hI.1.o111 rfl rfl rfl) rfl rfl rfl (S133_0 hI) (show _ = 57 from rfl) ?_
          rintro r4 w40 ⟨rfl, hI41, hs39⟩
          show sx_RP _ _ _ _ _ [.int (-1000000001)] _ _
          refine sx_RP.ret (r := (some (.int (-1000000001)))) rfl rfl ?_
          exact ⟨hI41, Or.inr ⟨(fun z => q25 z.2.2), hs39⟩⟩
      · replace q24 := of_decide_eq_false q24
        refine sx_RP.step (pc2 := 40) (ls2 := [(0, .ref 111), (1, .int (nI k)), (2, .int a2), (3, .int a3)]) (st2 := [.ref 111]) (w3 := w) rfl rfl ?_
        refine sx_RP.step (pc2 := 42) (ls2 := [(0, .ref 111), (1, .int (nI k)), (2, .int a2), (3, .int a3)]) (st2 := [.int 6, .ref 111]) (w3 := w) rfl rfl ?_
        refine sx_RP.callp (as2 := [.ref 111, .int 6]) (rest2 := []) rfl rfl (sx_inv_v2 (mi := 230) (k := 70) (st := [.int 6, .ref 111]) (w := w) rfl rfl hI.1.o111 rfl rfl rfl) rfl rfl rfl (S133_6 hI) (show _ = 45 from rfl) ?_
        rintro r4 w43 ⟨rfl, hI44, hs42⟩
        show sx_RP _ _ _ _ _ [.int (-1000000007)] _ _
        refine sx_RP.ret (r := (some (.int (-1000000007)))) rfl rfl ?_
        exact ⟨hI44, Or.inr ⟨(fun z => q24 z.2.1), hs42⟩⟩
    · replace q23 := of_decide_eq_false q23
      refine sx_RP.step (pc2 := 18) (ls2 := [(0, .ref 111), (1, .int (nI k)), (2, .int a2), (3, .int a3)]) (st2 := [.int a2]) (w3 := w) rfl rfl ?_
      refine sx_RP.step (pc2 := 20) (ls2 := [(0, .ref 111), (1, .int (nI k)), (2, .int a2), (3, .int a3)]) (st2 := [.int 16, .int a2]) (w3 := w) rfl rfl ?_
      refine sx_RP.br (p1 := 35) (l1 := [(0, .ref 111), (1, .int (nI k)), (2, .int a2), (3, .int a3)]) (s1 := []) (v1 := w) (p2 := 23) (l2 := [(0, .ref 111), (1, .int (nI k)), (2, .int a2), (3, .int a3)]) (s2 := []) (v2 := w) rfl rfl (fun q45 => ?_) (fun q45 => ?_)
      · replace q45 := of_decide_eq_true q45
        refine sx_RP.step (pc2 := 36) (ls2 := [(0, .ref 111), (1, .int (nI k)), (2, .int a2), (3, .int a3)]) (st2 := [.int a3]) (w3 := w) rfl rfl ?_
        refine sx_RP.br (p1 := 46) (l1 := [(0, .ref 111), (1, .int (nI k)), (2, .int a2), (3, .int a3)]) (s1 := []) (v1 := w) (p2 := 39) (l2 := [(0, .ref 111), (1, .int (nI k)), (2, .int a2), (3, .int a3)]) (s2 := []) (v2 := w) rfl rfl (fun q46 => ?_) (fun q46 => ?_)
        · replace q46 := of_decide_eq_true q46
          refine sx_RP.step (pc2 := 47) (ls2 := [(0, .ref 111), (1, .int (nI k)), (2, .int a2), (3, .int a3)]) (st2 := [.int a3]) (w3 := w) rfl rfl ?_
          refine sx_RP.step (pc2 := 49) (ls2 := [(0, .ref 111), (1, .int (nI k)), (2, .int a2), (3, .int a3)]) (st2 := [.int 40, .int a3]) (w3 := w) rfl rfl ?_
          refine sx_RP.br (p1 := 58) (l1 := [(0, .ref 111), (1, .int (nI k)), (2, .int a2), (3, .int a3)]) (s1 := []) (v1 := w) (p2 := 52) (l2 := [(0, .ref 111), (1, .int (nI k)), (2, .int a2), (3, .int a3)]) (s2 := []) (v2 := w) rfl rfl (fun q47 => ?_) (fun q47 => ?_)
          · replace q47 := of_decide_eq_true q47
            refine sx_RP.step (pc2 := 59) (ls2 := [(0, .ref 111), (1, .int (nI k)), (2, .int a2), (3, .int a3)]) (st2 := [.ref 111]) (w3 := w) rfl rfl ?_
            refine sx_RP.gf (v := .ref 122) rfl rfl hI.1.o111 rfl rfl (show _ = 62 from rfl) ?_
            refine sx_RP.step (pc2 := 63) (ls2 := [(0, .ref 111), (1, .int (nI k)), (2, .int a2), (3, .int a3)]) (st2 := [.int (nI k), .ref 122]) (w3 := w) rfl rfl ?_
            refine sx_RP.step (pc2 := 64) (ls2 := [(0, .ref 111), (1, .int (nI k)), (2, .int a2), (3, .int a3)]) (st2 := [.int a2, .int (nI k), .ref 122]) (w3 := w) rfl rfl ?_
            refine sx_RP.mBt (k := k) hI rfl hk (show _ = 65 from rfl) (fun w48 hI49 hF50 ex51 => ?_)
            refine sx_RP.step (pc2 := 66) (ls2 := [(0, .ref 111), (1, .int (nI k)), (2, .int a2), (3, .int a3)]) (st2 := [.ref 111]) (w3 := w48) rfl rfl ?_
            refine sx_RP.gf (v := .ref 123) rfl rfl hI49.1.o111 rfl rfl (show _ = 69 from rfl) ?_
            refine sx_RP.step (pc2 := 70) (ls2 := [(0, .ref 111), (1, .int (nI k)), (2, .int a2), (3, .int a3)]) (st2 := [.int (nI k), .ref 123]) (w3 := w48) rfl rfl ?_
            refine sx_RP.step (pc2 := 71) (ls2 := [(0, .ref 111), (1, .int (nI k)), (2, .int a2), (3, .int a3)]) (st2 := [.int a2, .int (nI k), .ref 123]) (w3 := w48) rfl rfl ?_
            refine sx_RP.br (p1 := 78) (l1 := [(0, .ref 111), (1, .int (nI k)), (2, .int a2), (3, .int a3)]) (s1 := [.int (nI k), .ref 123]) (v1 := w48) (p2 := 74) (l2 := [(0, .ref 111), (1, .int (nI k)), (2, .int a2), (3, .int a3)]) (s2 := [.int (nI k), .ref 123]) (v2 := w48) rfl rfl (fun q52 => ?_) (fun q52 => ?_)
            · replace q52 := of_decide_eq_true q52
              refine sx_RP.step (pc2 := 79) (ls2 := [(0, .ref 111), (1, .int (nI k)), (2, .int a2), (3, .int a3)]) (st2 := [.int a3, .int (nI k), .ref 123]) (w3 := w48) rfl rfl ?_
              refine sx_RP.mSt (k := k) hI49 rfl hk (sz_of (Int32.not_lt.mpr q46) q47) (show _ = 80 from rfl) (fun w53 hI54 hF55 ex56 => ?_)
              refine sx_RP.step (pc2 := 81) (ls2 := [(0, .ref 111), (1, .int (nI k)), (2, .int a2), (3, .int a3)]) (st2 := [.int 0]) (w3 := w53) rfl rfl ?_
              refine sx_RP.step (pc2 := 83) (ls2 := [(4, .int 0), (0, .ref 111), (1, .int (nI k)), (2, .int a2), (3, .int a3)]) (st2 := []) (w3 := w53) rfl rfl ?_
              refine sx_RP.ls (sx_lr.cons rfl (sx_lr.cons rfl (sx_lr.cons rfl sx_lr.nil))) ((X230L (w0 := w) hk 40 0 w53 (by omega) hI54 (fun i hi => by rw [if_neg (by omega), ja_of (hF55 124 (by decide)), ja_of (hF50 124 (by decide))])).mono9 (fun r w2 z => ⟨z.2.1, Or.inl ⟨⟨⟨⟨nI_le (a := 0) (Nat.zero_le _) (by omega), nI_le (b := 3) (show k ≤ 3 by omega) (by decide)⟩, (Or.inr (Or.inr (Or.inl q45)))⟩, ⟨q46, q47⟩⟩, z.1, fun a g1 g2 g3 => (z.2.2 a g3).trans ((hF55 a g2).trans (hF50 a g1))⟩⟩))
            · replace q52 := Decidable.not_not.mp (of_decide_eq_false q52)
              refine sx_RP.step (pc2 := 75) (ls2 := [(0, .ref 111), (1, .int (nI k)), (2, .int a2), (3, .int a3)]) (st2 := [.int 0, .int (nI k), .ref 123]) (w3 := w48) rfl rfl ?_
              refine sx_RP.step (pc2 := 79) (ls2 := [(0, .ref 111), (1, .int (nI k)), (2, .int a2), (3, .int a3)]) (st2 := [.int 0, .int (nI k), .ref 123]) (w3 := w48) rfl rfl ?_
              refine sx_RP.mSt (k := k) hI49 rfl hk ⟨0, by decide, rfl⟩ (show _ = 80 from rfl) (fun w57 hI58 hF59 ex60 => ?_)
              refine sx_RP.step (pc2 := 81) (ls2 := [(0, .ref 111), (1, .int (nI k)), (2, .int a2), (3, .int a3)]) (st2 := [.int 0]) (w3 := w57) rfl rfl ?_
              refine sx_RP.step (pc2 := 83) (ls2 := [(4, .int 0), (0, .ref 111), (1, .int (nI k)), (2, .int a2), (3, .int a3)]) (st2 := []) (w3 := w57) rfl rfl ?_
              refine sx_RP.ls (sx_lr.cons rfl (sx_lr.cons rfl (sx_lr.cons rfl sx_lr.nil))) ((X230L (w0 := w) hk 40 0 w57 (by omega) hI58 (fun i hi => by rw [if_neg (by omega), ja_of (hF59 124 (by decide)), ja_of (hF50 124 (by decide))])).mono9 (fun r w2 z => ⟨z.2.1, Or.inl ⟨⟨⟨⟨nI_le (a := 0) (Nat.zero_le _) (by omega), nI_le (b := 3) (show k ≤ 3 by omega) (by decide)⟩, (Or.inl q52)⟩, ⟨q46, q47⟩⟩, z.1, fun a g1 g2 g3 => (z.2.2 a g3).trans ((hF59 a g2).trans (hF50 a g1))⟩⟩))
          · replace q47 := of_decide_eq_false q47
            refine sx_RP.step (pc2 := 53) (ls2 := [(0, .ref 111), (1, .int (nI k)), (2, .int a2), (3, .int a3)]) (st2 := [.ref 111]) (w3 := w) rfl rfl ?_
            refine sx_RP.step (pc2 := 54) (ls2 := [(0, .ref 111), (1, .int (nI k)), (2, .int a2), (3, .int a3)]) (st2 := [.int 0, .ref 111]) (w3 := w) rfl rfl ?_
            refine sx_RP.callp (as2 := [.ref 111, .int 0]) (rest2 := []) rfl rfl (sx_inv_v2 (mi := 230) (k := 70) (st := [.int 0, .ref 111]) (w := w) rfl rfl hI.1.o111 rfl rfl rfl) rfl rfl rfl (S133_0 hI) (show _ = 57 from rfl) ?_
            rintro r4 w62 ⟨rfl, hI63, hs61⟩
            show sx_RP _ _ _ _ _ [.int (-1000000001)] _ _
            refine sx_RP.ret (r := (some (.int (-1000000001)))) rfl rfl ?_
            exact ⟨hI63, Or.inr ⟨(fun z => q47 z.2.2), hs61⟩⟩
        · replace q46 := of_decide_eq_false q46
          refine sx_RP.step (pc2 := 40) (ls2 := [(0, .ref 111), (1, .int (nI k)), (2, .int a2), (3, .int a3)]) (st2 := [.ref 111]) (w3 := w) rfl rfl ?_
          refine sx_RP.step (pc2 := 42) (ls2 := [(0, .ref 111), (1, .int (nI k)), (2, .int a2), (3, .int a3)]) (st2 := [.int 6, .ref 111]) (w3 := w) rfl rfl ?_
          refine sx_RP.callp (as2 := [.ref 111, .int 6]) (rest2 := []) rfl rfl (sx_inv_v2 (mi := 230) (k := 70) (st := [.int 6, .ref 111]) (w := w) rfl rfl hI.1.o111 rfl rfl rfl) rfl rfl rfl (S133_6 hI) (show _ = 45 from rfl) ?_
          rintro r4 w65 ⟨rfl, hI66, hs64⟩
          show sx_RP _ _ _ _ _ [.int (-1000000007)] _ _
          refine sx_RP.ret (r := (some (.int (-1000000007)))) rfl rfl ?_
          exact ⟨hI66, Or.inr ⟨(fun z => q46 z.2.1), hs64⟩⟩
      · replace q45 := of_decide_eq_false q45
        refine sx_RP.step (pc2 := 24) (ls2 := [(0, .ref 111), (1, .int (nI k)), (2, .int a2), (3, .int a3)]) (st2 := [.int a2]) (w3 := w) rfl rfl ?_
        refine sx_RP.step (pc2 := 26) (ls2 := [(0, .ref 111), (1, .int (nI k)), (2, .int a2), (3, .int a3)]) (st2 := [.int 64, .int a2]) (w3 := w) rfl rfl ?_
        refine sx_RP.br (p1 := 35) (l1 := [(0, .ref 111), (1, .int (nI k)), (2, .int a2), (3, .int a3)]) (s1 := []) (v1 := w) (p2 := 29) (l2 := [(0, .ref 111), (1, .int (nI k)), (2, .int a2), (3, .int a3)]) (s2 := []) (v2 := w) rfl rfl (fun q67 => ?_) (fun q67 => ?_)
        · replace q67 := of_decide_eq_true q67
          refine sx_RP.step (pc2 := 36) (ls2 := [(0, .ref 111), (1, .int (nI k)), (2, .int a2), (3, .int a3)]) (st2 := [.int a3]) (w3 := w) rfl rfl ?_
          refine sx_RP.br (p1 := 46) (l1 := [(0, .ref 111), (1, .int (nI k)), (2, .int a2), (3, .int a3)]) (s1 := []) (v1 := w) (p2 := 39) (l2 := [(0, .ref 111), (1, .int (nI k)), (2, .int a2), (3, .int a3)]) (s2 := []) (v2 := w) rfl rfl (fun q68 => ?_) (fun q68 => ?_)
          · replace q68 := of_decide_eq_true q68
            refine sx_RP.step (pc2 := 47) (ls2 := [(0, .ref 111), (1, .int (nI k)), (2, .int a2), (3, .int a3)]) (st2 := [.int a3]) (w3 := w) rfl rfl ?_
            refine sx_RP.step (pc2 := 49) (ls2 := [(0, .ref 111), (1, .int (nI k)), (2, .int a2), (3, .int a3)]) (st2 := [.int 40, .int a3]) (w3 := w) rfl rfl ?_
            refine sx_RP.br (p1 := 58) (l1 := [(0, .ref 111), (1, .int (nI k)), (2, .int a2), (3, .int a3)]) (s1 := []) (v1 := w) (p2 := 52) (l2 := [(0, .ref 111), (1, .int (nI k)), (2, .int a2), (3, .int a3)]) (s2 := []) (v2 := w) rfl rfl (fun q69 => ?_) (fun q69 => ?_)
            · replace q69 := of_decide_eq_true q69
              refine sx_RP.step (pc2 := 59) (ls2 := [(0, .ref 111), (1, .int (nI k)), (2, .int a2), (3, .int a3)]) (st2 := [.ref 111]) (w3 := w) rfl rfl ?_
              refine sx_RP.gf (v := .ref 122) rfl rfl hI.1.o111 rfl rfl (show _ = 62 from rfl) ?_
              refine sx_RP.step (pc2 := 63) (ls2 := [(0, .ref 111), (1, .int (nI k)), (2, .int a2), (3, .int a3)]) (st2 := [.int (nI k), .ref 122]) (w3 := w) rfl rfl ?_
              refine sx_RP.step (pc2 := 64) (ls2 := [(0, .ref 111), (1, .int (nI k)), (2, .int a2), (3, .int a3)]) (st2 := [.int a2, .int (nI k), .ref 122]) (w3 := w) rfl rfl ?_
              refine sx_RP.mBt (k := k) hI rfl hk (show _ = 65 from rfl) (fun w70 hI71 hF72 ex73 => ?_)
              refine sx_RP.step (pc2 := 66) (ls2 := [(0, .ref 111), (1, .int (nI k)), (2, .int a2), (3, .int a3)]) (st2 := [.ref 111]) (w3 := w70) rfl rfl ?_
              refine sx_RP.gf (v := .ref 123) rfl rfl hI71.1.o111 rfl rfl (show _ = 69 from rfl) ?_
              refine sx_RP.step (pc2 := 70) (ls2 := [(0, .ref 111), (1, .int (nI k)), (2, .int a2), (3, .int a3)]) (st2 := [.int (nI k), .ref 123]) (w3 := w70) rfl rfl ?_
              refine sx_RP.step (pc2 := 71) (ls2 := [(0, .ref 111), (1, .int (nI k)), (2, .int a2), (3, .int a3)]) (st2 := [.int a2, .int (nI k), .ref 123]) (w3 := w70) rfl rfl ?_
              refine sx_RP.br (p1 := 78) (l1 := [(0, .ref 111), (1, .int (nI k)), (2, .int a2), (3, .int a3)]) (s1 := [.int (nI k), .ref 123]) (v1 := w70) (p2 := 74) (l2 := [(0, .ref 111), (1, .int (nI k)), (2, .int a2), (3, .int a3)]) (s2 := [.int (nI k), .ref 123]) (v2 := w70) rfl rfl (fun q74 => ?_) (fun q74 => ?_)
              · replace q74 := of_decide_eq_true q74
                refine sx_RP.step (pc2 := 79) (ls2 := [(0, .ref 111), (1, .int (nI k)), (2, .int a2), (3, .int a3)]) (st2 := [.int a3, .int (nI k), .ref 123]) (w3 := w70) rfl rfl ?_
                refine sx_RP.mSt (k := k) hI71 rfl hk (sz_of (Int32.not_lt.mpr q68) q69) (show _ = 80 from rfl) (fun w75 hI76 hF77 ex78 => ?_)
                refine sx_RP.step (pc2 := 81) (ls2 := [(0, .ref 111), (1, .int (nI k)), (2, .int a2), (3, .int a3)]) (st2 := [.int 0]) (w3 := w75) rfl rfl ?_
                refine sx_RP.step (pc2 := 83) (ls2 := [(4, .int 0), (0, .ref 111), (1, .int (nI k)), (2, .int a2), (3, .int a3)]) (st2 := []) (w3 := w75) rfl rfl ?_
                refine sx_RP.ls (sx_lr.cons rfl (sx_lr.cons rfl (sx_lr.cons rfl sx_lr.nil))) ((X230L (w0 := w) hk 40 0 w75 (by omega) hI76 (fun i hi => by rw [if_neg (by omega), ja_of (hF77 124 (by decide)), ja_of (hF72 124 (by decide))])).mono9 (fun r w2 z => ⟨z.2.1, Or.inl ⟨⟨⟨⟨nI_le (a := 0) (Nat.zero_le _) (by omega), nI_le (b := 3) (show k ≤ 3 by omega) (by decide)⟩, (Or.inr (Or.inr (Or.inr q67)))⟩, ⟨q68, q69⟩⟩, z.1, fun a g1 g2 g3 => (z.2.2 a g3).trans ((hF77 a g2).trans (hF72 a g1))⟩⟩))
              · replace q74 := Decidable.not_not.mp (of_decide_eq_false q74)
                refine sx_RP.step (pc2 := 75) (ls2 := [(0, .ref 111), (1, .int (nI k)), (2, .int a2), (3, .int a3)]) (st2 := [.int 0, .int (nI k), .ref 123]) (w3 := w70) rfl rfl ?_
                refine sx_RP.step (pc2 := 79) (ls2 := [(0, .ref 111), (1, .int (nI k)), (2, .int a2), (3, .int a3)]) (st2 := [.int 0, .int (nI k), .ref 123]) (w3 := w70) rfl rfl ?_
                refine sx_RP.mSt (k := k) hI71 rfl hk ⟨0, by decide, rfl⟩ (show _ = 80 from rfl) (fun w79 hI80 hF81 ex82 => ?_)
                refine sx_RP.step (pc2 := 81) (ls2 := [(0, .ref 111), (1, .int (nI k)), (2, .int a2), (3, .int a3)]) (st2 := [.int 0]) (w3 := w79) rfl rfl ?_
                refine sx_RP.step (pc2 := 83) (ls2 := [(4, .int 0), (0, .ref 111), (1, .int (nI k)), (2, .int a2), (3, .int a3)]) (st2 := []) (w3 := w79) rfl rfl ?_
                refine sx_RP.ls (sx_lr.cons rfl (sx_lr.cons rfl (sx_lr.cons rfl sx_lr.nil))) ((X230L (w0 := w) hk 40 0 w79 (by omega) hI80 (fun i hi => by rw [if_neg (by omega), ja_of (hF81 124 (by decide)), ja_of (hF72 124 (by decide))])).mono9 (fun r w2 z => ⟨z.2.1, Or.inl ⟨⟨⟨⟨nI_le (a := 0) (Nat.zero_le _) (by omega), nI_le (b := 3) (show k ≤ 3 by omega) (by decide)⟩, (Or.inl q74)⟩, ⟨q68, q69⟩⟩, z.1, fun a g1 g2 g3 => (z.2.2 a g3).trans ((hF81 a g2).trans (hF72 a g1))⟩⟩))
            · replace q69 := of_decide_eq_false q69
              refine sx_RP.step (pc2 := 53) (ls2 := [(0, .ref 111), (1, .int (nI k)), (2, .int a2), (3, .int a3)]) (st2 := [.ref 111]) (w3 := w) rfl rfl ?_
              refine sx_RP.step (pc2 := 54) (ls2 := [(0, .ref 111), (1, .int (nI k)), (2, .int a2), (3, .int a3)]) (st2 := [.int 0, .ref 111]) (w3 := w) rfl rfl ?_
              refine sx_RP.callp (as2 := [.ref 111, .int 0]) (rest2 := []) rfl rfl (sx_inv_v2 (mi := 230) (k := 70) (st := [.int 0, .ref 111]) (w := w) rfl rfl hI.1.o111 rfl rfl rfl) rfl rfl rfl (S133_0 hI) (show _ = 57 from rfl) ?_
              rintro r4 w84 ⟨rfl, hI85, hs83⟩
              show sx_RP _ _ _ _ _ [.int (-1000000001)] _ _
              refine sx_RP.ret (r := (some (.int (-1000000001)))) rfl rfl ?_
              exact ⟨hI85, Or.inr ⟨(fun z => q69 z.2.2), hs83⟩⟩
          · replace q68 := of_decide_eq_false q68
            refine sx_RP.step (pc2 := 40) (ls2 := [(0, .ref 111), (1, .int (nI k)), (2, .int a2), (3, .int a3)]) (st2 := [.ref 111]) (w3 := w) rfl rfl ?_
            refine sx_RP.step (pc2 := 42) (ls2 := [(0, .ref 111), (1, .int (nI k)), (2, .int a2), (3, .int a3)]) (st2 := [.int 6, .ref 111]) (w3 := w) rfl rfl ?_
            refine sx_RP.callp (as2 := [.ref 111, .int 6]) (rest2 := []) rfl rfl (sx_inv_v2 (mi := 230) (k := 70) (st := [.int 6, .ref 111]) (w := w) rfl rfl hI.1.o111 rfl rfl rfl) rfl rfl rfl (S133_6 hI) (show _ = 45 from rfl) ?_
            rintro r4 w87 ⟨rfl, hI88, hs86⟩
            show sx_RP _ _ _ _ _ [.int (-1000000007)] _ _
            refine sx_RP.ret (r := (some (.int (-1000000007)))) rfl rfl ?_
            exact ⟨hI88, Or.inr ⟨(fun z => q68 z.2.1), hs86⟩⟩
        · replace q67 := of_decide_eq_false q67
          refine sx_RP.step (pc2 := 30) (ls2 := [(0, .ref 111), (1, .int (nI k)), (2, .int a2), (3, .int a3)]) (st2 := [.ref 111]) (w3 := w) rfl rfl ?_
          refine sx_RP.step (pc2 := 31) (ls2 := [(0, .ref 111), (1, .int (nI k)), (2, .int a2), (3, .int a3)]) (st2 := [.int 0, .ref 111]) (w3 := w) rfl rfl ?_
          refine sx_RP.callp (as2 := [.ref 111, .int 0]) (rest2 := []) rfl rfl (sx_inv_v2 (mi := 230) (k := 70) (st := [.int 0, .ref 111]) (w := w) rfl rfl hI.1.o111 rfl rfl rfl) rfl rfl rfl (S133_0 hI) (show _ = 34 from rfl) ?_
          rintro r4 w90 ⟨rfl, hI91, hs89⟩
          show sx_RP _ _ _ _ _ [.int (-1000000001)] _ _
          refine sx_RP.ret (r := (some (.int (-1000000001)))) rfl rfl ?_
          exact ⟨hI91, Or.inr ⟨(fun z => z.1.2.elim q1 (fun z => z.elim q23 (fun z => z.elim q45 q67))), hs89⟩⟩
set_option maxRecDepth 20000 in
set_option maxHeartbeats 4000000 in
theorem F230n {xs : Option (List Int32)} {d : Nat} {w : List sx_C} (hI : WI w) (a1 a2 a3 : Int32) (hn : ¬ (0 ≤ a1 ∧ a1 ≤ 3)) : sx_RP xs (d + 7) 230 0 (lv_args 0 [.ref 111, .int a1, .int a2, .int a3]) [] w (fun r w2 => WI w2 ∧ ¬ shV a1 a2 a3 ∧ Same 116 w w2) := by
  refine sx_RP.step (pc2 := 1) (ls2 := [(0, .ref 111), (1, .int a1), (2, .int a2), (3, .int a3)]) (st2 := [.int a1]) (w3 := w) rfl rfl ?_
  refine sx_RP.cu (as := [.int a1]) (rest2 := []) (st3 := [.int 0]) rfl rfl rfl rfl rfl (cx_231n hn) rfl ?_
  refine sx_RP.step (pc2 := 29) (ls2 := [(0, .ref 111), (1, .int a1), (2, .int a2), (3, .int a3)]) (st2 := []) (w3 := w) rfl rfl ?_
  refine sx_RP.step (pc2 := 30) (ls2 := [(0, .ref 111), (1, .int a1), (2, .int a2), (3, .int a3)]) (st2 := [.ref 111]) (w3 := w) rfl rfl ?_
  refine sx_RP.step (pc2 := 31) (ls2 := [(0, .ref 111), (1, .int a1), (2, .int a2), (3, .int a3)]) (st2 := [.int 0, .ref 111]) (w3 := w) rfl rfl ?_
  refine sx_RP.callp (as2 := [.ref 111, .int 0]) (rest2 := []) rfl rfl (sx_inv_v2 (mi := 230) (k := 70) (st := [.int 0, .ref 111]) (w := w) rfl rfl hI.1.o111 rfl rfl rfl) rfl rfl rfl (S133_0 hI) (show _ = 34 from rfl) ?_
  rintro r4 w2 ⟨rfl, hI3, hs1⟩
  show sx_RP _ _ _ _ _ [.int (-1000000001)] _ _
  refine sx_RP.ret (r := (some (.int (-1000000001)))) rfl rfl ?_
  exact ⟨hI3, fun z => hn z.1.1, hs1⟩
