-- 89y14.sheets.lean.txt
section
theorem gj_set {l : List Int64} {i : Nat} {v : Int64} (hi : i < l.length) (k : Nat) : (l.set i v).getD k 0 = if k = i then v else l.getD k 0 := by
  rw [List.getD_eq_getElem?_getD, List.getElem?_set]
  by_cases e : k = i
  · subst e
    rw [if_pos rfl, if_pos hi, if_pos rfl]
    rfl
  · rw [if_neg (Ne.symm e), if_neg e, ← List.getD_eq_getElem?_getD]
theorem ja_of {w w2 : List sx_C} {a : Nat} (h : w2[a]? = w[a]?) : ja w2 a = ja w a := by
  unfold ja
  rw [h]
def NCs (w : List sx_C) : Nat → Nat → Int64 := fun s i => if s < 4 ∧ i < 40 then (ja w (104 + 2 * s)).getD i 0 else 0
def NMs (w : List sx_C) : Nat → Nat → Int64 := fun s i => if s < 4 ∧ i < 40 then (ja w 124).getD (40 * s + i) 0 else 0
theorem NCs_eq {w w2 : List sx_C} (h : ∀ s, s < 4 → w2[104 + 2 * s]? = w[104 + 2 * s]?) : NCs w2 = NCs w := by
  funext s i
  unfold NCs
  by_cases hs : s < 4 ∧ i < 40
  · rw [if_pos hs, if_pos hs, ja_of (h s hs.1)]
  · rw [if_neg hs, if_neg hs]
theorem NMs_eq {w w2 : List sx_C} (h : w2[124]? = w[124]?) : NMs w2 = NMs w := by
  unfold NMs
  rw [ja_of h]
theorem FCs_eq {w w2 : List sx_C} (h : ∀ s, s < 4 → w2[103 + 2 * s]? = w[103 + 2 * s]?) : FCs w2 = FCs w := by
  funext s
  unfold FCs
  by_cases hs : s < 4
  · rw [if_pos hs, if_pos hs, fi_same 1 (h s hs), fi_same 2 (h s hs)]
  · rw [if_neg hs, if_neg hs]
def shV (a1 a2 a3 : Int32) : Prop := ((0 ≤ a1 ∧ a1 ≤ 3) ∧ (a2 = 0 ∨ a2 = 8 ∨ a2 = 16 ∨ a2 = 64)) ∧ (0 ≤ a3 ∧ a3 ≤ 40)
def shN (f : Nat → Nat → Int64) (s0 : Nat) : Nat → Nat → Int64 := fun s i => if s = s0 then 0 else f s i
def ptF (b : Int32) (v : Int64) : Int64 := if b = 8 then (v.toInt32.toInt8.toInt32).toInt64 else (if b = 16 then (v.toInt32.toInt16.toInt32).toInt64 else v)
def wrN (f : Nat → Nat → Int64) (s0 i0 : Nat) (x : Int64) : Nat → Nat → Int64 := fun s i => if s = s0 ∧ i = i0 then x else f s i
def cpN (f : Nat → Nat → Int64) (s f0 t t0 n : Nat) : Nat → Nat → Int64 := fun s2 i => if s2 = t ∧ t0 ≤ i ∧ i < t0 + n then f s (f0 + (i - t0)) else f s2 i
theorem NCs_sh {w w2 : List sx_C} {s0 : Nat} (hs0 : s0 < 4) (h0 : ∀ i, i < 40 → (ja w2 (104 + 2 * s0)).getD i 0 = 0) (h : ∀ s, s < 4 → s ≠ s0 → w2[104 + 2 * s]? = w[104 + 2 * s]?) : NCs w2 = shN (NCs w) s0 := by
  funext s i
  unfold shN NCs
  by_cases hs : s < 4 ∧ i < 40
  · rw [if_pos hs]
    by_cases e : s = s0
    · rw [if_pos e, e]
      exact h0 i hs.2
    · rw [if_neg e, if_pos hs, ja_of (h s hs.1 e)]
  · rw [if_neg hs, if_neg hs]
    split <;> rfl
theorem NMs_sh {w w2 : List sx_C} {s0 : Nat} (hs0 : s0 < 4) (h0 : ∀ k, k < 160 → (ja w2 124).getD k 0 = if 40 * s0 ≤ k ∧ k < 40 * s0 + 40 then 0 else (ja w 124).getD k 0) : NMs w2 = shN (NMs w) s0 := by
  funext s i
  unfold shN NMs
  by_cases hs : s < 4 ∧ i < 40
  · rw [if_pos hs, h0 _ (by omega)]
    by_cases e : s = s0
    · rw [if_pos (by omega), if_pos e]
    · rw [if_neg (by omega), if_neg e, if_pos hs]
  · rw [if_neg hs, if_neg hs]
    split <;> rfl
theorem NCs_wr {w w2 : List sx_C} (hI : WI w) {s0 i0 : Nat} {x : Int64} (hs0 : s0 < 4) (hi0 : i0 < 40) (hs : Same (104 + 2 * s0) w w2) (hv : ja w2 (104 + 2 * s0) = (ja w (104 + 2 * s0)).set i0 x) : NCs w2 = wrN (NCs w) s0 i0 x := by
  have hl := (hI.1.aN hs0).2
  funext s i
  unfold wrN NCs
  by_cases h : s < 4 ∧ i < 40
  · rw [if_pos h]
    by_cases e : s = s0
    · subst e
      rw [hv, gj_set (by omega)]
      by_cases e2 : i = i0
      · rw [if_pos e2, if_pos ⟨rfl, e2⟩]
      · rw [if_neg e2, if_neg (fun z => e2 z.2), if_pos h]
    · rw [ja_of (hs _ (by omega)), if_neg (fun z => e z.1), if_pos h]
  · rw [if_neg h, if_neg (by omega), if_neg h]
theorem NMs_wr {w w2 : List sx_C} (hI : WI w) {s0 i0 : Nat} {x : Int64} (hs0 : s0 < 4) (hi0 : i0 < 40) (hv : ja w2 124 = (ja w 124).set (40 * s0 + i0) x) : NMs w2 = wrN (NMs w) s0 i0 x := by
  have hl := hI.1.a124.2
  funext s i
  unfold wrN NMs
  by_cases h : s < 4 ∧ i < 40
  · rw [if_pos h, hv, gj_set (by omega)]
    by_cases e : s = s0 ∧ i = i0
    · rw [if_pos e, if_pos (by omega)]
    · rw [if_neg e, if_neg (by omega), if_pos h]
  · rw [if_neg h, if_neg (by omega), if_neg h]
section SXH
variable {xs : Option (List Int32)} {d mi pc pc2 a idx p : Nat} {ls : sx_L} {r : List Value} {w w0 : List sx_C} {P : Option Value → List sx_C → Prop}
theorem sx_RP.xH1 {v : Int32} {s : Nat} (hI : WI w) (hs : s < 4) (hi : sx_ins mi pc = some (.putfield idx, 3)) (hq : sx_lk (sx_fl (sx_own mi)) idx = some (5, 1, p)) (hf : sx_fin mi 5 1 = true) (hp : pc + 3 = pc2) (kk : ∀ w2, WI w2 → Same (103 + 2 * s) w w2 → sx_RP xs d mi pc2 ls r w2 P) : sx_RP xs d mi pc ls (.int v :: .ref (103 + 2 * s) :: r) w P := by
  have hw := hI.1.oS hs
  exact sx_RP.pf hi hq hw (by rw [hf]; rfl) rfl rfl hp (kk _ (hI.set hw rfl (cOK.sh hs (hI.sh hs))) Same.set)
theorem sx_RP.xH2 {v : Int32} {s : Nat} (hI : WI w) (hs : s < 4) (hi : sx_ins mi pc = some (.putfield idx, 3)) (hq : sx_lk (sx_fl (sx_own mi)) idx = some (5, 2, p)) (hf : sx_fin mi 5 2 = true) (hv : inR v 40) (hp : pc + 3 = pc2) (kk : ∀ w2, WI w2 → Same (103 + 2 * s) w w2 → sx_RP xs d mi pc2 ls r w2 P) : sx_RP xs d mi pc ls (.int v :: .ref (103 + 2 * s) :: r) w P := by
  have hw := hI.1.oS hs
  exact sx_RP.pf hi hq hw (by rw [hf]; rfl) rfl rfl hp (kk _ (hI.set hw rfl (cOK.sh hs hv)) Same.set)
end SXH
set_option maxRecDepth 20000 in
set_option maxHeartbeats 4000000 in
theorem X114L {xs : Option (List Int32)} {d s : Nat} {b x : Int32} (hs : s < 4) : ∀ (q j : Nat) (w : List sx_C), j + q = 40 → WI w → (∀ i, i < j → (ja w (104 + 2 * s)).getD i 0 = 0) → sx_RP xs d 114 20 [(0, .ref (103 + 2 * s)), (1, .int b), (2, .int x), (3, .int (nI j))] [] w (fun r w2 => (r = none ∧ ∀ i, i < 40 → (ja w2 (104 + 2 * s)).getD i 0 = 0) ∧ WI w2 ∧ Same (104 + 2 * s) w w2)
  | 0, j, w, hj, hI, hz => by
    obtain rfl : j = 40 := by omega
    refine sx_RP.step (pc2 := 21) (ls2 := [(0, .ref (103 + 2 * s)), (1, .int b), (2, .int x), (3, .int 40)]) (st2 := [.int 40]) (w3 := w) rfl rfl ?_
    refine sx_RP.step (pc2 := 23) (ls2 := [(0, .ref (103 + 2 * s)), (1, .int b), (2, .int x), (3, .int 40)]) (st2 := [.int 40, .int 40]) (w3 := w) rfl rfl ?_
    refine sx_RP.step (pc2 := 39) (ls2 := [(0, .ref (103 + 2 * s)), (1, .int b), (2, .int x), (3, .int 40)]) (st2 := []) (w3 := w) rfl rfl ?_
    refine sx_RP.ret (r := none) rfl rfl ?_
    exact ⟨⟨rfl, hz⟩, hI, Same.rf⟩
  | q + 1, j, w, hj, hI, hz => by
    refine sx_RP.step (pc2 := 21) (ls2 := [(0, .ref (103 + 2 * s)), (1, .int b), (2, .int x), (3, .int (nI j))]) (st2 := [.int (nI j)]) (w3 := w) rfl rfl ?_
    refine sx_RP.step (pc2 := 23) (ls2 := [(0, .ref (103 + 2 * s)), (1, .int b), (2, .int x), (3, .int (nI j))]) (st2 := [.int 40, .int (nI j)]) (w3 := w) rfl rfl ?_
    refine sx_RP.br (p2 := 26) (l2 := [(0, .ref (103 + 2 * s)), (1, .int b), (2, .int x), (3, .int (nI j))]) (s2 := []) (v2 := w) rfl rfl (fun q => absurd (of_decide_eq_true q) (fun z => absurd ((nI_leI (a := 40) (b := j) (by omega) (by omega)).mp z) (by omega))) (fun _ => ?_)
    refine sx_RP.step (pc2 := 27) (ls2 := [(0, .ref (103 + 2 * s)), (1, .int b), (2, .int x), (3, .int (nI j))]) (st2 := [.ref (103 + 2 * s)]) (w3 := w) rfl rfl ?_
    refine sx_RP.gf (v := .ref (104 + 2 * s)) rfl rfl (hI.1.oS (show s < 4 by omega)) rfl rfl (show _ = 30 from rfl) ?_
    refine sx_RP.step (pc2 := 31) (ls2 := [(0, .ref (103 + 2 * s)), (1, .int b), (2, .int x), (3, .int (nI j))]) (st2 := [.int (nI j), .ref (104 + 2 * s)]) (w3 := w) rfl rfl ?_
    refine sx_RP.step (pc2 := 32) (ls2 := [(0, .ref (103 + 2 * s)), (1, .int b), (2, .int x), (3, .int (nI j))]) (st2 := [.long 0, .int (nI j), .ref (104 + 2 * s)]) (w3 := w) rfl rfl ?_
    refine sx_RP.xL (c := j) hI rfl (hI.1.aN (show s < 4 by omega)) (show j < 40 by omega) (by decide) (by omega) (show _ = 33 from rfl) (fun w1 hI2 hs3 hv4 => ?_)
    refine sx_RP.step (pc2 := 36) (ls2 := [(3, .int ((nI j) + 1)), (0, .ref (103 + 2 * s)), (1, .int b), (2, .int x)]) (st2 := []) (w3 := w1) rfl rfl ?_
    rw [nI_1 j]
    refine sx_RP.step (pc2 := 20) (ls2 := [(3, .int (nI (j + 1))), (0, .ref (103 + 2 * s)), (1, .int b), (2, .int x)]) (st2 := []) (w3 := w1) rfl rfl ?_
    refine sx_RP.ls (sx_lr.cons rfl (sx_lr.cons rfl (sx_lr.cons rfl (sx_lr.cons rfl sx_lr.nil)))) ((X114L hs q (j + 1) w1 (by omega) hI2 (fun i hi => ?_)).mono9 (fun r w2 z => ⟨z.1, z.2.1, hs3.tr z.2.2⟩))
    rw [hv4, gj_set (by rw [(hI.1.aN hs).2]; omega)]
    split
    · rfl
    · exact hz i (by omega)
set_option maxRecDepth 20000 in
set_option maxHeartbeats 4000000 in
theorem X114 {xs : Option (List Int32)} {d : Nat} {w : List sx_C} (hI : WI w) {s : Nat} (hs : s < 4) (b x : Int32) (hx : inR x 40) : sx_RP xs d 114 0 (lv_args 0 [.ref (103 + 2 * s), .int b, .int x]) [] w (fun r w2 => (r = none ∧ ∀ i, i < 40 → (ja w2 (104 + 2 * s)).getD i 0 = 0) ∧ WI w2 ∧ ∀ a, a ≠ 103 + 2 * s → a ≠ 104 + 2 * s → w2[a]? = w[a]?) := by
  refine sx_RP.step (pc2 := 1) (ls2 := [(0, .ref (103 + 2 * s)), (1, .int b), (2, .int x)]) (st2 := [.ref (103 + 2 * s)]) (w3 := w) rfl rfl ?_
  refine sx_RP.step (pc2 := 2) (ls2 := [(0, .ref (103 + 2 * s)), (1, .int b), (2, .int x)]) (st2 := [.int b, .ref (103 + 2 * s)]) (w3 := w) rfl rfl ?_
  refine sx_RP.xH1 hI hs rfl rfl rfl (show _ = 5 from rfl) (fun w1 hI2 hs3 => ?_)
  refine sx_RP.step (pc2 := 6) (ls2 := [(0, .ref (103 + 2 * s)), (1, .int b), (2, .int x)]) (st2 := [.ref (103 + 2 * s)]) (w3 := w1) rfl rfl ?_
  refine sx_RP.step (pc2 := 7) (ls2 := [(0, .ref (103 + 2 * s)), (1, .int b), (2, .int x)]) (st2 := [.int b, .ref (103 + 2 * s)]) (w3 := w1) rfl rfl ?_
  refine sx_RP.br (p1 := 14) (l1 := [(0, .ref (103 + 2 * s)), (1, .int b), (2, .int x)]) (s1 := [.ref (103 + 2 * s)]) (v1 := w1) (p2 := 10) (l2 := [(0, .ref (103 + 2 * s)), (1, .int b), (2, .int x)]) (s2 := [.ref (103 + 2 * s)]) (v2 := w1) rfl rfl (fun q4 => ?_) (fun q4 => ?_)
  · replace q4 := of_decide_eq_true q4
    refine sx_RP.step (pc2 := 15) (ls2 := [(0, .ref (103 + 2 * s)), (1, .int b), (2, .int x)]) (st2 := [.int x, .ref (103 + 2 * s)]) (w3 := w1) rfl rfl ?_
    refine sx_RP.xH2 hI2 hs rfl rfl rfl hx (show _ = 18 from rfl) (fun w5 hI6 hs7 => ?_)
    refine sx_RP.step (pc2 := 19) (ls2 := [(0, .ref (103 + 2 * s)), (1, .int b), (2, .int x)]) (st2 := [.int 0]) (w3 := w5) rfl rfl ?_
    refine sx_RP.step (pc2 := 20) (ls2 := [(3, .int 0), (0, .ref (103 + 2 * s)), (1, .int b), (2, .int x)]) (st2 := []) (w3 := w5) rfl rfl ?_
    exact sx_RP.ls (sx_lr.cons rfl (sx_lr.cons rfl (sx_lr.cons rfl (sx_lr.cons rfl sx_lr.nil)))) ((X114L hs 40 0 w5 (by omega) hI6 (fun i hi => absurd hi (by omega))).mono9 (fun r w2 z => ⟨z.1, z.2.1, fun a g1 g2 => (z.2.2 a g2).trans ((hs7 a g1).trans (hs3 a g1))⟩))
  · replace q4 := Decidable.not_not.mp (of_decide_eq_false q4)
    refine sx_RP.step (pc2 := 11) (ls2 := [(0, .ref (103 + 2 * s)), (1, .int b), (2, .int x)]) (st2 := [.int 0, .ref (103 + 2 * s)]) (w3 := w1) rfl rfl ?_
    refine sx_RP.step (pc2 := 15) (ls2 := [(0, .ref (103 + 2 * s)), (1, .int b), (2, .int x)]) (st2 := [.int 0, .ref (103 + 2 * s)]) (w3 := w1) rfl rfl ?_
    refine sx_RP.xH2 hI2 hs rfl rfl rfl (show inR 0 40 from ⟨0, by decide, rfl⟩) (show _ = 18 from rfl) (fun w8 hI9 hs10 => ?_)
    refine sx_RP.step (pc2 := 19) (ls2 := [(0, .ref (103 + 2 * s)), (1, .int b), (2, .int x)]) (st2 := [.int 0]) (w3 := w8) rfl rfl ?_
    refine sx_RP.step (pc2 := 20) (ls2 := [(3, .int 0), (0, .ref (103 + 2 * s)), (1, .int b), (2, .int x)]) (st2 := []) (w3 := w8) rfl rfl ?_
    exact sx_RP.ls (sx_lr.cons rfl (sx_lr.cons rfl (sx_lr.cons rfl (sx_lr.cons rfl sx_lr.nil)))) ((X114L hs 40 0 w8 (by omega) hI9 (fun i hi => absurd hi (by omega))).mono9 (fun r w2 z => ⟨z.1, z.2.1, fun a g1 g2 => (z.2.2 a g2).trans ((hs10 a g1).trans (hs3 a g1))⟩))
set_option maxRecDepth 20000 in
set_option maxHeartbeats 4000000 in
theorem F111 {xs : Option (List Int32)} {d : Nat} {w : List sx_C} (hI : WI w) {s : Nat} (hs : s < 4) (a2 a3 : Int32) : sx_RP xs (d + 7) 111 0 (lv_args 0 [.ref 0, .int (nI s), .int a2, .int a3]) [] w (fun r w2 => WI w2 ∧ ((shV (nI s) a2 a3 ∧ (∀ i, i < 40 → (ja w2 (104 + 2 * s)).getD i 0 = 0) ∧ ∀ a, a ≠ 103 + 2 * s → a ≠ 104 + 2 * s → w2[a]? = w[a]?) ∨ (¬ shV (nI s) a2 a3 ∧ Same 99 w w2))) := by
  refine sx_RP.step (pc2 := 1) (ls2 := [(0, .ref 0), (1, .int (nI s)), (2, .int a2), (3, .int a3)]) (st2 := [.int (nI s)]) (w3 := w) rfl rfl ?_
  refine sx_RP.cu (as := [.int (nI s)]) (rest2 := []) (st3 := [.int 1]) rfl rfl rfl rfl rfl (cx_112p ⟨nI_le (a := 0) (Nat.zero_le _) (by omega), nI_le (b := 3) (show s ≤ 3 by omega) (by decide)⟩) rfl ?_
  refine sx_RP.step (pc2 := 7) (ls2 := [(0, .ref 0), (1, .int (nI s)), (2, .int a2), (3, .int a3)]) (st2 := []) (w3 := w) rfl rfl ?_
  refine sx_RP.step (pc2 := 8) (ls2 := [(0, .ref 0), (1, .int (nI s)), (2, .int a2), (3, .int a3)]) (st2 := [.int a2]) (w3 := w) rfl rfl ?_
  rcases Decidable.em (a2 = 8 ∨ a2 = 16 ∨ a2 = 64) with c1 | c1
  · refine sx_RP.cu (as := [.int a2]) (rest2 := []) (st3 := [.int 1]) rfl rfl rfl rfl rfl (p113y c1) rfl ?_
    refine sx_RP.step (pc2 := 25) (ls2 := [(0, .ref 0), (1, .int (nI s)), (2, .int a2), (3, .int a3)]) (st2 := []) (w3 := w) rfl rfl ?_
    refine sx_RP.step (pc2 := 26) (ls2 := [(0, .ref 0), (1, .int (nI s)), (2, .int a2), (3, .int a3)]) (st2 := [.int a3]) (w3 := w) rfl rfl ?_
    refine sx_RP.br (p1 := 37) (l1 := [(0, .ref 0), (1, .int (nI s)), (2, .int a2), (3, .int a3)]) (s1 := []) (v1 := w) (p2 := 29) (l2 := [(0, .ref 0), (1, .int (nI s)), (2, .int a2), (3, .int a3)]) (s2 := []) (v2 := w) rfl rfl (fun q2 => ?_) (fun q2 => ?_)
    · replace q2 := of_decide_eq_true q2
      refine sx_RP.step (pc2 := 38) (ls2 := [(0, .ref 0), (1, .int (nI s)), (2, .int a2), (3, .int a3)]) (st2 := [.int a3]) (w3 := w) rfl rfl ?_
      refine sx_RP.step (pc2 := 40) (ls2 := [(0, .ref 0), (1, .int (nI s)), (2, .int a2), (3, .int a3)]) (st2 := [.int 40, .int a3]) (w3 := w) rfl rfl ?_
      refine sx_RP.br (p1 := 50) (l1 := [(0, .ref 0), (1, .int (nI s)), (2, .int a2), (3, .int a3)]) (s1 := []) (v1 := w) (p2 := 43) (l2 := [(0, .ref 0), (1, .int (nI s)), (2, .int a2), (3, .int a3)]) (s2 := []) (v2 := w) rfl rfl (fun q3 => ?_) (fun q3 => ?_)
      · replace q3 := of_decide_eq_true q3
        refine sx_RP.step (pc2 := 51) (ls2 := [(0, .ref 0), (1, .int (nI s)), (2, .int a2), (3, .int a3)]) (st2 := [.ref 0]) (w3 := w) rfl rfl ?_
        refine sx_RP.gf (v := .ref 98) rfl rfl hI.1.o0 rfl rfl (show _ = 54 from rfl) ?_
        refine sx_RP.step (pc2 := 55) (ls2 := [(0, .ref 0), (1, .int (nI s)), (2, .int a2), (3, .int a3)]) (st2 := [.int (nI s), .ref 98]) (w3 := w) rfl rfl ?_
        refine sx_RP.ald (v := .ref (103 + 2 * s)) rfl hI.1.a98 rfl (shA_at (show s < 4 by omega)) (show _ = 56 from rfl) ?_
        refine sx_RP.step (pc2 := 57) (ls2 := [(0, .ref 0), (1, .int (nI s)), (2, .int a2), (3, .int a3)]) (st2 := [.int a2, .ref (103 + 2 * s)]) (w3 := w) rfl rfl ?_
        refine sx_RP.step (pc2 := 58) (ls2 := [(0, .ref 0), (1, .int (nI s)), (2, .int a2), (3, .int a3)]) (st2 := [.int a3, .int a2, .ref (103 + 2 * s)]) (w3 := w) rfl rfl ?_
        have hx40 : inR a3 40 := nI_of2 (M := 40) rfl (Int32.not_lt.mpr q2) q3
        refine sx_RP.callp (as2 := [.ref (103 + 2 * s), .int a2, .int a3]) (rest2 := []) rfl rfl (sx_inv_v2 (mi := 111) (k := 303) (st := [.int a3, .int a2, .ref (103 + 2 * s)]) (w := w) rfl rfl (hI.1.oS (show s < 4 by omega)) rfl rfl rfl) rfl rfl rfl (X114 hI hs a2 a3 hx40) (show _ = 61 from rfl) ?_
        rintro r4 w6 ⟨⟨rfl, hz4⟩, hI7, hf5⟩
        show sx_RP _ _ _ _ _ [] _ _
        refine sx_RP.step (pc2 := 62) (ls2 := [(0, .ref 0), (1, .int (nI s)), (2, .int a2), (3, .int a3)]) (st2 := [.ref 0]) (w3 := w6) rfl rfl ?_
        refine sx_RP.gf (v := .ref 98) rfl rfl hI7.1.o0 rfl rfl (show _ = 65 from rfl) ?_
        refine sx_RP.step (pc2 := 66) (ls2 := [(0, .ref 0), (1, .int (nI s)), (2, .int a2), (3, .int a3)]) (st2 := [.int (nI s), .ref 98]) (w3 := w6) rfl rfl ?_
        refine sx_RP.ald (v := .ref (103 + 2 * s)) rfl hI7.1.a98 rfl (shA_at (show s < 4 by omega)) (show _ = 67 from rfl) ?_
        refine sx_RP.gf (v := .int (fi w6 (103 + 2 * s) 2)) rfl rfl (hI7.1.oS (show s < 4 by omega)) rfl rfl (show _ = 70 from rfl) ?_
        obtain ⟨x8, hx9, ex10⟩ : inR (fi w6 (103 + 2 * s) 2) 40 := hI7.sh (show s < 4 by omega)
        rw [ex10]
        refine sx_RP.ret (r := (some (.int (nI x8)))) rfl rfl ?_
        exact ⟨hI7, Or.inl ⟨⟨⟨⟨nI_le (a := 0) (Nat.zero_le _) (by omega), nI_le (b := 3) (show s ≤ 3 by omega) (by decide)⟩, (Or.inr c1)⟩, ⟨q2, q3⟩⟩, hz4, hf5⟩⟩
      · replace q3 := of_decide_eq_false q3
        refine sx_RP.step (pc2 := 44) (ls2 := [(0, .ref 0), (1, .int (nI s)), (2, .int a2), (3, .int a3)]) (st2 := [.ref 0]) (w3 := w) rfl rfl ?_
        refine sx_RP.step (pc2 := 46) (ls2 := [(0, .ref 0), (1, .int (nI s)), (2, .int a2), (3, .int a3)]) (st2 := [.int (-1000000001), .ref 0]) (w3 := w) rfl rfl ?_
        refine sx_RP.callp (as2 := [.ref 0, .int (-1000000001)]) (rest2 := []) rfl rfl (sx_inv_v2 (mi := 111) (k := 78) (st := [.int (-1000000001), .ref 0]) (w := w) rfl rfl hI.1.o0 rfl rfl rfl) rfl rfl rfl (S9_0 hI) (show _ = 49 from rfl) ?_
        rintro r4 w12 ⟨rfl, hI13, hs11⟩
        show sx_RP _ _ _ _ _ [.int (-1000000001)] _ _
        refine sx_RP.ret (r := (some (.int (-1000000001)))) rfl rfl ?_
        exact ⟨hI13, Or.inr ⟨(fun z => q3 z.2.2), hs11⟩⟩
    · replace q2 := of_decide_eq_false q2
      refine sx_RP.step (pc2 := 30) (ls2 := [(0, .ref 0), (1, .int (nI s)), (2, .int a2), (3, .int a3)]) (st2 := [.ref 0]) (w3 := w) rfl rfl ?_
      refine sx_RP.step (pc2 := 33) (ls2 := [(0, .ref 0), (1, .int (nI s)), (2, .int a2), (3, .int a3)]) (st2 := [.int (-1000000007), .ref 0]) (w3 := w) rfl rfl ?_
      refine sx_RP.callp (as2 := [.ref 0, .int (-1000000007)]) (rest2 := []) rfl rfl (sx_inv_v2 (mi := 111) (k := 78) (st := [.int (-1000000007), .ref 0]) (w := w) rfl rfl hI.1.o0 rfl rfl rfl) rfl rfl rfl (S9_6 hI) (show _ = 36 from rfl) ?_
      rintro r4 w15 ⟨rfl, hI16, hs14⟩
      show sx_RP _ _ _ _ _ [.int (-1000000007)] _ _
      refine sx_RP.ret (r := (some (.int (-1000000007)))) rfl rfl ?_
      exact ⟨hI16, Or.inr ⟨(fun z => q2 z.2.1), hs14⟩⟩
  · refine sx_RP.cu (as := [.int a2]) (rest2 := []) (st3 := [.int 0]) rfl rfl rfl rfl rfl (p113n c1) rfl ?_
    refine sx_RP.step (pc2 := 14) (ls2 := [(0, .ref 0), (1, .int (nI s)), (2, .int a2), (3, .int a3)]) (st2 := []) (w3 := w) rfl rfl ?_
    refine sx_RP.step (pc2 := 15) (ls2 := [(0, .ref 0), (1, .int (nI s)), (2, .int a2), (3, .int a3)]) (st2 := [.int a2]) (w3 := w) rfl rfl ?_
    refine sx_RP.br (p1 := 25) (l1 := [(0, .ref 0), (1, .int (nI s)), (2, .int a2), (3, .int a3)]) (s1 := []) (v1 := w) (p2 := 18) (l2 := [(0, .ref 0), (1, .int (nI s)), (2, .int a2), (3, .int a3)]) (s2 := []) (v2 := w) rfl rfl (fun q17 => ?_) (fun q17 => ?_)
    · replace q17 := of_decide_eq_true q17
      refine sx_RP.step (pc2 := 26) (ls2 := [(0, .ref 0), (1, .int (nI s)), (2, .int a2), (3, .int a3)]) (st2 := [.int a3]) (w3 := w) rfl rfl ?_
      refine sx_RP.br (p1 := 37) (l1 := [(0, .ref 0), (1, .int (nI s)), (2, .int a2), (3, .int a3)]) (s1 := []) (v1 := w) (p2 := 29) (l2 := [(0, .ref 0), (1, .int (nI s)), (2, .int a2), (3, .int a3)]) (s2 := []) (v2 := w) rfl rfl (fun q18 => ?_) (fun q18 => ?_)
      · replace q18 := of_decide_eq_true q18
        refine sx_RP.step (pc2 := 38) (ls2 := [(0, .ref 0), (1, .int (nI s)), (2, .int a2), (3, .int a3)]) (st2 := [.int a3]) (w3 := w) rfl rfl ?_
        refine sx_RP.step (pc2 := 40) (ls2 := [(0, .ref 0), (1, .int (nI s)), (2, .int a2), (3, .int a3)]) (st2 := [.int 40, .int a3]) (w3 := w) rfl rfl ?_
        refine sx_RP.br (p1 := 50) (l1 := [(0, .ref 0), (1, .int (nI s)), (2, .int a2), (3, .int a3)]) (s1 := []) (v1 := w) (p2 := 43) (l2 := [(0, .ref 0), (1, .int (nI s)), (2, .int a2), (3, .int a3)]) (s2 := []) (v2 := w) rfl rfl (fun q19 => ?_) (fun q19 => ?_)
        · replace q19 := of_decide_eq_true q19
          refine sx_RP.step (pc2 := 51) (ls2 := [(0, .ref 0), (1, .int (nI s)), (2, .int a2), (3, .int a3)]) (st2 := [.ref 0]) (w3 := w) rfl rfl ?_
          refine sx_RP.gf (v := .ref 98) rfl rfl hI.1.o0 rfl rfl (show _ = 54 from rfl) ?_
          refine sx_RP.step (pc2 := 55) (ls2 := [(0, .ref 0), (1, .int (nI s)), (2, .int a2), (3, .int a3)]) (st2 := [.int (nI s), .ref 98]) (w3 := w) rfl rfl ?_
          refine sx_RP.ald (v := .ref (103 + 2 * s)) rfl hI.1.a98 rfl (shA_at (show s < 4 by omega)) (show _ = 56 from rfl) ?_
          refine sx_RP.step (pc2 := 57) (ls2 := [(0, .ref 0), (1, .int (nI s)), (2, .int a2), (3, .int a3)]) (st2 := [.int a2, .ref (103 + 2 * s)]) (w3 := w) rfl rfl ?_
          refine sx_RP.step (pc2 := 58) (ls2 := [(0, .ref 0), (1, .int (nI s)), (2, .int a2), (3, .int a3)]) (st2 := [.int a3, .int a2, .ref (103 + 2 * s)]) (w3 := w) rfl rfl ?_
          have hx40 : inR a3 40 := nI_of2 (M := 40) rfl (Int32.not_lt.mpr q18) q19
          refine sx_RP.callp (as2 := [.ref (103 + 2 * s), .int a2, .int a3]) (rest2 := []) rfl rfl (sx_inv_v2 (mi := 111) (k := 303) (st := [.int a3, .int a2, .ref (103 + 2 * s)]) (w := w) rfl rfl (hI.1.oS (show s < 4 by omega)) rfl rfl rfl) rfl rfl rfl (X114 hI hs a2 a3 hx40) (show _ = 61 from rfl) ?_
          rintro r4 w22 ⟨⟨rfl, hz20⟩, hI23, hf21⟩
          show sx_RP _ _ _ _ _ [] _ _
          refine sx_RP.step (pc2 := 62) (ls2 := [(0, .ref 0), (1, .int (nI s)), (2, .int a2), (3, .int a3)]) (st2 := [.ref 0]) (w3 := w22) rfl rfl ?_
          refine sx_RP.gf (v := .ref 98) rfl rfl hI23.1.o0 rfl rfl (show _ = 65 from rfl) ?_
          refine sx_RP.step (pc2 := 66) (ls2 := [(0, .ref 0), (1, .int (nI s)), (2, .int a2), (3, .int a3)]) (st2 := [.int (nI s), .ref 98]) (w3 := w22) rfl rfl ?_
          refine sx_RP.ald (v := .ref (103 + 2 * s)) rfl hI23.1.a98 rfl (shA_at (show s < 4 by omega)) (show _ = 67 from rfl) ?_
          refine sx_RP.gf (v := .int (fi w22 (103 + 2 * s) 2)) rfl rfl (hI23.1.oS (show s < 4 by omega)) rfl rfl (show _ = 70 from rfl) ?_
          obtain ⟨x24, hx25, ex26⟩ : inR (fi w22 (103 + 2 * s) 2) 40 := hI23.sh (show s < 4 by omega)
          rw [ex26]
          refine sx_RP.ret (r := (some (.int (nI x24)))) rfl rfl ?_
          exact ⟨hI23, Or.inl ⟨⟨⟨⟨nI_le (a := 0) (Nat.zero_le _) (by omega), nI_le (b := 3) (show s ≤ 3 by omega) (by decide)⟩, (Or.inl q17)⟩, ⟨q18, q19⟩⟩, hz20, hf21⟩⟩
        · replace q19 := of_decide_eq_false q19
          refine sx_RP.step (pc2 := 44) (ls2 := [(0, .ref 0), (1, .int (nI s)), (2, .int a2), (3, .int a3)]) (st2 := [.ref 0]) (w3 := w) rfl rfl ?_
          refine sx_RP.step (pc2 := 46) (ls2 := [(0, .ref 0), (1, .int (nI s)), (2, .int a2), (3, .int a3)]) (st2 := [.int (-1000000001), .ref 0]) (w3 := w) rfl rfl ?_
          refine sx_RP.callp (as2 := [.ref 0, .int (-1000000001)]) (rest2 := []) rfl rfl (sx_inv_v2 (mi := 111) (k := 78) (st := [.int (-1000000001), .ref 0]) (w := w) rfl rfl hI.1.o0 rfl rfl rfl) rfl rfl rfl (S9_0 hI) (show _ = 49 from rfl) ?_
          rintro r4 w28 ⟨rfl, hI29, hs27⟩
          show sx_RP _ _ _ _ _ [.int (-1000000001)] _ _
          refine sx_RP.ret (r := (some (.int (-1000000001)))) rfl rfl ?_
          exact ⟨hI29, Or.inr ⟨(fun z => q19 z.2.2), hs27⟩⟩
      · replace q18 := of_decide_eq_false q18
        refine sx_RP.step (pc2 := 30) (ls2 := [(0, .ref 0), (1, .int (nI s)), (2, .int a2), (3, .int a3)]) (st2 := [.ref 0]) (w3 := w) rfl rfl ?_
        refine sx_RP.step (pc2 := 33) (ls2 := [(0, .ref 0), (1, .int (nI s)), (2, .int a2), (3, .int a3)]) (st2 := [.int (-1000000007), .ref 0]) (w3 := w) rfl rfl ?_
        refine sx_RP.callp (as2 := [.ref 0, .int (-1000000007)]) (rest2 := []) rfl rfl (sx_inv_v2 (mi := 111) (k := 78) (st := [.int (-1000000007), .ref 0]) (w := w) rfl rfl hI.1.o0 rfl rfl rfl) rfl rfl rfl (S9_6 hI) (show _ = 36 from rfl) ?_
        rintro r4 w31 ⟨rfl, hI32, hs30⟩
        show sx_RP _ _ _ _ _ [.int (-1000000007)] _ _
        refine sx_RP.ret (r := (some (.int (-1000000007)))) rfl rfl ?_
        exact ⟨hI32, Or.inr ⟨(fun z => q18 z.2.1), hs30⟩⟩
    · replace q17 := of_decide_eq_false q17
      refine sx_RP.step (pc2 := 19) (ls2 := [(0, .ref 0), (1, .int (nI s)), (2, .int a2), (3, .int a3)]) (st2 := [.ref 0]) (w3 := w) rfl rfl ?_
      refine sx_RP.step (pc2 := 21) (ls2 := [(0, .ref 0), (1, .int (nI s)), (2, .int a2), (3, .int a3)]) (st2 := [.int (-1000000001), .ref 0]) (w3 := w) rfl rfl ?_
      refine sx_RP.callp (as2 := [.ref 0, .int (-1000000001)]) (rest2 := []) rfl rfl (sx_inv_v2 (mi := 111) (k := 78) (st := [.int (-1000000001), .ref 0]) (w := w) rfl rfl hI.1.o0 rfl rfl rfl) rfl rfl rfl (S9_0 hI) (show _ = 24 from rfl) ?_
      rintro r4 w34 ⟨rfl, hI35, hs33⟩
      show sx_RP _ _ _ _ _ [.int (-1000000001)] _ _
      refine sx_RP.ret (r := (some (.int (-1000000001)))) rfl rfl ?_
      exact ⟨hI35, Or.inr ⟨(fun z => z.1.2.elim q17 c1), hs33⟩⟩
set_option maxRecDepth 20000 in
set_option maxHeartbeats 4000000 in
theorem F111n {xs : Option (List Int32)} {d : Nat} {w : List sx_C} (hI : WI w) (a1 a2 a3 : Int32) (hn : ¬ (0 ≤ a1 ∧ a1 ≤ 3)) : sx_RP xs (d + 7) 111 0 (lv_args 0 [.ref 0, .int a1, .int a2, .int a3]) [] w (fun r w2 => WI w2 ∧ ¬ shV a1 a2 a3 ∧ Same 99 w w2) := by
  refine sx_RP.step (pc2 := 1) (ls2 := [(0, .ref 0), (1, .int a1), (2, .int a2), (3, .int a3)]) (st2 := [.int a1]) (w3 := w) rfl rfl ?_
  refine sx_RP.cu (as := [.int a1]) (rest2 := []) (st3 := [.int 0]) rfl rfl rfl rfl rfl (cx_112n hn) rfl ?_
  refine sx_RP.step (pc2 := 18) (ls2 := [(0, .ref 0), (1, .int a1), (2, .int a2), (3, .int a3)]) (st2 := []) (w3 := w) rfl rfl ?_
  refine sx_RP.step (pc2 := 19) (ls2 := [(0, .ref 0), (1, .int a1), (2, .int a2), (3, .int a3)]) (st2 := [.ref 0]) (w3 := w) rfl rfl ?_
  refine sx_RP.step (pc2 := 21) (ls2 := [(0, .ref 0), (1, .int a1), (2, .int a2), (3, .int a3)]) (st2 := [.int (-1000000001), .ref 0]) (w3 := w) rfl rfl ?_
  refine sx_RP.callp (as2 := [.ref 0, .int (-1000000001)]) (rest2 := []) rfl rfl (sx_inv_v2 (mi := 111) (k := 78) (st := [.int (-1000000001), .ref 0]) (w := w) rfl rfl hI.1.o0 rfl rfl rfl) rfl rfl rfl (S9_0 hI) (show _ = 24 from rfl) ?_
  rintro r4 w2 ⟨rfl, hI3, hs1⟩
  show sx_RP _ _ _ _ _ [.int (-1000000001)] _ _
  refine sx_RP.ret (r := (some (.int (-1000000001)))) rfl rfl ?_
  exact ⟨hI3, fun z => hn z.1.1, hs1⟩
set_option maxRecDepth 20000 in
set_option maxHeartbeats 4000000 in
theorem X230L {xs : Option (List Int32)} {d k : Nat} {w0 : List sx_C} (hk : k < 4) : ∀ (q j : Nat) (w : List sx_C), j + q = 40 → WI w → (∀ i, i < 160 → (ja w 124).getD i 0 = if 40 * k ≤ i ∧ i < 40 * k + j then 0 else (ja w0 124).getD i 0) → sx_RP xs (d + 7) 230 83 [(0, .ref 111), (1, .int (nI k)), (4, .int (nI j))] [] w (fun r w2 => (∀ i, i < 160 → (ja w2 124).getD i 0 = if 40 * k ≤ i ∧ i < 40 * k + 40 then 0 else (ja w0 124).getD i 0) ∧ WI w2 ∧ Same 124 w w2)
  | 0, j, w, hj, hI, hz => by
    obtain rfl : j = 40 := by omega
    refine sx_RP.step (pc2 := 85) (ls2 := [(0, .ref 111), (1, .int (nI k)), (4, .int 40)]) (st2 := [.int 40]) (w3 := w) rfl rfl ?_
    refine sx_RP.step (pc2 := 87) (ls2 := [(0, .ref 111), (1, .int (nI k)), (4, .int 40)]) (st2 := [.int 40, .int 40]) (w3 := w) rfl rfl ?_
    refine sx_RP.step (pc2 := 109) (ls2 := [(0, .ref 111), (1, .int (nI k)), (4, .int 40)]) (st2 := []) (w3 := w) rfl rfl ?_
    refine sx_RP.step (pc2 := 110) (ls2 := [(0, .ref 111), (1, .int (nI k)), (4, .int 40)]) (st2 := [.ref 111]) (w3 := w) rfl rfl ?_
    refine sx_RP.gf (v := .ref 123) rfl rfl hI.1.o111 rfl rfl (show _ = 113 from rfl) ?_
    refine sx_RP.step (pc2 := 114) (ls2 := [(0, .ref 111), (1, .int (nI k)), (4, .int 40)]) (st2 := [.int (nI k), .ref 123]) (w3 := w) rfl rfl ?_
    refine sx_RP.ild (c := k) rfl hI.1.a123.1 hI.1.a123.2 (sx_in_nI (show k < 4 by omega) (by decide)) (show (nI k).toNatClampNeg = k from nI_clamp (by omega)) (show _ = 115 from rfl) ?_
    obtain ⟨x1, hx2, ex3⟩ : inR ((ia w 123).getD k 0) 40 := hI.l (show k < 4 by omega)
    rw [ex3]
    refine sx_RP.ret (r := (some (.int (nI x1)))) rfl rfl ?_
    exact ⟨hz, hI, Same.rf⟩
  | q + 1, j, w, hj, hI, hz => by
    refine sx_RP.step (pc2 := 85) (ls2 := [(0, .ref 111), (1, .int (nI k)), (4, .int (nI j))]) (st2 := [.int (nI j)]) (w3 := w) rfl rfl ?_
    refine sx_RP.step (pc2 := 87) (ls2 := [(0, .ref 111), (1, .int (nI k)), (4, .int (nI j))]) (st2 := [.int 40, .int (nI j)]) (w3 := w) rfl rfl ?_
    refine sx_RP.br (p2 := 90) (l2 := [(0, .ref 111), (1, .int (nI k)), (4, .int (nI j))]) (s2 := []) (v2 := w) rfl rfl (fun q => absurd (of_decide_eq_true q) (fun z => absurd ((nI_leI (a := 40) (b := j) (by omega) (by omega)).mp z) (by omega))) (fun _ => ?_)
    refine sx_RP.step (pc2 := 91) (ls2 := [(0, .ref 111), (1, .int (nI k)), (4, .int (nI j))]) (st2 := [.ref 111]) (w3 := w) rfl rfl ?_
    refine sx_RP.gf (v := .ref 124) rfl rfl hI.1.o111 rfl rfl (show _ = 94 from rfl) ?_
    refine sx_RP.step (pc2 := 96) (ls2 := [(0, .ref 111), (1, .int (nI k)), (4, .int (nI j))]) (st2 := [.int 40, .ref 124]) (w3 := w) rfl rfl ?_
    refine sx_RP.step (pc2 := 97) (ls2 := [(0, .ref 111), (1, .int (nI k)), (4, .int (nI j))]) (st2 := [.int (nI k), .int 40, .ref 124]) (w3 := w) rfl rfl ?_
    refine sx_RP.step (pc2 := 98) (ls2 := [(0, .ref 111), (1, .int (nI k)), (4, .int (nI j))]) (st2 := [.int (40 * (nI k)), .ref 124]) (w3 := w) rfl rfl ?_
    rw [show (40 * (nI k) : Int32) = nI (40 * k) from nI_mul 40 k]
    refine sx_RP.step (pc2 := 100) (ls2 := [(0, .ref 111), (1, .int (nI k)), (4, .int (nI j))]) (st2 := [.int (nI j), .int (nI (40 * k)), .ref 124]) (w3 := w) rfl rfl ?_
    refine sx_RP.step (pc2 := 101) (ls2 := [(0, .ref 111), (1, .int (nI k)), (4, .int (nI j))]) (st2 := [.int ((nI (40 * k)) + (nI j)), .ref 124]) (w3 := w) rfl rfl ?_
    rw [show ((nI (40 * k)) + (nI j) : Int32) = nI ((40 * k) + j) from nI_add (40 * k) j]
    refine sx_RP.step (pc2 := 102) (ls2 := [(0, .ref 111), (1, .int (nI k)), (4, .int (nI j))]) (st2 := [.long 0, .int (nI ((40 * k) + j)), .ref 124]) (w3 := w) rfl rfl ?_
    refine sx_RP.xL (c := ((40 * k) + j)) hI rfl hI.1.a124 (show ((40 * k) + j) < 160 by omega) (by decide) (by omega) (show _ = 103 from rfl) (fun w1 hI2 hs3 hv4 => ?_)
    refine sx_RP.step (pc2 := 106) (ls2 := [(4, .int ((nI j) + 1)), (0, .ref 111), (1, .int (nI k))]) (st2 := []) (w3 := w1) rfl rfl ?_
    rw [nI_1 j]
    refine sx_RP.step (pc2 := 83) (ls2 := [(4, .int (nI (j + 1))), (0, .ref 111), (1, .int (nI k))]) (st2 := []) (w3 := w1) rfl rfl ?_
    refine sx_RP.ls (sx_lr.cons rfl (sx_lr.cons rfl (sx_lr.cons rfl sx_lr.nil))) ((X230L hk q (j + 1) w1 (by omega) hI2 (fun i hi => ?_)).mono9 (fun r w2 z => ⟨z.1, z.2.1, hs3.tr z.2.2⟩))
    rw [hv4, gj_set (by rw [hI.1.a124.2]; omega)]
    by_cases e : i = 40 * k + j
    · rw [if_pos e, if_pos (by omega)]
    · rw [if_neg e, hz i hi]
      by_cases e2 : 40 * k ≤ i ∧ i < 40 * k + j
      · rw [if_pos e2, if_pos (by omega)]
      · rw [if_neg e2, if_neg (by omega)]
set_option maxRecDepth 20000 in
set_option maxHeartbeats 4000000 in
theorem F230 {xs : Option (List Int32)} {d : Nat} {w : List sx_C} (hI : WI w) {k : Nat} (hk : k < 4) (a2 a3 : Int32) : sx_RP xs (d + 7) 230 0 (lv_args 0 [.ref 111, .int (nI k), .int a2, .int a3]) [] w (fun r w2 => WI w2 ∧ ((shV (nI k) a2 a3 ∧ (∀ i, i < 160 → (ja w2 124).getD i 0 = if 40 * k ≤ i ∧ i < 40 * k + 40 then 0 else (ja w 124).getD i 0) ∧ ∀ a, a ≠ 122 → a ≠ 123 → a ≠ 124 → w2[a]? = w[a]?) ∨ (¬ shV (nI k) a2 a3 ∧ Same 116 w w2))) := by
  refine sx_RP.step (pc2 := 1) (ls2 := [(0, .ref 111), (1, .int (nI k)), (2, .int a2), (3, .int a3)]) (st2 := [.int (nI k)]) (w3 := w) rfl rfl ?_
  refine sx_RP.cu (as := [.int (nI k)]) (rest2 := []) (st3 := [.int 1]) rfl rfl rfl rfl rfl (cx_231p ⟨nI_le (a := 0) (Nat.zero_le _) (by omega), nI_le (b := 3) (show k ≤ 3 by omega) (by decide)⟩) rfl ?_
  refine sx_RP.step (pc2 := 7) (ls2 := [(0, .ref 111), (1, .int (nI k)), (2, .int a2), (3, .int a3)]) (st2 := []) (w3 := w) rfl rfl ?_
  refine sx_RP.step (pc2 := 8) (ls2 := [(0, .ref 111), (1, .int (nI k)), (2, .int a2), (3, .int a3)]) (st2 := [.int a2]) (w3 := w) rfl rfl ?_
  refine sx_RP.br (p1 := 35) (l1 := [(0, .ref 111), (1, .int (nI k)), (2, .int a2), (3, .int a3)]) (s1 := []) (v1 := w) (p2 := 11) (l2 := [(0, .ref 111), (1, .int (nI k)), (2, .int a2), (3, .int a3)]) (s2 := []) (v2 := w) rfl rfl (fun q1 => ?_) (fun q1 => ?_)
  · replace q1 := of_decide_eq_true q1
    refine sx_RP.step (pc2 := 36) (ls2 := [(0, .ref 111), (1, .int (nI k)), (2, .int a2), (3, .int a3)]) (st2 := [.int a3]) (w3 := w) rfl rfl ?_
    refine sx_RP.br (p1 := 46) (l1 := [(0, .ref 111), (1, .int (nI k)), (2, .int a2), (3, .int a3)]) (s1 := []) (v1 := w) (p2 := 39) (l2 := [(0, .ref 111), (1, .int (nI k)), (2, .int a2), (3, .int a3)]) (s2 := []) (v2 := w) rfl rfl (fun q2 => ?_) (fun q2 => ?_)
    · replace q2 := of_decide_eq_true q2
      refine sx_RP.step (pc2 := 47) (ls2 := [(0, .ref 111), (1, .int (nI k)), (2, .int a2), (3, .int a3)]) (st2 := [.int a3]) (w3 := w) rfl rfl ?_
      refine sx_RP.step (pc2 := 49) (ls2 := [(0, .ref 111), (1, .int (nI k)), (2, .int a2), (3, .int a3)]) (st2 := [.int 40, .int a3]) (w3 := w) rfl rfl ?_
      refine sx_RP.br (p1 := 58) (l1 := [(0, .ref 111), (1, .int (nI k)), (2, .int a2), (3, .int a3)]) (s1 := []) (v1 := w) (p2 := 52) (l2 := [(0, .ref 111), (1, .int (nI k)), (2, .int a2), (3, .int a3)]) (s2 := []) (v2 := w) rfl rfl (fun q3 => ?_) (fun q3 => ?_)
      · replace q3 := of_decide_eq_true q3
        refine sx_RP.step (pc2 := 59) (ls2 := [(0, .ref 111), (1, .int (nI k)), (2, .int a2), (3, .int a3)]) (st2 := [.ref 111]) (w3 := w) rfl rfl ?_
        refine sx_RP.gf (v := .ref 122) rfl rfl hI.1.o111 rfl rfl (show _ = 62 from rfl) ?_
        refine sx_RP.step (pc2 := 63) (ls2 := [(0, .ref 111), (1, .int (nI k)), (2, .int a2), (3, .int a3)]) (st2 := [.int (nI k), .ref 122]) (w3 := w) rfl rfl ?_
        refine sx_RP.step (pc2 := 64) (ls2 := [(0, .ref 111), (1, .int (nI k)), (2, .int a2), (3, .int a3)]) (st2 := [.int a2, .int (nI k), .ref 122]) (w3 := w) rfl rfl ?_
        refine sx_RP.mBt (k := k) hI rfl hk (show _ = 65 from rfl) (fun w4 hI5 hF6 ex7 => ?_)
        refine sx_RP.step (pc2 := 66) (ls2 := [(0, .ref 111), (1, .int (nI k)), (2, .int a2), (3, .int a3)]) (st2 := [.ref 111]) (w3 := w4) rfl rfl ?_
        refine sx_RP.gf (v := .ref 123) rfl rfl hI5.1.o111 rfl rfl (show _ = 69 from rfl) ?_
        refine sx_RP.step (pc2 := 70) (ls2 := [(0, .ref 111), (1, .int (nI k)), (2, .int a2), (3, .int a3)]) (st2 := [.int (nI k), .ref 123]) (w3 := w4) rfl rfl ?_
        refine sx_RP.step (pc2 := 71) (ls2 := [(0, .ref 111), (1, .int (nI k)), (2, .int a2), (3, .int a3)]) (st2 := [.int a2, .int (nI k), .ref 123]) (w3 := w4) rfl rfl ?_
        refine sx_RP.br (p1 := 78) (l1 := [(0, .ref 111), (1, .int (nI k)), (2, .int a2), (3, .int a3)]) (s1 := [.int (nI k), .ref 123]) (v1 := w4) (p2 := 74) (l2 := [(0, .ref 111), (1, .int (nI k)), (2, .int a2), (3, .int a3)]) (s2 := [.int (nI k), .ref 123]) (v2 := w4) rfl rfl (fun q8 => ?_) (fun q8 => ?_)
        · replace q8 := of_decide_eq_true q8
          refine sx_RP.step (pc2 := 79) (ls2 := [(0, .ref 111), (1, .int (nI k)), (2, .int a2), (3, .int a3)]) (st2 := [.int a3, .int (nI k), .ref 123]) (w3 := w4) rfl rfl ?_
          refine sx_RP.mSt (k := k) hI5 rfl hk (sz_of (Int32.not_lt.mpr q2) q3) (show _ = 80 from rfl) (fun w9 hI10 hF11 ex12 => ?_)
          refine sx_RP.step (pc2 := 81) (ls2 := [(0, .ref 111), (1, .int (nI k)), (2, .int a2), (3, .int a3)]) (st2 := [.int 0]) (w3 := w9) rfl rfl ?_
          refine sx_RP.step (pc2 := 83) (ls2 := [(4, .int 0), (0, .ref 111), (1, .int (nI k)), (2, .int a2), (3, .int a3)]) (st2 := []) (w3 := w9) rfl rfl ?_
          refine sx_RP.ls (sx_lr.cons rfl (sx_lr.cons rfl (sx_lr.cons rfl sx_lr.nil))) ((X230L (w0 := w) hk 40 0 w9 (by omega) hI10 (fun i hi => by rw [if_neg (by omega), ja_of (hF11 124 (by decide)), ja_of (hF6 124 (by decide))])).mono9 (fun r w2 z => ⟨z.2.1, Or.inl ⟨⟨⟨⟨nI_le (a := 0) (Nat.zero_le _) (by omega), nI_le (b := 3) (show k ≤ 3 by omega) (by decide)⟩, (Or.inl q1)⟩, ⟨q2, q3⟩⟩, z.1, fun a g1 g2 g3 => (z.2.2 a g3).trans ((hF11 a g2).trans (hF6 a g1))⟩⟩))
        · replace q8 := Decidable.not_not.mp (of_decide_eq_false q8)
          refine sx_RP.step (pc2 := 75) (ls2 := [(0, .ref 111), (1, .int (nI k)), (2, .int a2), (3, .int a3)]) (st2 := [.int 0, .int (nI k), .ref 123]) (w3 := w4) rfl rfl ?_
          refine sx_RP.step (pc2 := 79) (ls2 := [(0, .ref 111), (1, .int (nI k)), (2, .int a2), (3, .int a3)]) (st2 := [.int 0, .int (nI k), .ref 123]) (w3 := w4) rfl rfl ?_
          refine sx_RP.mSt (k := k) hI5 rfl hk ⟨0, by decide, rfl⟩ (show _ = 80 from rfl) (fun w13 hI14 hF15 ex16 => ?_)
          refine sx_RP.step (pc2 := 81) (ls2 := [(0, .ref 111), (1, .int (nI k)), (2, .int a2), (3, .int a3)]) (st2 := [.int 0]) (w3 := w13) rfl rfl ?_
          refine sx_RP.step (pc2 := 83) (ls2 := [(4, .int 0), (0, .ref 111), (1, .int (nI k)), (2, .int a2), (3, .int a3)]) (st2 := []) (w3 := w13) rfl rfl ?_
          refine sx_RP.ls (sx_lr.cons rfl (sx_lr.cons rfl (sx_lr.cons rfl sx_lr.nil))) ((X230L (w0 := w) hk 40 0 w13 (by omega) hI14 (fun i hi => by rw [if_neg (by omega), ja_of (hF15 124 (by decide)), ja_of (hF6 124 (by decide))])).mono9 (fun r w2 z => ⟨z.2.1, Or.inl ⟨⟨⟨⟨nI_le (a := 0) (Nat.zero_le _) (by omega), nI_le (b := 3) (show k ≤ 3 by omega) (by decide)⟩, (Or.inl q1)⟩, ⟨q2, q3⟩⟩, z.1, fun a g1 g2 g3 => (z.2.2 a g3).trans ((hF15 a g2).trans (hF6 a g1))⟩⟩))
      · replace q3 := of_decide_eq_false q3
        refine sx_RP.step (pc2 := 53) (ls2 := [(0, .ref 111), (1, .int (nI k)), (2, .int a2), (3, .int a3)]) (st2 := [.ref 111]) (w3 := w) rfl rfl ?_
        refine sx_RP.step (pc2 := 54) (ls2 := [(0, .ref 111), (1, .int (nI k)), (2, .int a2), (3, .int a3)]) (st2 := [.int 0, .ref 111]) (w3 := w) rfl rfl ?_
        refine sx_RP.callp (as2 := [.ref 111, .int 0]) (rest2 := []) rfl rfl (sx_inv_v2 (mi := 230) (k := 70) (st := [.int 0, .ref 111]) (w := w) rfl rfl hI.1.o111 rfl rfl rfl) rfl rfl rfl (S133_0 hI) (show _ = 57 from rfl) ?_
        rintro r4 w18 ⟨rfl, hI19, hs17⟩
        show sx_RP _ _ _ _ _ [.int (-1000000001)] _ _
        refine sx_RP.ret (r := (some (.int (-1000000001)))) rfl rfl ?_
        exact ⟨hI19, Or.inr ⟨(fun z => q3 z.2.2), hs17⟩⟩
    · replace q2 := of_decide_eq_false q2
      refine sx_RP.step (pc2 := 40) (ls2 := [(0, .ref 111), (1, .int (nI k)), (2, .int a2), (3, .int a3)]) (st2 := [.ref 111]) (w3 := w) rfl rfl ?_
      refine sx_RP.step (pc2 := 42) (ls2 := [(0, .ref 111), (1, .int (nI k)), (2, .int a2), (3, .int a3)]) (st2 := [.int 6, .ref 111]) (w3 := w) rfl rfl ?_
      refine sx_RP.callp (as2 := [.ref 111, .int 6]) (rest2 := []) rfl rfl (sx_inv_v2 (mi := 230) (k := 70) (st := [.int 6, .ref 111]) (w := w) rfl rfl hI.1.o111 rfl rfl rfl) rfl rfl rfl (S133_6 hI) (show _ = 45 from rfl) ?_
      rintro r4 w21 ⟨rfl, hI22, hs20⟩
      show sx_RP _ _ _ _ _ [.int (-1000000007)] _ _
      refine sx_RP.ret (r := (some (.int (-1000000007)))) rfl rfl ?_
      exact ⟨hI22, Or.inr ⟨(fun z => q2 z.2.1), hs20⟩⟩
  · replace q1 := of_decide_eq_false q1
    refine sx_RP.step (pc2 := 12) (ls2 := [(0, .ref 111), (1, .int (nI k)), (2, .int a2), (3, .int a3)]) (st2 := [.int a2]) (w3 := w) rfl rfl ?_
    refine sx_RP.step (pc2 := 14) (ls2 := [(0, .ref 111), (1, .int (nI k)), (2, .int a2), (3, .int a3)]) (st2 := [.int 8, .int a2]) (w3 := w) rfl rfl ?_
    refine sx_RP.br (p1 := 35) (l1 := [(0, .ref 111), (1, .int (nI k)), (2, .int a2), (3, .int a3)]) (s1 := []) (v1 := w) (p2 := 17) (l2 := [(0, .ref 111), (1, .int (nI k)), (2, .int a2), (3, .int a3)]) (s2 := []) (v2 := w) rfl rfl (fun q23 => ?_) (fun q23 => ?_)
    · replace q23 := of_decide_eq_true q23
      refine sx_RP.step (pc2 := 36) (ls2 := [(0, .ref 111), (1, .int (nI k)), (2, .int a2), (3, .int a3)]) (st2 := [.int a3]) (w3 := w) rfl rfl ?_
      refine sx_RP.br (p1 := 46) (l1 := [(0, .ref 111), (1, .int (nI k)), (2, .int a2), (3, .int a3)]) (s1 := []) (v1 := w) (p2 := 39) (l2 := [(0, .ref 111), (1, .int (nI k)), (2, .int a2), (3, .int a3)]) (s2 := []) (v2 := w) rfl rfl (fun q24 => ?_) (fun q24 => ?_)
      · replace q24 := of_decide_eq_true q24
        refine sx_RP.step (pc2 := 47) (ls2 := [(0, .ref 111), (1, .int (nI k)), (2, .int a2), (3, .int a3)]) (st2 := [.int a3]) (w3 := w) rfl rfl ?_
        refine sx_RP.step (pc2 := 49) (ls2 := [(0, .ref 111), (1, .int (nI k)), (2, .int a2), (3, .int a3)]) (st2 := [.int 40, .int a3]) (w3 := w) rfl rfl ?_
        refine sx_RP.br (p1 := 58) (l1 := [(0, .ref 111), (1, .int (nI k)), (2, .int a2), (3, .int a3)]) (s1 := []) (v1 := w) (p2 := 52) (l2 := [(0, .ref 111), (1, .int (nI k)), (2, .int a2), (3, .int a3)]) (s2 := []) (v2 := w) rfl rfl (fun q25 => ?_) (fun q25 => ?_)
        · replace q25 := of_decide_eq_true q25
          refine sx_RP.step (pc2 := 59) (ls2 := [(0, .ref 111), (1, .int (nI k)), (2, .int a2), (3, .int a3)]) (st2 := [.ref 111]) (w3 := w) rfl rfl ?_
          refine sx_RP.gf (v := .ref 122) rfl rfl hI.1.o111 rfl rfl (show _ = 62 from rfl) ?_
          refine sx_RP.step (pc2 := 63) (ls2 := [(0, .ref 111), (1, .int (nI k)), (2, .int a2), (3, .int a3)]) (st2 := [.int (nI k), .ref 122]) (w3 := w) rfl rfl ?_
          refine sx_RP.step (pc2 := 64) (ls2 := [(0, .ref 111), (1, .int (nI k)), (2, .int a2), (3, .int a3)]) (st2 := [.int a2, .int (nI k), .ref 122]) (w3 := w) rfl rfl ?_
          refine sx_RP.mBt (k := k) hI rfl hk (show _ = 65 from rfl) (fun w26 hI27 hF28 ex29 => ?_)
          refine sx_RP.step (pc2 := 66) (ls2 := [(0, .ref 111), (1, .int (nI k)), (2, .int a2), (3, .int a3)]) (st2 := [.ref 111]) (w3 := w26) rfl rfl ?_
          refine sx_RP.gf (v := .ref 123) rfl rfl hI27.1.o111 rfl rfl (show _ = 69 from rfl) ?_
          refine sx_RP.step (pc2 := 70) (ls2 := [(0, .ref 111), (1, .int (nI k)), (2, .int a2), (3, .int a3)]) (st2 := [.int (nI k), .ref 123]) (w3 := w26) rfl rfl ?_
          refine sx_RP.step (pc2 := 71) (ls2 := [(0, .ref 111), (1, .int (nI k)), (2, .int a2), (3, .int a3)]) (st2 := [.int a2, .int (nI k), .ref 123]) (w3 := w26) rfl rfl ?_
          refine sx_RP.br (p1 := 78) (l1 := [(0, .ref 111), (1, .int (nI k)), (2, .int a2), (3, .int a3)]) (s1 := [.int (nI k), .ref 123]) (v1 := w26) (p2 := 74) (l2 := [(0, .ref 111), (1, .int (nI k)), (2, .int a2), (3, .int a3)]) (s2 := [.int (nI k), .ref 123]) (v2 := w26) rfl rfl (fun q30 => ?_) (fun q30 => ?_)
          · replace q30 := of_decide_eq_true q30
            refine sx_RP.step (pc2 := 79) (ls2 := [(0, .ref 111), (1, .int (nI k)), (2, .int a2), (3, .int a3)]) (st2 := [.int a3, .int (nI k), .ref 123]) (w3 := w26) rfl rfl ?_
            refine sx_RP.mSt (k := k) hI27 rfl hk (sz_of (Int32.not_lt.mpr q24) q25) (show _ = 80 from rfl) (fun w31 hI32 hF33 ex34 => ?_)
            refine sx_RP.step (pc2 := 81) (ls2 := [(0, .ref 111), (1, .int (nI k)), (2, .int a2), (3, .int a3)]) (st2 := [.int 0]) (w3 := w31) rfl rfl ?_
            refine sx_RP.step (pc2 := 83) (ls2 := [(4, .int 0), (0, .ref 111), (1, .int (nI k)), (2, .int a2), (3, .int a3)]) (st2 := []) (w3 := w31) rfl rfl ?_
            refine sx_RP.ls (sx_lr.cons rfl (sx_lr.cons rfl (sx_lr.cons rfl sx_lr.nil))) ((X230L (w0 := w) hk 40 0 w31 (by omega) hI32 (fun i hi => by rw [if_neg (by omega), ja_of (hF33 124 (by decide)), ja_of (hF28 124 (by decide))])).mono9 (fun r w2 z => ⟨z.2.1, Or.inl ⟨⟨⟨⟨nI_le (a := 0) (Nat.zero_le _) (by omega), nI_le (b := 3) (show k ≤ 3 by omega) (by decide)⟩, (Or.inr (Or.inl q23))⟩, ⟨q24, q25⟩⟩, z.1, fun a g1 g2 g3 => (z.2.2 a g3).trans ((hF33 a g2).trans (hF28 a g1))⟩⟩))
          · replace q30 := Decidable.not_not.mp (of_decide_eq_false q30)
            refine sx_RP.step (pc2 := 75) (ls2 := [(0, .ref 111), (1, .int (nI k)), (2, .int a2), (3, .int a3)]) (st2 := [.int 0, .int (nI k), .ref 123]) (w3 := w26) rfl rfl ?_
            refine sx_RP.step (pc2 := 79) (ls2 := [(0, .ref 111), (1, .int (nI k)), (2, .int a2), (3, .int a3)]) (st2 := [.int 0, .int (nI k), .ref 123]) (w3 := w26) rfl rfl ?_
            refine sx_RP.mSt (k := k) hI27 rfl hk ⟨0, by decide, rfl⟩ (show _ = 80 from rfl) (fun w35 hI36 hF37 ex38 => ?_)
            refine sx_RP.step (pc2 := 81) (ls2 := [(0, .ref 111), (1, .int (nI k)), (2, .int a2), (3, .int a3)]) (st2 := [.int 0]) (w3 := w35) rfl rfl ?_
            refine sx_RP.step (pc2 := 83) (ls2 := [(4, .int 0), (0, .ref 111), (1, .int (nI k)), (2, .int a2), (3, .int a3)]) (st2 := []) (w3 := w35) rfl rfl ?_
            refine sx_RP.ls (sx_lr.cons rfl (sx_lr.cons rfl (sx_lr.cons rfl sx_lr.nil))) ((X230L (w0 := w) hk 40 0 w35 (by omega) hI36 (fun i hi => by rw [if_neg (by omega), ja_of (hF37 124 (by decide)), ja_of (hF28 124 (by decide))])).mono9 (fun r w2 z => ⟨z.2.1, Or.inl ⟨⟨⟨⟨nI_le (a := 0) (Nat.zero_le _) (by omega), nI_le (b := 3) (show k ≤ 3 by omega) (by decide)⟩, (Or.inl q30)⟩, ⟨q24, q25⟩⟩, z.1, fun a g1 g2 g3 => (z.2.2 a g3).trans ((hF37 a g2).trans (hF28 a g1))⟩⟩))
        · replace q25 := of_decide_eq_false q25
          refine sx_RP.step (pc2 := 53) (ls2 := [(0, .ref 111), (1, .int (nI k)), (2, .int a2), (3, .int a3)]) (st2 := [.ref 111]) (w3 := w) rfl rfl ?_
          refine sx_RP.step (pc2 := 54) (ls2 := [(0, .ref 111), (1, .int (nI k)), (2, .int a2), (3, .int a3)]) (st2 := [.int 0, .ref 111]) (w3 := w) rfl rfl ?_
          refine sx_RP.callp (as2 := [.ref 111, .int 0]) (rest2 := []) rfl rfl (sx_inv_v2 (mi := 230) (k := 70) (st := [.int 0, .ref 111]) (w := w) rfl rfl hI.1.o111 rfl rfl rfl) rfl rfl rfl (S133_0 hI) (show _ = 57 from rfl) ?_
          rintro r4 w40 ⟨rfl, hI41, hs39⟩
          show sx_RP _ _ _ _ _ [.int (-1000000001)] _ _
          refine sx_RP.ret (r := (some (.int (-1000000001)))) rfl rfl ?_
          exact ⟨hI41, Or.inr ⟨(fun z => q25 z.2.2), hs39⟩⟩
      · replace q24 := of_decide_eq_false q24
        refine sx_RP.step (pc2 := 40) (ls2 := [(0, .ref 111), (1, .int (nI k)), (2, .int a2), (3, .int a3)]) (st2 := [.ref 111]) (w3 := w) rfl rfl ?_
        refine sx_RP.step (pc2 := 42) (ls2 := [(0, .ref 111), (1, .int (nI k)), (2, .int a2), (3, .int a3)]) (st2 := [.int 6, .ref 111]) (w3 := w) rfl rfl ?_
        refine sx_RP.callp (as2 := [.ref 111, .int 6]) (rest2 := []) rfl rfl (sx_inv_v2 (mi := 230) (k := 70) (st := [.int 6, .ref 111]) (w := w) rfl rfl hI.1.o111 rfl rfl rfl) rfl rfl rfl (S133_6 hI) (show _ = 45 from rfl) ?_
        rintro r4 w43 ⟨rfl, hI44, hs42⟩
        show sx_RP _ _ _ _ _ [.int (-1000000007)] _ _
        refine sx_RP.ret (r := (some (.int (-1000000007)))) rfl rfl ?_
        exact ⟨hI44, Or.inr ⟨(fun z => q24 z.2.1), hs42⟩⟩
    · replace q23 := of_decide_eq_false q23
      refine sx_RP.step (pc2 := 18) (ls2 := [(0, .ref 111), (1, .int (nI k)), (2, .int a2), (3, .int a3)]) (st2 := [.int a2]) (w3 := w) rfl rfl ?_
      refine sx_RP.step (pc2 := 20) (ls2 := [(0, .ref 111), (1, .int (nI k)), (2, .int a2), (3, .int a3)]) (st2 := [.int 16, .int a2]) (w3 := w) rfl rfl ?_
      refine sx_RP.br (p1 := 35) (l1 := [(0, .ref 111), (1, .int (nI k)), (2, .int a2), (3, .int a3)]) (s1 := []) (v1 := w) (p2 := 23) (l2 := [(0, .ref 111), (1, .int (nI k)), (2, .int a2), (3, .int a3)]) (s2 := []) (v2 := w) rfl rfl (fun q45 => ?_) (fun q45 => ?_)
      · replace q45 := of_decide_eq_true q45
        refine sx_RP.step (pc2 := 36) (ls2 := [(0, .ref 111), (1, .int (nI k)), (2, .int a2), (3, .int a3)]) (st2 := [.int a3]) (w3 := w) rfl rfl ?_
        refine sx_RP.br (p1 := 46) (l1 := [(0, .ref 111), (1, .int (nI k)), (2, .int a2), (3, .int a3)]) (s1 := []) (v1 := w) (p2 := 39) (l2 := [(0, .ref 111), (1, .int (nI k)), (2, .int a2), (3, .int a3)]) (s2 := []) (v2 := w) rfl rfl (fun q46 => ?_) (fun q46 => ?_)
        · replace q46 := of_decide_eq_true q46
          refine sx_RP.step (pc2 := 47) (ls2 := [(0, .ref 111), (1, .int (nI k)), (2, .int a2), (3, .int a3)]) (st2 := [.int a3]) (w3 := w) rfl rfl ?_
          refine sx_RP.step (pc2 := 49) (ls2 := [(0, .ref 111), (1, .int (nI k)), (2, .int a2), (3, .int a3)]) (st2 := [.int 40, .int a3]) (w3 := w) rfl rfl ?_
          refine sx_RP.br (p1 := 58) (l1 := [(0, .ref 111), (1, .int (nI k)), (2, .int a2), (3, .int a3)]) (s1 := []) (v1 := w) (p2 := 52) (l2 := [(0, .ref 111), (1, .int (nI k)), (2, .int a2), (3, .int a3)]) (s2 := []) (v2 := w) rfl rfl (fun q47 => ?_) (fun q47 => ?_)
          · replace q47 := of_decide_eq_true q47
            refine sx_RP.step (pc2 := 59) (ls2 := [(0, .ref 111), (1, .int (nI k)), (2, .int a2), (3, .int a3)]) (st2 := [.ref 111]) (w3 := w) rfl rfl ?_
            refine sx_RP.gf (v := .ref 122) rfl rfl hI.1.o111 rfl rfl (show _ = 62 from rfl) ?_
            refine sx_RP.step (pc2 := 63) (ls2 := [(0, .ref 111), (1, .int (nI k)), (2, .int a2), (3, .int a3)]) (st2 := [.int (nI k), .ref 122]) (w3 := w) rfl rfl ?_
            refine sx_RP.step (pc2 := 64) (ls2 := [(0, .ref 111), (1, .int (nI k)), (2, .int a2), (3, .int a3)]) (st2 := [.int a2, .int (nI k), .ref 122]) (w3 := w) rfl rfl ?_
            refine sx_RP.mBt (k := k) hI rfl hk (show _ = 65 from rfl) (fun w48 hI49 hF50 ex51 => ?_)
            refine sx_RP.step (pc2 := 66) (ls2 := [(0, .ref 111), (1, .int (nI k)), (2, .int a2), (3, .int a3)]) (st2 := [.ref 111]) (w3 := w48) rfl rfl ?_
            refine sx_RP.gf (v := .ref 123) rfl rfl hI49.1.o111 rfl rfl (show _ = 69 from rfl) ?_
            refine sx_RP.step (pc2 := 70) (ls2 := [(0, .ref 111), (1, .int (nI k)), (2, .int a2), (3, .int a3)]) (st2 := [.int (nI k), .ref 123]) (w3 := w48) rfl rfl ?_
            refine sx_RP.step (pc2 := 71) (ls2 := [(0, .ref 111), (1, .int (nI k)), (2, .int a2), (3, .int a3)]) (st2 := [.int a2, .int (nI k), .ref 123]) (w3 := w48) rfl rfl ?_
            refine sx_RP.br (p1 := 78) (l1 := [(0, .ref 111), (1, .int (nI k)), (2, .int a2), (3, .int a3)]) (s1 := [.int (nI k), .ref 123]) (v1 := w48) (p2 := 74) (l2 := [(0, .ref 111), (1, .int (nI k)), (2, .int a2), (3, .int a3)]) (s2 := [.int (nI k), .ref 123]) (v2 := w48) rfl rfl (fun q52 => ?_) (fun q52 => ?_)
            · replace q52 := of_decide_eq_true q52
              refine sx_RP.step (pc2 := 79) (ls2 := [(0, .ref 111), (1, .int (nI k)), (2, .int a2), (3, .int a3)]) (st2 := [.int a3, .int (nI k), .ref 123]) (w3 := w48) rfl rfl ?_
              refine sx_RP.mSt (k := k) hI49 rfl hk (sz_of (Int32.not_lt.mpr q46) q47) (show _ = 80 from rfl) (fun w53 hI54 hF55 ex56 => ?_)
              refine sx_RP.step (pc2 := 81) (ls2 := [(0, .ref 111), (1, .int (nI k)), (2, .int a2), (3, .int a3)]) (st2 := [.int 0]) (w3 := w53) rfl rfl ?_
              refine sx_RP.step (pc2 := 83) (ls2 := [(4, .int 0), (0, .ref 111), (1, .int (nI k)), (2, .int a2), (3, .int a3)]) (st2 := []) (w3 := w53) rfl rfl ?_
              refine sx_RP.ls (sx_lr.cons rfl (sx_lr.cons rfl (sx_lr.cons rfl sx_lr.nil))) ((X230L (w0 := w) hk 40 0 w53 (by omega) hI54 (fun i hi => by rw [if_neg (by omega), ja_of (hF55 124 (by decide)), ja_of (hF50 124 (by decide))])).mono9 (fun r w2 z => ⟨z.2.1, Or.inl ⟨⟨⟨⟨nI_le (a := 0) (Nat.zero_le _) (by omega), nI_le (b := 3) (show k ≤ 3 by omega) (by decide)⟩, (Or.inr (Or.inr (Or.inl q45)))⟩, ⟨q46, q47⟩⟩, z.1, fun a g1 g2 g3 => (z.2.2 a g3).trans ((hF55 a g2).trans (hF50 a g1))⟩⟩))
            · replace q52 := Decidable.not_not.mp (of_decide_eq_false q52)
              refine sx_RP.step (pc2 := 75) (ls2 := [(0, .ref 111), (1, .int (nI k)), (2, .int a2), (3, .int a3)]) (st2 := [.int 0, .int (nI k), .ref 123]) (w3 := w48) rfl rfl ?_
              refine sx_RP.step (pc2 := 79) (ls2 := [(0, .ref 111), (1, .int (nI k)), (2, .int a2), (3, .int a3)]) (st2 := [.int 0, .int (nI k), .ref 123]) (w3 := w48) rfl rfl ?_
              refine sx_RP.mSt (k := k) hI49 rfl hk ⟨0, by decide, rfl⟩ (show _ = 80 from rfl) (fun w57 hI58 hF59 ex60 => ?_)
              refine sx_RP.step (pc2 := 81) (ls2 := [(0, .ref 111), (1, .int (nI k)), (2, .int a2), (3, .int a3)]) (st2 := [.int 0]) (w3 := w57) rfl rfl ?_
              refine sx_RP.step (pc2 := 83) (ls2 := [(4, .int 0), (0, .ref 111), (1, .int (nI k)), (2, .int a2), (3, .int a3)]) (st2 := []) (w3 := w57) rfl rfl ?_
              refine sx_RP.ls (sx_lr.cons rfl (sx_lr.cons rfl (sx_lr.cons rfl sx_lr.nil))) ((X230L (w0 := w) hk 40 0 w57 (by omega) hI58 (fun i hi => by rw [if_neg (by omega), ja_of (hF59 124 (by decide)), ja_of (hF50 124 (by decide))])).mono9 (fun r w2 z => ⟨z.2.1, Or.inl ⟨⟨⟨⟨nI_le (a := 0) (Nat.zero_le _) (by omega), nI_le (b := 3) (show k ≤ 3 by omega) (by decide)⟩, (Or.inl q52)⟩, ⟨q46, q47⟩⟩, z.1, fun a g1 g2 g3 => (z.2.2 a g3).trans ((hF59 a g2).trans (hF50 a g1))⟩⟩))
          · replace q47 := of_decide_eq_false q47
            refine sx_RP.step (pc2 := 53) (ls2 := [(0, .ref 111), (1, .int (nI k)), (2, .int a2), (3, .int a3)]) (st2 := [.ref 111]) (w3 := w) rfl rfl ?_
            refine sx_RP.step (pc2 := 54) (ls2 := [(0, .ref 111), (1, .int (nI k)), (2, .int a2), (3, .int a3)]) (st2 := [.int 0, .ref 111]) (w3 := w) rfl rfl ?_
            refine sx_RP.callp (as2 := [.ref 111, .int 0]) (rest2 := []) rfl rfl (sx_inv_v2 (mi := 230) (k := 70) (st := [.int 0, .ref 111]) (w := w) rfl rfl hI.1.o111 rfl rfl rfl) rfl rfl rfl (S133_0 hI) (show _ = 57 from rfl) ?_
            rintro r4 w62 ⟨rfl, hI63, hs61⟩
            show sx_RP _ _ _ _ _ [.int (-1000000001)] _ _
            refine sx_RP.ret (r := (some (.int (-1000000001)))) rfl rfl ?_
            exact ⟨hI63, Or.inr ⟨(fun z => q47 z.2.2), hs61⟩⟩
        · replace q46 := of_decide_eq_false q46
          refine sx_RP.step (pc2 := 40) (ls2 := [(0, .ref 111), (1, .int (nI k)), (2, .int a2), (3, .int a3)]) (st2 := [.ref 111]) (w3 := w) rfl rfl ?_
          refine sx_RP.step (pc2 := 42) (ls2 := [(0, .ref 111), (1, .int (nI k)), (2, .int a2), (3, .int a3)]) (st2 := [.int 6, .ref 111]) (w3 := w) rfl rfl ?_
          refine sx_RP.callp (as2 := [.ref 111, .int 6]) (rest2 := []) rfl rfl (sx_inv_v2 (mi := 230) (k := 70) (st := [.int 6, .ref 111]) (w := w) rfl rfl hI.1.o111 rfl rfl rfl) rfl rfl rfl (S133_6 hI) (show _ = 45 from rfl) ?_
          rintro r4 w65 ⟨rfl, hI66, hs64⟩
          show sx_RP _ _ _ _ _ [.int (-1000000007)] _ _
          refine sx_RP.ret (r := (some (.int (-1000000007)))) rfl rfl ?_
          exact ⟨hI66, Or.inr ⟨(fun z => q46 z.2.1), hs64⟩⟩
      · replace q45 := of_decide_eq_false q45
        refine sx_RP.step (pc2 := 24) (ls2 := [(0, .ref 111), (1, .int (nI k)), (2, .int a2), (3, .int a3)]) (st2 := [.int a2]) (w3 := w) rfl rfl ?_
        refine sx_RP.step (pc2 := 26) (ls2 := [(0, .ref 111), (1, .int (nI k)), (2, .int a2), (3, .int a3)]) (st2 := [.int 64, .int a2]) (w3 := w) rfl rfl ?_
        refine sx_RP.br (p1 := 35) (l1 := [(0, .ref 111), (1, .int (nI k)), (2, .int a2), (3, .int a3)]) (s1 := []) (v1 := w) (p2 := 29) (l2 := [(0, .ref 111), (1, .int (nI k)), (2, .int a2), (3, .int a3)]) (s2 := []) (v2 := w) rfl rfl (fun q67 => ?_) (fun q67 => ?_)
        · replace q67 := of_decide_eq_true q67
          refine sx_RP.step (pc2 := 36) (ls2 := [(0, .ref 111), (1, .int (nI k)), (2, .int a2), (3, .int a3)]) (st2 := [.int a3]) (w3 := w) rfl rfl ?_
          refine sx_RP.br (p1 := 46) (l1 := [(0, .ref 111), (1, .int (nI k)), (2, .int a2), (3, .int a3)]) (s1 := []) (v1 := w) (p2 := 39) (l2 := [(0, .ref 111), (1, .int (nI k)), (2, .int a2), (3, .int a3)]) (s2 := []) (v2 := w) rfl rfl (fun q68 => ?_) (fun q68 => ?_)
          · replace q68 := of_decide_eq_true q68
            refine sx_RP.step (pc2 := 47) (ls2 := [(0, .ref 111), (1, .int (nI k)), (2, .int a2), (3, .int a3)]) (st2 := [.int a3]) (w3 := w) rfl rfl ?_
            refine sx_RP.step (pc2 := 49) (ls2 := [(0, .ref 111), (1, .int (nI k)), (2, .int a2), (3, .int a3)]) (st2 := [.int 40, .int a3]) (w3 := w) rfl rfl ?_
            refine sx_RP.br (p1 := 58) (l1 := [(0, .ref 111), (1, .int (nI k)), (2, .int a2), (3, .int a3)]) (s1 := []) (v1 := w) (p2 := 52) (l2 := [(0, .ref 111), (1, .int (nI k)), (2, .int a2), (3, .int a3)]) (s2 := []) (v2 := w) rfl rfl (fun q69 => ?_) (fun q69 => ?_)
            · replace q69 := of_decide_eq_true q69
              refine sx_RP.step (pc2 := 59) (ls2 := [(0, .ref 111), (1, .int (nI k)), (2, .int a2), (3, .int a3)]) (st2 := [.ref 111]) (w3 := w) rfl rfl ?_
              refine sx_RP.gf (v := .ref 122) rfl rfl hI.1.o111 rfl rfl (show _ = 62 from rfl) ?_
              refine sx_RP.step (pc2 := 63) (ls2 := [(0, .ref 111), (1, .int (nI k)), (2, .int a2), (3, .int a3)]) (st2 := [.int (nI k), .ref 122]) (w3 := w) rfl rfl ?_
              refine sx_RP.step (pc2 := 64) (ls2 := [(0, .ref 111), (1, .int (nI k)), (2, .int a2), (3, .int a3)]) (st2 := [.int a2, .int (nI k), .ref 122]) (w3 := w) rfl rfl ?_
              refine sx_RP.mBt (k := k) hI rfl hk (show _ = 65 from rfl) (fun w70 hI71 hF72 ex73 => ?_)
              refine sx_RP.step (pc2 := 66) (ls2 := [(0, .ref 111), (1, .int (nI k)), (2, .int a2), (3, .int a3)]) (st2 := [.ref 111]) (w3 := w70) rfl rfl ?_
              refine sx_RP.gf (v := .ref 123) rfl rfl hI71.1.o111 rfl rfl (show _ = 69 from rfl) ?_
              refine sx_RP.step (pc2 := 70) (ls2 := [(0, .ref 111), (1, .int (nI k)), (2, .int a2), (3, .int a3)]) (st2 := [.int (nI k), .ref 123]) (w3 := w70) rfl rfl ?_
              refine sx_RP.step (pc2 := 71) (ls2 := [(0, .ref 111), (1, .int (nI k)), (2, .int a2), (3, .int a3)]) (st2 := [.int a2, .int (nI k), .ref 123]) (w3 := w70) rfl rfl ?_
              refine sx_RP.br (p1 := 78) (l1 := [(0, .ref 111), (1, .int (nI k)), (2, .int a2), (3, .int a3)]) (s1 := [.int (nI k), .ref 123]) (v1 := w70) (p2 := 74) (l2 := [(0, .ref 111), (1, .int (nI k)), (2, .int a2), (3, .int a3)]) (s2 := [.int (nI k), .ref 123]) (v2 := w70) rfl rfl (fun q74 => ?_) (fun q74 => ?_)
              · replace q74 := of_decide_eq_true q74
                refine sx_RP.step (pc2 := 79) (ls2 := [(0, .ref 111), (1, .int (nI k)), (2, .int a2), (3, .int a3)]) (st2 := [.int a3, .int (nI k), .ref 123]) (w3 := w70) rfl rfl ?_
                refine sx_RP.mSt (k := k) hI71 rfl hk (sz_of (Int32.not_lt.mpr q68) q69) (show _ = 80 from rfl) (fun w75 hI76 hF77 ex78 => ?_)
                refine sx_RP.step (pc2 := 81) (ls2 := [(0, .ref 111), (1, .int (nI k)), (2, .int a2), (3, .int a3)]) (st2 := [.int 0]) (w3 := w75) rfl rfl ?_
                refine sx_RP.step (pc2 := 83) (ls2 := [(4, .int 0), (0, .ref 111), (1, .int (nI k)), (2, .int a2), (3, .int a3)]) (st2 := []) (w3 := w75) rfl rfl ?_
                refine sx_RP.ls (sx_lr.cons rfl (sx_lr.cons rfl (sx_lr.cons rfl sx_lr.nil))) ((X230L (w0 := w) hk 40 0 w75 (by omega) hI76 (fun i hi => by rw [if_neg (by omega), ja_of (hF77 124 (by decide)), ja_of (hF72 124 (by decide))])).mono9 (fun r w2 z => ⟨z.2.1, Or.inl ⟨⟨⟨⟨nI_le (a := 0) (Nat.zero_le _) (by omega), nI_le (b := 3) (show k ≤ 3 by omega) (by decide)⟩, (Or.inr (Or.inr (Or.inr q67)))⟩, ⟨q68, q69⟩⟩, z.1, fun a g1 g2 g3 => (z.2.2 a g3).trans ((hF77 a g2).trans (hF72 a g1))⟩⟩))
              · replace q74 := Decidable.not_not.mp (of_decide_eq_false q74)
                refine sx_RP.step (pc2 := 75) (ls2 := [(0, .ref 111), (1, .int (nI k)), (2, .int a2), (3, .int a3)]) (st2 := [.int 0, .int (nI k), .ref 123]) (w3 := w70) rfl rfl ?_
                refine sx_RP.step (pc2 := 79) (ls2 := [(0, .ref 111), (1, .int (nI k)), (2, .int a2), (3, .int a3)]) (st2 := [.int 0, .int (nI k), .ref 123]) (w3 := w70) rfl rfl ?_
                refine sx_RP.mSt (k := k) hI71 rfl hk ⟨0, by decide, rfl⟩ (show _ = 80 from rfl) (fun w79 hI80 hF81 ex82 => ?_)
                refine sx_RP.step (pc2 := 81) (ls2 := [(0, .ref 111), (1, .int (nI k)), (2, .int a2), (3, .int a3)]) (st2 := [.int 0]) (w3 := w79) rfl rfl ?_
                refine sx_RP.step (pc2 := 83) (ls2 := [(4, .int 0), (0, .ref 111), (1, .int (nI k)), (2, .int a2), (3, .int a3)]) (st2 := []) (w3 := w79) rfl rfl ?_
                refine sx_RP.ls (sx_lr.cons rfl (sx_lr.cons rfl (sx_lr.cons rfl sx_lr.nil))) ((X230L (w0 := w) hk 40 0 w79 (by omega) hI80 (fun i hi => by rw [if_neg (by omega), ja_of (hF81 124 (by decide)), ja_of (hF72 124 (by decide))])).mono9 (fun r w2 z => ⟨z.2.1, Or.inl ⟨⟨⟨⟨nI_le (a := 0) (Nat.zero_le _) (by omega), nI_le (b := 3) (show k ≤ 3 by omega) (by decide)⟩, (Or.inl q74)⟩, ⟨q68, q69⟩⟩, z.1, fun a g1 g2 g3 => (z.2.2 a g3).trans ((hF81 a g2).trans (hF72 a g1))⟩⟩))
            · replace q69 := of_decide_eq_false q69
              refine sx_RP.step (pc2 := 53) (ls2 := [(0, .ref 111), (1, .int (nI k)), (2, .int a2), (3, .int a3)]) (st2 := [.ref 111]) (w3 := w) rfl rfl ?_
              refine sx_RP.step (pc2 := 54) (ls2 := [(0, .ref 111), (1, .int (nI k)), (2, .int a2), (3, .int a3)]) (st2 := [.int 0, .ref 111]) (w3 := w) rfl rfl ?_
              refine sx_RP.callp (as2 := [.ref 111, .int 0]) (rest2 := []) rfl rfl (sx_inv_v2 (mi := 230) (k := 70) (st := [.int 0, .ref 111]) (w := w) rfl rfl hI.1.o111 rfl rfl rfl) rfl rfl rfl (S133_0 hI) (show _ = 57 from rfl) ?_
              rintro r4 w84 ⟨rfl, hI85, hs83⟩
              show sx_RP _ _ _ _ _ [.int (-1000000001)] _ _
              refine sx_RP.ret (r := (some (.int (-1000000001)))) rfl rfl ?_
              exact ⟨hI85, Or.inr ⟨(fun z => q69 z.2.2), hs83⟩⟩
          · replace q68 := of_decide_eq_false q68
            refine sx_RP.step (pc2 := 40) (ls2 := [(0, .ref 111), (1, .int (nI k)), (2, .int a2), (3, .int a3)]) (st2 := [.ref 111]) (w3 := w) rfl rfl ?_
            refine sx_RP.step (pc2 := 42) (ls2 := [(0, .ref 111), (1, .int (nI k)), (2, .int a2), (3, .int a3)]) (st2 := [.int 6, .ref 111]) (w3 := w) rfl rfl ?_
            refine sx_RP.callp (as2 := [.ref 111, .int 6]) (rest2 := []) rfl rfl (sx_inv_v2 (mi := 230) (k := 70) (st := [.int 6, .ref 111]) (w := w) rfl rfl hI.1.o111 rfl rfl rfl) rfl rfl rfl (S133_6 hI) (show _ = 45 from rfl) ?_
            rintro r4 w87 ⟨rfl, hI88, hs86⟩
            show sx_RP _ _ _ _ _ [.int (-1000000007)] _ _
            refine sx_RP.ret (r := (some (.int (-1000000007)))) rfl rfl ?_
            exact ⟨hI88, Or.inr ⟨(fun z => q68 z.2.1), hs86⟩⟩
        · replace q67 := of_decide_eq_false q67
          refine sx_RP.step (pc2 := 30) (ls2 := [(0, .ref 111), (1, .int (nI k)), (2, .int a2), (3, .int a3)]) (st2 := [.ref 111]) (w3 := w) rfl rfl ?_
          refine sx_RP.step (pc2 := 31) (ls2 := [(0, .ref 111), (1, .int (nI k)), (2, .int a2), (3, .int a3)]) (st2 := [.int 0, .ref 111]) (w3 := w) rfl rfl ?_
          refine sx_RP.callp (as2 := [.ref 111, .int 0]) (rest2 := []) rfl rfl (sx_inv_v2 (mi := 230) (k := 70) (st := [.int 0, .ref 111]) (w := w) rfl rfl hI.1.o111 rfl rfl rfl) rfl rfl rfl (S133_0 hI) (show _ = 34 from rfl) ?_
          rintro r4 w90 ⟨rfl, hI91, hs89⟩
          show sx_RP _ _ _ _ _ [.int (-1000000001)] _ _
          refine sx_RP.ret (r := (some (.int (-1000000001)))) rfl rfl ?_
          exact ⟨hI91, Or.inr ⟨(fun z => z.1.2.elim q1 (fun z => z.elim q23 (fun z => z.elim q45 q67))), hs89⟩⟩
set_option maxRecDepth 20000 in
set_option maxHeartbeats 4000000 in
theorem F230n {xs : Option (List Int32)} {d : Nat} {w : List sx_C} (hI : WI w) (a1 a2 a3 : Int32) (hn : ¬ (0 ≤ a1 ∧ a1 ≤ 3)) : sx_RP xs (d + 7) 230 0 (lv_args 0 [.ref 111, .int a1, .int a2, .int a3]) [] w (fun r w2 => WI w2 ∧ ¬ shV a1 a2 a3 ∧ Same 116 w w2) := by
  refine sx_RP.step (pc2 := 1) (ls2 := [(0, .ref 111), (1, .int a1), (2, .int a2), (3, .int a3)]) (st2 := [.int a1]) (w3 := w) rfl rfl ?_
  refine sx_RP.cu (as := [.int a1]) (rest2 := []) (st3 := [.int 0]) rfl rfl rfl rfl rfl (cx_231n hn) rfl ?_
  refine sx_RP.step (pc2 := 29) (ls2 := [(0, .ref 111), (1, .int a1), (2, .int a2), (3, .int a3)]) (st2 := []) (w3 := w) rfl rfl ?_
  refine sx_RP.step (pc2 := 30) (ls2 := [(0, .ref 111), (1, .int a1), (2, .int a2), (3, .int a3)]) (st2 := [.ref 111]) (w3 := w) rfl rfl ?_
  refine sx_RP.step (pc2 := 31) (ls2 := [(0, .ref 111), (1, .int a1), (2, .int a2), (3, .int a3)]) (st2 := [.int 0, .ref 111]) (w3 := w) rfl rfl ?_
  refine sx_RP.callp (as2 := [.ref 111, .int 0]) (rest2 := []) rfl rfl (sx_inv_v2 (mi := 230) (k := 70) (st := [.int 0, .ref 111]) (w := w) rfl rfl hI.1.o111 rfl rfl rfl) rfl rfl rfl (S133_0 hI) (show _ = 34 from rfl) ?_
  rintro r4 w2 ⟨rfl, hI3, hs1⟩
  show sx_RP _ _ _ _ _ [.int (-1000000001)] _ _
  refine sx_RP.ret (r := (some (.int (-1000000001)))) rfl rfl ?_
  exact ⟨hI3, fun z => hn z.1.1, hs1⟩
end
-- 89y15.write.lean.txt
section
theorem in_ltz {x : Int32} {n : Nat} (hn : n ≤ 40) : (0 ≤ x ∧ x ≤ nI n - 1) ↔ (0 ≤ x ∧ x < nI n) := by
  have e : (nI n - 1).toInt = (n : Int) - 1 := by
    rw [Int32.toInt_sub, nI_toInt (by omega), show (1 : Int32).toInt = 1 by decide, Int.bmod_def]
    split <;> omega
  rw [Int32.le_iff_toInt_le (x := x), Int32.lt_iff_toInt_lt (x := x), e, nI_toInt (by omega)]
  constructor <;> intro h <;> exact ⟨h.1, by omega⟩
theorem idx_getz {v : Int32} {n : Nat} (h : 0 ≤ v ∧ v < nI n) (hn : n ≤ 40) : ∃ x, x < n ∧ v = nI x := by
  obtain ⟨x, hx, rfl⟩ := nI_of (Int32.not_lt.mpr h.1)
  exact ⟨x, (nI_ltI hx (by omega)).mp h.2, rfl⟩
def wrA (F : Nat → Int32 × Int32) (N : Nat → Nat → Int64) (a1 a2 : Int32) : Int64 := if 0 ≤ a1 ∧ a1 ≤ 3 then (if (F (iN a1)).1 = 0 then -1000000006 else (if 0 ≤ a2 ∧ a2 < (F (iN a1)).2 then N (iN a1) (iN a2) else -1000000001)) else -1000000001
def wrR (F : Nat → Int32 × Int32) (N : Nat → Nat → Int64) (a1 a2 : Int32) (v : Int64) : Nat → Nat → Int64 := if 0 ≤ a1 ∧ a1 ≤ 3 then (if (F (iN a1)).1 = 0 then N else (if 0 ≤ a2 ∧ a2 < (F (iN a1)).2 then wrN N (iN a1) (iN a2) (ptF (F (iN a1)).1 v) else N)) else N
section SXW9
variable {F : Nat → Int32 × Int32} {N : Nat → Nat → Int64} {a1 a2 b z : Int32} {v : Int64} {s i : Nat}
theorem wr_1 (h : ¬ (0 ≤ a1 ∧ a1 ≤ 3)) : wrA F N a1 a2 = -1000000001 ∧ wrR F N a1 a2 v = N := ⟨if_neg h, if_neg h⟩
theorem wr_2 (hs : s < 4) (e : F s = (b, z)) (h : b = 0) : wrA F N (nI s) a2 = -1000000006 ∧ wrR F N (nI s) a2 v = N := by
  unfold wrA wrR
  rw [iN_n (by omega), e, if_pos (cp_r hs), if_pos (cp_r hs), if_pos h, if_pos h]
  exact ⟨rfl, rfl⟩
theorem wr_3 (hs : s < 4) (e : F s = (b, z)) (h : ¬ b = 0) (h2 : ¬ (0 ≤ a2 ∧ a2 < z)) : wrA F N (nI s) a2 = -1000000001 ∧ wrR F N (nI s) a2 v = N := by
  unfold wrA wrR
  rw [iN_n (by omega), e, if_pos (cp_r hs), if_pos (cp_r hs), if_neg h, if_neg h, if_neg h2, if_neg h2]
  exact ⟨rfl, rfl⟩
theorem wr_4 (hs : s < 4) (e : F s = (b, z)) (h : ¬ b = 0) (hi : i < 40) (h2 : 0 ≤ nI i ∧ nI i < z) : wrA F N (nI s) (nI i) = N s i ∧ wrR F N (nI s) (nI i) v = wrN N s i (ptF b v) := by
  unfold wrA wrR
  rw [iN_n (by omega), e, if_pos (cp_r hs), if_pos (cp_r hs), if_neg h, if_neg h, if_pos h2, if_pos h2, iN_n (by omega)]
  exact ⟨rfl, rfl⟩
end SXW9
theorem NCs_at {w : List sx_C} {s i : Nat} (hs : s < 4) (hi : i < 40) : NCs w s i = (ja w (104 + 2 * s)).getD i 0 := if_pos ⟨hs, hi⟩
theorem NMs_at {w : List sx_C} {s i : Nat} (hs : s < 4) (hi : i < 40) : NMs w s i = (ja w 124).getD (40 * s + i) 0 := if_pos ⟨hs, hi⟩
section SXC9
variable {xs : Option (List Int32)} {d mi pc pc2 a idx p : Nat} {ls : sx_L} {r : List Value} {w w0 : List sx_C} {P : Option Value → List sx_C → Prop}
theorem sx_RP.acX {s t f g n : Nat} (hI : WI w) (hs : s < 4) (ht : t < 4) (h1 : f + n ≤ 40) (h2 : g + n ≤ 40) (hi : sx_ins mi pc = some (.invokestatic idx, 3)) (hq : sx_lk (sx_ac (sx_own mi)) idx = some p) (hr : Nat.ble (r.map (fun v => v.category)).sum 8 = true) (hp : pc + 3 = pc2) (kk : ∀ w2, WI w2 → Same (104 + 2 * t) w w2 → ja w2 (104 + 2 * t) = sx_cpy (ja w (104 + 2 * s)) (ja w (104 + 2 * t)) f g n → sx_RP xs d mi pc2 ls r w2 P) : sx_RP xs d mi pc ls (.int (nI n) :: .int (nI g) :: .ref (104 + 2 * t) :: .int (nI f) :: .ref (104 + 2 * s) :: r) w P := by
  subst hp
  have ha := hI.1.aN ht
  have hb := hI.1.aN hs
  have hl := cpy_len (f := ja w (104 + 2 * s)) (g := ja w (104 + 2 * t)) (sp := f) (dp := g) (n := n) (by omega) (by omega)
  have hsh : sx_sh (.inr (.inl (3, sx_cpy (ja w (104 + 2 * s)) (ja w (104 + 2 * t)) f g n))) = sx_sh (.inr (.inl (3, ja w (104 + 2 * t)))) := by
    show (.inr (.inl (3, List.replicate (sx_cpy (ja w (104 + 2 * s)) (ja w (104 + 2 * t)) f g n).length 0)) : sx_C) = .inr (.inl (3, List.replicate (ja w (104 + 2 * t)).length 0))
    rw [hl]
  refine sx_RP.step hi (show sx_acp (sx_own mi) idx ls pc (.int (nI n) :: .int (nI g) :: .ref (104 + 2 * t) :: .int (nI f) :: .ref (104 + 2 * s) :: r) w = some (pc + 3, ls, r, w.set (104 + 2 * t) (.inr (.inl (3, sx_cpy (ja w (104 + 2 * s)) (ja w (104 + 2 * t)) f g n)))) from ?_) (kk _ (hI.set ha.1 hsh (cOK.free (by omega))) Same.set (by unfold ja; rw [sx_gs2 ha.1]))
  unfold sx_acp
  simp only
  rw [hq]
  simp only
  rw [decide_eq_false (nI_pos (n := f) (by omega)), decide_eq_false (nI_pos (n := g) (by omega)), decide_eq_false (nI_pos (n := n) (by omega)), hr, hb.1, ha.1]
  simp only [Bool.not_false, Bool.and_self, cond_true]
  rw [nI_clamp (by omega), nI_clamp (by omega), nI_clamp (by omega), Nat.ble_eq_true_of_le (by omega), Nat.ble_eq_true_of_le (by omega)]
  rfl
end SXC9
theorem cpy_at {f g : List Int64} {sp dp n i : Nat} (h1 : sp + n ≤ f.length) (h2 : dp + n ≤ g.length) (hi : i < g.length) : (sx_cpy f g sp dp n).getD i 0 = if dp ≤ i ∧ i < dp + n then f.getD (sp + (i - dp)) 0 else g.getD i 0 := by
  unfold sx_cpy
  simp only [List.getD_eq_getElem?_getD]
  by_cases c1 : i < dp
  · rw [if_neg (by omega), List.getElem?_append_left (by simp; omega), List.getElem?_append_left (by simp; omega), List.getElem?_take_of_lt c1]
  · by_cases c2 : i < dp + n
    · rw [if_pos (by omega), List.getElem?_append_left (by simp; omega), List.getElem?_append_right (by simp; omega)]
      rw [List.length_take, show min dp g.length = dp by omega, List.getElem?_take_of_lt (by omega), List.getElem?_drop]
    · rw [if_neg (by omega), List.getElem?_append_right (by simp; omega)]
      rw [List.length_append, List.length_take, List.length_take, List.length_drop, List.getElem?_drop, show min dp g.length + min n (f.length - sp) = dp + n by omega, show dp + n + (i - (dp + n)) = i by omega]
theorem NCs_cp {w w2 : List sx_C} (hI : WI w) {s t f g n : Nat} (hs : s < 4) (ht : t < 4) (h1 : f + n ≤ 40) (h2 : g + n ≤ 40) (hS : Same (104 + 2 * t) w w2) (hv : ja w2 (104 + 2 * t) = sx_cpy (ja w (104 + 2 * s)) (ja w (104 + 2 * t)) f g n) : NCs w2 = cpN (NCs w) s f t g n := by
  have l1 := (hI.1.aN hs).2
  have l2 := (hI.1.aN ht).2
  funext s2 i
  unfold cpN NCs
  by_cases h : s2 < 4 ∧ i < 40
  · rw [if_pos h]
    by_cases e : s2 = t
    · subst e
      rw [hv, cpy_at (by omega) (by omega) (by omega)]
      by_cases e2 : g ≤ i ∧ i < g + n
      · rw [if_pos e2, if_pos ⟨rfl, e2⟩, if_pos (by omega)]
      · rw [if_neg e2, if_neg (fun z => e2 z.2), if_pos h]
    · rw [ja_of (hS _ (by omega)), if_neg (fun z => e z.1), if_pos h]
  · rw [if_neg h, if_neg (by omega), if_neg h]
set_option maxRecDepth 20000 in
set_option maxHeartbeats 4000000 in
theorem X117 {xs : Option (List Int32)} {d : Nat} {w : List sx_C} (hI : WI w) {s i : Nat} (hs : s < 4) (hi : i < 40) (v : Int64) : sx_RP xs d 117 0 (lv_args 0 [.ref (103 + 2 * s), .int (nI i), .long v]) [] w (fun r w2 => (r = none ∧ ja w2 (104 + 2 * s) = (ja w (104 + 2 * s)).set i (ptF (fi w (103 + 2 * s) 1) v)) ∧ WI w2 ∧ Same (104 + 2 * s) w w2) := by
  refine sx_RP.step (pc2 := 1) (ls2 := [(0, .ref (103 + 2 * s)), (1, .int (nI i)), (2, .long v)]) (st2 := [.ref (103 + 2 * s)]) (w3 := w) rfl rfl ?_
  refine sx_RP.gf (v := .ref (104 + 2 * s)) rfl rfl (hI.1.oS (show s < 4 by omega)) rfl rfl (show _ = 4 from rfl) ?_
  refine sx_RP.step (pc2 := 5) (ls2 := [(0, .ref (103 + 2 * s)), (1, .int (nI i)), (2, .long v)]) (st2 := [.int (nI i), .ref (104 + 2 * s)]) (w3 := w) rfl rfl ?_
  refine sx_RP.step (pc2 := 6) (ls2 := [(0, .ref (103 + 2 * s)), (1, .int (nI i)), (2, .long v)]) (st2 := [.ref (103 + 2 * s), .int (nI i), .ref (104 + 2 * s)]) (w3 := w) rfl rfl ?_
  refine sx_RP.gf (v := .int (fi w (103 + 2 * s) 1)) rfl rfl (hI.1.oS (show s < 4 by omega)) rfl rfl (show _ = 9 from rfl) ?_
  refine sx_RP.step (pc2 := 11) (ls2 := [(0, .ref (103 + 2 * s)), (1, .int (nI i)), (2, .long v)]) (st2 := [.int 8, .int (fi w (103 + 2 * s) 1), .int (nI i), .ref (104 + 2 * s)]) (w3 := w) rfl rfl ?_
  refine sx_RP.br (p1 := 21) (l1 := [(0, .ref (103 + 2 * s)), (1, .int (nI i)), (2, .long v)]) (s1 := [.int (nI i), .ref (104 + 2 * s)]) (v1 := w) (p2 := 14) (l2 := [(0, .ref (103 + 2 * s)), (1, .int (nI i)), (2, .long v)]) (s2 := [.int (nI i), .ref (104 + 2 * s)]) (v2 := w) rfl rfl (fun q1 => ?_) (fun q1 => ?_)
  · replace q1 := of_decide_eq_true q1
    refine sx_RP.step (pc2 := 22) (ls2 := [(0, .ref (103 + 2 * s)), (1, .int (nI i)), (2, .long v)]) (st2 := [.ref (103 + 2 * s), .int (nI i), .ref (104 + 2 * s)]) (w3 := w) rfl rfl ?_
    refine sx_RP.gf (v := .int (fi w (103 + 2 * s) 1)) rfl rfl (hI.1.oS (show s < 4 by omega)) rfl rfl (show _ = 25 from rfl) ?_
    refine sx_RP.step (pc2 := 27) (ls2 := [(0, .ref (103 + 2 * s)), (1, .int (nI i)), (2, .long v)]) (st2 := [.int 16, .int (fi w (103 + 2 * s) 1), .int (nI i), .ref (104 + 2 * s)]) (w3 := w) rfl rfl ?_
    refine sx_RP.br (p1 := 37) (l1 := [(0, .ref (103 + 2 * s)), (1, .int (nI i)), (2, .long v)]) (s1 := [.int (nI i), .ref (104 + 2 * s)]) (v1 := w) (p2 := 30) (l2 := [(0, .ref (103 + 2 * s)), (1, .int (nI i)), (2, .long v)]) (s2 := [.int (nI i), .ref (104 + 2 * s)]) (v2 := w) rfl rfl (fun q2 => ?_) (fun q2 => ?_)
    · replace q2 := of_decide_eq_true q2
      refine sx_RP.step (pc2 := 38) (ls2 := [(0, .ref (103 + 2 * s)), (1, .int (nI i)), (2, .long v)]) (st2 := [.long v, .int (nI i), .ref (104 + 2 * s)]) (w3 := w) rfl rfl ?_
      refine sx_RP.xL (c := i) hI rfl (hI.1.aN (show s < 4 by omega)) (show i < 40 by omega) (by decide) (by omega) (show _ = 39 from rfl) (fun w3 hI4 hs5 hv6 => ?_)
      refine sx_RP.ret (r := none) rfl rfl ?_
      exact ⟨⟨rfl, by rw [hv6]; unfold ptF; rw [if_neg q1, if_neg q2]⟩, hI4, hs5⟩
    · replace q2 := Decidable.not_not.mp (of_decide_eq_false q2)
      refine sx_RP.step (pc2 := 31) (ls2 := [(0, .ref (103 + 2 * s)), (1, .int (nI i)), (2, .long v)]) (st2 := [.long v, .int (nI i), .ref (104 + 2 * s)]) (w3 := w) rfl rfl ?_
      refine sx_RP.step (pc2 := 32) (ls2 := [(0, .ref (103 + 2 * s)), (1, .int (nI i)), (2, .long v)]) (st2 := [.int v.toInt32, .int (nI i), .ref (104 + 2 * s)]) (w3 := w) rfl rfl ?_
      refine sx_RP.step (pc2 := 33) (ls2 := [(0, .ref (103 + 2 * s)), (1, .int (nI i)), (2, .long v)]) (st2 := [.int v.toInt32.toInt16.toInt32, .int (nI i), .ref (104 + 2 * s)]) (w3 := w) rfl rfl ?_
      refine sx_RP.step (pc2 := 34) (ls2 := [(0, .ref (103 + 2 * s)), (1, .int (nI i)), (2, .long v)]) (st2 := [.long v.toInt32.toInt16.toInt32.toInt64, .int (nI i), .ref (104 + 2 * s)]) (w3 := w) rfl rfl ?_
      refine sx_RP.step (pc2 := 38) (ls2 := [(0, .ref (103 + 2 * s)), (1, .int (nI i)), (2, .long v)]) (st2 := [.long v.toInt32.toInt16.toInt32.toInt64, .int (nI i), .ref (104 + 2 * s)]) (w3 := w) rfl rfl ?_
      refine sx_RP.xL (c := i) hI rfl (hI.1.aN (show s < 4 by omega)) (show i < 40 by omega) (by decide) (by omega) (show _ = 39 from rfl) (fun w7 hI8 hs9 hv10 => ?_)
      refine sx_RP.ret (r := none) rfl rfl ?_
      exact ⟨⟨rfl, by rw [hv10]; unfold ptF; rw [if_neg q1, if_pos q2]⟩, hI8, hs9⟩
  · replace q1 := Decidable.not_not.mp (of_decide_eq_false q1)
    refine sx_RP.step (pc2 := 15) (ls2 := [(0, .ref (103 + 2 * s)), (1, .int (nI i)), (2, .long v)]) (st2 := [.long v, .int (nI i), .ref (104 + 2 * s)]) (w3 := w) rfl rfl ?_
    refine sx_RP.step (pc2 := 16) (ls2 := [(0, .ref (103 + 2 * s)), (1, .int (nI i)), (2, .long v)]) (st2 := [.int v.toInt32, .int (nI i), .ref (104 + 2 * s)]) (w3 := w) rfl rfl ?_
    refine sx_RP.step (pc2 := 17) (ls2 := [(0, .ref (103 + 2 * s)), (1, .int (nI i)), (2, .long v)]) (st2 := [.int v.toInt32.toInt8.toInt32, .int (nI i), .ref (104 + 2 * s)]) (w3 := w) rfl rfl ?_
    refine sx_RP.step (pc2 := 18) (ls2 := [(0, .ref (103 + 2 * s)), (1, .int (nI i)), (2, .long v)]) (st2 := [.long v.toInt32.toInt8.toInt32.toInt64, .int (nI i), .ref (104 + 2 * s)]) (w3 := w) rfl rfl ?_
    refine sx_RP.step (pc2 := 38) (ls2 := [(0, .ref (103 + 2 * s)), (1, .int (nI i)), (2, .long v)]) (st2 := [.long v.toInt32.toInt8.toInt32.toInt64, .int (nI i), .ref (104 + 2 * s)]) (w3 := w) rfl rfl ?_
    refine sx_RP.xL (c := i) hI rfl (hI.1.aN (show s < 4 by omega)) (show i < 40 by omega) (by decide) (by omega) (show _ = 39 from rfl) (fun w11 hI12 hs13 hv14 => ?_)
    refine sx_RP.ret (r := none) rfl rfl ?_
    exact ⟨⟨rfl, by rw [hv14]; unfold ptF; rw [if_pos q1]⟩, hI12, hs13⟩
set_option maxRecDepth 20000 in
set_option maxHeartbeats 4000000 in
theorem X233 {xs : Option (List Int32)} {d : Nat} {w : List sx_C} (hI : WI w) {s i : Nat} (hs : s < 4) (hi : i < 40) (v : Int64) : sx_RP xs d 233 0 (lv_args 0 [.ref 111, .int (nI s), .int (nI i), .long v]) [] w (fun r w2 => (r = none ∧ ja w2 124 = (ja w 124).set (40 * s + i) (ptF ((ia w 122).getD s 0) v)) ∧ WI w2 ∧ Same (124) w w2) := by
  refine sx_RP.step (pc2 := 1) (ls2 := [(0, .ref 111), (1, .int (nI s)), (2, .int (nI i)), (3, .long v)]) (st2 := [.ref 111]) (w3 := w) rfl rfl ?_
  refine sx_RP.gf (v := .ref 124) rfl rfl hI.1.o111 rfl rfl (show _ = 4 from rfl) ?_
  refine sx_RP.step (pc2 := 6) (ls2 := [(0, .ref 111), (1, .int (nI s)), (2, .int (nI i)), (3, .long v)]) (st2 := [.int 40, .ref 124]) (w3 := w) rfl rfl ?_
  refine sx_RP.step (pc2 := 7) (ls2 := [(0, .ref 111), (1, .int (nI s)), (2, .int (nI i)), (3, .long v)]) (st2 := [.int (nI s), .int 40, .ref 124]) (w3 := w) rfl rfl ?_
  refine sx_RP.step (pc2 := 8) (ls2 := [(0, .ref 111), (1, .int (nI s)), (2, .int (nI i)), (3, .long v)]) (st2 := [.int (40 * (nI s)), .ref 124]) (w3 := w) rfl rfl ?_
  rw [show (40 * (nI s) : Int32) = nI (40 * s) from nI_mul 40 s]
  refine sx_RP.step (pc2 := 9) (ls2 := [(0, .ref 111), (1, .int (nI s)), (2, .int (nI i)), (3, .long v)]) (st2 := [.int (nI i), .int (nI (40 * s)), .ref 124]) (w3 := w) rfl rfl ?_
  refine sx_RP.step (pc2 := 10) (ls2 := [(0, .ref 111), (1, .int (nI s)), (2, .int (nI i)), (3, .long v)]) (st2 := [.int ((nI (40 * s)) + (nI i)), .ref 124]) (w3 := w) rfl rfl ?_
  rw [show ((nI (40 * s)) + (nI i) : Int32) = nI ((40 * s) + i) from nI_add (40 * s) i]
  refine sx_RP.step (pc2 := 11) (ls2 := [(0, .ref 111), (1, .int (nI s)), (2, .int (nI i)), (3, .long v)]) (st2 := [.ref 111, .int (nI ((40 * s) + i)), .ref 124]) (w3 := w) rfl rfl ?_
  refine sx_RP.gf (v := .ref 122) rfl rfl hI.1.o111 rfl rfl (show _ = 14 from rfl) ?_
  refine sx_RP.step (pc2 := 15) (ls2 := [(0, .ref 111), (1, .int (nI s)), (2, .int (nI i)), (3, .long v)]) (st2 := [.int (nI s), .ref 122, .int (nI ((40 * s) + i)), .ref 124]) (w3 := w) rfl rfl ?_
  refine sx_RP.ild (c := s) rfl hI.1.a122.1 hI.1.a122.2 (sx_in_nI (show s < 4 by omega) (by decide)) (show (nI s).toNatClampNeg = s from nI_clamp (by omega)) (show _ = 16 from rfl) ?_
  refine sx_RP.step (pc2 := 18) (ls2 := [(0, .ref 111), (1, .int (nI s)), (2, .int (nI i)), (3, .long v)]) (st2 := [.int 8, .int ((ia w 122).getD s 0), .int (nI ((40 * s) + i)), .ref 124]) (w3 := w) rfl rfl ?_
  refine sx_RP.br (p1 := 28) (l1 := [(0, .ref 111), (1, .int (nI s)), (2, .int (nI i)), (3, .long v)]) (s1 := [.int (nI ((40 * s) + i)), .ref 124]) (v1 := w) (p2 := 21) (l2 := [(0, .ref 111), (1, .int (nI s)), (2, .int (nI i)), (3, .long v)]) (s2 := [.int (nI ((40 * s) + i)), .ref 124]) (v2 := w) rfl rfl (fun q1 => ?_) (fun q1 => ?_)
  · replace q1 := of_decide_eq_true q1
    refine sx_RP.step (pc2 := 29) (ls2 := [(0, .ref 111), (1, .int (nI s)), (2, .int (nI i)), (3, .long v)]) (st2 := [.ref 111, .int (nI ((40 * s) + i)), .ref 124]) (w3 := w) rfl rfl ?_
    refine sx_RP.gf (v := .ref 122) rfl rfl hI.1.o111 rfl rfl (show _ = 32 from rfl) ?_
    refine sx_RP.step (pc2 := 33) (ls2 := [(0, .ref 111), (1, .int (nI s)), (2, .int (nI i)), (3, .long v)]) (st2 := [.int (nI s), .ref 122, .int (nI ((40 * s) + i)), .ref 124]) (w3 := w) rfl rfl ?_
    refine sx_RP.ild (c := s) rfl hI.1.a122.1 hI.1.a122.2 (sx_in_nI (show s < 4 by omega) (by decide)) (show (nI s).toNatClampNeg = s from nI_clamp (by omega)) (show _ = 34 from rfl) ?_
    refine sx_RP.step (pc2 := 36) (ls2 := [(0, .ref 111), (1, .int (nI s)), (2, .int (nI i)), (3, .long v)]) (st2 := [.int 16, .int ((ia w 122).getD s 0), .int (nI ((40 * s) + i)), .ref 124]) (w3 := w) rfl rfl ?_
    refine sx_RP.br (p1 := 46) (l1 := [(0, .ref 111), (1, .int (nI s)), (2, .int (nI i)), (3, .long v)]) (s1 := [.int (nI ((40 * s) + i)), .ref 124]) (v1 := w) (p2 := 39) (l2 := [(0, .ref 111), (1, .int (nI s)), (2, .int (nI i)), (3, .long v)]) (s2 := [.int (nI ((40 * s) + i)), .ref 124]) (v2 := w) rfl rfl (fun q2 => ?_) (fun q2 => ?_)
    · replace q2 := of_decide_eq_true q2
      refine sx_RP.step (pc2 := 47) (ls2 := [(0, .ref 111), (1, .int (nI s)), (2, .int (nI i)), (3, .long v)]) (st2 := [.long v, .int (nI ((40 * s) + i)), .ref 124]) (w3 := w) rfl rfl ?_
      refine sx_RP.xL (c := ((40 * s) + i)) hI rfl hI.1.a124 (show ((40 * s) + i) < 160 by omega) (by decide) (by omega) (show _ = 48 from rfl) (fun w3 hI4 hs5 hv6 => ?_)
      refine sx_RP.ret (r := none) rfl rfl ?_
      exact ⟨⟨rfl, by rw [hv6]; unfold ptF; rw [if_neg q1, if_neg q2]⟩, hI4, hs5⟩
    · replace q2 := Decidable.not_not.mp (of_decide_eq_false q2)
      refine sx_RP.step (pc2 := 40) (ls2 := [(0, .ref 111), (1, .int (nI s)), (2, .int (nI i)), (3, .long v)]) (st2 := [.long v, .int (nI ((40 * s) + i)), .ref 124]) (w3 := w) rfl rfl ?_
      refine sx_RP.step (pc2 := 41) (ls2 := [(0, .ref 111), (1, .int (nI s)), (2, .int (nI i)), (3, .long v)]) (st2 := [.int v.toInt32, .int (nI ((40 * s) + i)), .ref 124]) (w3 := w) rfl rfl ?_
      refine sx_RP.step (pc2 := 42) (ls2 := [(0, .ref 111), (1, .int (nI s)), (2, .int (nI i)), (3, .long v)]) (st2 := [.int v.toInt32.toInt16.toInt32, .int (nI ((40 * s) + i)), .ref 124]) (w3 := w) rfl rfl ?_
      refine sx_RP.step (pc2 := 43) (ls2 := [(0, .ref 111), (1, .int (nI s)), (2, .int (nI i)), (3, .long v)]) (st2 := [.long v.toInt32.toInt16.toInt32.toInt64, .int (nI ((40 * s) + i)), .ref 124]) (w3 := w) rfl rfl ?_
      refine sx_RP.step (pc2 := 47) (ls2 := [(0, .ref 111), (1, .int (nI s)), (2, .int (nI i)), (3, .long v)]) (st2 := [.long v.toInt32.toInt16.toInt32.toInt64, .int (nI ((40 * s) + i)), .ref 124]) (w3 := w) rfl rfl ?_
      refine sx_RP.xL (c := ((40 * s) + i)) hI rfl hI.1.a124 (show ((40 * s) + i) < 160 by omega) (by decide) (by omega) (show _ = 48 from rfl) (fun w7 hI8 hs9 hv10 => ?_)
      refine sx_RP.ret (r := none) rfl rfl ?_
      exact ⟨⟨rfl, by rw [hv10]; unfold ptF; rw [if_neg q1, if_pos q2]⟩, hI8, hs9⟩
  · replace q1 := Decidable.not_not.mp (of_decide_eq_false q1)
    refine sx_RP.step (pc2 := 22) (ls2 := [(0, .ref 111), (1, .int (nI s)), (2, .int (nI i)), (3, .long v)]) (st2 := [.long v, .int (nI ((40 * s) + i)), .ref 124]) (w3 := w) rfl rfl ?_
    refine sx_RP.step (pc2 := 23) (ls2 := [(0, .ref 111), (1, .int (nI s)), (2, .int (nI i)), (3, .long v)]) (st2 := [.int v.toInt32, .int (nI ((40 * s) + i)), .ref 124]) (w3 := w) rfl rfl ?_
    refine sx_RP.step (pc2 := 24) (ls2 := [(0, .ref 111), (1, .int (nI s)), (2, .int (nI i)), (3, .long v)]) (st2 := [.int v.toInt32.toInt8.toInt32, .int (nI ((40 * s) + i)), .ref 124]) (w3 := w) rfl rfl ?_
    refine sx_RP.step (pc2 := 25) (ls2 := [(0, .ref 111), (1, .int (nI s)), (2, .int (nI i)), (3, .long v)]) (st2 := [.long v.toInt32.toInt8.toInt32.toInt64, .int (nI ((40 * s) + i)), .ref 124]) (w3 := w) rfl rfl ?_
    refine sx_RP.step (pc2 := 47) (ls2 := [(0, .ref 111), (1, .int (nI s)), (2, .int (nI i)), (3, .long v)]) (st2 := [.long v.toInt32.toInt8.toInt32.toInt64, .int (nI ((40 * s) + i)), .ref 124]) (w3 := w) rfl rfl ?_
    refine sx_RP.xL (c := ((40 * s) + i)) hI rfl hI.1.a124 (show ((40 * s) + i) < 160 by omega) (by decide) (by omega) (show _ = 48 from rfl) (fun w11 hI12 hs13 hv14 => ?_)
    refine sx_RP.ret (r := none) rfl rfl ?_
    exact ⟨⟨rfl, by rw [hv14]; unfold ptF; rw [if_pos q1]⟩, hI12, hs13⟩
set_option maxRecDepth 20000 in
set_option maxHeartbeats 4000000 in
theorem Z115 {xs : Option (List Int32)} {d : Nat} {w : List sx_C} (hI : WI w) (a1 a2 : Int32) (v : Int64) : sx_RP xs (d + 7) 115 0 (lv_args 0 [.ref 0, .int a1, .int a2, .long v]) [] w (fun r w2 => (r = some (.long (wrA (FCs w) (NCs w) a1 a2)) ∧ NCs w2 = wrR (FCs w) (NCs w) a1 a2 v ∧ FCs w2 = FCs w) ∧ WI w2 ∧ ∀ a, a ≠ 99 → (a < 104 ∨ 111 ≤ a) → w2[a]? = w[a]?) := by
  refine sx_RP.step (pc2 := 1) (ls2 := [(0, .ref 0), (1, .int a1), (2, .int a2), (3, .long v)]) (st2 := [.int a1]) (w3 := w) rfl rfl ?_
  rcases in_cases a1 0 3 (m := 0) (n := 3) rfl rfl (by decide) (by decide) with q1 | ⟨x2, hx3, hx4, rfl⟩
  · refine sx_RP.cu (as := [.int a1]) (rest2 := []) (st3 := [.int 0]) rfl rfl rfl rfl rfl (cx_112n q1) rfl ?_
    refine sx_RP.step (pc2 := 7) (ls2 := [(0, .ref 0), (1, .int a1), (2, .int a2), (3, .long v)]) (st2 := []) (w3 := w) rfl rfl ?_
    refine sx_RP.step (pc2 := 8) (ls2 := [(0, .ref 0), (1, .int a1), (2, .int a2), (3, .long v)]) (st2 := [.ref 0]) (w3 := w) rfl rfl ?_
    refine sx_RP.step (pc2 := 10) (ls2 := [(0, .ref 0), (1, .int a1), (2, .int a2), (3, .long v)]) (st2 := [.int (-1000000001), .ref 0]) (w3 := w) rfl rfl ?_
    refine sx_RP.callp (as2 := [.ref 0, .int (-1000000001)]) (rest2 := []) rfl rfl (sx_inv_v2 (mi := 115) (k := 78) (st := [.int (-1000000001), .ref 0]) (w := w) rfl rfl hI.1.o0 rfl rfl rfl) rfl rfl rfl (S9_0 hI) (show _ = 13 from rfl) ?_
    rintro r4 w7 ⟨rfl, hI8, hs6⟩
    show sx_RP _ _ _ _ _ [.int (-1000000001)] _ _
    refine sx_RP.step (pc2 := 14) (ls2 := [(0, .ref 0), (1, .int a1), (2, .int a2), (3, .long v)]) (st2 := [.long (-1000000001)]) (w3 := w7) rfl rfl ?_
    refine sx_RP.ret (r := (some (.long (-1000000001)))) rfl rfl ?_
    exact ⟨⟨by rw [(wr_1 (F := FCs w) (N := NCs w) (v := v) q1).1], by rw [(wr_1 (F := FCs w) (N := NCs w) (v := v) q1).2]; exact NCs_eq (fun q hq => hs6 _ (by omega)), FCs_eq (fun q hq => hs6 _ (by omega))⟩, hI8, fun a h1 h2 => hs6 a h1⟩
  · refine sx_RP.cu (as := [.int (nI x2)]) (rest2 := []) (st3 := [.int 1]) rfl rfl rfl rfl rfl (cx_112p ⟨nI_le (a := 0) hx3 (by omega), nI_le (b := 3) hx4 (by decide)⟩) rfl ?_
    refine sx_RP.step (pc2 := 15) (ls2 := [(0, .ref 0), (1, .int (nI x2)), (2, .int a2), (3, .long v)]) (st2 := []) (w3 := w) rfl rfl ?_
    refine sx_RP.step (pc2 := 16) (ls2 := [(0, .ref 0), (1, .int (nI x2)), (2, .int a2), (3, .long v)]) (st2 := [.ref 0]) (w3 := w) rfl rfl ?_
    refine sx_RP.gf (v := .ref 98) rfl rfl hI.1.o0 rfl rfl (show _ = 19 from rfl) ?_
    refine sx_RP.step (pc2 := 20) (ls2 := [(0, .ref 0), (1, .int (nI x2)), (2, .int a2), (3, .long v)]) (st2 := [.int (nI x2), .ref 98]) (w3 := w) rfl rfl ?_
    refine sx_RP.ald (v := .ref (103 + 2 * x2)) rfl hI.1.a98 rfl (shA_at (show x2 < 4 by omega)) (show _ = 21 from rfl) ?_
    refine sx_RP.step (pc2 := 23) (ls2 := [(5, .ref (103 + 2 * x2)), (0, .ref 0), (1, .int (nI x2)), (2, .int a2), (3, .long v)]) (st2 := []) (w3 := w) rfl rfl ?_
    refine sx_RP.step (pc2 := 25) (ls2 := [(5, .ref (103 + 2 * x2)), (0, .ref 0), (1, .int (nI x2)), (2, .int a2), (3, .long v)]) (st2 := [.ref (103 + 2 * x2)]) (w3 := w) rfl rfl ?_
    rcases Decidable.em (fi w (103 + 2 * x2) 1 = 0) with c9 | c9
    · refine sx_RP.cu (as := [.ref (103 + 2 * x2)]) (rest2 := []) (st3 := [.int 1]) rfl rfl (sx_inv_v2 (mi := 115) (k := 310) (st := [.ref (103 + 2 * x2)]) (w := w) rfl rfl (hI.1.oS (show x2 < 4 by omega)) rfl rfl rfl) rfl rfl (p116y hI (show x2 < 4 by omega) c9) rfl ?_
      refine sx_RP.step (pc2 := 31) (ls2 := [(5, .ref (103 + 2 * x2)), (0, .ref 0), (1, .int (nI x2)), (2, .int a2), (3, .long v)]) (st2 := []) (w3 := w) rfl rfl ?_
      refine sx_RP.step (pc2 := 32) (ls2 := [(5, .ref (103 + 2 * x2)), (0, .ref 0), (1, .int (nI x2)), (2, .int a2), (3, .long v)]) (st2 := [.ref 0]) (w3 := w) rfl rfl ?_
      refine sx_RP.step (pc2 := 35) (ls2 := [(5, .ref (103 + 2 * x2)), (0, .ref 0), (1, .int (nI x2)), (2, .int a2), (3, .long v)]) (st2 := [.int (-1000000006), .ref 0]) (w3 := w) rfl rfl ?_
      refine sx_RP.callp (as2 := [.ref 0, .int (-1000000006)]) (rest2 := []) rfl rfl (sx_inv_v2 (mi := 115) (k := 78) (st := [.int (-1000000006), .ref 0]) (w := w) rfl rfl hI.1.o0 rfl rfl rfl) rfl rfl rfl (S9_5 hI) (show _ = 38 from rfl) ?_
      rintro r4 w11 ⟨rfl, hI12, hs10⟩
      show sx_RP _ _ _ _ _ [.int (-1000000006)] _ _
      refine sx_RP.step (pc2 := 39) (ls2 := [(5, .ref (103 + 2 * x2)), (0, .ref 0), (1, .int (nI x2)), (2, .int a2), (3, .long v)]) (st2 := [.long (-1000000006)]) (w3 := w11) rfl rfl ?_
      refine sx_RP.ret (r := (some (.long (-1000000006)))) rfl rfl ?_
      exact ⟨⟨by rw [(wr_2 (F := FCs w) (N := NCs w) (v := v) (show x2 < 4 by omega) (FCs_at (by omega)) c9).1], by rw [(wr_2 (F := FCs w) (N := NCs w) (v := v) (show x2 < 4 by omega) (FCs_at (by omega)) c9).2]; exact NCs_eq (fun q hq => hs10 _ (by omega)), FCs_eq (fun q hq => hs10 _ (by omega))⟩, hI12, fun a h1 h2 => hs10 a h1⟩
    · refine sx_RP.cu (as := [.ref (103 + 2 * x2)]) (rest2 := []) (st3 := [.int 0]) rfl rfl (sx_inv_v2 (mi := 115) (k := 310) (st := [.ref (103 + 2 * x2)]) (w := w) rfl rfl (hI.1.oS (show x2 < 4 by omega)) rfl rfl rfl) rfl rfl (p116n hI (show x2 < 4 by omega) c9) rfl ?_
      refine sx_RP.step (pc2 := 40) (ls2 := [(5, .ref (103 + 2 * x2)), (0, .ref 0), (1, .int (nI x2)), (2, .int a2), (3, .long v)]) (st2 := []) (w3 := w) rfl rfl ?_
      refine sx_RP.step (pc2 := 41) (ls2 := [(5, .ref (103 + 2 * x2)), (0, .ref 0), (1, .int (nI x2)), (2, .int a2), (3, .long v)]) (st2 := [.int a2]) (w3 := w) rfl rfl ?_
      refine sx_RP.step (pc2 := 42) (ls2 := [(5, .ref (103 + 2 * x2)), (0, .ref 0), (1, .int (nI x2)), (2, .int a2), (3, .long v)]) (st2 := [.int 0, .int a2]) (w3 := w) rfl rfl ?_
      refine sx_RP.step (pc2 := 44) (ls2 := [(5, .ref (103 + 2 * x2)), (0, .ref 0), (1, .int (nI x2)), (2, .int a2), (3, .long v)]) (st2 := [.ref (103 + 2 * x2), .int 0, .int a2]) (w3 := w) rfl rfl ?_
      refine sx_RP.gf (v := .int (fi w (103 + 2 * x2) 2)) rfl rfl (hI.1.oS (show x2 < 4 by omega)) rfl rfl (show _ = 47 from rfl) ?_
      obtain ⟨x13, hx14, ex15⟩ : inR (fi w (103 + 2 * x2) 2) 40 := hI.sh (show x2 < 4 by omega)
      rw [ex15]
      refine sx_RP.step (pc2 := 48) (ls2 := [(5, .ref (103 + 2 * x2)), (0, .ref 0), (1, .int (nI x2)), (2, .int a2), (3, .long v)]) (st2 := [.int 1, .int (nI x13), .int 0, .int a2]) (w3 := w) rfl rfl ?_
      refine sx_RP.step (pc2 := 49) (ls2 := [(5, .ref (103 + 2 * x2)), (0, .ref 0), (1, .int (nI x2)), (2, .int a2), (3, .long v)]) (st2 := [.int ((nI x13) - 1), .int 0, .int a2]) (w3 := w) rfl rfl ?_
      rcases Decidable.em (0 ≤ a2 ∧ a2 < nI x13) with c16 | c16
      · obtain ⟨x17, hx18, rfl⟩ := idx_getz c16 (by omega)
        refine sx_RP.cu (as := [.int (nI x17), .int 0, .int ((nI x13) - 1)]) (rest2 := []) (st3 := [.int 1]) rfl rfl rfl rfl rfl (cx_8p ((in_ltz (by omega)).mpr c16)) rfl ?_
        refine sx_RP.step (pc2 := 63) (ls2 := [(5, .ref (103 + 2 * x2)), (0, .ref 0), (1, .int (nI x2)), (2, .int (nI x17)), (3, .long v)]) (st2 := []) (w3 := w) rfl rfl ?_
        refine sx_RP.step (pc2 := 65) (ls2 := [(5, .ref (103 + 2 * x2)), (0, .ref 0), (1, .int (nI x2)), (2, .int (nI x17)), (3, .long v)]) (st2 := [.ref (103 + 2 * x2)]) (w3 := w) rfl rfl ?_
        refine sx_RP.gf (v := .ref (104 + 2 * x2)) rfl rfl (hI.1.oS (show x2 < 4 by omega)) rfl rfl (show _ = 68 from rfl) ?_
        refine sx_RP.step (pc2 := 69) (ls2 := [(5, .ref (103 + 2 * x2)), (0, .ref 0), (1, .int (nI x2)), (2, .int (nI x17)), (3, .long v)]) (st2 := [.int (nI x17), .ref (104 + 2 * x2)]) (w3 := w) rfl rfl ?_
        refine sx_RP.lld (c := x17) rfl (hI.1.aN (show x2 < 4 by omega)).1 (hI.1.aN (show x2 < 4 by omega)).2 (sx_in_nI (show x17 < 40 by omega) (by decide)) (show (nI x17).toNatClampNeg = x17 from nI_clamp (by omega)) (show _ = 70 from rfl) ?_
        refine sx_RP.step (pc2 := 72) (ls2 := [(6, .long ((ja w (104 + 2 * x2)).getD x17 0)), (5, .ref (103 + 2 * x2)), (0, .ref 0), (1, .int (nI x2)), (2, .int (nI x17)), (3, .long v)]) (st2 := []) (w3 := w) rfl rfl ?_
        refine sx_RP.step (pc2 := 74) (ls2 := [(6, .long ((ja w (104 + 2 * x2)).getD x17 0)), (5, .ref (103 + 2 * x2)), (0, .ref 0), (1, .int (nI x2)), (2, .int (nI x17)), (3, .long v)]) (st2 := [.ref (103 + 2 * x2)]) (w3 := w) rfl rfl ?_
        refine sx_RP.step (pc2 := 75) (ls2 := [(6, .long ((ja w (104 + 2 * x2)).getD x17 0)), (5, .ref (103 + 2 * x2)), (0, .ref 0), (1, .int (nI x2)), (2, .int (nI x17)), (3, .long v)]) (st2 := [.int (nI x17), .ref (103 + 2 * x2)]) (w3 := w) rfl rfl ?_
        refine sx_RP.step (pc2 := 76) (ls2 := [(6, .long ((ja w (104 + 2 * x2)).getD x17 0)), (5, .ref (103 + 2 * x2)), (0, .ref 0), (1, .int (nI x2)), (2, .int (nI x17)), (3, .long v)]) (st2 := [.long v, .int (nI x17), .ref (103 + 2 * x2)]) (w3 := w) rfl rfl ?_
        refine sx_RP.callp (as2 := [.ref (103 + 2 * x2), .int (nI x17), .long v]) (rest2 := []) rfl rfl (sx_inv_v2 (mi := 115) (k := 318) (st := [.long v, .int (nI x17), .ref (103 + 2 * x2)]) (w := w) rfl rfl (hI.1.oS (show x2 < 4 by omega)) rfl rfl rfl) rfl rfl rfl (X117 hI (show x2 < 4 by omega) (show x17 < 40 by omega) v) (show _ = 79 from rfl) ?_
        rintro r4 w21 ⟨⟨rfl, hv19⟩, hI22, hs20⟩
        show sx_RP _ _ _ _ _ [] _ _
        refine sx_RP.step (pc2 := 81) (ls2 := [(6, .long ((ja w (104 + 2 * x2)).getD x17 0)), (5, .ref (103 + 2 * x2)), (0, .ref 0), (1, .int (nI x2)), (2, .int (nI x17)), (3, .long v)]) (st2 := [.long ((ja w (104 + 2 * x2)).getD x17 0)]) (w3 := w21) rfl rfl ?_
        refine sx_RP.ret (r := (some (.long ((ja w (104 + 2 * x2)).getD x17 0)))) rfl rfl ?_
        exact ⟨⟨by rw [(wr_4 (F := FCs w) (N := NCs w) (v := v) (show x2 < 4 by omega) ((FCs_at (by omega)).trans (by rw [ex15])) c9 (show x17 < 40 by omega) c16).1, NCs_at (by omega) (by omega)], by rw [(wr_4 (F := FCs w) (N := NCs w) (v := v) (show x2 < 4 by omega) ((FCs_at (by omega)).trans (by rw [ex15])) c9 (show x17 < 40 by omega) c16).2]; exact NCs_wr hI (by omega) (by omega) hs20 hv19, FCs_eq (fun q hq => hs20 _ (by omega))⟩, hI22, fun a h1 h2 => hs20 a (by omega)⟩
      · refine sx_RP.cu (as := [.int a2, .int 0, .int ((nI x13) - 1)]) (rest2 := []) (st3 := [.int 0]) rfl rfl rfl rfl rfl (cx_8n (fun q => c16 ((in_ltz (by omega)).mp q))) rfl ?_
        refine sx_RP.step (pc2 := 55) (ls2 := [(5, .ref (103 + 2 * x2)), (0, .ref 0), (1, .int (nI x2)), (2, .int a2), (3, .long v)]) (st2 := []) (w3 := w) rfl rfl ?_
        refine sx_RP.step (pc2 := 56) (ls2 := [(5, .ref (103 + 2 * x2)), (0, .ref 0), (1, .int (nI x2)), (2, .int a2), (3, .long v)]) (st2 := [.ref 0]) (w3 := w) rfl rfl ?_
        refine sx_RP.step (pc2 := 58) (ls2 := [(5, .ref (103 + 2 * x2)), (0, .ref 0), (1, .int (nI x2)), (2, .int a2), (3, .long v)]) (st2 := [.int (-1000000001), .ref 0]) (w3 := w) rfl rfl ?_
        refine sx_RP.callp (as2 := [.ref 0, .int (-1000000001)]) (rest2 := []) rfl rfl (sx_inv_v2 (mi := 115) (k := 78) (st := [.int (-1000000001), .ref 0]) (w := w) rfl rfl hI.1.o0 rfl rfl rfl) rfl rfl rfl (S9_0 hI) (show _ = 61 from rfl) ?_
        rintro r4 w24 ⟨rfl, hI25, hs23⟩
        show sx_RP _ _ _ _ _ [.int (-1000000001)] _ _
        refine sx_RP.step (pc2 := 62) (ls2 := [(5, .ref (103 + 2 * x2)), (0, .ref 0), (1, .int (nI x2)), (2, .int a2), (3, .long v)]) (st2 := [.long (-1000000001)]) (w3 := w24) rfl rfl ?_
        refine sx_RP.ret (r := (some (.long (-1000000001)))) rfl rfl ?_
        exact ⟨⟨by rw [(wr_3 (F := FCs w) (N := NCs w) (v := v) (show x2 < 4 by omega) ((FCs_at (by omega)).trans (by rw [ex15])) c9 c16).1], by rw [(wr_3 (F := FCs w) (N := NCs w) (v := v) (show x2 < 4 by omega) ((FCs_at (by omega)).trans (by rw [ex15])) c9 c16).2]; exact NCs_eq (fun q hq => hs23 _ (by omega)), FCs_eq (fun q hq => hs23 _ (by omega))⟩, hI25, fun a h1 h2 => hs23 a h1⟩
set_option maxRecDepth 20000 in
set_option maxHeartbeats 4000000 in
theorem Y232 {xs : Option (List Int32)} {d : Nat} {w : List sx_C} (hI : WI w) (a1 a2 : Int32) (v : Int64) : sx_RP xs (d + 7) 232 0 (lv_args 0 [.ref 111, .int a1, .int a2, .long v]) [] w (fun r w2 => (r = some (.long (wrA (FMs w) (NMs w) a1 a2)) ∧ NMs w2 = wrR (FMs w) (NMs w) a1 a2 v ∧ FMs w2 = FMs w) ∧ WI w2 ∧ ∀ a, a ≠ 116 → a ≠ 124 → w2[a]? = w[a]?) := by
  refine sx_RP.step (pc2 := 1) (ls2 := [(0, .ref 111), (1, .int a1), (2, .int a2), (3, .long v)]) (st2 := [.int a1]) (w3 := w) rfl rfl ?_
  rcases in_cases a1 0 3 (m := 0) (n := 3) rfl rfl (by decide) (by decide) with q1 | ⟨x2, hx3, hx4, rfl⟩
  · refine sx_RP.cu (as := [.int a1]) (rest2 := []) (st3 := [.int 0]) rfl rfl rfl rfl rfl (cx_231n q1) rfl ?_
    refine sx_RP.step (pc2 := 7) (ls2 := [(0, .ref 111), (1, .int a1), (2, .int a2), (3, .long v)]) (st2 := []) (w3 := w) rfl rfl ?_
    refine sx_RP.step (pc2 := 8) (ls2 := [(0, .ref 111), (1, .int a1), (2, .int a2), (3, .long v)]) (st2 := [.ref 111]) (w3 := w) rfl rfl ?_
    refine sx_RP.step (pc2 := 9) (ls2 := [(0, .ref 111), (1, .int a1), (2, .int a2), (3, .long v)]) (st2 := [.int 0, .ref 111]) (w3 := w) rfl rfl ?_
    refine sx_RP.callp (as2 := [.ref 111, .int 0]) (rest2 := []) rfl rfl (sx_inv_v2 (mi := 232) (k := 70) (st := [.int 0, .ref 111]) (w := w) rfl rfl hI.1.o111 rfl rfl rfl) rfl rfl rfl (S133_0 hI) (show _ = 12 from rfl) ?_
    rintro r4 w7 ⟨rfl, hI8, hs6⟩
    show sx_RP _ _ _ _ _ [.int (-1000000001)] _ _
    refine sx_RP.step (pc2 := 13) (ls2 := [(0, .ref 111), (1, .int a1), (2, .int a2), (3, .long v)]) (st2 := [.long (-1000000001)]) (w3 := w7) rfl rfl ?_
    refine sx_RP.ret (r := (some (.long (-1000000001)))) rfl rfl ?_
    exact ⟨⟨by rw [(wr_1 (F := FMs w) (N := NMs w) (v := v) q1).1], by rw [(wr_1 (F := FMs w) (N := NMs w) (v := v) q1).2]; exact NMs_eq (hs6 124 (by decide)), FMs_eq (hs6 122 (by decide)) (hs6 123 (by decide))⟩, hI8, fun a h1 h2 => hs6 a h1⟩
  · refine sx_RP.cu (as := [.int (nI x2)]) (rest2 := []) (st3 := [.int 1]) rfl rfl rfl rfl rfl (cx_231p ⟨nI_le (a := 0) hx3 (by omega), nI_le (b := 3) hx4 (by decide)⟩) rfl ?_
    refine sx_RP.step (pc2 := 14) (ls2 := [(0, .ref 111), (1, .int (nI x2)), (2, .int a2), (3, .long v)]) (st2 := []) (w3 := w) rfl rfl ?_
    refine sx_RP.step (pc2 := 15) (ls2 := [(0, .ref 111), (1, .int (nI x2)), (2, .int a2), (3, .long v)]) (st2 := [.ref 111]) (w3 := w) rfl rfl ?_
    refine sx_RP.gf (v := .ref 122) rfl rfl hI.1.o111 rfl rfl (show _ = 18 from rfl) ?_
    refine sx_RP.step (pc2 := 19) (ls2 := [(0, .ref 111), (1, .int (nI x2)), (2, .int a2), (3, .long v)]) (st2 := [.int (nI x2), .ref 122]) (w3 := w) rfl rfl ?_
    refine sx_RP.ild (c := x2) rfl hI.1.a122.1 hI.1.a122.2 (sx_in_nI (show x2 < 4 by omega) (by decide)) (show (nI x2).toNatClampNeg = x2 from nI_clamp (by omega)) (show _ = 20 from rfl) ?_
    refine sx_RP.br (p1 := 30) (l1 := [(0, .ref 111), (1, .int (nI x2)), (2, .int a2), (3, .long v)]) (s1 := []) (v1 := w) (p2 := 23) (l2 := [(0, .ref 111), (1, .int (nI x2)), (2, .int a2), (3, .long v)]) (s2 := []) (v2 := w) rfl rfl (fun q9 => ?_) (fun q9 => ?_)
    · replace q9 := of_decide_eq_true q9
      refine sx_RP.step (pc2 := 31) (ls2 := [(0, .ref 111), (1, .int (nI x2)), (2, .int a2), (3, .long v)]) (st2 := [.int a2]) (w3 := w) rfl rfl ?_
      refine sx_RP.step (pc2 := 32) (ls2 := [(0, .ref 111), (1, .int (nI x2)), (2, .int a2), (3, .long v)]) (st2 := [.int 0, .int a2]) (w3 := w) rfl rfl ?_
      refine sx_RP.step (pc2 := 33) (ls2 := [(0, .ref 111), (1, .int (nI x2)), (2, .int a2), (3, .long v)]) (st2 := [.ref 111, .int 0, .int a2]) (w3 := w) rfl rfl ?_
      refine sx_RP.gf (v := .ref 123) rfl rfl hI.1.o111 rfl rfl (show _ = 36 from rfl) ?_
      refine sx_RP.step (pc2 := 37) (ls2 := [(0, .ref 111), (1, .int (nI x2)), (2, .int a2), (3, .long v)]) (st2 := [.int (nI x2), .ref 123, .int 0, .int a2]) (w3 := w) rfl rfl ?_
      refine sx_RP.ild (c := x2) rfl hI.1.a123.1 hI.1.a123.2 (sx_in_nI (show x2 < 4 by omega) (by decide)) (show (nI x2).toNatClampNeg = x2 from nI_clamp (by omega)) (show _ = 38 from rfl) ?_
      obtain ⟨x10, hx11, ex12⟩ : inR ((ia w 123).getD x2 0) 40 := hI.l (show x2 < 4 by omega)
      rw [ex12]
      refine sx_RP.step (pc2 := 39) (ls2 := [(0, .ref 111), (1, .int (nI x2)), (2, .int a2), (3, .long v)]) (st2 := [.int 1, .int (nI x10), .int 0, .int a2]) (w3 := w) rfl rfl ?_
      refine sx_RP.step (pc2 := 40) (ls2 := [(0, .ref 111), (1, .int (nI x2)), (2, .int a2), (3, .long v)]) (st2 := [.int ((nI x10) - 1), .int 0, .int a2]) (w3 := w) rfl rfl ?_
      rcases Decidable.em (0 ≤ a2 ∧ a2 < nI x10) with c13 | c13
      · obtain ⟨x14, hx15, rfl⟩ := idx_getz c13 (by omega)
        refine sx_RP.cu (as := [.int (nI x14), .int 0, .int ((nI x10) - 1)]) (rest2 := []) (st3 := [.int 1]) rfl rfl rfl rfl rfl (cx_132p ((in_ltz (by omega)).mpr c13)) rfl ?_
        refine sx_RP.step (pc2 := 53) (ls2 := [(0, .ref 111), (1, .int (nI x2)), (2, .int (nI x14)), (3, .long v)]) (st2 := []) (w3 := w) rfl rfl ?_
        refine sx_RP.step (pc2 := 54) (ls2 := [(0, .ref 111), (1, .int (nI x2)), (2, .int (nI x14)), (3, .long v)]) (st2 := [.ref 111]) (w3 := w) rfl rfl ?_
        refine sx_RP.gf (v := .ref 124) rfl rfl hI.1.o111 rfl rfl (show _ = 57 from rfl) ?_
        refine sx_RP.step (pc2 := 59) (ls2 := [(0, .ref 111), (1, .int (nI x2)), (2, .int (nI x14)), (3, .long v)]) (st2 := [.int 40, .ref 124]) (w3 := w) rfl rfl ?_
        refine sx_RP.step (pc2 := 60) (ls2 := [(0, .ref 111), (1, .int (nI x2)), (2, .int (nI x14)), (3, .long v)]) (st2 := [.int (nI x2), .int 40, .ref 124]) (w3 := w) rfl rfl ?_
        refine sx_RP.step (pc2 := 61) (ls2 := [(0, .ref 111), (1, .int (nI x2)), (2, .int (nI x14)), (3, .long v)]) (st2 := [.int (40 * (nI x2)), .ref 124]) (w3 := w) rfl rfl ?_
        rw [show (40 * (nI x2) : Int32) = nI (40 * x2) from nI_mul 40 x2]
        refine sx_RP.step (pc2 := 62) (ls2 := [(0, .ref 111), (1, .int (nI x2)), (2, .int (nI x14)), (3, .long v)]) (st2 := [.int (nI x14), .int (nI (40 * x2)), .ref 124]) (w3 := w) rfl rfl ?_
        refine sx_RP.step (pc2 := 63) (ls2 := [(0, .ref 111), (1, .int (nI x2)), (2, .int (nI x14)), (3, .long v)]) (st2 := [.int ((nI (40 * x2)) + (nI x14)), .ref 124]) (w3 := w) rfl rfl ?_
        rw [show ((nI (40 * x2)) + (nI x14) : Int32) = nI ((40 * x2) + x14) from nI_add (40 * x2) x14]
        refine sx_RP.lld (c := ((40 * x2) + x14)) rfl hI.1.a124.1 hI.1.a124.2 (sx_in_nI (show ((40 * x2) + x14) < 160 by omega) (by decide)) (show (nI ((40 * x2) + x14)).toNatClampNeg = ((40 * x2) + x14) from nI_clamp (by omega)) (show _ = 64 from rfl) ?_
        refine sx_RP.step (pc2 := 66) (ls2 := [(5, .long ((ja w 124).getD ((40 * x2) + x14) 0)), (0, .ref 111), (1, .int (nI x2)), (2, .int (nI x14)), (3, .long v)]) (st2 := []) (w3 := w) rfl rfl ?_
        refine sx_RP.step (pc2 := 67) (ls2 := [(5, .long ((ja w 124).getD ((40 * x2) + x14) 0)), (0, .ref 111), (1, .int (nI x2)), (2, .int (nI x14)), (3, .long v)]) (st2 := [.ref 111]) (w3 := w) rfl rfl ?_
        refine sx_RP.step (pc2 := 68) (ls2 := [(5, .long ((ja w 124).getD ((40 * x2) + x14) 0)), (0, .ref 111), (1, .int (nI x2)), (2, .int (nI x14)), (3, .long v)]) (st2 := [.int (nI x2), .ref 111]) (w3 := w) rfl rfl ?_
        refine sx_RP.step (pc2 := 69) (ls2 := [(5, .long ((ja w 124).getD ((40 * x2) + x14) 0)), (0, .ref 111), (1, .int (nI x2)), (2, .int (nI x14)), (3, .long v)]) (st2 := [.int (nI x14), .int (nI x2), .ref 111]) (w3 := w) rfl rfl ?_
        refine sx_RP.step (pc2 := 70) (ls2 := [(5, .long ((ja w 124).getD ((40 * x2) + x14) 0)), (0, .ref 111), (1, .int (nI x2)), (2, .int (nI x14)), (3, .long v)]) (st2 := [.long v, .int (nI x14), .int (nI x2), .ref 111]) (w3 := w) rfl rfl ?_
        refine sx_RP.callp (as2 := [.ref 111, .int (nI x2), .int (nI x14), .long v]) (rest2 := []) rfl rfl (sx_inv_v2 (mi := 232) (k := 339) (st := [.long v, .int (nI x14), .int (nI x2), .ref 111]) (w := w) rfl rfl hI.1.o111 rfl rfl rfl) rfl rfl rfl (X233 hI (show x2 < 4 by omega) (show x14 < 40 by omega) v) (show _ = 73 from rfl) ?_
        rintro r4 w18 ⟨⟨rfl, hv16⟩, hI19, hs17⟩
        show sx_RP _ _ _ _ _ [] _ _
        refine sx_RP.step (pc2 := 75) (ls2 := [(5, .long ((ja w 124).getD ((40 * x2) + x14) 0)), (0, .ref 111), (1, .int (nI x2)), (2, .int (nI x14)), (3, .long v)]) (st2 := [.long ((ja w 124).getD ((40 * x2) + x14) 0)]) (w3 := w18) rfl rfl ?_
        refine sx_RP.ret (r := (some (.long ((ja w 124).getD ((40 * x2) + x14) 0)))) rfl rfl ?_
        exact ⟨⟨by rw [(wr_4 (F := FMs w) (N := NMs w) (v := v) (show x2 < 4 by omega) (FMs_at (by omega) ex12) q9 (show x14 < 40 by omega) c13).1, NMs_at (by omega) (by omega)], by rw [(wr_4 (F := FMs w) (N := NMs w) (v := v) (show x2 < 4 by omega) (FMs_at (by omega) ex12) q9 (show x14 < 40 by omega) c13).2]; exact NMs_wr hI (by omega) (by omega) hv16, FMs_eq (hs17 122 (by decide)) (hs17 123 (by decide))⟩, hI19, fun a h1 h2 => hs17 a h2⟩
      · refine sx_RP.cu (as := [.int a2, .int 0, .int ((nI x10) - 1)]) (rest2 := []) (st3 := [.int 0]) rfl rfl rfl rfl rfl (cx_132o (fun q => c13 ((in_ltz (by omega)).mp q))) rfl ?_
        refine sx_RP.step (pc2 := 46) (ls2 := [(0, .ref 111), (1, .int (nI x2)), (2, .int a2), (3, .long v)]) (st2 := []) (w3 := w) rfl rfl ?_
        refine sx_RP.step (pc2 := 47) (ls2 := [(0, .ref 111), (1, .int (nI x2)), (2, .int a2), (3, .long v)]) (st2 := [.ref 111]) (w3 := w) rfl rfl ?_
        refine sx_RP.step (pc2 := 48) (ls2 := [(0, .ref 111), (1, .int (nI x2)), (2, .int a2), (3, .long v)]) (st2 := [.int 0, .ref 111]) (w3 := w) rfl rfl ?_
        refine sx_RP.callp (as2 := [.ref 111, .int 0]) (rest2 := []) rfl rfl (sx_inv_v2 (mi := 232) (k := 70) (st := [.int 0, .ref 111]) (w := w) rfl rfl hI.1.o111 rfl rfl rfl) rfl rfl rfl (S133_0 hI) (show _ = 51 from rfl) ?_
        rintro r4 w21 ⟨rfl, hI22, hs20⟩
        show sx_RP _ _ _ _ _ [.int (-1000000001)] _ _
        refine sx_RP.step (pc2 := 52) (ls2 := [(0, .ref 111), (1, .int (nI x2)), (2, .int a2), (3, .long v)]) (st2 := [.long (-1000000001)]) (w3 := w21) rfl rfl ?_
        refine sx_RP.ret (r := (some (.long (-1000000001)))) rfl rfl ?_
        exact ⟨⟨by rw [(wr_3 (F := FMs w) (N := NMs w) (v := v) (show x2 < 4 by omega) (FMs_at (by omega) ex12) q9 c13).1], by rw [(wr_3 (F := FMs w) (N := NMs w) (v := v) (show x2 < 4 by omega) (FMs_at (by omega) ex12) q9 c13).2]; exact NMs_eq (hs20 124 (by decide)), FMs_eq (hs20 122 (by decide)) (hs20 123 (by decide))⟩, hI22, fun a h1 h2 => hs20 a h1⟩
    · replace q9 := Decidable.not_not.mp (of_decide_eq_false q9)
      refine sx_RP.step (pc2 := 24) (ls2 := [(0, .ref 111), (1, .int (nI x2)), (2, .int a2), (3, .long v)]) (st2 := [.ref 111]) (w3 := w) rfl rfl ?_
      refine sx_RP.step (pc2 := 25) (ls2 := [(0, .ref 111), (1, .int (nI x2)), (2, .int a2), (3, .long v)]) (st2 := [.int 5, .ref 111]) (w3 := w) rfl rfl ?_
      refine sx_RP.callp (as2 := [.ref 111, .int 5]) (rest2 := []) rfl rfl (sx_inv_v2 (mi := 232) (k := 70) (st := [.int 5, .ref 111]) (w := w) rfl rfl hI.1.o111 rfl rfl rfl) rfl rfl rfl (S133_5 hI) (show _ = 28 from rfl) ?_
      rintro r4 w24 ⟨rfl, hI25, hs23⟩
      show sx_RP _ _ _ _ _ [.int (-1000000006)] _ _
      refine sx_RP.step (pc2 := 29) (ls2 := [(0, .ref 111), (1, .int (nI x2)), (2, .int a2), (3, .long v)]) (st2 := [.long (-1000000006)]) (w3 := w24) rfl rfl ?_
      refine sx_RP.ret (r := (some (.long (-1000000006)))) rfl rfl ?_
      exact ⟨⟨by rw [(wr_2 (F := FMs w) (N := NMs w) (v := v) (show x2 < 4 by omega) (FMs_at0 (by omega)) q9).1], by rw [(wr_2 (F := FMs w) (N := NMs w) (v := v) (show x2 < 4 by omega) (FMs_at0 (by omega)) q9).2]; exact NMs_eq (hs23 124 (by decide)), FMs_eq (hs23 122 (by decide)) (hs23 123 (by decide))⟩, hI25, fun a h1 h2 => hs23 a h1⟩
end
-- 89y16.sound.lean.txt
section
def lkL (ls : List Int32) (c : Nat) : Int32 := ls.getD c 0
def LSo (ls : List Int32) : Prop := ∃ g : List Int32, ∀ c, c < 48 → ls.getD c 0 = gk g c
theorem lk_kfr {ls g : List Int32} (e : ∀ c, c < 48 → ls.getD c 0 = gk g c) : kfr (lkL ls) (fun c => iN (gk g c)) all1 := fun n hn => by
  show (all1 n = false ∧ ls.getD n 0 = -1) ∨ (all1 n = true ∧ 1 ≤ iN (gk g n) ∧ iN (gk g n) ≤ 9 ∧ ls.getD n 0 = nI (iN (gk g n)))
  rw [e n hn]
  exact gk_kfr g n hn
theorem lk_far {ls g : List Int32} (e : ∀ c, c < 48 → ls.getD c 0 = gk g c) {f t : Nat} (hf : f < 48) (ht : t < 48) : dst (lkL ls) f t = farN g f t := dst_congr (lk_kfr e) (gk_kfr g) hf e t ht
theorem row_dst {ls row : List Int32} {t : Nat} (h : LSo ls) (ht : t < 48) (hr : row.length = 48) : ∀ f, f < 48 → (adF ls t 48 0 (spF ls t row)).getD f 0 = nI (dst (lkL ls) f t) := by
  obtain ⟨g, e⟩ := h
  intro f hf
  rw [row_far (g := g) ht hr e f hf, lk_far e hf ht]
def SK (w : List sx_C) : Prop := LSo (ia w 45) → ∀ t, t < 48 → ¬ (ia w 95).getD t 0 = 0 → ∀ f, f < 48 → (ia w (47 + t)).getD f 0 = nI (dst (lkL (ia w 45)) f t)
theorem SK.same {w w2 : List sx_C} (h : SK w) (hs : ∀ a, 44 ≤ a → a < 96 → w2[a]? = w[a]?) : SK w2 := by
  intro hL t ht hk f hf
  rw [ia_of (hs 45 (by omega) (by omega))] at hL ⊢
  rw [ia_of (hs 95 (by omega) (by omega))] at hk
  rw [ia_of (hs (47 + t) (by omega) (by omega))]
  exact h hL t ht hk f hf
def ES (w w2 : List sx_C) : Prop := EQ w w2 ∧ (SK w → SK w2)
theorem ES.rf {w : List sx_C} : ES w w := ⟨EQ.rf, id⟩
theorem ES.tr {w w1 w2 : List sx_C} (h : ES w w1) (h2 : ES w1 w2) : ES w w2 := ⟨h.1.tr h2.1, fun z => h2.2 (h.2 z)⟩
theorem ES.st {w0 w w2 : List sx_C} {a : Nat} (h : ES w0 w) (hs : Same a w w2) (ha : (29 ≤ a ∧ a ≤ 43) ∨ (99 ≤ a ∧ a ≤ 102)) : ES w0 w2 := ⟨h.1.st hs (by omega), fun z => (h.2 z).same (fun b h1 h2 => hs b (by omega))⟩
theorem ES.fr {w0 w : List sx_C} (h : ES w0 w) {a : Nat} {c c2 : sx_C} (_ : w[a]? = some c) (hf : 99 ≤ a ∧ a ≤ 102) : ES w0 (w.set a c2) := h.st Same.set (by omega)
section SXS
variable {xs : Option (List Int32)} {d mi pc pc2 a idx p : Nat} {ls : sx_L} {r : List Value} {w w0 : List sx_C} {P : Option Value → List sx_C → Prop}
theorem sx_RP.pgS {k : Nat} {v : Int32} (hI : WI w) (hE : ES w0 w) (hz : 29 ≤ a) (ha : gAd a) (hi : sx_ins mi pc = some (.putfield idx, 3)) (hq : sx_lk (sx_fl (sx_own mi)) idx = some (2, k, p)) (hk : k < 6) (hf : sx_fin mi 2 k = true) (hv : gR k v) (hp : pc + 3 = pc2) (kk : ∀ w2, WI w2 → ES w0 w2 → (∀ B q, isA B → fi w2 B q = fi w B q) → sx_RP xs d mi pc2 ls r w2 P) : sx_RP xs d mi pc ls (.int v :: .ref a :: r) w P :=
  sx_RP.xG hI ha hi hq hk hf hv hp (fun w2 h1 h2 _ _ => kk w2 h1 (hE.st h2 (by unfold gAd at ha; omega)) (h2.cc ha))
theorem sx_RP.putcS {k : Nat} {v : Int32} (hI : WI w) (hE : ES w0 w) (hz : 29 ≤ a) (ha : isA a) (hi : sx_ins mi pc = some (.putfield idx, 3)) (hq : sx_lk (sx_fl (sx_own mi)) idx = some (1, k, p)) (hk : k = 3 ∨ (5 ≤ k ∧ k < 11)) (hf : sx_fin mi 1 k = true) (hv : cR k v) (hp : pc + 3 = pc2) (kk : ∀ w2, WI w2 → ES w0 w2 → sx_RP xs d mi pc2 ls r w2 P) : sx_RP xs d mi pc ls (.int v :: .ref a :: r) w P :=
  sx_RP.xC hI ha hi hq hk hf hv hp (fun w2 h1 h2 _ _ _ => kk w2 h1 (hE.st h2 (by unfold isA at ha; omega)))
theorem sx_RP.pwS {v : Int64} (hI : WI w) (hE : ES w0 w) (hz : 29 ≤ a) (ha : isA a) (hi : sx_ins mi pc = some (.putfield idx, 3)) (hq : sx_lk (sx_fl (sx_own mi)) idx = some (1, 1, p)) (hf : sx_fin mi 1 1 = true) (hp : pc + 3 = pc2) (kk : ∀ w2, WI w2 → ES w0 w2 → sx_RP xs d mi pc2 ls r w2 P) : sx_RP xs d mi pc ls (.long v :: .ref a :: r) w P :=
  sx_RP.xW hI ha hi hq hf hp (fun w2 h1 h2 _ _ => kk w2 h1 (hE.st h2 (by unfold isA at ha; omega)))
theorem sx_RP.stFS {i x : Int32} {n : Nat} (hI : WI w) (hE : ES w0 w) (hz : 99 ≤ a ∧ a ≤ 102) (hi : sx_ins mi pc = some (.iastore, 1)) (hw : w[a]? = some (.inl (0, ia w a)) ∧ (ia w a).length = n) (hn : sx_in i n = true) (hf : (44 ≤ a ∧ a ≤ 95) ∨ (97 ≤ a ∧ a ≤ 102)) (hp : pc + 1 = pc2) (kk : ∀ w2, WI w2 → ES w0 w2 → sx_RP xs d mi pc2 ls r w2 P) : sx_RP xs d mi pc ls (.int x :: .int i :: .ref a :: r) w P :=
  sx_RP.ist hi hw.1 hw.2 hn rfl rfl hp (kk _ (hI.set hw.1 sh_set (cOK.free (by omega))) (hE.st Same.set (by omega)))
theorem sx_RP.acSS {A B : Nat} (hI : WI w) (hE : ES w0 w) (hz : 29 ≤ A) (hA : isA A) (hB : isA B) (hi : sx_ins mi pc = some (.invokestatic idx, 3)) (hq : sx_lk (sx_ac (sx_own mi)) idx = some p) (hr : Nat.ble (r.map (fun v => v.category)).sum 8 = true) (hp : pc + 3 = pc2) (kk : ∀ w2, WI w2 → ES w0 w2 → sx_RP xs d mi pc2 ls r w2 P) : sx_RP xs d mi pc ls (.int 48 :: .int 0 :: .ref (A + 1) :: .int 0 :: .ref (B + 1) :: r) w P :=
  sx_RP.xAS hI hA hB hi hq hr hp (fun w2 h1 h2 _ => kk w2 h1 (hE.st h2 (by unfold isA at hA; omega)))
theorem sx_RP.acDS {A B : Nat} (hI : WI w) (hE : ES w0 w) (hz : 29 ≤ A) (hA : isA A) (hB : isA B) (hi : sx_ins mi pc = some (.invokestatic idx, 3)) (hq : sx_lk (sx_ac (sx_own mi)) idx = some p) (hr : Nat.ble (r.map (fun v => v.category)).sum 8 = true) (hp : pc + 3 = pc2) (kk : ∀ w2, WI w2 → ES w0 w2 → sx_RP xs d mi pc2 ls r w2 P) : sx_RP xs d mi pc ls (.int 9 :: .int 0 :: .ref (A + 3) :: .int 0 :: .ref (B + 3) :: r) w P :=
  sx_RP.xAD hI hA hB hi hq hr hp (fun w2 h1 h2 _ => kk w2 h1 (hE.st h2 (by unfold isA at hA; omega)))
end SXS
theorem ft_spec {st : List Int32} : ∀ (q j : Nat) (p : List Int32 × Int32) (l0 : List Int32), j + q = 48 → p.1.length = 48 → (p.2 = 0 ∨ (p.2 = 1 ∧ p.1 = l0)) → (∀ c, c < j → p.1.getD c 0 = crF (st.getD c 0)) → (∀ c, c < 48 → (ftF st q j p).1.getD c 0 = crF (st.getD c 0)) ∧ ((ftF st q j p).2 = 0 ∨ ((ftF st q j p).2 = 1 ∧ (ftF st q j p).1 = l0))
  | 0, j, p, l0, hj, hl, hp, hc => ⟨fun c h => hc c (by omega), hp⟩
  | q + 1, j, p, l0, hj, hl, hp, hc => by
    refine ft_spec q (j + 1) (ft1 st p j) l0 (by omega) (ft1_len hl) ?_ ?_
    · unfold ft1
      split
      · exact hp
      · exact Or.inl rfl
    · intro c h
      unfold ft1
      split
      · rename_i e
        by_cases ec : c = j
        · rw [ec]
          exact e
        · exact hc c (by omega)
      · show (p.1.set j _).getD c 0 = _
        rw [gd_set (by omega)]
        by_cases ec : c = j
        · rw [if_pos ec, ec]
        · rw [if_neg ec]
          exact hc c (by omega)
def FIT (w : List sx_C) (A : Nat) : Prop := ∀ c, c < 48 → (ia w 45).getD c 0 = crF ((ia w (A + 1)).getD c 0)
theorem FIT.ls {w : List sx_C} {A : Nat} (h : FIT w A) : LSo (ia w 45) := ⟨ia w (A + 1), h⟩
theorem FIT.dst {w : List sx_C} {A : Nat} (h : FIT w A) {f t : Nat} (hf : f < 48) (ht : t < 48) : dst (lkL (ia w 45)) f t = farN (ia w (A + 1)) f t := lk_far h hf ht
theorem G16 {xs : Option (List Int32)} {d : Nat} {w : List sx_C} (hI : WI w) {A : Nat} (hA : isA A) : sx_RP xs d 16 0 (lv_args 0 [.ref 44, .ref (A + 1)]) [] w (fun r w2 => r = none ∧ WI w2 ∧ ES w w2 ∧ FIT w2 A ∧ ∀ a, (a < 44 ∨ 96 ≤ a) → w2[a]? = w[a]?) := by
  have h45 := hI.1.a45
  have h95 := hI.1.a95
  have hS := hI.1.aS hA
  have h1 : A + 1 ≠ 45 ∧ A + 1 ≠ 95 := by unfold isA at hA; omega
  have hA2 : A + 1 < 44 := by unfold isA at hA; omega
  have c := cp_16 (xs := xs) (d := d) hI.1.o44 h45.1 h95.1 hS.1 h1.1 h1.2 hS.2 (hI.st4 hA) h45.2 h95.2
  have e1 : (ftF (ia w (A + 1)) 48 0 (ia w 45, 1)).1.length = 48 := ftF_len 48 0 (ia w 45, 1) h45.2
  obtain ⟨s1, s2⟩ := ft_spec (st := ia w (A + 1)) 48 0 (ia w 45, 1) (ia w 45) rfl h45.2 (Or.inr ⟨rfl, rfl⟩) (fun c h => absurd h (by omega))
  have i45 : ia ((w.set 45 (.inl (0, (ftF (ia w (A + 1)) 48 0 (ia w 45, 1)).1))).set 95 (.inl (1, knF (ftF (ia w (A + 1)) 48 0 (ia w 45, 1)).2 (ia w 95)))) 45 = (ftF (ia w (A + 1)) 48 0 (ia w 45, 1)).1 := by
    rw [ia_ne (by decide)]
    exact ia_set h45.1
  have i95 : ia ((w.set 45 (.inl (0, (ftF (ia w (A + 1)) 48 0 (ia w 45, 1)).1))).set 95 (.inl (1, knF (ftF (ia w (A + 1)) 48 0 (ia w 45, 1)).2 (ia w 95)))) 95 = knF (ftF (ia w (A + 1)) 48 0 (ia w 45, 1)).2 (ia w 95) := ia_set (sx_gn2 (by decide) h95.1)
  refine c.rp ⟨rfl, ?_, ⟨?_, ?_⟩, ?_, ?_⟩
  · refine (hI.fr h45.1 (by rw [e1, h45.2]) (by decide)).fr (sx_gn2 (by decide) h95.1) (by rw [knF_len h95.2, h95.2]) (by decide)
  · exact (EQ.rf.fr h45.1 (by decide)).fr (sx_gn2 (by decide) h95.1) (by decide)
  · intro hK hL t ht hk f hf
    rw [i95] at hk
    rw [i45] at hL ⊢
    rcases s2 with z | ⟨z1, z2⟩
    · exfalso
      apply hk
      unfold knF
      rw [if_pos z]
      exact (flF_at 48 0 (ia w 95) (by omega) t (by omega)).1 (Nat.zero_le _)
    · unfold knF at hk
      rw [if_neg (by rw [z1]; decide)] at hk
      rw [z2] at hL ⊢
      rw [ia_ne (by omega), ia_ne (by omega)]
      exact hK hL t ht hk f hf
  · intro c hc
    rw [i45, ia_ne (by omega), ia_ne (by omega)]
    exact s1 c hc
  · intro a ha
    rw [List.getElem?_set_ne (by omega), List.getElem?_set_ne (by omega)]
theorem G17 {xs : Option (List Int32)} {d : Nat} {w : List sx_C} (hI : WI w) {t : Nat} (ht : t < 48) : sx_RP xs (d + 3) 17 0 (lv_args 0 [.ref 44, .int (nI t)]) [] w (fun r w2 => r = some (.ref (47 + t)) ∧ WI w2 ∧ ES w w2 ∧ (ia w2 45 = ia w 45 ∧ (SK w → LSo (ia w 45) → ∀ f, f < 48 → (ia w2 (47 + t)).getD f 0 = nI (dst (lkL (ia w 45)) f t))) ∧ ∀ a, (a < 44 ∨ 96 ≤ a) → w2[a]? = w[a]?) := by
  have h45 := hI.1.a45
  have h95 := hI.1.a95
  have hR := hI.1.aR ht
  by_cases hk : (ia w 95).getD t 0 = 0
  · have c := cp_17 (xs := xs) (d := d) hI.1.o44 h45.1 hI.1.a46 h95.1 hR.1 h45.2 h95.2 ht hR.2 hk
    have iR : ia ((w.set 95 (.inl (1, (ia w 95).set t 1))).set (47 + t) (.inl (0, adF (ia w 45) t 48 0 (spF (ia w 45) t (ia w (47 + t)))))) (47 + t) = adF (ia w 45) t 48 0 (spF (ia w 45) t (ia w (47 + t))) := ia_set (sx_gn2 (by omega) hR.1)
    have i45 : ia ((w.set 95 (.inl (1, (ia w 95).set t 1))).set (47 + t) (.inl (0, adF (ia w 45) t 48 0 (spF (ia w 45) t (ia w (47 + t)))))) 45 = ia w 45 := by rw [ia_ne (by omega), ia_ne (by omega)]
    have i95 : ia ((w.set 95 (.inl (1, (ia w 95).set t 1))).set (47 + t) (.inl (0, adF (ia w 45) t 48 0 (spF (ia w 45) t (ia w (47 + t)))))) 95 = (ia w 95).set t 1 := by rw [ia_ne (by omega)]; exact ia_set h95.1
    have key : LSo (ia w 45) → ∀ f, f < 48 → (adF (ia w 45) t 48 0 (spF (ia w 45) t (ia w (47 + t)))).getD f 0 = nI (dst (lkL (ia w 45)) f t) := by
      intro hL f hf
      exact row_dst hL ht hR.2 f hf
    refine c.rp ⟨rfl, ?_, ⟨?_, ?_⟩, ⟨i45, ?_⟩, ?_⟩
    · exact (hI.fr h95.1 (List.length_set ..) (by decide)).fr (sx_gn2 (by omega) hR.1) (by rw [adF_len 48 0 _ (spF_len hR.2), hR.2]) (by omega)
    · exact (EQ.rf.fr h95.1 (by decide)).fr (sx_gn2 (by omega) hR.1) (by omega)
    · intro hK hL t2 ht2 hk2 f hf
      rw [i45] at hL ⊢
      rw [i95, gd_set (by omega)] at hk2
      by_cases e : t2 = t
      · subst e
        rw [iR]
        exact key hL f hf
      · rw [if_neg e] at hk2
        rw [ia_ne (by omega), ia_ne (by omega)]
        exact hK hL t2 ht2 hk2 f hf
    · intro _ hL f hf
      rw [iR]
      exact key hL f hf
    · intro a ha
      rw [List.getElem?_set_ne (by omega), List.getElem?_set_ne (by omega)]
  · have c := cp_17k (xs := xs) (d := d + 3) hI.1.o44 h45.1 hI.1.a46 h95.1 hR.1 h45.2 h95.2 ht hk
    exact c.rp ⟨rfl, hI, ES.rf, ⟨rfl, fun hK hL f hf => hK hL t ht hk f hf⟩, fun _ _ => rfl⟩
theorem G18 {xs : Option (List Int32)} {d : Nat} {w : List sx_C} (hI : WI w) {t : Nat} (ht : t < 48) : sx_RP xs (d + 2) 18 0 (lv_args 0 [.int (nI t), .ref 100, .ref 101]) [] w (fun r w2 => r = none ∧ WI w2 ∧ ES w w2) := by
  have h1 := hI.1.a100
  have h2 := hI.1.a101
  have c := cp_18 (xs := xs) (d := d) h1.1 h2.1 (by decide) h1.2 h2.2 ht
  refine c.rp ⟨rfl, ?_, ?_⟩
  · exact hI.fr h2.1 (by rw [spF_len h2.2, h2.2]) (by decide)
  · exact ES.rf.fr h2.1 (by decide)
end
