-- 79d.bstate.lean.txt
section
abbrev BB : Type := List Int32 × List Int32 × Int32 × Int32 × Int32
def mkB (n : Nat) (f : Nat → Int32) (m : Nat) (g : Nat → Int32) (b0 b1 b2 : Int32) : BB := ((List.range n).map f, (List.range m).map g, b0, b1, b2)
def iN (v : Int32) : Nat := v.toInt.toNat
theorem iN_n {n : Nat} (h : n < 2 ^ 31) : iN (nI n) = n := by
  unfold iN
  rw [nI_toInt h]
  exact Int.toNat_natCast n
theorem map_congr {n : Nat} {f g : Nat → Int32} (h : ∀ i, i < n → f i = g i) : (List.range n).map f = (List.range n).map g := List.map_congr_left (fun i hi => h i (List.mem_range.mp hi))
theorem mkB_congr {n n2 m m2 : Nat} {f f2 g g2 : Nat → Int32} {a b c a2 b2 c2 : Int32} (h1 : n = n2) (h2 : ∀ i, i < n → f i = f2 i) (h3 : m = m2) (h4 : ∀ i, i < m → g i = g2 i) (h5 : a = a2) (h6 : b = b2) (h7 : c = c2) : mkB n f m g a b c = mkB n2 f2 m2 g2 a2 b2 c2 := by
  subst h1
  subst h3
  subst h5
  subst h6
  subst h7
  unfold mkB
  rw [map_congr h2, map_congr h4]
def campB (w : List sx_C) (A : Nat) : BB := mkB (iN (fi w A 3)) (fun g => fi w (A + 4 + g) 0) (iN (fi w A 5)) (fun d => (ia w (A + 3)).getD d 0) (fi w A 8) (fi w A 9) (fi w A 10)
def rowB (l : List Int32) : BB := mkB (iN (l.getD 1 0)) (fun g => l.getD (103 + 6 * g) 0) (iN (l.getD 2 0)) (fun d => l.getD (163 + d) 0) (l.getD 4 0) (l.getD 5 0) (l.getD 6 0)
def nilB : BB := mkB 0 (fun _ => 0) 0 (fun _ => 0) 0 0 0
abbrev BT : Type := BB × Int32 × BB × List Int32
def tapC (w : List sx_C) : List Int32 := (List.range (iN (fi w 96 1))).map (fun i => (ia w 97).getD i 0 &&& 255)
def tapM (w : List sx_C) : List Int32 := (List.range (iN (fi w 111 11))).map (fun i => (ia w 121).getD i 0)
def FCb (w : List sx_C) : BT := (campB w 1, fi w 0 3, if fi w 0 3 = 1 then campB w 15 else nilB, tapC w)
def FMb (w : List sx_C) : BT := (rowB (ia w 112), fi w 111 4, if fi w 111 4 = 1 then rowB (ia w 113) else nilB, tapM w)
theorem campB_same {w w2 : List sx_C} {A : Nat} (h : ∀ a, A ≤ a → a < A + 14 → w2[a]? = w[a]?) (hn : iN (fi w A 3) ≤ 10) : campB w2 A = campB w A := by
  unfold campB
  rw [fi_same 3 (h A (by omega) (by omega)), fi_same 5 (h A (by omega) (by omega)), fi_same 8 (h A (by omega) (by omega)), fi_same 9 (h A (by omega) (by omega)), fi_same 10 (h A (by omega) (by omega)), ia_of (h (A + 3) (by omega) (by omega))]
  exact mkB_congr rfl (fun i hi => fi_same 0 (h _ (by omega) (by omega))) rfl (fun _ _ => rfl) rfl rfl rfl
theorem WI.many {w : List sx_C} (h : WI w) {A : Nat} (hA : isA A) : iN (fi w A 3) ≤ 10 := by
  obtain ⟨j, hj, e⟩ := (h.c hA).1
  rw [e, iN_n (by omega)]
  exact hj
theorem WI.dished {w : List sx_C} (h : WI w) {A : Nat} (hA : isA A) : iN (fi w A 5) ≤ 9 := by
  obtain ⟨j, hj, e⟩ := (h.c hA).2
  rw [e, iN_n (by omega)]
  exact hj
theorem WI.manyM {w : List sx_C} (h : WI w) {a : Nat} (ha : 112 ≤ a ∧ a ≤ 115) : iN ((ia w a).getD 1 0) ≤ 10 := by
  obtain ⟨j, hj, e⟩ := (h.sA ha 1 (by decide)).1 rfl
  rw [e, iN_n (by omega)]
  exact hj
theorem tapC_same {w w2 : List sx_C} (h1 : w2[96]? = w[96]?) (h2 : w2[97]? = w[97]?) : tapC w2 = tapC w := by
  unfold tapC
  rw [fi_same 1 h1, ia_of h2]
theorem tapM_same {w w2 : List sx_C} (h1 : w2[111]? = w[111]?) (h2 : w2[121]? = w[121]?) : tapM w2 = tapM w := by
  unfold tapM
  rw [fi_same 11 h1, ia_of h2]
theorem FCb_en {w w2 : List sx_C} (hI : WI w) (h : EN w w2) : FCb w2 = FCb w := by
  have e0 : w2[0]? = w[0]? := h.1 0 (by unfold nc; omega)
  have e1 : campB w2 1 = campB w 1 := by
    unfold campB
    rw [h.2.1 3 (by unfold nk; omega), h.2.1 5 (by unfold nk; omega), h.2.1 8 (by unfold nk; omega), h.2.1 9 (by unfold nk; omega), h.2.1 10 (by unfold nk; omega), ia_of (h.1 (1 + 3) (by unfold nc; omega))]
    have hm := hI.many (A := 1) (Or.inl rfl)
    exact mkB_congr rfl (fun i hi => by rw [show 1 + 4 + i = 5 + i by omega]; exact h.2.2 i (by omega)) rfl (fun _ _ => rfl) rfl rfl rfl
  unfold FCb
  rw [e1, fi_same 3 e0, campB_same (A := 15) (fun a h1 h2 => h.1 a (by unfold nc; omega)) (hI.many (Or.inr (Or.inl rfl))), tapC_same (h.1 96 (by unfold nc; omega)) (h.1 97 (by unfold nc; omega))]
theorem rowB_bk {l l2 : List Int32} (h : ∀ k, bk k → l2.getD k 0 = l.getD k 0) (hn : iN (l.getD 1 0) ≤ 10) : rowB l2 = rowB l := by
  unfold rowB
  rw [h 1 (by unfold bk; omega), h 2 (by unfold bk; omega), h 4 (by unfold bk; omega), h 5 (by unfold bk; omega), h 6 (by unfold bk; omega)]
  exact mkB_congr rfl (fun i hi => h _ (by unfold bk; omega)) rfl (fun i _ => h _ (by unfold bk; omega)) rfl rfl rfl
theorem FMb_el {w w2 : List sx_C} (hI : WI w) (h : EL w w2) : FMb w2 = FMb w := by
  have e1 : w2[111]? = w[111]? := h.1 111 (by unfold kc; omega) (by decide)
  have e3 : w2[113]? = w[113]? := h.1 113 (by unfold kc; omega) (by decide)
  unfold FMb
  rw [rowB_bk h.2 (hI.manyM (by decide)), fi_same 4 e1, ia_of e3, tapM_same e1 (h.1 121 (by unfold kc; omega) (by decide))]
def setO (v : Int32) (b : BB) : BB := (b.1, b.2.1, v, b.2.2.2)
def setM (v : Int32) (b : BB) : BB := (b.1, b.2.1, b.2.2.1, v, b.2.2.2.2)
def setR (v : Int32) (b : BB) : BB := (b.1, b.2.1, b.2.2.1, b.2.2.2.1, v)
section SXBS
variable {n m : Nat} {f f2 g g2 : Nat → Int32} {a b c : Int32}
theorem map_at {i : Nat} (h : i < n) : ((List.range n).map f).getD i 0 = f i := by
  rw [List.getD_eq_getElem?_getD, List.getElem?_map, List.getElem?_range h]
  rfl
theorem map_add {k : Int32} (h1 : ∀ i, i < n → f2 i = f i) (h2 : f2 n = k) : (List.range (n + 1)).map f2 = (List.range n).map f ++ [k] := by
  rw [List.range_succ, List.map_append, map_congr h1, List.map_singleton, h2]
theorem map_set {j : Nat} {k : Int32} (h1 : ∀ i, i < n → i ≠ j → f2 i = f i) (h2 : j < n → f2 j = k) : (List.range n).map f2 = ((List.range n).map f).set j k := by
  apply List.ext_getElem?
  intro i
  rw [List.getElem?_set]
  by_cases hi : i < n
  · rw [List.getElem?_map, List.getElem?_range hi]
    by_cases e : j = i
    · subst e
      rw [if_pos rfl, if_pos (by rw [List.length_map, List.length_range]; exact hi)]
      exact congrArg some (h2 hi)
    · rw [if_neg e, List.getElem?_map, List.getElem?_range hi]
      exact congrArg some (h1 i hi (Ne.symm e))
  · rw [List.getElem?_eq_none (by rw [List.length_map, List.length_range]; omega)]
    split
    · rename_i e
      rw [if_neg (by rw [List.length_map, List.length_range]; omega)]
    · rw [List.getElem?_eq_none (by rw [List.length_map, List.length_range]; omega)]
end SXBS
end
-- 80.qC.lean.txt
section
set_option maxRecDepth 20000 in
set_option maxHeartbeats 4000000 in
theorem Q9_0 {xs : Option (List Int32)} {d : Nat} {w : List sx_C} (hI : WI w) : sx_RP xs (d + 1) 9 0 (lv_args 0 [.ref 0, .int (-1000000001)]) [] w (fun r w2 => (r = some (.int (-1000000001))) ∧ WI w2 ∧ EQ w w2) := by
  have hE : EQ w w := EQ.rf
  refine sx_RP.step (pc2 := 2) (ls2 := [(0, .ref 0), (1, .int (-1000000001))]) (st2 := [.int (-1000000001)]) (w3 := w) rfl rfl ?_
  refine sx_RP.step (pc2 := 3) (ls2 := [(0, .ref 0), (1, .int (-1000000001))]) (st2 := [.int (-1000000001), .int (-1000000001)]) (w3 := w) rfl rfl ?_
  refine sx_RP.step (pc2 := 4) (ls2 := [(0, .ref 0), (1, .int (-1000000001))]) (st2 := [.int 0]) (w3 := w) rfl rfl ?_
  refine sx_RP.step (pc2 := 5) (ls2 := [(2, .int 0), (0, .ref 0), (1, .int (-1000000001))]) (st2 := []) (w3 := w) rfl rfl ?_
  refine sx_RP.step (pc2 := 6) (ls2 := [(2, .int 0), (0, .ref 0), (1, .int (-1000000001))]) (st2 := [.int 0]) (w3 := w) rfl rfl ?_
  refine sx_RP.step (pc2 := 7) (ls2 := [(2, .int 0), (0, .ref 0), (1, .int (-1000000001))]) (st2 := [.int 0, .int 0]) (w3 := w) rfl rfl ?_
  refine sx_RP.step (pc2 := 9) (ls2 := [(2, .int 0), (0, .ref 0), (1, .int (-1000000001))]) (st2 := [.int 6, .int 0, .int 0]) (w3 := w) rfl rfl ?_
  refine sx_RP.cu (as := [.int 0, .int 0, .int 6]) (rest2 := []) (st3 := [.int 1]) rfl rfl rfl rfl rfl (cx_8p (by decide)) rfl ?_
  refine sx_RP.step (pc2 := 15) (ls2 := [(2, .int 0), (0, .ref 0), (1, .int (-1000000001))]) (st2 := []) (w3 := w) rfl rfl ?_
  refine sx_RP.step (pc2 := 16) (ls2 := [(2, .int 0), (0, .ref 0), (1, .int (-1000000001))]) (st2 := [.ref 0]) (w3 := w) rfl rfl ?_
  refine sx_RP.gf (v := .ref 99) rfl rfl hI.1.o0 rfl rfl (show _ = 19 from rfl) ?_
  refine sx_RP.step (pc2 := 20) (ls2 := [(2, .int 0), (0, .ref 0), (1, .int (-1000000001))]) (st2 := [.int 0, .ref 99]) (w3 := w) rfl rfl ?_
  refine sx_RP.step (pc2 := 21) (ls2 := [(2, .int 0), (0, .ref 0), (1, .int (-1000000001))]) (st2 := [.int 0, .ref 99, .int 0, .ref 99]) (w3 := w) rfl rfl ?_
  refine sx_RP.ild (c := 0) rfl hI.1.a99.1 hI.1.a99.2 (sx_in_nI (show 0 < 7 by omega) (by decide)) (show (nI 0).toNatClampNeg = 0 from nI_clamp (by omega)) (show _ = 22 from rfl) ?_
  refine sx_RP.step (pc2 := 23) (ls2 := [(2, .int 0), (0, .ref 0), (1, .int (-1000000001))]) (st2 := [.int 1, .int ((ia w 99).getD 0 0), .int 0, .ref 99]) (w3 := w) rfl rfl ?_
  refine sx_RP.step (pc2 := 24) (ls2 := [(2, .int 0), (0, .ref 0), (1, .int (-1000000001))]) (st2 := [.int (((ia w 99).getD 0 0) + 1), .int 0, .ref 99]) (w3 := w) rfl rfl ?_
  refine sx_RP.stFQ hI hE (by omega) rfl hI.1.a99 (sx_in_nI (show 0 < 7 by omega) (by decide)) (by omega) (show _ = 25 from rfl) (fun w1 hI2 hE3 => ?_)
  refine sx_RP.step (pc2 := 26) (ls2 := [(2, .int 0), (0, .ref 0), (1, .int (-1000000001))]) (st2 := [.int (-1000000001)]) (w3 := w1) rfl rfl ?_
  refine sx_RP.ret (r := (some (.int (-1000000001)))) rfl rfl ?_
  exact ⟨rfl, hI2, hE3⟩
set_option maxRecDepth 20000 in
set_option maxHeartbeats 4000000 in
theorem Q9_1 {xs : Option (List Int32)} {d : Nat} {w : List sx_C} (hI : WI w) : sx_RP xs (d + 1) 9 0 (lv_args 0 [.ref 0, .int (-1000000002)]) [] w (fun r w2 => (r = some (.int (-1000000002))) ∧ WI w2 ∧ EQ w w2) := by
  have hE : EQ w w := EQ.rf
  refine sx_RP.step (pc2 := 2) (ls2 := [(0, .ref 0), (1, .int (-1000000002))]) (st2 := [.int (-1000000001)]) (w3 := w) rfl rfl ?_
  refine sx_RP.step (pc2 := 3) (ls2 := [(0, .ref 0), (1, .int (-1000000002))]) (st2 := [.int (-1000000002), .int (-1000000001)]) (w3 := w) rfl rfl ?_
  refine sx_RP.step (pc2 := 4) (ls2 := [(0, .ref 0), (1, .int (-1000000002))]) (st2 := [.int 1]) (w3 := w) rfl rfl ?_
  refine sx_RP.step (pc2 := 5) (ls2 := [(2, .int 1), (0, .ref 0), (1, .int (-1000000002))]) (st2 := []) (w3 := w) rfl rfl ?_
  refine sx_RP.step (pc2 := 6) (ls2 := [(2, .int 1), (0, .ref 0), (1, .int (-1000000002))]) (st2 := [.int 1]) (w3 := w) rfl rfl ?_
  refine sx_RP.step (pc2 := 7) (ls2 := [(2, .int 1), (0, .ref 0), (1, .int (-1000000002))]) (st2 := [.int 0, .int 1]) (w3 := w) rfl rfl ?_
  refine sx_RP.step (pc2 := 9) (ls2 := [(2, .int 1), (0, .ref 0), (1, .int (-1000000002))]) (st2 := [.int 6, .int 0, .int 1]) (w3 := w) rfl rfl ?_
  refine sx_RP.cu (as := [.int 1, .int 0, .int 6]) (rest2 := []) (st3 := [.int 1]) rfl rfl rfl rfl rfl (cx_8p (by decide)) rfl ?_
  refine sx_RP.step (pc2 := 15) (ls2 := [(2, .int 1), (0, .ref 0), (1, .int (-1000000002))]) (st2 := []) (w3 := w) rfl rfl ?_
  refine sx_RP.step (pc2 := 16) (ls2 := [(2, .int 1), (0, .ref 0), (1, .int (-1000000002))]) (st2 := [.ref 0]) (w3 := w) rfl rfl ?_
  refine sx_RP.gf (v := .ref 99) rfl rfl hI.1.o0 rfl rfl (show _ = 19 from rfl) ?_
  refine sx_RP.step (pc2 := 20) (ls2 := [(2, .int 1), (0, .ref 0), (1, .int (-1000000002))]) (st2 := [.int 1, .ref 99]) (w3 := w) rfl rfl ?_
  refine sx_RP.step (pc2 := 21) (ls2 := [(2, .int 1), (0, .ref 0), (1, .int (-1000000002))]) (st2 := [.int 1, .ref 99, .int 1, .ref 99]) (w3 := w) rfl rfl ?_
  refine sx_RP.ild (c := 1) rfl hI.1.a99.1 hI.1.a99.2 (sx_in_nI (show 1 < 7 by omega) (by decide)) (show (nI 1).toNatClampNeg = 1 from nI_clamp (by omega)) (show _ = 22 from rfl) ?_
  refine sx_RP.step (pc2 := 23) (ls2 := [(2, .int 1), (0, .ref 0), (1, .int (-1000000002))]) (st2 := [.int 1, .int ((ia w 99).getD 1 0), .int 1, .ref 99]) (w3 := w) rfl rfl ?_
  refine sx_RP.step (pc2 := 24) (ls2 := [(2, .int 1), (0, .ref 0), (1, .int (-1000000002))]) (st2 := [.int (((ia w 99).getD 1 0) + 1), .int 1, .ref 99]) (w3 := w) rfl rfl ?_
  refine sx_RP.stFQ hI hE (by omega) rfl hI.1.a99 (sx_in_nI (show 1 < 7 by omega) (by decide)) (by omega) (show _ = 25 from rfl) (fun w1 hI2 hE3 => ?_)
  refine sx_RP.step (pc2 := 26) (ls2 := [(2, .int 1), (0, .ref 0), (1, .int (-1000000002))]) (st2 := [.int (-1000000002)]) (w3 := w1) rfl rfl ?_
  refine sx_RP.ret (r := (some (.int (-1000000002)))) rfl rfl ?_
  exact ⟨rfl, hI2, hE3⟩
end
-- 83.kM.lean.txt
section
set_option maxRecDepth 20000 in
set_option maxHeartbeats 4000000 in
theorem K175L {xs : Option (List Int32)} {d : Nat} {w0 : List sx_C} {a b : Nat} (ha : 112 ≤ a ∧ a ≤ 115) (hb : 112 ≤ b ∧ b ≤ 115) (hab : a ≠ b) : ∀ (fz j : Nat) (w : List sx_C), j + fz = 172 → WI w → Same b w0 w → (∀ k, k < j → (ia w b).getD k 0 = (ia w0 a).getD k 0) → WI w0 → sx_RP xs d 175 2 [(0, .ref a), (1, .ref b), (2, .int (nI j))] [] w (fun r w2 => r = none ∧ WI w2 ∧ Lay a b w0 w2)
  | 0, j, w, h, hI, hS, hk, hI0 => by
    obtain rfl : j = 172 := by omega
    refine sx_RP.step (pc2 := 3) (ls2 := [(0, .ref a), (1, .ref b), (2, .int (nI 172))]) (st2 := [.int (nI 172)]) (w3 := w) rfl rfl ?_
    refine sx_RP.step (pc2 := 6) (ls2 := [(0, .ref a), (1, .ref b), (2, .int (nI 172))]) (st2 := [.int 172, .int (nI 172)]) (w3 := w) rfl rfl ?_
    refine sx_RP.step (pc2 := 21) (ls2 := [(0, .ref a), (1, .ref b), (2, .int (nI 172))]) (st2 := []) (w3 := w) rfl rfl ?_
    refine sx_RP.ret (r := none) rfl rfl ⟨rfl, hI, hS, ?_⟩
    have l1 := (hI.1.aM hb).2
    have l0 := (hI0.1.aM ha).2
    apply List.ext_getElem?
    intro i
    by_cases hi : i < 172
    · have := hk i hi
      rw [List.getD_eq_getElem?_getD, List.getD_eq_getElem?_getD, List.getElem?_eq_getElem (by omega), List.getElem?_eq_getElem (by omega)] at this
      rw [List.getElem?_eq_getElem (by omega), List.getElem?_eq_getElem (by omega)]
      exact congrArg some this
    · rw [List.getElem?_eq_none (by omega), List.getElem?_eq_none (by omega)]
  | fz + 1, j, w, h, hI, hS, hk, hI0 => by
    refine sx_RP.step (pc2 := 3) (ls2 := [(0, .ref a), (1, .ref b), (2, .int (nI j))]) (st2 := [.int (nI j)]) (w3 := w) rfl rfl ?_
    refine sx_RP.step (pc2 := 6) (ls2 := [(0, .ref a), (1, .ref b), (2, .int (nI j))]) (st2 := [.int 172, .int (nI j)]) (w3 := w) rfl rfl ?_
    refine sx_RP.br (p1 := 21) (l1 := [(0, .ref a), (1, .ref b), (2, .int (nI j))]) (s1 := []) (v1 := w) (p2 := 9) (l2 := [(0, .ref a), (1, .ref b), (2, .int (nI j))]) (s2 := []) (v2 := w) rfl rfl (fun q => absurd ((nI_leI (a := 172) (b := j) (by omega) (by omega)).mp (of_decide_eq_true q)) (by omega)) (fun _ => ?_)
    refine sx_RP.step (pc2 := 10) (ls2 := [(0, .ref a), (1, .ref b), (2, .int (nI j))]) (st2 := [.ref b]) (w3 := w) rfl rfl ?_
    refine sx_RP.step (pc2 := 11) (ls2 := [(0, .ref a), (1, .ref b), (2, .int (nI j))]) (st2 := [.int (nI j), .ref b]) (w3 := w) rfl rfl ?_
    refine sx_RP.step (pc2 := 12) (ls2 := [(0, .ref a), (1, .ref b), (2, .int (nI j))]) (st2 := [.ref a, .int (nI j), .ref b]) (w3 := w) rfl rfl ?_
    refine sx_RP.step (pc2 := 13) (ls2 := [(0, .ref a), (1, .ref b), (2, .int (nI j))]) (st2 := [.int (nI j), .ref a, .int (nI j), .ref b]) (w3 := w) rfl rfl ?_
    refine sx_RP.ild (c := j) rfl (hI.1.aM ha).1 (hI.1.aM ha).2 (sx_in_nI (show j < 172 by omega) (by decide)) (nI_clamp (by omega)) (show _ = 14 from rfl) ?_
    refine sx_RP.xM hI hb rfl (show j < 172 by omega) (hI.sA ha j (by omega)) (show _ = 15 from rfl) (fun w2 h1 h2 h3 => ?_)
    refine sx_RP.step (pc2 := 18) (ls2 := [(2, .int (nI j + 1)), (0, .ref a), (1, .ref b)]) (st2 := []) (w3 := w2) rfl rfl ?_
    rw [nI_1 j]
    refine sx_RP.step (pc2 := 2) (ls2 := [(2, .int (nI (j + 1))), (0, .ref a), (1, .ref b)]) (st2 := []) (w3 := w2) rfl rfl ?_
    refine sx_RP.ls (sx_lr.cons rfl (sx_lr.cons rfl (sx_lr.cons rfl sx_lr.nil))) (K175L ha hb hab fz (j + 1) w2 (by omega) h1 (fun c hc => (h2 c hc).trans (hS c hc)) (fun k hk2 => ?_) hI0)
    rw [h3, gd_set (by rw [(hI.1.aM hb).2]; omega)]
    split
    · rename_i e
      rw [e, ia_of (hS a hab)]
    · exact hk k (by omega)
set_option maxRecDepth 20000 in
set_option maxHeartbeats 4000000 in
theorem K175 {xs : Option (List Int32)} {d : Nat} {w : List sx_C} (hI : WI w) {a b : Nat} (ha : 112 ≤ a ∧ a ≤ 115) (hb : 112 ≤ b ∧ b ≤ 115) (hab : a ≠ b) : sx_RP xs d 175 0 (lv_args 0 [.ref a, .ref b]) [] w (fun r w2 => r = none ∧ WI w2 ∧ Lay a b w w2) := by
  refine sx_RP.step (pc2 := 1) (ls2 := [(0, .ref a), (1, .ref b)]) (st2 := [.int 0]) (w3 := w) rfl rfl ?_
  refine sx_RP.step (pc2 := 2) (ls2 := [(2, .int 0), (0, .ref a), (1, .ref b)]) (st2 := []) (w3 := w) rfl rfl ?_
  exact sx_RP.ls (sx_lr.cons rfl (sx_lr.cons rfl (sx_lr.cons rfl sx_lr.nil))) (K175L ha hb hab 172 0 w (by omega) hI (fun _ _ => rfl) (fun k hk => absurd hk (by omega)) hI)
set_option maxRecDepth 20000 in
set_option maxHeartbeats 4000000 in
theorem K133_0 {xs : Option (List Int32)} {d : Nat} {w : List sx_C} (hI : WI w) : sx_RP xs d 133 0 (lv_args 0 [.ref 111, .int 0]) [] w (fun r w2 => (r = some (.int (-1000000001))) ∧ WI w2 ∧ EK w w2) := by
  have hE : EK w w := EK.rf
  refine sx_RP.step (pc2 := 1) (ls2 := [(0, .ref 111), (1, .int 0)]) (st2 := [.ref 111]) (w3 := w) rfl rfl ?_
  refine sx_RP.gf (v := .ref 116) rfl rfl hI.1.o111 rfl rfl (show _ = 4 from rfl) ?_
  refine sx_RP.step (pc2 := 5) (ls2 := [(0, .ref 111), (1, .int 0)]) (st2 := [.int 0, .ref 116]) (w3 := w) rfl rfl ?_
  refine sx_RP.step (pc2 := 6) (ls2 := [(0, .ref 111), (1, .int 0)]) (st2 := [.int 0, .ref 116, .int 0, .ref 116]) (w3 := w) rfl rfl ?_
  refine sx_RP.ild (c := 0) rfl hI.1.a116.1 hI.1.a116.2 (sx_in_nI (show 0 < 7 by omega) (by decide)) (show (nI 0).toNatClampNeg = 0 from nI_clamp (by omega)) (show _ = 7 from rfl) ?_
  refine sx_RP.step (pc2 := 8) (ls2 := [(0, .ref 111), (1, .int 0)]) (st2 := [.int 1, .int ((ia w 116).getD 0 0), .int 0, .ref 116]) (w3 := w) rfl rfl ?_
  refine sx_RP.step (pc2 := 9) (ls2 := [(0, .ref 111), (1, .int 0)]) (st2 := [.int (((ia w 116).getD 0 0) + 1), .int 0, .ref 116]) (w3 := w) rfl rfl ?_
  refine sx_RP.mFK hI hE rfl hI.1.a116 (sx_in_nI (show 0 < 7 by omega) (by decide)) (by decide) (show _ = 10 from rfl) (fun w1 hI2 hE3 hk4 => ?_)
  refine sx_RP.step (pc2 := 12) (ls2 := [(0, .ref 111), (1, .int 0)]) (st2 := [.int (-1000000001)]) (w3 := w1) rfl rfl ?_
  refine sx_RP.step (pc2 := 13) (ls2 := [(0, .ref 111), (1, .int 0)]) (st2 := [.int 0, .int (-1000000001)]) (w3 := w1) rfl rfl ?_
  refine sx_RP.step (pc2 := 14) (ls2 := [(0, .ref 111), (1, .int 0)]) (st2 := [.int (-1000000001)]) (w3 := w1) rfl rfl ?_
  refine sx_RP.ret (r := (some (.int (-1000000001)))) rfl rfl ?_
  exact ⟨rfl, hI2, hE3⟩
set_option maxRecDepth 20000 in
set_option maxHeartbeats 4000000 in
theorem K133_1 {xs : Option (List Int32)} {d : Nat} {w : List sx_C} (hI : WI w) : sx_RP xs d 133 0 (lv_args 0 [.ref 111, .int 1]) [] w (fun r w2 => (r = some (.int (-1000000002))) ∧ WI w2 ∧ EK w w2) := by
  have hE : EK w w := EK.rf
  refine sx_RP.step (pc2 := 1) (ls2 := [(0, .ref 111), (1, .int 1)]) (st2 := [.ref 111]) (w3 := w) rfl rfl ?_
  refine sx_RP.gf (v := .ref 116) rfl rfl hI.1.o111 rfl rfl (show _ = 4 from rfl) ?_
  refine sx_RP.step (pc2 := 5) (ls2 := [(0, .ref 111), (1, .int 1)]) (st2 := [.int 1, .ref 116]) (w3 := w) rfl rfl ?_
  refine sx_RP.step (pc2 := 6) (ls2 := [(0, .ref 111), (1, .int 1)]) (st2 := [.int 1, .ref 116, .int 1, .ref 116]) (w3 := w) rfl rfl ?_
  refine sx_RP.ild (c := 1) rfl hI.1.a116.1 hI.1.a116.2 (sx_in_nI (show 1 < 7 by omega) (by decide)) (show (nI 1).toNatClampNeg = 1 from nI_clamp (by omega)) (show _ = 7 from rfl) ?_
  refine sx_RP.step (pc2 := 8) (ls2 := [(0, .ref 111), (1, .int 1)]) (st2 := [.int 1, .int ((ia w 116).getD 1 0), .int 1, .ref 116]) (w3 := w) rfl rfl ?_
  refine sx_RP.step (pc2 := 9) (ls2 := [(0, .ref 111), (1, .int 1)]) (st2 := [.int (((ia w 116).getD 1 0) + 1), .int 1, .ref 116]) (w3 := w) rfl rfl ?_
  refine sx_RP.mFK hI hE rfl hI.1.a116 (sx_in_nI (show 1 < 7 by omega) (by decide)) (by decide) (show _ = 10 from rfl) (fun w1 hI2 hE3 hk4 => ?_)
  refine sx_RP.step (pc2 := 12) (ls2 := [(0, .ref 111), (1, .int 1)]) (st2 := [.int (-1000000001)]) (w3 := w1) rfl rfl ?_
  refine sx_RP.step (pc2 := 13) (ls2 := [(0, .ref 111), (1, .int 1)]) (st2 := [.int 1, .int (-1000000001)]) (w3 := w1) rfl rfl ?_
  refine sx_RP.step (pc2 := 14) (ls2 := [(0, .ref 111), (1, .int 1)]) (st2 := [.int (-1000000002)]) (w3 := w1) rfl rfl ?_
  refine sx_RP.ret (r := (some (.int (-1000000002)))) rfl rfl ?_
  exact ⟨rfl, hI2, hE3⟩
def EWK (w w2 : List sx_C) : Prop := EK w w2 ∧ ia w2 118 = ia w 118
theorem EWK.rf {w : List sx_C} : EWK w w := ⟨EK.rf, rfl⟩
def EVK (w w2 : List sx_C) : Prop := EK w w2 ∧ ia w2 117 = ia w 117
theorem EVK.rf {w : List sx_C} : EVK w w := ⟨EK.rf, rfl⟩
end
-- 85.exC.lean.txt
section
section SXAC
variable {xs : Option (List Int32)} {d mi pc pc2 a idx p : Nat} {ls : sx_L} {r : List Value} {w w0 : List sx_C} {P : Option Value → List sx_C → Prop}
theorem sx_RP.xAS {A B : Nat} (hI : WI w) (hA : isA A) (hB : isA B) (hi : sx_ins mi pc = some (.invokestatic idx, 3)) (hq : sx_lk (sx_ac (sx_own mi)) idx = some p) (hr : Nat.ble (r.map (fun v => v.category)).sum 8 = true) (hp : pc + 3 = pc2) (kk : ∀ w2, WI w2 → Same (A + 1) w w2 → ia w2 (A + 1) = ia w (B + 1) → sx_RP xs d mi pc2 ls r w2 P) : sx_RP xs d mi pc ls (.int 48 :: .int 0 :: .ref (A + 1) :: .int 0 :: .ref (B + 1) :: r) w P := by
  have h1 := hI.1.aS hA
  have h2 := hI.1.aS hB
  refine sx_RP.acI (n := 48) hi hq hr rfl (by decide) h2.1 h1.1 h2.2 h1.2 hp (kk _ (hI.set h1.1 ?_ (cOK.st hA (fun k hk => hI.st hB hk))) Same.set (ia_set h1.1))
  show (.inl (0, List.replicate (ia w (B + 1)).length 0) : sx_C) = .inl (0, List.replicate (ia w (A + 1)).length 0)
  rw [h1.2, h2.2]
theorem sx_RP.xAD {A B : Nat} (hI : WI w) (hA : isA A) (hB : isA B) (hi : sx_ins mi pc = some (.invokestatic idx, 3)) (hq : sx_lk (sx_ac (sx_own mi)) idx = some p) (hr : Nat.ble (r.map (fun v => v.category)).sum 8 = true) (hp : pc + 3 = pc2) (kk : ∀ w2, WI w2 → Same (A + 3) w w2 → ia w2 (A + 3) = ia w (B + 3) → sx_RP xs d mi pc2 ls r w2 P) : sx_RP xs d mi pc ls (.int 9 :: .int 0 :: .ref (A + 3) :: .int 0 :: .ref (B + 3) :: r) w P := by
  have h1 := hI.1.aD hA
  have h2 := hI.1.aD hB
  refine sx_RP.acI (n := 9) hi hq hr rfl (by decide) h2.1 h1.1 h2.2 h1.2 hp (kk _ (hI.set h1.1 ?_ (cOK.di hA (fun k hk => hI.di hB hk))) Same.set (ia_set h1.1))
  show (.inl (0, List.replicate (ia w (B + 3)).length 0) : sx_C) = .inl (0, List.replicate (ia w (A + 3)).length 0)
  rw [h1.2, h2.2]
end SXAC
def Out (A : Nat) (w w2 : List sx_C) : Prop := ∀ a, (a < A ∨ A + 14 ≤ a) → w2[a]? = w[a]?
theorem Out.rf {A : Nat} {w : List sx_C} : Out A w w := fun _ _ => rfl
theorem Out.st {A a : Nat} {w0 w w2 : List sx_C} (h : Out A w0 w) (hs : Same a w w2) (ha : A ≤ a ∧ a < A + 14) : Out A w0 w2 := fun b hb => (hs b (by omega)).trans (h b hb)
def Took (A B : Nat) (w w2 : List sx_C) : Prop := Out A w w2 ∧ ia w2 (A + 1) = ia w (B + 1) ∧ fj w2 A 1 = fj w B 1 ∧ (∀ k, k = 3 ∨ (5 ≤ k ∧ k < 11) → fi w2 A k = fi w B k) ∧ ia w2 (A + 3) = ia w (B + 3) ∧ ∀ i, i < iN (fi w B 3) → ∀ k, k < 6 → fi w2 (A + 4 + i) k = fi w (B + 4 + i) k
theorem Took.b {A B : Nat} {w w2 : List sx_C} (h : Took A B w w2) : campB w2 A = campB w B := by
  obtain ⟨-, -, -, h3, h4, h5⟩ := h
  unfold campB
  rw [h3 3 (by omega), h3 5 (by omega), h3 8 (by omega), h3 9 (by omega), h3 10 (by omega), h4]
  exact mkB_congr rfl (fun i hi => h5 i hi 0 (by decide)) rfl (fun _ _ => rfl) rfl rfl rfl
theorem fj_same {w w2 : List sx_C} {a : Nat} (k : Nat) (h : w2[a]? = w[a]?) : fj w2 a k = fj w a k := by
  unfold fj fs_
  rw [h]
set_option maxRecDepth 20000 in
set_option maxHeartbeats 4000000 in
theorem X51 {xs : Option (List Int32)} {d : Nat} {w : List sx_C} (hI : WI w) {ga gb : Nat} (hg : gAd ga) (hb : gAd gb) (hne : ga ≠ gb) : sx_RP xs d 51 0 (lv_args 0 [.ref ga, .ref gb]) [] w (fun r w2 => (r = none ∧ ∀ k, k < 6 → fi w2 ga k = fi w gb k) ∧ WI w2 ∧ Same ga w w2) := by
  refine sx_RP.step (pc2 := 1) (ls2 := [(0, .ref ga), (1, .ref gb)]) (st2 := [.ref ga]) (w3 := w) rfl rfl ?_
  refine sx_RP.step (pc2 := 2) (ls2 := [(0, .ref ga), (1, .ref gb)]) (st2 := [.ref gb, .ref ga]) (w3 := w) rfl rfl ?_
  refine sx_RP.gg (k := 0) hI hb rfl rfl (by decide) (show _ = 5 from rfl) ?_
  obtain ⟨x1, hx2, ex3⟩ : inR (fi w gb 0) 5 := hI.gk (k := 0) hb (by decide)
  rw [ex3]
  refine sx_RP.xG (k := 0) hI hg rfl rfl (by decide) rfl (inR.n (show x1 ≤ 5 by omega)) (show _ = 8 from rfl) (fun w4 hI5 hs6 hv7 hr8 => ?_)
  have ex9 := (fi_same 0 (hs6 gb (by omega))).trans ex3
  refine sx_RP.step (pc2 := 9) (ls2 := [(0, .ref ga), (1, .ref gb)]) (st2 := [.ref ga]) (w3 := w4) rfl rfl ?_
  refine sx_RP.step (pc2 := 10) (ls2 := [(0, .ref ga), (1, .ref gb)]) (st2 := [.ref gb, .ref ga]) (w3 := w4) rfl rfl ?_
  refine sx_RP.gg (k := 1) hI5 hb rfl rfl (by decide) (show _ = 13 from rfl) ?_
  obtain ⟨x10, hx11, ex12⟩ : inR (fi w4 gb 1) 1 := hI5.gk (k := 1) hb (by decide)
  rw [ex12]
  refine sx_RP.xG (k := 1) hI5 hg rfl rfl (by decide) rfl (inR.n (show x10 ≤ 1 by omega)) (show _ = 16 from rfl) (fun w13 hI14 hs15 hv16 hr17 => ?_)
  have ex18 := (fi_same 0 (hs15 gb (by omega))).trans ex9
  have ex19 := (fi_same 1 (hs15 gb (by omega))).trans ex12
  refine sx_RP.step (pc2 := 17) (ls2 := [(0, .ref ga), (1, .ref gb)]) (st2 := [.ref ga]) (w3 := w13) rfl rfl ?_
  refine sx_RP.step (pc2 := 18) (ls2 := [(0, .ref ga), (1, .ref gb)]) (st2 := [.ref gb, .ref ga]) (w3 := w13) rfl rfl ?_
  refine sx_RP.gg (k := 2) hI14 hb rfl rfl (by decide) (show _ = 21 from rfl) ?_
  obtain ⟨x20, hx21, ex22⟩ : inR (fi w13 gb 2) 47 := hI14.gk (k := 2) hb (by decide)
  rw [ex22]
  refine sx_RP.xG (k := 2) hI14 hg rfl rfl (by decide) rfl (inR.n (show x20 ≤ 47 by omega)) (show _ = 24 from rfl) (fun w23 hI24 hs25 hv26 hr27 => ?_)
  have ex28 := (fi_same 0 (hs25 gb (by omega))).trans ex18
  have ex29 := (fi_same 1 (hs25 gb (by omega))).trans ex19
  have ex30 := (fi_same 2 (hs25 gb (by omega))).trans ex22
  refine sx_RP.step (pc2 := 25) (ls2 := [(0, .ref ga), (1, .ref gb)]) (st2 := [.ref ga]) (w3 := w23) rfl rfl ?_
  refine sx_RP.step (pc2 := 26) (ls2 := [(0, .ref ga), (1, .ref gb)]) (st2 := [.ref gb, .ref ga]) (w3 := w23) rfl rfl ?_
  refine sx_RP.gg (k := 3) hI24 hb rfl rfl (by decide) (show _ = 29 from rfl) ?_
  obtain ⟨x31, hx32, ex33⟩ : inR (fi w23 gb 3) 3 := hI24.gk (k := 3) hb (by decide)
  rw [ex33]
  refine sx_RP.xG (k := 3) hI24 hg rfl rfl (by decide) rfl (inR.n (show x31 ≤ 3 by omega)) (show _ = 32 from rfl) (fun w34 hI35 hs36 hv37 hr38 => ?_)
  have ex39 := (fi_same 0 (hs36 gb (by omega))).trans ex28
  have ex40 := (fi_same 1 (hs36 gb (by omega))).trans ex29
  have ex41 := (fi_same 2 (hs36 gb (by omega))).trans ex30
  have ex42 := (fi_same 3 (hs36 gb (by omega))).trans ex33
  refine sx_RP.step (pc2 := 33) (ls2 := [(0, .ref ga), (1, .ref gb)]) (st2 := [.ref ga]) (w3 := w34) rfl rfl ?_
  refine sx_RP.step (pc2 := 34) (ls2 := [(0, .ref ga), (1, .ref gb)]) (st2 := [.ref gb, .ref ga]) (w3 := w34) rfl rfl ?_
  refine sx_RP.gg (k := 4) hI35 hb rfl rfl (by decide) (show _ = 37 from rfl) ?_
  refine sx_RP.xG (k := 4) hI35 hg rfl rfl (by decide) rfl trivial (show _ = 40 from rfl) (fun w43 hI44 hs45 hv46 hr47 => ?_)
  have ex48 := (fi_same 0 (hs45 gb (by omega))).trans ex39
  have ex49 := (fi_same 1 (hs45 gb (by omega))).trans ex40
  have ex50 := (fi_same 2 (hs45 gb (by omega))).trans ex41
  have ex51 := (fi_same 3 (hs45 gb (by omega))).trans ex42
  refine sx_RP.step (pc2 := 41) (ls2 := [(0, .ref ga), (1, .ref gb)]) (st2 := [.ref ga]) (w3 := w43) rfl rfl ?_
  refine sx_RP.step (pc2 := 42) (ls2 := [(0, .ref ga), (1, .ref gb)]) (st2 := [.ref gb, .ref ga]) (w3 := w43) rfl rfl ?_
  refine sx_RP.gg (k := 5) hI44 hb rfl rfl (by decide) (show _ = 45 from rfl) ?_
  obtain ⟨x52, hx53, ex54⟩ : inR (fi w43 gb 5) 1 := hI44.gk (k := 5) hb (by decide)
  rw [ex54]
  refine sx_RP.xG (k := 5) hI44 hg rfl rfl (by decide) rfl (inR.n (show x52 ≤ 1 by omega)) (show _ = 48 from rfl) (fun w55 hI56 hs57 hv58 hr59 => ?_)
  have ex60 := (fi_same 0 (hs57 gb (by omega))).trans ex48
  have ex61 := (fi_same 1 (hs57 gb (by omega))).trans ex49
  have ex62 := (fi_same 2 (hs57 gb (by omega))).trans ex50
  have ex63 := (fi_same 3 (hs57 gb (by omega))).trans ex51
  have ex64 := (fi_same 5 (hs57 gb (by omega))).trans ex54
  refine sx_RP.ret (r := none) rfl rfl ?_
  have e0 : fi w55 ga 0 = fi w gb 0 := (hr59 0 (by decide)).trans ((hr47 0 (by decide)).trans ((hr38 0 (by decide)).trans ((hr27 0 (by decide)).trans ((hr17 0 (by decide)).trans (hv7.trans (ex3.symm))))))
  have e1 : fi w55 ga 1 = fi w gb 1 := (hr59 1 (by decide)).trans ((hr47 1 (by decide)).trans ((hr38 1 (by decide)).trans ((hr27 1 (by decide)).trans (hv16.trans ((ex12.symm).trans ((fi_same 1 (hs6 gb (Ne.symm hne))).trans (rfl)))))))
  have e2 : fi w55 ga 2 = fi w gb 2 := (hr59 2 (by decide)).trans ((hr47 2 (by decide)).trans ((hr38 2 (by decide)).trans (hv26.trans ((ex22.symm).trans ((fi_same 2 (hs15 gb (Ne.symm hne))).trans ((fi_same 2 (hs6 gb (Ne.symm hne))).trans (rfl)))))))
  have e3 : fi w55 ga 3 = fi w gb 3 := (hr59 3 (by decide)).trans ((hr47 3 (by decide)).trans (hv37.trans ((ex33.symm).trans ((fi_same 3 (hs25 gb (Ne.symm hne))).trans ((fi_same 3 (hs15 gb (Ne.symm hne))).trans ((fi_same 3 (hs6 gb (Ne.symm hne))).trans (rfl)))))))
  have e4 : fi w55 ga 4 = fi w gb 4 := (hr59 4 (by decide)).trans (hv46.trans ((rfl).trans ((fi_same 4 (hs36 gb (Ne.symm hne))).trans ((fi_same 4 (hs25 gb (Ne.symm hne))).trans ((fi_same 4 (hs15 gb (Ne.symm hne))).trans ((fi_same 4 (hs6 gb (Ne.symm hne))).trans (rfl)))))))
  have e5 : fi w55 ga 5 = fi w gb 5 := hv58.trans ((ex54.symm).trans ((fi_same 5 (hs45 gb (Ne.symm hne))).trans ((fi_same 5 (hs36 gb (Ne.symm hne))).trans ((fi_same 5 (hs25 gb (Ne.symm hne))).trans ((fi_same 5 (hs15 gb (Ne.symm hne))).trans ((fi_same 5 (hs6 gb (Ne.symm hne))).trans (rfl)))))))
  exact ⟨⟨rfl, fun k hk => by rcases (show k = 0 ∨ k = 1 ∨ k = 2 ∨ k = 3 ∨ k = 4 ∨ k = 5 by omega) with rfl | rfl | rfl | rfl | rfl | rfl <;> assumption⟩, hI56, fun b hb => (hs57 b hb).trans ((hs45 b hb).trans ((hs36 b hb).trans ((hs25 b hb).trans ((hs15 b hb).trans ((hs6 b hb).trans (rfl))))))⟩
def TK (A B n j : Nat) (w0 w : List sx_C) : Prop := Out A w0 w ∧ ia w (A + 1) = ia w0 (B + 1) ∧ fj w A 1 = fj w0 B 1 ∧ fi w A 3 = nI n ∧ ∀ i, i < j → ∀ k, k < 6 → fi w (A + 4 + i) k = fi w0 (B + 4 + i) k
set_option maxRecDepth 20000 in
set_option maxHeartbeats 4000000 in
theorem X50e {xs : Option (List Int32)} {d n : Nat} {w w0 : List sx_C} (hI : WI w) {A B : Nat} (hA : isA A) (hB : isA B) (hAB : A + 14 ≤ B ∨ B + 14 ≤ A) (hn : fi w0 B 3 = nI n) (hn1 : n ≤ 10) (h0 : TK A B n n w0 w) : sx_RP xs (d + 1) 50 62 [(0, .ref A), (1, .ref B), (2, .int (nI n))] [] w (fun r w2 => r = none ∧ WI w2 ∧ Took A B w0 w2) := by
  refine sx_RP.step (pc2 := 63) (ls2 := [(0, .ref A), (1, .ref B), (2, .int (nI n))]) (st2 := [.ref B]) (w3 := w) rfl rfl ?_
  refine sx_RP.gref (k := 4) (b := B + 3) hI hB rfl rfl (by omega) (show _ = 66 from rfl) ?_
  refine sx_RP.step (pc2 := 67) (ls2 := [(0, .ref A), (1, .ref B), (2, .int (nI n))]) (st2 := [.int 0, .ref (B + 3)]) (w3 := w) rfl rfl ?_
  refine sx_RP.step (pc2 := 68) (ls2 := [(0, .ref A), (1, .ref B), (2, .int (nI n))]) (st2 := [.ref A, .int 0, .ref (B + 3)]) (w3 := w) rfl rfl ?_
  refine sx_RP.gref (k := 4) (b := A + 3) hI hA rfl rfl (by omega) (show _ = 71 from rfl) ?_
  refine sx_RP.step (pc2 := 72) (ls2 := [(0, .ref A), (1, .ref B), (2, .int (nI n))]) (st2 := [.int 0, .ref (A + 3), .int 0, .ref (B + 3)]) (w3 := w) rfl rfl ?_
  refine sx_RP.step (pc2 := 74) (ls2 := [(0, .ref A), (1, .ref B), (2, .int (nI n))]) (st2 := [.int 9, .int 0, .ref (A + 3), .int 0, .ref (B + 3)]) (w3 := w) rfl rfl ?_
  refine sx_RP.xAD (A := A) (B := B) hI hA hB rfl rfl rfl (show _ = 77 from rfl) (fun w1 hI2 hs3 hv4 => ?_)
  refine sx_RP.step (pc2 := 78) (ls2 := [(0, .ref A), (1, .ref B), (2, .int (nI n))]) (st2 := [.ref A]) (w3 := w1) rfl rfl ?_
  refine sx_RP.step (pc2 := 79) (ls2 := [(0, .ref A), (1, .ref B), (2, .int (nI n))]) (st2 := [.ref B, .ref A]) (w3 := w1) rfl rfl ?_
  refine sx_RP.gc (k := 5) hI2 hB rfl rfl (by omega) (show _ = 82 from rfl) ?_
  obtain ⟨x5, hx6, ex7⟩ : inR (fi w1 B 5) 9 := (hI2.c hB).2
  rw [ex7]
  refine sx_RP.xC (k := 5) hI2 hA rfl rfl (by omega) rfl (inR.n (show x5 ≤ 9 by omega)) (show _ = 85 from rfl) (fun w8 hI9 hs10 hv11 hr12 hj13 => ?_)
  have ex14 := (fi_same 5 (hs10 B (by omega))).trans ex7
  refine sx_RP.step (pc2 := 86) (ls2 := [(0, .ref A), (1, .ref B), (2, .int (nI n))]) (st2 := [.ref A]) (w3 := w8) rfl rfl ?_
  refine sx_RP.step (pc2 := 87) (ls2 := [(0, .ref A), (1, .ref B), (2, .int (nI n))]) (st2 := [.ref B, .ref A]) (w3 := w8) rfl rfl ?_
  refine sx_RP.gc (k := 6) hI9 hB rfl rfl (by omega) (show _ = 90 from rfl) ?_
  refine sx_RP.xC (k := 6) hI9 hA rfl rfl (by omega) rfl trivial (show _ = 93 from rfl) (fun w15 hI16 hs17 hv18 hr19 hj20 => ?_)
  have ex21 := (fi_same 5 (hs17 B (by omega))).trans ex14
  have ex22 := (hr19 5 (by decide)).trans hv11
  refine sx_RP.step (pc2 := 94) (ls2 := [(0, .ref A), (1, .ref B), (2, .int (nI n))]) (st2 := [.ref A]) (w3 := w15) rfl rfl ?_
  refine sx_RP.step (pc2 := 95) (ls2 := [(0, .ref A), (1, .ref B), (2, .int (nI n))]) (st2 := [.ref B, .ref A]) (w3 := w15) rfl rfl ?_
  refine sx_RP.gc (k := 7) hI16 hB rfl rfl (by omega) (show _ = 98 from rfl) ?_
  refine sx_RP.xC (k := 7) hI16 hA rfl rfl (by omega) rfl trivial (show _ = 101 from rfl) (fun w23 hI24 hs25 hv26 hr27 hj28 => ?_)
  have ex29 := (fi_same 5 (hs25 B (by omega))).trans ex21
  have ex30 := (hr27 5 (by decide)).trans ex22
  have ex31 := (hr27 6 (by decide)).trans hv18
  refine sx_RP.step (pc2 := 102) (ls2 := [(0, .ref A), (1, .ref B), (2, .int (nI n))]) (st2 := [.ref A]) (w3 := w23) rfl rfl ?_
  refine sx_RP.step (pc2 := 103) (ls2 := [(0, .ref A), (1, .ref B), (2, .int (nI n))]) (st2 := [.ref B, .ref A]) (w3 := w23) rfl rfl ?_
  refine sx_RP.gc (k := 8) hI24 hB rfl rfl (by omega) (show _ = 106 from rfl) ?_
  refine sx_RP.xC (k := 8) hI24 hA rfl rfl (by omega) rfl trivial (show _ = 109 from rfl) (fun w32 hI33 hs34 hv35 hr36 hj37 => ?_)
  have ex38 := (fi_same 5 (hs34 B (by omega))).trans ex29
  have ex39 := (hr36 5 (by decide)).trans ex30
  have ex40 := (hr36 6 (by decide)).trans ex31
  have ex41 := (hr36 7 (by decide)).trans hv26
  refine sx_RP.step (pc2 := 110) (ls2 := [(0, .ref A), (1, .ref B), (2, .int (nI n))]) (st2 := [.ref A]) (w3 := w32) rfl rfl ?_
  refine sx_RP.step (pc2 := 111) (ls2 := [(0, .ref A), (1, .ref B), (2, .int (nI n))]) (st2 := [.ref B, .ref A]) (w3 := w32) rfl rfl ?_
  refine sx_RP.gc (k := 9) hI33 hB rfl rfl (by omega) (show _ = 114 from rfl) ?_
  refine sx_RP.xC (k := 9) hI33 hA rfl rfl (by omega) rfl trivial (show _ = 117 from rfl) (fun w42 hI43 hs44 hv45 hr46 hj47 => ?_)
  have ex48 := (fi_same 5 (hs44 B (by omega))).trans ex38
  have ex49 := (hr46 5 (by decide)).trans ex39
  have ex50 := (hr46 6 (by decide)).trans ex40
  have ex51 := (hr46 7 (by decide)).trans ex41
  have ex52 := (hr46 8 (by decide)).trans hv35
  refine sx_RP.step (pc2 := 118) (ls2 := [(0, .ref A), (1, .ref B), (2, .int (nI n))]) (st2 := [.ref A]) (w3 := w42) rfl rfl ?_
  refine sx_RP.step (pc2 := 119) (ls2 := [(0, .ref A), (1, .ref B), (2, .int (nI n))]) (st2 := [.ref B, .ref A]) (w3 := w42) rfl rfl ?_
  refine sx_RP.gc (k := 10) hI43 hB rfl rfl (by omega) (show _ = 122 from rfl) ?_
  refine sx_RP.xC (k := 10) hI43 hA rfl rfl (by omega) rfl trivial (show _ = 125 from rfl) (fun w53 hI54 hs55 hv56 hr57 hj58 => ?_)
  have ex59 := (fi_same 5 (hs55 B (by omega))).trans ex48
  have ex60 := (hr57 5 (by decide)).trans ex49
  have ex61 := (hr57 6 (by decide)).trans ex50
  have ex62 := (hr57 7 (by decide)).trans ex51
  have ex63 := (hr57 8 (by decide)).trans ex52
  have ex64 := (hr57 9 (by decide)).trans hv45
  refine sx_RP.ret (r := none) rfl rfl ?_
  refine ⟨rfl, hI54, (Out.st (Out.st (Out.st (Out.st (Out.st (Out.st (Out.st h0.1 hs3 (by omega)) hs10 (by omega)) hs17 (by omega)) hs25 (by omega)) hs34 (by omega)) hs44 (by omega)) hs55 (by omega)), ((ia_of (hs55 (A + 1) (by omega))).trans ((ia_of (hs44 (A + 1) (by omega))).trans ((ia_of (hs34 (A + 1) (by omega))).trans ((ia_of (hs25 (A + 1) (by omega))).trans ((ia_of (hs17 (A + 1) (by omega))).trans ((ia_of (hs10 (A + 1) (by omega))).trans ((ia_of (hs3 (A + 1) (by omega))).trans (rfl)))))))).trans h0.2.1, ((hj58).trans ((hj47).trans ((hj37).trans ((hj28).trans ((hj20).trans ((hj13).trans ((fj_same 1 (hs3 (A) (by omega))).trans (rfl)))))))).trans h0.2.2.1, ?_, ((ia_of (hs55 (A + 3) (by omega))).trans ((ia_of (hs44 (A + 3) (by omega))).trans ((ia_of (hs34 (A + 3) (by omega))).trans ((ia_of (hs25 (A + 3) (by omega))).trans ((ia_of (hs17 (A + 3) (by omega))).trans ((ia_of (hs10 (A + 3) (by omega))).trans (rfl))))))).trans (hv4.trans (ia_of (h0.1 (B + 3) (by omega)))), ?_⟩
  · intro k hk
    rcases (show k = 3 ∨ k = 5 ∨ k = 6 ∨ k = 7 ∨ k = 8 ∨ k = 9 ∨ k = 10 by omega) with rfl | rfl | rfl | rfl | rfl | rfl | rfl
    · exact ((hr57 3 (by decide)).trans ((hr46 3 (by decide)).trans ((hr36 3 (by decide)).trans ((hr27 3 (by decide)).trans ((hr19 3 (by decide)).trans ((hr12 3 (by decide)).trans ((fi_same 3 (hs3 (A) (by omega))).trans (rfl)))))))).trans (h0.2.2.2.1.trans hn.symm)
    · exact ((hr57 5 (by decide)).trans ((hr46 5 (by decide)).trans ((hr36 5 (by decide)).trans ((hr27 5 (by decide)).trans ((hr19 5 (by decide)).trans (rfl)))))).trans (hv11.trans ((ex7.symm).trans (((fi_same 5 (hs3 (B) (by omega))).trans (rfl)).trans (fi_same 5 (h0.1 B (by omega))))))
    · exact ((hr57 6 (by decide)).trans ((hr46 6 (by decide)).trans ((hr36 6 (by decide)).trans ((hr27 6 (by decide)).trans (rfl))))).trans (hv18.trans ((rfl).trans (((fi_same 6 (hs10 (B) (by omega))).trans ((fi_same 6 (hs3 (B) (by omega))).trans (rfl))).trans (fi_same 6 (h0.1 B (by omega))))))
    · exact ((hr57 7 (by decide)).trans ((hr46 7 (by decide)).trans ((hr36 7 (by decide)).trans (rfl)))).trans (hv26.trans ((rfl).trans (((fi_same 7 (hs17 (B) (by omega))).trans ((fi_same 7 (hs10 (B) (by omega))).trans ((fi_same 7 (hs3 (B) (by omega))).trans (rfl)))).trans (fi_same 7 (h0.1 B (by omega))))))
    · exact ((hr57 8 (by decide)).trans ((hr46 8 (by decide)).trans (rfl))).trans (hv35.trans ((rfl).trans (((fi_same 8 (hs25 (B) (by omega))).trans ((fi_same 8 (hs17 (B) (by omega))).trans ((fi_same 8 (hs10 (B) (by omega))).trans ((fi_same 8 (hs3 (B) (by omega))).trans (rfl))))).trans (fi_same 8 (h0.1 B (by omega))))))
    · exact ((hr57 9 (by decide)).trans (rfl)).trans (hv45.trans ((rfl).trans (((fi_same 9 (hs34 (B) (by omega))).trans ((fi_same 9 (hs25 (B) (by omega))).trans ((fi_same 9 (hs17 (B) (by omega))).trans ((fi_same 9 (hs10 (B) (by omega))).trans ((fi_same 9 (hs3 (B) (by omega))).trans (rfl)))))).trans (fi_same 9 (h0.1 B (by omega))))))
    · exact (rfl).trans (hv56.trans ((rfl).trans (((fi_same 10 (hs44 (B) (by omega))).trans ((fi_same 10 (hs34 (B) (by omega))).trans ((fi_same 10 (hs25 (B) (by omega))).trans ((fi_same 10 (hs17 (B) (by omega))).trans ((fi_same 10 (hs10 (B) (by omega))).trans ((fi_same 10 (hs3 (B) (by omega))).trans (rfl))))))).trans (fi_same 10 (h0.1 B (by omega))))))
  · intro i hi k hk
    rw [hn, iN_n (by omega)] at hi
    exact (fi_same k (hs55 (A + 4 + i) (by omega))).trans ((fi_same k (hs44 (A + 4 + i) (by omega))).trans ((fi_same k (hs34 (A + 4 + i) (by omega))).trans ((fi_same k (hs25 (A + 4 + i) (by omega))).trans ((fi_same k (hs17 (A + 4 + i) (by omega))).trans ((fi_same k (hs10 (A + 4 + i) (by omega))).trans ((fi_same k (hs3 (A + 4 + i) (by omega))).trans (h0.2.2.2.2 i hi k hk)))))))
set_option maxRecDepth 20000 in
set_option maxHeartbeats 4000000 in
theorem X50L {xs : Option (List Int32)} {d n : Nat} {w0 : List sx_C} {A B : Nat} (hA : isA A) (hB : isA B) (hAB : A + 14 ≤ B ∨ B + 14 ≤ A) (hn : fi w0 B 3 = nI n) (hn1 : n ≤ 10) : ∀ (fz j : Nat) (w : List sx_C), j + fz = n → WI w → TK A B n j w0 w → sx_RP xs (d + 1) 50 33 [(0, .ref A), (1, .ref B), (2, .int (nI j))] [] w (fun r w2 => r = none ∧ WI w2 ∧ Took A B w0 w2)
  | 0, j, w, hj, hI, h0 => by
    obtain rfl : j = n := by omega
    refine sx_RP.step (pc2 := 34) (ls2 := [(0, .ref A), (1, .ref B), (2, .int (nI j))]) (st2 := [.int (nI j)]) (w3 := w) rfl rfl ?_
    refine sx_RP.step (pc2 := 35) (ls2 := [(0, .ref A), (1, .ref B), (2, .int (nI j))]) (st2 := [.ref A, .int (nI j)]) (w3 := w) rfl rfl ?_
    refine sx_RP.gc (k := 3) hI hA rfl rfl (by omega) (show _ = 38 from rfl) ?_
    rw [h0.2.2.2.1]
    refine sx_RP.br (p1 := 62) (l1 := [(0, .ref A), (1, .ref B), (2, .int (nI j))]) (s1 := []) (v1 := w) rfl rfl (fun _ => ?_) (fun q => absurd (nI_le (a := j) (b := j) (by omega) (by omega)) (of_decide_eq_false q))
    exact sx_RP.ls (sx_lr.cons rfl (sx_lr.cons rfl (sx_lr.cons rfl sx_lr.nil))) (X50e hI hA hB hAB hn hn1 h0)
  | fz + 1, j, w, hj, hI, h0 => by
    refine sx_RP.step (pc2 := 34) (ls2 := [(0, .ref A), (1, .ref B), (2, .int (nI j))]) (st2 := [.int (nI j)]) (w3 := w) rfl rfl ?_
    refine sx_RP.step (pc2 := 35) (ls2 := [(0, .ref A), (1, .ref B), (2, .int (nI j))]) (st2 := [.ref A, .int (nI j)]) (w3 := w) rfl rfl ?_
    refine sx_RP.gc (k := 3) hI hA rfl rfl (by omega) (show _ = 38 from rfl) ?_
    rw [h0.2.2.2.1]
    refine sx_RP.br (p2 := 41) (l2 := [(0, .ref A), (1, .ref B), (2, .int (nI j))]) (s2 := []) (v2 := w) rfl rfl (fun q => absurd (of_decide_eq_true q) (fun z => absurd ((nI_leI (a := n) (b := j) (by omega) (by omega)).mp z) (by omega))) (fun _ => ?_)
    refine sx_RP.step (pc2 := 42) (ls2 := [(0, .ref A), (1, .ref B), (2, .int (nI j))]) (st2 := [.ref A]) (w3 := w) rfl rfl ?_
    refine sx_RP.gref (k := 2) (b := A + 2) hI hA rfl rfl (by omega) (show _ = 45 from rfl) ?_
    refine sx_RP.step (pc2 := 46) (ls2 := [(0, .ref A), (1, .ref B), (2, .int (nI j))]) (st2 := [.int (nI j), .ref (A + 2)]) (w3 := w) rfl rfl ?_
    refine sx_RP.ald (v := .ref (A + 4 + j)) rfl (hI.1.aG hA) rfl (grA_at (show j < 10 by omega)) (show _ = 47 from rfl) ?_
    refine sx_RP.step (pc2 := 48) (ls2 := [(0, .ref A), (1, .ref B), (2, .int (nI j))]) (st2 := [.ref B, .ref (A + 4 + j)]) (w3 := w) rfl rfl ?_
    refine sx_RP.gref (k := 2) (b := B + 2) hI hB rfl rfl (by omega) (show _ = 51 from rfl) ?_
    refine sx_RP.step (pc2 := 52) (ls2 := [(0, .ref A), (1, .ref B), (2, .int (nI j))]) (st2 := [.int (nI j), .ref (B + 2), .ref (A + 4 + j)]) (w3 := w) rfl rfl ?_
    refine sx_RP.ald (v := .ref (B + 4 + j)) rfl (hI.1.aG hB) rfl (grA_at (show j < 10 by omega)) (show _ = 53 from rfl) ?_
    refine sx_RP.callp (as2 := [.ref (A + 4 + j), .ref (B + 4 + j)]) (rest2 := []) rfl rfl (sx_inv_v2 (mi := 50) (k := 59) (st := [.ref (B + 4 + j), .ref (A + 4 + j)]) (w := w) rfl rfl (hI.1.oG (gAd.of hA (show j < 10 by omega))) rfl rfl rfl) rfl rfl rfl (X51 hI (gAd.of hA (show j < 10 by omega)) (gAd.of hB (show j < 10 by omega)) (by omega)) (show _ = 56 from rfl) ?_
    rintro r4 w1 ⟨⟨rfl, he3⟩, hI2, hs4⟩
    show sx_RP _ _ _ _ _ [] _ _
    refine sx_RP.step (pc2 := 59) (ls2 := [(2, .int ((nI j) + 1)), (0, .ref A), (1, .ref B)]) (st2 := []) (w3 := w1) rfl rfl ?_
    rw [nI_1 j]
    refine sx_RP.step (pc2 := 33) (ls2 := [(2, .int (nI (j + 1))), (0, .ref A), (1, .ref B)]) (st2 := []) (w3 := w1) rfl rfl ?_
    refine sx_RP.ls (sx_lr.cons rfl (sx_lr.cons rfl (sx_lr.cons rfl sx_lr.nil))) (X50L hA hB hAB hn hn1 fz (j + 1) w1 (by omega) hI2 ⟨h0.1.st hs4 (by omega), (ia_of (hs4 (A + 1) (by omega))).trans h0.2.1, (fj_same 1 (hs4 A (by omega))).trans h0.2.2.1, (fi_same 3 (hs4 A (by omega))).trans h0.2.2.2.1, fun i hi k hk => ?_⟩)
    by_cases e : i = j
    · subst e
      exact (he3 k hk).trans (fi_same k (h0.1 (B + 4 + i) (by omega)))
    · exact (fi_same k (hs4 (A + 4 + i) (by omega))).trans (h0.2.2.2.2 i (by omega) k hk)
set_option maxRecDepth 20000 in
set_option maxHeartbeats 4000000 in
theorem X50 {xs : Option (List Int32)} {d : Nat} {w : List sx_C} (hI : WI w) {A B : Nat} (hA : isA A) (hB : isA B) (hAB : A + 14 ≤ B ∨ B + 14 ≤ A) : sx_RP xs (d + 1) 50 0 (lv_args 0 [.ref A, .ref B]) [] w (fun r w2 => r = none ∧ WI w2 ∧ Took A B w w2) := by
  obtain ⟨n, hn1, hn⟩ := (hI.c hB).1
  refine sx_RP.step (pc2 := 1) (ls2 := [(0, .ref A), (1, .ref B)]) (st2 := [.ref B]) (w3 := w) rfl rfl ?_
  refine sx_RP.gref (k := 0) (b := B + 1) hI hB rfl rfl (by omega) (show _ = 4 from rfl) ?_
  refine sx_RP.step (pc2 := 5) (ls2 := [(0, .ref A), (1, .ref B)]) (st2 := [.int 0, .ref (B + 1)]) (w3 := w) rfl rfl ?_
  refine sx_RP.step (pc2 := 6) (ls2 := [(0, .ref A), (1, .ref B)]) (st2 := [.ref A, .int 0, .ref (B + 1)]) (w3 := w) rfl rfl ?_
  refine sx_RP.gref (k := 0) (b := A + 1) hI hA rfl rfl (by omega) (show _ = 9 from rfl) ?_
  refine sx_RP.step (pc2 := 10) (ls2 := [(0, .ref A), (1, .ref B)]) (st2 := [.int 0, .ref (A + 1), .int 0, .ref (B + 1)]) (w3 := w) rfl rfl ?_
  refine sx_RP.step (pc2 := 12) (ls2 := [(0, .ref A), (1, .ref B)]) (st2 := [.int 48, .int 0, .ref (A + 1), .int 0, .ref (B + 1)]) (w3 := w) rfl rfl ?_
  refine sx_RP.xAS (A := A) (B := B) hI hA hB rfl rfl rfl (show _ = 15 from rfl) (fun w1 hI2 hs3 hv4 => ?_)
  have ex5 := (fi_same 3 (hs3 B (by omega))).trans hn
  refine sx_RP.step (pc2 := 16) (ls2 := [(0, .ref A), (1, .ref B)]) (st2 := [.ref A]) (w3 := w1) rfl rfl ?_
  refine sx_RP.step (pc2 := 17) (ls2 := [(0, .ref A), (1, .ref B)]) (st2 := [.ref B, .ref A]) (w3 := w1) rfl rfl ?_
  refine sx_RP.gw hI2 hB rfl rfl (show _ = 20 from rfl) ?_
  refine sx_RP.xW hI2 hA rfl rfl rfl (show _ = 23 from rfl) (fun w6 hI7 hs8 hv9 hr10 => ?_)
  have ex11 := (fi_same 3 (hs8 B (by omega))).trans ex5
  refine sx_RP.step (pc2 := 24) (ls2 := [(0, .ref A), (1, .ref B)]) (st2 := [.ref A]) (w3 := w6) rfl rfl ?_
  refine sx_RP.step (pc2 := 25) (ls2 := [(0, .ref A), (1, .ref B)]) (st2 := [.ref B, .ref A]) (w3 := w6) rfl rfl ?_
  refine sx_RP.gc (k := 3) hI7 hB rfl rfl (by omega) (show _ = 28 from rfl) ?_
  rw [ex11]
  refine sx_RP.xC (k := 3) hI7 hA rfl rfl (by omega) rfl (inR.n (show n ≤ 10 by omega)) (show _ = 31 from rfl) (fun w12 hI13 hs14 hv15 hr16 hj17 => ?_)
  have ex18 := (fi_same 3 (hs14 B (by omega))).trans ex11
  refine sx_RP.step (pc2 := 32) (ls2 := [(0, .ref A), (1, .ref B)]) (st2 := [.int 0]) (w3 := w12) rfl rfl ?_
  refine sx_RP.step (pc2 := 33) (ls2 := [(2, .int 0), (0, .ref A), (1, .ref B)]) (st2 := []) (w3 := w12) rfl rfl ?_
  exact sx_RP.ls (sx_lr.cons rfl (sx_lr.cons rfl (sx_lr.cons rfl sx_lr.nil))) (X50L hA hB hAB hn hn1 n 0 w12 (by omega) hI13 ⟨(Out.st (Out.st (Out.st Out.rf hs3 (by omega)) hs8 (by omega)) hs14 (by omega)), ((ia_of (hs14 (A + 1) (by omega))).trans ((ia_of (hs8 (A + 1) (by omega))).trans (rfl))).trans hv4, ((hj17).trans (rfl)).trans (hv9.trans (fj_same 1 (hs3 B (by omega)))), hv15, fun i hi => absurd hi (by omega)⟩)
end
-- 86.actC.lean.txt
section
section SXOP
variable {t : BT} {a1 a2 a3 a4 : Int32}
end SXOP
theorem idx_get {v : Int32} {n : Nat} (h : 0 ≤ v ∧ v < nI n) (hn : n ≤ 10) : ∃ x, x < n ∧ v = nI x := by
  obtain ⟨x, hx, rfl⟩ := nI_of (Int32.not_lt.mpr h.1)
  exact ⟨x, (nI_ltI hx (by omega)).mp h.2, rfl⟩
set_option maxRecDepth 20000 in
set_option maxHeartbeats 4000000 in
theorem p24y {xs : Option (List Int32)} {d n : Nat} {w : List sx_C} (hI : WI w) {A : Nat} (hA : isA A) (en : fi w A 3 = nI n) (hn : n ≤ 10) (hh : n < 10) : sx_RU xs d 24 0 (lv_args 0 [.ref A]) [] w (some (.int 1)) w := by
  have h : sx_RP xs d 24 0 (lv_args 0 [.ref A]) [] w (fun r w2 => r = some (.int 1) ∧ w2 = w) := by
    refine sx_RP.step (pc2 := 1) (ls2 := [(0, .ref A)]) (st2 := [.ref A]) (w3 := w) rfl rfl ?_
    refine sx_RP.gc (k := 3) hI hA rfl rfl (by omega) (show _ = 4 from rfl) ?_
    rw [en]
    refine sx_RP.step (pc2 := 6) (ls2 := [(0, .ref A)]) (st2 := [.int 10, .int (nI n)]) (w3 := w) rfl rfl ?_
    refine sx_RP.br (p1 := 13) (l1 := [(0, .ref A)]) (s1 := []) (v1 := w) (p2 := 9) (l2 := [(0, .ref A)]) (s2 := []) (v2 := w) rfl rfl (fun q1 => ?_) (fun q1 => ?_)
    · replace q1 := of_decide_eq_true q1
      replace q1 := (nI_leI (a := 10) (b := n) (by omega) (by omega)).mp q1
      refine sx_RP.step (pc2 := 14) (ls2 := [(0, .ref A)]) (st2 := [.int 0]) (w3 := w) rfl rfl ?_
      refine sx_RP.ret (r := (some (.int 0))) rfl rfl ?_
      first | exact ⟨rfl, rfl⟩ | (exfalso; omega)
    · replace q1 := of_decide_eq_false q1
      replace q1 := mt (nI_leI (a := 10) (b := n) (by omega) (by omega)).mpr q1
      refine sx_RP.step (pc2 := 10) (ls2 := [(0, .ref A)]) (st2 := [.int 1]) (w3 := w) rfl rfl ?_
      refine sx_RP.step (pc2 := 14) (ls2 := [(0, .ref A)]) (st2 := [.int 1]) (w3 := w) rfl rfl ?_
      refine sx_RP.ret (r := (some (.int 1))) rfl rfl ?_
      first | exact ⟨rfl, rfl⟩ | (exfalso; omega)
  obtain ⟨r, w2, h1, rfl, rfl⟩ := h
  exact h1
set_option maxRecDepth 20000 in
set_option maxHeartbeats 4000000 in
theorem p24n {xs : Option (List Int32)} {d n : Nat} {w : List sx_C} (hI : WI w) {A : Nat} (hA : isA A) (en : fi w A 3 = nI n) (hn : n ≤ 10) (hh : ¬ n < 10) : sx_RU xs d 24 0 (lv_args 0 [.ref A]) [] w (some (.int 0)) w := by
  have h : sx_RP xs d 24 0 (lv_args 0 [.ref A]) [] w (fun r w2 => r = some (.int 0) ∧ w2 = w) := by
    refine sx_RP.step (pc2 := 1) (ls2 := [(0, .ref A)]) (st2 := [.ref A]) (w3 := w) rfl rfl ?_
    refine sx_RP.gc (k := 3) hI hA rfl rfl (by omega) (show _ = 4 from rfl) ?_
    rw [en]
    refine sx_RP.step (pc2 := 6) (ls2 := [(0, .ref A)]) (st2 := [.int 10, .int (nI n)]) (w3 := w) rfl rfl ?_
    refine sx_RP.br (p1 := 13) (l1 := [(0, .ref A)]) (s1 := []) (v1 := w) (p2 := 9) (l2 := [(0, .ref A)]) (s2 := []) (v2 := w) rfl rfl (fun q1 => ?_) (fun q1 => ?_)
    · replace q1 := of_decide_eq_true q1
      replace q1 := (nI_leI (a := 10) (b := n) (by omega) (by omega)).mp q1
      refine sx_RP.step (pc2 := 14) (ls2 := [(0, .ref A)]) (st2 := [.int 0]) (w3 := w) rfl rfl ?_
      refine sx_RP.ret (r := (some (.int 0))) rfl rfl ?_
      first | exact ⟨rfl, rfl⟩ | (exfalso; omega)
    · replace q1 := of_decide_eq_false q1
      replace q1 := mt (nI_leI (a := 10) (b := n) (by omega) (by omega)).mpr q1
      refine sx_RP.step (pc2 := 10) (ls2 := [(0, .ref A)]) (st2 := [.int 1]) (w3 := w) rfl rfl ?_
      refine sx_RP.step (pc2 := 14) (ls2 := [(0, .ref A)]) (st2 := [.int 1]) (w3 := w) rfl rfl ?_
      refine sx_RP.ret (r := (some (.int 1))) rfl rfl ?_
      first | exact ⟨rfl, rfl⟩ | (exfalso; omega)
  obtain ⟨r, w2, h1, rfl, rfl⟩ := h
  exact h1
set_option maxRecDepth 20000 in
set_option maxHeartbeats 4000000 in
theorem p63y {xs : Option (List Int32)} {d n : Nat} {w : List sx_C} (hI : WI w) {A : Nat} (hA : isA A) (en : fi w A 5 = nI n) (hn : n ≤ 9) (hh : n < 9) : sx_RU xs d 63 0 (lv_args 0 [.ref A]) [] w (some (.int 1)) w := by
  have h : sx_RP xs d 63 0 (lv_args 0 [.ref A]) [] w (fun r w2 => r = some (.int 1) ∧ w2 = w) := by
    refine sx_RP.step (pc2 := 1) (ls2 := [(0, .ref A)]) (st2 := [.ref A]) (w3 := w) rfl rfl ?_
    refine sx_RP.gc (k := 5) hI hA rfl rfl (by omega) (show _ = 4 from rfl) ?_
    rw [en]
    refine sx_RP.step (pc2 := 6) (ls2 := [(0, .ref A)]) (st2 := [.int 9, .int (nI n)]) (w3 := w) rfl rfl ?_
    refine sx_RP.br (p1 := 13) (l1 := [(0, .ref A)]) (s1 := []) (v1 := w) (p2 := 9) (l2 := [(0, .ref A)]) (s2 := []) (v2 := w) rfl rfl (fun q1 => ?_) (fun q1 => ?_)
    · replace q1 := of_decide_eq_true q1
      replace q1 := (nI_leI (a := 9) (b := n) (by omega) (by omega)).mp q1
      refine sx_RP.step (pc2 := 14) (ls2 := [(0, .ref A)]) (st2 := [.int 0]) (w3 := w) rfl rfl ?_
      refine sx_RP.ret (r := (some (.int 0))) rfl rfl ?_
      first | exact ⟨rfl, rfl⟩ | (exfalso; omega)
    · replace q1 := of_decide_eq_false q1
      replace q1 := mt (nI_leI (a := 9) (b := n) (by omega) (by omega)).mpr q1
      refine sx_RP.step (pc2 := 10) (ls2 := [(0, .ref A)]) (st2 := [.int 1]) (w3 := w) rfl rfl ?_
      refine sx_RP.step (pc2 := 14) (ls2 := [(0, .ref A)]) (st2 := [.int 1]) (w3 := w) rfl rfl ?_
      refine sx_RP.ret (r := (some (.int 1))) rfl rfl ?_
      first | exact ⟨rfl, rfl⟩ | (exfalso; omega)
  obtain ⟨r, w2, h1, rfl, rfl⟩ := h
  exact h1
set_option maxRecDepth 20000 in
set_option maxHeartbeats 4000000 in
theorem p63n {xs : Option (List Int32)} {d n : Nat} {w : List sx_C} (hI : WI w) {A : Nat} (hA : isA A) (en : fi w A 5 = nI n) (hn : n ≤ 9) (hh : ¬ n < 9) : sx_RU xs d 63 0 (lv_args 0 [.ref A]) [] w (some (.int 0)) w := by
  have h : sx_RP xs d 63 0 (lv_args 0 [.ref A]) [] w (fun r w2 => r = some (.int 0) ∧ w2 = w) := by
    refine sx_RP.step (pc2 := 1) (ls2 := [(0, .ref A)]) (st2 := [.ref A]) (w3 := w) rfl rfl ?_
    refine sx_RP.gc (k := 5) hI hA rfl rfl (by omega) (show _ = 4 from rfl) ?_
    rw [en]
    refine sx_RP.step (pc2 := 6) (ls2 := [(0, .ref A)]) (st2 := [.int 9, .int (nI n)]) (w3 := w) rfl rfl ?_
    refine sx_RP.br (p1 := 13) (l1 := [(0, .ref A)]) (s1 := []) (v1 := w) (p2 := 9) (l2 := [(0, .ref A)]) (s2 := []) (v2 := w) rfl rfl (fun q1 => ?_) (fun q1 => ?_)
    · replace q1 := of_decide_eq_true q1
      replace q1 := (nI_leI (a := 9) (b := n) (by omega) (by omega)).mp q1
      refine sx_RP.step (pc2 := 14) (ls2 := [(0, .ref A)]) (st2 := [.int 0]) (w3 := w) rfl rfl ?_
      refine sx_RP.ret (r := (some (.int 0))) rfl rfl ?_
      first | exact ⟨rfl, rfl⟩ | (exfalso; omega)
    · replace q1 := of_decide_eq_false q1
      replace q1 := mt (nI_leI (a := 9) (b := n) (by omega) (by omega)).mpr q1
      refine sx_RP.step (pc2 := 10) (ls2 := [(0, .ref A)]) (st2 := [.int 1]) (w3 := w) rfl rfl ?_
      refine sx_RP.step (pc2 := 14) (ls2 := [(0, .ref A)]) (st2 := [.int 1]) (w3 := w) rfl rfl ?_
      refine sx_RP.ret (r := (some (.int 1))) rfl rfl ?_
      first | exact ⟨rfl, rfl⟩ | (exfalso; omega)
  obtain ⟨r, w2, h1, rfl, rfl⟩ := h
  exact h1
set_option maxRecDepth 20000 in
set_option maxHeartbeats 4000000 in
theorem p27y {xs : Option (List Int32)} {d n : Nat} {w : List sx_C} (hI : WI w) {A : Nat} (hA : isA A) (en : fi w A 3 = nI n) (hn : n ≤ 10) {x : Int32} (hh : 0 ≤ x ∧ x < nI n) : sx_RU xs d 27 0 (lv_args 0 [.ref A, .int x]) [] w (some (.int 1)) w := by
  have h : sx_RP xs d 27 0 (lv_args 0 [.ref A, .int x]) [] w (fun r w2 => r = some (.int 1) ∧ w2 = w) := by
    refine sx_RP.step (pc2 := 1) (ls2 := [(0, .ref A), (1, .int x)]) (st2 := [.int x]) (w3 := w) rfl rfl ?_
    refine sx_RP.br (p1 := 16) (l1 := [(0, .ref A), (1, .int x)]) (s1 := []) (v1 := w) (p2 := 4) (l2 := [(0, .ref A), (1, .int x)]) (s2 := []) (v2 := w) rfl rfl (fun q1 => ?_) (fun q1 => ?_)
    · replace q1 := of_decide_eq_true q1
      refine sx_RP.step (pc2 := 17) (ls2 := [(0, .ref A), (1, .int x)]) (st2 := [.int 0]) (w3 := w) rfl rfl ?_
      refine sx_RP.ret (r := (some (.int 0))) rfl rfl ?_
      first | exact ⟨rfl, rfl⟩ | exact absurd ⟨Int32.not_lt.mp (by assumption), by first | assumption | exact Int32.not_le.mp (by assumption)⟩ hh | exact absurd (by assumption) (Int32.not_lt.mpr hh.1) | exact absurd (by assumption) (Int32.not_le.mpr hh.2)
    · replace q1 := of_decide_eq_false q1
      refine sx_RP.step (pc2 := 5) (ls2 := [(0, .ref A), (1, .int x)]) (st2 := [.int x]) (w3 := w) rfl rfl ?_
      refine sx_RP.step (pc2 := 6) (ls2 := [(0, .ref A), (1, .int x)]) (st2 := [.ref A, .int x]) (w3 := w) rfl rfl ?_
      refine sx_RP.gc (k := 3) hI hA rfl rfl (by omega) (show _ = 9 from rfl) ?_
      rw [en]
      refine sx_RP.br (p1 := 16) (l1 := [(0, .ref A), (1, .int x)]) (s1 := []) (v1 := w) (p2 := 12) (l2 := [(0, .ref A), (1, .int x)]) (s2 := []) (v2 := w) rfl rfl (fun q2 => ?_) (fun q2 => ?_)
      · replace q2 := of_decide_eq_true q2
        refine sx_RP.step (pc2 := 17) (ls2 := [(0, .ref A), (1, .int x)]) (st2 := [.int 0]) (w3 := w) rfl rfl ?_
        refine sx_RP.ret (r := (some (.int 0))) rfl rfl ?_
        first | exact ⟨rfl, rfl⟩ | exact absurd ⟨Int32.not_lt.mp (by assumption), by first | assumption | exact Int32.not_le.mp (by assumption)⟩ hh | exact absurd (by assumption) (Int32.not_lt.mpr hh.1) | exact absurd (by assumption) (Int32.not_le.mpr hh.2)
      · replace q2 := of_decide_eq_false q2
        refine sx_RP.step (pc2 := 13) (ls2 := [(0, .ref A), (1, .int x)]) (st2 := [.int 1]) (w3 := w) rfl rfl ?_
        refine sx_RP.step (pc2 := 17) (ls2 := [(0, .ref A), (1, .int x)]) (st2 := [.int 1]) (w3 := w) rfl rfl ?_
        refine sx_RP.ret (r := (some (.int 1))) rfl rfl ?_
        first | exact ⟨rfl, rfl⟩ | exact absurd ⟨Int32.not_lt.mp (by assumption), by first | assumption | exact Int32.not_le.mp (by assumption)⟩ hh | exact absurd (by assumption) (Int32.not_lt.mpr hh.1) | exact absurd (by assumption) (Int32.not_le.mpr hh.2)
  obtain ⟨r, w2, h1, rfl, rfl⟩ := h
  exact h1
set_option maxRecDepth 20000 in
set_option maxHeartbeats 4000000 in
theorem p27n {xs : Option (List Int32)} {d n : Nat} {w : List sx_C} (hI : WI w) {A : Nat} (hA : isA A) (en : fi w A 3 = nI n) (hn : n ≤ 10) {x : Int32} (hh : ¬ (0 ≤ x ∧ x < nI n)) : sx_RU xs d 27 0 (lv_args 0 [.ref A, .int x]) [] w (some (.int 0)) w := by
  have h : sx_RP xs d 27 0 (lv_args 0 [.ref A, .int x]) [] w (fun r w2 => r = some (.int 0) ∧ w2 = w) := by
    refine sx_RP.step (pc2 := 1) (ls2 := [(0, .ref A), (1, .int x)]) (st2 := [.int x]) (w3 := w) rfl rfl ?_
    refine sx_RP.br (p1 := 16) (l1 := [(0, .ref A), (1, .int x)]) (s1 := []) (v1 := w) (p2 := 4) (l2 := [(0, .ref A), (1, .int x)]) (s2 := []) (v2 := w) rfl rfl (fun q1 => ?_) (fun q1 => ?_)
    · replace q1 := of_decide_eq_true q1
      refine sx_RP.step (pc2 := 17) (ls2 := [(0, .ref A), (1, .int x)]) (st2 := [.int 0]) (w3 := w) rfl rfl ?_
      refine sx_RP.ret (r := (some (.int 0))) rfl rfl ?_
      first | exact ⟨rfl, rfl⟩ | exact absurd ⟨Int32.not_lt.mp (by assumption), by first | assumption | exact Int32.not_le.mp (by assumption)⟩ hh | exact absurd (by assumption) (Int32.not_lt.mpr hh.1) | exact absurd (by assumption) (Int32.not_le.mpr hh.2)
    · replace q1 := of_decide_eq_false q1
      refine sx_RP.step (pc2 := 5) (ls2 := [(0, .ref A), (1, .int x)]) (st2 := [.int x]) (w3 := w) rfl rfl ?_
      refine sx_RP.step (pc2 := 6) (ls2 := [(0, .ref A), (1, .int x)]) (st2 := [.ref A, .int x]) (w3 := w) rfl rfl ?_
      refine sx_RP.gc (k := 3) hI hA rfl rfl (by omega) (show _ = 9 from rfl) ?_
      rw [en]
      refine sx_RP.br (p1 := 16) (l1 := [(0, .ref A), (1, .int x)]) (s1 := []) (v1 := w) (p2 := 12) (l2 := [(0, .ref A), (1, .int x)]) (s2 := []) (v2 := w) rfl rfl (fun q2 => ?_) (fun q2 => ?_)
      · replace q2 := of_decide_eq_true q2
        refine sx_RP.step (pc2 := 17) (ls2 := [(0, .ref A), (1, .int x)]) (st2 := [.int 0]) (w3 := w) rfl rfl ?_
        refine sx_RP.ret (r := (some (.int 0))) rfl rfl ?_
        first | exact ⟨rfl, rfl⟩ | exact absurd ⟨Int32.not_lt.mp (by assumption), by first | assumption | exact Int32.not_le.mp (by assumption)⟩ hh | exact absurd (by assumption) (Int32.not_lt.mpr hh.1) | exact absurd (by assumption) (Int32.not_le.mpr hh.2)
      · replace q2 := of_decide_eq_false q2
        refine sx_RP.step (pc2 := 13) (ls2 := [(0, .ref A), (1, .int x)]) (st2 := [.int 1]) (w3 := w) rfl rfl ?_
        refine sx_RP.step (pc2 := 17) (ls2 := [(0, .ref A), (1, .int x)]) (st2 := [.int 1]) (w3 := w) rfl rfl ?_
        refine sx_RP.ret (r := (some (.int 1))) rfl rfl ?_
        first | exact ⟨rfl, rfl⟩ | exact absurd ⟨Int32.not_lt.mp (by assumption), by first | assumption | exact Int32.not_le.mp (by assumption)⟩ hh | exact absurd (by assumption) (Int32.not_lt.mpr hh.1) | exact absurd (by assumption) (Int32.not_le.mpr hh.2)
  obtain ⟨r, w2, h1, rfl, rfl⟩ := h
  exact h1
set_option maxRecDepth 20000 in
set_option maxHeartbeats 4000000 in
theorem p66y {xs : Option (List Int32)} {d n : Nat} {w : List sx_C} (hI : WI w) {A : Nat} (hA : isA A) (en : fi w A 5 = nI n) (hn : n ≤ 9) {x : Int32} (hh : 0 ≤ x ∧ x < nI n) : sx_RU xs d 66 0 (lv_args 0 [.ref A, .int x]) [] w (some (.int 1)) w := by
  have h : sx_RP xs d 66 0 (lv_args 0 [.ref A, .int x]) [] w (fun r w2 => r = some (.int 1) ∧ w2 = w) := by
    refine sx_RP.step (pc2 := 1) (ls2 := [(0, .ref A), (1, .int x)]) (st2 := [.int x]) (w3 := w) rfl rfl ?_
    refine sx_RP.br (p1 := 16) (l1 := [(0, .ref A), (1, .int x)]) (s1 := []) (v1 := w) (p2 := 4) (l2 := [(0, .ref A), (1, .int x)]) (s2 := []) (v2 := w) rfl rfl (fun q1 => ?_) (fun q1 => ?_)
    · replace q1 := of_decide_eq_true q1
      refine sx_RP.step (pc2 := 17) (ls2 := [(0, .ref A), (1, .int x)]) (st2 := [.int 0]) (w3 := w) rfl rfl ?_
      refine sx_RP.ret (r := (some (.int 0))) rfl rfl ?_
      first | exact ⟨rfl, rfl⟩ | exact absurd ⟨Int32.not_lt.mp (by assumption), by first | assumption | exact Int32.not_le.mp (by assumption)⟩ hh | exact absurd (by assumption) (Int32.not_lt.mpr hh.1) | exact absurd (by assumption) (Int32.not_le.mpr hh.2)
    · replace q1 := of_decide_eq_false q1
      refine sx_RP.step (pc2 := 5) (ls2 := [(0, .ref A), (1, .int x)]) (st2 := [.int x]) (w3 := w) rfl rfl ?_
      refine sx_RP.step (pc2 := 6) (ls2 := [(0, .ref A), (1, .int x)]) (st2 := [.ref A, .int x]) (w3 := w) rfl rfl ?_
      refine sx_RP.gc (k := 5) hI hA rfl rfl (by omega) (show _ = 9 from rfl) ?_
      rw [en]
      refine sx_RP.br (p1 := 16) (l1 := [(0, .ref A), (1, .int x)]) (s1 := []) (v1 := w) (p2 := 12) (l2 := [(0, .ref A), (1, .int x)]) (s2 := []) (v2 := w) rfl rfl (fun q2 => ?_) (fun q2 => ?_)
      · replace q2 := of_decide_eq_true q2
        refine sx_RP.step (pc2 := 17) (ls2 := [(0, .ref A), (1, .int x)]) (st2 := [.int 0]) (w3 := w) rfl rfl ?_
        refine sx_RP.ret (r := (some (.int 0))) rfl rfl ?_
        first | exact ⟨rfl, rfl⟩ | exact absurd ⟨Int32.not_lt.mp (by assumption), by first | assumption | exact Int32.not_le.mp (by assumption)⟩ hh | exact absurd (by assumption) (Int32.not_lt.mpr hh.1) | exact absurd (by assumption) (Int32.not_le.mpr hh.2)
      · replace q2 := of_decide_eq_false q2
        refine sx_RP.step (pc2 := 13) (ls2 := [(0, .ref A), (1, .int x)]) (st2 := [.int 1]) (w3 := w) rfl rfl ?_
        refine sx_RP.step (pc2 := 17) (ls2 := [(0, .ref A), (1, .int x)]) (st2 := [.int 1]) (w3 := w) rfl rfl ?_
        refine sx_RP.ret (r := (some (.int 1))) rfl rfl ?_
        first | exact ⟨rfl, rfl⟩ | exact absurd ⟨Int32.not_lt.mp (by assumption), by first | assumption | exact Int32.not_le.mp (by assumption)⟩ hh | exact absurd (by assumption) (Int32.not_lt.mpr hh.1) | exact absurd (by assumption) (Int32.not_le.mpr hh.2)
  obtain ⟨r, w2, h1, rfl, rfl⟩ := h
  exact h1
set_option maxRecDepth 20000 in
set_option maxHeartbeats 4000000 in
theorem p66n {xs : Option (List Int32)} {d n : Nat} {w : List sx_C} (hI : WI w) {A : Nat} (hA : isA A) (en : fi w A 5 = nI n) (hn : n ≤ 9) {x : Int32} (hh : ¬ (0 ≤ x ∧ x < nI n)) : sx_RU xs d 66 0 (lv_args 0 [.ref A, .int x]) [] w (some (.int 0)) w := by
  have h : sx_RP xs d 66 0 (lv_args 0 [.ref A, .int x]) [] w (fun r w2 => r = some (.int 0) ∧ w2 = w) := by
    refine sx_RP.step (pc2 := 1) (ls2 := [(0, .ref A), (1, .int x)]) (st2 := [.int x]) (w3 := w) rfl rfl ?_
    refine sx_RP.br (p1 := 16) (l1 := [(0, .ref A), (1, .int x)]) (s1 := []) (v1 := w) (p2 := 4) (l2 := [(0, .ref A), (1, .int x)]) (s2 := []) (v2 := w) rfl rfl (fun q1 => ?_) (fun q1 => ?_)
    · replace q1 := of_decide_eq_true q1
      refine sx_RP.step (pc2 := 17) (ls2 := [(0, .ref A), (1, .int x)]) (st2 := [.int 0]) (w3 := w) rfl rfl ?_
      refine sx_RP.ret (r := (some (.int 0))) rfl rfl ?_
      first | exact ⟨rfl, rfl⟩ | exact absurd ⟨Int32.not_lt.mp (by assumption), by first | assumption | exact Int32.not_le.mp (by assumption)⟩ hh | exact absurd (by assumption) (Int32.not_lt.mpr hh.1) | exact absurd (by assumption) (Int32.not_le.mpr hh.2)
    · replace q1 := of_decide_eq_false q1
      refine sx_RP.step (pc2 := 5) (ls2 := [(0, .ref A), (1, .int x)]) (st2 := [.int x]) (w3 := w) rfl rfl ?_
      refine sx_RP.step (pc2 := 6) (ls2 := [(0, .ref A), (1, .int x)]) (st2 := [.ref A, .int x]) (w3 := w) rfl rfl ?_
      refine sx_RP.gc (k := 5) hI hA rfl rfl (by omega) (show _ = 9 from rfl) ?_
      rw [en]
      refine sx_RP.br (p1 := 16) (l1 := [(0, .ref A), (1, .int x)]) (s1 := []) (v1 := w) (p2 := 12) (l2 := [(0, .ref A), (1, .int x)]) (s2 := []) (v2 := w) rfl rfl (fun q2 => ?_) (fun q2 => ?_)
      · replace q2 := of_decide_eq_true q2
        refine sx_RP.step (pc2 := 17) (ls2 := [(0, .ref A), (1, .int x)]) (st2 := [.int 0]) (w3 := w) rfl rfl ?_
        refine sx_RP.ret (r := (some (.int 0))) rfl rfl ?_
        first | exact ⟨rfl, rfl⟩ | exact absurd ⟨Int32.not_lt.mp (by assumption), by first | assumption | exact Int32.not_le.mp (by assumption)⟩ hh | exact absurd (by assumption) (Int32.not_lt.mpr hh.1) | exact absurd (by assumption) (Int32.not_le.mpr hh.2)
      · replace q2 := of_decide_eq_false q2
        refine sx_RP.step (pc2 := 13) (ls2 := [(0, .ref A), (1, .int x)]) (st2 := [.int 1]) (w3 := w) rfl rfl ?_
        refine sx_RP.step (pc2 := 17) (ls2 := [(0, .ref A), (1, .int x)]) (st2 := [.int 1]) (w3 := w) rfl rfl ?_
        refine sx_RP.ret (r := (some (.int 1))) rfl rfl ?_
        first | exact ⟨rfl, rfl⟩ | exact absurd ⟨Int32.not_lt.mp (by assumption), by first | assumption | exact Int32.not_le.mp (by assumption)⟩ hh | exact absurd (by assumption) (Int32.not_lt.mpr hh.1) | exact absurd (by assumption) (Int32.not_le.mpr hh.2)
  obtain ⟨r, w2, h1, rfl, rfl⟩ := h
  exact h1
end
-- 87.imgC.lean.txt
section
def byteOf (x : Int32) (i : Nat) : Int32 := (x >>> (nI (8 * i) &&& 31)) &&& 255
def bytesOf (x : Int32) (n : Nat) : List Int32 := (List.range n).map (fun j => byteOf x (n - 1 - j))
def feeA (t : BT) (a2 : Int32) : Int32 := feedA t.2.2.2.length a2
def feeU (t : BT) (a1 a2 : Int32) : BT := if 1 ≤ a2 ∧ a2 ≤ 4 then (if t.2.2.2.length + iN a2 ≤ 120 then (t.1, t.2.1, t.2.2.1, t.2.2.2 ++ bytesOf a1 (iN a2)) else t) else t
section SXEE
variable {xs : Option (List Int32)} {d mi pc pc2 a idx p : Nat} {ls : sx_L} {r : List Value} {w w0 : List sx_C} {P : Option Value → List sx_C → Prop}
theorem sx_RP.xK {v : Int32} (hI : WI w) (hi : sx_ins mi pc = some (.putfield idx, 3)) (hq : sx_lk (sx_fl (sx_own mi)) idx = some (0, 3, p)) (hf : sx_fin mi 0 3 = true) (hv : inR v 1) (hp : pc + 3 = pc2) (kk : ∀ w2, WI w2 → Same 0 w w2 → fi w2 0 3 = v → sx_RP xs d mi pc2 ls r w2 P) : sx_RP xs d mi pc ls (.int v :: .ref 0 :: r) w P := by
  have hw := hI.1.o0
  exact sx_RP.pf hi hq hw (by rw [hf, show sx_okv (sx_ty 0 3) (.int v) = (v == 0 || v == 1) from rfl, inR.bo hv]; rfl) rfl rfl hp (kk _ (hI.set hw rfl (cOK.o hv)) Same.set (by unfold fi; rw [fs_set hw]; rfl))
theorem sx_RP.xN {v : Int32} (hI : WI w) (hi : sx_ins mi pc = some (.putfield idx, 3)) (hq : sx_lk (sx_fl (sx_own mi)) idx = some (4, 1, p)) (hf : sx_fin mi 4 1 = true) (hv : inR v 120) (hp : pc + 3 = pc2) (kk : ∀ w2, WI w2 → Same 96 w w2 → fi w2 96 1 = v → sx_RP xs d mi pc2 ls r w2 P) : sx_RP xs d mi pc ls (.int v :: .ref 96 :: r) w P := by
  have hw := hI.1.o96
  have q := hI.t
  exact sx_RP.pf hi hq hw (by rw [hf]; rfl) rfl rfl hp (kk _ (hI.set hw rfl (cOK.t ⟨hv, q.2⟩)) Same.set (by unfold fi; rw [fs_set hw]; rfl))
end SXEE
theorem keeps_01 {w : List sx_C} (hI : WI w) : fi w 0 3 = 0 ∨ fi w 0 3 = 1 := by
  obtain ⟨j, hj, e⟩ := hI.kp
  rcases (show j = 0 ∨ j = 1 by omega) with rfl | rfl
  · exact Or.inl e
  · exact Or.inr e
set_option maxRecDepth 20000 in
set_option maxHeartbeats 4000000 in
theorem X91 {xs : Option (List Int32)} {d : Nat} {w : List sx_C} (hI : WI w) {n : Nat} (en : fi w 96 1 = nI n) : sx_RP xs d 91 0 (lv_args 0 [.ref 96]) [] w (fun r w2 => (r = some (.int (nI n)) ∧ fi w2 96 1 = 0) ∧ WI w2 ∧ Same 96 w w2) := by
  refine sx_RP.step (pc2 := 1) (ls2 := [(0, .ref 96)]) (st2 := [.ref 96]) (w3 := w) rfl rfl ?_
  refine sx_RP.gt (k := 1) hI rfl rfl (by decide) (show _ = 4 from rfl) ?_
  rw [en]
  refine sx_RP.step (pc2 := 5) (ls2 := [(1, .int (nI n)), (0, .ref 96)]) (st2 := []) (w3 := w) rfl rfl ?_
  refine sx_RP.step (pc2 := 6) (ls2 := [(1, .int (nI n)), (0, .ref 96)]) (st2 := [.ref 96]) (w3 := w) rfl rfl ?_
  refine sx_RP.step (pc2 := 7) (ls2 := [(1, .int (nI n)), (0, .ref 96)]) (st2 := [.int 0, .ref 96]) (w3 := w) rfl rfl ?_
  refine sx_RP.xN hI rfl rfl rfl ⟨0, by decide, rfl⟩ (show _ = 10 from rfl) (fun w1 hI2 hs3 hv4 => ?_)
  refine sx_RP.step (pc2 := 11) (ls2 := [(1, .int (nI n)), (0, .ref 96)]) (st2 := [.int (nI n)]) (w3 := w1) rfl rfl ?_
  refine sx_RP.ret (r := (some (.int (nI n)))) rfl rfl ?_
  exact ⟨⟨rfl, hv4⟩, hI2, hs3⟩
theorem FCb_tap {w w2 : List sx_C} (hI : WI w) (h : ∀ a, a < 96 → w2[a]? = w[a]?) : FCb w2 = ((FCb w).1, (FCb w).2.1, (FCb w).2.2.1, tapC w2) := by
  unfold FCb
  rw [fi_same 3 (h 0 (by omega)), campB_same (A := 1) (fun a h1 h2 => h a (by omega)) (hI.many (Or.inl rfl)), campB_same (A := 15) (fun a h1 h2 => h a (by omega)) (hI.many (Or.inr (Or.inl rfl)))]
theorem tapC_len {w : List sx_C} {n : Nat} (en : fi w 96 1 = nI n) (hn : n ≤ 120) : (FCb w).2.2.2.length = n := by
  show (tapC w).length = n
  unfold tapC
  rw [List.length_map, List.length_range, en, iN_n (by omega)]
theorem tapC_nil {w : List sx_C} (en : fi w 96 1 = 0) : tapC w = [] := by
  unfold tapC
  rw [en]
  rfl
end
-- 88.rowM.lean.txt
section
theorem gd_ne {l : List Int32} {i k : Nat} {v : Int32} (h : k ≠ i) : (l.set i v).getD k 0 = l.getD k 0 := by
  rw [List.getD_eq_getElem?_getD, List.getElem?_set_ne (Ne.symm h), ← List.getD_eq_getElem?_getD]
theorem gd_eq {l : List Int32} {i : Nat} {v : Int32} (h : i < l.length) : (l.set i v).getD i 0 = v := by rw [gd_set h, if_pos rfl]
theorem Same.tr {a : Nat} {w w1 w2 : List sx_C} (h : Same a w w1) (h2 : Same a w1 w2) : Same a w w2 := fun b hb => (h2 b hb).trans (h b hb)
def addRow (l : List Int32) (n : Nat) (k s c y : Int32) : List Int32 := ((((((l.set 1 (nI (n + 1))).set (103 + 6 * n + 0) k).set (103 + 6 * n + 1) s).set (103 + 6 * n + 2) c).set (103 + 6 * n + 3) y).set (103 + 6 * n + 4) 0).set (103 + 6 * n + 5) 0
set_option maxRecDepth 20000 in
set_option maxHeartbeats 4000000 in
theorem x138 {xs : Option (List Int32)} {d g c : Nat} {w : List sx_C} (hI : WI w) (hg : g < 10) (hc : c < 6) : sx_RU xs d 138 0 (lv_args 0 [.ref 111, .int (nI g), .int (nI c)]) [] w (some (.int ((ia w 112).getD (103 + 6 * g + c) 0))) w := by
  have h : sx_RP xs d 138 0 (lv_args 0 [.ref 111, .int (nI g), .int (nI c)]) [] w (fun r w2 => r = some (.int ((ia w 112).getD (103 + 6 * g + c) 0)) ∧ w2 = w) := by
    refine sx_RP.step (pc2 := 1) (ls2 := [(0, .ref 111), (1, .int (nI g)), (2, .int (nI c))]) (st2 := [.ref 111]) (w3 := w) rfl rfl ?_
    refine sx_RP.gf (v := .ref 112) rfl rfl hI.1.o111 rfl rfl (show _ = 4 from rfl) ?_
    refine sx_RP.step (pc2 := 6) (ls2 := [(0, .ref 111), (1, .int (nI g)), (2, .int (nI c))]) (st2 := [.int 103, .ref 112]) (w3 := w) rfl rfl ?_
    refine sx_RP.step (pc2 := 8) (ls2 := [(0, .ref 111), (1, .int (nI g)), (2, .int (nI c))]) (st2 := [.int 6, .int 103, .ref 112]) (w3 := w) rfl rfl ?_
    refine sx_RP.step (pc2 := 9) (ls2 := [(0, .ref 111), (1, .int (nI g)), (2, .int (nI c))]) (st2 := [.int (nI g), .int 6, .int 103, .ref 112]) (w3 := w) rfl rfl ?_
    refine sx_RP.step (pc2 := 10) (ls2 := [(0, .ref 111), (1, .int (nI g)), (2, .int (nI c))]) (st2 := [.int (6 * (nI g)), .int 103, .ref 112]) (w3 := w) rfl rfl ?_
    rw [show (6 * (nI g) : Int32) = nI (6 * g) from nI_mul 6 g]
    refine sx_RP.step (pc2 := 11) (ls2 := [(0, .ref 111), (1, .int (nI g)), (2, .int (nI c))]) (st2 := [.int (103 + (nI (6 * g))), .ref 112]) (w3 := w) rfl rfl ?_
    rw [show (103 + (nI (6 * g)) : Int32) = nI (103 + (6 * g)) from nI_add 103 (6 * g)]
    refine sx_RP.step (pc2 := 12) (ls2 := [(0, .ref 111), (1, .int (nI g)), (2, .int (nI c))]) (st2 := [.int (nI c), .int (nI (103 + (6 * g))), .ref 112]) (w3 := w) rfl rfl ?_
    refine sx_RP.step (pc2 := 13) (ls2 := [(0, .ref 111), (1, .int (nI g)), (2, .int (nI c))]) (st2 := [.int ((nI (103 + (6 * g))) + (nI c)), .ref 112]) (w3 := w) rfl rfl ?_
    rw [show ((nI (103 + (6 * g))) + (nI c) : Int32) = nI ((103 + (6 * g)) + c) from nI_add (103 + (6 * g)) c]
    refine sx_RP.ild (c := ((103 + (6 * g)) + c)) rfl hI.1.a112.1 hI.1.a112.2 (sx_in_nI (show ((103 + (6 * g)) + c) < 172 by omega) (by decide)) (nI_clamp (by omega)) (show _ = 14 from rfl) ?_
    refine sx_RP.ret (r := (some (.int ((ia w 112).getD (((103 + (6 * g)) + c)) 0)))) rfl rfl ?_
    exact ⟨rfl, rfl⟩
  obtain ⟨r, w2, h1, rfl, rfl⟩ := h
  exact h1
set_option maxRecDepth 20000 in
set_option maxHeartbeats 4000000 in
theorem X154 {xs : Option (List Int32)} {d : Nat} {w : List sx_C} (hI : WI w) {g c : Nat} (hg : g < 10) (hc : c < 6) {v : Int32} (hv : eOK (103 + 6 * g + c) v) : sx_RP xs (d + 1) 154 0 (lv_args 0 [.ref 111, .int (nI g), .int (nI c), .int v]) [] w (fun r w2 => (r = some (.int ((ia w 112).getD (103 + 6 * g + c) 0)) ∧ ia w2 112 = (ia w 112).set (103 + 6 * g + c) v) ∧ WI w2 ∧ Same 112 w w2) := by
  refine sx_RP.step (pc2 := 1) (ls2 := [(0, .ref 111), (1, .int (nI g)), (2, .int (nI c)), (3, .int v)]) (st2 := [.ref 111]) (w3 := w) rfl rfl ?_
  refine sx_RP.step (pc2 := 2) (ls2 := [(0, .ref 111), (1, .int (nI g)), (2, .int (nI c)), (3, .int v)]) (st2 := [.int (nI g), .ref 111]) (w3 := w) rfl rfl ?_
  refine sx_RP.step (pc2 := 3) (ls2 := [(0, .ref 111), (1, .int (nI g)), (2, .int (nI c)), (3, .int v)]) (st2 := [.int (nI c), .int (nI g), .ref 111]) (w3 := w) rfl rfl ?_
  refine sx_RP.cu (as := [.ref 111, .int (nI g), .int (nI c)]) (rest2 := []) (st3 := [.int ((ia w 112).getD (103 + 6 * g + c) 0)]) rfl rfl (sx_inv_v2 (mi := 154) (k := 59) (st := [.int (nI c), .int (nI g), .ref 111]) (w := w) rfl rfl hI.1.o111 rfl rfl rfl) rfl rfl (x138 hI hg hc) rfl ?_
  refine sx_RP.step (pc2 := 8) (ls2 := [(4, .int ((ia w 112).getD (103 + 6 * g + c) 0)), (0, .ref 111), (1, .int (nI g)), (2, .int (nI c)), (3, .int v)]) (st2 := []) (w3 := w) rfl rfl ?_
  refine sx_RP.step (pc2 := 9) (ls2 := [(4, .int ((ia w 112).getD (103 + 6 * g + c) 0)), (0, .ref 111), (1, .int (nI g)), (2, .int (nI c)), (3, .int v)]) (st2 := [.ref 111]) (w3 := w) rfl rfl ?_
  refine sx_RP.gf (v := .ref 112) rfl rfl hI.1.o111 rfl rfl (show _ = 12 from rfl) ?_
  refine sx_RP.step (pc2 := 14) (ls2 := [(4, .int ((ia w 112).getD (103 + 6 * g + c) 0)), (0, .ref 111), (1, .int (nI g)), (2, .int (nI c)), (3, .int v)]) (st2 := [.int 103, .ref 112]) (w3 := w) rfl rfl ?_
  refine sx_RP.step (pc2 := 16) (ls2 := [(4, .int ((ia w 112).getD (103 + 6 * g + c) 0)), (0, .ref 111), (1, .int (nI g)), (2, .int (nI c)), (3, .int v)]) (st2 := [.int 6, .int 103, .ref 112]) (w3 := w) rfl rfl ?_
  refine sx_RP.step (pc2 := 17) (ls2 := [(4, .int ((ia w 112).getD (103 + 6 * g + c) 0)), (0, .ref 111), (1, .int (nI g)), (2, .int (nI c)), (3, .int v)]) (st2 := [.int (nI g), .int 6, .int 103, .ref 112]) (w3 := w) rfl rfl ?_
  refine sx_RP.step (pc2 := 18) (ls2 := [(4, .int ((ia w 112).getD (103 + 6 * g + c) 0)), (0, .ref 111), (1, .int (nI g)), (2, .int (nI c)), (3, .int v)]) (st2 := [.int (6 * (nI g)), .int 103, .ref 112]) (w3 := w) rfl rfl ?_
  rw [show (6 * (nI g) : Int32) = nI (6 * g) from nI_mul 6 g]
  refine sx_RP.step (pc2 := 19) (ls2 := [(4, .int ((ia w 112).getD (103 + 6 * g + c) 0)), (0, .ref 111), (1, .int (nI g)), (2, .int (nI c)), (3, .int v)]) (st2 := [.int (103 + (nI (6 * g))), .ref 112]) (w3 := w) rfl rfl ?_
  rw [show (103 + (nI (6 * g)) : Int32) = nI (103 + (6 * g)) from nI_add 103 (6 * g)]
  refine sx_RP.step (pc2 := 20) (ls2 := [(4, .int ((ia w 112).getD (103 + 6 * g + c) 0)), (0, .ref 111), (1, .int (nI g)), (2, .int (nI c)), (3, .int v)]) (st2 := [.int (nI c), .int (nI (103 + (6 * g))), .ref 112]) (w3 := w) rfl rfl ?_
  refine sx_RP.step (pc2 := 21) (ls2 := [(4, .int ((ia w 112).getD (103 + 6 * g + c) 0)), (0, .ref 111), (1, .int (nI g)), (2, .int (nI c)), (3, .int v)]) (st2 := [.int ((nI (103 + (6 * g))) + (nI c)), .ref 112]) (w3 := w) rfl rfl ?_
  rw [show ((nI (103 + (6 * g))) + (nI c) : Int32) = nI ((103 + (6 * g)) + c) from nI_add (103 + (6 * g)) c]
  refine sx_RP.step (pc2 := 22) (ls2 := [(4, .int ((ia w 112).getD (103 + 6 * g + c) 0)), (0, .ref 111), (1, .int (nI g)), (2, .int (nI c)), (3, .int v)]) (st2 := [.int v, .int (nI ((103 + (6 * g)) + c)), .ref 112]) (w3 := w) rfl rfl ?_
  refine sx_RP.xM (k := ((103 + (6 * g)) + c)) hI (by decide) rfl (by omega) hv (show _ = 23 from rfl) (fun w1 hI2 hs3 hv4 => ?_)
  refine sx_RP.step (pc2 := 25) (ls2 := [(4, .int ((ia w 112).getD (103 + 6 * g + c) 0)), (0, .ref 111), (1, .int (nI g)), (2, .int (nI c)), (3, .int v)]) (st2 := [.int ((ia w 112).getD (103 + 6 * g + c) 0)]) (w3 := w1) rfl rfl ?_
  refine sx_RP.ret (r := (some (.int ((ia w 112).getD (103 + 6 * g + c) 0)))) rfl rfl ?_
  exact ⟨⟨rfl, hv4⟩, hI2, hs3⟩
theorem Same.rf {a : Nat} {w : List sx_C} : Same a w w := fun _ _ => rfl
set_option maxRecDepth 20000 in
set_option maxHeartbeats 4000000 in
theorem X153 {xs : Option (List Int32)} {d : Nat} {w : List sx_C} (hI : WI w) {n k s c y : Nat} (hn : n ≤ 9) (en : (ia w 112).getD 1 0 = nI n) (hk : k ≤ 5) (hs : s ≤ 1) (hc : c < 48) (hy : y ≤ 3) : sx_RP xs (d + 2) 153 0 (lv_args 0 [.ref 111, .int (nI k), .int (nI s), .int (nI c), .int (nI y)]) [] w (fun r w2 => (r = none ∧ ia w2 112 = addRow (ia w 112) n (nI k) (nI s) (nI c) (nI y)) ∧ WI w2 ∧ Same 112 w w2) := by
  refine sx_RP.step (pc2 := 1) (ls2 := [(0, .ref 111), (1, .int (nI k)), (2, .int (nI s)), (3, .int (nI c)), (4, .int (nI y))]) (st2 := [.ref 111]) (w3 := w) rfl rfl ?_
  refine sx_RP.gf (v := .ref 112) rfl rfl hI.1.o111 rfl rfl (show _ = 4 from rfl) ?_
  refine sx_RP.step (pc2 := 5) (ls2 := [(0, .ref 111), (1, .int (nI k)), (2, .int (nI s)), (3, .int (nI c)), (4, .int (nI y))]) (st2 := [.int 1, .ref 112]) (w3 := w) rfl rfl ?_
  refine sx_RP.ild (c := 1) rfl hI.1.a112.1 hI.1.a112.2 (sx_in_nI (show 1 < 172 by omega) (by decide)) (show (nI 1).toNatClampNeg = 1 from nI_clamp (by omega)) (show _ = 6 from rfl) ?_
  rw [en]
  refine sx_RP.step (pc2 := 8) (ls2 := [(5, .int (nI n)), (0, .ref 111), (1, .int (nI k)), (2, .int (nI s)), (3, .int (nI c)), (4, .int (nI y))]) (st2 := []) (w3 := w) rfl rfl ?_
  refine sx_RP.step (pc2 := 9) (ls2 := [(5, .int (nI n)), (0, .ref 111), (1, .int (nI k)), (2, .int (nI s)), (3, .int (nI c)), (4, .int (nI y))]) (st2 := [.ref 111]) (w3 := w) rfl rfl ?_
  refine sx_RP.gf (v := .ref 112) rfl rfl hI.1.o111 rfl rfl (show _ = 12 from rfl) ?_
  refine sx_RP.step (pc2 := 13) (ls2 := [(5, .int (nI n)), (0, .ref 111), (1, .int (nI k)), (2, .int (nI s)), (3, .int (nI c)), (4, .int (nI y))]) (st2 := [.int 1, .ref 112]) (w3 := w) rfl rfl ?_
  refine sx_RP.step (pc2 := 14) (ls2 := [(5, .int (nI n)), (0, .ref 111), (1, .int (nI k)), (2, .int (nI s)), (3, .int (nI c)), (4, .int (nI y))]) (st2 := [.int 1, .ref 112, .int 1, .ref 112]) (w3 := w) rfl rfl ?_
  refine sx_RP.ild (c := 1) rfl hI.1.a112.1 hI.1.a112.2 (sx_in_nI (show 1 < 172 by omega) (by decide)) (show (nI 1).toNatClampNeg = 1 from nI_clamp (by omega)) (show _ = 15 from rfl) ?_
  rw [en]
  refine sx_RP.step (pc2 := 16) (ls2 := [(5, .int (nI n)), (0, .ref 111), (1, .int (nI k)), (2, .int (nI s)), (3, .int (nI c)), (4, .int (nI y))]) (st2 := [.int 1, .int (nI n), .int 1, .ref 112]) (w3 := w) rfl rfl ?_
  refine sx_RP.step (pc2 := 17) (ls2 := [(5, .int (nI n)), (0, .ref 111), (1, .int (nI k)), (2, .int (nI s)), (3, .int (nI c)), (4, .int (nI y))]) (st2 := [.int ((nI n) + 1), .int 1, .ref 112]) (w3 := w) rfl rfl ?_
  rw [show ((nI n) + 1 : Int32) = nI (n + 1) from nI_add n 1]
  refine sx_RP.xM (k := 1) hI (by decide) rfl (by omega) (eOK_1 (inR.n (show (n + 1) ≤ 10 by omega))) (show _ = 18 from rfl) (fun w1 hI2 hs3 hv4 => ?_)
  have ex5 : (ia w1 112).getD 1 0 = nI (n + 1) := by rw [hv4, gd_eq (by rw [hI.1.a112.2]; omega)]
  refine sx_RP.step (pc2 := 19) (ls2 := [(5, .int (nI n)), (0, .ref 111), (1, .int (nI k)), (2, .int (nI s)), (3, .int (nI c)), (4, .int (nI y))]) (st2 := [.ref 111]) (w3 := w1) rfl rfl ?_
  refine sx_RP.step (pc2 := 21) (ls2 := [(5, .int (nI n)), (0, .ref 111), (1, .int (nI k)), (2, .int (nI s)), (3, .int (nI c)), (4, .int (nI y))]) (st2 := [.int (nI n), .ref 111]) (w3 := w1) rfl rfl ?_
  refine sx_RP.step (pc2 := 22) (ls2 := [(5, .int (nI n)), (0, .ref 111), (1, .int (nI k)), (2, .int (nI s)), (3, .int (nI c)), (4, .int (nI y))]) (st2 := [.int 0, .int (nI n), .ref 111]) (w3 := w1) rfl rfl ?_
  refine sx_RP.step (pc2 := 23) (ls2 := [(5, .int (nI n)), (0, .ref 111), (1, .int (nI k)), (2, .int (nI s)), (3, .int (nI c)), (4, .int (nI y))]) (st2 := [.int (nI k), .int 0, .int (nI n), .ref 111]) (w3 := w1) rfl rfl ?_
  refine sx_RP.callp (as2 := [.ref 111, .int (nI n), .int 0, .int (nI k)]) (rest2 := []) rfl rfl (sx_inv_v2 (mi := 153) (k := 110) (st := [.int (nI k), .int 0, .int (nI n), .ref 111]) (w := w1) rfl rfl hI2.1.o111 rfl rfl rfl) rfl rfl rfl (X154 (c := 0) hI2 (show n < 10 by omega) (by decide) (eOK_g (g := n) (c := 0) (by omega) (by decide) (inR.n (show k ≤ 5 by omega)))) (show _ = 26 from rfl) ?_
  rintro r4 w8 ⟨⟨rfl, hv6⟩, hI9, hs7⟩
  show sx_RP _ _ _ _ _ [.int ((ia w1 112).getD (103 + 6 * n + 0) 0)] _ _
  refine sx_RP.step (pc2 := 27) (ls2 := [(5, .int (nI n)), (0, .ref 111), (1, .int (nI k)), (2, .int (nI s)), (3, .int (nI c)), (4, .int (nI y))]) (st2 := []) (w3 := w8) rfl rfl ?_
  refine sx_RP.step (pc2 := 28) (ls2 := [(5, .int (nI n)), (0, .ref 111), (1, .int (nI k)), (2, .int (nI s)), (3, .int (nI c)), (4, .int (nI y))]) (st2 := [.ref 111]) (w3 := w8) rfl rfl ?_
  refine sx_RP.step (pc2 := 30) (ls2 := [(5, .int (nI n)), (0, .ref 111), (1, .int (nI k)), (2, .int (nI s)), (3, .int (nI c)), (4, .int (nI y))]) (st2 := [.int (nI n), .ref 111]) (w3 := w8) rfl rfl ?_
  refine sx_RP.step (pc2 := 31) (ls2 := [(5, .int (nI n)), (0, .ref 111), (1, .int (nI k)), (2, .int (nI s)), (3, .int (nI c)), (4, .int (nI y))]) (st2 := [.int 1, .int (nI n), .ref 111]) (w3 := w8) rfl rfl ?_
  refine sx_RP.step (pc2 := 32) (ls2 := [(5, .int (nI n)), (0, .ref 111), (1, .int (nI k)), (2, .int (nI s)), (3, .int (nI c)), (4, .int (nI y))]) (st2 := [.int (nI s), .int 1, .int (nI n), .ref 111]) (w3 := w8) rfl rfl ?_
  refine sx_RP.callp (as2 := [.ref 111, .int (nI n), .int 1, .int (nI s)]) (rest2 := []) rfl rfl (sx_inv_v2 (mi := 153) (k := 110) (st := [.int (nI s), .int 1, .int (nI n), .ref 111]) (w := w8) rfl rfl hI9.1.o111 rfl rfl rfl) rfl rfl rfl (X154 (c := 1) hI9 (show n < 10 by omega) (by decide) (eOK_g (g := n) (c := 1) (by omega) (by decide) (inR.n (show s ≤ 1 by omega)))) (show _ = 35 from rfl) ?_
  rintro r4 w12 ⟨⟨rfl, hv10⟩, hI13, hs11⟩
  show sx_RP _ _ _ _ _ [.int ((ia w8 112).getD (103 + 6 * n + 1) 0)] _ _
  refine sx_RP.step (pc2 := 36) (ls2 := [(5, .int (nI n)), (0, .ref 111), (1, .int (nI k)), (2, .int (nI s)), (3, .int (nI c)), (4, .int (nI y))]) (st2 := []) (w3 := w12) rfl rfl ?_
  refine sx_RP.step (pc2 := 37) (ls2 := [(5, .int (nI n)), (0, .ref 111), (1, .int (nI k)), (2, .int (nI s)), (3, .int (nI c)), (4, .int (nI y))]) (st2 := [.ref 111]) (w3 := w12) rfl rfl ?_
  refine sx_RP.step (pc2 := 39) (ls2 := [(5, .int (nI n)), (0, .ref 111), (1, .int (nI k)), (2, .int (nI s)), (3, .int (nI c)), (4, .int (nI y))]) (st2 := [.int (nI n), .ref 111]) (w3 := w12) rfl rfl ?_
  refine sx_RP.step (pc2 := 40) (ls2 := [(5, .int (nI n)), (0, .ref 111), (1, .int (nI k)), (2, .int (nI s)), (3, .int (nI c)), (4, .int (nI y))]) (st2 := [.int 2, .int (nI n), .ref 111]) (w3 := w12) rfl rfl ?_
  refine sx_RP.step (pc2 := 41) (ls2 := [(5, .int (nI n)), (0, .ref 111), (1, .int (nI k)), (2, .int (nI s)), (3, .int (nI c)), (4, .int (nI y))]) (st2 := [.int (nI c), .int 2, .int (nI n), .ref 111]) (w3 := w12) rfl rfl ?_
  refine sx_RP.callp (as2 := [.ref 111, .int (nI n), .int 2, .int (nI c)]) (rest2 := []) rfl rfl (sx_inv_v2 (mi := 153) (k := 110) (st := [.int (nI c), .int 2, .int (nI n), .ref 111]) (w := w12) rfl rfl hI13.1.o111 rfl rfl rfl) rfl rfl rfl (X154 (c := 2) hI13 (show n < 10 by omega) (by decide) (eOK_g (g := n) (c := 2) (by omega) (by decide) (inR.n (show c ≤ 47 by omega)))) (show _ = 44 from rfl) ?_
  rintro r4 w16 ⟨⟨rfl, hv14⟩, hI17, hs15⟩
  show sx_RP _ _ _ _ _ [.int ((ia w12 112).getD (103 + 6 * n + 2) 0)] _ _
  refine sx_RP.step (pc2 := 45) (ls2 := [(5, .int (nI n)), (0, .ref 111), (1, .int (nI k)), (2, .int (nI s)), (3, .int (nI c)), (4, .int (nI y))]) (st2 := []) (w3 := w16) rfl rfl ?_
  refine sx_RP.step (pc2 := 46) (ls2 := [(5, .int (nI n)), (0, .ref 111), (1, .int (nI k)), (2, .int (nI s)), (3, .int (nI c)), (4, .int (nI y))]) (st2 := [.ref 111]) (w3 := w16) rfl rfl ?_
  refine sx_RP.step (pc2 := 48) (ls2 := [(5, .int (nI n)), (0, .ref 111), (1, .int (nI k)), (2, .int (nI s)), (3, .int (nI c)), (4, .int (nI y))]) (st2 := [.int (nI n), .ref 111]) (w3 := w16) rfl rfl ?_
  refine sx_RP.step (pc2 := 49) (ls2 := [(5, .int (nI n)), (0, .ref 111), (1, .int (nI k)), (2, .int (nI s)), (3, .int (nI c)), (4, .int (nI y))]) (st2 := [.int 3, .int (nI n), .ref 111]) (w3 := w16) rfl rfl ?_
  refine sx_RP.step (pc2 := 51) (ls2 := [(5, .int (nI n)), (0, .ref 111), (1, .int (nI k)), (2, .int (nI s)), (3, .int (nI c)), (4, .int (nI y))]) (st2 := [.int (nI y), .int 3, .int (nI n), .ref 111]) (w3 := w16) rfl rfl ?_
  refine sx_RP.callp (as2 := [.ref 111, .int (nI n), .int 3, .int (nI y)]) (rest2 := []) rfl rfl (sx_inv_v2 (mi := 153) (k := 110) (st := [.int (nI y), .int 3, .int (nI n), .ref 111]) (w := w16) rfl rfl hI17.1.o111 rfl rfl rfl) rfl rfl rfl (X154 (c := 3) hI17 (show n < 10 by omega) (by decide) (eOK_g (g := n) (c := 3) (by omega) (by decide) (inR.n (show y ≤ 3 by omega)))) (show _ = 54 from rfl) ?_
  rintro r4 w20 ⟨⟨rfl, hv18⟩, hI21, hs19⟩
  show sx_RP _ _ _ _ _ [.int ((ia w16 112).getD (103 + 6 * n + 3) 0)] _ _
  refine sx_RP.step (pc2 := 55) (ls2 := [(5, .int (nI n)), (0, .ref 111), (1, .int (nI k)), (2, .int (nI s)), (3, .int (nI c)), (4, .int (nI y))]) (st2 := []) (w3 := w20) rfl rfl ?_
  refine sx_RP.step (pc2 := 56) (ls2 := [(5, .int (nI n)), (0, .ref 111), (1, .int (nI k)), (2, .int (nI s)), (3, .int (nI c)), (4, .int (nI y))]) (st2 := [.ref 111]) (w3 := w20) rfl rfl ?_
  refine sx_RP.step (pc2 := 58) (ls2 := [(5, .int (nI n)), (0, .ref 111), (1, .int (nI k)), (2, .int (nI s)), (3, .int (nI c)), (4, .int (nI y))]) (st2 := [.int (nI n), .ref 111]) (w3 := w20) rfl rfl ?_
  refine sx_RP.step (pc2 := 59) (ls2 := [(5, .int (nI n)), (0, .ref 111), (1, .int (nI k)), (2, .int (nI s)), (3, .int (nI c)), (4, .int (nI y))]) (st2 := [.int 4, .int (nI n), .ref 111]) (w3 := w20) rfl rfl ?_
  refine sx_RP.step (pc2 := 60) (ls2 := [(5, .int (nI n)), (0, .ref 111), (1, .int (nI k)), (2, .int (nI s)), (3, .int (nI c)), (4, .int (nI y))]) (st2 := [.int 0, .int 4, .int (nI n), .ref 111]) (w3 := w20) rfl rfl ?_
  refine sx_RP.callp (as2 := [.ref 111, .int (nI n), .int 4, .int 0]) (rest2 := []) rfl rfl (sx_inv_v2 (mi := 153) (k := 110) (st := [.int 0, .int 4, .int (nI n), .ref 111]) (w := w20) rfl rfl hI21.1.o111 rfl rfl rfl) rfl rfl rfl (X154 (c := 4) hI21 (show n < 10 by omega) (by decide) (eOK_g (g := n) (c := 4) (by omega) (by decide) trivial)) (show _ = 63 from rfl) ?_
  rintro r4 w24 ⟨⟨rfl, hv22⟩, hI25, hs23⟩
  show sx_RP _ _ _ _ _ [.int ((ia w20 112).getD (103 + 6 * n + 4) 0)] _ _
  refine sx_RP.step (pc2 := 64) (ls2 := [(5, .int (nI n)), (0, .ref 111), (1, .int (nI k)), (2, .int (nI s)), (3, .int (nI c)), (4, .int (nI y))]) (st2 := []) (w3 := w24) rfl rfl ?_
  refine sx_RP.step (pc2 := 65) (ls2 := [(5, .int (nI n)), (0, .ref 111), (1, .int (nI k)), (2, .int (nI s)), (3, .int (nI c)), (4, .int (nI y))]) (st2 := [.ref 111]) (w3 := w24) rfl rfl ?_
  refine sx_RP.step (pc2 := 67) (ls2 := [(5, .int (nI n)), (0, .ref 111), (1, .int (nI k)), (2, .int (nI s)), (3, .int (nI c)), (4, .int (nI y))]) (st2 := [.int (nI n), .ref 111]) (w3 := w24) rfl rfl ?_
  refine sx_RP.step (pc2 := 68) (ls2 := [(5, .int (nI n)), (0, .ref 111), (1, .int (nI k)), (2, .int (nI s)), (3, .int (nI c)), (4, .int (nI y))]) (st2 := [.int 5, .int (nI n), .ref 111]) (w3 := w24) rfl rfl ?_
  refine sx_RP.step (pc2 := 69) (ls2 := [(5, .int (nI n)), (0, .ref 111), (1, .int (nI k)), (2, .int (nI s)), (3, .int (nI c)), (4, .int (nI y))]) (st2 := [.int 0, .int 5, .int (nI n), .ref 111]) (w3 := w24) rfl rfl ?_
  refine sx_RP.callp (as2 := [.ref 111, .int (nI n), .int 5, .int 0]) (rest2 := []) rfl rfl (sx_inv_v2 (mi := 153) (k := 110) (st := [.int 0, .int 5, .int (nI n), .ref 111]) (w := w24) rfl rfl hI25.1.o111 rfl rfl rfl) rfl rfl rfl (X154 (c := 5) hI25 (show n < 10 by omega) (by decide) (eOK_g (g := n) (c := 5) (by omega) (by decide) (show inR 0 1 from ⟨0, by decide, rfl⟩))) (show _ = 72 from rfl) ?_
  rintro r4 w28 ⟨⟨rfl, hv26⟩, hI29, hs27⟩
  show sx_RP _ _ _ _ _ [.int ((ia w24 112).getD (103 + 6 * n + 5) 0)] _ _
  refine sx_RP.step (pc2 := 73) (ls2 := [(5, .int (nI n)), (0, .ref 111), (1, .int (nI k)), (2, .int (nI s)), (3, .int (nI c)), (4, .int (nI y))]) (st2 := []) (w3 := w28) rfl rfl ?_
  refine sx_RP.ret (r := none) rfl rfl ?_
  exact ⟨⟨rfl, by rw [hv26, hv22, hv18, hv14, hv10, hv6, hv4]; rfl⟩, hI29, (Same.tr (Same.tr (Same.tr (Same.tr (Same.tr (Same.tr (Same.tr Same.rf hs3) hs7) hs11) hs15) hs19) hs23) hs27)⟩
end
-- 89a.actM.lean.txt
section
theorem in_lt {x : Int32} {n : Nat} (hn : n ≤ 10) : (0 ≤ x ∧ x ≤ nI n - 1) ↔ (0 ≤ x ∧ x < nI n) := by
  have e : (nI n - 1).toInt = (n : Int) - 1 := by
    rw [Int32.toInt_sub, nI_toInt (by omega), show (1 : Int32).toInt = 1 by decide, Int.bmod_def]
    split <;> omega
  rw [Int32.le_iff_toInt_le (x := x), Int32.lt_iff_toInt_lt (x := x), e, nI_toInt (by omega)]
  constructor <;> intro h <;> exact ⟨h.1, by omega⟩
section SXRE
variable {xs : Option (List Int32)} {d mi pc pc2 a idx p : Nat} {ls : sx_L} {r : List Value} {w w0 : List sx_C} {P : Option Value → List sx_C → Prop}
theorem sx_RP.xJ {k : Nat} {v : Int32} (hI : WI w) (hi : sx_ins mi pc = some (.putfield idx, 3)) (hq : sx_lk (sx_fl (sx_own mi)) idx = some (6, k, p)) (hk : k = 4 ∨ k = 11) (hf : sx_fin mi 6 k = true) (hv : inR v (if k = 4 then 1 else 120)) (hp : pc + 3 = pc2) (kk : ∀ w2, WI w2 → Same 111 w w2 → fi w2 111 k = v → (∀ j, j ≠ k → fi w2 111 j = fi w 111 j) → sx_RP xs d mi pc2 ls r w2 P) : sx_RP xs d mi pc ls (.int v :: .ref 111 :: r) w P := by
  have hw := hI.1.o111
  have q := hI.m
  have hfs : fs_ w 111 = [.ref 112, .ref 113, .ref 114, .ref 115, .int (fi w 111 4), .ref 116, .ref 117, .ref 118, .ref 119, .ref 120, .ref 121, .int (fi w 111 11), .int (fi w 111 12), .int (fi w 111 13), .int (fi w 111 14), .ref 122, .ref 123, .ref 124, .ref 125] := by unfold fs_; rw [hw]
  have hne : ∀ (fs : List Value) (j : Nat), fs_ w 111 = fs → j ≠ k → fi (w.set 111 (.inr (.inr (.inr (6, fs.set k (.int v)))))) 111 j = fi w 111 j := by
    intro fs j e hj
    unfold fi
    rw [fs_set hw, List.getElem?_set_ne (Ne.symm hj), e]
  rcases hk with rfl | rfl
  · rw [if_pos rfl] at hv
    exact sx_RP.pf hi hq hw (by rw [hf, show sx_okv (sx_ty 6 4) (.int v) = (v == 0 || v == 1) from rfl, inR.bo hv]; rfl) rfl rfl hp (kk _ (hI.set hw rfl (cOK.m ⟨hv, q.2⟩)) Same.set (by unfold fi; rw [fs_set hw]; rfl) (fun j hj => hne _ j hfs hj))
  · rw [if_neg (by decide)] at hv
    exact sx_RP.pf hi hq hw (by rw [hf]; rfl) rfl rfl hp (kk _ (hI.set hw rfl (cOK.m ⟨q.1, hv, q.2.2⟩)) Same.set (by unfold fi; rw [fs_set hw]; rfl) (fun j hj => hne _ j hfs hj))
end SXRE
theorem kept_01 {w : List sx_C} (hI : WI w) : fi w 111 4 = 0 ∨ fi w 111 4 = 1 := by
  obtain ⟨j, hj, e⟩ := hI.m.1
  rcases (show j = 0 ∨ j = 1 by omega) with rfl | rfl
  · exact Or.inl e
  · exact Or.inr e
theorem tapM_len {w : List sx_C} {n : Nat} (en : fi w 111 11 = nI n) (hn : n ≤ 120) : (FMb w).2.2.2.length = n := by
  show (tapM w).length = n
  unfold tapM
  rw [List.length_map, List.length_range, en, iN_n (by omega)]
theorem tapM_nil {w : List sx_C} (en : fi w 111 11 = 0) : tapM w = [] := by
  unfold tapM
  rw [en]
  rfl
set_option maxRecDepth 20000 in
set_option maxHeartbeats 4000000 in
theorem p156y {xs : Option (List Int32)} {d n : Nat} {w : List sx_C} (hI : WI w) (en : (ia w 112).getD 1 0 = nI n) (hn : n ≤ 10) {x : Int32} (hh : 0 ≤ x ∧ x < nI n) : sx_RU xs (d + 1) 156 0 (lv_args 0 [.ref 111, .int x]) [] w (some (.int 1)) w := by
  have h : sx_RP xs (d + 1) 156 0 (lv_args 0 [.ref 111, .int x]) [] w (fun r w2 => r = some (.int 1) ∧ w2 = w) := by
    refine sx_RP.step (pc2 := 1) (ls2 := [(0, .ref 111), (1, .int x)]) (st2 := [.int x]) (w3 := w) rfl rfl ?_
    refine sx_RP.step (pc2 := 2) (ls2 := [(0, .ref 111), (1, .int x)]) (st2 := [.int 0, .int x]) (w3 := w) rfl rfl ?_
    refine sx_RP.step (pc2 := 3) (ls2 := [(0, .ref 111), (1, .int x)]) (st2 := [.ref 111, .int 0, .int x]) (w3 := w) rfl rfl ?_
    refine sx_RP.gf (v := .ref 112) rfl rfl hI.1.o111 rfl rfl (show _ = 6 from rfl) ?_
    refine sx_RP.step (pc2 := 7) (ls2 := [(0, .ref 111), (1, .int x)]) (st2 := [.int 1, .ref 112, .int 0, .int x]) (w3 := w) rfl rfl ?_
    refine sx_RP.ild (c := 1) rfl hI.1.a112.1 hI.1.a112.2 (sx_in_nI (show 1 < 172 by omega) (by decide)) (show (nI 1).toNatClampNeg = 1 from nI_clamp (by omega)) (show _ = 8 from rfl) ?_
    rw [en]
    refine sx_RP.step (pc2 := 9) (ls2 := [(0, .ref 111), (1, .int x)]) (st2 := [.int 1, .int (nI n), .int 0, .int x]) (w3 := w) rfl rfl ?_
    refine sx_RP.step (pc2 := 10) (ls2 := [(0, .ref 111), (1, .int x)]) (st2 := [.int ((nI n) - 1), .int 0, .int x]) (w3 := w) rfl rfl ?_
    refine sx_RP.cu (as := [.int x, .int 0, .int ((nI n) - 1)]) (rest2 := []) (st3 := [.int 1]) rfl rfl rfl rfl rfl (cx_132p ((in_lt (by omega)).mpr hh)) rfl ?_
    refine sx_RP.ret (r := (some (.int 1))) rfl rfl ?_
    exact ⟨rfl, rfl⟩
  obtain ⟨r, w2, h1, rfl, rfl⟩ := h
  exact h1
set_option maxRecDepth 20000 in
set_option maxHeartbeats 4000000 in
theorem p156n {xs : Option (List Int32)} {d n : Nat} {w : List sx_C} (hI : WI w) (en : (ia w 112).getD 1 0 = nI n) (hn : n ≤ 10) {x : Int32} (hh : ¬ (0 ≤ x ∧ x < nI n)) : sx_RU xs (d + 1) 156 0 (lv_args 0 [.ref 111, .int x]) [] w (some (.int 0)) w := by
  have h : sx_RP xs (d + 1) 156 0 (lv_args 0 [.ref 111, .int x]) [] w (fun r w2 => r = some (.int 0) ∧ w2 = w) := by
    refine sx_RP.step (pc2 := 1) (ls2 := [(0, .ref 111), (1, .int x)]) (st2 := [.int x]) (w3 := w) rfl rfl ?_
    refine sx_RP.step (pc2 := 2) (ls2 := [(0, .ref 111), (1, .int x)]) (st2 := [.int 0, .int x]) (w3 := w) rfl rfl ?_
    refine sx_RP.step (pc2 := 3) (ls2 := [(0, .ref 111), (1, .int x)]) (st2 := [.ref 111, .int 0, .int x]) (w3 := w) rfl rfl ?_
    refine sx_RP.gf (v := .ref 112) rfl rfl hI.1.o111 rfl rfl (show _ = 6 from rfl) ?_
    refine sx_RP.step (pc2 := 7) (ls2 := [(0, .ref 111), (1, .int x)]) (st2 := [.int 1, .ref 112, .int 0, .int x]) (w3 := w) rfl rfl ?_
    refine sx_RP.ild (c := 1) rfl hI.1.a112.1 hI.1.a112.2 (sx_in_nI (show 1 < 172 by omega) (by decide)) (show (nI 1).toNatClampNeg = 1 from nI_clamp (by omega)) (show _ = 8 from rfl) ?_
    rw [en]
    refine sx_RP.step (pc2 := 9) (ls2 := [(0, .ref 111), (1, .int x)]) (st2 := [.int 1, .int (nI n), .int 0, .int x]) (w3 := w) rfl rfl ?_
    refine sx_RP.step (pc2 := 10) (ls2 := [(0, .ref 111), (1, .int x)]) (st2 := [.int ((nI n) - 1), .int 0, .int x]) (w3 := w) rfl rfl ?_
    refine sx_RP.cu (as := [.int x, .int 0, .int ((nI n) - 1)]) (rest2 := []) (st3 := [.int 0]) rfl rfl rfl rfl rfl (cx_132o (fun z => hh ((in_lt (by omega)).mp z))) rfl ?_
    refine sx_RP.ret (r := (some (.int 0))) rfl rfl ?_
    exact ⟨rfl, rfl⟩
  obtain ⟨r, w2, h1, rfl, rfl⟩ := h
  exact h1
set_option maxRecDepth 20000 in
set_option maxHeartbeats 4000000 in
theorem p186y {xs : Option (List Int32)} {d n : Nat} {w : List sx_C} (hI : WI w) (en : (ia w 112).getD 2 0 = nI n) (hn : n ≤ 9) {x : Int32} (hh : 0 ≤ x ∧ x < nI n) : sx_RU xs (d + 1) 186 0 (lv_args 0 [.ref 111, .int x]) [] w (some (.int 1)) w := by
  have h : sx_RP xs (d + 1) 186 0 (lv_args 0 [.ref 111, .int x]) [] w (fun r w2 => r = some (.int 1) ∧ w2 = w) := by
    refine sx_RP.step (pc2 := 1) (ls2 := [(0, .ref 111), (1, .int x)]) (st2 := [.int x]) (w3 := w) rfl rfl ?_
    refine sx_RP.step (pc2 := 2) (ls2 := [(0, .ref 111), (1, .int x)]) (st2 := [.int 0, .int x]) (w3 := w) rfl rfl ?_
    refine sx_RP.step (pc2 := 3) (ls2 := [(0, .ref 111), (1, .int x)]) (st2 := [.ref 111, .int 0, .int x]) (w3 := w) rfl rfl ?_
    refine sx_RP.gf (v := .ref 112) rfl rfl hI.1.o111 rfl rfl (show _ = 6 from rfl) ?_
    refine sx_RP.step (pc2 := 7) (ls2 := [(0, .ref 111), (1, .int x)]) (st2 := [.int 2, .ref 112, .int 0, .int x]) (w3 := w) rfl rfl ?_
    refine sx_RP.ild (c := 2) rfl hI.1.a112.1 hI.1.a112.2 (sx_in_nI (show 2 < 172 by omega) (by decide)) (show (nI 2).toNatClampNeg = 2 from nI_clamp (by omega)) (show _ = 8 from rfl) ?_
    rw [en]
    refine sx_RP.step (pc2 := 9) (ls2 := [(0, .ref 111), (1, .int x)]) (st2 := [.int 1, .int (nI n), .int 0, .int x]) (w3 := w) rfl rfl ?_
    refine sx_RP.step (pc2 := 10) (ls2 := [(0, .ref 111), (1, .int x)]) (st2 := [.int ((nI n) - 1), .int 0, .int x]) (w3 := w) rfl rfl ?_
    refine sx_RP.cu (as := [.int x, .int 0, .int ((nI n) - 1)]) (rest2 := []) (st3 := [.int 1]) rfl rfl rfl rfl rfl (cx_132p ((in_lt (by omega)).mpr hh)) rfl ?_
    refine sx_RP.ret (r := (some (.int 1))) rfl rfl ?_
    exact ⟨rfl, rfl⟩
  obtain ⟨r, w2, h1, rfl, rfl⟩ := h
  exact h1
set_option maxRecDepth 20000 in
set_option maxHeartbeats 4000000 in
theorem p186n {xs : Option (List Int32)} {d n : Nat} {w : List sx_C} (hI : WI w) (en : (ia w 112).getD 2 0 = nI n) (hn : n ≤ 9) {x : Int32} (hh : ¬ (0 ≤ x ∧ x < nI n)) : sx_RU xs (d + 1) 186 0 (lv_args 0 [.ref 111, .int x]) [] w (some (.int 0)) w := by
  have h : sx_RP xs (d + 1) 186 0 (lv_args 0 [.ref 111, .int x]) [] w (fun r w2 => r = some (.int 0) ∧ w2 = w) := by
    refine sx_RP.step (pc2 := 1) (ls2 := [(0, .ref 111), (1, .int x)]) (st2 := [.int x]) (w3 := w) rfl rfl ?_
    refine sx_RP.step (pc2 := 2) (ls2 := [(0, .ref 111), (1, .int x)]) (st2 := [.int 0, .int x]) (w3 := w) rfl rfl ?_
    refine sx_RP.step (pc2 := 3) (ls2 := [(0, .ref 111), (1, .int x)]) (st2 := [.ref 111, .int 0, .int x]) (w3 := w) rfl rfl ?_
    refine sx_RP.gf (v := .ref 112) rfl rfl hI.1.o111 rfl rfl (show _ = 6 from rfl) ?_
    refine sx_RP.step (pc2 := 7) (ls2 := [(0, .ref 111), (1, .int x)]) (st2 := [.int 2, .ref 112, .int 0, .int x]) (w3 := w) rfl rfl ?_
    refine sx_RP.ild (c := 2) rfl hI.1.a112.1 hI.1.a112.2 (sx_in_nI (show 2 < 172 by omega) (by decide)) (show (nI 2).toNatClampNeg = 2 from nI_clamp (by omega)) (show _ = 8 from rfl) ?_
    rw [en]
    refine sx_RP.step (pc2 := 9) (ls2 := [(0, .ref 111), (1, .int x)]) (st2 := [.int 1, .int (nI n), .int 0, .int x]) (w3 := w) rfl rfl ?_
    refine sx_RP.step (pc2 := 10) (ls2 := [(0, .ref 111), (1, .int x)]) (st2 := [.int ((nI n) - 1), .int 0, .int x]) (w3 := w) rfl rfl ?_
    refine sx_RP.cu (as := [.int x, .int 0, .int ((nI n) - 1)]) (rest2 := []) (st3 := [.int 0]) rfl rfl rfl rfl rfl (cx_132o (fun z => hh ((in_lt (by omega)).mp z))) rfl ?_
    refine sx_RP.ret (r := (some (.int 0))) rfl rfl ?_
    exact ⟨rfl, rfl⟩
  obtain ⟨r, w2, h1, rfl, rfl⟩ := h
  exact h1
theorem addRow_1 {l : List Int32} {n : Nat} {k s c y : Int32} (hl : l.length = 172) : (addRow l n k s c y).getD 1 0 = nI (n + 1) := by
  unfold addRow
  rw [gd_ne (by omega), gd_ne (by omega), gd_ne (by omega), gd_ne (by omega), gd_ne (by omega), gd_ne (by omega), gd_eq (by omega)]
set_option maxRecDepth 20000 in
set_option maxHeartbeats 4000000 in
theorem p204y0 {xs : Option (List Int32)} {d : Nat} {w : List sx_C} {v : Int32} (hh : (0 : Int32) ≤ v ∧ v ≤ 999999) : sx_RU xs (d + 1) 204 0 (lv_args 0 [.int 0, .int v]) [] w (some (.int 1)) w := by
  have h : sx_RP xs (d + 1) 204 0 (lv_args 0 [.int 0, .int v]) [] w (fun r w2 => r = some (.int 1) ∧ w2 = w) := by
    refine sx_RP.step (pc2 := 1) (ls2 := [(0, .int 0), (1, .int v)]) (st2 := [.int 0]) (w3 := w) rfl rfl ?_
    refine sx_RP.step (pc2 := 4) (ls2 := [(0, .int 0), (1, .int v)]) (st2 := []) (w3 := w) rfl rfl ?_
    refine sx_RP.step (pc2 := 5) (ls2 := [(0, .int 0), (1, .int v)]) (st2 := [.int v]) (w3 := w) rfl rfl ?_
    refine sx_RP.step (pc2 := 6) (ls2 := [(0, .int 0), (1, .int v)]) (st2 := [.int 0, .int v]) (w3 := w) rfl rfl ?_
    refine sx_RP.step (pc2 := 8) (ls2 := [(0, .int 0), (1, .int v)]) (st2 := [.int 999999, .int 0, .int v]) (w3 := w) rfl rfl ?_
    refine sx_RP.cu (as := [.int v, .int 0, .int 999999]) (rest2 := []) (st3 := [.int 1]) rfl rfl rfl rfl rfl (cx_132p hh) rfl ?_
    refine sx_RP.step (pc2 := 32) (ls2 := [(0, .int 0), (1, .int v)]) (st2 := [.int 1]) (w3 := w) rfl rfl ?_
    refine sx_RP.ret (r := (some (.int 1))) rfl rfl ?_
    exact ⟨rfl, rfl⟩
  obtain ⟨r, w2, h1, rfl, rfl⟩ := h
  exact h1
set_option maxRecDepth 20000 in
set_option maxHeartbeats 4000000 in
theorem p204n0 {xs : Option (List Int32)} {d : Nat} {w : List sx_C} {v : Int32} (hh : ¬ ((0 : Int32) ≤ v ∧ v ≤ 999999)) : sx_RU xs (d + 1) 204 0 (lv_args 0 [.int 0, .int v]) [] w (some (.int 0)) w := by
  have h : sx_RP xs (d + 1) 204 0 (lv_args 0 [.int 0, .int v]) [] w (fun r w2 => r = some (.int 0) ∧ w2 = w) := by
    refine sx_RP.step (pc2 := 1) (ls2 := [(0, .int 0), (1, .int v)]) (st2 := [.int 0]) (w3 := w) rfl rfl ?_
    refine sx_RP.step (pc2 := 4) (ls2 := [(0, .int 0), (1, .int v)]) (st2 := []) (w3 := w) rfl rfl ?_
    refine sx_RP.step (pc2 := 5) (ls2 := [(0, .int 0), (1, .int v)]) (st2 := [.int v]) (w3 := w) rfl rfl ?_
    refine sx_RP.step (pc2 := 6) (ls2 := [(0, .int 0), (1, .int v)]) (st2 := [.int 0, .int v]) (w3 := w) rfl rfl ?_
    refine sx_RP.step (pc2 := 8) (ls2 := [(0, .int 0), (1, .int v)]) (st2 := [.int 999999, .int 0, .int v]) (w3 := w) rfl rfl ?_
    refine sx_RP.cu (as := [.int v, .int 0, .int 999999]) (rest2 := []) (st3 := [.int 0]) rfl rfl rfl rfl rfl (cx_132o hh) rfl ?_
    refine sx_RP.step (pc2 := 32) (ls2 := [(0, .int 0), (1, .int v)]) (st2 := [.int 0]) (w3 := w) rfl rfl ?_
    refine sx_RP.ret (r := (some (.int 0))) rfl rfl ?_
    exact ⟨rfl, rfl⟩
  obtain ⟨r, w2, h1, rfl, rfl⟩ := h
  exact h1
set_option maxRecDepth 20000 in
set_option maxHeartbeats 4000000 in
theorem p204y1 {xs : Option (List Int32)} {d : Nat} {w : List sx_C} {v : Int32} (hh : (1 : Int32) ≤ v ∧ v ≤ 999) : sx_RU xs (d + 1) 204 0 (lv_args 0 [.int 1, .int v]) [] w (some (.int 1)) w := by
  have h : sx_RP xs (d + 1) 204 0 (lv_args 0 [.int 1, .int v]) [] w (fun r w2 => r = some (.int 1) ∧ w2 = w) := by
    refine sx_RP.step (pc2 := 1) (ls2 := [(0, .int 1), (1, .int v)]) (st2 := [.int 1]) (w3 := w) rfl rfl ?_
    refine sx_RP.step (pc2 := 14) (ls2 := [(0, .int 1), (1, .int v)]) (st2 := []) (w3 := w) rfl rfl ?_
    refine sx_RP.step (pc2 := 15) (ls2 := [(0, .int 1), (1, .int v)]) (st2 := [.int v]) (w3 := w) rfl rfl ?_
    refine sx_RP.step (pc2 := 16) (ls2 := [(0, .int 1), (1, .int v)]) (st2 := [.int 1, .int v]) (w3 := w) rfl rfl ?_
    refine sx_RP.step (pc2 := 17) (ls2 := [(0, .int 1), (1, .int v)]) (st2 := [.int 1, .int 1, .int v]) (w3 := w) rfl rfl ?_
    refine sx_RP.step (pc2 := 18) (ls2 := [(0, .int 1), (1, .int v)]) (st2 := [.int 1, .int 1, .int 1, .int v]) (w3 := w) rfl rfl ?_
    refine sx_RP.step (pc2 := 21) (ls2 := [(0, .int 1), (1, .int v)]) (st2 := [.int 1, .int v]) (w3 := w) rfl rfl ?_
    refine sx_RP.step (pc2 := 24) (ls2 := [(0, .int 1), (1, .int v)]) (st2 := [.int 999, .int 1, .int v]) (w3 := w) rfl rfl ?_
    refine sx_RP.step (pc2 := 29) (ls2 := [(0, .int 1), (1, .int v)]) (st2 := [.int 999, .int 1, .int v]) (w3 := w) rfl rfl ?_
    refine sx_RP.cu (as := [.int v, .int 1, .int 999]) (rest2 := []) (st3 := [.int 1]) rfl rfl rfl rfl rfl (cx_132p hh) rfl ?_
    refine sx_RP.ret (r := (some (.int 1))) rfl rfl ?_
    exact ⟨rfl, rfl⟩
  obtain ⟨r, w2, h1, rfl, rfl⟩ := h
  exact h1
set_option maxRecDepth 20000 in
set_option maxHeartbeats 4000000 in
theorem p204n1 {xs : Option (List Int32)} {d : Nat} {w : List sx_C} {v : Int32} (hh : ¬ ((1 : Int32) ≤ v ∧ v ≤ 999)) : sx_RU xs (d + 1) 204 0 (lv_args 0 [.int 1, .int v]) [] w (some (.int 0)) w := by
  have h : sx_RP xs (d + 1) 204 0 (lv_args 0 [.int 1, .int v]) [] w (fun r w2 => r = some (.int 0) ∧ w2 = w) := by
    refine sx_RP.step (pc2 := 1) (ls2 := [(0, .int 1), (1, .int v)]) (st2 := [.int 1]) (w3 := w) rfl rfl ?_
    refine sx_RP.step (pc2 := 14) (ls2 := [(0, .int 1), (1, .int v)]) (st2 := []) (w3 := w) rfl rfl ?_
    refine sx_RP.step (pc2 := 15) (ls2 := [(0, .int 1), (1, .int v)]) (st2 := [.int v]) (w3 := w) rfl rfl ?_
    refine sx_RP.step (pc2 := 16) (ls2 := [(0, .int 1), (1, .int v)]) (st2 := [.int 1, .int v]) (w3 := w) rfl rfl ?_
    refine sx_RP.step (pc2 := 17) (ls2 := [(0, .int 1), (1, .int v)]) (st2 := [.int 1, .int 1, .int v]) (w3 := w) rfl rfl ?_
    refine sx_RP.step (pc2 := 18) (ls2 := [(0, .int 1), (1, .int v)]) (st2 := [.int 1, .int 1, .int 1, .int v]) (w3 := w) rfl rfl ?_
    refine sx_RP.step (pc2 := 21) (ls2 := [(0, .int 1), (1, .int v)]) (st2 := [.int 1, .int v]) (w3 := w) rfl rfl ?_
    refine sx_RP.step (pc2 := 24) (ls2 := [(0, .int 1), (1, .int v)]) (st2 := [.int 999, .int 1, .int v]) (w3 := w) rfl rfl ?_
    refine sx_RP.step (pc2 := 29) (ls2 := [(0, .int 1), (1, .int v)]) (st2 := [.int 999, .int 1, .int v]) (w3 := w) rfl rfl ?_
    refine sx_RP.cu (as := [.int v, .int 1, .int 999]) (rest2 := []) (st3 := [.int 0]) rfl rfl rfl rfl rfl (cx_132o hh) rfl ?_
    refine sx_RP.ret (r := (some (.int 0))) rfl rfl ?_
    exact ⟨rfl, rfl⟩
  obtain ⟨r, w2, h1, rfl, rfl⟩ := h
  exact h1
set_option maxRecDepth 20000 in
set_option maxHeartbeats 4000000 in
theorem p204y2 {xs : Option (List Int32)} {d : Nat} {w : List sx_C} {v : Int32} (hh : (1 : Int32) ≤ v ∧ v ≤ 99) : sx_RU xs (d + 1) 204 0 (lv_args 0 [.int 2, .int v]) [] w (some (.int 1)) w := by
  have h : sx_RP xs (d + 1) 204 0 (lv_args 0 [.int 2, .int v]) [] w (fun r w2 => r = some (.int 1) ∧ w2 = w) := by
    refine sx_RP.step (pc2 := 1) (ls2 := [(0, .int 2), (1, .int v)]) (st2 := [.int 2]) (w3 := w) rfl rfl ?_
    refine sx_RP.step (pc2 := 14) (ls2 := [(0, .int 2), (1, .int v)]) (st2 := []) (w3 := w) rfl rfl ?_
    refine sx_RP.step (pc2 := 15) (ls2 := [(0, .int 2), (1, .int v)]) (st2 := [.int v]) (w3 := w) rfl rfl ?_
    refine sx_RP.step (pc2 := 16) (ls2 := [(0, .int 2), (1, .int v)]) (st2 := [.int 1, .int v]) (w3 := w) rfl rfl ?_
    refine sx_RP.step (pc2 := 17) (ls2 := [(0, .int 2), (1, .int v)]) (st2 := [.int 2, .int 1, .int v]) (w3 := w) rfl rfl ?_
    refine sx_RP.step (pc2 := 18) (ls2 := [(0, .int 2), (1, .int v)]) (st2 := [.int 1, .int 2, .int 1, .int v]) (w3 := w) rfl rfl ?_
    refine sx_RP.step (pc2 := 27) (ls2 := [(0, .int 2), (1, .int v)]) (st2 := [.int 1, .int v]) (w3 := w) rfl rfl ?_
    refine sx_RP.step (pc2 := 29) (ls2 := [(0, .int 2), (1, .int v)]) (st2 := [.int 99, .int 1, .int v]) (w3 := w) rfl rfl ?_
    refine sx_RP.cu (as := [.int v, .int 1, .int 99]) (rest2 := []) (st3 := [.int 1]) rfl rfl rfl rfl rfl (cx_132p hh) rfl ?_
    refine sx_RP.ret (r := (some (.int 1))) rfl rfl ?_
    exact ⟨rfl, rfl⟩
  obtain ⟨r, w2, h1, rfl, rfl⟩ := h
  exact h1
set_option maxRecDepth 20000 in
set_option maxHeartbeats 4000000 in
theorem p204n2 {xs : Option (List Int32)} {d : Nat} {w : List sx_C} {v : Int32} (hh : ¬ ((1 : Int32) ≤ v ∧ v ≤ 99)) : sx_RU xs (d + 1) 204 0 (lv_args 0 [.int 2, .int v]) [] w (some (.int 0)) w := by
  have h : sx_RP xs (d + 1) 204 0 (lv_args 0 [.int 2, .int v]) [] w (fun r w2 => r = some (.int 0) ∧ w2 = w) := by
    refine sx_RP.step (pc2 := 1) (ls2 := [(0, .int 2), (1, .int v)]) (st2 := [.int 2]) (w3 := w) rfl rfl ?_
    refine sx_RP.step (pc2 := 14) (ls2 := [(0, .int 2), (1, .int v)]) (st2 := []) (w3 := w) rfl rfl ?_
    refine sx_RP.step (pc2 := 15) (ls2 := [(0, .int 2), (1, .int v)]) (st2 := [.int v]) (w3 := w) rfl rfl ?_
    refine sx_RP.step (pc2 := 16) (ls2 := [(0, .int 2), (1, .int v)]) (st2 := [.int 1, .int v]) (w3 := w) rfl rfl ?_
    refine sx_RP.step (pc2 := 17) (ls2 := [(0, .int 2), (1, .int v)]) (st2 := [.int 2, .int 1, .int v]) (w3 := w) rfl rfl ?_
    refine sx_RP.step (pc2 := 18) (ls2 := [(0, .int 2), (1, .int v)]) (st2 := [.int 1, .int 2, .int 1, .int v]) (w3 := w) rfl rfl ?_
    refine sx_RP.step (pc2 := 27) (ls2 := [(0, .int 2), (1, .int v)]) (st2 := [.int 1, .int v]) (w3 := w) rfl rfl ?_
    refine sx_RP.step (pc2 := 29) (ls2 := [(0, .int 2), (1, .int v)]) (st2 := [.int 99, .int 1, .int v]) (w3 := w) rfl rfl ?_
    refine sx_RP.cu (as := [.int v, .int 1, .int 99]) (rest2 := []) (st3 := [.int 0]) rfl rfl rfl rfl rfl (cx_132o hh) rfl ?_
    refine sx_RP.ret (r := (some (.int 0))) rfl rfl ?_
    exact ⟨rfl, rfl⟩
  obtain ⟨r, w2, h1, rfl, rfl⟩ := h
  exact h1
end
-- 89b.feed.lean.txt
section
theorem byte_hi : ∀ i : Fin 32, 8 ≤ i.val → (BitVec.ofNat 32 255).getLsbD i.val = false := by decide
theorem byte_eq {x : Int32} : (vp_nar .byte (x.toInt8.toInt32)) &&& 255 = x &&& 255 := by
  show (x.toInt8.toInt32.toInt8.toInt32) &&& 255 = x &&& 255
  apply Int32.toBitVec_inj.mp
  simp only [Int32.toBitVec_and, Int8.toBitVec_toInt32, Int32.toBitVec_toInt8]
  apply BitVec.eq_of_getLsbD_eq
  intro i hi
  rw [BitVec.getLsbD_and, BitVec.getLsbD_and]
  rcases (show i < 8 ∨ 8 ≤ i by omega) with h | h
  · congr 1
    rw [BitVec.getLsbD_signExtend, if_pos h, BitVec.getLsbD_signExtend, if_pos hi, BitVec.getLsbD_signExtend, if_pos h, BitVec.getLsbD_signExtend, if_pos hi]
    simp [h, hi]
  · have e := byte_hi ⟨i, hi⟩ h
    rw [show (Int32.toBitVec 255) = BitVec.ofNat 32 255 from rfl, e, Bool.and_false, Bool.and_false]
theorem tapC_add {w w2 : List sx_C} {n : Nat} {x : Int32} (hI : WI w) (en : fi w 96 1 = nI n) (hn : n < 120) (h1 : fi w2 96 1 = nI (n + 1)) (h2 : ia w2 97 = (ia w 97).set n x) : tapC w2 = tapC w ++ [x &&& 255] := by
  have hl := hI.1.a97.2
  unfold tapC
  rw [h1, en, iN_n (by omega), iN_n (by omega)]
  exact map_add (fun i hi => by rw [h2, gd_ne (by omega)]) (by rw [h2, gd_eq (by omega)])
theorem tapM_add {w w2 : List sx_C} {n : Nat} {x : Int32} (hI : WI w) (en : fi w 111 11 = nI n) (hn : n < 120) (h1 : fi w2 111 11 = nI (n + 1)) (h2 : ia w2 121 = (ia w 121).set n x) : tapM w2 = tapM w ++ [x] := by
  have hl := hI.1.a121.2
  unfold tapM
  rw [h1, en, iN_n (by omega), iN_n (by omega)]
  exact map_add (fun i hi => by rw [h2, gd_ne (by omega)]) (by rw [h2, gd_eq (by omega)])
section SXFE
variable {t : BT} {a1 a2 : Int32}
theorem fee_1 (q : ¬ (1 ≤ a2 ∧ a2 ≤ 4)) : feeA t a2 = -1000000001 ∧ feeU t a1 a2 = t := ⟨(feed_n q).1, if_neg q⟩
theorem fee_2 {n x : Nat} (hl : t.2.2.2.length = n) (h1 : 1 ≤ x) (h4 : x ≤ 4) (h : ¬ n + x ≤ 120) : feeA t (nI x) = -1000000002 ∧ feeU t a1 (nI x) = t := by
  refine ⟨by unfold feeA; rw [hl]; exact (feed_f h1 h4 h).1, ?_⟩
  unfold feeU
  rw [if_pos (feed_in h1 h4), iN_n (by omega), hl, if_neg h]
theorem fee_3 {n x : Nat} (hl : t.2.2.2.length = n) (h1 : 1 ≤ x) (h4 : x ≤ 4) (h : n + x ≤ 120) : feeA t (nI x) = nI (n + x) ∧ feeU t a1 (nI x) = (t.1, t.2.1, t.2.2.1, t.2.2.2 ++ bytesOf a1 x) := by
  refine ⟨by unfold feeA; rw [hl]; exact (feed_y h1 h4 h).1, ?_⟩
  unfold feeU
  rw [if_pos (feed_in h1 h4), iN_n (by omega), hl, if_pos h]
end SXFE
theorem bytesOf_s {a : Int32} {n : Nat} : bytesOf a (n + 1) = byteOf a n :: bytesOf a n := by
  unfold bytesOf
  rw [List.range_succ_eq_map, List.map_cons, List.map_map]
  congr 1
  exact List.map_congr_left (fun j hj => by show byteOf a (n + 1 - 1 - (j + 1)) = byteOf a (n - 1 - j); congr 1; omega)
def Off (w w2 : List sx_C) : Prop := ∀ a, a ≠ 96 → a ≠ 97 → w2[a]? = w[a]?
set_option maxRecDepth 20000 in
set_option maxHeartbeats 4000000 in
theorem X89 {xs : Option (List Int32)} {d : Nat} {w : List sx_C} (hI : WI w) {n : Nat} (hn : fi w 96 1 = nI n) (hn1 : n < 120) (b : Int32) : sx_RP xs d 89 0 (lv_args 0 [.ref 96, .int b]) [] w (fun r w2 => (r = none ∧ tapC w2 = tapC w ++ [vp_nar .byte b &&& 255] ∧ fi w2 96 1 = nI (n + 1)) ∧ WI w2 ∧ Off w w2) := by
  refine sx_RP.step (pc2 := 1) (ls2 := [(0, .ref 96), (1, .int b)]) (st2 := [.ref 96]) (w3 := w) rfl rfl ?_
  refine sx_RP.gt (k := 1) hI rfl rfl (by decide) (show _ = 4 from rfl) ?_
  rw [hn]
  refine sx_RP.step (pc2 := 6) (ls2 := [(0, .ref 96), (1, .int b)]) (st2 := [.int 120, .int (nI n)]) (w3 := w) rfl rfl ?_
  refine sx_RP.br (p1 := 29) (l1 := [(0, .ref 96), (1, .int b)]) (s1 := []) (v1 := w) (p2 := 9) (l2 := [(0, .ref 96), (1, .int b)]) (s2 := []) (v2 := w) rfl rfl (fun q1 => ?_) (fun q1 => ?_)
  · replace q1 := of_decide_eq_true q1
    replace q1 := (nI_leI (a := 120) (b := n) (by omega) (by omega)).mp q1
    refine sx_RP.ret (r := none) rfl rfl ?_
    exact absurd hn1 (by omega)
  · replace q1 := of_decide_eq_false q1
    replace q1 := mt (nI_leI (a := 120) (b := n) (by omega) (by omega)).mpr q1
    refine sx_RP.step (pc2 := 10) (ls2 := [(0, .ref 96), (1, .int b)]) (st2 := [.ref 96]) (w3 := w) rfl rfl ?_
    refine sx_RP.gf (v := .ref 97) rfl rfl hI.1.o96 rfl rfl (show _ = 13 from rfl) ?_
    refine sx_RP.step (pc2 := 14) (ls2 := [(0, .ref 96), (1, .int b)]) (st2 := [.ref 96, .ref 97]) (w3 := w) rfl rfl ?_
    refine sx_RP.gt (k := 1) hI rfl rfl (by decide) (show _ = 17 from rfl) ?_
    rw [hn]
    refine sx_RP.step (pc2 := 18) (ls2 := [(0, .ref 96), (1, .int b)]) (st2 := [.int b, .int (nI n), .ref 97]) (w3 := w) rfl rfl ?_
    refine sx_RP.xT (c := n) hI rfl (by omega) (show _ = 19 from rfl) (fun w2 hI3 hs4 hv5 => ?_)
    have ex6 := (fi_same 1 (hs4 96 (by omega))).trans hn
    refine sx_RP.step (pc2 := 20) (ls2 := [(0, .ref 96), (1, .int b)]) (st2 := [.ref 96]) (w3 := w2) rfl rfl ?_
    refine sx_RP.step (pc2 := 21) (ls2 := [(0, .ref 96), (1, .int b)]) (st2 := [.ref 96, .ref 96]) (w3 := w2) rfl rfl ?_
    refine sx_RP.gt (k := 1) hI3 rfl rfl (by decide) (show _ = 24 from rfl) ?_
    rw [ex6]
    refine sx_RP.step (pc2 := 25) (ls2 := [(0, .ref 96), (1, .int b)]) (st2 := [.int 1, .int (nI n), .ref 96]) (w3 := w2) rfl rfl ?_
    refine sx_RP.step (pc2 := 26) (ls2 := [(0, .ref 96), (1, .int b)]) (st2 := [.int ((nI n) + 1), .ref 96]) (w3 := w2) rfl rfl ?_
    rw [show ((nI n) + 1 : Int32) = nI (n + 1) from nI_add n 1]
    refine sx_RP.xN hI3 rfl rfl rfl ⟨(n + 1), by omega, rfl⟩ (show _ = 29 from rfl) (fun w7 hI8 hs9 hv10 => ?_)
    refine sx_RP.ret (r := none) rfl rfl ?_
    exact ⟨⟨rfl, tapC_add hI hn hn1 hv10 ((ia_of (hs9 97 (by decide))).trans hv5), hv10⟩, hI8, fun a h1 h2 => (hs9 a h1).trans (hs4 a h2)⟩
set_option maxRecDepth 20000 in
set_option maxHeartbeats 4000000 in
theorem X87_m1 {xs : Option (List Int32)} {d n m : Nat} {a1 : Int32} {w : List sx_C} (hI : WI w) (h120 : m + 0 ≤ 120) (hm : fi w 96 1 = nI m) : sx_RP xs (d + 7) 87 38 [(0, .ref 0), (1, .int a1), (2, .int (nI n)), (3, .int (-1))] [] w (fun r w2 => (r = some (.int (nI (m + 0))) ∧ tapC w2 = tapC w ++ bytesOf a1 0) ∧ WI w2 ∧ Off w w2) := by
  refine sx_RP.step (pc2 := 39) (ls2 := [(0, .ref 0), (1, .int a1), (2, .int (nI n)), (3, .int (-1))]) (st2 := [.int (-1)]) (w3 := w) rfl rfl ?_
  refine sx_RP.step (pc2 := 62) (ls2 := [(0, .ref 0), (1, .int a1), (2, .int (nI n)), (3, .int (-1))]) (st2 := []) (w3 := w) rfl rfl ?_
  refine sx_RP.step (pc2 := 63) (ls2 := [(0, .ref 0), (1, .int a1), (2, .int (nI n)), (3, .int (-1))]) (st2 := [.ref 0]) (w3 := w) rfl rfl ?_
  refine sx_RP.gf (v := .ref 96) rfl rfl hI.1.o0 rfl rfl (show _ = 66 from rfl) ?_
  refine sx_RP.gt (k := 1) hI rfl rfl (by decide) (show _ = 69 from rfl) ?_
  rw [hm]
  refine sx_RP.ret (r := (some (.int (nI m)))) rfl rfl ?_
  exact ⟨⟨by rw [Nat.add_zero], by rw [show bytesOf a1 0 = [] from rfl, List.append_nil]⟩, hI, fun _ _ _ => rfl⟩
set_option maxRecDepth 20000 in
set_option maxHeartbeats 4000000 in
theorem X87_0 {xs : Option (List Int32)} {d n m : Nat} {a1 : Int32} {w : List sx_C} (hI : WI w) (h120 : m + 1 ≤ 120) (hm : fi w 96 1 = nI m) : sx_RP xs (d + 7) 87 38 [(0, .ref 0), (1, .int a1), (2, .int (nI n)), (3, .int 0)] [] w (fun r w2 => (r = some (.int (nI (m + 1))) ∧ tapC w2 = tapC w ++ bytesOf a1 1) ∧ WI w2 ∧ Off w w2) := by
  refine sx_RP.step (pc2 := 39) (ls2 := [(0, .ref 0), (1, .int a1), (2, .int (nI n)), (3, .int 0)]) (st2 := [.int 0]) (w3 := w) rfl rfl ?_
  refine sx_RP.step (pc2 := 42) (ls2 := [(0, .ref 0), (1, .int a1), (2, .int (nI n)), (3, .int 0)]) (st2 := []) (w3 := w) rfl rfl ?_
  refine sx_RP.step (pc2 := 43) (ls2 := [(0, .ref 0), (1, .int a1), (2, .int (nI n)), (3, .int 0)]) (st2 := [.ref 0]) (w3 := w) rfl rfl ?_
  refine sx_RP.gf (v := .ref 96) rfl rfl hI.1.o0 rfl rfl (show _ = 46 from rfl) ?_
  refine sx_RP.step (pc2 := 47) (ls2 := [(0, .ref 0), (1, .int a1), (2, .int (nI n)), (3, .int 0)]) (st2 := [.int a1, .ref 96]) (w3 := w) rfl rfl ?_
  refine sx_RP.step (pc2 := 49) (ls2 := [(0, .ref 0), (1, .int a1), (2, .int (nI n)), (3, .int 0)]) (st2 := [.int 8, .int a1, .ref 96]) (w3 := w) rfl rfl ?_
  refine sx_RP.step (pc2 := 50) (ls2 := [(0, .ref 0), (1, .int a1), (2, .int (nI n)), (3, .int 0)]) (st2 := [.int 0, .int 8, .int a1, .ref 96]) (w3 := w) rfl rfl ?_
  refine sx_RP.step (pc2 := 51) (ls2 := [(0, .ref 0), (1, .int a1), (2, .int (nI n)), (3, .int 0)]) (st2 := [.int 0, .int a1, .ref 96]) (w3 := w) rfl rfl ?_
  refine sx_RP.step (pc2 := 52) (ls2 := [(0, .ref 0), (1, .int a1), (2, .int (nI n)), (3, .int 0)]) (st2 := [.int (a1 >>> (0 &&& 31)), .ref 96]) (w3 := w) rfl rfl ?_
  refine sx_RP.step (pc2 := 53) (ls2 := [(0, .ref 0), (1, .int a1), (2, .int (nI n)), (3, .int 0)]) (st2 := [.int ((a1 >>> (0 &&& 31)).toInt8.toInt32), .ref 96]) (w3 := w) rfl rfl ?_
  refine sx_RP.callp (as2 := [.ref 96, .int ((a1 >>> (0 &&& 31)).toInt8.toInt32)]) (rest2 := []) rfl rfl (sx_inv_v2 (mi := 87) (k := 282) (st := [.int ((a1 >>> (0 &&& 31)).toInt8.toInt32), .ref 96]) (w := w) rfl rfl hI.1.o96 rfl rfl rfl) rfl rfl rfl (X89 hI hm (by omega) ((a1 >>> (0 &&& 31)).toInt8.toInt32)) (show _ = 56 from rfl) ?_
  rintro r4 w4 ⟨⟨rfl, ht1, hv2⟩, hI5, ho3⟩
  show sx_RP _ _ _ _ _ [] _ _
  refine sx_RP.step (pc2 := 59) (ls2 := [(3, .int (-1)), (0, .ref 0), (1, .int a1), (2, .int (nI n))]) (st2 := []) (w3 := w4) rfl rfl ?_
  refine sx_RP.step (pc2 := 38) (ls2 := [(3, .int (-1)), (0, .ref 0), (1, .int a1), (2, .int (nI n))]) (st2 := []) (w3 := w4) rfl rfl ?_
  refine sx_RP.ls (sx_lr.cons rfl (sx_lr.cons rfl (sx_lr.cons rfl (sx_lr.cons rfl sx_lr.nil)))) ((X87_m1 (m := m + 1) (n := n) (a1 := a1) hI5 (by omega) hv2).mono (fun r w2 q => ⟨⟨q.1.1.trans (by congr 3 <;> omega), ?_⟩, q.2.1, fun a h1 h2 => (q.2.2 a h1 h2).trans (ho3 a h1 h2)⟩))
  rw [q.1.2, ht1, byte_eq, List.append_assoc, bytesOf_s]
  rfl
set_option maxRecDepth 20000 in
set_option maxHeartbeats 4000000 in
theorem X87_1 {xs : Option (List Int32)} {d n m : Nat} {a1 : Int32} {w : List sx_C} (hI : WI w) (h120 : m + 2 ≤ 120) (hm : fi w 96 1 = nI m) : sx_RP xs (d + 7) 87 38 [(0, .ref 0), (1, .int a1), (2, .int (nI n)), (3, .int 1)] [] w (fun r w2 => (r = some (.int (nI (m + 2))) ∧ tapC w2 = tapC w ++ bytesOf a1 2) ∧ WI w2 ∧ Off w w2) := by
  refine sx_RP.step (pc2 := 39) (ls2 := [(0, .ref 0), (1, .int a1), (2, .int (nI n)), (3, .int 1)]) (st2 := [.int 1]) (w3 := w) rfl rfl ?_
  refine sx_RP.step (pc2 := 42) (ls2 := [(0, .ref 0), (1, .int a1), (2, .int (nI n)), (3, .int 1)]) (st2 := []) (w3 := w) rfl rfl ?_
  refine sx_RP.step (pc2 := 43) (ls2 := [(0, .ref 0), (1, .int a1), (2, .int (nI n)), (3, .int 1)]) (st2 := [.ref 0]) (w3 := w) rfl rfl ?_
  refine sx_RP.gf (v := .ref 96) rfl rfl hI.1.o0 rfl rfl (show _ = 46 from rfl) ?_
  refine sx_RP.step (pc2 := 47) (ls2 := [(0, .ref 0), (1, .int a1), (2, .int (nI n)), (3, .int 1)]) (st2 := [.int a1, .ref 96]) (w3 := w) rfl rfl ?_
  refine sx_RP.step (pc2 := 49) (ls2 := [(0, .ref 0), (1, .int a1), (2, .int (nI n)), (3, .int 1)]) (st2 := [.int 8, .int a1, .ref 96]) (w3 := w) rfl rfl ?_
  refine sx_RP.step (pc2 := 50) (ls2 := [(0, .ref 0), (1, .int a1), (2, .int (nI n)), (3, .int 1)]) (st2 := [.int 1, .int 8, .int a1, .ref 96]) (w3 := w) rfl rfl ?_
  refine sx_RP.step (pc2 := 51) (ls2 := [(0, .ref 0), (1, .int a1), (2, .int (nI n)), (3, .int 1)]) (st2 := [.int 8, .int a1, .ref 96]) (w3 := w) rfl rfl ?_
  refine sx_RP.step (pc2 := 52) (ls2 := [(0, .ref 0), (1, .int a1), (2, .int (nI n)), (3, .int 1)]) (st2 := [.int (a1 >>> (8 &&& 31)), .ref 96]) (w3 := w) rfl rfl ?_
  refine sx_RP.step (pc2 := 53) (ls2 := [(0, .ref 0), (1, .int a1), (2, .int (nI n)), (3, .int 1)]) (st2 := [.int ((a1 >>> (8 &&& 31)).toInt8.toInt32), .ref 96]) (w3 := w) rfl rfl ?_
  refine sx_RP.callp (as2 := [.ref 96, .int ((a1 >>> (8 &&& 31)).toInt8.toInt32)]) (rest2 := []) rfl rfl (sx_inv_v2 (mi := 87) (k := 282) (st := [.int ((a1 >>> (8 &&& 31)).toInt8.toInt32), .ref 96]) (w := w) rfl rfl hI.1.o96 rfl rfl rfl) rfl rfl rfl (X89 hI hm (by omega) ((a1 >>> (8 &&& 31)).toInt8.toInt32)) (show _ = 56 from rfl) ?_
  rintro r4 w4 ⟨⟨rfl, ht1, hv2⟩, hI5, ho3⟩
  show sx_RP _ _ _ _ _ [] _ _
  refine sx_RP.step (pc2 := 59) (ls2 := [(3, .int 0), (0, .ref 0), (1, .int a1), (2, .int (nI n))]) (st2 := []) (w3 := w4) rfl rfl ?_
  refine sx_RP.step (pc2 := 38) (ls2 := [(3, .int 0), (0, .ref 0), (1, .int a1), (2, .int (nI n))]) (st2 := []) (w3 := w4) rfl rfl ?_
  refine sx_RP.ls (sx_lr.cons rfl (sx_lr.cons rfl (sx_lr.cons rfl (sx_lr.cons rfl sx_lr.nil)))) ((X87_0 (m := m + 1) (n := n) (a1 := a1) hI5 (by omega) hv2).mono (fun r w2 q => ⟨⟨q.1.1.trans (by congr 3 <;> omega), ?_⟩, q.2.1, fun a h1 h2 => (q.2.2 a h1 h2).trans (ho3 a h1 h2)⟩))
  rw [q.1.2, ht1, byte_eq, List.append_assoc, bytesOf_s]
  rfl
set_option maxRecDepth 20000 in
set_option maxHeartbeats 4000000 in
theorem X87_2 {xs : Option (List Int32)} {d n m : Nat} {a1 : Int32} {w : List sx_C} (hI : WI w) (h120 : m + 3 ≤ 120) (hm : fi w 96 1 = nI m) : sx_RP xs (d + 7) 87 38 [(0, .ref 0), (1, .int a1), (2, .int (nI n)), (3, .int 2)] [] w (fun r w2 => (r = some (.int (nI (m + 3))) ∧ tapC w2 = tapC w ++ bytesOf a1 3) ∧ WI w2 ∧ Off w w2) := by
  refine sx_RP.step (pc2 := 39) (ls2 := [(0, .ref 0), (1, .int a1), (2, .int (nI n)), (3, .int 2)]) (st2 := [.int 2]) (w3 := w) rfl rfl ?_
  refine sx_RP.step (pc2 := 42) (ls2 := [(0, .ref 0), (1, .int a1), (2, .int (nI n)), (3, .int 2)]) (st2 := []) (w3 := w) rfl rfl ?_
  refine sx_RP.step (pc2 := 43) (ls2 := [(0, .ref 0), (1, .int a1), (2, .int (nI n)), (3, .int 2)]) (st2 := [.ref 0]) (w3 := w) rfl rfl ?_
  refine sx_RP.gf (v := .ref 96) rfl rfl hI.1.o0 rfl rfl (show _ = 46 from rfl) ?_
  refine sx_RP.step (pc2 := 47) (ls2 := [(0, .ref 0), (1, .int a1), (2, .int (nI n)), (3, .int 2)]) (st2 := [.int a1, .ref 96]) (w3 := w) rfl rfl ?_
  refine sx_RP.step (pc2 := 49) (ls2 := [(0, .ref 0), (1, .int a1), (2, .int (nI n)), (3, .int 2)]) (st2 := [.int 8, .int a1, .ref 96]) (w3 := w) rfl rfl ?_
  refine sx_RP.step (pc2 := 50) (ls2 := [(0, .ref 0), (1, .int a1), (2, .int (nI n)), (3, .int 2)]) (st2 := [.int 2, .int 8, .int a1, .ref 96]) (w3 := w) rfl rfl ?_
  refine sx_RP.step (pc2 := 51) (ls2 := [(0, .ref 0), (1, .int a1), (2, .int (nI n)), (3, .int 2)]) (st2 := [.int 16, .int a1, .ref 96]) (w3 := w) rfl rfl ?_
  refine sx_RP.step (pc2 := 52) (ls2 := [(0, .ref 0), (1, .int a1), (2, .int (nI n)), (3, .int 2)]) (st2 := [.int (a1 >>> (16 &&& 31)), .ref 96]) (w3 := w) rfl rfl ?_
  refine sx_RP.step (pc2 := 53) (ls2 := [(0, .ref 0), (1, .int a1), (2, .int (nI n)), (3, .int 2)]) (st2 := [.int ((a1 >>> (16 &&& 31)).toInt8.toInt32), .ref 96]) (w3 := w) rfl rfl ?_
  refine sx_RP.callp (as2 := [.ref 96, .int ((a1 >>> (16 &&& 31)).toInt8.toInt32)]) (rest2 := []) rfl rfl (sx_inv_v2 (mi := 87) (k := 282) (st := [.int ((a1 >>> (16 &&& 31)).toInt8.toInt32), .ref 96]) (w := w) rfl rfl hI.1.o96 rfl rfl rfl) rfl rfl rfl (X89 hI hm (by omega) ((a1 >>> (16 &&& 31)).toInt8.toInt32)) (show _ = 56 from rfl) ?_
  rintro r4 w4 ⟨⟨rfl, ht1, hv2⟩, hI5, ho3⟩
  show sx_RP _ _ _ _ _ [] _ _
  refine sx_RP.step (pc2 := 59) (ls2 := [(3, .int 1), (0, .ref 0), (1, .int a1), (2, .int (nI n))]) (st2 := []) (w3 := w4) rfl rfl ?_
  refine sx_RP.step (pc2 := 38) (ls2 := [(3, .int 1), (0, .ref 0), (1, .int a1), (2, .int (nI n))]) (st2 := []) (w3 := w4) rfl rfl ?_
  refine sx_RP.ls (sx_lr.cons rfl (sx_lr.cons rfl (sx_lr.cons rfl (sx_lr.cons rfl sx_lr.nil)))) ((X87_1 (m := m + 1) (n := n) (a1 := a1) hI5 (by omega) hv2).mono (fun r w2 q => ⟨⟨q.1.1.trans (by congr 3 <;> omega), ?_⟩, q.2.1, fun a h1 h2 => (q.2.2 a h1 h2).trans (ho3 a h1 h2)⟩))
  rw [q.1.2, ht1, byte_eq, List.append_assoc, bytesOf_s]
  rfl
set_option maxRecDepth 20000 in
set_option maxHeartbeats 4000000 in
theorem X87_3 {xs : Option (List Int32)} {d n m : Nat} {a1 : Int32} {w : List sx_C} (hI : WI w) (h120 : m + 4 ≤ 120) (hm : fi w 96 1 = nI m) : sx_RP xs (d + 7) 87 38 [(0, .ref 0), (1, .int a1), (2, .int (nI n)), (3, .int 3)] [] w (fun r w2 => (r = some (.int (nI (m + 4))) ∧ tapC w2 = tapC w ++ bytesOf a1 4) ∧ WI w2 ∧ Off w w2) := by
  refine sx_RP.step (pc2 := 39) (ls2 := [(0, .ref 0), (1, .int a1), (2, .int (nI n)), (3, .int 3)]) (st2 := [.int 3]) (w3 := w) rfl rfl ?_
  refine sx_RP.step (pc2 := 42) (ls2 := [(0, .ref 0), (1, .int a1), (2, .int (nI n)), (3, .int 3)]) (st2 := []) (w3 := w) rfl rfl ?_
  refine sx_RP.step (pc2 := 43) (ls2 := [(0, .ref 0), (1, .int a1), (2, .int (nI n)), (3, .int 3)]) (st2 := [.ref 0]) (w3 := w) rfl rfl ?_
  refine sx_RP.gf (v := .ref 96) rfl rfl hI.1.o0 rfl rfl (show _ = 46 from rfl) ?_
  refine sx_RP.step (pc2 := 47) (ls2 := [(0, .ref 0), (1, .int a1), (2, .int (nI n)), (3, .int 3)]) (st2 := [.int a1, .ref 96]) (w3 := w) rfl rfl ?_
  refine sx_RP.step (pc2 := 49) (ls2 := [(0, .ref 0), (1, .int a1), (2, .int (nI n)), (3, .int 3)]) (st2 := [.int 8, .int a1, .ref 96]) (w3 := w) rfl rfl ?_
  refine sx_RP.step (pc2 := 50) (ls2 := [(0, .ref 0), (1, .int a1), (2, .int (nI n)), (3, .int 3)]) (st2 := [.int 3, .int 8, .int a1, .ref 96]) (w3 := w) rfl rfl ?_
  refine sx_RP.step (pc2 := 51) (ls2 := [(0, .ref 0), (1, .int a1), (2, .int (nI n)), (3, .int 3)]) (st2 := [.int 24, .int a1, .ref 96]) (w3 := w) rfl rfl ?_
  refine sx_RP.step (pc2 := 52) (ls2 := [(0, .ref 0), (1, .int a1), (2, .int (nI n)), (3, .int 3)]) (st2 := [.int (a1 >>> (24 &&& 31)), .ref 96]) (w3 := w) rfl rfl ?_
  refine sx_RP.step (pc2 := 53) (ls2 := [(0, .ref 0), (1, .int a1), (2, .int (nI n)), (3, .int 3)]) (st2 := [.int ((a1 >>> (24 &&& 31)).toInt8.toInt32), .ref 96]) (w3 := w) rfl rfl ?_
  refine sx_RP.callp (as2 := [.ref 96, .int ((a1 >>> (24 &&& 31)).toInt8.toInt32)]) (rest2 := []) rfl rfl (sx_inv_v2 (mi := 87) (k := 282) (st := [.int ((a1 >>> (24 &&& 31)).toInt8.toInt32), .ref 96]) (w := w) rfl rfl hI.1.o96 rfl rfl rfl) rfl rfl rfl (X89 hI hm (by omega) ((a1 >>> (24 &&& 31)).toInt8.toInt32)) (show _ = 56 from rfl) ?_
  rintro r4 w4 ⟨⟨rfl, ht1, hv2⟩, hI5, ho3⟩
  show sx_RP _ _ _ _ _ [] _ _
  refine sx_RP.step (pc2 := 59) (ls2 := [(3, .int 2), (0, .ref 0), (1, .int a1), (2, .int (nI n))]) (st2 := []) (w3 := w4) rfl rfl ?_
  refine sx_RP.step (pc2 := 38) (ls2 := [(3, .int 2), (0, .ref 0), (1, .int a1), (2, .int (nI n))]) (st2 := []) (w3 := w4) rfl rfl ?_
  refine sx_RP.ls (sx_lr.cons rfl (sx_lr.cons rfl (sx_lr.cons rfl (sx_lr.cons rfl sx_lr.nil)))) ((X87_2 (m := m + 1) (n := n) (a1 := a1) hI5 (by omega) hv2).mono (fun r w2 q => ⟨⟨q.1.1.trans (by congr 3 <;> omega), ?_⟩, q.2.1, fun a h1 h2 => (q.2.2 a h1 h2).trans (ho3 a h1 h2)⟩))
  rw [q.1.2, ht1, byte_eq, List.append_assoc, bytesOf_s]
  rfl
set_option maxRecDepth 20000 in
set_option maxHeartbeats 4000000 in
theorem B87 {xs : Option (List Int32)} {d : Nat} {w : List sx_C} (hI : WI w) (a1 a2 : Int32) : sx_RP xs (d + 7) 87 0 (lv_args 0 [.ref 0, .int a1, .int a2]) [] w (fun r w2 => (r = some (.int (feeA (FCb w) a2)) ∧ FCb w2 = feeU (FCb w) a1 a2) ∧ WI w2 ∧ ∀ a, 111 ≤ a → w2[a]? = w[a]?) := by
  obtain ⟨n, h120, hn⟩ := hI.t.1
  refine sx_RP.step (pc2 := 1) (ls2 := [(0, .ref 0), (1, .int a1), (2, .int a2)]) (st2 := [.int a2]) (w3 := w) rfl rfl ?_
  refine sx_RP.step (pc2 := 2) (ls2 := [(0, .ref 0), (1, .int a1), (2, .int a2)]) (st2 := [.int 1, .int a2]) (w3 := w) rfl rfl ?_
  refine sx_RP.step (pc2 := 3) (ls2 := [(0, .ref 0), (1, .int a1), (2, .int a2)]) (st2 := [.int 4, .int 1, .int a2]) (w3 := w) rfl rfl ?_
  rcases in_cases a2 1 4 (m := 1) (n := 4) rfl rfl (by decide) (by decide) with q1 | ⟨x2, hx3, hx4, rfl⟩
  · refine sx_RP.cu (as := [.int a2, .int 1, .int 4]) (rest2 := []) (st3 := [.int 0]) rfl rfl rfl rfl rfl (cx_8n q1) rfl ?_
    refine sx_RP.step (pc2 := 9) (ls2 := [(0, .ref 0), (1, .int a1), (2, .int a2)]) (st2 := []) (w3 := w) rfl rfl ?_
    refine sx_RP.step (pc2 := 10) (ls2 := [(0, .ref 0), (1, .int a1), (2, .int a2)]) (st2 := [.ref 0]) (w3 := w) rfl rfl ?_
    refine sx_RP.step (pc2 := 12) (ls2 := [(0, .ref 0), (1, .int a1), (2, .int a2)]) (st2 := [.int (-1000000001), .ref 0]) (w3 := w) rfl rfl ?_
    refine sx_RP.callp (as2 := [.ref 0, .int (-1000000001)]) (rest2 := []) rfl rfl (sx_inv_v2 (mi := 87) (k := 78) (st := [.int (-1000000001), .ref 0]) (w := w) rfl rfl hI.1.o0 rfl rfl rfl) rfl rfl rfl (Q9_0 hI) (show _ = 15 from rfl) ?_
    rintro r4 w7 ⟨rfl, hI8, hE6⟩
    show sx_RP _ _ _ _ _ [.int (-1000000001)] _ _
    refine sx_RP.ret (r := (some (.int (-1000000001)))) rfl rfl ?_
    exact ⟨⟨by rw [(fee_1 (a1 := a1) q1).1], by rw [(fee_1 (a1 := a1) q1).2]; exact FCb_en hI hE6.en⟩, hI8, fun a ha => hE6 a (Or.inr (Or.inr (by omega)))⟩
  · refine sx_RP.cu (as := [.int (nI x2), .int 1, .int 4]) (rest2 := []) (st3 := [.int 1]) rfl rfl rfl rfl rfl (cx_8p ⟨nI_le (a := 1) hx3 (by omega), nI_le (b := 4) hx4 (by decide)⟩) rfl ?_
    refine sx_RP.step (pc2 := 16) (ls2 := [(0, .ref 0), (1, .int a1), (2, .int (nI x2))]) (st2 := []) (w3 := w) rfl rfl ?_
    refine sx_RP.step (pc2 := 17) (ls2 := [(0, .ref 0), (1, .int a1), (2, .int (nI x2))]) (st2 := [.ref 0]) (w3 := w) rfl rfl ?_
    refine sx_RP.gf (v := .ref 96) rfl rfl hI.1.o0 rfl rfl (show _ = 20 from rfl) ?_
    refine sx_RP.step (pc2 := 21) (ls2 := [(0, .ref 0), (1, .int a1), (2, .int (nI x2))]) (st2 := [.int (nI x2), .ref 96]) (w3 := w) rfl rfl ?_
    rcases Decidable.em (n + x2 ≤ 120) with c9 | c9
    · refine sx_RP.cu (as := [.ref 96, .int (nI x2)]) (rest2 := []) (st3 := [.int 1]) rfl rfl (sx_inv_v2 (mi := 87) (k := 279) (st := [.int (nI x2), .ref 96]) (w := w) rfl rfl hI.1.o96 rfl rfl rfl) rfl rfl (p88y hI hn h120 (by omega) c9) rfl ?_
      refine sx_RP.step (pc2 := 34) (ls2 := [(0, .ref 0), (1, .int a1), (2, .int (nI x2))]) (st2 := []) (w3 := w) rfl rfl ?_
      refine sx_RP.step (pc2 := 35) (ls2 := [(0, .ref 0), (1, .int a1), (2, .int (nI x2))]) (st2 := [.int (nI x2)]) (w3 := w) rfl rfl ?_
      refine sx_RP.step (pc2 := 36) (ls2 := [(0, .ref 0), (1, .int a1), (2, .int (nI x2))]) (st2 := [.int 1, .int (nI x2)]) (w3 := w) rfl rfl ?_
      refine sx_RP.step (pc2 := 37) (ls2 := [(0, .ref 0), (1, .int a1), (2, .int (nI x2))]) (st2 := [.int ((nI x2) - 1)]) (w3 := w) rfl rfl ?_
      refine sx_RP.step (pc2 := 38) (ls2 := [(3, .int ((nI x2) - 1)), (0, .ref 0), (1, .int a1), (2, .int (nI x2))]) (st2 := []) (w3 := w) rfl rfl ?_
      rw [(fee_3 (t := FCb w) (a1 := a1) (tapC_len hn h120) (x := x2) (by omega) (by omega) c9).1, (fee_3 (t := FCb w) (a1 := a1) (tapC_len hn h120) (x := x2) (by omega) (by omega) c9).2]
      have key : ∀ k, k = x2 → sx_RP xs (d + 7) 87 38 [(0, .ref 0), (1, .int a1), (2, .int (nI k)), (3, .int (nI k - 1))] [] w (fun r w2 => (r = some (.int (nI (n + k))) ∧ tapC w2 = tapC w ++ bytesOf a1 k) ∧ WI w2 ∧ Off w w2) := by
        intro k hk
        rcases (show k = 1 ∨ k = 2 ∨ k = 3 ∨ k = 4 by omega) with rfl | rfl | rfl | rfl
        · exact X87_0 hI (by omega) hn
        · exact X87_1 hI (by omega) hn
        · exact X87_2 hI (by omega) hn
        · exact X87_3 hI (by omega) hn
      refine sx_RP.ls (sx_lr.cons rfl (sx_lr.cons rfl (sx_lr.cons rfl (sx_lr.cons rfl sx_lr.nil)))) ((key x2 rfl).mono (fun r w2 q => ⟨⟨q.1.1, ?_⟩, q.2.1, fun a ha => q.2.2 a (by omega) (by omega)⟩))
      rw [FCb_tap hI (fun a ha => q.2.2 a (by omega) (by omega)), q.1.2]
      rfl
    · refine sx_RP.cu (as := [.ref 96, .int (nI x2)]) (rest2 := []) (st3 := [.int 0]) rfl rfl (sx_inv_v2 (mi := 87) (k := 279) (st := [.int (nI x2), .ref 96]) (w := w) rfl rfl hI.1.o96 rfl rfl rfl) rfl rfl (p88n hI hn h120 (by omega) c9) rfl ?_
      refine sx_RP.step (pc2 := 27) (ls2 := [(0, .ref 0), (1, .int a1), (2, .int (nI x2))]) (st2 := []) (w3 := w) rfl rfl ?_
      refine sx_RP.step (pc2 := 28) (ls2 := [(0, .ref 0), (1, .int a1), (2, .int (nI x2))]) (st2 := [.ref 0]) (w3 := w) rfl rfl ?_
      refine sx_RP.step (pc2 := 30) (ls2 := [(0, .ref 0), (1, .int a1), (2, .int (nI x2))]) (st2 := [.int (-1000000002), .ref 0]) (w3 := w) rfl rfl ?_
      refine sx_RP.callp (as2 := [.ref 0, .int (-1000000002)]) (rest2 := []) rfl rfl (sx_inv_v2 (mi := 87) (k := 78) (st := [.int (-1000000002), .ref 0]) (w := w) rfl rfl hI.1.o0 rfl rfl rfl) rfl rfl rfl (Q9_1 hI) (show _ = 33 from rfl) ?_
      rintro r4 w11 ⟨rfl, hI12, hE10⟩
      show sx_RP _ _ _ _ _ [.int (-1000000002)] _ _
      refine sx_RP.ret (r := (some (.int (-1000000002)))) rfl rfl ?_
      exact ⟨⟨by rw [(fee_2 (a1 := a1) (tapC_len hn h120) (x := x2) (by omega) (by omega) c9).1], by rw [(fee_2 (a1 := a1) (tapC_len hn h120) (x := x2) (by omega) (by omega) c9).2]; exact FCb_en hI hE10.en⟩, hI12, fun a ha => hE10 a (Or.inr (Or.inr (by omega)))⟩
set_option maxRecDepth 20000 in
set_option maxHeartbeats 4000000 in
theorem X208L {xs : Option (List Int32)} {d : Nat} (x : Int32) : ∀ (kz t : Nat) (w : List sx_C), t + kz ≤ 120 → fi w 111 11 = nI t → WI w → sx_RP xs (d + 7) 208 36 [(0, .ref 111), (1, .int x), (3, .int (nI kz - 1))] [] w (fun r w2 => (r = some (.int (nI (t + kz))) ∧ tapM w2 = tapM w ++ bytesOf x kz ∧ fi w2 111 4 = fi w 111 4) ∧ WI w2 ∧ ∀ a, a ≠ 111 → a ≠ 121 → w2[a]? = w[a]?)
  | 0, t, w, ht, et, hI => by
    rw [show nI 0 - 1 = -1 from rfl]
    refine sx_RP.step (pc2 := 37) (ls2 := [(0, .ref 111), (1, .int x), (3, .int (-1))]) (st2 := [.int (-1)]) (w3 := w) rfl rfl ?_
    refine sx_RP.step (pc2 := 75) (ls2 := [(0, .ref 111), (1, .int x), (3, .int (-1))]) (st2 := []) (w3 := w) rfl rfl ?_
    refine sx_RP.step (pc2 := 76) (ls2 := [(0, .ref 111), (1, .int x), (3, .int (-1))]) (st2 := [.ref 111]) (w3 := w) rfl rfl ?_
    refine sx_RP.gf (v := .int (fi w 111 11)) rfl rfl hI.1.o111 rfl rfl (show _ = 79 from rfl) ?_
    rw [et]
    refine sx_RP.ret (r := (some (.int (nI t)))) rfl rfl ?_
    exact ⟨⟨by rw [Nat.add_zero], by rw [show bytesOf x 0 = [] from rfl, List.append_nil], rfl⟩, hI, fun _ _ _ => rfl⟩
  | kz + 1, t, w, ht, et, hI => by
    rw [show nI (kz + 1) - 1 = nI kz from fd_s1]
    refine sx_RP.step (pc2 := 37) (ls2 := [(0, .ref 111), (1, .int x), (3, .int (nI kz))]) (st2 := [.int (nI kz)]) (w3 := w) rfl rfl ?_
    refine sx_RP.br (p2 := 40) (l2 := [(0, .ref 111), (1, .int x), (3, .int (nI kz))]) (s2 := []) (v2 := w) rfl rfl (fun q => absurd (of_decide_eq_true q) (nI_pos (by omega))) (fun _ => ?_)
    refine sx_RP.step (pc2 := 41) (ls2 := [(0, .ref 111), (1, .int x), (3, .int (nI kz))]) (st2 := [.ref 111]) (w3 := w) rfl rfl ?_
    refine sx_RP.gf (v := .ref 121) rfl rfl hI.1.o111 rfl rfl (show _ = 44 from rfl) ?_
    refine sx_RP.step (pc2 := 45) (ls2 := [(0, .ref 111), (1, .int x), (3, .int (nI kz))]) (st2 := [.ref 111, .ref 121]) (w3 := w) rfl rfl ?_
    refine sx_RP.gf (v := .int (fi w 111 11)) rfl rfl hI.1.o111 rfl rfl (show _ = 48 from rfl) ?_
    rw [et]
    refine sx_RP.step (pc2 := 49) (ls2 := [(0, .ref 111), (1, .int x), (3, .int (nI kz))]) (st2 := [.int x, .int (nI t), .ref 121]) (w3 := w) rfl rfl ?_
    refine sx_RP.step (pc2 := 51) (ls2 := [(0, .ref 111), (1, .int x), (3, .int (nI kz))]) (st2 := [.int 8, .int x, .int (nI t), .ref 121]) (w3 := w) rfl rfl ?_
    refine sx_RP.step (pc2 := 52) (ls2 := [(0, .ref 111), (1, .int x), (3, .int (nI kz))]) (st2 := [.int (nI kz), .int 8, .int x, .int (nI t), .ref 121]) (w3 := w) rfl rfl ?_
    refine sx_RP.step (pc2 := 53) (ls2 := [(0, .ref 111), (1, .int x), (3, .int (nI kz))]) (st2 := [.int (8 * (nI kz)), .int x, .int (nI t), .ref 121]) (w3 := w) rfl rfl ?_
    rw [show (8 * (nI kz) : Int32) = nI (8 * kz) from nI_mul 8 kz]
    refine sx_RP.step (pc2 := 54) (ls2 := [(0, .ref 111), (1, .int x), (3, .int (nI kz))]) (st2 := [.int (x >>> ((nI (8 * kz)) &&& 31)), .int (nI t), .ref 121]) (w3 := w) rfl rfl ?_
    refine sx_RP.step (pc2 := 57) (ls2 := [(0, .ref 111), (1, .int x), (3, .int (nI kz))]) (st2 := [.int 255, .int (x >>> ((nI (8 * kz)) &&& 31)), .int (nI t), .ref 121]) (w3 := w) rfl rfl ?_
    refine sx_RP.step (pc2 := 58) (ls2 := [(0, .ref 111), (1, .int x), (3, .int (nI kz))]) (st2 := [.int ((x >>> ((nI (8 * kz)) &&& 31)) &&& 255), .int (nI t), .ref 121]) (w3 := w) rfl rfl ?_
    refine sx_RP.xF (a := 121) (c := t) (n := 120) hI rfl hI.1.a121 (by omega) (by decide) (by decide) (show _ = 59 from rfl) (fun w1 hI2 hs3 hv4 => ?_)
    have ex5 := (fi_same 11 (hs3 111 (by omega))).trans et
    refine sx_RP.step (pc2 := 60) (ls2 := [(0, .ref 111), (1, .int x), (3, .int (nI kz))]) (st2 := [.ref 111]) (w3 := w1) rfl rfl ?_
    refine sx_RP.step (pc2 := 61) (ls2 := [(0, .ref 111), (1, .int x), (3, .int (nI kz))]) (st2 := [.ref 111, .ref 111]) (w3 := w1) rfl rfl ?_
    refine sx_RP.gf (v := .int (fi w1 111 11)) rfl rfl hI2.1.o111 rfl rfl (show _ = 64 from rfl) ?_
    rw [ex5]
    refine sx_RP.step (pc2 := 65) (ls2 := [(0, .ref 111), (1, .int x), (3, .int (nI kz))]) (st2 := [.int 1, .int (nI t), .ref 111]) (w3 := w1) rfl rfl ?_
    refine sx_RP.step (pc2 := 66) (ls2 := [(0, .ref 111), (1, .int x), (3, .int (nI kz))]) (st2 := [.int ((nI t) + 1), .ref 111]) (w3 := w1) rfl rfl ?_
    rw [show ((nI t) + 1 : Int32) = nI (t + 1) from nI_add t 1]
    refine sx_RP.xJ (k := 11) hI2 rfl rfl (by decide) rfl ⟨(t + 1), by rw [if_neg (by decide)]; omega, rfl⟩ (show _ = 69 from rfl) (fun w6 hI7 hs8 hv9 hr10 => ?_)
    refine sx_RP.step (pc2 := 72) (ls2 := [(3, .int ((nI kz) + (-1))), (0, .ref 111), (1, .int x)]) (st2 := []) (w3 := w6) rfl rfl ?_
    refine sx_RP.step (pc2 := 36) (ls2 := [(3, .int ((nI kz) + (-1))), (0, .ref 111), (1, .int x)]) (st2 := []) (w3 := w6) rfl rfl ?_
    rw [fd_m1]
    refine sx_RP.ls (sx_lr.cons rfl (sx_lr.cons rfl (sx_lr.cons rfl sx_lr.nil))) ((X208L x kz (t + 1) w6 (by omega) hv9 hI7).mono (fun r w2 q => ⟨⟨by rw [q.1.1]; first | rfl | (congr 3; omega), ?_, q.1.2.2.trans ((hr10 4 (by decide)).trans (fi_same 4 (hs3 111 (by decide))))⟩, q.2.1, fun a h1 h3 => (q.2.2 a h1 h3).trans ((hs8 a h1).trans (hs3 a h3))⟩))
    rw [q.1.2.1, tapM_add hI et (by omega) hv9 ((ia_of (hs8 121 (by decide))).trans hv4), List.append_assoc, bytesOf_s]
    rfl
set_option maxRecDepth 20000 in
set_option maxHeartbeats 4000000 in
theorem B208 {xs : Option (List Int32)} {d : Nat} {w : List sx_C} (hI : WI w) (a1 a2 : Int32) : sx_RP xs (d + 7) 208 0 (lv_args 0 [.ref 111, .int a1, .int a2]) [] w (fun r w2 => (r = some (.int (feeA (FMb w) a2)) ∧ FMb w2 = feeU (FMb w) a1 a2) ∧ WI w2 ∧ ∀ a, a < 111 → w2[a]? = w[a]?) := by
  obtain ⟨n, h120, hn⟩ := hI.m.2.1
  refine sx_RP.step (pc2 := 1) (ls2 := [(0, .ref 111), (1, .int a1), (2, .int a2)]) (st2 := [.int a2]) (w3 := w) rfl rfl ?_
  refine sx_RP.step (pc2 := 2) (ls2 := [(0, .ref 111), (1, .int a1), (2, .int a2)]) (st2 := [.int 1, .int a2]) (w3 := w) rfl rfl ?_
  refine sx_RP.step (pc2 := 3) (ls2 := [(0, .ref 111), (1, .int a1), (2, .int a2)]) (st2 := [.int 4, .int 1, .int a2]) (w3 := w) rfl rfl ?_
  rcases in_cases a2 1 4 (m := 1) (n := 4) rfl rfl (by decide) (by decide) with q1 | ⟨x2, hx3, hx4, rfl⟩
  · refine sx_RP.cu (as := [.int a2, .int 1, .int 4]) (rest2 := []) (st3 := [.int 0]) rfl rfl rfl rfl rfl (cx_132o q1) rfl ?_
    refine sx_RP.step (pc2 := 9) (ls2 := [(0, .ref 111), (1, .int a1), (2, .int a2)]) (st2 := []) (w3 := w) rfl rfl ?_
    refine sx_RP.step (pc2 := 10) (ls2 := [(0, .ref 111), (1, .int a1), (2, .int a2)]) (st2 := [.ref 111]) (w3 := w) rfl rfl ?_
    refine sx_RP.step (pc2 := 11) (ls2 := [(0, .ref 111), (1, .int a1), (2, .int a2)]) (st2 := [.int 0, .ref 111]) (w3 := w) rfl rfl ?_
    refine sx_RP.callp (as2 := [.ref 111, .int 0]) (rest2 := []) rfl rfl (sx_inv_v2 (mi := 208) (k := 70) (st := [.int 0, .ref 111]) (w := w) rfl rfl hI.1.o111 rfl rfl rfl) rfl rfl rfl (K133_0 hI) (show _ = 14 from rfl) ?_
    rintro r4 w7 ⟨rfl, hI8, hE6⟩
    show sx_RP _ _ _ _ _ [.int (-1000000001)] _ _
    refine sx_RP.ret (r := (some (.int (-1000000001)))) rfl rfl ?_
    exact ⟨⟨by rw [(fee_1 (a1 := a1) q1).1], by rw [(fee_1 (a1 := a1) q1).2]; exact FMb_el hI hE6.el⟩, hI8, fun a ha => hE6.1 a (Or.inl (by omega))⟩
  · refine sx_RP.cu (as := [.int (nI x2), .int 1, .int 4]) (rest2 := []) (st3 := [.int 1]) rfl rfl rfl rfl rfl (cx_132p ⟨nI_le (a := 1) hx3 (by omega), nI_le (b := 4) hx4 (by decide)⟩) rfl ?_
    refine sx_RP.step (pc2 := 15) (ls2 := [(0, .ref 111), (1, .int a1), (2, .int (nI x2))]) (st2 := []) (w3 := w) rfl rfl ?_
    refine sx_RP.step (pc2 := 16) (ls2 := [(0, .ref 111), (1, .int a1), (2, .int (nI x2))]) (st2 := [.ref 111]) (w3 := w) rfl rfl ?_
    refine sx_RP.gf (v := .int (fi w 111 11)) rfl rfl hI.1.o111 rfl rfl (show _ = 19 from rfl) ?_
    rw [hn]
    refine sx_RP.step (pc2 := 20) (ls2 := [(0, .ref 111), (1, .int a1), (2, .int (nI x2))]) (st2 := [.int (nI x2), .int (nI n)]) (w3 := w) rfl rfl ?_
    refine sx_RP.step (pc2 := 21) (ls2 := [(0, .ref 111), (1, .int a1), (2, .int (nI x2))]) (st2 := [.int ((nI n) + (nI x2))]) (w3 := w) rfl rfl ?_
    rw [show ((nI n) + (nI x2) : Int32) = nI (n + x2) from nI_add n x2]
    refine sx_RP.step (pc2 := 23) (ls2 := [(0, .ref 111), (1, .int a1), (2, .int (nI x2))]) (st2 := [.int 120, .int (nI (n + x2))]) (w3 := w) rfl rfl ?_
    refine sx_RP.br (p1 := 32) (l1 := [(0, .ref 111), (1, .int a1), (2, .int (nI x2))]) (s1 := []) (v1 := w) (p2 := 26) (l2 := [(0, .ref 111), (1, .int a1), (2, .int (nI x2))]) (s2 := []) (v2 := w) rfl rfl (fun q9 => ?_) (fun q9 => ?_)
    · replace q9 := of_decide_eq_true q9
      replace q9 := (nI_leI (a := (n + x2)) (b := 120) (by omega) (by omega)).mp q9
      refine sx_RP.step (pc2 := 33) (ls2 := [(0, .ref 111), (1, .int a1), (2, .int (nI x2))]) (st2 := [.int (nI x2)]) (w3 := w) rfl rfl ?_
      refine sx_RP.step (pc2 := 34) (ls2 := [(0, .ref 111), (1, .int a1), (2, .int (nI x2))]) (st2 := [.int 1, .int (nI x2)]) (w3 := w) rfl rfl ?_
      refine sx_RP.step (pc2 := 35) (ls2 := [(0, .ref 111), (1, .int a1), (2, .int (nI x2))]) (st2 := [.int ((nI x2) - 1)]) (w3 := w) rfl rfl ?_
      refine sx_RP.step (pc2 := 36) (ls2 := [(3, .int ((nI x2) - 1)), (0, .ref 111), (1, .int a1), (2, .int (nI x2))]) (st2 := []) (w3 := w) rfl rfl ?_
      rw [(fee_3 (t := FMb w) (a1 := a1) (tapM_len hn h120) (x := x2) (by omega) (by omega) q9).1, (fee_3 (t := FMb w) (a1 := a1) (tapM_len hn h120) (x := x2) (by omega) (by omega) q9).2]
      refine sx_RP.ls (sx_lr.cons rfl (sx_lr.cons rfl (sx_lr.cons rfl sx_lr.nil))) ((X208L a1 x2 n w q9 hn hI).mono (fun r w2 q => ⟨⟨q.1.1, ?_⟩, q.2.1, fun a ha => q.2.2 a (by omega) (by omega)⟩))
      unfold FMb
      rw [q.1.2.1, q.1.2.2, ia_of (q.2.2 112 (by decide) (by decide)), ia_of (q.2.2 113 (by decide) (by decide))]
    · replace q9 := of_decide_eq_false q9
      replace q9 := mt (nI_leI (a := (n + x2)) (b := 120) (by omega) (by omega)).mpr q9
      refine sx_RP.step (pc2 := 27) (ls2 := [(0, .ref 111), (1, .int a1), (2, .int (nI x2))]) (st2 := [.ref 111]) (w3 := w) rfl rfl ?_
      refine sx_RP.step (pc2 := 28) (ls2 := [(0, .ref 111), (1, .int a1), (2, .int (nI x2))]) (st2 := [.int 1, .ref 111]) (w3 := w) rfl rfl ?_
      refine sx_RP.callp (as2 := [.ref 111, .int 1]) (rest2 := []) rfl rfl (sx_inv_v2 (mi := 208) (k := 70) (st := [.int 1, .ref 111]) (w := w) rfl rfl hI.1.o111 rfl rfl rfl) rfl rfl rfl (K133_1 hI) (show _ = 31 from rfl) ?_
      rintro r4 w11 ⟨rfl, hI12, hE10⟩
      show sx_RP _ _ _ _ _ [.int (-1000000002)] _ _
      refine sx_RP.ret (r := (some (.int (-1000000002)))) rfl rfl ?_
      exact ⟨⟨by rw [(fee_2 (a1 := a1) (tapM_len hn h120) (x := x2) (by omega) (by omega) q9).1], by rw [(fee_2 (a1 := a1) (tapM_len hn h120) (x := x2) (by omega) (by omega) q9).2]; exact FMb_el hI hE10.el⟩, hI12, fun a ha => hE10.1 a (Or.inl (by omega))⟩
end
-- 89e.ration.lean.txt
section
def BR (b : BB) : Prop := ∃ o m r, b.2.2.1 = nI o ∧ o ≤ 999999 ∧ b.2.2.2.1 = nI m ∧ 1 ≤ m ∧ m ≤ 999 ∧ b.2.2.2.2 = nI r ∧ 1 ≤ r ∧ r ≤ 99
end
-- 89f.siege0.lean.txt
section
def rEnd (p : Nat → Bool) (n : Nat) (X : Nat → Nat) : Nat → Nat → Nat
  | 0, i => i
  | f + 1, i => if i < n ∧ p (X i) = true then rEnd p n X f (i + 1) else i
def rE (p : Nat → Bool) (n : Nat) (X : Nat → Nat) (i : Nat) : Nat := rEnd p n X (n - i) i
section SXRE0
variable {p : Nat → Bool} {n : Nat} {X : Nat → Nat} {i : Nat}
theorem rE_y (h : i < n) (hp : p (X i) = true) : rE p n X i = rE p n X (i + 1) := by
  unfold rE
  rw [show n - i = (n - (i + 1)) + 1 by omega]
  show (if i < n ∧ p (X i) = true then rEnd p n X (n - (i + 1)) (i + 1) else i) = _
  rw [if_pos ⟨h, hp⟩]
theorem rE_n (h : ¬ (i < n ∧ p (X i) = true)) : rE p n X i = i := by
  unfold rE
  cases hf : n - i with
  | zero => rfl
  | succ f =>
    show (if i < n ∧ p (X i) = true then rEnd p n X f (i + 1) else i) = i
    rw [if_neg h]
theorem rEnd_ge : ∀ f i, i ≤ rEnd p n X f i
  | 0, i => Nat.le_refl _
  | f + 1, i => by
    unfold rEnd
    split
    · exact Nat.le_trans (Nat.le_succ i) (rEnd_ge f (i + 1))
    · exact Nat.le_refl _
theorem rE_ge : i ≤ rE p n X i := rEnd_ge _ _
theorem rEnd_le : ∀ f i, i ≤ n → rEnd p n X f i ≤ n
  | 0, i, h => h
  | f + 1, i, h => by
    unfold rEnd
    split
    · rename_i q
      exact rEnd_le f (i + 1) q.1
    · exact h
theorem rE_le (h : i ≤ n) : rE p n X i ≤ n := rEnd_le _ _ h
theorem rEnd_in : ∀ f i j, i ≤ j → j < rEnd p n X f i → j < n ∧ p (X j) = true
  | 0, i, j, h1, h2 => absurd h2 (by unfold rEnd; omega)
  | f + 1, i, j, h1, h2 => by
    unfold rEnd at h2
    split at h2
    · rename_i q
      by_cases e : j = i
      · rw [e]
        exact q
      · exact rEnd_in f (i + 1) j (by omega) h2
    · omega
theorem rE_in {j : Nat} (h1 : i ≤ j) (h2 : j < rE p n X i) : j < n ∧ p (X j) = true := rEnd_in _ _ _ h1 h2
theorem rEnd_out : ∀ f i, n ≤ i + f → ¬ (rEnd p n X f i < n ∧ p (X (rEnd p n X f i)) = true)
  | 0, i, h => by unfold rEnd; intro q; omega
  | f + 1, i, h => by
    unfold rEnd
    split
    · exact rEnd_out f (i + 1) (by omega)
    · rename_i q
      exact q
theorem rE_out : ¬ (rE p n X i < n ∧ p (X (rE p n X i)) = true) := rEnd_out _ _ (by omega)
theorem rE_rE : rE p n X (rE p n X i) = rE p n X i := rE_n rE_out
end SXRE0
def blk (c : Nat) : Bool := c == 32
def lett (c : Nat) : Bool := Nat.ble 97 c && Nat.ble c 122
def digi (c : Nat) : Bool := Nat.ble 48 c && Nat.ble c 57
def sortN (c : Nat) : Nat := cond (lett c) 1 (cond (digi c) 2 (cond (c == 59) 3 4))
def soT (n : Nat) (X : Nat → Nat) (p : Nat) : Nat := if p < n then sortN (X p) else 0
def beT (n : Nat) (X : Nat → Nat) (p : Nat) : Nat := if p < n then (if sortN (X p) = 1 then rE lett n X (p + 1) else if sortN (X p) = 2 then rE digi n X (p + 1) else p + 1) else p
def nuV (cap : Nat) (X : Nat → Nat) (v i : Nat) : Nat → Nat
  | 0 => v
  | f + 1 => nuV cap X (min cap (10 * v + (X i - 48))) (i + 1) f
def vaT (n : Nat) (X : Nat → Nat) (p : Nat) : Nat := if soT n X p = 2 then nuV 1000000 X 0 p (beT n X p - p) else 0
def sgn (c : Nat) : Int32 := (nI c).toInt8.toInt32
theorem sort_all : ∀ c : Fin 256, nI (sortN c.val) = (if sgn c.val < 97 then (if sgn c.val < 48 then (if ¬ sgn c.val = 59 then 4 else 3) else if 57 < sgn c.val then (if ¬ sgn c.val = 59 then 4 else 3) else 2) else if 122 < sgn c.val then (if sgn c.val < 48 then (if ¬ sgn c.val = 59 then 4 else 3) else if 57 < sgn c.val then (if ¬ sgn c.val = 59 then 4 else 3) else 2) else 1) := by decide +kernel
theorem sgn32_all : ∀ c : Fin 256, (decide (sgn c.val = 32)) = blk c.val := by decide +kernel
theorem sgn_dig : ∀ c : Fin 256, digi c.val = true → sgn c.val = nI c.val ∧ 48 ≤ c.val ∧ c.val ≤ 57 := by decide +kernel
theorem sgn_let : ∀ c : Fin 256, lett c.val = true → sgn c.val = nI c.val ∧ 97 ≤ c.val ∧ c.val ≤ 122 := by decide +kernel
theorem sort_1 : ∀ c : Fin 256, sortN c.val = 1 ↔ lett c.val = true := by decide +kernel
theorem sort_2 : ∀ c : Fin 256, sortN c.val = 2 ↔ digi c.val = true := by decide +kernel
theorem sort_le : ∀ c : Fin 256, 1 ≤ sortN c.val ∧ sortN c.val ≤ 4 := by decide +kernel
def CT (n : Nat) (X : Nat → Nat) (w : List sx_C) : Prop := fi w 96 1 = nI n ∧ n ≤ 120 ∧ ∀ i, i < n → (ia w 97).getD i 0 = sgn (X i) ∧ X i < 256
def TK' (n : Nat) (X : Nat → Nat) (p : Nat) (w : List sx_C) : Prop := fi w 96 3 = nI p ∧ fi w 96 2 = nI (soT n X p) ∧ fi w 96 4 = nI (beT n X p) ∧ fi w 96 5 = nI (vaT n X p)
theorem nuV_le {cap : Nat} {X : Nat → Nat} : ∀ f v i, v ≤ cap → nuV cap X v i f ≤ cap
  | 0, v, i, h => h
  | f + 1, v, i, h => nuV_le f _ (i + 1) (Nat.min_le_left _ _)
theorem beT_le {n p : Nat} {X : Nat → Nat} (h : p ≤ n) : beT n X p ≤ n := by
  unfold beT
  split
  · split
    · exact rE_le (by omega)
    · split
      · exact rE_le (by omega)
      · omega
  · exact h
theorem beT_ge {n p : Nat} {X : Nat → Nat} : p ≤ beT n X p := by
  unfold beT
  split
  · split
    · exact Nat.le_trans (Nat.le_succ p) rE_ge
    · split
      · exact Nat.le_trans (Nat.le_succ p) rE_ge
      · omega
  · exact Nat.le_refl _
end
-- 89g.siege.lean.txt
section
section SXTP
variable {xs : Option (List Int32)} {d mi pc pc2 a idx p : Nat} {ls : sx_L} {r : List Value} {w w0 : List sx_C} {P : Option Value → List sx_C → Prop}
theorem sx_RP.xP {k : Nat} {v : Int32} (hI : WI w) (hi : sx_ins mi pc = some (.putfield idx, 3)) (hq : sx_lk (sx_fl (sx_own mi)) idx = some (4, k, p)) (hk : 2 ≤ k ∧ k < 6) (hf : sx_fin mi 4 k = true) (hv : tR k v) (hp : pc + 3 = pc2) (kk : ∀ w2, WI w2 → Same 96 w w2 → fi w2 96 k = v → (∀ j, j ≠ k → fi w2 96 j = fi w 96 j) → sx_RP xs d mi pc2 ls r w2 P) : sx_RP xs d mi pc ls (.int v :: .ref 96 :: r) w P := by
  have hw := hI.1.o96
  have q := hI.t
  have hfs : fs_ w 96 = [.ref 97, .int (fi w 96 1), .int (fi w 96 2), .int (fi w 96 3), .int (fi w 96 4), .int (fi w 96 5)] := by unfold fs_; rw [hw]
  have hne : ∀ (fs : List Value) (j : Nat), fs_ w 96 = fs → j ≠ k → fi (w.set 96 (.inr (.inr (.inr (4, fs.set k (.int v)))))) 96 j = fi w 96 j := by
    intro fs j e hj
    unfold fi
    rw [fs_set hw, List.getElem?_set_ne (Ne.symm hj), e]
  rcases (show k = 2 ∨ k = 3 ∨ k = 4 ∨ k = 5 by omega) with rfl | rfl | rfl | rfl
  · exact sx_RP.pf hi hq hw (by rw [hf]; rfl) rfl rfl hp (kk _ (hI.set hw rfl (cOK.t q)) Same.set (by unfold fi; rw [fs_set hw]; rfl) (fun j hj => hne _ j hfs hj))
  · exact sx_RP.pf hi hq hw (by rw [hf]; rfl) rfl rfl hp (kk _ (hI.set hw rfl (cOK.t ⟨q.1, hv, q.2.2⟩)) Same.set (by unfold fi; rw [fs_set hw]; rfl) (fun j hj => hne _ j hfs hj))
  · exact sx_RP.pf hi hq hw (by rw [hf]; rfl) rfl rfl hp (kk _ (hI.set hw rfl (cOK.t ⟨q.1, q.2.1, hv⟩)) Same.set (by unfold fi; rw [fs_set hw]; rfl) (fun j hj => hne _ j hfs hj))
  · exact sx_RP.pf hi hq hw (by rw [hf]; rfl) rfl rfl hp (kk _ (hI.set hw rfl (cOK.t q)) Same.set (by unfold fi; rw [fs_set hw]; rfl) (fun j hj => hne _ j hfs hj))
end SXTP
theorem CT.same {n : Nat} {X : Nat → Nat} {w w2 : List sx_C} (h : CT n X w) (h1 : fi w2 96 1 = fi w 96 1) (h2 : ia w2 97 = ia w 97) : CT n X w2 := ⟨h1.trans h.1, h.2.1, fun i hi => by rw [h2]; exact h.2.2 i hi⟩
theorem sgn32 {c : Nat} (h : c < 256) : sgn c = 32 ↔ blk c = true := by
  rw [← sgn32_all ⟨c, h⟩]
  exact (decide_eq_true_iff).symm
theorem nI_min {a b : Nat} (ha : a < 2 ^ 31) (hb : b < 2 ^ 31) : (if nI b < nI a then nI b else nI a) = nI (min a b) := by
  by_cases h : b < a
  · rw [if_pos ((nI_ltI hb ha).mpr h), Nat.min_eq_right (by omega)]
  · rw [if_neg (fun z => h ((nI_ltI hb ha).mp z)), Nat.min_eq_left (by omega)]
set_option maxRecDepth 20000 in
set_option maxHeartbeats 4000000 in
theorem x95 {xs : Option (List Int32)} {d : Nat} {w : List sx_C} (hI : WI w) {c : Nat} (hc : c < 256) : sx_RU xs d 95 0 (lv_args 0 [.int (sgn c)]) [] w (some (.int (nI (sortN c)))) w := by
  have h : sx_RP xs d 95 0 (lv_args 0 [.int (sgn c)]) [] w (fun r9 w2 => r9 = some (.int (nI (sortN c))) ∧ w2 = w) := by
    refine sx_RP.step (pc2 := 1) (ls2 := [(0, .int (sgn c))]) (st2 := [.int (sgn c)]) (w3 := w) rfl rfl ?_
    refine sx_RP.step (pc2 := 3) (ls2 := [(0, .int (sgn c))]) (st2 := [.int 97, .int (sgn c)]) (w3 := w) rfl rfl ?_
    refine sx_RP.br (p1 := 14) (l1 := [(0, .int (sgn c))]) (s1 := []) (v1 := w) (p2 := 6) (l2 := [(0, .int (sgn c))]) (s2 := []) (v2 := w) rfl rfl (fun q1 => ?_) (fun q1 => ?_)
    · replace q1 := of_decide_eq_true q1
      refine sx_RP.step (pc2 := 15) (ls2 := [(0, .int (sgn c))]) (st2 := [.int (sgn c)]) (w3 := w) rfl rfl ?_
      refine sx_RP.step (pc2 := 17) (ls2 := [(0, .int (sgn c))]) (st2 := [.int 48, .int (sgn c)]) (w3 := w) rfl rfl ?_
      refine sx_RP.br (p1 := 28) (l1 := [(0, .int (sgn c))]) (s1 := []) (v1 := w) (p2 := 20) (l2 := [(0, .int (sgn c))]) (s2 := []) (v2 := w) rfl rfl (fun q2 => ?_) (fun q2 => ?_)
      · replace q2 := of_decide_eq_true q2
        refine sx_RP.step (pc2 := 29) (ls2 := [(0, .int (sgn c))]) (st2 := [.int (sgn c)]) (w3 := w) rfl rfl ?_
        refine sx_RP.step (pc2 := 31) (ls2 := [(0, .int (sgn c))]) (st2 := [.int 59, .int (sgn c)]) (w3 := w) rfl rfl ?_
        refine sx_RP.br (p1 := 38) (l1 := [(0, .int (sgn c))]) (s1 := []) (v1 := w) (p2 := 34) (l2 := [(0, .int (sgn c))]) (s2 := []) (v2 := w) rfl rfl (fun q3 => ?_) (fun q3 => ?_)
        · replace q3 := of_decide_eq_true q3
          refine sx_RP.step (pc2 := 39) (ls2 := [(0, .int (sgn c))]) (st2 := [.int 4]) (w3 := w) rfl rfl ?_
          refine sx_RP.ret (r := (some (.int 4))) rfl rfl ?_
          exact ⟨by rw [sort_all ⟨c, hc⟩, if_pos q1, if_pos q2, if_pos q3], rfl⟩
        · replace q3 := Decidable.not_not.mp (of_decide_eq_false q3)
          refine sx_RP.step (pc2 := 35) (ls2 := [(0, .int (sgn c))]) (st2 := [.int 3]) (w3 := w) rfl rfl ?_
          refine sx_RP.step (pc2 := 39) (ls2 := [(0, .int (sgn c))]) (st2 := [.int 3]) (w3 := w) rfl rfl ?_
          refine sx_RP.ret (r := (some (.int 3))) rfl rfl ?_
          exact ⟨by rw [sort_all ⟨c, hc⟩, if_pos q1, if_pos q2, if_neg (fun z => z q3)], rfl⟩
      · replace q2 := of_decide_eq_false q2
        refine sx_RP.step (pc2 := 21) (ls2 := [(0, .int (sgn c))]) (st2 := [.int (sgn c)]) (w3 := w) rfl rfl ?_
        refine sx_RP.step (pc2 := 23) (ls2 := [(0, .int (sgn c))]) (st2 := [.int 57, .int (sgn c)]) (w3 := w) rfl rfl ?_
        refine sx_RP.br (p1 := 28) (l1 := [(0, .int (sgn c))]) (s1 := []) (v1 := w) (p2 := 26) (l2 := [(0, .int (sgn c))]) (s2 := []) (v2 := w) rfl rfl (fun q4 => ?_) (fun q4 => ?_)
        · replace q4 := of_decide_eq_true q4
          refine sx_RP.step (pc2 := 29) (ls2 := [(0, .int (sgn c))]) (st2 := [.int (sgn c)]) (w3 := w) rfl rfl ?_
          refine sx_RP.step (pc2 := 31) (ls2 := [(0, .int (sgn c))]) (st2 := [.int 59, .int (sgn c)]) (w3 := w) rfl rfl ?_
          refine sx_RP.br (p1 := 38) (l1 := [(0, .int (sgn c))]) (s1 := []) (v1 := w) (p2 := 34) (l2 := [(0, .int (sgn c))]) (s2 := []) (v2 := w) rfl rfl (fun q5 => ?_) (fun q5 => ?_)
          · replace q5 := of_decide_eq_true q5
            refine sx_RP.step (pc2 := 39) (ls2 := [(0, .int (sgn c))]) (st2 := [.int 4]) (w3 := w) rfl rfl ?_
            refine sx_RP.ret (r := (some (.int 4))) rfl rfl ?_
            exact ⟨by rw [sort_all ⟨c, hc⟩, if_pos q1, if_neg q2, if_pos q4, if_pos q5], rfl⟩
          · replace q5 := Decidable.not_not.mp (of_decide_eq_false q5)
            refine sx_RP.step (pc2 := 35) (ls2 := [(0, .int (sgn c))]) (st2 := [.int 3]) (w3 := w) rfl rfl ?_
            refine sx_RP.step (pc2 := 39) (ls2 := [(0, .int (sgn c))]) (st2 := [.int 3]) (w3 := w) rfl rfl ?_
            refine sx_RP.ret (r := (some (.int 3))) rfl rfl ?_
            exact ⟨by rw [sort_all ⟨c, hc⟩, if_pos q1, if_neg q2, if_pos q4, if_neg (fun z => z q5)], rfl⟩
        · replace q4 := of_decide_eq_false q4
          refine sx_RP.step (pc2 := 27) (ls2 := [(0, .int (sgn c))]) (st2 := [.int 2]) (w3 := w) rfl rfl ?_
          refine sx_RP.ret (r := (some (.int 2))) rfl rfl ?_
          exact ⟨by rw [sort_all ⟨c, hc⟩, if_pos q1, if_neg q2, if_neg q4], rfl⟩
    · replace q1 := of_decide_eq_false q1
      refine sx_RP.step (pc2 := 7) (ls2 := [(0, .int (sgn c))]) (st2 := [.int (sgn c)]) (w3 := w) rfl rfl ?_
      refine sx_RP.step (pc2 := 9) (ls2 := [(0, .int (sgn c))]) (st2 := [.int 122, .int (sgn c)]) (w3 := w) rfl rfl ?_
      refine sx_RP.br (p1 := 14) (l1 := [(0, .int (sgn c))]) (s1 := []) (v1 := w) (p2 := 12) (l2 := [(0, .int (sgn c))]) (s2 := []) (v2 := w) rfl rfl (fun q6 => ?_) (fun q6 => ?_)
      · replace q6 := of_decide_eq_true q6
        refine sx_RP.step (pc2 := 15) (ls2 := [(0, .int (sgn c))]) (st2 := [.int (sgn c)]) (w3 := w) rfl rfl ?_
        refine sx_RP.step (pc2 := 17) (ls2 := [(0, .int (sgn c))]) (st2 := [.int 48, .int (sgn c)]) (w3 := w) rfl rfl ?_
        refine sx_RP.br (p1 := 28) (l1 := [(0, .int (sgn c))]) (s1 := []) (v1 := w) (p2 := 20) (l2 := [(0, .int (sgn c))]) (s2 := []) (v2 := w) rfl rfl (fun q7 => ?_) (fun q7 => ?_)
        · replace q7 := of_decide_eq_true q7
          refine sx_RP.step (pc2 := 29) (ls2 := [(0, .int (sgn c))]) (st2 := [.int (sgn c)]) (w3 := w) rfl rfl ?_
          refine sx_RP.step (pc2 := 31) (ls2 := [(0, .int (sgn c))]) (st2 := [.int 59, .int (sgn c)]) (w3 := w) rfl rfl ?_
          refine sx_RP.br (p1 := 38) (l1 := [(0, .int (sgn c))]) (s1 := []) (v1 := w) (p2 := 34) (l2 := [(0, .int (sgn c))]) (s2 := []) (v2 := w) rfl rfl (fun q8 => ?_) (fun q8 => ?_)
          · replace q8 := of_decide_eq_true q8
            refine sx_RP.step (pc2 := 39) (ls2 := [(0, .int (sgn c))]) (st2 := [.int 4]) (w3 := w) rfl rfl ?_
            refine sx_RP.ret (r := (some (.int 4))) rfl rfl ?_
            exact ⟨by rw [sort_all ⟨c, hc⟩, if_neg q1, if_pos q6, if_pos q7, if_pos q8], rfl⟩
          · replace q8 := Decidable.not_not.mp (of_decide_eq_false q8)
            refine sx_RP.step (pc2 := 35) (ls2 := [(0, .int (sgn c))]) (st2 := [.int 3]) (w3 := w) rfl rfl ?_
            refine sx_RP.step (pc2 := 39) (ls2 := [(0, .int (sgn c))]) (st2 := [.int 3]) (w3 := w) rfl rfl ?_
            refine sx_RP.ret (r := (some (.int 3))) rfl rfl ?_
            exact ⟨by rw [sort_all ⟨c, hc⟩, if_neg q1, if_pos q6, if_pos q7, if_neg (fun z => z q8)], rfl⟩
        · replace q7 := of_decide_eq_false q7
          refine sx_RP.step (pc2 := 21) (ls2 := [(0, .int (sgn c))]) (st2 := [.int (sgn c)]) (w3 := w) rfl rfl ?_
          refine sx_RP.step (pc2 := 23) (ls2 := [(0, .int (sgn c))]) (st2 := [.int 57, .int (sgn c)]) (w3 := w) rfl rfl ?_
          refine sx_RP.br (p1 := 28) (l1 := [(0, .int (sgn c))]) (s1 := []) (v1 := w) (p2 := 26) (l2 := [(0, .int (sgn c))]) (s2 := []) (v2 := w) rfl rfl (fun q9 => ?_) (fun q9 => ?_)
          · replace q9 := of_decide_eq_true q9
            refine sx_RP.step (pc2 := 29) (ls2 := [(0, .int (sgn c))]) (st2 := [.int (sgn c)]) (w3 := w) rfl rfl ?_
            refine sx_RP.step (pc2 := 31) (ls2 := [(0, .int (sgn c))]) (st2 := [.int 59, .int (sgn c)]) (w3 := w) rfl rfl ?_
            refine sx_RP.br (p1 := 38) (l1 := [(0, .int (sgn c))]) (s1 := []) (v1 := w) (p2 := 34) (l2 := [(0, .int (sgn c))]) (s2 := []) (v2 := w) rfl rfl (fun q10 => ?_) (fun q10 => ?_)
            · replace q10 := of_decide_eq_true q10
              refine sx_RP.step (pc2 := 39) (ls2 := [(0, .int (sgn c))]) (st2 := [.int 4]) (w3 := w) rfl rfl ?_
              refine sx_RP.ret (r := (some (.int 4))) rfl rfl ?_
              exact ⟨by rw [sort_all ⟨c, hc⟩, if_neg q1, if_pos q6, if_neg q7, if_pos q9, if_pos q10], rfl⟩
            · replace q10 := Decidable.not_not.mp (of_decide_eq_false q10)
              refine sx_RP.step (pc2 := 35) (ls2 := [(0, .int (sgn c))]) (st2 := [.int 3]) (w3 := w) rfl rfl ?_
              refine sx_RP.step (pc2 := 39) (ls2 := [(0, .int (sgn c))]) (st2 := [.int 3]) (w3 := w) rfl rfl ?_
              refine sx_RP.ret (r := (some (.int 3))) rfl rfl ?_
              exact ⟨by rw [sort_all ⟨c, hc⟩, if_neg q1, if_pos q6, if_neg q7, if_pos q9, if_neg (fun z => z q10)], rfl⟩
          · replace q9 := of_decide_eq_false q9
            refine sx_RP.step (pc2 := 27) (ls2 := [(0, .int (sgn c))]) (st2 := [.int 2]) (w3 := w) rfl rfl ?_
            refine sx_RP.ret (r := (some (.int 2))) rfl rfl ?_
            exact ⟨by rw [sort_all ⟨c, hc⟩, if_neg q1, if_pos q6, if_neg q7, if_neg q9], rfl⟩
      · replace q6 := of_decide_eq_false q6
        refine sx_RP.step (pc2 := 13) (ls2 := [(0, .int (sgn c))]) (st2 := [.int 1]) (w3 := w) rfl rfl ?_
        refine sx_RP.ret (r := (some (.int 1))) rfl rfl ?_
        exact ⟨by rw [sort_all ⟨c, hc⟩, if_neg q1, if_neg q6], rfl⟩
  obtain ⟨r9, w2, h1, rfl, rfl⟩ := h
  exact h1
set_option maxRecDepth 20000 in
set_option maxHeartbeats 4000000 in
theorem x97 {xs : Option (List Int32)} {d : Nat} {w : List sx_C} (hI : WI w) (x y : Int32) : sx_RU xs d 97 0 (lv_args 0 [.int x, .int y]) [] w (some (.int (if y < x then y else x))) w := by
  have h : sx_RP xs d 97 0 (lv_args 0 [.int x, .int y]) [] w (fun r9 w2 => r9 = some (.int (if y < x then y else x)) ∧ w2 = w) := by
    refine sx_RP.step (pc2 := 1) (ls2 := [(0, .int x), (1, .int y)]) (st2 := [.int x]) (w3 := w) rfl rfl ?_
    refine sx_RP.step (pc2 := 2) (ls2 := [(0, .int x), (1, .int y)]) (st2 := [.int y, .int x]) (w3 := w) rfl rfl ?_
    refine sx_RP.br (p1 := 9) (l1 := [(0, .int x), (1, .int y)]) (s1 := []) (v1 := w) (p2 := 5) (l2 := [(0, .int x), (1, .int y)]) (s2 := []) (v2 := w) rfl rfl (fun q1 => ?_) (fun q1 => ?_)
    · replace q1 := of_decide_eq_true q1
      refine sx_RP.step (pc2 := 10) (ls2 := [(0, .int x), (1, .int y)]) (st2 := [.int y]) (w3 := w) rfl rfl ?_
      refine sx_RP.ret (r := (some (.int y))) rfl rfl ?_
      exact ⟨by first | rw [if_pos q1] | rw [if_neg q1] | rw [if_neg (Int32.not_lt.mpr q1)] | rw [if_pos (Int32.not_le.mp q1)], rfl⟩
    · replace q1 := of_decide_eq_false q1
      refine sx_RP.step (pc2 := 6) (ls2 := [(0, .int x), (1, .int y)]) (st2 := [.int x]) (w3 := w) rfl rfl ?_
      refine sx_RP.step (pc2 := 10) (ls2 := [(0, .int x), (1, .int y)]) (st2 := [.int x]) (w3 := w) rfl rfl ?_
      refine sx_RP.ret (r := (some (.int x))) rfl rfl ?_
      exact ⟨by first | rw [if_pos q1] | rw [if_neg q1] | rw [if_neg (Int32.not_lt.mpr q1)] | rw [if_pos (Int32.not_le.mp q1)], rfl⟩
  obtain ⟨r9, w2, h1, rfl, rfl⟩ := h
  exact h1
set_option maxRecDepth 20000 in
set_option maxHeartbeats 4000000 in
theorem x96L {xs : Option (List Int32)} {d n a b : Nat} {X : Nat → Nat} {w : List sx_C} (hI : WI w) (hC : CT n X w) (hb : b ≤ n) (hd0 : ∀ j, a ≤ j → j < b → digi (X j) = true) : ∀ (fz i v : Nat), i + fz = b → a ≤ i → v ≤ 1000000 → sx_RP xs (d + 1) 96 5 [(0, .ref 96), (1, .int (nI a)), (2, .int (nI b)), (3, .int (nI v)), (4, .int (nI i))] [] w (fun r2 w2 => r2 = some (.int (nI (nuV 1000000 X v i fz))) ∧ w2 = w)
  | 0, i, v, hi, hai, hv => by
    obtain rfl : i = b := by omega
    have hn := hC.2.1
    refine sx_RP.step (pc2 := 7) (ls2 := [(0, .ref 96), (1, .int (nI a)), (2, .int (nI i)), (3, .int (nI v)), (4, .int (nI i))]) (st2 := [.int (nI i)]) (w3 := w) rfl rfl ?_
    refine sx_RP.step (pc2 := 8) (ls2 := [(0, .ref 96), (1, .int (nI a)), (2, .int (nI i)), (3, .int (nI v)), (4, .int (nI i))]) (st2 := [.int (nI i), .int (nI i)]) (w3 := w) rfl rfl ?_
    refine sx_RP.br (p1 := 38) (l1 := [(0, .ref 96), (1, .int (nI a)), (2, .int (nI i)), (3, .int (nI v)), (4, .int (nI i))]) (s1 := []) (v1 := w) rfl rfl (fun _ => ?_) (fun q => absurd (nI_le (a := i) (b := i) (by omega) (by omega)) (of_decide_eq_false q))
    refine sx_RP.step (pc2 := 39) (ls2 := [(0, .ref 96), (1, .int (nI a)), (2, .int (nI i)), (3, .int (nI v)), (4, .int (nI i))]) (st2 := [.int (nI v)]) (w3 := w) rfl rfl ?_
    refine sx_RP.ret (r := (some (.int (nI v)))) rfl rfl ?_
    exact ⟨rfl, rfl⟩
  | fz + 1, i, v, hi, hai, hv => by
    have hd : sgn (X i) = nI (X i) ∧ 48 ≤ X i ∧ X i ≤ 57 := sgn_dig ⟨X i, (hC.2.2 i (by omega)).2⟩ (hd0 i hai (by omega))
    have hn := hC.2.1
    refine sx_RP.step (pc2 := 7) (ls2 := [(0, .ref 96), (1, .int (nI a)), (2, .int (nI b)), (3, .int (nI v)), (4, .int (nI i))]) (st2 := [.int (nI i)]) (w3 := w) rfl rfl ?_
    refine sx_RP.step (pc2 := 8) (ls2 := [(0, .ref 96), (1, .int (nI a)), (2, .int (nI b)), (3, .int (nI v)), (4, .int (nI i))]) (st2 := [.int (nI b), .int (nI i)]) (w3 := w) rfl rfl ?_
    refine sx_RP.br (p2 := 11) (l2 := [(0, .ref 96), (1, .int (nI a)), (2, .int (nI b)), (3, .int (nI v)), (4, .int (nI i))]) (s2 := []) (v2 := w) rfl rfl (fun q => absurd (of_decide_eq_true q) (fun z => absurd ((nI_leI (a := b) (b := i) (by omega) (by omega)).mp z) (by omega))) (fun _ => ?_)
    refine sx_RP.step (pc2 := 13) (ls2 := [(0, .ref 96), (1, .int (nI a)), (2, .int (nI b)), (3, .int (nI v)), (4, .int (nI i))]) (st2 := [.int 1000000]) (w3 := w) rfl rfl ?_
    refine sx_RP.step (pc2 := 14) (ls2 := [(0, .ref 96), (1, .int (nI a)), (2, .int (nI b)), (3, .int (nI v)), (4, .int (nI i))]) (st2 := [.int (nI v), .int 1000000]) (w3 := w) rfl rfl ?_
    refine sx_RP.step (pc2 := 16) (ls2 := [(0, .ref 96), (1, .int (nI a)), (2, .int (nI b)), (3, .int (nI v)), (4, .int (nI i))]) (st2 := [.int 10, .int (nI v), .int 1000000]) (w3 := w) rfl rfl ?_
    refine sx_RP.step (pc2 := 17) (ls2 := [(0, .ref 96), (1, .int (nI a)), (2, .int (nI b)), (3, .int (nI v)), (4, .int (nI i))]) (st2 := [.int ((nI v) * 10), .int 1000000]) (w3 := w) rfl rfl ?_
    rw [show ((nI v) * 10 : Int32) = nI (v * 10) from nI_mul v 10]
    refine sx_RP.step (pc2 := 18) (ls2 := [(0, .ref 96), (1, .int (nI a)), (2, .int (nI b)), (3, .int (nI v)), (4, .int (nI i))]) (st2 := [.ref 96, .int (nI (v * 10)), .int 1000000]) (w3 := w) rfl rfl ?_
    refine sx_RP.gf (v := .ref 97) rfl rfl hI.1.o96 rfl rfl (show _ = 21 from rfl) ?_
    refine sx_RP.step (pc2 := 23) (ls2 := [(0, .ref 96), (1, .int (nI a)), (2, .int (nI b)), (3, .int (nI v)), (4, .int (nI i))]) (st2 := [.int (nI i), .ref 97, .int (nI (v * 10)), .int 1000000]) (w3 := w) rfl rfl ?_
    refine sx_RP.bld2 (c := i) rfl hI.1.a97.1 hI.1.a97.2 (sx_in_nI (show i < 120 by omega) (by decide)) (nI_clamp (by omega)) (show _ = 24 from rfl) ?_
    rw [(hC.2.2 (i) (by omega)).1]
    rw [hd.1]
    refine sx_RP.step (pc2 := 25) (ls2 := [(0, .ref 96), (1, .int (nI a)), (2, .int (nI b)), (3, .int (nI v)), (4, .int (nI i))]) (st2 := [.int ((nI (v * 10)) + (nI (X i))), .int 1000000]) (w3 := w) rfl rfl ?_
    rw [show ((nI (v * 10)) + (nI (X i)) : Int32) = nI ((v * 10) + (X i)) from nI_add (v * 10) (X i)]
    refine sx_RP.step (pc2 := 27) (ls2 := [(0, .ref 96), (1, .int (nI a)), (2, .int (nI b)), (3, .int (nI v)), (4, .int (nI i))]) (st2 := [.int 48, .int (nI ((v * 10) + (X i))), .int 1000000]) (w3 := w) rfl rfl ?_
    refine sx_RP.step (pc2 := 28) (ls2 := [(0, .ref 96), (1, .int (nI a)), (2, .int (nI b)), (3, .int (nI v)), (4, .int (nI i))]) (st2 := [.int ((nI ((v * 10) + (X i))) - 48), .int 1000000]) (w3 := w) rfl rfl ?_
    rw [show ((nI ((v * 10) + (X i))) - 48 : Int32) = nI (10 * v + (X i - 48)) from (nI_sub (a := ((v * 10) + (X i))) (b := 48) (by omega)).trans (congrArg nI (by omega))]
    refine sx_RP.cu (as := [.int 1000000, .int (nI (10 * v + (X i - 48)))]) (rest2 := []) (st3 := [.int (nI (min 1000000 (10 * v + (X i - 48))))]) rfl rfl rfl rfl rfl ((by have c := x97 (xs := xs) (d := d) hI (nI 1000000) (nI (10 * v + (X i - 48))); rw [nI_min (by decide) (by omega)] at c; exact c)) rfl ?_
    refine sx_RP.step (pc2 := 32) (ls2 := [(3, .int (nI (min 1000000 (10 * v + (X i - 48))))), (0, .ref 96), (1, .int (nI a)), (2, .int (nI b)), (4, .int (nI i))]) (st2 := []) (w3 := w) rfl rfl ?_
    refine sx_RP.step (pc2 := 35) (ls2 := [(4, .int ((nI i) + 1)), (3, .int (nI (min 1000000 (10 * v + (X i - 48))))), (0, .ref 96), (1, .int (nI a)), (2, .int (nI b))]) (st2 := []) (w3 := w) rfl rfl ?_
    rw [nI_1 i]
    refine sx_RP.step (pc2 := 5) (ls2 := [(4, .int (nI (i + 1))), (3, .int (nI (min 1000000 (10 * v + (X i - 48))))), (0, .ref 96), (1, .int (nI a)), (2, .int (nI b))]) (st2 := []) (w3 := w) rfl rfl ?_
    exact sx_RP.ls (sx_lr.cons rfl (sx_lr.cons rfl (sx_lr.cons rfl (sx_lr.cons rfl (sx_lr.cons rfl sx_lr.nil))))) (x96L hI hC hb hd0 fz (i + 1) (min 1000000 (10 * v + (X i - 48))) (by omega) (by omega) (Nat.min_le_left _ _))
set_option maxRecDepth 20000 in
set_option maxHeartbeats 4000000 in
theorem x96 {xs : Option (List Int32)} {d : Nat} {w : List sx_C} (hI : WI w) {n a b : Nat} {X : Nat → Nat} (hC : CT n X w) (hab : a ≤ b) (hb : b ≤ n) (hd0 : ∀ j, a ≤ j → j < b → digi (X j) = true) : sx_RU xs (d + 1) 96 0 (lv_args 0 [.ref 96, .int (nI a), .int (nI b)]) [] w (some (.int (nI (nuV 1000000 X 0 a (b - a))))) w := by
  have h : sx_RP xs (d + 1) 96 0 (lv_args 0 [.ref 96, .int (nI a), .int (nI b)]) [] w (fun r9 w2 => r9 = some (.int (nI (nuV 1000000 X 0 a (b - a)))) ∧ w2 = w) := by
    refine sx_RP.step (pc2 := 1) (ls2 := [(0, .ref 96), (1, .int (nI a)), (2, .int (nI b))]) (st2 := [.int 0]) (w3 := w) rfl rfl ?_
    refine sx_RP.step (pc2 := 2) (ls2 := [(3, .int 0), (0, .ref 96), (1, .int (nI a)), (2, .int (nI b))]) (st2 := []) (w3 := w) rfl rfl ?_
    refine sx_RP.step (pc2 := 3) (ls2 := [(3, .int 0), (0, .ref 96), (1, .int (nI a)), (2, .int (nI b))]) (st2 := [.int (nI a)]) (w3 := w) rfl rfl ?_
    refine sx_RP.step (pc2 := 5) (ls2 := [(4, .int (nI a)), (3, .int 0), (0, .ref 96), (1, .int (nI a)), (2, .int (nI b))]) (st2 := []) (w3 := w) rfl rfl ?_
    exact sx_RP.ls (sx_lr.cons rfl (sx_lr.cons rfl (sx_lr.cons rfl (sx_lr.cons rfl (sx_lr.cons rfl sx_lr.nil))))) (x96L hI hC hb hd0 (b - a) a 0 (by omega) (Nat.le_refl _) (by omega))
  obtain ⟨r9, w2, h1, rfl, rfl⟩ := h
  exact h1
theorem CT.lt {n : Nat} {X : Nat → Nat} {w : List sx_C} (h : CT n X w) {i : Nat} (hi : i < n) : X i < 256 := (h.2.2 i hi).2
set_option maxRecDepth 20000 in
set_option maxHeartbeats 4000000 in
theorem X94a {xs : Option (List Int32)} {d n : Nat} {X : Nat → Nat} {w : List sx_C} {P : Option Value → List sx_C → Prop} (hI : WI w) (hC : CT n X w) : ∀ (fz i : Nat), n ≤ i + fz → i ≤ n → (∀ e, e = rE blk n X i → sx_RP xs (d + 2) 94 30 [(0, .ref 96), (1, .int (nI e))] [] w P) → sx_RP xs (d + 2) 94 5 [(0, .ref 96), (1, .int (nI i))] [] w P
  | fz, i, hf, hi, kk => by
    have hn := hC.2.1
    refine sx_RP.step (pc2 := 6) (ls2 := [(0, .ref 96), (1, .int (nI i))]) (st2 := [.int (nI i)]) (w3 := w) rfl rfl ?_
    refine sx_RP.step (pc2 := 7) (ls2 := [(0, .ref 96), (1, .int (nI i))]) (st2 := [.ref 96, .int (nI i)]) (w3 := w) rfl rfl ?_
    refine sx_RP.gt (k := 1) hI rfl rfl (by decide) (show _ = 10 from rfl) ?_
    rw [hC.1]
    refine sx_RP.br (p1 := 30) (l1 := [(0, .ref 96), (1, .int (nI i))]) (s1 := []) (v1 := w) (p2 := 13) (l2 := [(0, .ref 96), (1, .int (nI i))]) (s2 := []) (v2 := w) rfl rfl (fun q1 => ?_) (fun q1 => ?_)
    · replace q1 := of_decide_eq_true q1
      replace q1 := (nI_leI (a := n) (b := i) (by omega) (by omega)).mp q1
      exact sx_RP.ls (sx_lr.cons rfl (sx_lr.cons rfl sx_lr.nil)) (kk i (rE_n (fun z => absurd z.1 (by omega))).symm)
    · replace q1 := of_decide_eq_false q1
      replace q1 := mt (nI_leI (a := n) (b := i) (by omega) (by omega)).mpr q1
      refine sx_RP.step (pc2 := 14) (ls2 := [(0, .ref 96), (1, .int (nI i))]) (st2 := [.ref 96]) (w3 := w) rfl rfl ?_
      refine sx_RP.gf (v := .ref 97) rfl rfl hI.1.o96 rfl rfl (show _ = 17 from rfl) ?_
      refine sx_RP.step (pc2 := 18) (ls2 := [(0, .ref 96), (1, .int (nI i))]) (st2 := [.int (nI i), .ref 97]) (w3 := w) rfl rfl ?_
      refine sx_RP.bld2 (c := i) rfl hI.1.a97.1 hI.1.a97.2 (sx_in_nI (show i < 120 by omega) (by decide)) (nI_clamp (by omega)) (show _ = 19 from rfl) ?_
      rw [(hC.2.2 (i) (by omega)).1]
      refine sx_RP.step (pc2 := 21) (ls2 := [(0, .ref 96), (1, .int (nI i))]) (st2 := [.int 32, .int (sgn (X (i)))]) (w3 := w) rfl rfl ?_
      refine sx_RP.br (p1 := 30) (l1 := [(0, .ref 96), (1, .int (nI i))]) (s1 := []) (v1 := w) (p2 := 24) (l2 := [(0, .ref 96), (1, .int (nI i))]) (s2 := []) (v2 := w) rfl rfl (fun q2 => ?_) (fun q2 => ?_)
      · replace q2 := of_decide_eq_true q2
        exact sx_RP.ls (sx_lr.cons rfl (sx_lr.cons rfl sx_lr.nil)) (kk i (rE_n (fun z => q2 ((sgn32 (hC.lt (by omega))).mpr z.2))).symm)
      · replace q2 := Decidable.not_not.mp (of_decide_eq_false q2)
        refine sx_RP.step (pc2 := 27) (ls2 := [(1, .int ((nI i) + 1)), (0, .ref 96)]) (st2 := []) (w3 := w) rfl rfl ?_
        rw [nI_1 i]
        refine sx_RP.step (pc2 := 5) (ls2 := [(1, .int (nI (i + 1))), (0, .ref 96)]) (st2 := []) (w3 := w) rfl rfl ?_
        match fz, hf with
        | 0, hf => exact absurd hf (by omega)
        | fz + 1, hf => exact sx_RP.ls (sx_lr.cons rfl (sx_lr.cons rfl sx_lr.nil)) (X94a hI hC fz (i + 1) (by omega) (by omega) (fun e he => kk e (he.trans (rE_y (by omega) ((sgn32 (hC.lt (by omega))).mp q2)).symm)))
set_option maxRecDepth 20000 in
set_option maxHeartbeats 4000000 in
theorem X94b {xs : Option (List Int32)} {d n s : Nat} {X : Nat → Nat} {w : List sx_C} {q : Nat → Bool} {P : Option Value → List sx_C → Prop} (hI : WI w) (hC : CT n X w) (hs : fi w 96 2 = nI s) (hs4 : s ≤ 4) (hq : ∀ j, j < n → (sortN (X j) = s ↔ q (X j) = true)) : ∀ (fz i : Nat), n ≤ i + fz → i ≤ n → (∀ e, e = rE q n X i → sx_RP xs (d + 2) 94 121 [(0, .ref 96), (1, .int (nI e))] [] w P) → sx_RP xs (d + 2) 94 91 [(0, .ref 96), (1, .int (nI i))] [] w P
  | fz, i, hf, hi, kk => by
    have hn := hC.2.1
    have hsl : ∀ j, j < n → sortN (X j) ≤ 4 := fun j hj => (sort_le ⟨X j, hC.lt hj⟩).2
    refine sx_RP.step (pc2 := 92) (ls2 := [(0, .ref 96), (1, .int (nI i))]) (st2 := [.int (nI i)]) (w3 := w) rfl rfl ?_
    refine sx_RP.step (pc2 := 93) (ls2 := [(0, .ref 96), (1, .int (nI i))]) (st2 := [.ref 96, .int (nI i)]) (w3 := w) rfl rfl ?_
    refine sx_RP.gt (k := 1) hI rfl rfl (by decide) (show _ = 96 from rfl) ?_
    rw [hC.1]
    refine sx_RP.br (p1 := 121) (l1 := [(0, .ref 96), (1, .int (nI i))]) (s1 := []) (v1 := w) (p2 := 99) (l2 := [(0, .ref 96), (1, .int (nI i))]) (s2 := []) (v2 := w) rfl rfl (fun q1 => ?_) (fun q1 => ?_)
    · replace q1 := of_decide_eq_true q1
      replace q1 := (nI_leI (a := n) (b := i) (by omega) (by omega)).mp q1
      exact sx_RP.ls (sx_lr.cons rfl (sx_lr.cons rfl sx_lr.nil)) (kk i (rE_n (fun z => absurd z.1 (by omega))).symm)
    · replace q1 := of_decide_eq_false q1
      replace q1 := mt (nI_leI (a := n) (b := i) (by omega) (by omega)).mpr q1
      refine sx_RP.step (pc2 := 100) (ls2 := [(0, .ref 96), (1, .int (nI i))]) (st2 := [.ref 96]) (w3 := w) rfl rfl ?_
      refine sx_RP.gf (v := .ref 97) rfl rfl hI.1.o96 rfl rfl (show _ = 103 from rfl) ?_
      refine sx_RP.step (pc2 := 104) (ls2 := [(0, .ref 96), (1, .int (nI i))]) (st2 := [.int (nI i), .ref 97]) (w3 := w) rfl rfl ?_
      refine sx_RP.bld2 (c := i) rfl hI.1.a97.1 hI.1.a97.2 (sx_in_nI (show i < 120 by omega) (by decide)) (nI_clamp (by omega)) (show _ = 105 from rfl) ?_
      rw [(hC.2.2 (i) (by omega)).1]
      refine sx_RP.cu (as := [.int (sgn (X (i)))]) (rest2 := []) (st3 := [.int (nI (sortN (X (i))))]) rfl rfl rfl rfl rfl (x95 hI (hC.2.2 (i) (by omega)).2) rfl ?_
      refine sx_RP.step (pc2 := 109) (ls2 := [(0, .ref 96), (1, .int (nI i))]) (st2 := [.ref 96, .int (nI (sortN (X (i))))]) (w3 := w) rfl rfl ?_
      refine sx_RP.gt (k := 2) hI rfl rfl (by decide) (show _ = 112 from rfl) ?_
      rw [hs]
      refine sx_RP.br (p1 := 121) (l1 := [(0, .ref 96), (1, .int (nI i))]) (s1 := []) (v1 := w) (p2 := 115) (l2 := [(0, .ref 96), (1, .int (nI i))]) (s2 := []) (v2 := w) rfl rfl (fun q2 => ?_) (fun q2 => ?_)
      · replace q2 := of_decide_eq_true q2
        replace q2 := mt (nI_eq (a := sortN (X i)) (b := s) (by have := hsl i (by omega); omega) (by omega)).mpr q2
        exact sx_RP.ls (sx_lr.cons rfl (sx_lr.cons rfl sx_lr.nil)) (kk i (rE_n (fun z => q2 ((hq i (by omega)).mpr z.2))).symm)
      · replace q2 := Decidable.not_not.mp (of_decide_eq_false q2)
        replace q2 := (nI_eq (a := sortN (X i)) (b := s) (by have := hsl i (by omega); omega) (by omega)).mp q2
        refine sx_RP.step (pc2 := 118) (ls2 := [(1, .int ((nI i) + 1)), (0, .ref 96)]) (st2 := []) (w3 := w) rfl rfl ?_
        rw [nI_1 i]
        refine sx_RP.step (pc2 := 91) (ls2 := [(1, .int (nI (i + 1))), (0, .ref 96)]) (st2 := []) (w3 := w) rfl rfl ?_
        match fz, hf with
        | 0, hf => exact absurd hf (by omega)
        | fz + 1, hf => exact sx_RP.ls (sx_lr.cons rfl (sx_lr.cons rfl sx_lr.nil)) (X94b hI hC hs hs4 hq fz (i + 1) (by omega) (by omega) (fun e he => kk e (he.trans (rE_y (by omega) ((hq i (by omega)).mp q2)).symm)))
set_option maxRecDepth 20000 in
set_option maxHeartbeats 4000000 in
theorem X94 {xs : Option (List Int32)} {d : Nat} {w : List sx_C} (hI : WI w) {n b : Nat} {X : Nat → Nat} (hC : CT n X w) (hb : fi w 96 4 = nI b) (hbn : b ≤ n) : sx_RP xs (d + 2) 94 0 (lv_args 0 [.ref 96]) [] w (fun r w2 => (r = none ∧ TK' n X (rE blk n X b) w2 ∧ fi w2 96 1 = fi w 96 1) ∧ WI w2 ∧ Same 96 w w2) := by
  have hn := hC.2.1
  refine sx_RP.step (pc2 := 1) (ls2 := [(0, .ref 96)]) (st2 := [.ref 96]) (w3 := w) rfl rfl ?_
  refine sx_RP.gt (k := 4) hI rfl rfl (by decide) (show _ = 4 from rfl) ?_
  rw [hb]
  refine sx_RP.step (pc2 := 5) (ls2 := [(1, .int (nI b)), (0, .ref 96)]) (st2 := []) (w3 := w) rfl rfl ?_
  refine sx_RP.ls (sx_lr.cons rfl (sx_lr.cons rfl sx_lr.nil)) (X94a hI hC n b (by omega) (by omega) (fun e he => ?_))
  have hge : b ≤ e := by rw [he]; exact rE_ge
  have hle : e ≤ n := by rw [he]; exact rE_le hbn
  rw [← he]
  have hsl : e < n → 1 ≤ sortN (X e) ∧ sortN (X e) ≤ 4 := fun h => sort_le ⟨X e, hC.lt h⟩
  refine sx_RP.step (pc2 := 31) (ls2 := [(0, .ref 96), (1, .int (nI e))]) (st2 := [.ref 96]) (w3 := w) rfl rfl ?_
  refine sx_RP.step (pc2 := 32) (ls2 := [(0, .ref 96), (1, .int (nI e))]) (st2 := [.int (nI e), .ref 96]) (w3 := w) rfl rfl ?_
  refine sx_RP.xP (k := 3) hI rfl rfl (by decide) rfl ⟨e, by omega, rfl⟩ (show _ = 35 from rfl) (fun w1 hI2 hs3 hv4 hr5 => ?_)
  have hC6 := hC.same (hr5 1 (by decide)) (ia_of (hs3 97 (by decide)))
  have ex7 := (hr5 1 (by decide)).trans hC.1
  have ex8 := (hr5 4 (by decide)).trans hb
  refine sx_RP.step (pc2 := 36) (ls2 := [(0, .ref 96), (1, .int (nI e))]) (st2 := [.ref 96]) (w3 := w1) rfl rfl ?_
  refine sx_RP.step (pc2 := 37) (ls2 := [(0, .ref 96), (1, .int (nI e))]) (st2 := [.int (nI e), .ref 96]) (w3 := w1) rfl rfl ?_
  refine sx_RP.step (pc2 := 38) (ls2 := [(0, .ref 96), (1, .int (nI e))]) (st2 := [.ref 96, .int (nI e), .ref 96]) (w3 := w1) rfl rfl ?_
  refine sx_RP.gt (k := 1) hI2 rfl rfl (by decide) (show _ = 41 from rfl) ?_
  rw [ex7]
  refine sx_RP.br (p1 := 56) (l1 := [(0, .ref 96), (1, .int (nI e))]) (s1 := [.ref 96]) (v1 := w1) (p2 := 44) (l2 := [(0, .ref 96), (1, .int (nI e))]) (s2 := [.ref 96]) (v2 := w1) rfl rfl (fun q9 => ?_) (fun q9 => ?_)
  · replace q9 := of_decide_eq_true q9
    replace q9 := (nI_leI (a := n) (b := e) (by omega) (by omega)).mp q9
    refine sx_RP.step (pc2 := 57) (ls2 := [(0, .ref 96), (1, .int (nI e))]) (st2 := [.int 0, .ref 96]) (w3 := w1) rfl rfl ?_
    refine sx_RP.xP (k := 2) hI2 rfl rfl (by decide) rfl trivial (show _ = 60 from rfl) (fun w10 hI11 hs12 hv13 hr14 => ?_)
    have hC15 := hC6.same (hr14 1 (by decide)) (ia_of (hs12 97 (by decide)))
    have ex16 := (hr14 1 (by decide)).trans ex7
    have ex17 := (hr14 4 (by decide)).trans ex8
    have ex18 := (hr14 3 (by decide)).trans hv4
    refine sx_RP.step (pc2 := 61) (ls2 := [(0, .ref 96), (1, .int (nI e))]) (st2 := [.ref 96]) (w3 := w10) rfl rfl ?_
    refine sx_RP.step (pc2 := 62) (ls2 := [(0, .ref 96), (1, .int (nI e))]) (st2 := [.int 0, .ref 96]) (w3 := w10) rfl rfl ?_
    refine sx_RP.xP (k := 5) hI11 rfl rfl (by decide) rfl trivial (show _ = 65 from rfl) (fun w19 hI20 hs21 hv22 hr23 => ?_)
    have hC24 := hC15.same (hr23 1 (by decide)) (ia_of (hs21 97 (by decide)))
    have ex25 := (hr23 1 (by decide)).trans ex16
    have ex26 := (hr23 4 (by decide)).trans ex17
    have ex27 := (hr23 3 (by decide)).trans ex18
    have ex28 := (hr23 2 (by decide)).trans hv13
    refine sx_RP.step (pc2 := 66) (ls2 := [(0, .ref 96), (1, .int (nI e))]) (st2 := [.ref 96]) (w3 := w19) rfl rfl ?_
    refine sx_RP.gt (k := 2) hI20 rfl rfl (by decide) (show _ = 69 from rfl) ?_
    rw [ex28]
    refine sx_RP.step (pc2 := 75) (ls2 := [(0, .ref 96), (1, .int (nI e))]) (st2 := []) (w3 := w19) rfl rfl ?_
    refine sx_RP.step (pc2 := 76) (ls2 := [(0, .ref 96), (1, .int (nI e))]) (st2 := [.ref 96]) (w3 := w19) rfl rfl ?_
    refine sx_RP.gt (k := 2) hI20 rfl rfl (by decide) (show _ = 79 from rfl) ?_
    rw [ex28]
    refine sx_RP.step (pc2 := 80) (ls2 := [(0, .ref 96), (1, .int (nI e))]) (st2 := [.int 1, .int 0]) (w3 := w19) rfl rfl ?_
    refine sx_RP.step (pc2 := 83) (ls2 := [(0, .ref 96), (1, .int (nI e))]) (st2 := []) (w3 := w19) rfl rfl ?_
    refine sx_RP.step (pc2 := 84) (ls2 := [(0, .ref 96), (1, .int (nI e))]) (st2 := [.ref 96]) (w3 := w19) rfl rfl ?_
    refine sx_RP.gt (k := 2) hI20 rfl rfl (by decide) (show _ = 87 from rfl) ?_
    rw [ex28]
    refine sx_RP.step (pc2 := 88) (ls2 := [(0, .ref 96), (1, .int (nI e))]) (st2 := [.int 2, .int 0]) (w3 := w19) rfl rfl ?_
    refine sx_RP.step (pc2 := 121) (ls2 := [(0, .ref 96), (1, .int (nI e))]) (st2 := []) (w3 := w19) rfl rfl ?_
    refine sx_RP.step (pc2 := 122) (ls2 := [(0, .ref 96), (1, .int (nI e))]) (st2 := [.ref 96]) (w3 := w19) rfl rfl ?_
    refine sx_RP.step (pc2 := 123) (ls2 := [(0, .ref 96), (1, .int (nI e))]) (st2 := [.int (nI e), .ref 96]) (w3 := w19) rfl rfl ?_
    refine sx_RP.xP (k := 4) hI20 rfl rfl (by decide) rfl ⟨e, by omega, rfl⟩ (show _ = 126 from rfl) (fun w29 hI30 hs31 hv32 hr33 => ?_)
    have hC34 := hC24.same (hr33 1 (by decide)) (ia_of (hs31 97 (by decide)))
    have ex35 := (hr33 1 (by decide)).trans ex25
    have ex36 := (hr33 3 (by decide)).trans ex27
    have ex37 := (hr33 2 (by decide)).trans ex28
    have ex38 := (hr33 5 (by decide)).trans hv22
    refine sx_RP.step (pc2 := 127) (ls2 := [(0, .ref 96), (1, .int (nI e))]) (st2 := [.ref 96]) (w3 := w29) rfl rfl ?_
    refine sx_RP.gt (k := 2) hI30 rfl rfl (by decide) (show _ = 130 from rfl) ?_
    rw [ex37]
    refine sx_RP.step (pc2 := 131) (ls2 := [(0, .ref 96), (1, .int (nI e))]) (st2 := [.int 2, .int 0]) (w3 := w29) rfl rfl ?_
    refine sx_RP.step (pc2 := 150) (ls2 := [(0, .ref 96), (1, .int (nI e))]) (st2 := []) (w3 := w29) rfl rfl ?_
    refine sx_RP.ret (r := none) rfl rfl ?_
    have hlt : ¬ e < n := by omega
    have so : soT n X e = 0 := if_neg hlt
    have be : beT n X e = e := if_neg hlt
    have va : vaT n X e = 0 := by unfold vaT; rw [if_neg (by rw [so]; decide)]
    exact ⟨⟨rfl, ⟨ex36, by rw [so]; exact ex37, by rw [be]; exact hv32, by rw [va]; exact ex38⟩, (hr33 1 (by decide)).trans ((hr23 1 (by decide)).trans ((hr14 1 (by decide)).trans ((hr5 1 (by decide)).trans (rfl))))⟩, hI30, (Same.tr (Same.tr (Same.tr (Same.tr Same.rf hs3) hs12) hs21) hs31)⟩
  · replace q9 := of_decide_eq_false q9
    replace q9 := mt (nI_leI (a := n) (b := e) (by omega) (by omega)).mpr q9
    refine sx_RP.step (pc2 := 45) (ls2 := [(0, .ref 96), (1, .int (nI e))]) (st2 := [.ref 96, .ref 96]) (w3 := w1) rfl rfl ?_
    refine sx_RP.gf (v := .ref 97) rfl rfl hI2.1.o96 rfl rfl (show _ = 48 from rfl) ?_
    refine sx_RP.step (pc2 := 49) (ls2 := [(0, .ref 96), (1, .int (nI e))]) (st2 := [.int (nI e), .ref 97, .ref 96]) (w3 := w1) rfl rfl ?_
    refine sx_RP.bld2 (c := e) rfl hI2.1.a97.1 hI2.1.a97.2 (sx_in_nI (show e < 120 by omega) (by decide)) (nI_clamp (by omega)) (show _ = 50 from rfl) ?_
    rw [(hC6.2.2 (e) (by omega)).1]
    refine sx_RP.cu (as := [.int (sgn (X (e)))]) (rest2 := [.ref 96]) (st3 := [.int (nI (sortN (X (e)))), .ref 96]) rfl rfl rfl rfl rfl (x95 hI2 (hC6.2.2 (e) (by omega)).2) rfl ?_
    refine sx_RP.step (pc2 := 57) (ls2 := [(0, .ref 96), (1, .int (nI e))]) (st2 := [.int (nI (sortN (X (e)))), .ref 96]) (w3 := w1) rfl rfl ?_
    refine sx_RP.xP (k := 2) hI2 rfl rfl (by decide) rfl trivial (show _ = 60 from rfl) (fun w39 hI40 hs41 hv42 hr43 => ?_)
    have hC44 := hC6.same (hr43 1 (by decide)) (ia_of (hs41 97 (by decide)))
    have ex45 := (hr43 1 (by decide)).trans ex7
    have ex46 := (hr43 4 (by decide)).trans ex8
    have ex47 := (hr43 3 (by decide)).trans hv4
    refine sx_RP.step (pc2 := 61) (ls2 := [(0, .ref 96), (1, .int (nI e))]) (st2 := [.ref 96]) (w3 := w39) rfl rfl ?_
    refine sx_RP.step (pc2 := 62) (ls2 := [(0, .ref 96), (1, .int (nI e))]) (st2 := [.int 0, .ref 96]) (w3 := w39) rfl rfl ?_
    refine sx_RP.xP (k := 5) hI40 rfl rfl (by decide) rfl trivial (show _ = 65 from rfl) (fun w48 hI49 hs50 hv51 hr52 => ?_)
    have hC53 := hC44.same (hr52 1 (by decide)) (ia_of (hs50 97 (by decide)))
    have ex54 := (hr52 1 (by decide)).trans ex45
    have ex55 := (hr52 4 (by decide)).trans ex46
    have ex56 := (hr52 3 (by decide)).trans ex47
    have ex57 := (hr52 2 (by decide)).trans hv42
    refine sx_RP.step (pc2 := 66) (ls2 := [(0, .ref 96), (1, .int (nI e))]) (st2 := [.ref 96]) (w3 := w48) rfl rfl ?_
    refine sx_RP.gt (k := 2) hI49 rfl rfl (by decide) (show _ = 69 from rfl) ?_
    rw [ex57]
    refine sx_RP.br (p2 := 72) (l2 := [(0, .ref 96), (1, .int (nI e))]) (s2 := []) (v2 := w48) rfl rfl (fun q => absurd (of_decide_eq_true q) (fun z => absurd ((nI_eq (a := sortN (X e)) (b := 0) (by have := hsl (by omega); omega) (by omega)).mp z) (by have := hsl (by omega); omega))) (fun _ => ?_)
    refine sx_RP.step (pc2 := 75) (ls2 := [(1, .int ((nI e) + 1)), (0, .ref 96)]) (st2 := []) (w3 := w48) rfl rfl ?_
    rw [nI_1 e]
    refine sx_RP.step (pc2 := 76) (ls2 := [(1, .int (nI (e + 1))), (0, .ref 96)]) (st2 := [.ref 96]) (w3 := w48) rfl rfl ?_
    refine sx_RP.gt (k := 2) hI49 rfl rfl (by decide) (show _ = 79 from rfl) ?_
    rw [ex57]
    refine sx_RP.step (pc2 := 80) (ls2 := [(1, .int (nI (e + 1))), (0, .ref 96)]) (st2 := [.int 1, .int (nI (sortN (X (e))))]) (w3 := w48) rfl rfl ?_
    refine sx_RP.br (p1 := 91) (l1 := [(1, .int (nI (e + 1))), (0, .ref 96)]) (s1 := []) (v1 := w48) (p2 := 83) (l2 := [(1, .int (nI (e + 1))), (0, .ref 96)]) (s2 := []) (v2 := w48) rfl rfl (fun q58 => ?_) (fun q58 => ?_)
    · replace q58 := of_decide_eq_true q58
      replace q58 := (nI_eq (a := (sortN (X (e)))) (b := 1) (by omega) (by omega)).mp q58
      have hs59 : fi w48 96 2 = nI 1 := by rw [ex57, q58]
      refine sx_RP.ls (sx_lr.cons rfl (sx_lr.cons rfl sx_lr.nil)) (X94b (q := lett) hI49 hC53 hs59 (by decide) (fun j hj => sort_1 ⟨X j, hC.lt hj⟩) n (e + 1) (by omega) (by omega) (fun e60 he61 => ?_))
      have hge2 : e + 1 ≤ e60 := by rw [he61]; exact rE_ge
      have hle2 : e60 ≤ n := by rw [he61]; exact rE_le (by omega)
      refine sx_RP.step (pc2 := 122) (ls2 := [(0, .ref 96), (1, .int (nI e60))]) (st2 := [.ref 96]) (w3 := w48) rfl rfl ?_
      refine sx_RP.step (pc2 := 123) (ls2 := [(0, .ref 96), (1, .int (nI e60))]) (st2 := [.int (nI e60), .ref 96]) (w3 := w48) rfl rfl ?_
      refine sx_RP.xP (k := 4) hI49 rfl rfl (by decide) rfl ⟨e60, by omega, rfl⟩ (show _ = 126 from rfl) (fun w62 hI63 hs64 hv65 hr66 => ?_)
      have hC67 := hC53.same (hr66 1 (by decide)) (ia_of (hs64 97 (by decide)))
      have ex68 := (hr66 1 (by decide)).trans ex54
      have ex69 := (hr66 3 (by decide)).trans ex56
      have ex70 := (hr66 2 (by decide)).trans hs59
      have ex71 := (hr66 5 (by decide)).trans hv51
      refine sx_RP.step (pc2 := 127) (ls2 := [(0, .ref 96), (1, .int (nI e60))]) (st2 := [.ref 96]) (w3 := w62) rfl rfl ?_
      refine sx_RP.gt (k := 2) hI63 rfl rfl (by decide) (show _ = 130 from rfl) ?_
      rw [ex70]
      refine sx_RP.step (pc2 := 131) (ls2 := [(0, .ref 96), (1, .int (nI e60))]) (st2 := [.int 2, .int 1]) (w3 := w62) rfl rfl ?_
      refine sx_RP.step (pc2 := 150) (ls2 := [(0, .ref 96), (1, .int (nI e60))]) (st2 := []) (w3 := w62) rfl rfl ?_
      refine sx_RP.ret (r := none) rfl rfl ?_
      have hlt : e < n := by omega
      have so : soT n X e = sortN (X e) := if_pos hlt
      have be : beT n X e = e60 := by
        unfold beT
        rw [if_pos hlt, if_pos q58, he61]
      have va : vaT n X e = 0 := by unfold vaT; rw [if_neg (by rw [so]; omega)]
      exact ⟨⟨rfl, ⟨ex69, by rw [so, q58]; exact ex70, by rw [be]; exact hv65, by rw [va]; exact ex71⟩, (hr66 1 (by decide)).trans ((hr52 1 (by decide)).trans ((hr43 1 (by decide)).trans ((hr5 1 (by decide)).trans (rfl))))⟩, hI63, (Same.tr (Same.tr (Same.tr (Same.tr Same.rf hs3) hs41) hs50) hs64)⟩
    · replace q58 := of_decide_eq_false q58
      replace q58 := mt (nI_eq (a := (sortN (X (e)))) (b := 1) (by omega) (by omega)).mpr q58
      refine sx_RP.step (pc2 := 84) (ls2 := [(1, .int (nI (e + 1))), (0, .ref 96)]) (st2 := [.ref 96]) (w3 := w48) rfl rfl ?_
      refine sx_RP.gt (k := 2) hI49 rfl rfl (by decide) (show _ = 87 from rfl) ?_
      rw [ex57]
      refine sx_RP.step (pc2 := 88) (ls2 := [(1, .int (nI (e + 1))), (0, .ref 96)]) (st2 := [.int 2, .int (nI (sortN (X (e))))]) (w3 := w48) rfl rfl ?_
      refine sx_RP.br (p1 := 121) (l1 := [(1, .int (nI (e + 1))), (0, .ref 96)]) (s1 := []) (v1 := w48) (p2 := 91) (l2 := [(1, .int (nI (e + 1))), (0, .ref 96)]) (s2 := []) (v2 := w48) rfl rfl (fun q72 => ?_) (fun q72 => ?_)
      · replace q72 := of_decide_eq_true q72
        replace q72 := mt (nI_eq (a := (sortN (X (e)))) (b := 2) (by omega) (by omega)).mpr q72
        refine sx_RP.step (pc2 := 122) (ls2 := [(1, .int (nI (e + 1))), (0, .ref 96)]) (st2 := [.ref 96]) (w3 := w48) rfl rfl ?_
        refine sx_RP.step (pc2 := 123) (ls2 := [(1, .int (nI (e + 1))), (0, .ref 96)]) (st2 := [.int (nI (e + 1)), .ref 96]) (w3 := w48) rfl rfl ?_
        refine sx_RP.xP (k := 4) hI49 rfl rfl (by decide) rfl ⟨(e + 1), by omega, rfl⟩ (show _ = 126 from rfl) (fun w73 hI74 hs75 hv76 hr77 => ?_)
        have hC78 := hC53.same (hr77 1 (by decide)) (ia_of (hs75 97 (by decide)))
        have ex79 := (hr77 1 (by decide)).trans ex54
        have ex80 := (hr77 3 (by decide)).trans ex56
        have ex81 := (hr77 2 (by decide)).trans ex57
        have ex82 := (hr77 5 (by decide)).trans hv51
        refine sx_RP.step (pc2 := 127) (ls2 := [(1, .int (nI (e + 1))), (0, .ref 96)]) (st2 := [.ref 96]) (w3 := w73) rfl rfl ?_
        refine sx_RP.gt (k := 2) hI74 rfl rfl (by decide) (show _ = 130 from rfl) ?_
        rw [ex81]
        refine sx_RP.step (pc2 := 131) (ls2 := [(1, .int (nI (e + 1))), (0, .ref 96)]) (st2 := [.int 2, .int (nI (sortN (X (e))))]) (w3 := w73) rfl rfl ?_
        refine sx_RP.br (p1 := 150) (l1 := [(1, .int (nI (e + 1))), (0, .ref 96)]) (s1 := []) (v1 := w73) rfl rfl (fun _ => ?_) (fun q => absurd (show ¬ nI (sortN (X e)) = 2 from (fun z => q72 ((nI_eq (a := sortN (X e)) (b := 2) (by have := hsl (by omega); omega) (by omega)).mp z))) (of_decide_eq_false q))
        refine sx_RP.ret (r := none) rfl rfl ?_
        first | exact absurd (hsl (by omega)).1 (by omega) | skip
        have hlt : e < n := by omega
        have so : soT n X e = sortN (X e) := if_pos hlt
        have be : beT n X e = e + 1 := by unfold beT; rw [if_pos hlt, if_neg (by omega), if_neg (by omega)]
        have va : vaT n X e = 0 := by unfold vaT; rw [if_neg (by rw [so]; omega)]
        exact ⟨⟨rfl, ⟨ex80, by rw [so]; exact ex81, by rw [be]; exact hv76, by rw [va]; exact ex82⟩, (hr77 1 (by decide)).trans ((hr52 1 (by decide)).trans ((hr43 1 (by decide)).trans ((hr5 1 (by decide)).trans (rfl))))⟩, hI74, (Same.tr (Same.tr (Same.tr (Same.tr Same.rf hs3) hs41) hs50) hs75)⟩
      · replace q72 := Decidable.not_not.mp (of_decide_eq_false q72)
        replace q72 := (nI_eq (a := (sortN (X (e)))) (b := 2) (by omega) (by omega)).mp q72
        have hs83 : fi w48 96 2 = nI 2 := by rw [ex57, q72]
        refine sx_RP.ls (sx_lr.cons rfl (sx_lr.cons rfl sx_lr.nil)) (X94b (q := digi) hI49 hC53 hs83 (by decide) (fun j hj => sort_2 ⟨X j, hC.lt hj⟩) n (e + 1) (by omega) (by omega) (fun e84 he85 => ?_))
        have hge2 : e + 1 ≤ e84 := by rw [he85]; exact rE_ge
        have hle2 : e84 ≤ n := by rw [he85]; exact rE_le (by omega)
        have hdg : ∀ j, e ≤ j → j < e84 → digi (X j) = true := fun j h1 h2 => by
          by_cases hj : j = e
          · rw [hj]; exact (sort_2 ⟨X e, hC.lt (by omega)⟩).mp q72
          · exact (rE_in (i := e + 1) (by omega) (by rw [← he85]; exact h2)).2
        refine sx_RP.step (pc2 := 122) (ls2 := [(0, .ref 96), (1, .int (nI e84))]) (st2 := [.ref 96]) (w3 := w48) rfl rfl ?_
        refine sx_RP.step (pc2 := 123) (ls2 := [(0, .ref 96), (1, .int (nI e84))]) (st2 := [.int (nI e84), .ref 96]) (w3 := w48) rfl rfl ?_
        refine sx_RP.xP (k := 4) hI49 rfl rfl (by decide) rfl ⟨e84, by omega, rfl⟩ (show _ = 126 from rfl) (fun w86 hI87 hs88 hv89 hr90 => ?_)
        have hC91 := hC53.same (hr90 1 (by decide)) (ia_of (hs88 97 (by decide)))
        have ex92 := (hr90 1 (by decide)).trans ex54
        have ex93 := (hr90 3 (by decide)).trans ex56
        have ex94 := (hr90 2 (by decide)).trans hs83
        have ex95 := (hr90 5 (by decide)).trans hv51
        refine sx_RP.step (pc2 := 127) (ls2 := [(0, .ref 96), (1, .int (nI e84))]) (st2 := [.ref 96]) (w3 := w86) rfl rfl ?_
        refine sx_RP.gt (k := 2) hI87 rfl rfl (by decide) (show _ = 130 from rfl) ?_
        rw [ex94]
        refine sx_RP.step (pc2 := 131) (ls2 := [(0, .ref 96), (1, .int (nI e84))]) (st2 := [.int 2, .int 2]) (w3 := w86) rfl rfl ?_
        refine sx_RP.step (pc2 := 134) (ls2 := [(0, .ref 96), (1, .int (nI e84))]) (st2 := []) (w3 := w86) rfl rfl ?_
        refine sx_RP.step (pc2 := 135) (ls2 := [(0, .ref 96), (1, .int (nI e84))]) (st2 := [.ref 96]) (w3 := w86) rfl rfl ?_
        refine sx_RP.step (pc2 := 136) (ls2 := [(0, .ref 96), (1, .int (nI e84))]) (st2 := [.ref 96, .ref 96]) (w3 := w86) rfl rfl ?_
        refine sx_RP.step (pc2 := 137) (ls2 := [(0, .ref 96), (1, .int (nI e84))]) (st2 := [.ref 96, .ref 96, .ref 96]) (w3 := w86) rfl rfl ?_
        refine sx_RP.gt (k := 3) hI87 rfl rfl (by decide) (show _ = 140 from rfl) ?_
        rw [ex93]
        refine sx_RP.step (pc2 := 141) (ls2 := [(0, .ref 96), (1, .int (nI e84))]) (st2 := [.ref 96, .int (nI e), .ref 96, .ref 96]) (w3 := w86) rfl rfl ?_
        refine sx_RP.gt (k := 4) hI87 rfl rfl (by decide) (show _ = 144 from rfl) ?_
        rw [hv89]
        refine sx_RP.cu (as := [.ref 96, .int (nI e), .int (nI e84)]) (rest2 := [.ref 96]) (st3 := [.int (nI (nuV 1000000 X 0 e (e84 - e))), .ref 96]) rfl rfl (sx_inv_v2 (mi := 94) (k := 162) (st := [.int (nI e84), .int (nI e), .ref 96, .ref 96]) (w := w86) rfl rfl hI87.1.o96 rfl rfl rfl) rfl rfl (x96 hI87 hC91 (by omega) (by omega) hdg) rfl ?_
        refine sx_RP.xP (k := 5) hI87 rfl rfl (by decide) rfl trivial (show _ = 150 from rfl) (fun w96 hI97 hs98 hv99 hr100 => ?_)
        have hC101 := hC91.same (hr100 1 (by decide)) (ia_of (hs98 97 (by decide)))
        have ex102 := (hr100 1 (by decide)).trans ex92
        have ex103 := (hr100 3 (by decide)).trans ex93
        have ex104 := (hr100 2 (by decide)).trans ex94
        have ex105 := (hr100 4 (by decide)).trans hv89
        refine sx_RP.ret (r := none) rfl rfl ?_
        have hlt : e < n := by omega
        have so : soT n X e = sortN (X e) := if_pos hlt
        have be : beT n X e = e84 := by
          unfold beT
          rw [if_pos hlt, if_neg (by omega), if_pos q72, he85]
        have va : vaT n X e = nuV 1000000 X 0 e (e84 - e) := by unfold vaT; rw [if_pos (by rw [so]; exact q72), be]
        exact ⟨⟨rfl, ⟨ex103, by rw [so, q72]; exact ex104, by rw [be]; exact ex105, by rw [va]; exact hv99⟩, (hr100 1 (by decide)).trans ((hr90 1 (by decide)).trans ((hr52 1 (by decide)).trans ((hr43 1 (by decide)).trans ((hr5 1 (by decide)).trans (rfl)))))⟩, hI97, (Same.tr (Same.tr (Same.tr (Same.tr (Same.tr Same.rf hs3) hs41) hs50) hs88) hs98)⟩
def wc (k : UInt32) (i : Nat) : Int32 := (sx_sb.getD (k.toNat - 100) []).getD i 0
def wl (k : UInt32) : Nat := sx_sn.getD (k.toNat - 100) 0
def chE (X : Nat → Nat) (p : Nat) (k : UInt32) : Nat → Nat → Bool
  | 0, _ => true
  | f + 1, j => decide (nI (X (p + j)) = wc k j) && chE X p k f (j + 1)
def wdT (n : Nat) (X : Nat → Nat) (p : Nat) (k : UInt32) : Bool := decide (soT n X p = 1) && (decide (beT n X p - p = wl k) && chE X p k (wl k) 0)
def b01 (b : Bool) : Int32 := cond b 1 0
theorem wd_let {n p : Nat} {X : Nat → Nat} (h1 : soT n X p = 1) {j : Nat} (hj : p + j < beT n X p) : p + j < n ∧ lett (X (p + j)) = true := by
  unfold soT at h1
  split at h1
  · rename_i hp
    by_cases h256 : j = 0
    · subst h256
      refine ⟨hp, ?_⟩
      unfold sortN at h1
      cases hl : lett (X (p + 0)) with
      | true => rfl
      | false =>
        rw [Nat.add_zero] at hl
        rw [hl, cond_false] at h1
        cases hd : digi (X p) with
        | true => rw [hd, cond_true] at h1; exact absurd h1 (by decide)
        | false =>
          rw [hd, cond_false] at h1
          cases hs : (X p == 59) with
          | true => rw [hs, cond_true] at h1; exact absurd h1 (by decide)
          | false => rw [hs, cond_false] at h1; exact absurd h1 (by decide)
    · unfold beT at hj
      rw [if_pos hp, if_pos h1] at hj
      exact rE_in (i := p + 1) (by omega) hj
  · exact absurd h1 (by decide)
set_option maxRecDepth 20000 in
set_option maxHeartbeats 4000000 in
theorem x101L {xs : Option (List Int32)} {d n p : Nat} {X : Nat → Nat} {w : List sx_C} (hI : WI w) (hC : CT n X w) {k : UInt32} {m : Nat} (hk : 100 ≤ k.toNat ∧ k.toNat < 120) (en : sx_sn.getD (k.toNat - 100) 0 = m) (hm : m ≤ 7) (ep : fi w 96 3 = nI p) (hl : ∀ j, j < m → p + j < n ∧ lett (X (p + j)) = true) : ∀ (fz j : Nat), j + fz = m → sx_RP xs d 101 28 [(0, .ref 96), (1, .float k), (2, .int (nI j))] [] w (fun r2 w2 => r2 = some (.int (b01 (chE X p k fz j))) ∧ w2 = w)
  | 0, j, hj => by
    obtain rfl : j = m := by omega
    refine sx_RP.step (pc2 := 29) (ls2 := [(0, .ref 96), (1, .float k), (2, .int (nI j))]) (st2 := [.int (nI j)]) (w3 := w) rfl rfl ?_
    refine sx_RP.step (pc2 := 30) (ls2 := [(0, .ref 96), (1, .float k), (2, .int (nI j))]) (st2 := [.float k, .int (nI j)]) (w3 := w) rfl rfl ?_
    refine sx_RP.slen (n := j) hk en rfl rfl rfl (show _ = 33 from rfl) ?_
    refine sx_RP.br (p1 := 63) (l1 := [(0, .ref 96), (1, .float k), (2, .int (nI j))]) (s1 := []) (v1 := w) rfl rfl (fun _ => ?_) (fun q => absurd (nI_le (a := j) (b := j) (by omega) (by omega)) (of_decide_eq_false q))
    refine sx_RP.step (pc2 := 64) (ls2 := [(0, .ref 96), (1, .float k), (2, .int (nI j))]) (st2 := [.int 1]) (w3 := w) rfl rfl ?_
    refine sx_RP.ret (r := (some (.int 1))) rfl rfl ?_
    exact ⟨rfl, rfl⟩
  | fz + 1, j, hj => by
    have hn := hC.2.1
    have hpj := (hl j (by omega)).1
    refine sx_RP.step (pc2 := 29) (ls2 := [(0, .ref 96), (1, .float k), (2, .int (nI j))]) (st2 := [.int (nI j)]) (w3 := w) rfl rfl ?_
    refine sx_RP.step (pc2 := 30) (ls2 := [(0, .ref 96), (1, .float k), (2, .int (nI j))]) (st2 := [.float k, .int (nI j)]) (w3 := w) rfl rfl ?_
    refine sx_RP.slen (n := m) hk en rfl rfl rfl (show _ = 33 from rfl) ?_
    refine sx_RP.br (p2 := 36) (l2 := [(0, .ref 96), (1, .float k), (2, .int (nI j))]) (s2 := []) (v2 := w) rfl rfl (fun q => absurd (of_decide_eq_true q) (fun z => absurd ((nI_leI (a := m) (b := j) (by omega) (by omega)).mp z) (by omega))) (fun _ => ?_)
    refine sx_RP.step (pc2 := 37) (ls2 := [(0, .ref 96), (1, .float k), (2, .int (nI j))]) (st2 := [.ref 96]) (w3 := w) rfl rfl ?_
    refine sx_RP.gf (v := .ref 97) rfl rfl hI.1.o96 rfl rfl (show _ = 40 from rfl) ?_
    refine sx_RP.step (pc2 := 41) (ls2 := [(0, .ref 96), (1, .float k), (2, .int (nI j))]) (st2 := [.ref 96, .ref 97]) (w3 := w) rfl rfl ?_
    refine sx_RP.gt (k := 3) hI rfl rfl (by decide) (show _ = 44 from rfl) ?_
    rw [ep]
    refine sx_RP.step (pc2 := 45) (ls2 := [(0, .ref 96), (1, .float k), (2, .int (nI j))]) (st2 := [.int (nI j), .int (nI p), .ref 97]) (w3 := w) rfl rfl ?_
    refine sx_RP.step (pc2 := 46) (ls2 := [(0, .ref 96), (1, .float k), (2, .int (nI j))]) (st2 := [.int ((nI p) + (nI j)), .ref 97]) (w3 := w) rfl rfl ?_
    rw [show ((nI p) + (nI j) : Int32) = nI (p + j) from nI_add p j]
    refine sx_RP.bld2 (c := (p + j)) rfl hI.1.a97.1 hI.1.a97.2 (sx_in_nI (show (p + j) < 120 by omega) (by decide)) (nI_clamp (by omega)) (show _ = 47 from rfl) ?_
    rw [(hC.2.2 ((p + j)) (by omega)).1]
    rw [(sgn_let ⟨X (p + j), hC.lt (hl j (by omega)).1⟩ (hl j (by omega)).2).1]
    refine sx_RP.step (pc2 := 48) (ls2 := [(0, .ref 96), (1, .float k), (2, .int (nI j))]) (st2 := [.float k, .int (nI (X (p + j)))]) (w3 := w) rfl rfl ?_
    refine sx_RP.step (pc2 := 49) (ls2 := [(0, .ref 96), (1, .float k), (2, .int (nI j))]) (st2 := [.int (nI j), .float k, .int (nI (X (p + j)))]) (w3 := w) rfl rfl ?_
    refine sx_RP.schr (n := m) (x := j) hk en hm (show j < m by omega) rfl rfl rfl (show _ = 52 from rfl) ?_
    refine sx_RP.br (p1 := 57) (l1 := [(0, .ref 96), (1, .float k), (2, .int (nI j))]) (s1 := []) (v1 := w) (p2 := 55) (l2 := [(0, .ref 96), (1, .float k), (2, .int (nI j))]) (s2 := []) (v2 := w) rfl rfl (fun q1 => ?_) (fun q1 => ?_)
    · replace q1 := of_decide_eq_true q1
      refine sx_RP.step (pc2 := 60) (ls2 := [(2, .int ((nI j) + 1)), (0, .ref 96), (1, .float k)]) (st2 := []) (w3 := w) rfl rfl ?_
      rw [nI_1 j]
      refine sx_RP.step (pc2 := 28) (ls2 := [(2, .int (nI (j + 1))), (0, .ref 96), (1, .float k)]) (st2 := []) (w3 := w) rfl rfl ?_
      unfold chE
      rw [decide_eq_true (show nI (X (p + j)) = wc k j from q1), Bool.true_and]
      exact sx_RP.ls (sx_lr.cons rfl (sx_lr.cons rfl (sx_lr.cons rfl sx_lr.nil))) (x101L hI hC hk en hm ep hl fz (j + 1) (by omega))
    · replace q1 := of_decide_eq_false q1
      refine sx_RP.step (pc2 := 56) (ls2 := [(0, .ref 96), (1, .float k), (2, .int (nI j))]) (st2 := [.int 0]) (w3 := w) rfl rfl ?_
      refine sx_RP.ret (r := (some (.int 0))) rfl rfl ?_
      exact ⟨by unfold chE; rw [decide_eq_false (show ¬ nI (X (p + j)) = wc k j from q1)]; rfl, rfl⟩
set_option maxRecDepth 20000 in
set_option maxHeartbeats 4000000 in
theorem x101 {xs : Option (List Int32)} {d : Nat} {w : List sx_C} (hI : WI w) {n p : Nat} {X : Nat → Nat} (hC : CT n X w) (hT : TK' n X p w) (hpn : p ≤ n) {k : UInt32} {m : Nat} (hk : 100 ≤ k.toNat ∧ k.toNat < 120) (en : sx_sn.getD (k.toNat - 100) 0 = m) (hm : m ≤ 7) : sx_RU xs d 101 0 (lv_args 0 [.ref 96, .float k]) [] w (some (.int (b01 (wdT n X p k)))) w := by
  have h : sx_RP xs d 101 0 (lv_args 0 [.ref 96, .float k]) [] w (fun r9 w2 => r9 = some (.int (b01 (wdT n X p k))) ∧ w2 = w) := by
    have hn := hC.2.1
    have hs4 : soT n X p ≤ 4 := by
      unfold soT
      split
      · rename_i h
        exact (sort_le ⟨X p, hC.lt h⟩).2
      · decide
    have hbe := beT_le (X := X) hpn
    have hbg := beT_ge (n := n) (p := p) (X := X)
    refine sx_RP.step (pc2 := 1) (ls2 := [(0, .ref 96), (1, .float k)]) (st2 := [.ref 96]) (w3 := w) rfl rfl ?_
    refine sx_RP.gt (k := 2) hI rfl rfl (by decide) (show _ = 4 from rfl) ?_
    rw [hT.2.1]
    refine sx_RP.step (pc2 := 5) (ls2 := [(0, .ref 96), (1, .float k)]) (st2 := [.int 1, .int (nI (soT n X p))]) (w3 := w) rfl rfl ?_
    refine sx_RP.br (p1 := 24) (l1 := [(0, .ref 96), (1, .float k)]) (s1 := []) (v1 := w) (p2 := 8) (l2 := [(0, .ref 96), (1, .float k)]) (s2 := []) (v2 := w) rfl rfl (fun q1 => ?_) (fun q1 => ?_)
    · replace q1 := of_decide_eq_true q1
      replace q1 := mt (nI_eq (a := (soT n X p)) (b := 1) (by omega) (by omega)).mpr q1
      refine sx_RP.step (pc2 := 25) (ls2 := [(0, .ref 96), (1, .float k)]) (st2 := [.int 0]) (w3 := w) rfl rfl ?_
      refine sx_RP.ret (r := (some (.int 0))) rfl rfl ?_
      exact ⟨by unfold wdT; rw [decide_eq_false (show ¬ soT n X p = 1 by omega)]; rfl, rfl⟩
    · replace q1 := Decidable.not_not.mp (of_decide_eq_false q1)
      replace q1 := (nI_eq (a := (soT n X p)) (b := 1) (by omega) (by omega)).mp q1
      refine sx_RP.step (pc2 := 9) (ls2 := [(0, .ref 96), (1, .float k)]) (st2 := [.ref 96]) (w3 := w) rfl rfl ?_
      refine sx_RP.gt (k := 4) hI rfl rfl (by decide) (show _ = 12 from rfl) ?_
      rw [hT.2.2.1]
      refine sx_RP.step (pc2 := 13) (ls2 := [(0, .ref 96), (1, .float k)]) (st2 := [.ref 96, .int (nI (beT n X p))]) (w3 := w) rfl rfl ?_
      refine sx_RP.gt (k := 3) hI rfl rfl (by decide) (show _ = 16 from rfl) ?_
      rw [hT.1]
      refine sx_RP.step (pc2 := 17) (ls2 := [(0, .ref 96), (1, .float k)]) (st2 := [.int ((nI (beT n X p)) - (nI p))]) (w3 := w) rfl rfl ?_
      rw [show ((nI (beT n X p)) - (nI p) : Int32) = nI ((beT n X p) - p) from nI_sub (a := (beT n X p)) (b := p) (by omega)]
      refine sx_RP.step (pc2 := 18) (ls2 := [(0, .ref 96), (1, .float k)]) (st2 := [.float k, .int (nI ((beT n X p) - p))]) (w3 := w) rfl rfl ?_
      refine sx_RP.slen (n := m) hk en rfl rfl rfl (show _ = 21 from rfl) ?_
      refine sx_RP.br (p1 := 26) (l1 := [(0, .ref 96), (1, .float k)]) (s1 := []) (v1 := w) (p2 := 24) (l2 := [(0, .ref 96), (1, .float k)]) (s2 := []) (v2 := w) rfl rfl (fun q2 => ?_) (fun q2 => ?_)
      · replace q2 := of_decide_eq_true q2
        replace q2 := (nI_eq (a := ((beT n X p) - p)) (b := m) (by omega) (by omega)).mp q2
        refine sx_RP.step (pc2 := 27) (ls2 := [(0, .ref 96), (1, .float k)]) (st2 := [.int 0]) (w3 := w) rfl rfl ?_
        refine sx_RP.step (pc2 := 28) (ls2 := [(2, .int 0), (0, .ref 96), (1, .float k)]) (st2 := []) (w3 := w) rfl rfl ?_
        unfold wdT
        rw [decide_eq_true (show soT n X p = 1 by omega), decide_eq_true (show beT n X p - p = wl k by rw [show wl k = m from en]; omega), Bool.true_and, Bool.true_and, show wl k = m from en]
        exact sx_RP.ls (sx_lr.cons rfl (sx_lr.cons rfl (sx_lr.cons rfl sx_lr.nil))) (x101L hI hC hk en hm hT.1 (fun j hj => wd_let (by omega) (by omega)) m 0 (by omega))
      · replace q2 := of_decide_eq_false q2
        replace q2 := mt (nI_eq (a := ((beT n X p) - p)) (b := m) (by omega) (by omega)).mpr q2
        refine sx_RP.step (pc2 := 25) (ls2 := [(0, .ref 96), (1, .float k)]) (st2 := [.int 0]) (w3 := w) rfl rfl ?_
        refine sx_RP.ret (r := (some (.int 0))) rfl rfl ?_
        exact ⟨by unfold wdT; rw [decide_eq_false (show ¬ beT n X p - p = wl k by rw [show wl k = m from en]; omega), Bool.false_and, Bool.and_false]; rfl, rfl⟩
  obtain ⟨r9, w2, h1, rfl, rfl⟩ := h
  exact h1
end
-- 89h.siege.lean.txt
section
def nP (n : Nat) (X : Nat → Nat) (p : Nat) : Nat := rE blk n X (beT n X p)
theorem nP_le {n p : Nat} {X : Nat → Nat} (h : p ≤ n) : nP n X p ≤ n := rE_le (beT_le h)
def nmT (n : Nat) (X : Nat → Nat) (p lo hi : Nat) : Bool := decide (soT n X p = 2) && (decide (lo ≤ vaT n X p) && decide (vaT n X p ≤ hi))
theorem vaT_le {n p : Nat} {X : Nat → Nat} : vaT n X p ≤ 1000000 := by
  unfold vaT
  split
  · exact nuV_le _ _ _ (by omega)
  · omega
theorem soT_le {n p : Nat} {X : Nat → Nat} {w : List sx_C} (hC : CT n X w) : soT n X p ≤ 4 := by
  unfold soT
  split
  · rename_i h
    exact (sort_le ⟨X p, hC.lt h⟩).2
  · decide
theorem nmT_in {n p lo hi : Nat} {X : Nat → Nat} (h : nmT n X p lo hi = true) : lo ≤ vaT n X p ∧ vaT n X p ≤ hi := by
  unfold nmT at h
  simp only [Bool.and_eq_true, decide_eq_true_eq] at h
  exact h.2
def OffT (w w2 : List sx_C) : Prop := ∀ a, a ≠ 96 → (a < 29 ∨ 43 ≤ a) → w2[a]? = w[a]?
theorem OffT.rf {w : List sx_C} : OffT w w := fun _ _ _ => rfl
theorem OffT.tr {w w1 w2 : List sx_C} (h : OffT w w1) (h2 : OffT w1 w2) : OffT w w2 := fun a h3 h4 => (h2 a h3 h4).trans (h a h3 h4)
theorem Same.offT {w w2 : List sx_C} (h : Same 96 w w2) : OffT w w2 := fun a h1 _ => h a h1
theorem Out.offT {w w2 : List sx_C} (h : Out 29 w w2) : OffT w w2 := fun a _ h2 => h a (by omega)
theorem CT.out {n : Nat} {X : Nat → Nat} {w w2 : List sx_C} (h : CT n X w) (ho : Out 29 w w2) : CT n X w2 := h.same (fi_same 1 (ho 96 (by omega))) (ia_of (ho 97 (by omega)))
theorem TK'.out {n p : Nat} {X : Nat → Nat} {w w2 : List sx_C} (h : TK' n X p w) (ho : Out 29 w w2) : TK' n X p w2 := ⟨(fi_same 3 (ho 96 (by omega))).trans h.1, (fi_same 2 (ho 96 (by omega))).trans h.2.1, (fi_same 4 (ho 96 (by omega))).trans h.2.2.1, (fi_same 5 (ho 96 (by omega))).trans h.2.2.2⟩
theorem isA29 : isA 29 := Or.inr (Or.inr rfl)
set_option maxRecDepth 20000 in
set_option maxHeartbeats 4000000 in
theorem x103 {xs : Option (List Int32)} {d : Nat} {w : List sx_C} (hI : WI w) {n p lo hi : Nat} {X : Nat → Nat} (hC : CT n X w) (hT : TK' n X p w) (hlo : lo ≤ 1000000) (hhi : hi ≤ 1000000) : sx_RU xs d 103 0 (lv_args 0 [.ref 96, .int (nI lo), .int (nI hi)]) [] w (some (.int (b01 (nmT n X p lo hi)))) w := by
  have h : sx_RP xs d 103 0 (lv_args 0 [.ref 96, .int (nI lo), .int (nI hi)]) [] w (fun r9 w2 => r9 = some (.int (b01 (nmT n X p lo hi))) ∧ w2 = w) := by
    have hv := vaT_le (n := n) (p := p) (X := X)
    have hs4 := soT_le (p := p) hC
    refine sx_RP.step (pc2 := 1) (ls2 := [(0, .ref 96), (1, .int (nI lo)), (2, .int (nI hi))]) (st2 := [.ref 96]) (w3 := w) rfl rfl ?_
    refine sx_RP.gt (k := 2) hI rfl rfl (by decide) (show _ = 4 from rfl) ?_
    rw [hT.2.1]
    refine sx_RP.step (pc2 := 5) (ls2 := [(0, .ref 96), (1, .int (nI lo)), (2, .int (nI hi))]) (st2 := [.int 2, .int (nI (soT n X p))]) (w3 := w) rfl rfl ?_
    refine sx_RP.br (p1 := 28) (l1 := [(0, .ref 96), (1, .int (nI lo)), (2, .int (nI hi))]) (s1 := []) (v1 := w) (p2 := 8) (l2 := [(0, .ref 96), (1, .int (nI lo)), (2, .int (nI hi))]) (s2 := []) (v2 := w) rfl rfl (fun q1 => ?_) (fun q1 => ?_)
    · replace q1 := of_decide_eq_true q1
      replace q1 := mt (nI_eq (a := (soT n X p)) (b := 2) (by omega) (by omega)).mpr q1
      refine sx_RP.step (pc2 := 29) (ls2 := [(0, .ref 96), (1, .int (nI lo)), (2, .int (nI hi))]) (st2 := [.int 0]) (w3 := w) rfl rfl ?_
      refine sx_RP.ret (r := (some (.int 0))) rfl rfl ?_
      exact ⟨by unfold nmT; rw [decide_eq_false (show ¬ soT n X p = 2 by omega)]; rfl, rfl⟩
    · replace q1 := Decidable.not_not.mp (of_decide_eq_false q1)
      replace q1 := (nI_eq (a := (soT n X p)) (b := 2) (by omega) (by omega)).mp q1
      refine sx_RP.step (pc2 := 9) (ls2 := [(0, .ref 96), (1, .int (nI lo)), (2, .int (nI hi))]) (st2 := [.ref 96]) (w3 := w) rfl rfl ?_
      refine sx_RP.gt (k := 5) hI rfl rfl (by decide) (show _ = 12 from rfl) ?_
      rw [hT.2.2.2]
      refine sx_RP.step (pc2 := 13) (ls2 := [(0, .ref 96), (1, .int (nI lo)), (2, .int (nI hi))]) (st2 := [.int (nI lo), .int (nI (vaT n X p))]) (w3 := w) rfl rfl ?_
      refine sx_RP.br (p1 := 28) (l1 := [(0, .ref 96), (1, .int (nI lo)), (2, .int (nI hi))]) (s1 := []) (v1 := w) (p2 := 16) (l2 := [(0, .ref 96), (1, .int (nI lo)), (2, .int (nI hi))]) (s2 := []) (v2 := w) rfl rfl (fun q2 => ?_) (fun q2 => ?_)
      · replace q2 := of_decide_eq_true q2
        replace q2 := (nI_ltI (a := (vaT n X p)) (b := lo) (by omega) (by omega)).mp q2
        refine sx_RP.step (pc2 := 29) (ls2 := [(0, .ref 96), (1, .int (nI lo)), (2, .int (nI hi))]) (st2 := [.int 0]) (w3 := w) rfl rfl ?_
        refine sx_RP.ret (r := (some (.int 0))) rfl rfl ?_
        exact ⟨by unfold nmT; rw [decide_eq_false (show ¬ lo ≤ vaT n X p by omega), Bool.false_and, Bool.and_false]; rfl, rfl⟩
      · replace q2 := of_decide_eq_false q2
        replace q2 := mt (nI_ltI (a := (vaT n X p)) (b := lo) (by omega) (by omega)).mpr q2
        refine sx_RP.step (pc2 := 17) (ls2 := [(0, .ref 96), (1, .int (nI lo)), (2, .int (nI hi))]) (st2 := [.ref 96]) (w3 := w) rfl rfl ?_
        refine sx_RP.gt (k := 5) hI rfl rfl (by decide) (show _ = 20 from rfl) ?_
        rw [hT.2.2.2]
        refine sx_RP.step (pc2 := 21) (ls2 := [(0, .ref 96), (1, .int (nI lo)), (2, .int (nI hi))]) (st2 := [.int (nI hi), .int (nI (vaT n X p))]) (w3 := w) rfl rfl ?_
        refine sx_RP.br (p1 := 28) (l1 := [(0, .ref 96), (1, .int (nI lo)), (2, .int (nI hi))]) (s1 := []) (v1 := w) (p2 := 24) (l2 := [(0, .ref 96), (1, .int (nI lo)), (2, .int (nI hi))]) (s2 := []) (v2 := w) rfl rfl (fun q3 => ?_) (fun q3 => ?_)
        · replace q3 := of_decide_eq_true q3
          replace q3 := (nI_ltI (a := hi) (b := (vaT n X p)) (by omega) (by omega)).mp q3
          refine sx_RP.step (pc2 := 29) (ls2 := [(0, .ref 96), (1, .int (nI lo)), (2, .int (nI hi))]) (st2 := [.int 0]) (w3 := w) rfl rfl ?_
          refine sx_RP.ret (r := (some (.int 0))) rfl rfl ?_
          exact ⟨by unfold nmT; rw [decide_eq_false (show ¬ vaT n X p ≤ hi by omega), Bool.and_false, Bool.and_false]; rfl, rfl⟩
        · replace q3 := of_decide_eq_false q3
          replace q3 := mt (nI_ltI (a := hi) (b := (vaT n X p)) (by omega) (by omega)).mpr q3
          refine sx_RP.step (pc2 := 25) (ls2 := [(0, .ref 96), (1, .int (nI lo)), (2, .int (nI hi))]) (st2 := [.int 1]) (w3 := w) rfl rfl ?_
          refine sx_RP.step (pc2 := 29) (ls2 := [(0, .ref 96), (1, .int (nI lo)), (2, .int (nI hi))]) (st2 := [.int 1]) (w3 := w) rfl rfl ?_
          refine sx_RP.ret (r := (some (.int 1))) rfl rfl ?_
          exact ⟨by unfold nmT; rw [decide_eq_true (show soT n X p = 2 by omega), decide_eq_true (show lo ≤ vaT n X p by omega), decide_eq_true (show vaT n X p ≤ hi by omega)]; rfl, rfl⟩
  obtain ⟨r9, w2, h1, rfl, rfl⟩ := h
  exact h1
theorem x103t {xs : Option (List Int32)} {d n p lo hi : Nat} {X : Nat → Nat} {w : List sx_C} (hI : WI w) (hC : CT n X w) (hT : TK' n X p w) (hlo : lo ≤ 1000000) (hhi : hi ≤ 1000000) (h : nmT n X p lo hi = true) : sx_RU xs d 103 0 (lv_args 0 [.ref 96, .int (nI lo), .int (nI hi)]) [] w (some (.int 1)) w := by
  have c := x103 (xs := xs) (d := d) hI hC hT hlo hhi
  rw [h] at c
  exact c
theorem x101t {xs : Option (List Int32)} {d n p : Nat} {X : Nat → Nat} {w : List sx_C} {k : UInt32} {m : Nat} (hI : WI w) (hC : CT n X w) (hT : TK' n X p w) (hpn : p ≤ n) (hk : 100 ≤ k.toNat ∧ k.toNat < 120) (en : sx_sn.getD (k.toNat - 100) 0 = m) (hm : m ≤ 7) (h : wdT n X p k = true) : sx_RU xs d 101 0 (lv_args 0 [.ref 96, .float k]) [] w (some (.int 1)) w := by
  have c := x101 (xs := xs) (d := d) hI hC hT hpn hk en hm
  rw [h] at c
  exact c
theorem x103f {xs : Option (List Int32)} {d n p lo hi : Nat} {X : Nat → Nat} {w : List sx_C} (hI : WI w) (hC : CT n X w) (hT : TK' n X p w) (hlo : lo ≤ 1000000) (hhi : hi ≤ 1000000) (h : nmT n X p lo hi = false) : sx_RU xs d 103 0 (lv_args 0 [.ref 96, .int (nI lo), .int (nI hi)]) [] w (some (.int 0)) w := by
  have c := x103 (xs := xs) (d := d) hI hC hT hlo hhi
  rw [h] at c
  exact c
theorem x101f {xs : Option (List Int32)} {d n p : Nat} {X : Nat → Nat} {w : List sx_C} {k : UInt32} {m : Nat} (hI : WI w) (hC : CT n X w) (hT : TK' n X p w) (hpn : p ≤ n) (hk : 100 ≤ k.toNat ∧ k.toNat < 120) (en : sx_sn.getD (k.toNat - 100) 0 = m) (hm : m ≤ 7) (h : wdT n X p k = false) : sx_RU xs d 101 0 (lv_args 0 [.ref 96, .float k]) [] w (some (.int 0)) w := by
  have c := x101 (xs := xs) (d := d) hI hC hT hpn hk en hm
  rw [h] at c
  exact c
def wtT (n : Nat) (X : Nat → Nat) (p : Nat) (k : UInt32) (lo hi : Nat) : Bool × Nat := if wdT n X p k = true then (nmT n X (nP n X p) lo hi, nP n X p) else (false, p)
theorem b01_t {b : Bool} (h : ¬ b01 b = 0) : b = true := by cases b <;> first | rfl | exact absurd rfl h
theorem b01_f {b : Bool} (h : b01 b = 0) : b = false := by cases b <;> first | rfl | exact absurd h (by decide)
theorem wtT_t {n p lo hi : Nat} {X : Nat → Nat} {k : UInt32} (h : (wtT n X p k lo hi).1 = true) : wdT n X p k = true ∧ nmT n X (nP n X p) lo hi = true ∧ (wtT n X p k lo hi).2 = nP n X p := by
  unfold wtT at h ⊢
  by_cases c : wdT n X p k = true
  · rw [if_pos c] at h ⊢
    exact ⟨c, h, rfl⟩
  · rw [if_neg c] at h
    exact absurd (show false = true from h) (by decide)
theorem wtT_le {n p lo hi : Nat} {X : Nat → Nat} {k : UInt32} (h : p ≤ n) : (wtT n X p k lo hi).2 ≤ n := by
  unfold wtT
  split
  · exact nP_le h
  · exact h
set_option maxRecDepth 20000 in
set_option maxHeartbeats 4000000 in
theorem X108 {xs : Option (List Int32)} {d : Nat} {w : List sx_C} (hI : WI w) {n p lo hi : Nat} {X : Nat → Nat} (hC : CT n X w) (hT : TK' n X p w) (hp : p ≤ n) {k : UInt32} {m : Nat} (hk : 100 ≤ k.toNat ∧ k.toNat < 120) (en : sx_sn.getD (k.toNat - 100) 0 = m) (hm : m ≤ 7) (hlo : lo ≤ 1000000) (hhi : hi ≤ 1000000) : sx_RP xs (d + 3) 108 0 (lv_args 0 [.ref 96, .float k, .int (nI lo), .int (nI hi)]) [] w (fun r w2 => (r = some (.int (b01 (wtT n X p k lo hi).1)) ∧ TK' n X (wtT n X p k lo hi).2 w2 ∧ fi w2 96 1 = fi w 96 1) ∧ WI w2 ∧ Same 96 w w2) := by
  refine sx_RP.step (pc2 := 1) (ls2 := [(0, .ref 96), (1, .float k), (2, .int (nI lo)), (3, .int (nI hi))]) (st2 := [.ref 96]) (w3 := w) rfl rfl ?_
  refine sx_RP.step (pc2 := 2) (ls2 := [(0, .ref 96), (1, .float k), (2, .int (nI lo)), (3, .int (nI hi))]) (st2 := [.float k, .ref 96]) (w3 := w) rfl rfl ?_
  rcases Bool.eq_false_or_eq_true (wdT n X p k) with c1 | c1
  · refine sx_RP.cu (as := [.ref 96, .float k]) (rest2 := []) (st3 := [.int 1]) rfl rfl (sx_inv_v2 (mi := 108) (k := 52) (st := [.float k, .ref 96]) (w := w) rfl rfl hI.1.o96 rfl rfl rfl) rfl rfl (x101t (k := k) (m := m) hI hC hT hp hk en hm c1) rfl ?_
    refine sx_RP.step (pc2 := 10) (ls2 := [(0, .ref 96), (1, .float k), (2, .int (nI lo)), (3, .int (nI hi))]) (st2 := []) (w3 := w) rfl rfl ?_
    refine sx_RP.step (pc2 := 11) (ls2 := [(0, .ref 96), (1, .float k), (2, .int (nI lo)), (3, .int (nI hi))]) (st2 := [.ref 96]) (w3 := w) rfl rfl ?_
    refine sx_RP.callp (as2 := [.ref 96]) (rest2 := []) rfl rfl (sx_inv_v2 (mi := 108) (k := 29) (st := [.ref 96]) (w := w) rfl rfl hI.1.o96 rfl rfl rfl) rfl rfl rfl (X94 hI hC hT.2.2.1 (beT_le hp)) (show _ = 14 from rfl) ?_
    rintro r4 w5 ⟨⟨rfl, hT2, h13⟩, hI6, hs4⟩
    show sx_RP _ _ _ _ _ [] _ _
    have hT11 : TK' n X (nP n X p) w5 := hT2
    have hC7 := hC.same h13 (ia_of (hs4 97 (by decide)))
    have hp8 : nP n X p ≤ n := nP_le hp
    refine sx_RP.step (pc2 := 15) (ls2 := [(0, .ref 96), (1, .float k), (2, .int (nI lo)), (3, .int (nI hi))]) (st2 := [.ref 96]) (w3 := w5) rfl rfl ?_
    refine sx_RP.step (pc2 := 16) (ls2 := [(0, .ref 96), (1, .float k), (2, .int (nI lo)), (3, .int (nI hi))]) (st2 := [.int (nI lo), .ref 96]) (w3 := w5) rfl rfl ?_
    refine sx_RP.step (pc2 := 17) (ls2 := [(0, .ref 96), (1, .float k), (2, .int (nI lo)), (3, .int (nI hi))]) (st2 := [.int (nI hi), .int (nI lo), .ref 96]) (w3 := w5) rfl rfl ?_
    rcases Bool.eq_false_or_eq_true (nmT n X (nP n X p) lo hi) with c12 | c12
    · refine sx_RP.cu (as := [.ref 96, .int (nI lo), .int (nI hi)]) (rest2 := []) (st3 := [.int 1]) rfl rfl (sx_inv_v2 (mi := 108) (k := 66) (st := [.int (nI hi), .int (nI lo), .ref 96]) (w := w5) rfl rfl hI6.1.o96 rfl rfl rfl) rfl rfl (x103t (lo := lo) (hi := hi) hI6 hC7 hT11 (by omega) (by omega) c12) rfl ?_
      refine sx_RP.ret (r := (some (.int 1))) rfl rfl ?_
      rw [show wtT n X p k lo hi = (true, nP n X p) by unfold wtT; rw [if_pos c1, c12]]
      exact ⟨⟨rfl, hT11, h13⟩, hI6, hs4⟩
    · refine sx_RP.cu (as := [.ref 96, .int (nI lo), .int (nI hi)]) (rest2 := []) (st3 := [.int 0]) rfl rfl (sx_inv_v2 (mi := 108) (k := 66) (st := [.int (nI hi), .int (nI lo), .ref 96]) (w := w5) rfl rfl hI6.1.o96 rfl rfl rfl) rfl rfl (x103f (lo := lo) (hi := hi) hI6 hC7 hT11 (by omega) (by omega) c12) rfl ?_
      refine sx_RP.ret (r := (some (.int 0))) rfl rfl ?_
      rw [show wtT n X p k lo hi = (false, nP n X p) by unfold wtT; rw [if_pos c1, c12]]
      exact ⟨⟨rfl, hT11, h13⟩, hI6, hs4⟩
  · refine sx_RP.cu (as := [.ref 96, .float k]) (rest2 := []) (st3 := [.int 0]) rfl rfl (sx_inv_v2 (mi := 108) (k := 52) (st := [.float k, .ref 96]) (w := w) rfl rfl hI.1.o96 rfl rfl rfl) rfl rfl (x101f (k := k) (m := m) hI hC hT hp hk en hm c1) rfl ?_
    refine sx_RP.step (pc2 := 8) (ls2 := [(0, .ref 96), (1, .float k), (2, .int (nI lo)), (3, .int (nI hi))]) (st2 := []) (w3 := w) rfl rfl ?_
    refine sx_RP.step (pc2 := 9) (ls2 := [(0, .ref 96), (1, .float k), (2, .int (nI lo)), (3, .int (nI hi))]) (st2 := [.int 0]) (w3 := w) rfl rfl ?_
    refine sx_RP.ret (r := (some (.int 0))) rfl rfl ?_
    rw [show wtT n X p k lo hi = (false, p) by unfold wtT; rw [if_neg (by rw [c1]; decide)]]
    exact ⟨⟨rfl, hT, rfl⟩, hI, Same.rf⟩
end
-- 89i.siege.lean.txt
section
def gwT (n : Nat) (X : Nat → Nat) (p : Nat) : Int32 := if wdT n X p 102 = true then 0 else (if wdT n X p 113 = true then 1 else (if wdT n X p 112 = true then 2 else (if wdT n X p 118 = true then 3 else (if wdT n X p 117 = true then 4 else (-1)))))
def kwT (n : Nat) (X : Nat → Nat) (p : Nat) : Int32 := if wdT n X p 106 = true then 0 else (if wdT n X p 110 = true then 1 else (if wdT n X p 114 = true then 2 else (if wdT n X p 107 = true then 3 else (if wdT n X p 105 = true then 4 else (if wdT n X p 103 = true then 5 else (-1))))))
set_option maxRecDepth 20000 in
set_option maxHeartbeats 4000000 in
theorem x99 {xs : Option (List Int32)} {d : Nat} {w : List sx_C} (hI : WI w) {n p : Nat} {X : Nat → Nat} (hC : CT n X w) (hT : TK' n X p w) (hp : p ≤ n) : sx_RU xs (d + 1) 99 0 (lv_args 0 [.ref 96]) [] w (some (.int (gwT n X p))) w := by
  have h : sx_RP xs (d + 1) 99 0 (lv_args 0 [.ref 96]) [] w (fun r9 w2 => r9 = some (.int (gwT n X p)) ∧ w2 = w) := by
    refine sx_RP.step (pc2 := 1) (ls2 := [(0, .ref 96)]) (st2 := [.int 0]) (w3 := w) rfl rfl ?_
    refine sx_RP.step (pc2 := 2) (ls2 := [(1, .int 0), (0, .ref 96)]) (st2 := []) (w3 := w) rfl rfl ?_
    refine sx_RP.step (pc2 := 3) (ls2 := [(1, .int 0), (0, .ref 96)]) (st2 := [.int 0]) (w3 := w) rfl rfl ?_
    refine sx_RP.step (pc2 := 4) (ls2 := [(1, .int 0), (0, .ref 96)]) (st2 := [.int 5, .int 0]) (w3 := w) rfl rfl ?_
    refine sx_RP.step (pc2 := 7) (ls2 := [(1, .int 0), (0, .ref 96)]) (st2 := []) (w3 := w) rfl rfl ?_
    refine sx_RP.step (pc2 := 8) (ls2 := [(1, .int 0), (0, .ref 96)]) (st2 := [.ref 96]) (w3 := w) rfl rfl ?_
    refine sx_RP.step (pc2 := 9) (ls2 := [(1, .int 0), (0, .ref 96)]) (st2 := [.int 0, .ref 96]) (w3 := w) rfl rfl ?_
    refine sx_RP.cu (as := [.int 0]) (rest2 := [.ref 96]) (st3 := [.float 102, .ref 96]) rfl rfl rfl rfl rfl (p100_0) rfl ?_
    rcases Bool.eq_false_or_eq_true (wdT n X p (102 : UInt32)) with c1 | c1
    · refine sx_RP.cu (as := [.ref 96, .float 102]) (rest2 := []) (st3 := [.int 1]) rfl rfl (sx_inv_v2 (mi := 99) (k := 52) (st := [.float 102, .ref 96]) (w := w) rfl rfl hI.1.o96 rfl rfl rfl) rfl rfl (x101t (k := (102 : UInt32)) (m := 4) hI hC hT hp (by decide) rfl (by decide) c1) rfl ?_
      refine sx_RP.step (pc2 := 18) (ls2 := [(1, .int 0), (0, .ref 96)]) (st2 := []) (w3 := w) rfl rfl ?_
      refine sx_RP.step (pc2 := 19) (ls2 := [(1, .int 0), (0, .ref 96)]) (st2 := [.int 0]) (w3 := w) rfl rfl ?_
      refine sx_RP.ret (r := (some (.int 0))) rfl rfl ?_
      exact ⟨by unfold gwT; rw [if_pos c1], rfl⟩
    · refine sx_RP.cu (as := [.ref 96, .float 102]) (rest2 := []) (st3 := [.int 0]) rfl rfl (sx_inv_v2 (mi := 99) (k := 52) (st := [.float 102, .ref 96]) (w := w) rfl rfl hI.1.o96 rfl rfl rfl) rfl rfl (x101f (k := (102 : UInt32)) (m := 4) hI hC hT hp (by decide) rfl (by decide) c1) rfl ?_
      refine sx_RP.step (pc2 := 20) (ls2 := [(1, .int 0), (0, .ref 96)]) (st2 := []) (w3 := w) rfl rfl ?_
      refine sx_RP.step (pc2 := 23) (ls2 := [(1, .int 1), (0, .ref 96)]) (st2 := []) (w3 := w) rfl rfl ?_
      refine sx_RP.step (pc2 := 2) (ls2 := [(1, .int 1), (0, .ref 96)]) (st2 := []) (w3 := w) rfl rfl ?_
      refine sx_RP.step (pc2 := 3) (ls2 := [(1, .int 1), (0, .ref 96)]) (st2 := [.int 1]) (w3 := w) rfl rfl ?_
      refine sx_RP.step (pc2 := 4) (ls2 := [(1, .int 1), (0, .ref 96)]) (st2 := [.int 5, .int 1]) (w3 := w) rfl rfl ?_
      refine sx_RP.step (pc2 := 7) (ls2 := [(1, .int 1), (0, .ref 96)]) (st2 := []) (w3 := w) rfl rfl ?_
      refine sx_RP.step (pc2 := 8) (ls2 := [(1, .int 1), (0, .ref 96)]) (st2 := [.ref 96]) (w3 := w) rfl rfl ?_
      refine sx_RP.step (pc2 := 9) (ls2 := [(1, .int 1), (0, .ref 96)]) (st2 := [.int 1, .ref 96]) (w3 := w) rfl rfl ?_
      refine sx_RP.cu (as := [.int 1]) (rest2 := [.ref 96]) (st3 := [.float 113, .ref 96]) rfl rfl rfl rfl rfl (p100_1) rfl ?_
      rcases Bool.eq_false_or_eq_true (wdT n X p (113 : UInt32)) with c2 | c2
      · refine sx_RP.cu (as := [.ref 96, .float 113]) (rest2 := []) (st3 := [.int 1]) rfl rfl (sx_inv_v2 (mi := 99) (k := 52) (st := [.float 113, .ref 96]) (w := w) rfl rfl hI.1.o96 rfl rfl rfl) rfl rfl (x101t (k := (113 : UInt32)) (m := 4) hI hC hT hp (by decide) rfl (by decide) c2) rfl ?_
        refine sx_RP.step (pc2 := 18) (ls2 := [(1, .int 1), (0, .ref 96)]) (st2 := []) (w3 := w) rfl rfl ?_
        refine sx_RP.step (pc2 := 19) (ls2 := [(1, .int 1), (0, .ref 96)]) (st2 := [.int 1]) (w3 := w) rfl rfl ?_
        refine sx_RP.ret (r := (some (.int 1))) rfl rfl ?_
        exact ⟨by unfold gwT; rw [if_neg (by rw [c1]; decide), if_pos c2], rfl⟩
      · refine sx_RP.cu (as := [.ref 96, .float 113]) (rest2 := []) (st3 := [.int 0]) rfl rfl (sx_inv_v2 (mi := 99) (k := 52) (st := [.float 113, .ref 96]) (w := w) rfl rfl hI.1.o96 rfl rfl rfl) rfl rfl (x101f (k := (113 : UInt32)) (m := 4) hI hC hT hp (by decide) rfl (by decide) c2) rfl ?_
        refine sx_RP.step (pc2 := 20) (ls2 := [(1, .int 1), (0, .ref 96)]) (st2 := []) (w3 := w) rfl rfl ?_
        refine sx_RP.step (pc2 := 23) (ls2 := [(1, .int 2), (0, .ref 96)]) (st2 := []) (w3 := w) rfl rfl ?_
        refine sx_RP.step (pc2 := 2) (ls2 := [(1, .int 2), (0, .ref 96)]) (st2 := []) (w3 := w) rfl rfl ?_
        refine sx_RP.step (pc2 := 3) (ls2 := [(1, .int 2), (0, .ref 96)]) (st2 := [.int 2]) (w3 := w) rfl rfl ?_
        refine sx_RP.step (pc2 := 4) (ls2 := [(1, .int 2), (0, .ref 96)]) (st2 := [.int 5, .int 2]) (w3 := w) rfl rfl ?_
        refine sx_RP.step (pc2 := 7) (ls2 := [(1, .int 2), (0, .ref 96)]) (st2 := []) (w3 := w) rfl rfl ?_
        refine sx_RP.step (pc2 := 8) (ls2 := [(1, .int 2), (0, .ref 96)]) (st2 := [.ref 96]) (w3 := w) rfl rfl ?_
        refine sx_RP.step (pc2 := 9) (ls2 := [(1, .int 2), (0, .ref 96)]) (st2 := [.int 2, .ref 96]) (w3 := w) rfl rfl ?_
        refine sx_RP.cu (as := [.int 2]) (rest2 := [.ref 96]) (st3 := [.float 112, .ref 96]) rfl rfl rfl rfl rfl (p100_2) rfl ?_
        rcases Bool.eq_false_or_eq_true (wdT n X p (112 : UInt32)) with c3 | c3
        · refine sx_RP.cu (as := [.ref 96, .float 112]) (rest2 := []) (st3 := [.int 1]) rfl rfl (sx_inv_v2 (mi := 99) (k := 52) (st := [.float 112, .ref 96]) (w := w) rfl rfl hI.1.o96 rfl rfl rfl) rfl rfl (x101t (k := (112 : UInt32)) (m := 4) hI hC hT hp (by decide) rfl (by decide) c3) rfl ?_
          refine sx_RP.step (pc2 := 18) (ls2 := [(1, .int 2), (0, .ref 96)]) (st2 := []) (w3 := w) rfl rfl ?_
          refine sx_RP.step (pc2 := 19) (ls2 := [(1, .int 2), (0, .ref 96)]) (st2 := [.int 2]) (w3 := w) rfl rfl ?_
          refine sx_RP.ret (r := (some (.int 2))) rfl rfl ?_
          exact ⟨by unfold gwT; rw [if_neg (by rw [c1]; decide), if_neg (by rw [c2]; decide), if_pos c3], rfl⟩
        · refine sx_RP.cu (as := [.ref 96, .float 112]) (rest2 := []) (st3 := [.int 0]) rfl rfl (sx_inv_v2 (mi := 99) (k := 52) (st := [.float 112, .ref 96]) (w := w) rfl rfl hI.1.o96 rfl rfl rfl) rfl rfl (x101f (k := (112 : UInt32)) (m := 4) hI hC hT hp (by decide) rfl (by decide) c3) rfl ?_
          refine sx_RP.step (pc2 := 20) (ls2 := [(1, .int 2), (0, .ref 96)]) (st2 := []) (w3 := w) rfl rfl ?_
          refine sx_RP.step (pc2 := 23) (ls2 := [(1, .int 3), (0, .ref 96)]) (st2 := []) (w3 := w) rfl rfl ?_
          refine sx_RP.step (pc2 := 2) (ls2 := [(1, .int 3), (0, .ref 96)]) (st2 := []) (w3 := w) rfl rfl ?_
          refine sx_RP.step (pc2 := 3) (ls2 := [(1, .int 3), (0, .ref 96)]) (st2 := [.int 3]) (w3 := w) rfl rfl ?_
          refine sx_RP.step (pc2 := 4) (ls2 := [(1, .int 3), (0, .ref 96)]) (st2 := [.int 5, .int 3]) (w3 := w) rfl rfl ?_
          refine sx_RP.step (pc2 := 7) (ls2 := [(1, .int 3), (0, .ref 96)]) (st2 := []) (w3 := w) rfl rfl ?_
          refine sx_RP.step (pc2 := 8) (ls2 := [(1, .int 3), (0, .ref 96)]) (st2 := [.ref 96]) (w3 := w) rfl rfl ?_
          refine sx_RP.step (pc2 := 9) (ls2 := [(1, .int 3), (0, .ref 96)]) (st2 := [.int 3, .ref 96]) (w3 := w) rfl rfl ?_
          refine sx_RP.cu (as := [.int 3]) (rest2 := [.ref 96]) (st3 := [.float 118, .ref 96]) rfl rfl rfl rfl rfl (p100_3) rfl ?_
          rcases Bool.eq_false_or_eq_true (wdT n X p (118 : UInt32)) with c4 | c4
          · refine sx_RP.cu (as := [.ref 96, .float 118]) (rest2 := []) (st3 := [.int 1]) rfl rfl (sx_inv_v2 (mi := 99) (k := 52) (st := [.float 118, .ref 96]) (w := w) rfl rfl hI.1.o96 rfl rfl rfl) rfl rfl (x101t (k := (118 : UInt32)) (m := 5) hI hC hT hp (by decide) rfl (by decide) c4) rfl ?_
            refine sx_RP.step (pc2 := 18) (ls2 := [(1, .int 3), (0, .ref 96)]) (st2 := []) (w3 := w) rfl rfl ?_
            refine sx_RP.step (pc2 := 19) (ls2 := [(1, .int 3), (0, .ref 96)]) (st2 := [.int 3]) (w3 := w) rfl rfl ?_
            refine sx_RP.ret (r := (some (.int 3))) rfl rfl ?_
            exact ⟨by unfold gwT; rw [if_neg (by rw [c1]; decide), if_neg (by rw [c2]; decide), if_neg (by rw [c3]; decide), if_pos c4], rfl⟩
          · refine sx_RP.cu (as := [.ref 96, .float 118]) (rest2 := []) (st3 := [.int 0]) rfl rfl (sx_inv_v2 (mi := 99) (k := 52) (st := [.float 118, .ref 96]) (w := w) rfl rfl hI.1.o96 rfl rfl rfl) rfl rfl (x101f (k := (118 : UInt32)) (m := 5) hI hC hT hp (by decide) rfl (by decide) c4) rfl ?_
            refine sx_RP.step (pc2 := 20) (ls2 := [(1, .int 3), (0, .ref 96)]) (st2 := []) (w3 := w) rfl rfl ?_
            refine sx_RP.step (pc2 := 23) (ls2 := [(1, .int 4), (0, .ref 96)]) (st2 := []) (w3 := w) rfl rfl ?_
            refine sx_RP.step (pc2 := 2) (ls2 := [(1, .int 4), (0, .ref 96)]) (st2 := []) (w3 := w) rfl rfl ?_
            refine sx_RP.step (pc2 := 3) (ls2 := [(1, .int 4), (0, .ref 96)]) (st2 := [.int 4]) (w3 := w) rfl rfl ?_
            refine sx_RP.step (pc2 := 4) (ls2 := [(1, .int 4), (0, .ref 96)]) (st2 := [.int 5, .int 4]) (w3 := w) rfl rfl ?_
            refine sx_RP.step (pc2 := 7) (ls2 := [(1, .int 4), (0, .ref 96)]) (st2 := []) (w3 := w) rfl rfl ?_
            refine sx_RP.step (pc2 := 8) (ls2 := [(1, .int 4), (0, .ref 96)]) (st2 := [.ref 96]) (w3 := w) rfl rfl ?_
            refine sx_RP.step (pc2 := 9) (ls2 := [(1, .int 4), (0, .ref 96)]) (st2 := [.int 4, .ref 96]) (w3 := w) rfl rfl ?_
            refine sx_RP.cu (as := [.int 4]) (rest2 := [.ref 96]) (st3 := [.float 117, .ref 96]) rfl rfl rfl rfl rfl (p100_4) rfl ?_
            rcases Bool.eq_false_or_eq_true (wdT n X p (117 : UInt32)) with c5 | c5
            · refine sx_RP.cu (as := [.ref 96, .float 117]) (rest2 := []) (st3 := [.int 1]) rfl rfl (sx_inv_v2 (mi := 99) (k := 52) (st := [.float 117, .ref 96]) (w := w) rfl rfl hI.1.o96 rfl rfl rfl) rfl rfl (x101t (k := (117 : UInt32)) (m := 4) hI hC hT hp (by decide) rfl (by decide) c5) rfl ?_
              refine sx_RP.step (pc2 := 18) (ls2 := [(1, .int 4), (0, .ref 96)]) (st2 := []) (w3 := w) rfl rfl ?_
              refine sx_RP.step (pc2 := 19) (ls2 := [(1, .int 4), (0, .ref 96)]) (st2 := [.int 4]) (w3 := w) rfl rfl ?_
              refine sx_RP.ret (r := (some (.int 4))) rfl rfl ?_
              exact ⟨by unfold gwT; rw [if_neg (by rw [c1]; decide), if_neg (by rw [c2]; decide), if_neg (by rw [c3]; decide), if_neg (by rw [c4]; decide), if_pos c5], rfl⟩
            · refine sx_RP.cu (as := [.ref 96, .float 117]) (rest2 := []) (st3 := [.int 0]) rfl rfl (sx_inv_v2 (mi := 99) (k := 52) (st := [.float 117, .ref 96]) (w := w) rfl rfl hI.1.o96 rfl rfl rfl) rfl rfl (x101f (k := (117 : UInt32)) (m := 4) hI hC hT hp (by decide) rfl (by decide) c5) rfl ?_
              refine sx_RP.step (pc2 := 20) (ls2 := [(1, .int 4), (0, .ref 96)]) (st2 := []) (w3 := w) rfl rfl ?_
              refine sx_RP.step (pc2 := 23) (ls2 := [(1, .int 5), (0, .ref 96)]) (st2 := []) (w3 := w) rfl rfl ?_
              refine sx_RP.step (pc2 := 2) (ls2 := [(1, .int 5), (0, .ref 96)]) (st2 := []) (w3 := w) rfl rfl ?_
              refine sx_RP.step (pc2 := 3) (ls2 := [(1, .int 5), (0, .ref 96)]) (st2 := [.int 5]) (w3 := w) rfl rfl ?_
              refine sx_RP.step (pc2 := 4) (ls2 := [(1, .int 5), (0, .ref 96)]) (st2 := [.int 5, .int 5]) (w3 := w) rfl rfl ?_
              refine sx_RP.step (pc2 := 26) (ls2 := [(1, .int 5), (0, .ref 96)]) (st2 := []) (w3 := w) rfl rfl ?_
              refine sx_RP.step (pc2 := 27) (ls2 := [(1, .int 5), (0, .ref 96)]) (st2 := [.int (-1)]) (w3 := w) rfl rfl ?_
              refine sx_RP.ret (r := (some (.int (-1)))) rfl rfl ?_
              exact ⟨by unfold gwT; rw [if_neg (by rw [c1]; decide), if_neg (by rw [c2]; decide), if_neg (by rw [c3]; decide), if_neg (by rw [c4]; decide), if_neg (by rw [c5]; decide)], rfl⟩
  obtain ⟨r9, w2, h1, rfl, rfl⟩ := h
  exact h1
set_option maxRecDepth 20000 in
set_option maxHeartbeats 4000000 in
theorem x105 {xs : Option (List Int32)} {d : Nat} {w : List sx_C} (hI : WI w) {n p : Nat} {X : Nat → Nat} (hC : CT n X w) (hT : TK' n X p w) (hp : p ≤ n) : sx_RU xs (d + 1) 105 0 (lv_args 0 [.ref 96]) [] w (some (.int (kwT n X p))) w := by
  have h : sx_RP xs (d + 1) 105 0 (lv_args 0 [.ref 96]) [] w (fun r9 w2 => r9 = some (.int (kwT n X p)) ∧ w2 = w) := by
    refine sx_RP.step (pc2 := 1) (ls2 := [(0, .ref 96)]) (st2 := [.int 0]) (w3 := w) rfl rfl ?_
    refine sx_RP.step (pc2 := 2) (ls2 := [(1, .int 0), (0, .ref 96)]) (st2 := []) (w3 := w) rfl rfl ?_
    refine sx_RP.step (pc2 := 3) (ls2 := [(1, .int 0), (0, .ref 96)]) (st2 := [.int 0]) (w3 := w) rfl rfl ?_
    refine sx_RP.step (pc2 := 5) (ls2 := [(1, .int 0), (0, .ref 96)]) (st2 := [.int 6, .int 0]) (w3 := w) rfl rfl ?_
    refine sx_RP.step (pc2 := 8) (ls2 := [(1, .int 0), (0, .ref 96)]) (st2 := []) (w3 := w) rfl rfl ?_
    refine sx_RP.step (pc2 := 9) (ls2 := [(1, .int 0), (0, .ref 96)]) (st2 := [.ref 96]) (w3 := w) rfl rfl ?_
    refine sx_RP.step (pc2 := 10) (ls2 := [(1, .int 0), (0, .ref 96)]) (st2 := [.int 0, .ref 96]) (w3 := w) rfl rfl ?_
    refine sx_RP.cu (as := [.int 0]) (rest2 := [.ref 96]) (st3 := [.float 106, .ref 96]) rfl rfl rfl rfl rfl (p106_0) rfl ?_
    rcases Bool.eq_false_or_eq_true (wdT n X p (106 : UInt32)) with c1 | c1
    · refine sx_RP.cu (as := [.ref 96, .float 106]) (rest2 := []) (st3 := [.int 1]) rfl rfl (sx_inv_v2 (mi := 105) (k := 52) (st := [.float 106, .ref 96]) (w := w) rfl rfl hI.1.o96 rfl rfl rfl) rfl rfl (x101t (k := (106 : UInt32)) (m := 7) hI hC hT hp (by decide) rfl (by decide) c1) rfl ?_
      refine sx_RP.step (pc2 := 19) (ls2 := [(1, .int 0), (0, .ref 96)]) (st2 := []) (w3 := w) rfl rfl ?_
      refine sx_RP.step (pc2 := 20) (ls2 := [(1, .int 0), (0, .ref 96)]) (st2 := [.int 0]) (w3 := w) rfl rfl ?_
      refine sx_RP.ret (r := (some (.int 0))) rfl rfl ?_
      exact ⟨by unfold kwT; rw [if_pos c1], rfl⟩
    · refine sx_RP.cu (as := [.ref 96, .float 106]) (rest2 := []) (st3 := [.int 0]) rfl rfl (sx_inv_v2 (mi := 105) (k := 52) (st := [.float 106, .ref 96]) (w := w) rfl rfl hI.1.o96 rfl rfl rfl) rfl rfl (x101f (k := (106 : UInt32)) (m := 7) hI hC hT hp (by decide) rfl (by decide) c1) rfl ?_
      refine sx_RP.step (pc2 := 21) (ls2 := [(1, .int 0), (0, .ref 96)]) (st2 := []) (w3 := w) rfl rfl ?_
      refine sx_RP.step (pc2 := 24) (ls2 := [(1, .int 1), (0, .ref 96)]) (st2 := []) (w3 := w) rfl rfl ?_
      refine sx_RP.step (pc2 := 2) (ls2 := [(1, .int 1), (0, .ref 96)]) (st2 := []) (w3 := w) rfl rfl ?_
      refine sx_RP.step (pc2 := 3) (ls2 := [(1, .int 1), (0, .ref 96)]) (st2 := [.int 1]) (w3 := w) rfl rfl ?_
      refine sx_RP.step (pc2 := 5) (ls2 := [(1, .int 1), (0, .ref 96)]) (st2 := [.int 6, .int 1]) (w3 := w) rfl rfl ?_
      refine sx_RP.step (pc2 := 8) (ls2 := [(1, .int 1), (0, .ref 96)]) (st2 := []) (w3 := w) rfl rfl ?_
      refine sx_RP.step (pc2 := 9) (ls2 := [(1, .int 1), (0, .ref 96)]) (st2 := [.ref 96]) (w3 := w) rfl rfl ?_
      refine sx_RP.step (pc2 := 10) (ls2 := [(1, .int 1), (0, .ref 96)]) (st2 := [.int 1, .ref 96]) (w3 := w) rfl rfl ?_
      refine sx_RP.cu (as := [.int 1]) (rest2 := [.ref 96]) (st3 := [.float 110, .ref 96]) rfl rfl rfl rfl rfl (p106_1) rfl ?_
      rcases Bool.eq_false_or_eq_true (wdT n X p (110 : UInt32)) with c2 | c2
      · refine sx_RP.cu (as := [.ref 96, .float 110]) (rest2 := []) (st3 := [.int 1]) rfl rfl (sx_inv_v2 (mi := 105) (k := 52) (st := [.float 110, .ref 96]) (w := w) rfl rfl hI.1.o96 rfl rfl rfl) rfl rfl (x101t (k := (110 : UInt32)) (m := 7) hI hC hT hp (by decide) rfl (by decide) c2) rfl ?_
        refine sx_RP.step (pc2 := 19) (ls2 := [(1, .int 1), (0, .ref 96)]) (st2 := []) (w3 := w) rfl rfl ?_
        refine sx_RP.step (pc2 := 20) (ls2 := [(1, .int 1), (0, .ref 96)]) (st2 := [.int 1]) (w3 := w) rfl rfl ?_
        refine sx_RP.ret (r := (some (.int 1))) rfl rfl ?_
        exact ⟨by unfold kwT; rw [if_neg (by rw [c1]; decide), if_pos c2], rfl⟩
      · refine sx_RP.cu (as := [.ref 96, .float 110]) (rest2 := []) (st3 := [.int 0]) rfl rfl (sx_inv_v2 (mi := 105) (k := 52) (st := [.float 110, .ref 96]) (w := w) rfl rfl hI.1.o96 rfl rfl rfl) rfl rfl (x101f (k := (110 : UInt32)) (m := 7) hI hC hT hp (by decide) rfl (by decide) c2) rfl ?_
        refine sx_RP.step (pc2 := 21) (ls2 := [(1, .int 1), (0, .ref 96)]) (st2 := []) (w3 := w) rfl rfl ?_
        refine sx_RP.step (pc2 := 24) (ls2 := [(1, .int 2), (0, .ref 96)]) (st2 := []) (w3 := w) rfl rfl ?_
        refine sx_RP.step (pc2 := 2) (ls2 := [(1, .int 2), (0, .ref 96)]) (st2 := []) (w3 := w) rfl rfl ?_
        refine sx_RP.step (pc2 := 3) (ls2 := [(1, .int 2), (0, .ref 96)]) (st2 := [.int 2]) (w3 := w) rfl rfl ?_
        refine sx_RP.step (pc2 := 5) (ls2 := [(1, .int 2), (0, .ref 96)]) (st2 := [.int 6, .int 2]) (w3 := w) rfl rfl ?_
        refine sx_RP.step (pc2 := 8) (ls2 := [(1, .int 2), (0, .ref 96)]) (st2 := []) (w3 := w) rfl rfl ?_
        refine sx_RP.step (pc2 := 9) (ls2 := [(1, .int 2), (0, .ref 96)]) (st2 := [.ref 96]) (w3 := w) rfl rfl ?_
        refine sx_RP.step (pc2 := 10) (ls2 := [(1, .int 2), (0, .ref 96)]) (st2 := [.int 2, .ref 96]) (w3 := w) rfl rfl ?_
        refine sx_RP.cu (as := [.int 2]) (rest2 := [.ref 96]) (st3 := [.float 114, .ref 96]) rfl rfl rfl rfl rfl (p106_2) rfl ?_
        rcases Bool.eq_false_or_eq_true (wdT n X p (114 : UInt32)) with c3 | c3
        · refine sx_RP.cu (as := [.ref 96, .float 114]) (rest2 := []) (st3 := [.int 1]) rfl rfl (sx_inv_v2 (mi := 105) (k := 52) (st := [.float 114, .ref 96]) (w := w) rfl rfl hI.1.o96 rfl rfl rfl) rfl rfl (x101t (k := (114 : UInt32)) (m := 3) hI hC hT hp (by decide) rfl (by decide) c3) rfl ?_
          refine sx_RP.step (pc2 := 19) (ls2 := [(1, .int 2), (0, .ref 96)]) (st2 := []) (w3 := w) rfl rfl ?_
          refine sx_RP.step (pc2 := 20) (ls2 := [(1, .int 2), (0, .ref 96)]) (st2 := [.int 2]) (w3 := w) rfl rfl ?_
          refine sx_RP.ret (r := (some (.int 2))) rfl rfl ?_
          exact ⟨by unfold kwT; rw [if_neg (by rw [c1]; decide), if_neg (by rw [c2]; decide), if_pos c3], rfl⟩
        · refine sx_RP.cu (as := [.ref 96, .float 114]) (rest2 := []) (st3 := [.int 0]) rfl rfl (sx_inv_v2 (mi := 105) (k := 52) (st := [.float 114, .ref 96]) (w := w) rfl rfl hI.1.o96 rfl rfl rfl) rfl rfl (x101f (k := (114 : UInt32)) (m := 3) hI hC hT hp (by decide) rfl (by decide) c3) rfl ?_
          refine sx_RP.step (pc2 := 21) (ls2 := [(1, .int 2), (0, .ref 96)]) (st2 := []) (w3 := w) rfl rfl ?_
          refine sx_RP.step (pc2 := 24) (ls2 := [(1, .int 3), (0, .ref 96)]) (st2 := []) (w3 := w) rfl rfl ?_
          refine sx_RP.step (pc2 := 2) (ls2 := [(1, .int 3), (0, .ref 96)]) (st2 := []) (w3 := w) rfl rfl ?_
          refine sx_RP.step (pc2 := 3) (ls2 := [(1, .int 3), (0, .ref 96)]) (st2 := [.int 3]) (w3 := w) rfl rfl ?_
          refine sx_RP.step (pc2 := 5) (ls2 := [(1, .int 3), (0, .ref 96)]) (st2 := [.int 6, .int 3]) (w3 := w) rfl rfl ?_
          refine sx_RP.step (pc2 := 8) (ls2 := [(1, .int 3), (0, .ref 96)]) (st2 := []) (w3 := w) rfl rfl ?_
          refine sx_RP.step (pc2 := 9) (ls2 := [(1, .int 3), (0, .ref 96)]) (st2 := [.ref 96]) (w3 := w) rfl rfl ?_
          refine sx_RP.step (pc2 := 10) (ls2 := [(1, .int 3), (0, .ref 96)]) (st2 := [.int 3, .ref 96]) (w3 := w) rfl rfl ?_
          refine sx_RP.cu (as := [.int 3]) (rest2 := [.ref 96]) (st3 := [.float 107, .ref 96]) rfl rfl rfl rfl rfl (p106_3) rfl ?_
          rcases Bool.eq_false_or_eq_true (wdT n X p (107 : UInt32)) with c4 | c4
          · refine sx_RP.cu (as := [.ref 96, .float 107]) (rest2 := []) (st3 := [.int 1]) rfl rfl (sx_inv_v2 (mi := 105) (k := 52) (st := [.float 107, .ref 96]) (w := w) rfl rfl hI.1.o96 rfl rfl rfl) rfl rfl (x101t (k := (107 : UInt32)) (m := 4) hI hC hT hp (by decide) rfl (by decide) c4) rfl ?_
            refine sx_RP.step (pc2 := 19) (ls2 := [(1, .int 3), (0, .ref 96)]) (st2 := []) (w3 := w) rfl rfl ?_
            refine sx_RP.step (pc2 := 20) (ls2 := [(1, .int 3), (0, .ref 96)]) (st2 := [.int 3]) (w3 := w) rfl rfl ?_
            refine sx_RP.ret (r := (some (.int 3))) rfl rfl ?_
            exact ⟨by unfold kwT; rw [if_neg (by rw [c1]; decide), if_neg (by rw [c2]; decide), if_neg (by rw [c3]; decide), if_pos c4], rfl⟩
          · refine sx_RP.cu (as := [.ref 96, .float 107]) (rest2 := []) (st3 := [.int 0]) rfl rfl (sx_inv_v2 (mi := 105) (k := 52) (st := [.float 107, .ref 96]) (w := w) rfl rfl hI.1.o96 rfl rfl rfl) rfl rfl (x101f (k := (107 : UInt32)) (m := 4) hI hC hT hp (by decide) rfl (by decide) c4) rfl ?_
            refine sx_RP.step (pc2 := 21) (ls2 := [(1, .int 3), (0, .ref 96)]) (st2 := []) (w3 := w) rfl rfl ?_
            refine sx_RP.step (pc2 := 24) (ls2 := [(1, .int 4), (0, .ref 96)]) (st2 := []) (w3 := w) rfl rfl ?_
            refine sx_RP.step (pc2 := 2) (ls2 := [(1, .int 4), (0, .ref 96)]) (st2 := []) (w3 := w) rfl rfl ?_
            refine sx_RP.step (pc2 := 3) (ls2 := [(1, .int 4), (0, .ref 96)]) (st2 := [.int 4]) (w3 := w) rfl rfl ?_
            refine sx_RP.step (pc2 := 5) (ls2 := [(1, .int 4), (0, .ref 96)]) (st2 := [.int 6, .int 4]) (w3 := w) rfl rfl ?_
            refine sx_RP.step (pc2 := 8) (ls2 := [(1, .int 4), (0, .ref 96)]) (st2 := []) (w3 := w) rfl rfl ?_
            refine sx_RP.step (pc2 := 9) (ls2 := [(1, .int 4), (0, .ref 96)]) (st2 := [.ref 96]) (w3 := w) rfl rfl ?_
            refine sx_RP.step (pc2 := 10) (ls2 := [(1, .int 4), (0, .ref 96)]) (st2 := [.int 4, .ref 96]) (w3 := w) rfl rfl ?_
            refine sx_RP.cu (as := [.int 4]) (rest2 := [.ref 96]) (st3 := [.float 105, .ref 96]) rfl rfl rfl rfl rfl (p106_4) rfl ?_
            rcases Bool.eq_false_or_eq_true (wdT n X p (105 : UInt32)) with c5 | c5
            · refine sx_RP.cu (as := [.ref 96, .float 105]) (rest2 := []) (st3 := [.int 1]) rfl rfl (sx_inv_v2 (mi := 105) (k := 52) (st := [.float 105, .ref 96]) (w := w) rfl rfl hI.1.o96 rfl rfl rfl) rfl rfl (x101t (k := (105 : UInt32)) (m := 5) hI hC hT hp (by decide) rfl (by decide) c5) rfl ?_
              refine sx_RP.step (pc2 := 19) (ls2 := [(1, .int 4), (0, .ref 96)]) (st2 := []) (w3 := w) rfl rfl ?_
              refine sx_RP.step (pc2 := 20) (ls2 := [(1, .int 4), (0, .ref 96)]) (st2 := [.int 4]) (w3 := w) rfl rfl ?_
              refine sx_RP.ret (r := (some (.int 4))) rfl rfl ?_
              exact ⟨by unfold kwT; rw [if_neg (by rw [c1]; decide), if_neg (by rw [c2]; decide), if_neg (by rw [c3]; decide), if_neg (by rw [c4]; decide), if_pos c5], rfl⟩
            · refine sx_RP.cu (as := [.ref 96, .float 105]) (rest2 := []) (st3 := [.int 0]) rfl rfl (sx_inv_v2 (mi := 105) (k := 52) (st := [.float 105, .ref 96]) (w := w) rfl rfl hI.1.o96 rfl rfl rfl) rfl rfl (x101f (k := (105 : UInt32)) (m := 5) hI hC hT hp (by decide) rfl (by decide) c5) rfl ?_
              refine sx_RP.step (pc2 := 21) (ls2 := [(1, .int 4), (0, .ref 96)]) (st2 := []) (w3 := w) rfl rfl ?_
              refine sx_RP.step (pc2 := 24) (ls2 := [(1, .int 5), (0, .ref 96)]) (st2 := []) (w3 := w) rfl rfl ?_
              refine sx_RP.step (pc2 := 2) (ls2 := [(1, .int 5), (0, .ref 96)]) (st2 := []) (w3 := w) rfl rfl ?_
              refine sx_RP.step (pc2 := 3) (ls2 := [(1, .int 5), (0, .ref 96)]) (st2 := [.int 5]) (w3 := w) rfl rfl ?_
              refine sx_RP.step (pc2 := 5) (ls2 := [(1, .int 5), (0, .ref 96)]) (st2 := [.int 6, .int 5]) (w3 := w) rfl rfl ?_
              refine sx_RP.step (pc2 := 8) (ls2 := [(1, .int 5), (0, .ref 96)]) (st2 := []) (w3 := w) rfl rfl ?_
              refine sx_RP.step (pc2 := 9) (ls2 := [(1, .int 5), (0, .ref 96)]) (st2 := [.ref 96]) (w3 := w) rfl rfl ?_
              refine sx_RP.step (pc2 := 10) (ls2 := [(1, .int 5), (0, .ref 96)]) (st2 := [.int 5, .ref 96]) (w3 := w) rfl rfl ?_
              refine sx_RP.cu (as := [.int 5]) (rest2 := [.ref 96]) (st3 := [.float 103, .ref 96]) rfl rfl rfl rfl rfl (p106_5) rfl ?_
              rcases Bool.eq_false_or_eq_true (wdT n X p (103 : UInt32)) with c6 | c6
              · refine sx_RP.cu (as := [.ref 96, .float 103]) (rest2 := []) (st3 := [.int 1]) rfl rfl (sx_inv_v2 (mi := 105) (k := 52) (st := [.float 103, .ref 96]) (w := w) rfl rfl hI.1.o96 rfl rfl rfl) rfl rfl (x101t (k := (103 : UInt32)) (m := 4) hI hC hT hp (by decide) rfl (by decide) c6) rfl ?_
                refine sx_RP.step (pc2 := 19) (ls2 := [(1, .int 5), (0, .ref 96)]) (st2 := []) (w3 := w) rfl rfl ?_
                refine sx_RP.step (pc2 := 20) (ls2 := [(1, .int 5), (0, .ref 96)]) (st2 := [.int 5]) (w3 := w) rfl rfl ?_
                refine sx_RP.ret (r := (some (.int 5))) rfl rfl ?_
                exact ⟨by unfold kwT; rw [if_neg (by rw [c1]; decide), if_neg (by rw [c2]; decide), if_neg (by rw [c3]; decide), if_neg (by rw [c4]; decide), if_neg (by rw [c5]; decide), if_pos c6], rfl⟩
              · refine sx_RP.cu (as := [.ref 96, .float 103]) (rest2 := []) (st3 := [.int 0]) rfl rfl (sx_inv_v2 (mi := 105) (k := 52) (st := [.float 103, .ref 96]) (w := w) rfl rfl hI.1.o96 rfl rfl rfl) rfl rfl (x101f (k := (103 : UInt32)) (m := 4) hI hC hT hp (by decide) rfl (by decide) c6) rfl ?_
                refine sx_RP.step (pc2 := 21) (ls2 := [(1, .int 5), (0, .ref 96)]) (st2 := []) (w3 := w) rfl rfl ?_
                refine sx_RP.step (pc2 := 24) (ls2 := [(1, .int 6), (0, .ref 96)]) (st2 := []) (w3 := w) rfl rfl ?_
                refine sx_RP.step (pc2 := 2) (ls2 := [(1, .int 6), (0, .ref 96)]) (st2 := []) (w3 := w) rfl rfl ?_
                refine sx_RP.step (pc2 := 3) (ls2 := [(1, .int 6), (0, .ref 96)]) (st2 := [.int 6]) (w3 := w) rfl rfl ?_
                refine sx_RP.step (pc2 := 5) (ls2 := [(1, .int 6), (0, .ref 96)]) (st2 := [.int 6, .int 6]) (w3 := w) rfl rfl ?_
                refine sx_RP.step (pc2 := 27) (ls2 := [(1, .int 6), (0, .ref 96)]) (st2 := []) (w3 := w) rfl rfl ?_
                refine sx_RP.step (pc2 := 28) (ls2 := [(1, .int 6), (0, .ref 96)]) (st2 := [.int (-1)]) (w3 := w) rfl rfl ?_
                refine sx_RP.ret (r := (some (.int (-1)))) rfl rfl ?_
                exact ⟨by unfold kwT; rw [if_neg (by rw [c1]; decide), if_neg (by rw [c2]; decide), if_neg (by rw [c3]; decide), if_neg (by rw [c4]; decide), if_neg (by rw [c5]; decide), if_neg (by rw [c6]; decide)], rfl⟩
  obtain ⟨r9, w2, h1, rfl, rfl⟩ := h
  exact h1
end
-- 89j.siege.lean.txt
section
def EG (w w2 : List sx_C) : Prop := Out 29 w w2 ∧ campB w2 29 = campB w 29
theorem EG.rf {w : List sx_C} : EG w w := ⟨Out.rf, rfl⟩
theorem EG.tr {w w1 w2 : List sx_C} (h : EG w w1) (h2 : EG w1 w2) : EG w w2 := ⟨fun a ha => (h2.1 a ha).trans (h.1 a ha), h2.2.trans h.2⟩
section SXEG
variable {xs : Option (List Int32)} {d mi pc pc2 a idx p : Nat} {ls : sx_L} {r : List Value} {w w0 : List sx_C} {P : Option Value → List sx_C → Prop}
end SXEG
end
-- 89k.siege.lean.txt
section
theorem b01_r98 (b : Bool) : sx_ret 98 .ireturn [.int (b01 b)] = some (some (.int (b01 b))) := by cases b <;> rfl
theorem gw_rng (n : Nat) (X : Nat → Nat) (p : Nat) : gwT n X p = -1 ∨ ∃ u, u ≤ 4 ∧ gwT n X p = nI u := by
  unfold gwT
  repeat' split
  all_goals first | exact Or.inl rfl | exact Or.inr ⟨0, by decide, rfl⟩ | exact Or.inr ⟨1, by decide, rfl⟩ | exact Or.inr ⟨2, by decide, rfl⟩ | exact Or.inr ⟨3, by decide, rfl⟩ | exact Or.inr ⟨4, by decide, rfl⟩
theorem kw_rng (n : Nat) (X : Nat → Nat) (p : Nat) : kwT n X p = -1 ∨ ∃ u, u ≤ 5 ∧ kwT n X p = nI u := by
  unfold kwT
  repeat' split
  all_goals first | exact Or.inl rfl | exact Or.inr ⟨0, by decide, rfl⟩ | exact Or.inr ⟨1, by decide, rfl⟩ | exact Or.inr ⟨2, by decide, rfl⟩ | exact Or.inr ⟨3, by decide, rfl⟩ | exact Or.inr ⟨4, by decide, rfl⟩ | exact Or.inr ⟨5, by decide, rfl⟩
theorem nI_nm1 {u : Nat} (h : u ≤ 5) : ¬ nI u = -1 := nI_ne1 (by omega)
theorem x99e {xs : Option (List Int32)} {d n p : Nat} {X : Nat → Nat} {w : List sx_C} {v : Int32} (hI : WI w) (hC : CT n X w) (hT : TK' n X p w) (hp : p ≤ n) (h : gwT n X p = v) : sx_RU xs (d + 1) 99 0 (lv_args 0 [.ref 96]) [] w (some (.int v)) w := by
  have c := x99 (xs := xs) (d := d) hI hC hT hp
  rw [h] at c
  exact c
theorem x105e {xs : Option (List Int32)} {d n p : Nat} {X : Nat → Nat} {w : List sx_C} {v : Int32} (hI : WI w) (hC : CT n X w) (hT : TK' n X p w) (hp : p ≤ n) (h : kwT n X p = v) : sx_RU xs (d + 1) 105 0 (lv_args 0 [.ref 96]) [] w (some (.int v)) w := by
  have c := x105 (xs := xs) (d := d) hI hC hT hp
  rw [h] at c
  exact c
end
-- 89l.siege.lean.txt
section
theorem neg_p {p : Nat} (h : p ≤ 120) : ¬ (0 : Int32) ≤ -1 - nI p := by
  intro z
  rw [Int32.le_iff_toInt_le, Int32.toInt_sub, nI_toInt (by omega), show (0 : Int32).toInt = 0 by decide, show (-1 : Int32).toInt = -1 by decide, Int.bmod_def] at z
  split at z <;> omega
end
