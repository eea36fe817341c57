-- group B's state: kinds of galleries, dishes, bread; the image of these; the tape
abbrev BB : Type := List Int32 × List Int32 × Int32 × Int32 × Int32
def mkB (n : Nat) (f : Nat → Int32) (m : Nat) (g : Nat → Int32) (b0 b1 b2 : Int32) : BB := ((List.range n).map f, (List.range m).map g, b0, b1, b2)
def iN (v : Int32) : Nat := v.toInt.toNat
theorem iN_n {n : Nat} (h : n < 2 ^ 31) : iN (nI n) = n := by
  unfold iN
  rw [nI_toInt h]
  exact Int.toNat_natCast n
theorem map_congr {n : Nat} {f g : Nat → Int32} (h : ∀ i, i < n → f i = g i) : (List.range n).map f = (List.range n).map g := List.map_congr_left (fun i hi => h i (List.mem_range.mp hi))
theorem mkB_congr {n n2 m m2 : Nat} {f f2 g g2 : Nat → Int32} {a b c a2 b2 c2 : Int32} (h1 : n = n2) (h2 : ∀ i, i < n → f i = f2 i) (h3 : m = m2) (h4 : ∀ i, i < m → g i = g2 i) (h5 : a = a2) (h6 : b = b2) (h7 : c = c2) : mkB n f m g a b c = mkB n2 f2 m2 g2 a2 b2 c2 := by
  subst h1
  subst h3
  subst h5
  subst h6
  subst h7
  unfold mkB
  rw [map_congr h2, map_congr h4]
def campB (w : List sx_C) (A : Nat) : BB := mkB (iN (fi w A 3)) (fun g => fi w (A + 4 + g) 0) (iN (fi w A 5)) (fun d => (ia w (A + 3)).getD d 0) (fi w A 8) (fi w A 9) (fi w A 10)
def rowB (l : List Int32) : BB := mkB (iN (l.getD 1 0)) (fun g => l.getD (103 + 6 * g) 0) (iN (l.getD 2 0)) (fun d => l.getD (163 + d) 0) (l.getD 4 0) (l.getD 5 0) (l.getD 6 0)
def nilB : BB := mkB 0 (fun _ => 0) 0 (fun _ => 0) 0 0 0
/-- camp, whether an image is kept, the image, the tape -/
abbrev BT : Type := BB × Int32 × BB × List Int32
def tapC (w : List sx_C) : List Int32 := (List.range (iN (fi w 96 1))).map (fun i => (ia w 97).getD i 0 &&& 255)
def tapM (w : List sx_C) : List Int32 := (List.range (iN (fi w 111 11))).map (fun i => (ia w 121).getD i 0)
def FCb (w : List sx_C) : BT := (campB w 1, fi w 0 3, if fi w 0 3 = 1 then campB w 15 else nilB, tapC w)
def FMb (w : List sx_C) : BT := (rowB (ia w 112), fi w 111 4, if fi w 111 4 = 1 then rowB (ia w 113) else nilB, tapM w)
theorem campB_same {w w2 : List sx_C} {A : Nat} (h : ∀ a, A ≤ a → a < A + 14 → w2[a]? = w[a]?) (hn : iN (fi w A 3) ≤ 10) : campB w2 A = campB w A := by
  unfold campB
  rw [fi_same 3 (h A (by omega) (by omega)), fi_same 5 (h A (by omega) (by omega)), fi_same 8 (h A (by omega) (by omega)), fi_same 9 (h A (by omega) (by omega)), fi_same 10 (h A (by omega) (by omega)), ia_of (h (A + 3) (by omega) (by omega))]
  exact mkB_congr rfl (fun i hi => fi_same 0 (h _ (by omega) (by omega))) rfl (fun _ _ => rfl) rfl rfl rfl
theorem WI.many {w : List sx_C} (h : WI w) {A : Nat} (hA : isA A) : iN (fi w A 3) ≤ 10 := by
  obtain ⟨j, hj, e⟩ := (h.c hA).1
  rw [e, iN_n (by omega)]
  exact hj
theorem WI.dished {w : List sx_C} (h : WI w) {A : Nat} (hA : isA A) : iN (fi w A 5) ≤ 9 := by
  obtain ⟨j, hj, e⟩ := (h.c hA).2
  rw [e, iN_n (by omega)]
  exact hj
theorem WI.manyM {w : List sx_C} (h : WI w) {a : Nat} (ha : 112 ≤ a ∧ a ≤ 115) : iN ((ia w a).getD 1 0) ≤ 10 := by
  obtain ⟨j, hj, e⟩ := (h.sA ha 1 (by decide)).1 rfl
  rw [e, iN_n (by omega)]
  exact hj
theorem WI.dishedM {w : List sx_C} (h : WI w) {a : Nat} (ha : 112 ≤ a ∧ a ≤ 115) : iN ((ia w a).getD 2 0) ≤ 9 := by
  obtain ⟨j, hj, e⟩ := (h.sA ha 2 (by decide)).2.1 rfl
  rw [e, iN_n (by omega)]
  exact hj
theorem tapC_same {w w2 : List sx_C} (h1 : w2[96]? = w[96]?) (h2 : w2[97]? = w[97]?) : tapC w2 = tapC w := by
  unfold tapC
  rw [fi_same 1 h1, ia_of h2]
theorem tapM_same {w w2 : List sx_C} (h1 : w2[111]? = w[111]?) (h2 : w2[121]? = w[121]?) : tapM w2 = tapM w := by
  unfold tapM
  rw [fi_same 11 h1, ia_of h2]
theorem FCb_en {w w2 : List sx_C} (hI : WI w) (h : EN w w2) : FCb w2 = FCb w := by
  have e0 : w2[0]? = w[0]? := h.1 0 (by unfold nc; omega)
  have e1 : campB w2 1 = campB w 1 := by
    unfold campB
    rw [h.2.1 3 (by unfold nk; omega), h.2.1 5 (by unfold nk; omega), h.2.1 8 (by unfold nk; omega), h.2.1 9 (by unfold nk; omega), h.2.1 10 (by unfold nk; omega), ia_of (h.1 (1 + 3) (by unfold nc; omega))]
    have hm := hI.many (A := 1) (Or.inl rfl)
    exact mkB_congr rfl (fun i hi => by rw [show 1 + 4 + i = 5 + i by omega]; exact h.2.2 i (by omega)) rfl (fun _ _ => rfl) rfl rfl rfl
  unfold FCb
  rw [e1, fi_same 3 e0, campB_same (A := 15) (fun a h1 h2 => h.1 a (by unfold nc; omega)) (hI.many (Or.inr (Or.inl rfl))), tapC_same (h.1 96 (by unfold nc; omega)) (h.1 97 (by unfold nc; omega))]
theorem rowB_bk {l l2 : List Int32} (h : ∀ k, bk k → l2.getD k 0 = l.getD k 0) (hn : iN (l.getD 1 0) ≤ 10) : rowB l2 = rowB l := by
  unfold rowB
  rw [h 1 (by unfold bk; omega), h 2 (by unfold bk; omega), h 4 (by unfold bk; omega), h 5 (by unfold bk; omega), h 6 (by unfold bk; omega)]
  exact mkB_congr rfl (fun i hi => h _ (by unfold bk; omega)) rfl (fun i _ => h _ (by unfold bk; omega)) rfl rfl rfl
theorem FMb_el {w w2 : List sx_C} (hI : WI w) (h : EL w w2) : FMb w2 = FMb w := by
  have e1 : w2[111]? = w[111]? := h.1 111 (by unfold kc; omega) (by decide)
  have e3 : w2[113]? = w[113]? := h.1 113 (by unfold kc; omega) (by decide)
  unfold FMb
  rw [rowB_bk h.2 (hI.manyM (by decide)), fi_same 4 e1, ia_of e3, tapM_same e1 (h.1 121 (by unfold kc; omega) (by decide))]
theorem FCb_eq {w w2 : List sx_C} (hI : WI w) (h : ∀ a, a < 111 → w2[a]? = w[a]?) : FCb w2 = FCb w := by
  unfold FCb
  rw [campB_same (A := 1) (fun a _ h2 => h a (by omega)) (hI.many (Or.inl rfl)), campB_same (A := 15) (fun a _ h2 => h a (by omega)) (hI.many (Or.inr (Or.inl rfl))), fi_same 3 (h 0 (by decide)), tapC_same (h 96 (by decide)) (h 97 (by decide))]
theorem FMb_eq {w w2 : List sx_C} (h : ∀ a, 111 ≤ a → w2[a]? = w[a]?) : FMb w2 = FMb w := by
  unfold FMb
  rw [ia_of (h 112 (by decide)), ia_of (h 113 (by decide)), fi_same 4 (h 111 (by decide)), tapM_same (h 111 (by decide)) (h 121 (by decide))]
-- what the acts do to it
def addK (k : Int32) (b : BB) : BB := (b.1 ++ [k], b.2)
def setK (g : Nat) (k : Int32) (b : BB) : BB := (b.1.set g k, b.2)
def addD (c : Int32) (b : BB) : BB := (b.1, b.2.1 ++ [c], b.2.2)
def setD (d : Nat) (c : Int32) (b : BB) : BB := (b.1, b.2.1.set d c, b.2.2)
def setO (v : Int32) (b : BB) : BB := (b.1, b.2.1, v, b.2.2.2)
def setM (v : Int32) (b : BB) : BB := (b.1, b.2.1, b.2.2.1, v, b.2.2.2.2)
def setR (v : Int32) (b : BB) : BB := (b.1, b.2.1, b.2.2.1, b.2.2.2.1, v)
section SXBS
variable {n m : Nat} {f f2 g g2 : Nat → Int32} {a b c : Int32}
theorem mkB_len1 : (mkB n f m g a b c).1.length = n := by unfold mkB; rw [List.length_map, List.length_range]
theorem mkB_len2 : (mkB n f m g a b c).2.1.length = m := by unfold mkB; rw [List.length_map, List.length_range]
theorem map_at {i : Nat} (h : i < n) : ((List.range n).map f).getD i 0 = f i := by
  rw [List.getD_eq_getElem?_getD, List.getElem?_map, List.getElem?_range h]
  rfl
theorem mkB_at1 {i : Nat} (h : i < n) : (mkB n f m g a b c).1.getD i 0 = f i := map_at h
theorem mkB_at2 {i : Nat} (h : i < m) : (mkB n f m g a b c).2.1.getD i 0 = g i := map_at h
theorem map_add {k : Int32} (h1 : ∀ i, i < n → f2 i = f i) (h2 : f2 n = k) : (List.range (n + 1)).map f2 = (List.range n).map f ++ [k] := by
  rw [List.range_succ, List.map_append, map_congr h1, List.map_singleton, h2]
theorem map_set {j : Nat} {k : Int32} (h1 : ∀ i, i < n → i ≠ j → f2 i = f i) (h2 : j < n → f2 j = k) : (List.range n).map f2 = ((List.range n).map f).set j k := by
  apply List.ext_getElem?
  intro i
  rw [List.getElem?_set]
  by_cases hi : i < n
  · rw [List.getElem?_map, List.getElem?_range hi]
    by_cases e : j = i
    · subst e
      rw [if_pos rfl, if_pos (by rw [List.length_map, List.length_range]; exact hi)]
      exact congrArg some (h2 hi)
    · rw [if_neg e, List.getElem?_map, List.getElem?_range hi]
      exact congrArg some (h1 i hi (Ne.symm e))
  · rw [List.getElem?_eq_none (by rw [List.length_map, List.length_range]; omega)]
    split
    · rename_i e
      rw [if_neg (by rw [List.length_map, List.length_range]; omega)]
    · rw [List.getElem?_eq_none (by rw [List.length_map, List.length_range]; omega)]
theorem mkB_addK {k : Int32} (h1 : ∀ i, i < n → f2 i = f i) (h2 : f2 n = k) (h3 : ∀ i, i < m → g2 i = g i) : mkB (n + 1) f2 m g2 a b c = addK k (mkB n f m g a b c) := by
  unfold mkB addK
  rw [map_add h1 h2, map_congr h3]
theorem mkB_setK {j : Nat} {k : Int32} (h1 : ∀ i, i < n → i ≠ j → f2 i = f i) (h2 : j < n → f2 j = k) (h3 : ∀ i, i < m → g2 i = g i) : mkB n f2 m g2 a b c = setK j k (mkB n f m g a b c) := by
  unfold mkB setK
  rw [map_set h1 h2, map_congr h3]
theorem mkB_addD {k : Int32} (h3 : ∀ i, i < n → f2 i = f i) (h1 : ∀ i, i < m → g2 i = g i) (h2 : g2 m = k) : mkB n f2 (m + 1) g2 a b c = addD k (mkB n f m g a b c) := by
  unfold mkB addD
  rw [map_add h1 h2, map_congr h3]
theorem mkB_setD {j : Nat} {k : Int32} (h3 : ∀ i, i < n → f2 i = f i) (h1 : ∀ i, i < m → i ≠ j → g2 i = g i) (h2 : j < m → g2 j = k) : mkB n f2 m g2 a b c = setD j k (mkB n f m g a b c) := by
  unfold mkB setD
  rw [map_set h1 h2, map_congr h3]
end SXBS
