-- blow: what powder reaches, and what it leaves
theorem gd_el {a : List Int32} {i : Nat} (h : i < a.length) : a.getD i 0 = a[i] := by
  rw [List.getD_eq_getElem?_getD, List.getElem?_eq_getElem h]
  rfl
theorem gd_mr {f : Nat → Int32} {k : Nat} (hk : k < 172) : ((List.range 172).map f).getD k 0 = f k := by
  rw [gd_el (by rw [List.length_map, List.length_range]; exact hk), List.getElem_map, List.getElem_range]
def rcB (l : List Int32) (c p i : Nat) : Bool := decide ((if l.getD (7 + i) 0 = 2 then (4 : Int32) else 0) < nI p - 3 * apF c i)
theorem rcB_congr {l m : List Int32} {c p i : Nat} (h : m.getD (7 + i) 0 = l.getD (7 + i) 0) : rcB m c p i = rcB l c p i := by
  unfold rcB
  rw [h]
def ctP (f : Nat → Bool) : Nat → Int32
  | 0 => 0
  | n + 1 => ctP f n + (if f n = true then 1 else 0)
theorem ctP_congr {f g : Nat → Bool} : ∀ (n : Nat), (∀ i, i < n → f i = g i) → ctP f n = ctP g n
  | 0, _ => rfl
  | n + 1, h => by
    show ctP f n + _ = ctP g n + _
    rw [ctP_congr n (fun i hi => h i (by omega)), h n (by omega)]
theorem ctP_one {f g : Nat → Bool} {j : Nat} (h0 : f j = false) (h : ∀ i, i ≠ j → g i = f i) : ∀ (n : Nat), j < n → ctP g n = ctP f n + (if g j = true then 1 else 0)
  | 0, hn => absurd hn (by omega)
  | n + 1, hn => by
    show ctP g n + _ = ctP f n + _ + _
    by_cases e : j = n
    · subst e
      rw [ctP_congr j (fun i hi => h i (by omega)), h0, if_neg (show ¬ false = true by decide), Int32.add_zero]
    · rw [ctP_one h0 h n (by omega), h n (Ne.symm e), Int32.add_assoc, Int32.add_assoc, Int32.add_comm (if g j = true then 1 else 0)]
def hdN (l : List Int32) (i : Nat) : Nat := iN (l.getD (103 + 6 * i + 2) 0)
def blG (l : List Int32) (B X Y Z : Nat → Bool) (k : Nat) : Int32 :=
  if 7 ≤ k ∧ k < 55 then (if (X (k - 7) && B (k - 7)) = true ∧ l.getD k 0 = 2 then 0 else l.getD k 0)
  else (if 55 ≤ k ∧ k < 103 then (if (Y (k - 55) && B (k - 55)) = true then 0 else l.getD k 0)
  else (if ((103 ≤ k ∧ k < 163) ∧ (k - 103) % 6 = 5) ∧ (k - 103) / 6 < iN (l.getD 1 0) ∧ (Z ((k - 103) / 6) && B (hdN l ((k - 103) / 6))) = true then 1 else l.getD k 0))
section SXBG
variable {l m : List Int32} {B X Y Z X2 Y2 Z2 : Nat → Bool} {i j k : Nat} {v : Int32}
theorem blG_st (hi : i < 48) : blG l B X Y Z (7 + i) = if (X i && B i) = true ∧ l.getD (7 + i) 0 = 2 then 0 else l.getD (7 + i) 0 := by
  unfold blG
  rw [if_pos (by omega), show 7 + i - 7 = i by omega]
theorem blG_wl (hi : i < 48) : blG l B X Y Z (55 + i) = if (Y i && B i) = true then 0 else l.getD (55 + i) 0 := by
  unfold blG
  rw [if_neg (by omega), if_pos (by omega), show 55 + i - 55 = i by omega]
theorem blG_ls (hi : i < 10) : blG l B X Y Z (103 + 6 * i + 5) = if i < iN (l.getD 1 0) ∧ (Z i && B (hdN l i)) = true then 1 else l.getD (103 + 6 * i + 5) 0 := by
  unfold blG
  rw [if_neg (by omega), if_neg (by omega), show (103 + 6 * i + 5 - 103) / 6 = i by omega]
  by_cases h : i < iN (l.getD 1 0) ∧ (Z i && B (hdN l i)) = true
  · rw [if_pos h, if_pos ⟨⟨⟨by omega, by omega⟩, by omega⟩, h⟩]
  · rw [if_neg h, if_neg (fun z => h z.2)]
theorem blG_o (h1 : ¬ (7 ≤ k ∧ k < 103)) (h2 : ¬ ((103 ≤ k ∧ k < 163) ∧ (k - 103) % 6 = 5)) : blG l B X Y Z k = l.getD k 0 := by
  unfold blG
  rw [if_neg (by omega), if_neg (by omega), if_neg (fun z => h2 z.1)]
theorem blG_ext (hX : ∀ i, i < 48 → 7 + i ≠ j → (X i && B i) = (X2 i && B i)) (hY : ∀ i, i < 48 → 55 + i ≠ j → (Y i && B i) = (Y2 i && B i)) (hZ : ∀ i, i < iN (l.getD 1 0) → 103 + 6 * i + 5 ≠ j → (Z i && B (hdN l i)) = (Z2 i && B (hdN l i))) (hk : k ≠ j) : blG l B X Y Z k = blG l B X2 Y2 Z2 k := by
  unfold blG
  by_cases h1 : 7 ≤ k ∧ k < 55
  · rw [if_pos h1, if_pos h1, hX (k - 7) (by omega) (by omega)]
  · rw [if_neg h1, if_neg h1]
    by_cases h2 : 55 ≤ k ∧ k < 103
    · rw [if_pos h2, if_pos h2, hY (k - 55) (by omega) (by omega)]
    · rw [if_neg h2, if_neg h2]
      by_cases h3 : ((103 ≤ k ∧ k < 163) ∧ (k - 103) % 6 = 5) ∧ (k - 103) / 6 < iN (l.getD 1 0)
      · have e := hZ ((k - 103) / 6) h3.2 (by omega)
        rw [e]
      · rw [if_neg (fun z => h3 ⟨z.1, z.2.1⟩), if_neg (fun z => h3 ⟨z.1, z.2.1⟩)]
def BG (l : List Int32) (B X Y Z : Nat → Bool) (m : List Int32) : Prop := m.length = 172 ∧ ∀ k, k < 172 → m.getD k 0 = blG l B X Y Z k
theorem BG.rf (hl : l.length = 172) (hX : ∀ i, X i = false) (hY : ∀ i, Y i = false) (hZ : ∀ i, Z i = false) : BG l B X Y Z l := by
  refine ⟨hl, fun k hk => ?_⟩
  unfold blG
  rw [hX, hY, hZ, Bool.false_and, Bool.false_and, Bool.false_and]
  split
  · rw [if_neg (fun z => absurd z.1 (by decide))]
  · split
    · rw [if_neg (by decide)]
    · rw [if_neg (fun z => absurd z.2.2 (by decide))]
theorem BG.cg (h : BG l B X Y Z m) (hX : ∀ i, i < 48 → (X2 i && B i) = (X i && B i)) (hY : ∀ i, i < 48 → (Y2 i && B i) = (Y i && B i)) (hZ : ∀ i, i < iN (l.getD 1 0) → (Z2 i && B (hdN l i)) = (Z i && B (hdN l i))) : BG l B X2 Y2 Z2 m := ⟨h.1, fun k hk => (h.2 k hk).trans (blG_ext (j := k + 1) (fun i hi _ => (hX i hi).symm) (fun i hi _ => (hY i hi).symm) (fun i hi _ => (hZ i hi).symm) (by omega))⟩
theorem BG.set (h : BG l B X Y Z m) (hj : j < 172) (hv : blG l B X2 Y2 Z2 j = v) (hX : ∀ i, i < 48 → 7 + i ≠ j → (X2 i && B i) = (X i && B i)) (hY : ∀ i, i < 48 → 55 + i ≠ j → (Y2 i && B i) = (Y i && B i)) (hZ : ∀ i, i < iN (l.getD 1 0) → 103 + 6 * i + 5 ≠ j → (Z2 i && B (hdN l i)) = (Z i && B (hdN l i))) : BG l B X2 Y2 Z2 (m.set j v) := by
  have hl := h.1
  refine ⟨by rw [List.length_set]; exact hl, fun k hk => ?_⟩
  rw [gd_set (by omega)]
  by_cases e : k = j
  · rw [if_pos e, e, hv]
  · rw [if_neg e, h.2 k hk]
    exact (blG_ext hX hY hZ e).symm
theorem gd_ext {a b : List Int32} (h : a.length = b.length) (hh : ∀ k, k < a.length → a.getD k 0 = b.getD k 0) : a = b := by
  refine List.ext_getElem h (fun i h1 h2 => ?_)
  have e := hh i h1
  rw [gd_el h1, gd_el h2] at e
  exact e
end SXBG
def allT (_ : Nat) : Bool := true
def blR (l : List Int32) (c p : Nat) : List Int32 := (List.range 172).map (blG l (rcB l c p) allT allT allT)
def blA (l : List Int32) (c p : Nat) : Int32 := ctP (fun i => rcB l c p (hdN l i) && (l.getD (103 + 6 * i + 5) 0 == 0)) (iN (l.getD 1 0))
theorem BG.fin {l m : List Int32} {c p : Nat} {X Y Z : Nat → Bool} (h : BG l (rcB l c p) X Y Z m) (hX : ∀ i, i < 48 → X i = true) (hY : ∀ i, i < 48 → Y i = true) (hZ : ∀ i, i < iN (l.getD 1 0) → Z i = true) : m = blR l c p := by
  have h2 : BG l (rcB l c p) allT allT allT m := h.cg (fun i hi => by rw [hX i hi]; rfl) (fun i hi => by rw [hY i hi]; rfl) (fun i hi => by rw [hZ i hi]; rfl)
  have hl := h2.1
  refine gd_ext (by unfold blR; rw [List.length_map, List.length_range]; exact hl) (fun k hk => ?_)
  rw [h2.2 k (by omega)]
  unfold blR
  rw [gd_mr (by omega)]
/-- so far (cells below j; of cell j the galleries below g) -/
def ltB (j i : Nat) : Bool := decide (i < j)
def znB (l : List Int32) (j g i : Nat) : Bool := decide (hdN l i < j ∨ (hdN l i = j ∧ i < g))
theorem ltB_ne {i j : Nat} (h : i ≠ j) : ltB (j + 1) i = ltB j i := by
  unfold ltB
  exact decide_eq_decide.mpr (by omega)
theorem ltB_y {i j : Nat} (h : i < j) : ltB j i = true := decide_eq_true h
theorem ltB_n {i j : Nat} (h : ¬ i < j) : ltB j i = false := decide_eq_false h
theorem ltB_B {B : Nat → Bool} {i j : Nat} (h : B j = false) : (ltB (j + 1) i && B i) = (ltB j i && B i) := by
  by_cases e : i = j
  · rw [e, h, Bool.and_false, Bool.and_false]
  · rw [ltB_ne e]
theorem znB_0 {l : List Int32} {j i : Nat} : znB l j 0 i = ltB j (hdN l i) := by
  unfold znB ltB
  exact decide_eq_decide.mpr (by omega)
theorem znB_n {l : List Int32} {j n i : Nat} (h : i < n) : znB l j n i = ltB (j + 1) (hdN l i) := by
  unfold znB ltB
  exact decide_eq_decide.mpr (by omega)
theorem znB_s {l : List Int32} {j g i : Nat} (h : i ≠ g) : znB l j (g + 1) i = znB l j g i := by
  unfold znB
  exact decide_eq_decide.mpr (by omega)
theorem znB_q {l : List Int32} {j g i : Nat} (h : hdN l g ≠ j) : znB l j (g + 1) i = znB l j g i := by
  by_cases e : i = g
  · subst e
    unfold znB
    exact decide_eq_decide.mpr (by omega)
  · exact znB_s e
theorem znB_y {l : List Int32} {j g : Nat} (h : hdN l g = j) : znB l j (g + 1) g = true := decide_eq_true (by omega)
theorem znB_f {l : List Int32} {j g : Nat} (h : hdN l g = j) : znB l j g g = false := decide_eq_false (by omega)
/-- all walls that are reached, at once -/
theorem rel.wAll {w w2 : List sx_C} {A : Nat} {l m : List Int32} {B : Nat → Bool} (h : rel w A l) (hm : BG l B (fun _ => false) allT (fun _ => false) m) (hs : Same A w w2) (hr : ∀ j, fi w2 A j = fi w A j) (hv : ∀ b, b < 64 → bitL (fj w2 A 1) b = (bitL (fj w A 1) b && !(decide (b < 48) && B b))) : rel w2 A m := by
  have hg : ∀ k, k < 172 → ¬ (55 ≤ k ∧ k < 103) → m.getD k 0 = l.getD k 0 := by
    intro k hk h1
    rw [hm.2 k hk]
    unfold blG
    rw [Bool.false_and, if_neg h1, Bool.false_and]
    split
    · rw [if_neg (fun z => absurd z.1 (by decide))]
    · rw [if_neg (fun z => absurd z.2.2 (by decide))]
  obtain ⟨h0, ⟨h1, h2, h3, h4, h5, h6, h7⟩, h8, h9, h10, h11⟩ := h
  have e1 := hg 1 (by omega) (by omega)
  have e2 := hg 2 (by omega) (by omega)
  refine ⟨hm.1, ⟨(hr 6).trans (h1.trans (hg 0 (by omega) (by omega)).symm), (hr 3).trans (h2.trans e1.symm), (hr 5).trans (h3.trans e2.symm), (hr 7).trans (h4.trans (hg 3 (by omega) (by omega)).symm), (hr 8).trans (h5.trans (hg 4 (by omega) (by omega)).symm), (hr 9).trans (h6.trans (hg 5 (by omega) (by omega)).symm), (hr 10).trans (h7.trans (hg 6 (by omega) (by omega)).symm)⟩, fun b hb => ?_, fun b hb => ?_, fun i hi k hk => ?_, fun d hd => ?_⟩
  · rw [ia_of (hs (A + 1) (by omega)), hg (7 + b) (by omega) (by omega)]
    exact h8 b hb
  · have e := h9 b hb
    unfold wbt at e ⊢
    rw [hv b hb]
    unfold wlr at e ⊢
    by_cases c : b < 48
    · rw [if_pos c] at e ⊢
      rw [hm.2 _ (by omega), blG_wl c, decide_eq_true c, Bool.true_and]
      show _ = if (true && B b) = true then 0 else _
      rw [Bool.true_and]
      cases hB : B b
      · rw [if_neg (by decide), Bool.not_false, Bool.and_true]
        exact e
      · rw [if_pos rfl, Bool.not_true, Bool.and_false]
        rfl
    · rw [if_neg c] at e ⊢
      rw [decide_eq_false c, Bool.false_and, Bool.not_false, Bool.and_true]
      exact e
  · rw [e1] at hi
    by_cases c : 103 + 6 * i + k < 172
    · exact (fi_same k (hs _ (by omega))).trans ((h10 i hi k hk).trans (hg _ c (by omega)).symm)
    · rw [show m.getD (103 + 6 * i + k) 0 = 0 by rw [List.getD_eq_getElem?_getD, List.getElem?_eq_none (by have := hm.1; omega)]; rfl]
      refine (fi_same k (hs _ (by omega))).trans ((h10 i hi k hk).trans ?_)
      rw [List.getD_eq_getElem?_getD, List.getElem?_eq_none (by omega)]
      rfl
  · rw [e2] at hd
    have ed := (congrArg (fun q => List.getD q d 0) (ia_of (hs (A + 3) (by omega)))).trans (h11 d hd)
    by_cases c : 163 + d < 172
    · exact ed.trans (hg _ c (by omega)).symm
    · refine ed.trans ?_
      rw [List.getD_eq_getElem?_getD, List.getElem?_eq_none (by omega), List.getD_eq_getElem?_getD, List.getElem?_eq_none (by have := hm.1; omega)]
/-- the row with the walls away -/
theorem BG.walls {l : List Int32} {B : Nat → Bool} (hl : l.length = 172) : BG l B (fun _ => false) allT (fun _ => false) ((List.range 172).map (blG l B (fun _ => false) allT (fun _ => false))) := by
  refine ⟨by rw [List.length_map, List.length_range], fun k hk => ?_⟩
  rw [gd_mr hk]
