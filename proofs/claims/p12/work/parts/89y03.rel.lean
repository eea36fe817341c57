-- camp and row tell the same
theorem sh_amt : ∀ c : Fin 64, ((nI c.val).toInt64.toUInt64 &&& Int64.toUInt64 63).toBitVec % 64 = BitVec.ofNat 64 c.val := by decide +kernel
theorem sh_one : ∀ c : Fin 64, ((1 : Int64) <<< ((nI c.val).toInt64 &&& 63)).toBitVec = BitVec.twoPow 64 c.val := by decide +kernel
def bitL (v : Int64) (c : Nat) : Bool := v.toBitVec.getLsbD c
theorem bit_1 {v : Int64} {c : Nat} (hc : c < 64) : lg_cmp ((((v).toUInt64 >>> ((nI c).toInt64.toUInt64 &&& Int64.toUInt64 63)).toInt64) &&& 1) 1 = 0 ↔ bitL v c = true := by
  rw [lg_cmp_eq, ← Int64.toBitVec_inj]
  have e : ((((v).toUInt64 >>> ((nI c).toInt64.toUInt64 &&& Int64.toUInt64 63)).toInt64) &&& 1).toBitVec = BitVec.setWidth 64 (BitVec.ofBool (bitL v c)) := by
    show (v.toBitVec >>> (((nI c).toInt64.toUInt64 &&& Int64.toUInt64 63).toBitVec % 64)) &&& 1#64 = _
    rw [sh_amt ⟨c, hc⟩, BitVec.and_one_eq_setWidth_ofBool_getLsbD]
    congr 2
    show (v.toBitVec >>> (BitVec.ofNat 64 c).toNat).getLsbD 0 = _
    rw [BitVec.getLsbD_ushiftRight, BitVec.toNat_ofNat, Nat.mod_eq_of_lt (by omega)]
    rfl
  rw [e]
  cases bitL v c <;> decide
theorem bit_xor {v : Int64} {c j : Nat} (hc : c < 64) : bitL (v ^^^ ((1 : Int64) <<< ((nI c).toInt64 &&& 63))) j = (bitL v j ^^ decide (c = j)) := by
  unfold bitL
  rw [Int64.toBitVec_xor, BitVec.getLsbD_xor, sh_one ⟨c, hc⟩, BitVec.getLsbD_twoPow, decide_eq_true (show c < 64 from hc), Bool.true_and]
theorem bit_or {v : Int64} {c j : Nat} (hc : c < 64) : bitL (v ||| ((1 : Int64) <<< ((nI c).toInt64 &&& 63))) j = (bitL v j || decide (c = j)) := by
  unfold bitL
  rw [Int64.toBitVec_or, BitVec.getLsbD_or, sh_one ⟨c, hc⟩, BitVec.getLsbD_twoPow, decide_eq_true (show c < 64 from hc), Bool.true_and]
theorem bit_andn {v u : Int64} {j : Nat} (hj : j < 64) : bitL (v &&& (u ^^^ (-1))) j = (bitL v j && !(bitL u j)) := by
  unfold bitL
  rw [Int64.toBitVec_and, BitVec.getLsbD_and, Int64.toBitVec_xor, BitVec.getLsbD_xor, show ((-1 : Int64)).toBitVec = BitVec.allOnes 64 from rfl, BitVec.getLsbD_allOnes, decide_eq_true hj, Bool.xor_true]
theorem bit_0 {j : Nat} : bitL 0 j = false := by
  unfold bitL
  exact BitVec.getLsbD_zero
def wbt (v : Int64) (c : Nat) : Int32 := b01 (bitL v c)
def wlr (l : List Int32) (c : Nat) : Int32 := if c < 48 then l.getD (55 + c) 0 else 0
/-- a camp's cells against a row -/
def rel (w : List sx_C) (A : Nat) (l : List Int32) : Prop := l.length = 172 ∧ (fi w A 6 = l.getD 0 0 ∧ fi w A 3 = l.getD 1 0 ∧ fi w A 5 = l.getD 2 0 ∧ fi w A 7 = l.getD 3 0 ∧ fi w A 8 = l.getD 4 0 ∧ fi w A 9 = l.getD 5 0 ∧ fi w A 10 = l.getD 6 0) ∧ (∀ c, c < 48 → (ia w (A + 1)).getD c 0 = l.getD (7 + c) 0) ∧ (∀ c, c < 64 → wbt (fj w A 1) c = wlr l c) ∧ (∀ i, i < iN (l.getD 1 0) → ∀ k, k < 6 → fi w (A + 4 + i) k = l.getD (103 + 6 * i + k) 0) ∧ ∀ d, d < iN (l.getD 2 0) → (ia w (A + 3)).getD d 0 = l.getD (163 + d) 0
section SXRL
variable {w w2 : List sx_C} {A : Nat} {l : List Int32}
theorem rel.len (h : rel w A l) : l.length = 172 := h.1
theorem rel.night (h : rel w A l) : fi w A 6 = l.getD 0 0 := h.2.1.1
theorem rel.many (h : rel w A l) : fi w A 3 = l.getD 1 0 := h.2.1.2.1
theorem rel.dished (h : rel w A l) : fi w A 5 = l.getD 2 0 := h.2.1.2.2.1
theorem rel.met (h : rel w A l) : fi w A 7 = l.getD 3 0 := h.2.1.2.2.2.1
theorem rel.gr (h : rel w A l) {c : Nat} (hc : c < 48) : (ia w (A + 1)).getD c 0 = l.getD (7 + c) 0 := h.2.2.1 c hc
theorem rel.wl (h : rel w A l) {c : Nat} (hc : c < 64) : wbt (fj w A 1) c = wlr l c := h.2.2.2.1 c hc
theorem rel.ga (h : rel w A l) {i k : Nat} (hi : i < iN (l.getD 1 0)) (hk : k < 6) : fi w (A + 4 + i) k = l.getD (103 + 6 * i + k) 0 := h.2.2.2.2.1 i hi k hk
theorem rel.di (h : rel w A l) {d : Nat} (hd : d < iN (l.getD 2 0)) : (ia w (A + 3)).getD d 0 = l.getD (163 + d) 0 := h.2.2.2.2.2 d hd
theorem rel.w48 (h : rel w A l) {c : Nat} (hc : c < 48) : b01 (bitL (fj w A 1) c) = l.getD (55 + c) 0 := by
  have := h.wl (c := c) (by omega)
  unfold wlr at this
  rw [if_pos hc] at this
  exact this
theorem rel.n10 (h : rel w A l) (hI : WI w) (hA : isA A) : ∃ n, n ≤ 10 ∧ l.getD 1 0 = nI n := by
  obtain ⟨n, hn, e⟩ := (hI.c hA).1
  exact ⟨n, hn, h.many.symm.trans e⟩
theorem rel.m9 (h : rel w A l) (hI : WI w) (hA : isA A) : ∃ n, n ≤ 9 ∧ l.getD 2 0 = nI n := by
  obtain ⟨n, hn, e⟩ := (hI.c hA).2
  exact ⟨n, hn, h.dished.symm.trans e⟩
theorem rel.same (h : rel w A l) (hI : WI w) (hA : isA A) (hs : ∀ a, A ≤ a → a < A + 14 → w2[a]? = w[a]?) : rel w2 A l := by
  obtain ⟨n, hn, en⟩ := h.n10 hI hA
  obtain ⟨h0, ⟨h1, h2, h3, h4, h5, h6, h7⟩, h8, h9, h10, h11⟩ := h
  have ea := hs A (by omega) (by omega)
  refine ⟨h0, ⟨(fi_same 6 ea).trans h1, (fi_same 3 ea).trans h2, (fi_same 5 ea).trans h3, (fi_same 7 ea).trans h4, (fi_same 8 ea).trans h5, (fi_same 9 ea).trans h6, (fi_same 10 ea).trans h7⟩, fun c hc => ?_, fun c hc => ?_, fun i hi k hk => ?_, fun d hd => ?_⟩
  · rw [ia_of (hs (A + 1) (by omega) (by omega))]
    exact h8 c hc
  · rw [fj_same 1 ea]
    exact h9 c hc
  · have hi2 := hi
    rw [en, iN_n (by omega)] at hi2
    exact (fi_same k (hs _ (by omega) (by omega))).trans (h10 i hi k hk)
  · rw [ia_of (hs (A + 3) (by omega) (by omega))]
    exact h11 d hd
/-- a cell's stuff -/
theorem rel.sGr {c : Nat} {v : Int32} (h : rel w A l) (hI : WI w) (hA : isA A) (hc : c < 48) (hs : Same (A + 1) w w2) (hv : ia w2 (A + 1) = (ia w (A + 1)).set c v) : rel w2 A (l.set (7 + c) v) := by
  have hl := (hI.1.aS hA).2
  obtain ⟨h0, ⟨h1, h2, h3, h4, h5, h6, h7⟩, h8, h9, h10, h11⟩ := h
  have ea := hs A (by omega)
  refine ⟨by rw [List.length_set]; exact h0, ⟨(fi_same 6 ea).trans (h1.trans (gd_ne (by omega)).symm), (fi_same 3 ea).trans (h2.trans (gd_ne (by omega)).symm), (fi_same 5 ea).trans (h3.trans (gd_ne (by omega)).symm), (fi_same 7 ea).trans (h4.trans (gd_ne (by omega)).symm), (fi_same 8 ea).trans (h5.trans (gd_ne (by omega)).symm), (fi_same 9 ea).trans (h6.trans (gd_ne (by omega)).symm), (fi_same 10 ea).trans (h7.trans (gd_ne (by omega)).symm)⟩, fun b hb => ?_, fun b hb => ?_, fun i hi k hk => ?_, fun d hd => ?_⟩
  · rw [hv, gd_set (by omega), gd_set (by omega)]
    by_cases e : b = c
    · rw [if_pos e, if_pos (by omega)]
    · rw [if_neg e, if_neg (by omega)]
      exact h8 b hb
  · rw [fj_same 1 ea]
    have := h9 b hb
    rw [this]
    unfold wlr
    split
    · exact (gd_ne (by omega)).symm
    · rfl
  · rw [gd_ne (by omega)] at hi
    exact (fi_same k (hs _ (by omega))).trans ((h10 i hi k hk).trans (gd_ne (by omega)).symm)
  · rw [gd_ne (by omega)] at hd
    exact (congrArg (fun q => List.getD q d 0) (ia_of (hs (A + 3) (by omega)))).trans ((h11 d hd).trans (gd_ne (by omega)).symm)
/-- the wall of a cell -/
theorem rel.sWl {c : Nat} {v : Int32} (h : rel w A l) (hc : c < 48) (hs : Same A w w2) (hr : ∀ j, fi w2 A j = fi w A j) (hv : ∀ b, b < 64 → wbt (fj w2 A 1) b = if b = c then v else wbt (fj w A 1) b) : rel w2 A (l.set (55 + c) v) := by
  obtain ⟨h0, ⟨h1, h2, h3, h4, h5, h6, h7⟩, h8, h9, h10, h11⟩ := h
  refine ⟨by rw [List.length_set]; exact h0, ⟨(hr 6).trans (h1.trans (gd_ne (by omega)).symm), (hr 3).trans (h2.trans (gd_ne (by omega)).symm), (hr 5).trans (h3.trans (gd_ne (by omega)).symm), (hr 7).trans (h4.trans (gd_ne (by omega)).symm), (hr 8).trans (h5.trans (gd_ne (by omega)).symm), (hr 9).trans (h6.trans (gd_ne (by omega)).symm), (hr 10).trans (h7.trans (gd_ne (by omega)).symm)⟩, fun b hb => ?_, fun b hb => ?_, fun i hi k hk => ?_, fun d hd => ?_⟩
  · rw [ia_of (hs (A + 1) (by omega)), gd_ne (by omega)]
    exact h8 b hb
  · rw [hv b hb]
    unfold wlr
    by_cases e : b = c
    · rw [if_pos e, if_pos (by omega), gd_set (by omega), if_pos (by omega)]
    · rw [if_neg e, h9 b hb]
      unfold wlr
      split
      · exact (gd_ne (by omega)).symm
      · rfl
  · rw [gd_ne (by omega)] at hi
    exact (fi_same k (hs _ (by omega))).trans ((h10 i hi k hk).trans (gd_ne (by omega)).symm)
  · rw [gd_ne (by omega)] at hd
    exact (congrArg (fun q => List.getD q d 0) (ia_of (hs (A + 3) (by omega)))).trans ((h11 d hd).trans (gd_ne (by omega)).symm)
/-- a field of a gallery -/
theorem rel.sGa {i k : Nat} {v : Int32} (h : rel w A l) (hi10 : i < 10) (hk6 : k < 6) (hs : Same (A + 4 + i) w w2) (hv : fi w2 (A + 4 + i) k = v) (hr : ∀ j, j ≠ k → fi w2 (A + 4 + i) j = fi w (A + 4 + i) j) : rel w2 A (l.set (103 + 6 * i + k) v) := by
  obtain ⟨h0, ⟨h1, h2, h3, h4, h5, h6, h7⟩, h8, h9, h10, h11⟩ := h
  have ea := hs A (by omega)
  refine ⟨by rw [List.length_set]; exact h0, ⟨(fi_same 6 ea).trans (h1.trans (gd_ne (by omega)).symm), (fi_same 3 ea).trans (h2.trans (gd_ne (by omega)).symm), (fi_same 5 ea).trans (h3.trans (gd_ne (by omega)).symm), (fi_same 7 ea).trans (h4.trans (gd_ne (by omega)).symm), (fi_same 8 ea).trans (h5.trans (gd_ne (by omega)).symm), (fi_same 9 ea).trans (h6.trans (gd_ne (by omega)).symm), (fi_same 10 ea).trans (h7.trans (gd_ne (by omega)).symm)⟩, fun b hb => ?_, fun b hb => ?_, fun i2 hi k2 hk => ?_, fun d hd => ?_⟩
  · rw [ia_of (hs (A + 1) (by omega)), gd_ne (by omega)]
    exact h8 b hb
  · rw [fj_same 1 ea, h9 b hb]
    unfold wlr
    split
    · exact (gd_ne (by omega)).symm
    · rfl
  · rw [gd_ne (by omega)] at hi
    rw [gd_set (by omega)]
    by_cases e : i2 = i
    · subst e
      by_cases e2 : k2 = k
      · subst e2
        rw [if_pos rfl]
        exact hv
      · rw [if_neg (by omega), hr k2 e2]
        exact h10 i2 hi k2 hk
    · rw [if_neg (by omega)]
      exact (fi_same k2 (hs _ (by omega))).trans (h10 i2 hi k2 hk)
  · rw [gd_ne (by omega)] at hd
    exact (congrArg (fun q => List.getD q d 0) (ia_of (hs (A + 3) (by omega)))).trans ((h11 d hd).trans (gd_ne (by omega)).symm)
/-- a dish's cell -/
theorem rel.sDi {d : Nat} {v : Int32} (h : rel w A l) (hI : WI w) (hA : isA A) (hd9 : d < 9) (hs : Same (A + 3) w w2) (hv : ia w2 (A + 3) = (ia w (A + 3)).set d v) : rel w2 A (l.set (163 + d) v) := by
  have hl := (hI.1.aD hA).2
  obtain ⟨n, hn, en⟩ := h.n10 hI hA
  obtain ⟨h0, ⟨h1, h2, h3, h4, h5, h6, h7⟩, h8, h9, h10, h11⟩ := h
  have ea := hs A (by omega)
  refine ⟨by rw [List.length_set]; exact h0, ⟨(fi_same 6 ea).trans (h1.trans (gd_ne (by omega)).symm), (fi_same 3 ea).trans (h2.trans (gd_ne (by omega)).symm), (fi_same 5 ea).trans (h3.trans (gd_ne (by omega)).symm), (fi_same 7 ea).trans (h4.trans (gd_ne (by omega)).symm), (fi_same 8 ea).trans (h5.trans (gd_ne (by omega)).symm), (fi_same 9 ea).trans (h6.trans (gd_ne (by omega)).symm), (fi_same 10 ea).trans (h7.trans (gd_ne (by omega)).symm)⟩, fun b hb => ?_, fun b hb => ?_, fun i hi k hk => ?_, fun e he => ?_⟩
  · rw [ia_of (hs (A + 1) (by omega)), gd_ne (by omega)]
    exact h8 b hb
  · rw [fj_same 1 ea, h9 b hb]
    unfold wlr
    split
    · exact (gd_ne (by omega)).symm
    · rfl
  · rw [gd_ne (by omega)] at hi
    have hi2 := hi
    rw [en, iN_n (by omega)] at hi2
    exact (fi_same k (hs _ (by omega))).trans ((h10 i hi k hk).trans (gd_ne (by omega)).symm)
  · rw [gd_ne (by omega)] at he
    rw [hv, gd_set (by omega), gd_set (by omega)]
    by_cases e2 : e = d
    · rw [if_pos e2, if_pos (by omega)]
    · rw [if_neg e2, if_neg (by omega)]
      exact h11 e he
/-- where a field of a camp stands in the row -/
def fkR (k : Nat) : Nat := if k = 6 then 0 else if k = 3 then 1 else if k = 5 then 2 else if k = 7 then 3 else k - 4
/-- night, met, bread -/
theorem rel.sFi {k : Nat} {v : Int32} (h : rel w A l) (hk : k = 6 ∨ k = 7 ∨ k = 8 ∨ k = 9 ∨ k = 10) (hs : Same A w w2) (hv : fi w2 A k = v) (hr : ∀ j, j ≠ k → fi w2 A j = fi w A j) (hj : fj w2 A 1 = fj w A 1) : rel w2 A (l.set (fkR k) v) := by
  obtain ⟨h0, ⟨h1, h2, h3, h4, h5, h6, h7⟩, h8, h9, h10, h11⟩ := h
  have rest : ∀ p, p ≠ 1 → p ≠ 2 → p < 7 → (∀ c, c < 48 → (ia w2 (A + 1)).getD c 0 = (l.set p v).getD (7 + c) 0) ∧ (∀ c, c < 64 → wbt (fj w2 A 1) c = wlr (l.set p v) c) ∧ (∀ i, i < iN ((l.set p v).getD 1 0) → ∀ k, k < 6 → fi w2 (A + 4 + i) k = (l.set p v).getD (103 + 6 * i + k) 0) ∧ ∀ d, d < iN ((l.set p v).getD 2 0) → (ia w2 (A + 3)).getD d 0 = (l.set p v).getD (163 + d) 0 := by
    intro p hp1 hp2 hp7
    refine ⟨fun b hb => ?_, fun b hb => ?_, fun i hi k hk => ?_, fun d hd => ?_⟩
    · rw [ia_of (hs (A + 1) (by omega)), gd_ne (by omega)]
      exact h8 b hb
    · rw [hj, h9 b hb]
      unfold wlr
      split
      · exact (gd_ne (by omega)).symm
      · rfl
    · rw [gd_ne (by omega)] at hi
      exact (fi_same k (hs _ (by omega))).trans ((h10 i hi k hk).trans (gd_ne (by omega)).symm)
    · rw [gd_ne (by omega)] at hd
      exact (congrArg (fun q => List.getD q d 0) (ia_of (hs (A + 3) (by omega)))).trans ((h11 d hd).trans (gd_ne (by omega)).symm)
  rcases hk with rfl | rfl | rfl | rfl | rfl
  · show rel w2 A (l.set 0 v)
    exact ⟨by rw [List.length_set]; exact h0, ⟨hv.trans (gd_eq (by omega)).symm, (hr 3 (by decide)).trans (h2.trans (gd_ne (by decide)).symm), (hr 5 (by decide)).trans (h3.trans (gd_ne (by decide)).symm), (hr 7 (by decide)).trans (h4.trans (gd_ne (by decide)).symm), (hr 8 (by decide)).trans (h5.trans (gd_ne (by decide)).symm), (hr 9 (by decide)).trans (h6.trans (gd_ne (by decide)).symm), (hr 10 (by decide)).trans (h7.trans (gd_ne (by decide)).symm)⟩, rest 0 (by decide) (by decide) (by decide)⟩
  · show rel w2 A (l.set 3 v)
    exact ⟨by rw [List.length_set]; exact h0, ⟨(hr 6 (by decide)).trans (h1.trans (gd_ne (by decide)).symm), (hr 3 (by decide)).trans (h2.trans (gd_ne (by decide)).symm), (hr 5 (by decide)).trans (h3.trans (gd_ne (by decide)).symm), hv.trans (gd_eq (by omega)).symm, (hr 8 (by decide)).trans (h5.trans (gd_ne (by decide)).symm), (hr 9 (by decide)).trans (h6.trans (gd_ne (by decide)).symm), (hr 10 (by decide)).trans (h7.trans (gd_ne (by decide)).symm)⟩, rest 3 (by decide) (by decide) (by decide)⟩
  · show rel w2 A (l.set 4 v)
    exact ⟨by rw [List.length_set]; exact h0, ⟨(hr 6 (by decide)).trans (h1.trans (gd_ne (by decide)).symm), (hr 3 (by decide)).trans (h2.trans (gd_ne (by decide)).symm), (hr 5 (by decide)).trans (h3.trans (gd_ne (by decide)).symm), (hr 7 (by decide)).trans (h4.trans (gd_ne (by decide)).symm), hv.trans (gd_eq (by omega)).symm, (hr 9 (by decide)).trans (h6.trans (gd_ne (by decide)).symm), (hr 10 (by decide)).trans (h7.trans (gd_ne (by decide)).symm)⟩, rest 4 (by decide) (by decide) (by decide)⟩
  · show rel w2 A (l.set 5 v)
    exact ⟨by rw [List.length_set]; exact h0, ⟨(hr 6 (by decide)).trans (h1.trans (gd_ne (by decide)).symm), (hr 3 (by decide)).trans (h2.trans (gd_ne (by decide)).symm), (hr 5 (by decide)).trans (h3.trans (gd_ne (by decide)).symm), (hr 7 (by decide)).trans (h4.trans (gd_ne (by decide)).symm), (hr 8 (by decide)).trans (h5.trans (gd_ne (by decide)).symm), hv.trans (gd_eq (by omega)).symm, (hr 10 (by decide)).trans (h7.trans (gd_ne (by decide)).symm)⟩, rest 5 (by decide) (by decide) (by decide)⟩
  · show rel w2 A (l.set 6 v)
    exact ⟨by rw [List.length_set]; exact h0, ⟨(hr 6 (by decide)).trans (h1.trans (gd_ne (by decide)).symm), (hr 3 (by decide)).trans (h2.trans (gd_ne (by decide)).symm), (hr 5 (by decide)).trans (h3.trans (gd_ne (by decide)).symm), (hr 7 (by decide)).trans (h4.trans (gd_ne (by decide)).symm), (hr 8 (by decide)).trans (h5.trans (gd_ne (by decide)).symm), (hr 9 (by decide)).trans (h6.trans (gd_ne (by decide)).symm), hv.trans (gd_eq (by omega)).symm⟩, rest 6 (by decide) (by decide) (by decide)⟩
/-- one gallery more: its fields stand already -/
theorem rel.sMany {n : Nat} (h : rel w A l) (hn : n ≤ 9) (en : l.getD 1 0 = nI n) (hnew : ∀ k, k < 6 → fi w (A + 4 + n) k = l.getD (103 + 6 * n + k) 0) (hs : Same A w w2) (hv : fi w2 A 3 = nI (n + 1)) (hr : ∀ j, j ≠ 3 → fi w2 A j = fi w A j) (hj : fj w2 A 1 = fj w A 1) : rel w2 A (l.set 1 (nI (n + 1))) := by
  obtain ⟨h0, ⟨h1, h2, h3, h4, h5, h6, h7⟩, h8, h9, h10, h11⟩ := h
  refine ⟨by rw [List.length_set]; exact h0, ⟨(hr 6 (by decide)).trans (h1.trans (gd_ne (by decide)).symm), hv.trans (gd_eq (by omega)).symm, (hr 5 (by decide)).trans (h3.trans (gd_ne (by decide)).symm), (hr 7 (by decide)).trans (h4.trans (gd_ne (by decide)).symm), (hr 8 (by decide)).trans (h5.trans (gd_ne (by decide)).symm), (hr 9 (by decide)).trans (h6.trans (gd_ne (by decide)).symm), (hr 10 (by decide)).trans (h7.trans (gd_ne (by decide)).symm)⟩, fun b hb => ?_, fun b hb => ?_, fun i hi k hk => ?_, fun d hd => ?_⟩
  · rw [ia_of (hs (A + 1) (by omega)), gd_ne (by omega)]
    exact h8 b hb
  · rw [hj, h9 b hb]
    unfold wlr
    split
    · exact (gd_ne (by omega)).symm
    · rfl
  · rw [gd_eq (by omega), iN_n (by omega)] at hi
    rw [gd_ne (by omega)]
    refine (fi_same k (hs _ (by omega))).trans ?_
    by_cases e : i = n
    · rw [e]
      exact hnew k hk
    · exact h10 i (by rw [en, iN_n (by omega)]; omega) k hk
  · rw [gd_ne (by decide)] at hd
    exact (congrArg (fun q => List.getD q d 0) (ia_of (hs (A + 3) (by omega)))).trans ((h11 d hd).trans (gd_ne (by omega)).symm)
/-- one dish more: its cell stands already -/
theorem rel.sDished {n : Nat} (h : rel w A l) (hn : n ≤ 8) (en : l.getD 2 0 = nI n) (hnew : (ia w (A + 3)).getD n 0 = l.getD (163 + n) 0) (hs : Same A w w2) (hv : fi w2 A 5 = nI (n + 1)) (hr : ∀ j, j ≠ 5 → fi w2 A j = fi w A j) (hj : fj w2 A 1 = fj w A 1) : rel w2 A (l.set 2 (nI (n + 1))) := by
  obtain ⟨h0, ⟨h1, h2, h3, h4, h5, h6, h7⟩, h8, h9, h10, h11⟩ := h
  refine ⟨by rw [List.length_set]; exact h0, ⟨(hr 6 (by decide)).trans (h1.trans (gd_ne (by decide)).symm), (hr 3 (by decide)).trans (h2.trans (gd_ne (by decide)).symm), hv.trans (gd_eq (by omega)).symm, (hr 7 (by decide)).trans (h4.trans (gd_ne (by decide)).symm), (hr 8 (by decide)).trans (h5.trans (gd_ne (by decide)).symm), (hr 9 (by decide)).trans (h6.trans (gd_ne (by decide)).symm), (hr 10 (by decide)).trans (h7.trans (gd_ne (by decide)).symm)⟩, fun b hb => ?_, fun b hb => ?_, fun i hi k hk => ?_, fun d hd => ?_⟩
  · rw [ia_of (hs (A + 1) (by omega)), gd_ne (by omega)]
    exact h8 b hb
  · rw [hj, h9 b hb]
    unfold wlr
    split
    · exact (gd_ne (by omega)).symm
    · rfl
  · rw [gd_ne (by decide)] at hi
    exact (fi_same k (hs _ (by omega))).trans ((h10 i hi k hk).trans (gd_ne (by omega)).symm)
  · rw [gd_eq (by omega), iN_n (by omega)] at hd
    rw [ia_of (hs (A + 3) (by omega)), gd_ne (by omega)]
    by_cases e : d = n
    · rw [e]
      exact hnew
    · exact h11 d (by rw [en, iN_n (by omega)]; omega)
/-- a camp laid over another one -/
theorem rel.took {B : Nat} (h : rel w B l) (ht : Took A B w w2) : rel w2 A l := by
  obtain ⟨h0, ⟨h1, h2, h3, h4, h5, h6, h7⟩, h8, h9, h10, h11⟩ := h
  obtain ⟨-, t1, t2, t3, t4, t5⟩ := ht
  refine ⟨h0, ⟨(t3 6 (by omega)).trans h1, (t3 3 (by omega)).trans h2, (t3 5 (by omega)).trans h3, (t3 7 (by omega)).trans h4, (t3 8 (by omega)).trans h5, (t3 9 (by omega)).trans h6, (t3 10 (by omega)).trans h7⟩, fun c hc => by rw [t1]; exact h8 c hc, fun c hc => by rw [t2]; exact h9 c hc, fun i hi k hk => ?_, fun d hd => by rw [t4]; exact h11 d hd⟩
  exact (t5 i (by rw [h2]; exact hi) k hk).trans (h10 i hi k hk)
end SXRL
