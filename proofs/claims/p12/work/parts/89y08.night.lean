-- a night, on the row
def gF (l : List Int32) (g k : Nat) : Int32 := l.getD (103 + 6 * g + k) 0
def gdL (l : List Int32) (c : Nat) : Int32 := l.getD (7 + c) 0
def wlL (l : List Int32) (c : Nat) : Int32 := l.getD (55 + c) 0
/-- one night of digging: head, done, lost -/
def dgT (gr wl : Nat → Int32) (k h y : Nat) (dn e : Int32) : Int32 × Int32 × Int32 := if bsd h y = -1 then (nI h, dn, e) else (if gr (iN (bsd h y)) = 3 then (nI h, dn, 1) else (if tmV k (iN (gr (iN (bsd h y)))) (wl (iN (bsd h y))) ≤ dn + 1 then (bsd h y, 0, b01 (!(fmB k (iN (gr (iN (bsd h y))))))) else (nI h, dn + 1, e)))
theorem bsd_or {c j : Nat} (hc : c < 48) (hj : j < 4) : bsd c j = -1 ∨ ∃ t, t < 48 ∧ bsd c j = nI t := by
  rcases bsd_nat c hc j hj with h | ⟨h1, h2⟩
  · exact Or.inl h
  · exact Or.inr ⟨_, h1, h2⟩
theorem cb20e {xs : Option (List Int32)} {d : Nat} {w : List sx_C} {c j : Nat} {v : Int32} (hc : c < 48) (hj : j < 4) (e : bsd c j = v) : sx_RU xs d 20 0 (lv_args 0 [.int (nI c), .int (nI j)]) [] w (some (.int v)) w := by
  rw [← e]
  exact cb_20 hc j hj
theorem cb142e {xs : Option (List Int32)} {d : Nat} {w : List sx_C} {c j : Nat} {v : Int32} (hc : c < 48) (hj : j < 4) (e : bsd c j = v) : sx_RU xs d 142 0 (lv_args 0 [.int (nI c), .int (nI j)]) [] w (some (.int v)) w := by
  rw [← e]
  exact cb_142 hc j hj
section SXDG
variable {gr wl gr2 wl2 : Nat → Int32} {k h y t s : Nat} {dn e : Int32}
theorem dgT_1 (hb : bsd h y = -1) : dgT gr wl k h y dn e = (nI h, dn, e) := if_pos hb
theorem dgT_2 (hb : bsd h y = nI t) (ht : t < 48) (hg : gr t = 3) : dgT gr wl k h y dn e = (nI h, dn, 1) := by
  unfold dgT
  rw [hb, if_neg (nI_ne1 (by omega)), iN_n (by omega), if_pos hg]
theorem dgT_3 (hb : bsd h y = nI t) (ht : t < 48) (hs : gr t = nI s) (hs4 : s < 4) (h3 : ¬ s = 3) (hle : tmV k s (wl t) ≤ dn + 1) : dgT gr wl k h y dn e = (nI t, 0, b01 (!(fmB k s))) := by
  unfold dgT
  rw [hb, if_neg (nI_ne1 (by omega)), iN_n (by omega), hs, if_neg (show ¬ nI s = 3 from fun z => h3 ((nI_eq (b := 3) (by omega) (by decide)).mp z)), iN_n (by omega), if_pos hle]
theorem dgT_4 (hb : bsd h y = nI t) (ht : t < 48) (hs : gr t = nI s) (hs4 : s < 4) (h3 : ¬ s = 3) (hle : ¬ tmV k s (wl t) ≤ dn + 1) : dgT gr wl k h y dn e = (nI h, dn + 1, e) := by
  unfold dgT
  rw [hb, if_neg (nI_ne1 (by omega)), iN_n (by omega), hs, if_neg (show ¬ nI s = 3 from fun z => h3 ((nI_eq (b := 3) (by omega) (by decide)).mp z)), iN_n (by omega), if_neg hle]
theorem dgT_congr (hh : h < 48) (hy : y < 4) (e1 : ∀ c, c < 48 → gr c = gr2 c) (e2 : ∀ c, c < 48 → wl c = wl2 c) : dgT gr wl k h y dn e = dgT gr2 wl2 k h y dn e := by
  unfold dgT
  rcases bsd_or hh hy with hb | ⟨t, ht, hb⟩
  · rw [if_pos hb, if_pos hb]
  · rw [hb, iN_n (by omega), e1 t ht, e2 t ht]
end SXDG
def digT (l : List Int32) (g : Nat) : Int32 × Int32 × Int32 := dgT (gdL l) (wlL l) (iN (gF l g 0)) (iN (gF l g 2)) (iN (gF l g 3)) (gF l g 4) (gF l g 5)
def digR (l : List Int32) (g : Nat) : List Int32 := ((l.set (103 + 6 * g + 2) (digT l g).1).set (103 + 6 * g + 4) (digT l g).2.1).set (103 + 6 * g + 5) (digT l g).2.2
/-- how many of a side are not lost -/
def lfF (l : List Int32) (s : Int32) : Nat → Int32
  | 0 => 0
  | j + 1 => lfF l s j + (if gF l j 1 = s ∧ gF l j 5 = 0 then 1 else 0)
/-- whether one of ours is near -/
def meF (l : List Int32) (h : Nat) : Nat → Bool
  | 0 => false
  | j + 1 => meF l h j || (decide (gF l j 1 = 1 ∧ gF l j 5 = 0) && nearB (iN (gF l j 2)) h)
theorem meF_up {l : List Int32} {h j : Nat} (hj : meF l h j = true) : ∀ n, j ≤ n → meF l h n = true
  | 0, hn => by
    obtain rfl : j = 0 := by omega
    exact hj
  | n + 1, hn => by
    by_cases e : j = n + 1
    · rw [← e]
      exact hj
    · unfold meF
      rw [meF_up hj n (by omega)]
      rfl
def maN (l : List Int32) : Nat := iN (l.getD 1 0)
def metR (l : List Int32) (g : Nat) : List Int32 := if (gF l g 1 = 0 ∧ gF l g 5 = 0) ∧ meF l (iN (gF l g 2)) (maN l) = true then (l.set (103 + 6 * g + 5) 1).set 3 (l.getD 3 0 + 1) else l
def dgL : Nat → Nat → List Int32 → List Int32
  | 0, _, l => l
  | q + 1, j, l => dgL q (j + 1) (if gF l j 5 = 0 then digR l j else l)
def mtL : Nat → Nat → List Int32 → List Int32
  | 0, _, l => l
  | q + 1, j, l => mtL q (j + 1) (metR l j)
def nigR (l : List Int32) : List Int32 := (mtL (maN l) 0 (dgL (maN l) 0 l)).set 0 ((mtL (maN l) 0 (dgL (maN l) 0 l)).getD 0 0 + 1)
def goR : Nat → List Int32 → List Int32
  | 0, l => l
  | n + 1, l => goR n (nigR l)
def allF (l : List Int32) : Int32 := lfF l 0 (maN l) + lfF l 1 (maN l)
theorem digR_1 {l : List Int32} {g : Nat} : (digR l g).getD 1 0 = l.getD 1 0 := by
  unfold digR
  rw [gd_ne (by omega), gd_ne (by omega), gd_ne (by omega)]
theorem metR_1 {l : List Int32} {g : Nat} : (metR l g).getD 1 0 = l.getD 1 0 := by
  unfold metR
  split
  · rw [gd_ne (by omega), gd_ne (by omega)]
  · rfl
theorem dgL_1 : ∀ (q j : Nat) (l : List Int32), (dgL q j l).getD 1 0 = l.getD 1 0
  | 0, _, _ => rfl
  | q + 1, j, l => by
    show (dgL q (j + 1) _).getD 1 0 = _
    rw [dgL_1 q (j + 1)]
    split
    · exact digR_1
    · rfl
theorem mtL_1 : ∀ (q j : Nat) (l : List Int32), (mtL q j l).getD 1 0 = l.getD 1 0
  | 0, _, _ => rfl
  | q + 1, j, l => by
    show (mtL q (j + 1) _).getD 1 0 = _
    rw [mtL_1 q (j + 1), metR_1]
theorem nigR_1 {l : List Int32} : (nigR l).getD 1 0 = l.getD 1 0 := by
  unfold nigR
  rw [gd_ne (by omega), mtL_1, dgL_1]
theorem maN_n {l : List Int32} {n : Nat} (h : l.getD 1 0 = nI n) (hn : n ≤ 10) : maN l = n := by
  unfold maN
  rw [h, iN_n (by omega)]
/-- head, done and lost of a gallery at once -/
theorem rel.s3 {w w2 : List sx_C} {A i : Nat} {l : List Int32} {a b c : Int32} (h : rel w A l) (hi10 : i < 10) (hs : Same (A + 4 + i) w w2) (h2 : fi w2 (A + 4 + i) 2 = a) (h4 : fi w2 (A + 4 + i) 4 = b) (h5 : fi w2 (A + 4 + i) 5 = c) (hr : ∀ k, k = 0 ∨ k = 1 ∨ k = 3 → fi w2 (A + 4 + i) k = fi w (A + 4 + i) k) : rel w2 A (((l.set (103 + 6 * i + 2) a).set (103 + 6 * i + 4) b).set (103 + 6 * i + 5) c) := by
  obtain ⟨h0, ⟨q1, q2, q3, q4, q5, q6, q7⟩, h8, h9, h10, h11⟩ := h
  have ea := hs A (by omega)
  have go : ∀ k, k < 103 ∨ 163 ≤ k → (((l.set (103 + 6 * i + 2) a).set (103 + 6 * i + 4) b).set (103 + 6 * i + 5) c).getD k 0 = l.getD k 0 := by
    intro k hk
    rw [gd_ne (by omega), gd_ne (by omega), gd_ne (by omega)]
  refine ⟨by rw [List.length_set, List.length_set, List.length_set]; exact h0, ⟨(fi_same 6 ea).trans (q1.trans (go 0 (by omega)).symm), (fi_same 3 ea).trans (q2.trans (go 1 (by omega)).symm), (fi_same 5 ea).trans (q3.trans (go 2 (by omega)).symm), (fi_same 7 ea).trans (q4.trans (go 3 (by omega)).symm), (fi_same 8 ea).trans (q5.trans (go 4 (by omega)).symm), (fi_same 9 ea).trans (q6.trans (go 5 (by omega)).symm), (fi_same 10 ea).trans (q7.trans (go 6 (by omega)).symm)⟩, fun b hb => ?_, fun b hb => ?_, fun i2 hi k2 hk => ?_, fun d hd => ?_⟩
  · rw [ia_of (hs (A + 1) (by omega)), go _ (by omega)]
    exact h8 b hb
  · rw [fj_same 1 ea, h9 b hb]
    unfold wlr
    split
    · exact (go _ (by omega)).symm
    · rfl
  · rw [go 1 (by omega)] at hi
    by_cases e : i2 = i
    · subst e
      rcases (show k2 = 0 ∨ k2 = 1 ∨ k2 = 2 ∨ k2 = 3 ∨ k2 = 4 ∨ k2 = 5 by omega) with rfl | rfl | rfl | rfl | rfl | rfl
      · rw [gd_ne (by omega), gd_ne (by omega), gd_ne (by omega), hr 0 (by omega)]
        exact h10 i2 hi 0 hk
      · rw [gd_ne (by omega), gd_ne (by omega), gd_ne (by omega), hr 1 (by omega)]
        exact h10 i2 hi 1 hk
      · rw [gd_ne (by omega), gd_ne (by omega), gd_eq (by omega)]
        exact h2
      · rw [gd_ne (by omega), gd_ne (by omega), gd_ne (by omega), hr 3 (by omega)]
        exact h10 i2 hi 3 hk
      · rw [gd_ne (by omega), gd_eq (by rw [List.length_set]; omega)]
        exact h4
      · rw [gd_eq (by rw [List.length_set, List.length_set]; omega)]
        exact h5
    · rw [gd_ne (by omega), gd_ne (by omega), gd_ne (by omega)]
      exact (fi_same k2 (hs _ (by omega))).trans (h10 i2 hi k2 hk)
  · rw [go 2 (by omega)] at hd
    exact (congrArg (fun q => List.getD q d 0) (ia_of (hs (A + 3) (by omega)))).trans ((h11 d hd).trans (go _ (by omega)).symm)
