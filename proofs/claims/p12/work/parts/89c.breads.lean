-- for how many days the bread lasts
def eatN (m r d : Nat) : Nat := m * max 1 (r - d / 5)
def dayN (m r : Nat) : Nat → Nat → Nat → Nat
  | 0, d, _ => d
  | f + 1, d, l => if l < eatN m r d then d else dayN m r f (d + 1) (l - eatN m r d)
def daysN (o m r : Nat) : Nat := dayN m r 999 0 o
theorem dayN_ge (m r : Nat) : ∀ f d l : Nat, d ≤ dayN m r f d l
  | 0, d, l => Nat.le_refl _
  | f + 1, d, l => by
    unfold dayN
    split
    · exact Nat.le_refl _
    · exact Nat.le_trans (Nat.le_succ d) (dayN_ge m r f (d + 1) _)
theorem dayN_le (m r : Nat) : ∀ f d l : Nat, dayN m r f d l ≤ d + f
  | 0, d, l => Nat.le_refl _
  | f + 1, d, l => by
    unfold dayN
    split
    · omega
    · have := dayN_le m r f (d + 1) (l - eatN m r d)
      omega
theorem eatN_mono {m r r2 d : Nat} (h : r ≤ r2) : eatN m r d ≤ eatN m r2 d := by
  unfold eatN
  exact Nat.mul_le_mul_left m (by omega)
theorem dayN_anti {m r r2 : Nat} (h : r ≤ r2) : ∀ f d l l2 : Nat, l2 ≤ l → dayN m r2 f d l2 ≤ dayN m r f d l
  | 0, d, l, l2, _ => Nat.le_refl _
  | f + 1, d, l, l2, hl => by
    have he := eatN_mono (m := m) (d := d) h
    unfold dayN
    by_cases h1 : l < eatN m r d
    · rw [if_pos h1, if_pos (by omega)]
      exact Nat.le_refl _
    · rw [if_neg h1]
      by_cases h2 : l2 < eatN m r2 d
      · rw [if_pos h2]
        exact Nat.le_trans (Nat.le_succ d) (dayN_ge m r f (d + 1) _)
      · rw [if_neg h2]
        exact dayN_anti h f (d + 1) _ _ (by omega)
theorem daysN_anti {o m r r2 : Nat} (h : r ≤ r2) : daysN o m r2 ≤ daysN o m r := dayN_anti h 999 0 o o (Nat.le_refl _)
theorem daysN_le {o m r : Nat} : daysN o m r ≤ 999 := by
  have := dayN_le m r 999 0 o
  unfold daysN
  omega
/-- the greatest ration with which it lasts so long; 0: none -/
def topN (p : Nat → Bool) : Nat → Nat
  | 0 => 0
  | v + 1 => if p (v + 1) = true then v + 1 else topN p v
theorem topN_le (p : Nat → Bool) : ∀ v, topN p v ≤ v
  | 0 => Nat.le_refl _
  | v + 1 => by
    unfold topN
    split
    · exact Nat.le_refl _
    · exact Nat.le_succ_of_le (topN_le p v)
theorem topN_no (p : Nat → Bool) : ∀ v x, topN p v < x → x ≤ v → p x = false
  | 0, x, h1, h2 => by omega
  | v + 1, x, h1, h2 => by
    unfold topN at h1
    split at h1
    · omega
    · rename_i hq
      by_cases e : x = v + 1
      · subst e
        exact Bool.eq_false_iff.mpr hq
      · exact topN_no p v x h1 (by omega)
theorem topN_yes (p : Nat → Bool) : ∀ v, 0 < topN p v → p (topN p v) = true
  | 0, h => absurd h (Nat.lt_irrefl 0)
  | v + 1, h => by
    unfold topN at h ⊢
    split
    · rename_i hq
      exact hq
    · rename_i hq
      rw [if_neg hq] at h
      exact topN_yes p v h
def halfN (p : Nat → Bool) (g s : Nat) : Nat := if g + s ≤ 99 ∧ p (g + s) = true then g + s else g
def halvesN (p : Nat → Bool) : Nat := halfN p (halfN p (halfN p (halfN p (halfN p (halfN p (halfN p 0 64) 32) 16) 8) 4) 2) 1
/-- what halving keeps: the answer lies in [g, g + 2 s) -/
theorem halfN_ok {p : Nat → Bool} {g s t : Nat} (ha : ∀ x y, 1 ≤ x → x ≤ y → p y = true → p x = true) (ht : t = topN p 99) (h1 : g ≤ t) (h2 : t < g + 2 * s) (hs : 1 ≤ s) : halfN p g s ≤ t ∧ t < halfN p g s + s := by
  have h99 := topN_le p 99
  unfold halfN
  by_cases c : g + s ≤ 99 ∧ p (g + s) = true
  · rw [if_pos c]
    refine ⟨?_, by omega⟩
    by_cases hlt : t < g + s
    · have := topN_no p 99 (g + s) (by omega) c.1
      rw [this] at c
      exact absurd c.2 (by decide)
    · omega
  · rw [if_neg c]
    refine ⟨h1, ?_⟩
    by_cases hlt : t < g + s
    · exact hlt
    · exfalso
      apply c
      refine ⟨by omega, ha (g + s) t (by omega) (by omega) ?_⟩
      rw [ht]
      exact topN_yes p 99 (by omega)
theorem halves_top {p : Nat → Bool} (ha : ∀ x y, 1 ≤ x → x ≤ y → p y = true → p x = true) : halvesN p = topN p 99 := by
  have h99 := topN_le p 99
  obtain ⟨a1, b1⟩ := halfN_ok (g := 0) (s := 64) ha rfl (Nat.zero_le _) (by omega) (by decide)
  obtain ⟨a2, b2⟩ := halfN_ok (s := 32) ha rfl a1 (by omega) (by decide)
  obtain ⟨a3, b3⟩ := halfN_ok (s := 16) ha rfl a2 (by omega) (by decide)
  obtain ⟨a4, b4⟩ := halfN_ok (s := 8) ha rfl a3 (by omega) (by decide)
  obtain ⟨a5, b5⟩ := halfN_ok (s := 4) ha rfl a4 (by omega) (by decide)
  obtain ⟨a6, b6⟩ := halfN_ok (s := 2) ha rfl a5 (by omega) (by decide)
  obtain ⟨a7, b7⟩ := halfN_ok (s := 1) ha rfl a6 (by omega) (by decide)
  unfold halvesN
  omega
theorem div5_all : ∀ j : Fin 1000, nI j.val / 5 = nI (j.val / 5) := by decide +kernel
theorem rem5_all : ∀ j : Fin 1000, nI j.val - nI j.val / 5 * 5 = nI (j.val % 5) := by decide +kernel
theorem nI_div5 {j : Nat} (h : j < 1000) : nI j / 5 = nI (j / 5) := div5_all ⟨j, h⟩
theorem nI_rem5 {j : Nat} (h : j < 1000) : nI j - nI j / 5 * 5 = nI (j % 5) := rem5_all ⟨j, h⟩
theorem max_1 {r q : Nat} (hr : r < 2 ^ 31) (hq : q < 2 ^ 31) : (if (1 : Int32) < nI r - nI q then nI r - nI q else 1) = nI (max 1 (r - q)) := by
  by_cases h : q ≤ r
  · rw [nI_sub h, show (1 : Int32) = nI 1 from rfl]
    by_cases h2 : 1 < r - q
    · rw [if_pos ((nI_ltI (by decide) (by omega)).mpr h2), show max 1 (r - q) = r - q by omega]
    · rw [if_neg (fun z => h2 ((nI_ltI (by decide) (by omega)).mp z)), show max 1 (r - q) = 1 by omega]
  · have e : (nI r - nI q).toInt < 0 := by
      rw [Int32.toInt_sub, nI_toInt hr, nI_toInt hq, Int.bmod_def]
      split <;> omega
    rw [if_neg (fun z => by
      rw [Int32.lt_iff_toInt_lt, show (1 : Int32).toInt = 1 by decide] at z
      omega), show max 1 (r - q) = 1 by omega]
    rfl
