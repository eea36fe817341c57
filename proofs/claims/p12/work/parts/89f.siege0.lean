-- a text as codes, and its tokens
def rEnd (p : Nat → Bool) (n : Nat) (X : Nat → Nat) : Nat → Nat → Nat
  | 0, i => i
  | f + 1, i => if i < n ∧ p (X i) = true then rEnd p n X f (i + 1) else i
def rE (p : Nat → Bool) (n : Nat) (X : Nat → Nat) (i : Nat) : Nat := rEnd p n X (n - i) i
section SXRE0
variable {p : Nat → Bool} {n : Nat} {X : Nat → Nat} {i : Nat}
theorem rE_y (h : i < n) (hp : p (X i) = true) : rE p n X i = rE p n X (i + 1) := by
  unfold rE
  rw [show n - i = (n - (i + 1)) + 1 by omega]
  show (if i < n ∧ p (X i) = true then rEnd p n X (n - (i + 1)) (i + 1) else i) = _
  rw [if_pos ⟨h, hp⟩]
theorem rE_n (h : ¬ (i < n ∧ p (X i) = true)) : rE p n X i = i := by
  unfold rE
  cases hf : n - i with
  | zero => rfl
  | succ f =>
    show (if i < n ∧ p (X i) = true then rEnd p n X f (i + 1) else i) = i
    rw [if_neg h]
theorem rEnd_ge : ∀ f i, i ≤ rEnd p n X f i
  | 0, i => Nat.le_refl _
  | f + 1, i => by
    unfold rEnd
    split
    · exact Nat.le_trans (Nat.le_succ i) (rEnd_ge f (i + 1))
    · exact Nat.le_refl _
theorem rE_ge : i ≤ rE p n X i := rEnd_ge _ _
theorem rEnd_le : ∀ f i, i ≤ n → rEnd p n X f i ≤ n
  | 0, i, h => h
  | f + 1, i, h => by
    unfold rEnd
    split
    · rename_i q
      exact rEnd_le f (i + 1) q.1
    · exact h
theorem rE_le (h : i ≤ n) : rE p n X i ≤ n := rEnd_le _ _ h
theorem rEnd_in : ∀ f i j, i ≤ j → j < rEnd p n X f i → j < n ∧ p (X j) = true
  | 0, i, j, h1, h2 => absurd h2 (by unfold rEnd; omega)
  | f + 1, i, j, h1, h2 => by
    unfold rEnd at h2
    split at h2
    · rename_i q
      by_cases e : j = i
      · rw [e]
        exact q
      · exact rEnd_in f (i + 1) j (by omega) h2
    · omega
theorem rE_in {j : Nat} (h1 : i ≤ j) (h2 : j < rE p n X i) : j < n ∧ p (X j) = true := rEnd_in _ _ _ h1 h2
theorem rEnd_out : ∀ f i, n ≤ i + f → ¬ (rEnd p n X f i < n ∧ p (X (rEnd p n X f i)) = true)
  | 0, i, h => by unfold rEnd; intro q; omega
  | f + 1, i, h => by
    unfold rEnd
    split
    · exact rEnd_out f (i + 1) (by omega)
    · rename_i q
      exact q
theorem rE_out : ¬ (rE p n X i < n ∧ p (X (rE p n X i)) = true) := rEnd_out _ _ (by omega)
theorem rE_rE : rE p n X (rE p n X i) = rE p n X i := rE_n rE_out
end SXRE0
def blk (c : Nat) : Bool := c == 32
def lett (c : Nat) : Bool := Nat.ble 97 c && Nat.ble c 122
def digi (c : Nat) : Bool := Nat.ble 48 c && Nat.ble c 57
def sortN (c : Nat) : Nat := cond (lett c) 1 (cond (digi c) 2 (cond (c == 59) 3 4))
def soT (n : Nat) (X : Nat → Nat) (p : Nat) : Nat := if p < n then sortN (X p) else 0
def beT (n : Nat) (X : Nat → Nat) (p : Nat) : Nat := if p < n then (if sortN (X p) = 1 then rE lett n X (p + 1) else if sortN (X p) = 2 then rE digi n X (p + 1) else p + 1) else p
/-- the value of a run of digits, with a cap -/
def nuV (cap : Nat) (X : Nat → Nat) (v i : Nat) : Nat → Nat
  | 0 => v
  | f + 1 => nuV cap X (min cap (10 * v + (X i - 48))) (i + 1) f
def vaT (n : Nat) (X : Nat → Nat) (p : Nat) : Nat := if soT n X p = 2 then nuV 1000000 X 0 p (beT n X p - p) else 0
def sgn (c : Nat) : Int32 := (nI c).toInt8.toInt32
theorem sort_all : ∀ c : Fin 256, nI (sortN c.val) = (if sgn c.val < 97 then (if sgn c.val < 48 then (if ¬ sgn c.val = 59 then 4 else 3) else if 57 < sgn c.val then (if ¬ sgn c.val = 59 then 4 else 3) else 2) else if 122 < sgn c.val then (if sgn c.val < 48 then (if ¬ sgn c.val = 59 then 4 else 3) else if 57 < sgn c.val then (if ¬ sgn c.val = 59 then 4 else 3) else 2) else 1) := by decide +kernel
theorem sgn32_all : ∀ c : Fin 256, (decide (sgn c.val = 32)) = blk c.val := by decide +kernel
theorem sgn_dig : ∀ c : Fin 256, digi c.val = true → sgn c.val = nI c.val ∧ 48 ≤ c.val ∧ c.val ≤ 57 := by decide +kernel
theorem sgn_let : ∀ c : Fin 256, lett c.val = true → sgn c.val = nI c.val ∧ 97 ≤ c.val ∧ c.val ≤ 122 := by decide +kernel
theorem sort_1 : ∀ c : Fin 256, sortN c.val = 1 ↔ lett c.val = true := by decide +kernel
theorem sort_2 : ∀ c : Fin 256, sortN c.val = 2 ↔ digi c.val = true := by decide +kernel
theorem sort_le : ∀ c : Fin 256, 1 ≤ sortN c.val ∧ sortN c.val ≤ 4 := by decide +kernel
/-- the text of the class -/
def CT (n : Nat) (X : Nat → Nat) (w : List sx_C) : Prop := fi w 96 1 = nI n ∧ n ≤ 120 ∧ ∀ i, i < n → (ia w 97).getD i 0 = sgn (X i) ∧ X i < 256
/-- a token at hand -/
def TK' (n : Nat) (X : Nat → Nat) (p : Nat) (w : List sx_C) : Prop := fi w 96 3 = nI p ∧ fi w 96 2 = nI (soT n X p) ∧ fi w 96 4 = nI (beT n X p) ∧ fi w 96 5 = nI (vaT n X p)
theorem nuV_le {cap : Nat} {X : Nat → Nat} : ∀ f v i, v ≤ cap → nuV cap X v i f ≤ cap
  | 0, v, i, h => h
  | f + 1, v, i, h => nuV_le f _ (i + 1) (Nat.min_le_left _ _)
theorem beT_le {n p : Nat} {X : Nat → Nat} (h : p ≤ n) : beT n X p ≤ n := by
  unfold beT
  split
  · split
    · exact rE_le (by omega)
    · split
      · exact rE_le (by omega)
      · omega
  · exact h
theorem beT_ge {n p : Nat} {X : Nat → Nat} : p ≤ beT n X p := by
  unfold beT
  split
  · split
    · exact Nat.le_trans (Nat.le_succ p) rE_ge
    · split
      · exact Nat.le_trans (Nat.le_succ p) rE_ge
      · omega
  · exact Nat.le_refl _
