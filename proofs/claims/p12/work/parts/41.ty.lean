-- shapes of worlds, and what lies in them
def sx_zv (v : Value) : Value := match v with
  | .int _ => .int 0
  | .long _ => .long 0
  | v => v
def sx_sh (c : sx_C) : sx_C := match c with
  | .inl (t, l) => .inl (t, List.replicate l.length 0)
  | .inr (.inl (t, l)) => .inr (.inl (t, List.replicate l.length 0))
  | .inr (.inr (.inl p)) => .inr (.inr (.inl p))
  | .inr (.inr (.inr (ci, fs))) => .inr (.inr (.inr (ci, fs.map sx_zv)))
def Ty (w : List sx_C) : Prop := w.map sx_sh = sx_w0.map sx_sh
def ia (w : List sx_C) (a : Nat) : List Int32 := match w[a]? with
  | some (.inl (_, l)) => l
  | _ => []
def ja (w : List sx_C) (a : Nat) : List Int64 := match w[a]? with
  | some (.inr (.inl (_, l))) => l
  | _ => []
def vi (v : Option Value) : Int32 := match v with
  | some (.int x) => x
  | _ => 0
def vj (v : Option Value) : Int64 := match v with
  | some (.long x) => x
  | _ => 0
def fs_ (w : List sx_C) (a : Nat) : List Value := match w[a]? with
  | some (.inr (.inr (.inr (_, fs)))) => fs
  | _ => []
def fi (w : List sx_C) (a k : Nat) : Int32 := vi (fs_ w a)[k]?
def fj (w : List sx_C) (a k : Nat) : Int64 := vj (fs_ w a)[k]?
theorem Ty.at {w : List sx_C} {a : Nat} {c0 : sx_C} (h : Ty w) (h0 : sx_w0[a]? = some c0) : ∃ c, w[a]? = some c ∧ sx_sh c = sx_sh c0 := by
  have e : (w.map sx_sh)[a]? = (sx_w0.map sx_sh)[a]? := by rw [h]
  rw [List.getElem?_map, List.getElem?_map, h0] at e
  cases hw : w[a]? with
  | none => rw [hw] at e; cases e
  | some c =>
    rw [hw] at e
    exact ⟨c, rfl, Option.some.inj e⟩
theorem Ty.set {w : List sx_C} {a : Nat} {c c2 : sx_C} (h : Ty w) (hw : w[a]? = some c) (hs : sx_sh c2 = sx_sh c) : Ty (w.set a c2) := by
  unfold Ty at h ⊢
  rw [List.map_set, ← h, hs]
  apply List.ext_getElem?
  intro i
  by_cases e : a = i
  · subst e
    have hl : a < (w.map sx_sh).length := by rw [List.length_map]; exact (List.getElem?_eq_some_iff.mp hw).1
    rw [List.getElem?_set_self hl, List.getElem?_map, hw]
    rfl
  · rw [List.getElem?_set_ne e]
theorem Ty.ai {w : List sx_C} {a t : Nat} {l0 : List Int32} (h : Ty w) (h0 : sx_w0[a]? = some (.inl (t, l0))) : w[a]? = some (.inl (t, ia w a)) ∧ (ia w a).length = l0.length := by
  obtain ⟨c, hc, hs⟩ := h.at h0
  match c, hs, hc with
  | .inl (t2, l), hs, hc =>
    have e1 : t2 = t ∧ List.replicate l.length (0 : Int32) = List.replicate l0.length 0 := by
      have := Sum.inl.inj hs
      exact Prod.mk.inj this
    have e2 : l.length = l0.length := by
      have := congrArg List.length e1.2
      rw [List.length_replicate, List.length_replicate] at this
      exact this
    have e3 : ia w a = l := by unfold ia; rw [hc]
    rw [e3, hc, e1.1]
    exact ⟨rfl, e2⟩
theorem Ty.aj {w : List sx_C} {a t : Nat} {l0 : List Int64} (h : Ty w) (h0 : sx_w0[a]? = some (.inr (.inl (t, l0)))) : w[a]? = some (.inr (.inl (t, ja w a))) ∧ (ja w a).length = l0.length := by
  obtain ⟨c, hc, hs⟩ := h.at h0
  match c, hs, hc with
  | .inr (.inl (t2, l)), hs, hc =>
    have e1 : t2 = t ∧ List.replicate l.length (0 : Int64) = List.replicate l0.length 0 := by
      have := Sum.inl.inj (Sum.inr.inj hs)
      exact Prod.mk.inj this
    have e2 : l.length = l0.length := by
      have := congrArg List.length e1.2
      rw [List.length_replicate, List.length_replicate] at this
      exact this
    have e3 : ja w a = l := by unfold ja; rw [hc]
    rw [e3, hc, e1.1]
    exact ⟨rfl, e2⟩
theorem Ty.rf {w : List sx_C} {a : Nat} {p : Nat × List (Option Nat)} (h : Ty w) (h0 : sx_w0[a]? = some (.inr (.inr (.inl p)))) : w[a]? = some (.inr (.inr (.inl p))) := by
  obtain ⟨c, hc, hs⟩ := h.at h0
  match c, hs, hc with
  | .inr (.inr (.inl q)), hs, hc =>
    have e : q = p := Sum.inl.inj (Sum.inr.inj (Sum.inr.inj hs))
    rw [hc, e]
/-- a row of fields, its numbers as they lie in w -/
def rb (fs : List Value) : Nat → List Value → List Value
  | _, [] => []
  | k, .int _ :: r => .int (vi fs[k]?) :: rb fs (k + 1) r
  | k, .long _ :: r => .long (vj fs[k]?) :: rb fs (k + 1) r
  | k, v :: r => v :: rb fs (k + 1) r
theorem rb_of {fs : List Value} : ∀ (r0 r : List Value) (k : Nat), (∀ j, r[j]? = fs[k + j]?) → r.map sx_zv = r0.map sx_zv → r = rb fs k r0
  | [], [], _, _, _ => rfl
  | [], _ :: _, _, _, h => by cases h
  | _ :: _, [], _, _, h => by cases h
  | v0 :: r0, v :: r, k, hj, h => by
    have h1 : sx_zv v = sx_zv v0 := (List.cons.inj h).1
    have h2 := rb_of r0 r (k + 1) (fun j => by have := hj (j + 1); rw [List.getElem?_cons_succ] at this; rw [this, Nat.add_assoc, Nat.add_comm 1 j]) (List.cons.inj h).2
    have h3 : fs[k]? = some v := by have := hj 0; rw [List.getElem?_cons_zero, Nat.add_zero] at this; exact this.symm
    cases v0 with
    | int x =>
      cases v with
      | int y => unfold rb; rw [h3, ← h2]; rfl
      | long y => cases h1
      | float y => cases h1
      | double y => cases h1
      | null => cases h1
      | ref y => cases h1
      | retAddr y => cases h1
    | long x =>
      cases v with
      | long y => unfold rb; rw [h3, ← h2]; rfl
      | int y => cases h1
      | float y => cases h1
      | double y => cases h1
      | null => cases h1
      | ref y => cases h1
      | retAddr y => cases h1
    | float x => cases v <;> first | (cases h1; done) | (cases h1; unfold rb; rw [← h2])
    | double x => cases v <;> first | (cases h1; done) | (cases h1; unfold rb; rw [← h2])
    | null => cases v <;> first | (cases h1; done) | (cases h1; unfold rb; rw [← h2]) | (unfold rb; rw [← h2])
    | ref x => cases v <;> first | (cases h1; done) | (cases h1; unfold rb; rw [← h2])
    | retAddr x => cases v <;> first | (cases h1; done) | (cases h1; unfold rb; rw [← h2])
theorem Ty.ob {w : List sx_C} {a ci : Nat} {fs0 : List Value} (h : Ty w) (h0 : sx_w0[a]? = some (.inr (.inr (.inr (ci, fs0))))) : w[a]? = some (.inr (.inr (.inr (ci, rb (fs_ w a) 0 fs0)))) := by
  obtain ⟨c, hc, hs⟩ := h.at h0
  match c, hs, hc with
  | .inr (.inr (.inr (ci2, fs))), hs, hc =>
    have e := Prod.mk.inj (Sum.inr.inj (Sum.inr.inj (Sum.inr.inj hs)))
    have e3 : fs_ w a = fs := by unfold fs_; rw [hc]
    rw [e3, ← rb_of (fs := fs) fs0 fs 0 (fun j => by rw [Nat.zero_add]) e.2, hc, e.1]
/-- the three camps -/
def isA (A : Nat) : Prop := A = 1 ∨ A = 15 ∨ A = 29
theorem isA.lt {A : Nat} (h : isA A) : A + 14 ≤ 43 ∧ 1 ≤ A := by
  rcases h with rfl | rfl | rfl <;> decide
section TYL
variable {w : List sx_C}
theorem Ty.o0 (h : Ty w) : w[0]? = some (.inr (.inr (.inr (0, [.ref 1, .ref 15, .ref 29, .int (fi w 0 3), .ref 43, .ref 44, .ref 96, .ref 98, .ref 99, .ref 100, .ref 101, .ref 102])))) := by
  have e := Ty.ob (a := 0) h rfl
  exact e
theorem Ty.o44 (h : Ty w) : w[44]? = some (.inr (.inr (.inr (3, [.ref 45, .ref 46, .ref 95])))) := by
  have e := Ty.ob (a := 44) h rfl
  exact e
theorem Ty.o96 (h : Ty w) : w[96]? = some (.inr (.inr (.inr (4, [.ref 97, .int (fi w 96 1), .int (fi w 96 2), .int (fi w 96 3), .int (fi w 96 4), .int (fi w 96 5)])))) := by
  have e := Ty.ob (a := 96) h rfl
  exact e
theorem Ty.o111 (h : Ty w) : w[111]? = some (.inr (.inr (.inr (6, [.ref 112, .ref 113, .ref 114, .ref 115, .int (fi w 111 4), .ref 116, .ref 117, .ref 118, .ref 119, .ref 120, .ref 121, .int (fi w 111 11), .int (fi w 111 12), .int (fi w 111 13), .int (fi w 111 14), .ref 122, .ref 123, .ref 124, .ref 125])))) := by
  have e := Ty.ob (a := 111) h rfl
  exact e
theorem Ty.oC (h : Ty w) {A : Nat} (hA : isA A) : w[A]? = some (.inr (.inr (.inr (1, [.ref (A + 1), .long (fj w A 1), .ref (A + 2), .int (fi w A 3), .ref (A + 3), .int (fi w A 5), .int (fi w A 6), .int (fi w A 7), .int (fi w A 8), .int (fi w A 9), .int (fi w A 10)])))) := by
  rcases hA with rfl | rfl | rfl
  · have e := Ty.ob (a := 1) h rfl
    exact e
  · have e := Ty.ob (a := 15) h rfl
    exact e
  · have e := Ty.ob (a := 29) h rfl
    exact e
theorem Ty.oS (h : Ty w) {s : Nat} (hs : s < 4) : w[103 + 2 * s]? = some (.inr (.inr (.inr (5, [.ref (104 + 2 * s), .int (fi w (103 + 2 * s) 1), .int (fi w (103 + 2 * s) 2)])))) := by
  rcases (show s = 0 ∨ s = 1 ∨ s = 2 ∨ s = 3 by omega) with rfl | rfl | rfl | rfl
  · have e := Ty.ob (a := 103) h rfl
    exact e
  · have e := Ty.ob (a := 105) h rfl
    exact e
  · have e := Ty.ob (a := 107) h rfl
    exact e
  · have e := Ty.ob (a := 109) h rfl
    exact e
def gAd (a : Nat) : Prop := (5 ≤ a ∧ a < 15) ∨ (19 ≤ a ∧ a < 29) ∨ (33 ≤ a ∧ a < 44)
theorem gAd.w0 : ∀ a, a < 44 → (decide (5 ≤ a ∧ a < 15 ∨ 19 ≤ a ∧ a < 29 ∨ 33 ≤ a ∧ a < 44) = false) ∨ (match (sx_w0[a]? : Option sx_C) with
  | some c => sx_eqC c (.inr (.inr (.inr (2, [.int 0, .int 0, .int 0, .int 0, .int 0, .int 0]))))
  | none => false) = true := by decide +kernel
theorem Ty.oG (h : Ty w) {a : Nat} (ha : gAd a) : w[a]? = some (.inr (.inr (.inr (2, [.int (fi w a 0), .int (fi w a 1), .int (fi w a 2), .int (fi w a 3), .int (fi w a 4), .int (fi w a 5)])))) := by
  have h1 := gAd.w0 a (by unfold gAd at ha; omega)
  rcases h1 with h1 | h1
  · have h2 := of_decide_eq_false h1
    exact absurd ha h2
  · split at h1
    · rename_i c hc
      rw [sx_eqC_of h1] at hc
      exact h.ob hc
    · cases h1
theorem Ty.aS (h : Ty w) {A : Nat} (hA : isA A) : w[A + 1]? = some (.inl (0, ia w (A + 1))) ∧ (ia w (A + 1)).length = 48 := by
  rcases hA with rfl | rfl | rfl
  · exact h.ai (t := 0) (l0 := List.replicate 48 0) rfl
  · exact h.ai (t := 0) (l0 := List.replicate 48 0) rfl
  · exact h.ai (t := 0) (l0 := List.replicate 48 0) rfl
theorem Ty.aD (h : Ty w) {A : Nat} (hA : isA A) : w[A + 3]? = some (.inl (0, ia w (A + 3))) ∧ (ia w (A + 3)).length = 9 := by
  rcases hA with rfl | rfl | rfl
  · exact h.ai (t := 0) (l0 := List.replicate 9 0) rfl
  · exact h.ai (t := 0) (l0 := List.replicate 9 0) rfl
  · exact h.ai (t := 0) (l0 := List.replicate 9 0) rfl
def grA (A : Nat) : List (Option Nat) := (List.range 10).map (fun i => some (A + 4 + i))
theorem Ty.aG (h : Ty w) {A : Nat} (hA : isA A) : w[A + 2]? = some (.inr (.inr (.inl (4, grA A)))) := by
  rcases hA with rfl | rfl | rfl
  · exact h.rf rfl
  · exact h.rf rfl
  · exact h.rf rfl
def shA : List (Option Nat) := (List.range 4).map (fun i => some (103 + 2 * i))
theorem Ty.a98 (h : Ty w) : w[98]? = some (.inr (.inr (.inl (5, shA)))) := h.rf rfl
theorem Ty.a46 (h : Ty w) : w[46]? = some (.inr (.inr (.inl (6, rr48)))) := h.rf rfl
end TYL
theorem grA_at {A i : Nat} (hi : i < 10) : sx_in (nI i) (grA A).length = true ∧ sx_rf ((grA A).getD (nI i).toNatClampNeg none) = .ref (A + 4 + i) := by
  have e : (grA A).getD (nI i).toNatClampNeg none = some (A + 4 + i) := by
    rw [nI_clamp (by omega), grA, List.getD_eq_getElem?_getD, List.getElem?_map, List.getElem?_range hi]
    rfl
  rw [e]
  have hl : (grA A).length = 10 := by rw [grA, List.length_map, List.length_range]
  exact ⟨sx_in_nI (by rw [hl]; exact hi) (by rw [hl]; decide), rfl⟩
theorem shA_at {i : Nat} (hi : i < 4) : sx_in (nI i) shA.length = true ∧ sx_rf (shA.getD (nI i).toNatClampNeg none) = .ref (103 + 2 * i) := by
  have e : shA.getD (nI i).toNatClampNeg none = some (103 + 2 * i) := by
    rw [nI_clamp (by omega), shA, List.getD_eq_getElem?_getD, List.getElem?_map, List.getElem?_range hi]
    rfl
  rw [e]
  exact ⟨sx_in_nI (by rw [shA, List.length_map, List.length_range]; exact hi) (by decide), rfl⟩
theorem gAd.of {A i : Nat} (hA : isA A) (hi : i < 10) : gAd (A + 4 + i) := by
  unfold gAd
  rcases hA with rfl | rfl | rfl <;> omega
theorem gAd.t : gAd 43 := Or.inr (Or.inr ⟨by decide, by decide⟩)
-- what a written cell shows
theorem ia_set {w : List sx_C} {a t : Nat} {x : sx_C} {l : List Int32} (hw : w[a]? = some x) : ia (w.set a (.inl (t, l))) a = l := by
  unfold ia
  rw [sx_gs2 hw]
theorem ia_ne {w : List sx_C} {a b : Nat} {c : sx_C} (h : a ≠ b) : ia (w.set b c) a = ia w a := by
  unfold ia
  rw [List.getElem?_set_ne (Ne.symm h)]
theorem ja_ne {w : List sx_C} {a b : Nat} {c : sx_C} (h : a ≠ b) : ja (w.set b c) a = ja w a := by
  unfold ja
  rw [List.getElem?_set_ne (Ne.symm h)]
theorem fs_set {w : List sx_C} {a ci : Nat} {x : sx_C} {l : List Value} (hw : w[a]? = some x) : fs_ (w.set a (.inr (.inr (.inr (ci, l))))) a = l := by
  unfold fs_
  rw [sx_gs2 hw]
theorem fs_ne {w : List sx_C} {a b : Nat} {c : sx_C} (h : a ≠ b) : fs_ (w.set b c) a = fs_ w a := by
  unfold fs_
  rw [List.getElem?_set_ne (Ne.symm h)]
theorem fi_ne {w : List sx_C} {a b k : Nat} {c : sx_C} (h : a ≠ b) : fi (w.set b c) a k = fi w a k := by
  unfold fi
  rw [fs_ne h]
theorem fj_ne {w : List sx_C} {a b k : Nat} {c : sx_C} (h : a ≠ b) : fj (w.set b c) a k = fj w a k := by
  unfold fj
  rw [fs_ne h]
