-- what holds of every world between two instructions
def inR (v : Int32) (n : Nat) : Prop := ∃ j, j ≤ n ∧ v = nI j
def cf (c : sx_C) : List Value := match c with
  | .inr (.inr (.inr (_, fs))) => fs
  | _ => []
def cI (c : sx_C) : List Int32 := match c with
  | .inl (_, l) => l
  | _ => []
/-- a number of the reference's row -/
def eOK (k : Nat) (v : Int32) : Prop :=
  (k = 1 → inR v 10) ∧ (k = 2 → inR v 9) ∧ (7 ≤ k ∧ k < 55 → inR v 3) ∧ (103 ≤ k ∧ k < 163 ∧ (k - 103) % 6 = 0 → inR v 5) ∧ (103 ≤ k ∧ k < 163 ∧ (k - 103) % 6 = 1 → inR v 1) ∧ (103 ≤ k ∧ k < 163 ∧ (k - 103) % 6 = 2 → inR v 47) ∧ (103 ≤ k ∧ k < 163 ∧ (k - 103) % 6 = 3 → inR v 3) ∧ (103 ≤ k ∧ k < 163 ∧ (k - 103) % 6 = 5 → inR v 1) ∧ (163 ≤ k → inR v 47)
def sOK (l : List Int32) : Prop := ∀ k, k < 172 → eOK k (l.getD k 0)
def gOK (fs : List Value) : Prop := inR (vi fs[0]?) 5 ∧ inR (vi fs[1]?) 1 ∧ inR (vi fs[2]?) 47 ∧ inR (vi fs[3]?) 3 ∧ inR (vi fs[5]?) 1
def cOK (a : Nat) (c : sx_C) : Prop :=
  (gAd a → gOK (cf c)) ∧ (isA a → inR (vi (cf c)[3]?) 10 ∧ inR (vi (cf c)[5]?) 9) ∧ (a = 2 ∨ a = 16 ∨ a = 30 → ∀ k, k < 48 → inR ((cI c).getD k 0) 3) ∧ (a = 4 ∨ a = 18 ∨ a = 32 → ∀ k, k < 9 → inR ((cI c).getD k 0) 47) ∧ (a = 0 → inR (vi (cf c)[3]?) 1) ∧ (a = 96 → inR (vi (cf c)[1]?) 120 ∧ inR (vi (cf c)[3]?) 120 ∧ inR (vi (cf c)[4]?) 120) ∧ (a = 103 ∨ a = 105 ∨ a = 107 ∨ a = 109 → inR (vi (cf c)[2]?) 40) ∧ (a = 111 → inR (vi (cf c)[4]?) 1 ∧ inR (vi (cf c)[11]?) 120 ∧ inR (vi (cf c)[12]?) 120) ∧ (a = 112 ∨ a = 113 ∨ a = 114 ∨ a = 115 → sOK (cI c)) ∧ (a = 123 → ∀ k, k < 4 → inR ((cI c).getD k 0) 40)
def WI (w : List sx_C) : Prop := Ty w ∧ ∀ a c, w[a]? = some c → cOK a c
/-- of a cell what no call but a few may change -/
def kp (a : Nat) (c : sx_C) : List Value × List Int32 :=
  if a = 0 then (((cf c)[3]?).toList, []) else if a = 96 then (((cf c)[1]?).toList, []) else if a = 103 ∨ a = 105 ∨ a = 107 ∨ a = 109 then (((cf c)[1]?).toList ++ ((cf c)[2]?).toList, []) else if a = 111 then (((cf c)[4]?).toList ++ ((cf c)[11]?).toList, []) else if a = 122 ∨ a = 123 then ([], cI c) else ([], [])
/-- a run of the class's methods -/
def EC (w w2 : List sx_C) : Prop := ∀ a, (a < 111 → (w2[a]?).map (kp a) = (w[a]?).map (kp a)) ∧ (111 ≤ a → w2[a]? = w[a]?)
/-- a run of the reference's methods -/
def EM (w w2 : List sx_C) : Prop := ∀ a, (a < 111 → w2[a]? = w[a]?) ∧ (111 ≤ a → (w2[a]?).map (kp a) = (w[a]?).map (kp a))
theorem EC.rf {w : List sx_C} : EC w w := fun _ => ⟨fun _ => rfl, fun _ => rfl⟩
theorem EM.rf {w : List sx_C} : EM w w := fun _ => ⟨fun _ => rfl, fun _ => rfl⟩
theorem EC.tr {w w1 w2 : List sx_C} (h : EC w w1) (h2 : EC w1 w2) : EC w w2 := fun a => ⟨fun z => ((h2 a).1 z).trans ((h a).1 z), fun z => ((h2 a).2 z).trans ((h a).2 z)⟩
theorem EM.tr {w w1 w2 : List sx_C} (h : EM w w1) (h2 : EM w1 w2) : EM w w2 := fun a => ⟨fun z => ((h2 a).1 z).trans ((h a).1 z), fun z => ((h2 a).2 z).trans ((h a).2 z)⟩
theorem WI.set {w : List sx_C} {a : Nat} {c c2 : sx_C} (h : WI w) (hw : w[a]? = some c) (hs : sx_sh c2 = sx_sh c) (ho : cOK a c2) : WI (w.set a c2) := by
  refine ⟨h.1.set hw hs, ?_⟩
  intro b d hb
  by_cases e : b = a
  · subst e
    rw [sx_gs2 hw] at hb
    cases hb
    exact ho
  · rw [List.getElem?_set_ne (Ne.symm e)] at hb
    exact h.2 b d hb
theorem EC.set {w0 w : List sx_C} {a : Nat} {c c2 : sx_C} (h : EC w0 w) (hw : w[a]? = some c) (ha : a < 111) (hk : kp a c2 = kp a c) : EC w0 (w.set a c2) := by
  refine h.tr ?_
  intro b
  by_cases e : b = a
  · subst e
    refine ⟨fun _ => ?_, fun z => by omega⟩
    rw [sx_gs2 hw, hw, Option.map_some, Option.map_some, hk]
  · rw [List.getElem?_set_ne (Ne.symm e)]
    exact ⟨fun _ => rfl, fun _ => rfl⟩
theorem EM.set {w0 w : List sx_C} {a : Nat} {c c2 : sx_C} (h : EM w0 w) (hw : w[a]? = some c) (ha : 111 ≤ a) (hk : kp a c2 = kp a c) : EM w0 (w.set a c2) := by
  refine h.tr ?_
  intro b
  by_cases e : b = a
  · subst e
    refine ⟨fun z => by omega, fun _ => ?_⟩
    rw [sx_gs2 hw, hw, Option.map_some, Option.map_some, hk]
  · rw [List.getElem?_set_ne (Ne.symm e)]
    exact ⟨fun _ => rfl, fun _ => rfl⟩
theorem kp_n {a : Nat} {c c2 : sx_C} (h : a ≠ 0 ∧ a ≠ 96 ∧ a ≠ 103 ∧ a ≠ 105 ∧ a ≠ 107 ∧ a ≠ 109 ∧ a ≠ 111 ∧ a ≠ 122 ∧ a ≠ 123) : kp a c2 = kp a c := by
  unfold kp
  rw [if_neg h.1, if_neg h.2.1, if_neg (by omega), if_neg (by omega), if_neg (by omega), if_neg h.1, if_neg h.2.1, if_neg (by omega), if_neg (by omega), if_neg (by omega)]
theorem inR.of {v : Int32} {n j : Nat} (h : j ≤ n) (e : v = nI j) : inR v n := ⟨j, h, e⟩
theorem inR.n {n j : Nat} (h : j ≤ n) : inR (nI j) n := ⟨j, h, rfl⟩
/-- a cell of which nothing is asked -/
theorem cOK.free {a : Nat} {c : sx_C} (h : (44 ≤ a ∧ a ≤ 95) ∨ (97 ≤ a ∧ a ≤ 102) ∨ a = 104 ∨ a = 106 ∨ a = 108 ∨ a = 110 ∨ (116 ≤ a ∧ a ≤ 122) ∨ 124 ≤ a) : cOK a c := by
  unfold cOK gAd isA
  refine ⟨fun z => ?_, fun z => ?_, fun z => ?_, fun z => ?_, fun z => ?_, fun z => ?_, fun z => ?_, fun z => ?_, fun z => ?_, fun z => ?_⟩ <;> omega
theorem cOK.g {a : Nat} {c : sx_C} (ha : gAd a) (h : gOK (cf c)) : cOK a c := by
  unfold gAd at ha
  unfold cOK isA
  refine ⟨fun _ => h, fun z => ?_, fun z => ?_, fun z => ?_, fun z => ?_, fun z => ?_, fun z => ?_, fun z => ?_, fun z => ?_, fun z => ?_⟩ <;> omega
theorem cOK.c {a : Nat} {c : sx_C} (ha : isA a) (h : inR (vi (cf c)[3]?) 10 ∧ inR (vi (cf c)[5]?) 9) : cOK a c := by
  unfold isA at ha
  unfold cOK gAd
  refine ⟨fun z => ?_, fun _ => h, fun z => ?_, fun z => ?_, fun z => ?_, fun z => ?_, fun z => ?_, fun z => ?_, fun z => ?_, fun z => ?_⟩ <;> omega
theorem cOK.st {a : Nat} {c : sx_C} (ha : isA a) (h : ∀ k, k < 48 → inR ((cI c).getD k 0) 3) : cOK (a + 1) c := by
  unfold isA at ha
  unfold cOK gAd isA
  refine ⟨fun z => ?_, fun z => ?_, fun _ => h, fun z => ?_, fun z => ?_, fun z => ?_, fun z => ?_, fun z => ?_, fun z => ?_, fun z => ?_⟩ <;> omega
theorem cOK.di {a : Nat} {c : sx_C} (ha : isA a) (h : ∀ k, k < 9 → inR ((cI c).getD k 0) 47) : cOK (a + 3) c := by
  unfold isA at ha
  unfold cOK gAd isA
  refine ⟨fun z => ?_, fun z => ?_, fun z => ?_, fun _ => h, fun z => ?_, fun z => ?_, fun z => ?_, fun z => ?_, fun z => ?_, fun z => ?_⟩ <;> omega
theorem cOK.t {c : sx_C} (h : inR (vi (cf c)[1]?) 120 ∧ inR (vi (cf c)[3]?) 120 ∧ inR (vi (cf c)[4]?) 120) : cOK 96 c := by
  unfold cOK gAd isA
  refine ⟨fun z => ?_, fun z => ?_, fun z => ?_, fun z => ?_, fun z => ?_, fun _ => h, fun z => ?_, fun z => ?_, fun z => ?_, fun z => ?_⟩ <;> omega
theorem cOK.o {c : sx_C} (h : inR (vi (cf c)[3]?) 1) : cOK 0 c := by
  unfold cOK gAd isA
  refine ⟨fun z => ?_, fun z => ?_, fun z => ?_, fun z => ?_, fun _ => h, fun z => ?_, fun z => ?_, fun z => ?_, fun z => ?_, fun z => ?_⟩ <;> omega
theorem cOK.sh {s : Nat} {c : sx_C} (hs : s < 4) (h : inR (vi (cf c)[2]?) 40) : cOK (103 + 2 * s) c := by
  unfold cOK gAd isA
  refine ⟨fun z => ?_, fun z => ?_, fun z => ?_, fun z => ?_, fun z => ?_, fun z => ?_, fun _ => h, fun z => ?_, fun z => ?_, fun z => ?_⟩ <;> omega
theorem cOK.m {c : sx_C} (h : inR (vi (cf c)[4]?) 1 ∧ inR (vi (cf c)[11]?) 120 ∧ inR (vi (cf c)[12]?) 120) : cOK 111 c := by
  unfold cOK gAd isA
  refine ⟨fun z => ?_, fun z => ?_, fun z => ?_, fun z => ?_, fun z => ?_, fun z => ?_, fun z => ?_, fun _ => h, fun z => ?_, fun z => ?_⟩ <;> omega
theorem cOK.s {a : Nat} {c : sx_C} (ha : 112 ≤ a ∧ a ≤ 115) (h : sOK (cI c)) : cOK a c := by
  unfold cOK gAd isA
  refine ⟨fun z => ?_, fun z => ?_, fun z => ?_, fun z => ?_, fun z => ?_, fun z => ?_, fun z => ?_, fun z => ?_, fun _ => h, fun z => ?_⟩ <;> omega
theorem cOK.l {c : sx_C} (h : ∀ k, k < 4 → inR ((cI c).getD k 0) 40) : cOK 123 c := by
  unfold cOK gAd isA
  refine ⟨fun z => ?_, fun z => ?_, fun z => ?_, fun z => ?_, fun z => ?_, fun z => ?_, fun z => ?_, fun z => ?_, fun z => ?_, fun _ => h⟩ <;> omega
