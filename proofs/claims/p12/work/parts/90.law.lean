-- the law: its script, the start of its loop
section SXLAW
variable {ys : List Int32} {d mi pc pc2 : Nat} {ls : sx_L} {r : List Value} {w : List sx_C} {P : Option Value → List sx_C → Prop}
theorem sx_RP.scr {x : Nat} (hi : sx_ins mi pc = some (.iaload, 1)) (hx : x < ys.length) (hl : ys.length ≤ 3072) (hp : pc + 1 = pc2) (kk : sx_RP (some ys) d mi pc2 ls (.int (ys.getD x 0) :: r) w P) : sx_RP (some ys) d mi pc ls (.int (nI x) :: .float 4 :: r) w P :=
  sx_RP.stat (k := 4) hi rfl ⟨sx_in_nI (n := ys.length) hx (by omega), by rw [nI_clamp (by omega)]; rfl⟩ hp kk
end SXLAW
theorem law_le {len i : Nat} (hlen : len ≤ 3072) (hi : i ≤ 3072) (h : ¬ (nI len - 6 < nI i)) : i + 6 ≤ len := by
  by_cases h6 : 6 ≤ len
  · rw [show (6 : Int32) = nI 6 from rfl, nI_sub h6] at h
    have := mt (nI_ltI (a := len - 6) (b := i) (by omega) (by omega)).mpr h
    omega
  · exfalso
    apply h
    have e : (nI len - 6).toInt < 0 := by
      rcases (show len = 0 ∨ len = 1 ∨ len = 2 ∨ len = 3 ∨ len = 4 ∨ len = 5 by omega) with rfl | rfl | rfl | rfl | rfl | rfl <;> decide
    rw [Int32.lt_iff_toInt_lt, nI_toInt (by omega)]
    omega
def inRb (v : Int32) (n : Nat) : Bool := (List.range (n + 1)).any (fun j => decide (v = nI j))
theorem inRb_ok {v : Int32} {n : Nat} (h : inRb v n = true) : inR v n := by
  unfold inRb at h
  obtain ⟨j, hj, e⟩ := List.any_eq_true.mp h
  exact ⟨j, by have := List.mem_range.mp hj; omega, of_decide_eq_true e⟩
def impb (p : Prop) [Decidable p] (b : Bool) : Bool := !(decide p) || b
theorem impb_ok {p : Prop} [Decidable p] {b : Bool} (h : impb p b = true) (hp : p) : b = true := by
  unfold impb at h
  rw [decide_eq_true hp] at h
  exact h
def eOKb (k : Nat) (v : Int32) : Bool :=
  impb (k = 1) (inRb v 10) && (impb (k = 2) (inRb v 9) && (impb (7 ≤ k ∧ k < 55) (inRb v 3) && (impb (103 ≤ k ∧ k < 163 ∧ (k - 103) % 6 = 0) (inRb v 5) && (impb (103 ≤ k ∧ k < 163 ∧ (k - 103) % 6 = 1) (inRb v 1) && (impb (103 ≤ k ∧ k < 163 ∧ (k - 103) % 6 = 2) (inRb v 47) && (impb (103 ≤ k ∧ k < 163 ∧ (k - 103) % 6 = 3) (inRb v 3) && (impb (103 ≤ k ∧ k < 163 ∧ (k - 103) % 6 = 5) (inRb v 1) && impb (163 ≤ k) (inRb v 47))))))))
theorem eOKb_ok {k : Nat} {v : Int32} (h : eOKb k v = true) : eOK k v := by
  unfold eOKb at h
  simp only [Bool.and_eq_true] at h
  obtain ⟨h1, h2, h3, h4, h5, h6, h7, h8, h9⟩ := h
  exact ⟨fun z => inRb_ok (impb_ok h1 z), fun z => inRb_ok (impb_ok h2 z), fun z => inRb_ok (impb_ok h3 z), fun z => inRb_ok (impb_ok h4 z), fun z => inRb_ok (impb_ok h5 z), fun z => inRb_ok (impb_ok h6 z), fun z => inRb_ok (impb_ok h7 z), fun z => inRb_ok (impb_ok h8 z), fun z => inRb_ok (impb_ok h9 z)⟩
def allb (n : Nat) (f : Nat → Bool) : Bool := (List.range n).all f
theorem allb_ok {n : Nat} {f : Nat → Bool} (h : allb n f = true) {k : Nat} (hk : k < n) : f k = true := List.all_eq_true.mp h k (List.mem_range.mpr hk)
def cOKb (a : Nat) (c : sx_C) : Bool :=
  impb ((5 ≤ a ∧ a < 15) ∨ (19 ≤ a ∧ a < 29) ∨ (33 ≤ a ∧ a < 44)) (inRb (vi (cf c)[0]?) 5 && (inRb (vi (cf c)[1]?) 1 && (inRb (vi (cf c)[2]?) 47 && (inRb (vi (cf c)[3]?) 3 && inRb (vi (cf c)[5]?) 1)))) && (impb (a = 1 ∨ a = 15 ∨ a = 29) (inRb (vi (cf c)[3]?) 10 && inRb (vi (cf c)[5]?) 9) && (impb (a = 2 ∨ a = 16 ∨ a = 30) (allb 48 (fun k => inRb ((cI c).getD k 0) 3)) && (impb (a = 4 ∨ a = 18 ∨ a = 32) (allb 9 (fun k => inRb ((cI c).getD k 0) 47)) && (impb (a = 0) (inRb (vi (cf c)[3]?) 1) && (impb (a = 96) (inRb (vi (cf c)[1]?) 120 && (inRb (vi (cf c)[3]?) 120 && inRb (vi (cf c)[4]?) 120)) && (impb (a = 103 ∨ a = 105 ∨ a = 107 ∨ a = 109) (inRb (vi (cf c)[2]?) 40) && (impb (a = 111) (inRb (vi (cf c)[4]?) 1 && (inRb (vi (cf c)[11]?) 120 && inRb (vi (cf c)[12]?) 120)) && (impb (a = 112 ∨ a = 113 ∨ a = 114 ∨ a = 115) (allb 172 (fun k => eOKb k ((cI c).getD k 0))) && impb (a = 123) (allb 4 (fun k => inRb ((cI c).getD k 0) 40))))))))))
theorem cOKb_ok {a : Nat} {c : sx_C} (h : cOKb a c = true) : cOK a c := by
  unfold cOKb at h
  simp only [Bool.and_eq_true] at h
  obtain ⟨h1, h2, h3, h4, h5, h6, h7, h8, h9, h10⟩ := h
  refine ⟨fun z => ?_, fun z => ?_, fun z k hk => inRb_ok (allb_ok (impb_ok h3 z) hk), fun z k hk => inRb_ok (allb_ok (impb_ok h4 z) hk), fun z => inRb_ok (impb_ok h5 z), fun z => ?_, fun z => inRb_ok (impb_ok h7 z), fun z => ?_, fun z k hk => eOKb_ok (allb_ok (impb_ok h9 z) hk), fun z k hk => inRb_ok (allb_ok (impb_ok h10 z) hk)⟩
  · have := impb_ok h1 z
    simp only [Bool.and_eq_true] at this
    exact ⟨inRb_ok this.1, inRb_ok this.2.1, inRb_ok this.2.2.1, inRb_ok this.2.2.2.1, inRb_ok this.2.2.2.2⟩
  · have := impb_ok h2 z
    simp only [Bool.and_eq_true] at this
    exact ⟨inRb_ok this.1, inRb_ok this.2⟩
  · have := impb_ok h6 z
    simp only [Bool.and_eq_true] at this
    exact ⟨inRb_ok this.1, inRb_ok this.2.1, inRb_ok this.2.2⟩
  · have := impb_ok h8 z
    simp only [Bool.and_eq_true] at this
    exact ⟨inRb_ok this.1, inRb_ok this.2.1, inRb_ok this.2.2⟩
theorem w0_ok : allb 126 (fun a => match (sx_w0[a]? : Option sx_C) with
  | some c => cOKb a c
  | none => true) = true := by decide +kernel
theorem w0_WI : WI sx_w0 := by
  refine ⟨rfl, ?_⟩
  intro a c hc
  have ha : a < 126 := by
    have := (List.getElem?_eq_some_iff.mp hc).1
    rw [sx_w0_len] at this
    exact this
  have h := allb_ok w0_ok ha
  rw [hc] at h
  exact cOKb_ok h
theorem fi_eqw {w w2 : List sx_C} {a : Nat} (k : Nat) (h : w2[a]? = w[a]?) : fi w2 a k = fi w a k := by
  unfold fi fs_
  rw [h]
/-- the law's line -/
def LI (w : List sx_C) : Prop := ∃ s : ST, CLS w s ∧ REF w s ∧ bOK w
theorem r139 {xs : Option (List Int32)} {d : Nat} {w : List sx_C} {s : ST} (hI : WI w) (hR : REF w s) : sx_RP xs (d + 7) 139 0 (lv_args 0 [.ref 111]) [] w (fun r w2 => (∃ v : Int64, r = some (.long v)) ∧ WI w2 ∧ REF w2 s ∧ ∀ a, a < 111 → w2[a]? = w[a]?) := by
  obtain ⟨v, h⟩ := p139 (xs := xs) (d := d) hI
  exact ⟨_, _, h, ⟨v, rfl⟩, hI, hR, fun _ _ => rfl⟩
