-- 89y31.state.lean.txt
section
-- the state of both sides
theorem sx_between {a : Int32} (h : 0 ≤ a ∧ a ≤ 3) : ∃ s, s < 4 ∧ a = nI s := by
  rw [Int32.le_iff_toInt_le, Int32.le_iff_toInt_le] at h
  have h1 : (0 : Int32).toInt = 0 := by decide
  have h2 : (3 : Int32).toInt = 3 := by decide
  refine ⟨a.toInt.toNat, by omega, ?_⟩
  rw [← Int32.toInt_inj, nI_toInt (by omega)]
  omega
abbrev ST := List Int32 × Int32 × List Int32 × List Int32 × (Nat → Int32 × Int32) × (Nat → Nat → Int64)
def CLS (w : List sx_C) (s : ST) : Prop := (rel w 1 s.1 ∧ fi w 0 3 = s.2.1 ∧ (s.2.1 = 1 → rel w 15 s.2.2.1)) ∧ (tapC w = s.2.2.2.1 ∧ FCs w = s.2.2.2.2.1 ∧ NCs w = s.2.2.2.2.2) ∧ SK w
def REF (w : List sx_C) (s : ST) : Prop := (ia w 112 = s.1 ∧ fi w 111 4 = s.2.1 ∧ (s.2.1 = 1 → ia w 113 = s.2.2.1)) ∧ (tapM w = s.2.2.2.1 ∧ FMs w = s.2.2.2.2.1 ∧ NMs w = s.2.2.2.2.2)
theorem tapC_eq {w w2 : List sx_C} (h1 : w2[96]? = w[96]?) (h2 : w2[97]? = w[97]?) : tapC w2 = tapC w := by
  unfold tapC
  rw [fi_same 1 h1, ia_of h2]
theorem tapM_eq {w w2 : List sx_C} (h1 : fi w2 111 11 = fi w 111 11) (h2 : w2[121]? = w[121]?) : tapM w2 = tapM w := by
  unfold tapM
  rw [h1, ia_of h2]
theorem isA15 : isA 15 := Or.inr (Or.inl rfl)
theorem isA1 : isA 1 := Or.inl rfl
section SXST
variable {w w2 : List sx_C} {s : ST}
theorem CLS.fr (h : CLS w s) (hI : WI w) (hE : ∀ a, (a < 29 ∨ a = 96 ∨ a = 97 ∨ (103 ≤ a ∧ a < 111)) → w2[a]? = w[a]?) (hK : SK w → SK w2) : CLS w2 s :=
  ⟨⟨h.1.1.same hI isA1 (fun a _ _ => hE a (by omega)), (fi_same 3 (hE 0 (by omega))).trans h.1.2.1, fun k => (h.1.2.2 k).same hI isA15 (fun a _ _ => hE a (by omega))⟩, ⟨(tapC_eq (hE 96 (by omega)) (hE 97 (by omega))).trans h.2.1.1, (FCs_eq (fun q hq => hE _ (by omega))).trans h.2.1.2.1, (NCs_eq (fun q hq => hE _ (by omega))).trans h.2.1.2.2⟩, hK h.2.2⟩
theorem CLS.lo (h : CLS w s) (hI : WI w) (hE : ∀ a, a < 111 → w2[a]? = w[a]?) : CLS w2 s := h.fr hI (fun a ha => hE a (by omega)) (fun z => z.same (fun a _ _ => hE a (by omega)))
theorem CLS.es (h : CLS w s) (hI : WI w) (hE : ES w w2) : CLS w2 s := h.fr hI (fun a ha => hE.1 a (by unfold qc; omega)) hE.2
theorem CLS.row {l2 : List Int32} (h : CLS w s) (hI : WI w) (hr : rel w2 1 l2) (hE : EO w w2) : CLS w2 (l2, s.2) :=
  ⟨⟨hr, (fi_same 3 (hE 0 (by unfold oc; omega))).trans h.1.2.1, fun k => (h.1.2.2 k).same hI isA15 (fun a _ _ => hE a (by unfold oc; omega))⟩, ⟨(tapC_eq (hE 96 (by unfold oc; omega)) (hE 97 (by unfold oc; omega))).trans h.2.1.1, (FCs_eq (fun q hq => hE _ (by unfold oc; omega))).trans h.2.1.2.1, (NCs_eq (fun q hq => hE _ (by unfold oc; omega))).trans h.2.1.2.2⟩, h.2.2.same (fun a _ _ => hE a (by unfold oc; omega))⟩
theorem CLS.sh {F2 : Nat → Int32 × Int32} {N2 : Nat → Nat → Int64} (h : CLS w s) (hI : WI w) (hF : FCs w2 = F2) (hN : NCs w2 = N2) (hK : SK w2) (hE : ∀ a, (a < 29 ∨ a = 96 ∨ a = 97) → w2[a]? = w[a]?) : CLS w2 (s.1, s.2.1, s.2.2.1, s.2.2.2.1, F2, N2) :=
  ⟨⟨h.1.1.same hI isA1 (fun a _ _ => hE a (by omega)), (fi_same 3 (hE 0 (by omega))).trans h.1.2.1, fun k => (h.1.2.2 k).same hI isA15 (fun a _ _ => hE a (by omega))⟩, ⟨(tapC_eq (hE 96 (by omega)) (hE 97 (by omega))).trans h.2.1.1, hF, hN⟩, hK⟩
theorem CLS.tp {l2 t2 : List Int32} (h : CLS w s) (hI : WI w) (hr : rel w2 1 l2) (ht : tapC w2 = t2) (hE : ∀ a, (a = 0 ∨ (15 ≤ a ∧ a < 29) ∨ (44 ≤ a ∧ a < 96) ∨ (103 ≤ a ∧ a < 111)) → w2[a]? = w[a]?) : CLS w2 (l2, s.2.1, s.2.2.1, t2, s.2.2.2.2) :=
  ⟨⟨hr, (fi_same 3 (hE 0 (by omega))).trans h.1.2.1, fun k => (h.1.2.2 k).same hI isA15 (fun a _ _ => hE a (by omega))⟩, ⟨ht, (FCs_eq (fun q hq => hE _ (by omega))).trans h.2.1.2.1, (NCs_eq (fun q hq => hE _ (by omega))).trans h.2.1.2.2⟩, h.2.2.same (fun a _ _ => hE a (by omega))⟩
theorem REF.fr (h : REF w s) (hi : ia w2 112 = ia w 112) (hE : ∀ a, (a = 111 ∨ a = 113 ∨ 121 ≤ a) → w2[a]? = w[a]?) : REF w2 s :=
  ⟨⟨hi.trans h.1.1, (fi_same 4 (hE 111 (by omega))).trans h.1.2.1, fun k => (ia_of (hE 113 (by omega))).trans (h.1.2.2 k)⟩, ⟨(tapM_eq (fi_same 11 (hE 111 (by omega))) (hE 121 (by omega))).trans h.2.1, (FMs_eq (hE 122 (by omega)) (hE 123 (by omega))).trans h.2.2.1, (NMs_eq (hE 124 (by omega))).trans h.2.2.2⟩⟩
theorem REF.hi (h : REF w s) (hE : ∀ a, 111 ≤ a → w2[a]? = w[a]?) : REF w2 s := h.fr (ia_of (hE 112 (by omega))) (fun a ha => hE a (by omega))
theorem REF.ez (h : REF w s) (hE : EZ w w2) : REF w2 s := h.fr (ia_of (hE 112 (by unfold zc; omega))) (fun a ha => hE a (by unfold zc; omega))
theorem REF.ezl (h : REF w s) (hE : EZL w w2) : REF w2 s := h.fr hE.2 (fun a ha => hE.1 a (by unfold yc; omega) (by omega))
theorem REF.row {l2 : List Int32} (h : REF w s) (hr : ia w2 112 = l2) (hE : EOm w w2) : REF w2 (l2, s.2) :=
  ⟨⟨hr, (fi_same 4 (hE 111 (by unfold ocm; omega))).trans h.1.2.1, fun k => (ia_of (hE 113 (by unfold ocm; omega))).trans (h.1.2.2 k)⟩, ⟨(tapM_eq (fi_same 11 (hE 111 (by unfold ocm; omega))) (hE 121 (by unfold ocm; omega))).trans h.2.1, (FMs_eq (hE 122 (by unfold ocm; omega)) (hE 123 (by unfold ocm; omega))).trans h.2.2.1, (NMs_eq (hE 124 (by unfold ocm; omega))).trans h.2.2.2⟩⟩
theorem REF.sh {F2 : Nat → Int32 × Int32} {N2 : Nat → Nat → Int64} (h : REF w s) (hF : FMs w2 = F2) (hN : NMs w2 = N2) (hE : ∀ a, (a = 111 ∨ a = 112 ∨ a = 113 ∨ a = 121) → w2[a]? = w[a]?) : REF w2 (s.1, s.2.1, s.2.2.1, s.2.2.2.1, F2, N2) :=
  ⟨⟨(ia_of (hE 112 (by omega))).trans h.1.1, (fi_same 4 (hE 111 (by omega))).trans h.1.2.1, fun k => (ia_of (hE 113 (by omega))).trans (h.1.2.2 k)⟩, ⟨(tapM_eq (fi_same 11 (hE 111 (by omega))) (hE 121 (by omega))).trans h.2.1, hF, hN⟩⟩
theorem REF.tp {l2 t2 : List Int32} (h : REF w s) (hr : ia w2 112 = l2) (ht : tapM w2 = t2) (h4 : fi w2 111 4 = fi w 111 4) (hE : ∀ a, (a = 113 ∨ 122 ≤ a) → w2[a]? = w[a]?) : REF w2 (l2, s.2.1, s.2.2.1, t2, s.2.2.2.2) :=
  ⟨⟨hr, h4.trans h.1.2.1, fun k => (ia_of (hE 113 (by omega))).trans (h.1.2.2 k)⟩, ⟨ht, (FMs_eq (hE 122 (by omega)) (hE 123 (by omega))).trans h.2.2.1, (NMs_eq (hE 124 (by omega))).trans h.2.2.2⟩⟩
end SXST
/-- the tape's bytes -/
def TT (t : List Int32) : Prop := ∀ i, i < t.length → ∃ j, j < 256 ∧ t.getD i 0 = nI j
theorem TT_of {w : List sx_C} (hI : WI w) (hY : TBy w) : TT (tapC w) := by
  intro i hi
  obtain ⟨n, hn, en⟩ := hI.t.1
  have hl : (tapC w).length = n := tapC_len en hn
  rw [hl] at hi
  obtain ⟨j, hj, ej⟩ := hY i
  refine ⟨j, hj, ?_⟩
  unfold tapC
  rw [map_at (by rw [en, iN_n (by omega)]; exact hi), ej]
  exact sgn_and ⟨j, hj⟩
def feT (t : List Int32) (a1 a2 : Int32) : List Int32 := if 1 ≤ a2 ∧ a2 ≤ 4 then (if t.length + iN a2 ≤ 120 then t ++ bytesOf a1 (iN a2) else t) else t
theorem fe_T (t : BT) (a1 a2 : Int32) : (feeU t a1 a2).2.2.2 = feT t.2.2.2 a1 a2 := by
  unfold feeU feT
  split
  · split <;> rfl
  · rfl
theorem c6 {xs : Option (List Int32)} {d : Nat} {w : List sx_C} {s : ST} (hI : WI w) (hC : CLS w s) (a1 a2 : Int32) : sx_RP xs (d + 7) 6 0 (lv_args 0 [.ref 0, .int a1, .int a2]) [] w (fun r w2 => r = some (.int (gndA s.1 a1 a2)) ∧ WI w2 ∧ CLS w2 (gndR s.1 a1 a2, s.2) ∧ ∀ a, 111 ≤ a → w2[a]? = w[a]?) := by
  exact (Z6 hI s.1 hC.1.1 a1 a2).mono9 (fun r w2 z => ⟨z.1.1, z.2.1, hC.row hI z.1.2 z.2.2, fun a ha => z.2.2 a (by unfold oc; omega)⟩)
theorem r130 {xs : Option (List Int32)} {d : Nat} {w : List sx_C} {s : ST} (hI : WI w) (hR : REF w s) (a1 a2 : Int32) : sx_RP xs (d + 7) 130 0 (lv_args 0 [.ref 111, .int a1, .int a2]) [] w (fun r w2 => r = some (.int (gndA s.1 a1 a2)) ∧ WI w2 ∧ REF w2 (gndR s.1 a1 a2, s.2) ∧ ∀ a, a < 111 → w2[a]? = w[a]?) := by
  refine (Y130 hI a1 a2).mono9 (fun r w2 z => ⟨?_, z.2.1, hR.row ?_ z.2.2, fun a ha => z.2.2 a (by unfold ocm; omega)⟩)
  · rw [z.1.1, hR.1.1]
  · rw [z.1.2, hR.1.1]
theorem c28 {xs : Option (List Int32)} {d : Nat} {w : List sx_C} {s : ST} (hI : WI w) (hC : CLS w s) (a1 a2 : Int32) : sx_RP xs (d + 7) 28 0 (lv_args 0 [.ref 0, .int a1, .int a2]) [] w (fun r w2 => r = some (.int (turA s.1 a1 a2)) ∧ WI w2 ∧ CLS w2 (turR s.1 a1 a2, s.2) ∧ ∀ a, 111 ≤ a → w2[a]? = w[a]?) := by
  exact (Z28 hI s.1 hC.1.1 a1 a2).mono9 (fun r w2 z => ⟨z.1.1, z.2.1, hC.row hI z.1.2 z.2.2, fun a ha => z.2.2 a (by unfold oc; omega)⟩)
theorem r157 {xs : Option (List Int32)} {d : Nat} {w : List sx_C} {s : ST} (hI : WI w) (hR : REF w s) (a1 a2 : Int32) : sx_RP xs (d + 7) 157 0 (lv_args 0 [.ref 111, .int a1, .int a2]) [] w (fun r w2 => r = some (.int (turA s.1 a1 a2)) ∧ WI w2 ∧ REF w2 (turR s.1 a1 a2, s.2) ∧ ∀ a, a < 111 → w2[a]? = w[a]?) := by
  refine (Y157 hI a1 a2).mono9 (fun r w2 z => ⟨?_, z.2.1, hR.row ?_ z.2.2, fun a ha => z.2.2 a (by unfold ocm; omega)⟩)
  · rw [z.1.1, hR.1.1]
  · rw [z.1.2, hR.1.1]
theorem c29 {xs : Option (List Int32)} {d : Nat} {w : List sx_C} {s : ST} (hI : WI w) (hC : CLS w s) (a1 a2 : Int32) : sx_RP xs (d + 7) 29 0 (lv_args 0 [.ref 0, .int a1, .int a2]) [] w (fun r w2 => r = some (.int (bec2A s.1 a1 a2)) ∧ WI w2 ∧ CLS w2 (bec2R s.1 a1 a2, s.2) ∧ ∀ a, 111 ≤ a → w2[a]? = w[a]?) := by
  exact (Z29 hI s.1 hC.1.1 a1 a2).mono9 (fun r w2 z => ⟨z.1.1, z.2.1, hC.row hI z.1.2 z.2.2, fun a ha => z.2.2 a (by unfold oc; omega)⟩)
theorem r158 {xs : Option (List Int32)} {d : Nat} {w : List sx_C} {s : ST} (hI : WI w) (hR : REF w s) (a1 a2 : Int32) : sx_RP xs (d + 7) 158 0 (lv_args 0 [.ref 111, .int a1, .int a2]) [] w (fun r w2 => r = some (.int (bec2A s.1 a1 a2)) ∧ WI w2 ∧ REF w2 (bec2R s.1 a1 a2, s.2) ∧ ∀ a, a < 111 → w2[a]? = w[a]?) := by
  refine (Y158 hI a1 a2).mono9 (fun r w2 z => ⟨?_, z.2.1, hR.row ?_ z.2.2, fun a ha => z.2.2 a (by unfold ocm; omega)⟩)
  · rw [z.1.1, hR.1.1]
  · rw [z.1.2, hR.1.1]
theorem c21 {xs : Option (List Int32)} {d : Nat} {w : List sx_C} {s : ST} (hI : WI w) (hC : CLS w s) (a1 a2 a3 a4 : Int32) : sx_RP xs (d + 7) 21 0 (lv_args 0 [.ref 0, .int a1, .int a2, .int a3, .int a4]) [] w (fun r w2 => r = some (.int (gal2A s.1 a1 a2 a3 a4)) ∧ WI w2 ∧ CLS w2 (gal2R s.1 a1 a2 a3 a4, s.2) ∧ ∀ a, 111 ≤ a → w2[a]? = w[a]?) := by
  exact (Z21 hI s.1 hC.1.1 a1 a2 a3 a4).mono9 (fun r w2 z => ⟨z.1.1, z.2.1, hC.row hI z.1.2 z.2.2, fun a ha => z.2.2 a (by unfold oc; omega)⟩)
theorem r150 {xs : Option (List Int32)} {d : Nat} {w : List sx_C} {s : ST} (hI : WI w) (hR : REF w s) (a1 a2 a3 a4 : Int32) : sx_RP xs (d + 7) 150 0 (lv_args 0 [.ref 111, .int a1, .int a2, .int a3, .int a4]) [] w (fun r w2 => r = some (.int (gal2A s.1 a1 a2 a3 a4)) ∧ WI w2 ∧ REF w2 (gal2R s.1 a1 a2 a3 a4, s.2) ∧ ∀ a, a < 111 → w2[a]? = w[a]?) := by
  refine (Y150 hI a1 a2 a3 a4).mono9 (fun r w2 z => ⟨?_, z.2.1, hR.row ?_ z.2.2, fun a ha => z.2.2 a (by unfold ocm; omega)⟩)
  · rw [z.1.1, hR.1.1]
  · rw [z.1.2, hR.1.1]
theorem c62 {xs : Option (List Int32)} {d : Nat} {w : List sx_C} {s : ST} (hI : WI w) (hC : CLS w s) (a1 : Int32) : sx_RP xs (d + 7) 62 0 (lv_args 0 [.ref 0, .int a1]) [] w (fun r w2 => r = some (.int (dis2A s.1 a1)) ∧ WI w2 ∧ CLS w2 (dis2R s.1 a1, s.2) ∧ ∀ a, 111 ≤ a → w2[a]? = w[a]?) := by
  exact (Z62 hI s.1 hC.1.1 a1).mono9 (fun r w2 z => ⟨z.1.1, z.2.1, hC.row hI z.1.2 z.2.2, fun a ha => z.2.2 a (by unfold oc; omega)⟩)
theorem r184 {xs : Option (List Int32)} {d : Nat} {w : List sx_C} {s : ST} (hI : WI w) (hR : REF w s) (a1 : Int32) : sx_RP xs (d + 7) 184 0 (lv_args 0 [.ref 111, .int a1]) [] w (fun r w2 => r = some (.int (dis2A s.1 a1)) ∧ WI w2 ∧ REF w2 (dis2R s.1 a1, s.2) ∧ ∀ a, a < 111 → w2[a]? = w[a]?) := by
  refine (Y184 hI a1).mono9 (fun r w2 z => ⟨?_, z.2.1, hR.row ?_ z.2.2, fun a ha => z.2.2 a (by unfold ocm; omega)⟩)
  · rw [z.1.1, hR.1.1]
  · rw [z.1.2, hR.1.1]
theorem c65 {xs : Option (List Int32)} {d : Nat} {w : List sx_C} {s : ST} (hI : WI w) (hC : CLS w s) (a1 a2 : Int32) : sx_RP xs (d + 7) 65 0 (lv_args 0 [.ref 0, .int a1, .int a2]) [] w (fun r w2 => r = some (.int (mov2A s.1 a1 a2)) ∧ WI w2 ∧ CLS w2 (mov2R s.1 a1 a2, s.2) ∧ ∀ a, 111 ≤ a → w2[a]? = w[a]?) := by
  exact (Z65 hI s.1 hC.1.1 a1 a2).mono9 (fun r w2 z => ⟨z.1.1, z.2.1, hC.row hI z.1.2 z.2.2, fun a ha => z.2.2 a (by unfold oc; omega)⟩)
theorem r185 {xs : Option (List Int32)} {d : Nat} {w : List sx_C} {s : ST} (hI : WI w) (hR : REF w s) (a1 a2 : Int32) : sx_RP xs (d + 7) 185 0 (lv_args 0 [.ref 111, .int a1, .int a2]) [] w (fun r w2 => r = some (.int (mov2A s.1 a1 a2)) ∧ WI w2 ∧ REF w2 (mov2R s.1 a1 a2, s.2) ∧ ∀ a, a < 111 → w2[a]? = w[a]?) := by
  refine (Y185 hI a1 a2).mono9 (fun r w2 z => ⟨?_, z.2.1, hR.row ?_ z.2.2, fun a ha => z.2.2 a (by unfold ocm; omega)⟩)
  · rw [z.1.1, hR.1.1]
  · rw [z.1.2, hR.1.1]
theorem c82 {xs : Option (List Int32)} {d : Nat} {w : List sx_C} {s : ST} (hI : WI w) (hC : CLS w s) (a1 a2 : Int32) : sx_RP xs (d + 7) 82 0 (lv_args 0 [.ref 0, .int a1, .int a2]) [] w (fun r w2 => r = some (.int (bre2A s.1 a1 a2)) ∧ WI w2 ∧ CLS w2 (bre2R s.1 a1 a2, s.2) ∧ ∀ a, 111 ≤ a → w2[a]? = w[a]?) := by
  exact (Z82 hI s.1 hC.1.1 a1 a2).mono9 (fun r w2 z => ⟨z.1.1, z.2.1, hC.row hI z.1.2 z.2.2, fun a ha => z.2.2 a (by unfold oc; omega)⟩)
theorem r203 {xs : Option (List Int32)} {d : Nat} {w : List sx_C} {s : ST} (hI : WI w) (hR : REF w s) (a1 a2 : Int32) : sx_RP xs (d + 7) 203 0 (lv_args 0 [.ref 111, .int a1, .int a2]) [] w (fun r w2 => r = some (.int (bre2A s.1 a1 a2)) ∧ WI w2 ∧ REF w2 (bre2R s.1 a1 a2, s.2) ∧ ∀ a, a < 111 → w2[a]? = w[a]?) := by
  refine (Y203 hI a1 a2).mono9 (fun r w2 z => ⟨?_, z.2.1, hR.row ?_ z.2.2, fun a ha => z.2.2 a (by unfold ocm; omega)⟩)
  · rw [z.1.1, hR.1.1]
  · rw [z.1.2, hR.1.1]
theorem c39 {xs : Option (List Int32)} {d : Nat} {w : List sx_C} {s : ST} (hI : WI w) (hC : CLS w s) (a1 : Int32) : sx_RP xs (d + 7) 39 0 (lv_args 0 [.ref 0, .int a1]) [] w (fun r w2 => r = some (.int (ntsA s.1 a1)) ∧ WI w2 ∧ CLS w2 (ntsR s.1 a1, s.2) ∧ ∀ a, 111 ≤ a → w2[a]? = w[a]?) := by
  exact (Z39 hI s.1 hC.1.1 a1).mono9 (fun r w2 z => ⟨z.1.1, z.2.1, hC.row hI z.1.2 z.2.2, fun a ha => z.2.2 a (by unfold oc; omega)⟩)
theorem r164 {xs : Option (List Int32)} {d : Nat} {w : List sx_C} {s : ST} (hI : WI w) (hR : REF w s) (hW : WB s.1) (a1 : Int32) : sx_RP xs (d + 7) 164 0 (lv_args 0 [.ref 111, .int a1]) [] w (fun r w2 => r = some (.int (ntsA s.1 a1)) ∧ WI w2 ∧ REF w2 (ntsR s.1 a1, s.2) ∧ ∀ a, a < 111 → w2[a]? = w[a]?) := by
  refine (Y164 hI (by rw [hR.1.1]; exact hW) a1).mono9 (fun r w2 z => ⟨?_, z.2.1, hR.row ?_ z.2.2, fun a ha => z.2.2 a (by unfold ocm; omega)⟩)
  · rw [z.1.1, hR.1.1]
  · rw [z.1.2, hR.1.1]
theorem c79 {xs : Option (List Int32)} {d : Nat} {w : List sx_C} {s : ST} (hI : WI w) (hC : CLS w s) (a1 a2 : Int32) : sx_RP xs (d + 7) 79 0 (lv_args 0 [.ref 0, .int a1, .int a2]) [] w (fun r w2 => r = some (.int (blwA s.1 a1 a2)) ∧ WI w2 ∧ CLS w2 (blwR s.1 a1 a2, s.2) ∧ ∀ a, 111 ≤ a → w2[a]? = w[a]?) := by
  exact (Z79 hI s.1 hC.1.1 a1 a2).mono9 (fun r w2 z => ⟨z.1.1, z.2.1, hC.row hI z.1.2 z.2.2, fun a ha => z.2.2 a (by unfold oc; omega)⟩)
theorem r201 {xs : Option (List Int32)} {d : Nat} {w : List sx_C} {s : ST} (hI : WI w) (hR : REF w s) (a1 a2 : Int32) : sx_RP xs (d + 7) 201 0 (lv_args 0 [.ref 111, .int a1, .int a2]) [] w (fun r w2 => r = some (.int (blwA s.1 a1 a2)) ∧ WI w2 ∧ REF w2 (blwR s.1 a1 a2, s.2) ∧ ∀ a, a < 111 → w2[a]? = w[a]?) := by
  refine (Y201 hI a1 a2).mono9 (fun r w2 z => ⟨?_, z.2.1, hR.row ?_ z.2.2, fun a ha => z.2.2 a (by unfold ocm; omega)⟩)
  · rw [z.1.1, hR.1.1]
  · rw [z.1.2, hR.1.1]
theorem c10_0 {xs : Option (List Int32)} {d : Nat} {w : List sx_C} {s : ST} (hI : WI w) (hC : CLS w s) (a1 : Int32) : sx_RP xs (d + 7) 10 0 (lv_args 0 [.ref 0, .int a1, .int 0]) [] w (fun r w2 => r = some (.int (walA s.1 a1 0)) ∧ WI w2 ∧ CLS w2 (walR s.1 a1 0, s.2) ∧ ∀ a, 111 ≤ a → w2[a]? = w[a]?) := by
  exact (Z10_0 hI s.1 hC.1.1 a1).mono9 (fun r w2 z => ⟨z.1.1, z.2.1, hC.row hI z.1.2 z.2.2, fun a ha => z.2.2 a (by unfold oc; omega)⟩)
theorem r134_0 {xs : Option (List Int32)} {d : Nat} {w : List sx_C} {s : ST} (hI : WI w) (hR : REF w s) (a1 : Int32) : sx_RP xs (d + 7) 134 0 (lv_args 0 [.ref 111, .int a1, .int 0]) [] w (fun r w2 => r = some (.int (walA s.1 a1 0)) ∧ WI w2 ∧ REF w2 (walR s.1 a1 0, s.2) ∧ ∀ a, a < 111 → w2[a]? = w[a]?) := by
  refine (Y134_0 hI a1).mono9 (fun r w2 z => ⟨?_, z.2.1, hR.row ?_ z.2.2, fun a ha => z.2.2 a (by unfold ocm; omega)⟩)
  · rw [z.1.1, hR.1.1]
  · rw [z.1.2, hR.1.1]
theorem c10_1 {xs : Option (List Int32)} {d : Nat} {w : List sx_C} {s : ST} (hI : WI w) (hC : CLS w s) (a1 : Int32) : sx_RP xs (d + 7) 10 0 (lv_args 0 [.ref 0, .int a1, .int 1]) [] w (fun r w2 => r = some (.int (walA s.1 a1 1)) ∧ WI w2 ∧ CLS w2 (walR s.1 a1 1, s.2) ∧ ∀ a, 111 ≤ a → w2[a]? = w[a]?) := by
  exact (Z10_1 hI s.1 hC.1.1 a1).mono9 (fun r w2 z => ⟨z.1.1, z.2.1, hC.row hI z.1.2 z.2.2, fun a ha => z.2.2 a (by unfold oc; omega)⟩)
theorem r134_1 {xs : Option (List Int32)} {d : Nat} {w : List sx_C} {s : ST} (hI : WI w) (hR : REF w s) (a1 : Int32) : sx_RP xs (d + 7) 134 0 (lv_args 0 [.ref 111, .int a1, .int 1]) [] w (fun r w2 => r = some (.int (walA s.1 a1 1)) ∧ WI w2 ∧ REF w2 (walR s.1 a1 1, s.2) ∧ ∀ a, a < 111 → w2[a]? = w[a]?) := by
  refine (Y134_1 hI a1).mono9 (fun r w2 z => ⟨?_, z.2.1, hR.row ?_ z.2.2, fun a ha => z.2.2 a (by unfold ocm; omega)⟩)
  · rw [z.1.1, hR.1.1]
  · rw [z.1.2, hR.1.1]
theorem c120 {xs : Option (List Int32)} {d : Nat} {w : List sx_C} {s : ST} (hI : WI w) (hC : CLS w s) (a1 a2 : Int32) : sx_RP xs (d + 7) 120 0 (lv_args 0 [.ref 0, .int a1, .int a2]) [] w (fun r w2 => r = some (.int (lysA s.2.2.2.2.1 s.2.2.2.2.2 s.1 a1 a2)) ∧ WI w2 ∧ CLS w2 (lysR s.2.2.2.2.1 s.2.2.2.2.2 s.1 a1 a2, s.2) ∧ ∀ a, 111 ≤ a → w2[a]? = w[a]?) := by
  have z0 := Z120 (xs := xs) (d := d) hI s.1 hC.1.1 a1 a2
  rw [hC.2.1.2.1, hC.2.1.2.2] at z0
  exact z0.mono9 (fun r w2 z => ⟨z.1.1, z.2.1, hC.row hI z.1.2 z.2.2, fun a ha => z.2.2 a (by unfold oc; omega)⟩)
theorem r235 {xs : Option (List Int32)} {d : Nat} {w : List sx_C} {s : ST} (hI : WI w) (hR : REF w s) (a1 a2 : Int32) : sx_RP xs (d + 7) 235 0 (lv_args 0 [.ref 111, .int a1, .int a2]) [] w (fun r w2 => r = some (.int (lysA s.2.2.2.2.1 s.2.2.2.2.2 s.1 a1 a2)) ∧ WI w2 ∧ REF w2 (lysR s.2.2.2.2.1 s.2.2.2.2.2 s.1 a1 a2, s.2) ∧ ∀ a, a < 111 → w2[a]? = w[a]?) := by
  have z0 := Y235 (xs := xs) (d := d) hI a1 a2
  rw [hR.2.2.1, hR.2.2.2, hR.1.1] at z0
  exact z0.mono9 (fun r w2 z => ⟨z.1.1, z.2.1, hR.row z.1.2 z.2.2, fun a ha => z.2.2 a (by unfold ocm; omega)⟩)
theorem c115 {xs : Option (List Int32)} {d : Nat} {w : List sx_C} {s : ST} (hI : WI w) (hC : CLS w s) (a1 a2 : Int32) (v : Int64) : sx_RP xs (d + 7) 115 0 (lv_args 0 [.ref 0, .int a1, .int a2, .long v]) [] w (fun r w2 => r = some (.long (wrA s.2.2.2.2.1 s.2.2.2.2.2 a1 a2)) ∧ WI w2 ∧ CLS w2 (s.1, s.2.1, s.2.2.1, s.2.2.2.1, s.2.2.2.2.1, wrR s.2.2.2.2.1 s.2.2.2.2.2 a1 a2 v) ∧ ∀ a, 111 ≤ a → w2[a]? = w[a]?) := by
  have z0 := Z115 (xs := xs) (d := d) hI a1 a2 v
  rw [hC.2.1.2.1, hC.2.1.2.2] at z0
  exact z0.mono9 (fun r w2 z => ⟨z.1.1, z.2.1, hC.sh hI z.1.2.2 z.1.2.1 (hC.2.2.same (fun a _ _ => z.2.2 a (by omega) (by omega))) (fun a ha => z.2.2 a (by omega) (by omega)), fun a ha => z.2.2 a (by omega) (by omega)⟩)
theorem r232 {xs : Option (List Int32)} {d : Nat} {w : List sx_C} {s : ST} (hI : WI w) (hR : REF w s) (a1 a2 : Int32) (v : Int64) : sx_RP xs (d + 7) 232 0 (lv_args 0 [.ref 111, .int a1, .int a2, .long v]) [] w (fun r w2 => r = some (.long (wrA s.2.2.2.2.1 s.2.2.2.2.2 a1 a2)) ∧ WI w2 ∧ REF w2 (s.1, s.2.1, s.2.2.1, s.2.2.2.1, s.2.2.2.2.1, wrR s.2.2.2.2.1 s.2.2.2.2.2 a1 a2 v) ∧ ∀ a, a < 111 → w2[a]? = w[a]?) := by
  have z0 := Y232 (xs := xs) (d := d) hI a1 a2 v
  rw [hR.2.2.1, hR.2.2.2] at z0
  exact z0.mono9 (fun r w2 z => ⟨z.1.1, z.2.1, hR.sh z.1.2.2 z.1.2.1 (fun a ha => z.2.2 a (by omega) (by omega)), fun a ha => z.2.2 a (by omega) (by omega)⟩)
theorem c118 {xs : Option (List Int32)} {d : Nat} {w : List sx_C} {s : ST} (hI : WI w) (hC : CLS w s) (a1 a2 a3 a4 a5 : Int32) : sx_RP xs (d + 7) 118 0 (lv_args 0 [.ref 0, .int a1, .int a2, .int a3, .int a4, .int a5]) [] w (fun r w2 => r = some (.int (cpAns s.2.2.2.2.1 a1 a2 a3 a4 a5)) ∧ WI w2 ∧ CLS w2 (s.1, s.2.1, s.2.2.1, s.2.2.2.1, s.2.2.2.2.1, cpR s.2.2.2.2.1 s.2.2.2.2.2 a1 a2 a3 a4 a5) ∧ ∀ a, 111 ≤ a → w2[a]? = w[a]?) := by
  have z0 := Z118 (xs := xs) (d := d) hI a1 a2 a3 a4 a5
  rw [hC.2.1.2.1, hC.2.1.2.2] at z0
  exact z0.mono9 (fun r w2 z => ⟨z.1.1, z.2.1, hC.sh hI z.1.2.2 z.1.2.1 (hC.2.2.same (fun a _ _ => z.2.2 a (by omega) (by omega))) (fun a ha => z.2.2 a (by omega) (by omega)), fun a ha => z.2.2 a (by omega) (by omega)⟩)
theorem r234 {xs : Option (List Int32)} {d : Nat} {w : List sx_C} {s : ST} (hI : WI w) (hR : REF w s) (a1 a2 a3 a4 a5 : Int32) : sx_RP xs (d + 7) 234 0 (lv_args 0 [.ref 111, .int a1, .int a2, .int a3, .int a4, .int a5]) [] w (fun r w2 => r = some (.int (cpAns s.2.2.2.2.1 a1 a2 a3 a4 a5)) ∧ WI w2 ∧ REF w2 (s.1, s.2.1, s.2.2.1, s.2.2.2.1, s.2.2.2.2.1, cpR s.2.2.2.2.1 s.2.2.2.2.2 a1 a2 a3 a4 a5) ∧ ∀ a, a < 111 → w2[a]? = w[a]?) := by
  have z0 := Y234 (xs := xs) (d := d) hI a1 a2 a3 a4 a5
  rw [hR.2.2.1, hR.2.2.2] at z0
  exact z0.mono9 (fun r w2 z => ⟨z.1.1, z.2.1, hR.sh z.1.2.2 z.1.2.1 (fun a ha => z.2.2 a (by omega) (by omega) (by omega)), fun a ha => z.2.2 a (by omega) (by omega) (by omega)⟩)
theorem c121 {xs : Option (List Int32)} {d : Nat} {w : List sx_C} {s : ST} (hI : WI w) (hC : CLS w s) (a1 : Int32) : sx_RP xs (d + 7) 121 0 (lv_args 0 [.ref 0, .int a1]) [] w (fun r w2 => r = some (.int (bokA s.2.2.2.2.1 s.1 a1)) ∧ WI w2 ∧ CLS w2 (s.1, s.2.1, s.2.2.1, s.2.2.2.1, s.2.2.2.2.1, bokR s.2.2.2.2.1 s.2.2.2.2.2 s.1 a1) ∧ ∀ a, 111 ≤ a → w2[a]? = w[a]?) := by
  have z0 := Z121 (xs := xs) (d := d) hI s.1 hC.1.1 hC.2.2 a1
  rw [hC.2.1.2.1, hC.2.1.2.2] at z0
  exact z0.mono9 (fun r w2 z => ⟨z.1.1, z.2.1, hC.sh hI z.1.2.2 z.1.2.1 z.2.2.1 (fun a ha => z.2.2.2 a (by omega) (by omega)), fun a ha => z.2.2.2 a (by omega) (by omega)⟩)
theorem r236 {xs : Option (List Int32)} {d : Nat} {w : List sx_C} {s : ST} (hI : WI w) (hR : REF w s) (a1 : Int32) : sx_RP xs (d + 7) 236 0 (lv_args 0 [.ref 111, .int a1]) [] w (fun r w2 => r = some (.int (bokA s.2.2.2.2.1 s.1 a1)) ∧ WI w2 ∧ REF w2 (s.1, s.2.1, s.2.2.1, s.2.2.2.1, s.2.2.2.2.1, bokR s.2.2.2.2.1 s.2.2.2.2.2 s.1 a1) ∧ ∀ a, a < 111 → w2[a]? = w[a]?) := by
  have z0 := Y236 (xs := xs) (d := d) hI a1
  rw [hR.2.2.1, hR.2.2.2, hR.1.1] at z0
  exact z0.mono9 (fun r w2 z => ⟨z.1.1, z.2.1, hR.sh z.1.2.2 z.1.2.1 (fun a ha => z.2.2 a (by omega) (by omega) (by omega) (by omega)), fun a ha => z.2.2 a (by omega) (by omega) (by omega) (by omega)⟩)
theorem c92 {xs : Option (List Int32)} {d : Nat} {w : List sx_C} {s : ST} (hI : WI w) (hC : CLS w s) (hY : TBy w) : sx_RP xs (d + 7) 92 0 (lv_args 0 [.ref 0]) [] w (fun r w2 => r = some (.int (sieV s.2.2.2.1 s.1).1) ∧ WI w2 ∧ CLS w2 (sieR s.2.2.2.1 s.1, s.2.1, s.2.2.1, [], s.2.2.2.2) ∧ ∀ a, 111 ≤ a → w2[a]? = w[a]?) := by
  have z0 := Z92 (xs := xs) (d := d) hI s.1 hC.1.1 hY
  rw [hC.2.1.1] at z0
  exact z0.mono9 (fun r w2 z => ⟨z.1.1, z.2.1, hC.tp hI z.1.2.1 z.1.2.2 (fun a ha => z.2.2 a (by omega) (by omega)), fun a ha => z.2.2 a (by omega) (by omega)⟩)
theorem r210 {xs : Option (List Int32)} {d : Nat} {w : List sx_C} {s : ST} (hI : WI w) (hR : REF w s) (hT : TT s.2.2.2.1) : sx_RP xs (d + 8) 210 0 (lv_args 0 [.ref 111]) [] w (fun r w2 => r = some (.int (sieV s.2.2.2.1 s.1).1) ∧ WI w2 ∧ REF w2 (sieR s.2.2.2.1 s.1, s.2.1, s.2.2.1, [], s.2.2.2.2) ∧ ∀ a, a < 111 → w2[a]? = w[a]?) := by
  have z0 := Y210 (xs := xs) (d := d) hI (show TT (tapM w) by rw [hR.2.1]; exact hT)
  rw [hR.2.1, hR.1.1] at z0
  exact z0.mono9 (fun r w2 z => ⟨z.1.1, z.2.1, hR.tp z.1.2.1 z.1.2.2.1 (z.1.2.2.2 4 (by decide)) (fun a ha => z.2.2 a (by omega) (by omega) (by omega)), fun a ha => z.2.2 a (by omega) (by omega) (by omega)⟩)
theorem c90 {xs : Option (List Int32)} {d : Nat} {w : List sx_C} {s : ST} (hI : WI w) (hC : CLS w s) : sx_RP xs (d + 7) 90 0 (lv_args 0 [.ref 0]) [] w (fun r w2 => r = some (.int (nI s.2.2.2.1.length)) ∧ WI w2 ∧ CLS w2 (s.1, s.2.1, s.2.2.1, [], s.2.2.2.2) ∧ ∀ a, 111 ≤ a → w2[a]? = w[a]?) := by
  obtain ⟨n, hn, en⟩ := hI.t.1
  refine (Z90 (xs := xs) (d := d) hI).mono9 (fun r w2 z => ⟨?_, z.2.1, hC.tp hI (hC.1.1.same hI isA1 (fun a _ _ => z.2.2 a (by omega))) z.1.2 (fun a ha => z.2.2 a (by omega)), fun a ha => z.2.2 a (by omega)⟩)
  rw [z.1.1, ← hC.2.1.1, show (tapC w).length = n from tapC_len en hn, en]
theorem r209 {xs : Option (List Int32)} {d : Nat} {w : List sx_C} {s : ST} (hI : WI w) (hR : REF w s) : sx_RP xs (d + 7) 209 0 (lv_args 0 [.ref 111]) [] w (fun r w2 => r = some (.int (nI s.2.2.2.1.length)) ∧ WI w2 ∧ REF w2 (s.1, s.2.1, s.2.2.1, [], s.2.2.2.2) ∧ ∀ a, a < 111 → w2[a]? = w[a]?) := by
  obtain ⟨n, hn, en⟩ := hI.m.2.1
  refine (Y209 (xs := xs) (d := d) hI).mono9 (fun r w2 z => ⟨?_, z.2.1, hR.tp ((ia_of (z.2.2 112 (by omega))).trans hR.1.1) z.1.2.1 z.1.2.2 (fun a ha => z.2.2 a (by omega)), fun a ha => z.2.2 a (by omega)⟩)
  rw [z.1.1, ← hR.2.1, show (tapM w).length = n from tapM_len9 en hn, en]
theorem c87 {xs : Option (List Int32)} {d : Nat} {w : List sx_C} {s : ST} (hI : WI w) (hC : CLS w s) (a1 a2 : Int32) : sx_RP xs (d + 7) 87 0 (lv_args 0 [.ref 0, .int a1, .int a2]) [] w (fun r w2 => r = some (.int (feedA s.2.2.2.1.length a2)) ∧ WI w2 ∧ CLS w2 (s.1, s.2.1, s.2.2.1, feT s.2.2.2.1 a1 a2, s.2.2.2.2) ∧ ∀ a, 111 ≤ a → w2[a]? = w[a]?) := by
  refine ((B87 (xs := xs) (d := d) hI a1 a2).and (F87 hI a1 a2)).mono9 (fun r w2 z => ⟨?_, z.2.1, hC.tp hI (hC.1.1.same hI isA1 (fun a _ _ => z.2.2 a (by omega) (by omega) (by omega))) ?_ (fun a ha => z.2.2 a (by omega) (by omega) (by omega)), fun a ha => z.2.2 a (by omega) (by omega) (by omega)⟩)
  · rw [z.1.1.1, ← hC.2.1.1]
    rfl
  · rw [← hC.2.1.1]
    exact (congrArg (fun t : BT => t.2.2.2) z.1.1.2).trans (fe_T _ _ _)
theorem r208 {xs : Option (List Int32)} {d : Nat} {w : List sx_C} {s : ST} (hI : WI w) (hR : REF w s) (a1 a2 : Int32) : sx_RP xs (d + 7) 208 0 (lv_args 0 [.ref 111, .int a1, .int a2]) [] w (fun r w2 => r = some (.int (feedA s.2.2.2.1.length a2)) ∧ WI w2 ∧ REF w2 (s.1, s.2.1, s.2.2.1, feT s.2.2.2.1 a1 a2, s.2.2.2.2) ∧ ∀ a, a < 111 → w2[a]? = w[a]?) := by
  refine ((B208 (xs := xs) (d := d) hI a1 a2).and (F208 hI a1 a2)).mono9 (fun r w2 z => ⟨?_, z.2.1, hR.tp ((ia_of (z.2.2.2 112 (by omega) (by omega) (by omega))).trans hR.1.1) ?_ z.2.2.1 (fun a ha => z.2.2.2 a (by omega) (by omega) (by omega)), fun a ha => z.2.2.2 a (by omega) (by omega) (by omega)⟩)
  · rw [z.1.1.1, ← hR.2.1]
    rfl
  · rw [← hR.2.1]
    exact (congrArg (fun t : BT => t.2.2.2) z.1.1.2).trans (fe_T _ _ _)
theorem c124 {xs : Option (List Int32)} {d : Nat} {w : List sx_C} {s : ST} (hI : WI w) (hC : CLS w s) : sx_RP xs (d + 7) 124 0 (lv_args 0 [.ref 0]) [] w (fun r w2 => r = some (.int 1) ∧ WI w2 ∧ CLS w2 (s.1, 1, s.1, s.2.2.2) ∧ ∀ a, 111 ≤ a → w2[a]? = w[a]?) := by
  exact (Z124 (xs := xs) (d := d) hI).mono9 (fun r w2 z => ⟨z.1.1, z.2.1, ⟨⟨hC.1.1.same hI isA1 (fun a _ _ => z.2.2 a (by omega) (by omega)), z.1.2.1, fun _ => z.1.2.2 _ hC.1.1⟩, ⟨(tapC_eq (z.2.2 96 (by omega) (by omega)) (z.2.2 97 (by omega) (by omega))).trans hC.2.1.1, (FCs_eq (fun q hq => z.2.2 _ (by omega) (by omega))).trans hC.2.1.2.1, (NCs_eq (fun q hq => z.2.2 _ (by omega) (by omega))).trans hC.2.1.2.2⟩, hC.2.2.same (fun a _ _ => z.2.2 a (by omega) (by omega))⟩, fun a ha => z.2.2 a (by omega) (by omega)⟩)
theorem r240 {xs : Option (List Int32)} {d : Nat} {w : List sx_C} {s : ST} (hI : WI w) (hR : REF w s) : sx_RP xs (d + 7) 240 0 (lv_args 0 [.ref 111]) [] w (fun r w2 => r = some (.int 1) ∧ WI w2 ∧ REF w2 (s.1, 1, s.1, s.2.2.2) ∧ ∀ a, a < 111 → w2[a]? = w[a]?) := by
  exact (Y240 (xs := xs) (d := d) hI).mono9 (fun r w2 z => ⟨z.1.1, z.2.1, ⟨⟨(ia_of (z.2.2 112 (by omega) (by omega))).trans hR.1.1, z.1.2.1, fun _ => z.1.2.2.1.trans hR.1.1⟩, ⟨(tapM_eq z.1.2.2.2 (z.2.2 121 (by omega) (by omega))).trans hR.2.1, (FMs_eq (z.2.2 122 (by omega) (by omega)) (z.2.2 123 (by omega) (by omega))).trans hR.2.2.1, (NMs_eq (z.2.2 124 (by omega) (by omega))).trans hR.2.2.2⟩⟩, fun a ha => z.2.2 a (by omega) (by omega)⟩)
theorem c125 {xs : Option (List Int32)} {d : Nat} {w : List sx_C} {s : ST} (hI : WI w) (hC : CLS w s) : sx_RP xs (d + 7) 125 0 (lv_args 0 [.ref 0]) [] w (fun r w2 => r = some (.int (if s.2.1 = 1 then s.2.2.1.getD 1 0 else -1000000004)) ∧ WI w2 ∧ CLS w2 (if s.2.1 = 1 then s.2.2.1 else s.1, s.2) ∧ ∀ a, 111 ≤ a → w2[a]? = w[a]?) := by
  rcases keeps_01 hI with ek | ek
  · have e0 : ¬ s.2.1 = 1 := by rw [← hC.1.2.1, ek]; decide
    rw [if_neg e0, if_neg e0]
    exact (Z125_0 (xs := xs) (d := d) hI ek).mono9 (fun r w2 z => ⟨z.1, z.2.1, hC.fr hI (fun a ha => z.2.2 a (by omega)) (fun k => k.same (fun a _ _ => z.2.2 a (by omega))), fun a ha => z.2.2 a (by omega)⟩)
  · have e1 : s.2.1 = 1 := by rw [← hC.1.2.1, ek]
    rw [if_pos e1, if_pos e1]
    exact (Z125_1 (xs := xs) (d := d) hI ek).mono9 (fun r w2 z => ⟨by rw [z.1.1, (hC.1.2.2 e1).many], z.2.1, hC.row hI (z.1.2 _ (hC.1.2.2 e1)) z.2.2.eo, fun a ha => z.2.2 a (by omega)⟩)
theorem r241 {xs : Option (List Int32)} {d : Nat} {w : List sx_C} {s : ST} (hI : WI w) (hR : REF w s) : sx_RP xs (d + 7) 241 0 (lv_args 0 [.ref 111]) [] w (fun r w2 => r = some (.int (if s.2.1 = 1 then s.2.2.1.getD 1 0 else -1000000004)) ∧ WI w2 ∧ REF w2 (if s.2.1 = 1 then s.2.2.1 else s.1, s.2) ∧ ∀ a, a < 111 → w2[a]? = w[a]?) := by
  rcases kept_01 hI with ek | ek
  · have e0 : ¬ s.2.1 = 1 := by rw [← hR.1.2.1, ek]; decide
    rw [if_neg e0, if_neg e0]
    exact (Y241_0 (xs := xs) (d := d) hI ek).mono9 (fun r w2 z => ⟨z.1, z.2.1, hR.fr (ia_of (z.2.2 112 (by omega))) (fun a ha => z.2.2 a (by omega)), fun a ha => z.2.2 a (by omega)⟩)
  · have e1 : s.2.1 = 1 := by rw [← hR.1.2.1, ek]
    rw [if_pos e1, if_pos e1]
    exact (Y241_1 (xs := xs) (d := d) hI ek).mono9 (fun r w2 z => ⟨by rw [z.1.1, hR.1.2.2 e1], z.2.1, hR.row (z.1.2.trans (hR.1.2.2 e1)) (fun a ha => z.2.2 a (by unfold ocm at ha; omega)), fun a ha => z.2.2 a (by omega)⟩)
theorem c126 {xs : Option (List Int32)} {d : Nat} {w : List sx_C} {s : ST} (hI : WI w) (hC : CLS w s) : sx_RP xs (d + 7) 126 0 (lv_args 0 [.ref 0]) [] w (fun r w2 => r = some (.int s.2.1) ∧ WI w2 ∧ CLS w2 (s.1, 0, s.2.2) ∧ ∀ a, 111 ≤ a → w2[a]? = w[a]?) := by
  exact (Z126 (xs := xs) (d := d) hI).mono9 (fun r w2 z => ⟨by rw [z.1.1, hC.1.2.1], z.2.1, ⟨⟨hC.1.1.same hI isA1 (fun a _ _ => z.2.2 a (by omega)), z.1.2, fun k => absurd (show (0 : Int32) = 1 from k) (by decide)⟩, ⟨(tapC_eq (z.2.2 96 (by omega)) (z.2.2 97 (by omega))).trans hC.2.1.1, (FCs_eq (fun q hq => z.2.2 _ (by omega))).trans hC.2.1.2.1, (NCs_eq (fun q hq => z.2.2 _ (by omega))).trans hC.2.1.2.2⟩, hC.2.2.same (fun a _ _ => z.2.2 a (by omega))⟩, fun a ha => z.2.2 a (by omega)⟩)
theorem r242 {xs : Option (List Int32)} {d : Nat} {w : List sx_C} {s : ST} (hI : WI w) (hR : REF w s) : sx_RP xs (d + 7) 242 0 (lv_args 0 [.ref 111]) [] w (fun r w2 => r = some (.int s.2.1) ∧ WI w2 ∧ REF w2 (s.1, 0, s.2.2) ∧ ∀ a, a < 111 → w2[a]? = w[a]?) := by
  exact (Y242 (xs := xs) (d := d) hI).mono9 (fun r w2 z => ⟨by rw [z.1.1, hR.1.2.1], z.2.1, ⟨⟨(ia_of (z.2.2 112 (by omega))).trans hR.1.1, z.1.2.1, fun k => absurd (show (0 : Int32) = 1 from k) (by decide)⟩, ⟨(tapM_eq z.1.2.2 (z.2.2 121 (by omega))).trans hR.2.1, (FMs_eq (z.2.2 122 (by omega)) (z.2.2 123 (by omega))).trans hR.2.2.1, (NMs_eq (z.2.2 124 (by omega))).trans hR.2.2.2⟩⟩, fun a ha => z.2.2 a (by omega)⟩)
def shR (N : Nat → Nat → Int64) (a1 a2 a3 : Int32) : Nat → Nat → Int64 := if ((0 ≤ a1 ∧ a1 ≤ 3) ∧ (a2 = 0 ∨ a2 = 8 ∨ a2 = 16 ∨ a2 = 64)) ∧ (0 ≤ a3 ∧ a3 ≤ 40) then shN N (iN a1) else N
theorem shR_y {N : Nat → Nat → Int64} {s : Nat} {a2 a3 : Int32} (hs : s < 4) (h : shV (nI s) a2 a3) : shR N (nI s) a2 a3 = shN N s := by
  unfold shR
  unfold shV at h
  rw [if_pos h, iN_n (by omega)]
theorem shR_n {N : Nat → Nat → Int64} {a1 a2 a3 : Int32} (h : ¬ shV a1 a2 a3) : shR N a1 a2 a3 = N := if_neg h
theorem c111 {xs : Option (List Int32)} {d : Nat} {w : List sx_C} {s : ST} (hI : WI w) (hC : CLS w s) (a1 a2 a3 : Int32) : sx_RP xs (d + 7) 111 0 (lv_args 0 [.ref 0, .int a1, .int a2, .int a3]) [] w (fun r w2 => r = some (.int (shAns a1 a2 a3)) ∧ WI w2 ∧ CLS w2 (s.1, s.2.1, s.2.2.1, s.2.2.2.1, shF s.2.2.2.2.1 a1 a2 a3, shR s.2.2.2.2.2 a1 a2 a3) ∧ ∀ a, 111 ≤ a → w2[a]? = w[a]?) := by
  by_cases h : 0 ≤ a1 ∧ a1 ≤ 3
  · obtain ⟨k, hk, rfl⟩ := sx_between h
    refine ((s111S (xs := xs) (d := d) hI hk a2 a3).and (F111 hI hk a2 a3)).mono9 (fun r w2 z => ?_)
    obtain ⟨⟨⟨z1, z2⟩, z3, z4⟩, z5, z6⟩ := z
    rw [hC.2.1.2.1] at z2
    rcases z6 with ⟨hv, h0, hE⟩ | ⟨hv, hE⟩
    · exact ⟨z1, z5, hC.sh hI z2 (by rw [shR_y hk hv, NCs_sh hk h0 (fun q hq hn => hE _ (by omega) (by omega)), hC.2.1.2.2]) (hC.2.2.same (fun a _ _ => hE a (by omega) (by omega))) (fun a ha => hE a (by omega) (by omega)), fun a ha => hE a (by omega) (by omega)⟩
    · exact ⟨z1, z5, hC.sh hI z2 (by rw [shR_n hv, NCs_eq (fun q hq => hE _ (by omega)), hC.2.1.2.2]) (hC.2.2.same (fun a _ _ => hE a (by omega))) (fun a ha => hE a (by omega)), fun a ha => hE a (by omega)⟩
  · refine ((s111Sn (xs := xs) (d := d) hI a1 a2 a3 h).and (F111n hI a1 a2 a3 h)).mono9 (fun r w2 z => ?_)
    obtain ⟨⟨⟨z1, z2⟩, z3, z4⟩, z5, hv, hE⟩ := z
    rw [hC.2.1.2.1] at z2
    exact ⟨z1, z5, hC.sh hI z2 (by rw [shR_n hv, NCs_eq (fun q hq => hE _ (by omega)), hC.2.1.2.2]) (hC.2.2.same (fun a _ _ => hE a (by omega))) (fun a ha => hE a (by omega)), fun a ha => hE a (by omega)⟩
theorem r230 {xs : Option (List Int32)} {d : Nat} {w : List sx_C} {s : ST} (hI : WI w) (hR : REF w s) (a1 a2 a3 : Int32) : sx_RP xs (d + 7) 230 0 (lv_args 0 [.ref 111, .int a1, .int a2, .int a3]) [] w (fun r w2 => r = some (.int (shAns a1 a2 a3)) ∧ WI w2 ∧ REF w2 (s.1, s.2.1, s.2.2.1, s.2.2.2.1, shF s.2.2.2.2.1 a1 a2 a3, shR s.2.2.2.2.2 a1 a2 a3) ∧ ∀ a, a < 111 → w2[a]? = w[a]?) := by
  by_cases h : 0 ≤ a1 ∧ a1 ≤ 3
  · obtain ⟨k, hk, rfl⟩ := sx_between h
    refine ((s230S (xs := xs) (d := d) hI hk a2 a3).and (F230 hI hk a2 a3)).mono9 (fun r w2 z => ?_)
    obtain ⟨⟨⟨z1, z2⟩, z3, z4⟩, z5, z6⟩ := z
    rw [hR.2.2.1] at z2
    rcases z6 with ⟨hv, h0, hE⟩ | ⟨hv, hE⟩
    · exact ⟨z1, z5, hR.sh z2 (by rw [shR_y hk hv, NMs_sh hk h0, hR.2.2.2]) (fun a ha => hE a (by omega) (by omega) (by omega)), z4⟩
    · exact ⟨z1, z5, hR.sh z2 (by rw [shR_n hv, NMs_eq (hE 124 (by omega)), hR.2.2.2]) (fun a ha => hE a (by omega)), z4⟩
  · refine ((s230Sn (xs := xs) (d := d) hI a1 a2 a3 h).and (F230n hI a1 a2 a3 h)).mono9 (fun r w2 z => ?_)
    obtain ⟨⟨⟨z1, z2⟩, z3, z4⟩, z5, hv, hE⟩ := z
    rw [hR.2.2.1] at z2
    exact ⟨z1, z5, hR.sh z2 (by rw [shR_n hv, NMs_eq (hE 124 (by omega)), hR.2.2.2]) (fun a ha => hE a (by omega)), z4⟩
theorem c12 {xs : Option (List Int32)} {d : Nat} {w : List sx_C} {s : ST} (hI : WI w) (hC : CLS w s) (a1 a2 : Int32) : sx_RP xs (d + 7) 12 0 (lv_args 0 [.ref 0, .int a1, .int a2]) [] w (fun r w2 => (∃ v : Int32, r = some (.int v)) ∧ WI w2 ∧ CLS w2 (s) ∧ ∀ a, 111 ≤ a → w2[a]? = w[a]?) := by
  exact (G12 hI a1 a2).mono9 (fun r w2 z => ⟨z.1, z.2.1, hC.es hI z.2.2, fun a ha => z.2.2.1 a (by unfold qc; omega)⟩)
theorem c14 {xs : Option (List Int32)} {d : Nat} {w : List sx_C} {s : ST} (hI : WI w) (hC : CLS w s) : sx_RP xs (d + 7) 14 0 (lv_args 0 [.ref 0]) [] w (fun r w2 => (∃ v : Int64, r = some (.long v)) ∧ WI w2 ∧ CLS w2 (s) ∧ ∀ a, 111 ≤ a → w2[a]? = w[a]?) := by
  exact (G14 hI).mono9 (fun r w2 z => ⟨z.1, z.2.1, hC.es hI z.2.2, fun a ha => z.2.2.1 a (by unfold qc; omega)⟩)
theorem c15 {xs : Option (List Int32)} {d : Nat} {w : List sx_C} {s : ST} (hI : WI w) (hC : CLS w s) (a1 a2 : Int32) : sx_RP xs (d + 7) 15 0 (lv_args 0 [.ref 0, .int a1, .int a2]) [] w (fun r w2 => (∃ v : Int32, r = some (.int v)) ∧ WI w2 ∧ CLS w2 (s) ∧ ∀ a, 111 ≤ a → w2[a]? = w[a]?) := by
  exact (G15 hI a1 a2).mono9 (fun r w2 z => ⟨z.1, z.2.1, hC.es hI z.2.2, fun a ha => z.2.2.1 a (by unfold qc; omega)⟩)
theorem c26 {xs : Option (List Int32)} {d : Nat} {w : List sx_C} {s : ST} (hI : WI w) (hC : CLS w s) (a1 a2 : Int32) : sx_RP xs (d + 7) 26 0 (lv_args 0 [.ref 0, .int a1, .int a2]) [] w (fun r w2 => (∃ v : Int32, r = some (.int v)) ∧ WI w2 ∧ CLS w2 (s) ∧ ∀ a, 111 ≤ a → w2[a]? = w[a]?) := by
  exact (G26 hI a1 a2).mono9 (fun r w2 z => ⟨z.1, z.2.1, hC.es hI z.2.2, fun a ha => z.2.2.1 a (by unfold qc; omega)⟩)
theorem c30 {xs : Option (List Int32)} {d : Nat} {w : List sx_C} {s : ST} (hI : WI w) (hC : CLS w s) (a1 a2 : Int32) : sx_RP xs (d + 7) 30 0 (lv_args 0 [.ref 0, .int a1, .int a2]) [] w (fun r w2 => (∃ v : Int32, r = some (.int v)) ∧ WI w2 ∧ CLS w2 (s) ∧ ∀ a, 111 ≤ a → w2[a]? = w[a]?) := by
  exact (G30 hI a1 a2).mono9 (fun r w2 z => ⟨z.1, z.2.1, hC.es hI z.2.2, fun a ha => z.2.2.1 a (by unfold qc; omega)⟩)
theorem c32 {xs : Option (List Int32)} {d : Nat} {w : List sx_C} {s : ST} (hI : WI w) (hC : CLS w s) (a1 a2 a3 : Int32) : sx_RP xs (d + 7) 32 0 (lv_args 0 [.ref 0, .int a1, .int a2, .int a3]) [] w (fun r w2 => (∃ v : Int32, r = some (.int v)) ∧ WI w2 ∧ CLS w2 (s) ∧ ∀ a, 111 ≤ a → w2[a]? = w[a]?) := by
  exact (G32 hI a1 a2 a3).mono9 (fun r w2 z => ⟨z.1, z.2.1, hC.es hI z.2.2, fun a ha => z.2.2.1 a (by unfold qc; omega)⟩)
theorem c48 {xs : Option (List Int32)} {d : Nat} {w : List sx_C} {s : ST} (hI : WI w) (hC : CLS w s) (a1 : Int32) : sx_RP xs (d + 7) 48 0 (lv_args 0 [.ref 0, .int a1]) [] w (fun r w2 => (∃ v : Int32, r = some (.int v)) ∧ WI w2 ∧ CLS w2 (s) ∧ ∀ a, 111 ≤ a → w2[a]? = w[a]?) := by
  exact (G48 hI a1).mono9 (fun r w2 z => ⟨z.1, z.2.1, hC.es hI z.2.2, fun a ha => z.2.2.1 a (by unfold qc; omega)⟩)
theorem c55 {xs : Option (List Int32)} {d : Nat} {w : List sx_C} {s : ST} (hI : WI w) (hC : CLS w s) (a1 a2 : Int32) : sx_RP xs (d + 7) 55 0 (lv_args 0 [.ref 0, .int a1, .int a2]) [] w (fun r w2 => (∃ v : Int32, r = some (.int v)) ∧ WI w2 ∧ CLS w2 (s) ∧ ∀ a, 111 ≤ a → w2[a]? = w[a]?) := by
  exact (G55 hI a1 a2).mono9 (fun r w2 z => ⟨z.1, z.2.1, hC.es hI z.2.2, fun a ha => z.2.2.1 a (by unfold qc; omega)⟩)
theorem c58 {xs : Option (List Int32)} {d : Nat} {w : List sx_C} {s : ST} (hI : WI w) (hC : CLS w s) (a1 a2 : Int32) : sx_RP xs (d + 7) 58 0 (lv_args 0 [.ref 0, .int a1, .int a2]) [] w (fun r w2 => (∃ v : Int32, r = some (.int v)) ∧ WI w2 ∧ CLS w2 (s) ∧ ∀ a, 111 ≤ a → w2[a]? = w[a]?) := by
  exact (G58 hI a1 a2).mono9 (fun r w2 z => ⟨z.1, z.2.1, hC.es hI z.2.2, fun a ha => z.2.2.1 a (by unfold qc; omega)⟩)
theorem c67 {xs : Option (List Int32)} {d : Nat} {w : List sx_C} {s : ST} (hI : WI w) (hC : CLS w s) (a1 : Int32) : sx_RP xs (d + 7) 67 0 (lv_args 0 [.ref 0, .int a1]) [] w (fun r w2 => (∃ v : Int32, r = some (.int v)) ∧ WI w2 ∧ CLS w2 (s) ∧ ∀ a, 111 ≤ a → w2[a]? = w[a]?) := by
  exact (G67 hI a1).mono9 (fun r w2 z => ⟨z.1, z.2.1, hC.es hI z.2.2, fun a ha => z.2.2.1 a (by unfold qc; omega)⟩)
theorem c70 {xs : Option (List Int32)} {d : Nat} {w : List sx_C} {s : ST} (hI : WI w) (hC : CLS w s) (a1 a2 : Int32) : sx_RP xs (d + 7) 70 0 (lv_args 0 [.ref 0, .int a1, .int a2]) [] w (fun r w2 => (∃ v : Int32, r = some (.int v)) ∧ WI w2 ∧ CLS w2 (s) ∧ ∀ a, 111 ≤ a → w2[a]? = w[a]?) := by
  exact (G70 hI a1 a2).mono9 (fun r w2 z => ⟨z.1, z.2.1, hC.es hI z.2.2, fun a ha => z.2.2.1 a (by unfold qc; omega)⟩)
theorem c71 {xs : Option (List Int32)} {d : Nat} {w : List sx_C} {s : ST} (hI : WI w) (hC : CLS w s) (a1 : Int32) : sx_RP xs (d + 7) 71 0 (lv_args 0 [.ref 0, .int a1]) [] w (fun r w2 => (∃ v : Int64, r = some (.long v)) ∧ WI w2 ∧ CLS w2 (s) ∧ ∀ a, 111 ≤ a → w2[a]? = w[a]?) := by
  exact (G71 hI a1).mono9 (fun r w2 z => ⟨z.1, z.2.1, hC.es hI z.2.2, fun a ha => z.2.2.1 a (by unfold qc; omega)⟩)
theorem c76 {xs : Option (List Int32)} {d : Nat} {w : List sx_C} {s : ST} (hI : WI w) (hC : CLS w s) (a1 a2 : Int32) : sx_RP xs (d + 7) 76 0 (lv_args 0 [.ref 0, .int a1, .int a2]) [] w (fun r w2 => (∃ v : Int32, r = some (.int v)) ∧ WI w2 ∧ CLS w2 (s) ∧ ∀ a, 111 ≤ a → w2[a]? = w[a]?) := by
  exact (G76 hI a1 a2).mono9 (fun r w2 z => ⟨z.1, z.2.1, hC.es hI z.2.2, fun a ha => z.2.2.1 a (by unfold qc; omega)⟩)
theorem c83 {xs : Option (List Int32)} {d : Nat} {w : List sx_C} {s : ST} (hI : WI w) (hC : CLS w s) : sx_RP xs (d + 7) 83 0 (lv_args 0 [.ref 0]) [] w (fun r w2 => (∃ v : Int32, r = some (.int v)) ∧ WI w2 ∧ CLS w2 (s) ∧ ∀ a, 111 ≤ a → w2[a]? = w[a]?) := by
  exact (G83 hI).mono9 (fun r w2 z => ⟨z.1, z.2.1, hC.es hI z.2.2, fun a ha => z.2.2.1 a (by unfold qc; omega)⟩)
theorem c127 {xs : Option (List Int32)} {d : Nat} {w : List sx_C} {s : ST} (hI : WI w) (hC : CLS w s) (a1 : Int32) : sx_RP xs (d + 7) 127 0 (lv_args 0 [.ref 0, .int a1]) [] w (fun r w2 => (∃ v : Int32, r = some (.int v)) ∧ WI w2 ∧ CLS w2 (s) ∧ ∀ a, 111 ≤ a → w2[a]? = w[a]?) := by
  exact (G127 hI a1).mono9 (fun r w2 z => ⟨z.1, z.2.1, hC.es hI z.2.2, fun a ha => z.2.2.1 a (by unfold qc; omega)⟩)
theorem c49 {xs : Option (List Int32)} {d : Nat} {w : List sx_C} {s : ST} (hI : WI w) (hC : CLS w s) (a1 a2 : Int32) : sx_RP xs (d + 7) 49 0 (lv_args 0 [.ref 0, .int a1, .int a2]) [] w (fun r w2 => (∃ v : Int32, r = some (.int v)) ∧ WI w2 ∧ CLS w2 (s) ∧ ∀ a, 111 ≤ a → w2[a]? = w[a]?) := by
  exact (G49 hI a1 a2).mono9 (fun r w2 z => ⟨z.1, z.2.1, hC.es hI z.2.2, fun a ha => z.2.2.1 a (by unfold qc; omega)⟩)
theorem c52 {xs : Option (List Int32)} {d : Nat} {w : List sx_C} {s : ST} (hI : WI w) (hC : CLS w s) (a1 : Int32) : sx_RP xs (d + 7) 52 0 (lv_args 0 [.ref 0, .int a1]) [] w (fun r w2 => (∃ v : Int32, r = some (.int v)) ∧ WI w2 ∧ CLS w2 (s) ∧ ∀ a, 111 ≤ a → w2[a]? = w[a]?) := by
  exact (G52 hI a1).mono9 (fun r w2 z => ⟨z.1, z.2.1, hC.es hI z.2.2, fun a ha => z.2.2.1 a (by unfold qc; omega)⟩)
theorem c53 {xs : Option (List Int32)} {d : Nat} {w : List sx_C} {s : ST} (hI : WI w) (hC : CLS w s) : sx_RP xs (d + 7) 53 0 (lv_args 0 [.ref 0]) [] w (fun r w2 => (∃ v : Int32, r = some (.int v)) ∧ WI w2 ∧ CLS w2 (s) ∧ ∀ a, 111 ≤ a → w2[a]? = w[a]?) := by
  exact (G53 hI).mono9 (fun r w2 z => ⟨z.1, z.2.1, hC.es hI z.2.2, fun a ha => z.2.2.1 a (by unfold qc; omega)⟩)
theorem c61 {xs : Option (List Int32)} {d : Nat} {w : List sx_C} {s : ST} (hI : WI w) (hC : CLS w s) (a1 : Int32) : sx_RP xs (d + 7) 61 0 (lv_args 0 [.ref 0, .int a1]) [] w (fun r w2 => (∃ v : Int32, r = some (.int v)) ∧ WI w2 ∧ CLS w2 (s) ∧ ∀ a, 111 ≤ a → w2[a]? = w[a]?) := by
  exact (G61 hI a1).mono9 (fun r w2 z => ⟨z.1, z.2.1, hC.es hI z.2.2, fun a ha => z.2.2.1 a (by unfold qc; omega)⟩)
theorem c74 {xs : Option (List Int32)} {d : Nat} {w : List sx_C} {s : ST} (hI : WI w) (hC : CLS w s) (a1 : Int32) : sx_RP xs (d + 7) 74 0 (lv_args 0 [.ref 0, .int a1]) [] w (fun r w2 => (∃ v : Int32, r = some (.int v)) ∧ WI w2 ∧ CLS w2 (s) ∧ ∀ a, 111 ≤ a → w2[a]? = w[a]?) := by
  exact (G74 hI a1).mono9 (fun r w2 z => ⟨z.1, z.2.1, hC.es hI z.2.2, fun a ha => z.2.2.1 a (by unfold qc; omega)⟩)
theorem c81 {xs : Option (List Int32)} {d : Nat} {w : List sx_C} {s : ST} (hI : WI w) (hC : CLS w s) (a1 : Int32) : sx_RP xs (d + 7) 81 0 (lv_args 0 [.ref 0, .int a1]) [] w (fun r w2 => (∃ v : Int32, r = some (.int v)) ∧ WI w2 ∧ CLS w2 (s) ∧ ∀ a, 111 ≤ a → w2[a]? = w[a]?) := by
  exact (G81 hI a1).mono9 (fun r w2 z => ⟨z.1, z.2.1, hC.es hI z.2.2, fun a ha => z.2.2.1 a (by unfold qc; omega)⟩)
theorem c86 {xs : Option (List Int32)} {d : Nat} {w : List sx_C} {s : ST} (hI : WI w) (hC : CLS w s) (a1 : Int32) : sx_RP xs (d + 7) 86 0 (lv_args 0 [.ref 0, .int a1]) [] w (fun r w2 => (∃ v : Int32, r = some (.int v)) ∧ WI w2 ∧ CLS w2 (s) ∧ ∀ a, 111 ≤ a → w2[a]? = w[a]?) := by
  exact (G86 hI a1).mono9 (fun r w2 z => ⟨z.1, z.2.1, hC.es hI z.2.2, fun a ha => z.2.2.1 a (by unfold qc; omega)⟩)
theorem c122 {xs : Option (List Int32)} {d : Nat} {w : List sx_C} {s : ST} (hI : WI w) (hC : CLS w s) (a1 : Int32) : sx_RP xs (d + 7) 122 0 (lv_args 0 [.ref 0, .int a1]) [] w (fun r w2 => (∃ v : Int32, r = some (.int v)) ∧ WI w2 ∧ CLS w2 (s) ∧ ∀ a, 111 ≤ a → w2[a]? = w[a]?) := by
  exact (G122 hI a1).mono9 (fun r w2 z => ⟨z.1, z.2.1, hC.es hI z.2.2, fun a ha => z.2.2.1 a (by unfold qc; omega)⟩)
theorem c128 {xs : Option (List Int32)} {d : Nat} {w : List sx_C} {s : ST} (hI : WI w) (hC : CLS w s) (a1 : Int32) : sx_RP xs (d + 7) 128 0 (lv_args 0 [.ref 0, .int a1]) [] w (fun r w2 => (∃ v : Int32, r = some (.int v)) ∧ WI w2 ∧ CLS w2 (s) ∧ ∀ a, 111 ≤ a → w2[a]? = w[a]?) := by
  exact (G128 hI a1).mono9 (fun r w2 z => ⟨z.1, z.2.1, hC.es hI z.2.2, fun a ha => z.2.2.1 a (by unfold qc; omega)⟩)
theorem r135 {xs : Option (List Int32)} {d : Nat} {w : List sx_C} {s : ST} (hI : WI w) (hR : REF w s) (a1 a2 : Int32) : sx_RP xs (d + 7) 135 0 (lv_args 0 [.ref 111, .int a1, .int a2]) [] w (fun r w2 => (∃ v : Int32, r = some (.int v)) ∧ WI w2 ∧ REF w2 (s) ∧ ∀ a, a < 111 → w2[a]? = w[a]?) := by
  exact (H135 hI a1 a2).mono9 (fun r w2 z => ⟨z.1, z.2.1, hR.ez z.2.2, fun a ha => z.2.2 a (by unfold zc; omega)⟩)
theorem r155 {xs : Option (List Int32)} {d : Nat} {w : List sx_C} {s : ST} (hI : WI w) (hR : REF w s) (a1 a2 : Int32) : sx_RP xs (d + 7) 155 0 (lv_args 0 [.ref 111, .int a1, .int a2]) [] w (fun r w2 => (∃ v : Int32, r = some (.int v)) ∧ WI w2 ∧ REF w2 (s) ∧ ∀ a, a < 111 → w2[a]? = w[a]?) := by
  exact (H155 hI a1 a2).mono9 (fun r w2 z => ⟨z.1, z.2.1, hR.ez z.2.2, fun a ha => z.2.2 a (by unfold zc; omega)⟩)
theorem r159 {xs : Option (List Int32)} {d : Nat} {w : List sx_C} {s : ST} (hI : WI w) (hR : REF w s) (a1 a2 : Int32) : sx_RP xs (d + 7) 159 0 (lv_args 0 [.ref 111, .int a1, .int a2]) [] w (fun r w2 => (∃ v : Int32, r = some (.int v)) ∧ WI w2 ∧ REF w2 (s) ∧ ∀ a, a < 111 → w2[a]? = w[a]?) := by
  exact (H159 hI a1 a2).mono9 (fun r w2 z => ⟨z.1, z.2.1, hR.ez z.2.2, fun a ha => z.2.2 a (by unfold zc; omega)⟩)
theorem r161 {xs : Option (List Int32)} {d : Nat} {w : List sx_C} {s : ST} (hI : WI w) (hR : REF w s) (a1 a2 a3 : Int32) : sx_RP xs (d + 7) 161 0 (lv_args 0 [.ref 111, .int a1, .int a2, .int a3]) [] w (fun r w2 => (∃ v : Int32, r = some (.int v)) ∧ WI w2 ∧ REF w2 (s) ∧ ∀ a, a < 111 → w2[a]? = w[a]?) := by
  exact (H161 hI a1 a2 a3).mono9 (fun r w2 z => ⟨z.1, z.2.1, hR.ez z.2.2, fun a ha => z.2.2 a (by unfold zc; omega)⟩)
theorem r173 {xs : Option (List Int32)} {d : Nat} {w : List sx_C} {s : ST} (hI : WI w) (hR : REF w s) (a1 : Int32) : sx_RP xs (d + 7) 173 0 (lv_args 0 [.ref 111, .int a1]) [] w (fun r w2 => (∃ v : Int32, r = some (.int v)) ∧ WI w2 ∧ REF w2 (s) ∧ ∀ a, a < 111 → w2[a]? = w[a]?) := by
  exact (H173 hI a1).mono9 (fun r w2 z => ⟨z.1, z.2.1, hR.ez z.2.2, fun a ha => z.2.2 a (by unfold zc; omega)⟩)
theorem r196 {xs : Option (List Int32)} {d : Nat} {w : List sx_C} {s : ST} (hI : WI w) (hR : REF w s) (a1 a2 : Int32) : sx_RP xs (d + 7) 196 0 (lv_args 0 [.ref 111, .int a1, .int a2]) [] w (fun r w2 => (∃ v : Int32, r = some (.int v)) ∧ WI w2 ∧ REF w2 (s) ∧ ∀ a, a < 111 → w2[a]? = w[a]?) := by
  exact (H196 hI a1 a2).mono9 (fun r w2 z => ⟨z.1, z.2.1, hR.ez z.2.2, fun a ha => z.2.2 a (by unfold zc; omega)⟩)
theorem r205 {xs : Option (List Int32)} {d : Nat} {w : List sx_C} {s : ST} (hI : WI w) (hR : REF w s) : sx_RP xs (d + 7) 205 0 (lv_args 0 [.ref 111]) [] w (fun r w2 => (∃ v : Int32, r = some (.int v)) ∧ WI w2 ∧ REF w2 (s) ∧ ∀ a, a < 111 → w2[a]? = w[a]?) := by
  exact (H205 hI).mono9 (fun r w2 z => ⟨z.1, z.2.1, hR.ez z.2.2, fun a ha => z.2.2 a (by unfold zc; omega)⟩)
theorem r243 {xs : Option (List Int32)} {d : Nat} {w : List sx_C} {s : ST} (hI : WI w) (hR : REF w s) (a1 : Int32) : sx_RP xs (d + 7) 243 0 (lv_args 0 [.ref 111, .int a1]) [] w (fun r w2 => (∃ v : Int32, r = some (.int v)) ∧ WI w2 ∧ REF w2 (s) ∧ ∀ a, a < 111 → w2[a]? = w[a]?) := by
  exact (H243 hI a1).mono9 (fun r w2 z => ⟨z.1, z.2.1, hR.ez z.2.2, fun a ha => z.2.2 a (by unfold zc; omega)⟩)
theorem r202 {xs : Option (List Int32)} {d : Nat} {w : List sx_C} {s : ST} (hI : WI w) (hR : REF w s) (a1 : Int32) : sx_RP xs (d + 7) 202 0 (lv_args 0 [.ref 111, .int a1]) [] w (fun r w2 => (∃ v : Int32, r = some (.int v)) ∧ WI w2 ∧ REF w2 (s) ∧ ∀ a, a < 111 → w2[a]? = w[a]?) := by
  exact (H202 hI a1).mono9 (fun r w2 z => ⟨z.1, z.2.1, hR.ez z.2.2, fun a ha => z.2.2 a (by unfold zc; omega)⟩)
theorem r245 {xs : Option (List Int32)} {d : Nat} {w : List sx_C} {s : ST} (hI : WI w) (hR : REF w s) (a1 : Int32) : sx_RP xs (d + 7) 245 0 (lv_args 0 [.ref 111, .int a1]) [] w (fun r w2 => (∃ v : Int32, r = some (.int v)) ∧ WI w2 ∧ REF w2 (s) ∧ ∀ a, a < 111 → w2[a]? = w[a]?) := by
  exact (H245 hI a1).mono9 (fun r w2 z => ⟨z.1, z.2.1, hR.ez z.2.2, fun a ha => z.2.2 a (by unfold zc; omega)⟩)
theorem r207 {xs : Option (List Int32)} {d : Nat} {w : List sx_C} {s : ST} (hI : WI w) (hR : REF w s) (a1 : Int32) : sx_RP xs (d + 7) 207 0 (lv_args 0 [.ref 111, .int a1]) [] w (fun r w2 => (∃ v : Int32, r = some (.int v)) ∧ WI w2 ∧ REF w2 (s) ∧ ∀ a, a < 111 → w2[a]? = w[a]?) := by
  exact (H207 hI a1).mono9 (fun r w2 z => ⟨z.1, z.2.1, hR.ez z.2.2, fun a ha => z.2.2 a (by unfold zc; omega)⟩)
theorem r140 {xs : Option (List Int32)} {d : Nat} {w : List sx_C} {s : ST} (hI : WI w) (hR : REF w s) (a1 a2 : Int32) : sx_RP xs (d + 7) 140 0 (lv_args 0 [.ref 111, .int a1, .int a2]) [] w (fun r w2 => (∃ v : Int32, r = some (.int v)) ∧ WI w2 ∧ REF w2 (s) ∧ ∀ a, a < 111 → w2[a]? = w[a]?) := by
  exact (H140 hI a1 a2).mono9 (fun r w2 z => ⟨z.1, z.2.1, hR.ez z.2.2, fun a ha => z.2.2 a (by unfold zc; omega)⟩)
theorem r179 {xs : Option (List Int32)} {d : Nat} {w : List sx_C} {s : ST} (hI : WI w) (hR : REF w s) (a1 a2 : Int32) : sx_RP xs (d + 7) 179 0 (lv_args 0 [.ref 111, .int a1, .int a2]) [] w (fun r w2 => (∃ v : Int32, r = some (.int v)) ∧ WI w2 ∧ REF w2 (s) ∧ ∀ a, a < 111 → w2[a]? = w[a]?) := by
  exact (H179 hI a1 a2).mono9 (fun r w2 z => ⟨z.1, z.2.1, hR.ez z.2.2, fun a ha => z.2.2 a (by unfold zc; omega)⟩)
theorem r187 {xs : Option (List Int32)} {d : Nat} {w : List sx_C} {s : ST} (hI : WI w) (hR : REF w s) (a1 : Int32) : sx_RP xs (d + 7) 187 0 (lv_args 0 [.ref 111, .int a1]) [] w (fun r w2 => (∃ v : Int32, r = some (.int v)) ∧ WI w2 ∧ REF w2 (s) ∧ ∀ a, a < 111 → w2[a]? = w[a]?) := by
  exact (H187 hI a1).mono9 (fun r w2 z => ⟨z.1, z.2.1, hR.ez z.2.2, fun a ha => z.2.2 a (by unfold zc; omega)⟩)
theorem r191 {xs : Option (List Int32)} {d : Nat} {w : List sx_C} {s : ST} (hI : WI w) (hR : REF w s) (a1 a2 : Int32) : sx_RP xs (d + 7) 191 0 (lv_args 0 [.ref 111, .int a1, .int a2]) [] w (fun r w2 => (∃ v : Int32, r = some (.int v)) ∧ WI w2 ∧ REF w2 (s) ∧ ∀ a, a < 111 → w2[a]? = w[a]?) := by
  exact (H191 hI a1 a2).mono9 (fun r w2 z => ⟨z.1, z.2.1, hR.ez z.2.2, fun a ha => z.2.2 a (by unfold zc; omega)⟩)
theorem r192 {xs : Option (List Int32)} {d : Nat} {w : List sx_C} {s : ST} (hI : WI w) (hR : REF w s) (a1 : Int32) : sx_RP xs (d + 7) 192 0 (lv_args 0 [.ref 111, .int a1]) [] w (fun r w2 => (∃ v : Int64, r = some (.long v)) ∧ WI w2 ∧ REF w2 (s) ∧ ∀ a, a < 111 → w2[a]? = w[a]?) := by
  exact (H192 hI a1).mono9 (fun r w2 z => ⟨z.1, z.2.1, hR.ez z.2.2, fun a ha => z.2.2 a (by unfold zc; omega)⟩)
theorem r194 {xs : Option (List Int32)} {d : Nat} {w : List sx_C} {s : ST} (hI : WI w) (hR : REF w s) (a1 : Int32) : sx_RP xs (d + 7) 194 0 (lv_args 0 [.ref 111, .int a1]) [] w (fun r w2 => (∃ v : Int32, r = some (.int v)) ∧ WI w2 ∧ REF w2 (s) ∧ ∀ a, a < 111 → w2[a]? = w[a]?) := by
  exact (H194 hI a1).mono9 (fun r w2 z => ⟨z.1, z.2.1, hR.ez z.2.2, fun a ha => z.2.2 a (by unfold zc; omega)⟩)
theorem r174 {xs : Option (List Int32)} {d : Nat} {w : List sx_C} {s : ST} (hI : WI w) (hR : REF w s) (a1 a2 : Int32) : sx_RP xs (d + 7) 174 0 (lv_args 0 [.ref 111, .int a1, .int a2]) [] w (fun r w2 => (∃ v : Int32, r = some (.int v)) ∧ WI w2 ∧ REF w2 (s) ∧ ∀ a, a < 111 → w2[a]? = w[a]?) := by
  exact (H174 hI a1 a2).mono9 (fun r w2 z => ⟨z.1, z.2.1, hR.ezl z.2.2, fun a ha => z.2.2.1 a (by unfold yc; omega) (by omega)⟩)
theorem r176 {xs : Option (List Int32)} {d : Nat} {w : List sx_C} {s : ST} (hI : WI w) (hR : REF w s) (a1 : Int32) : sx_RP xs (d + 7) 176 0 (lv_args 0 [.ref 111, .int a1]) [] w (fun r w2 => (∃ v : Int32, r = some (.int v)) ∧ WI w2 ∧ REF w2 (s) ∧ ∀ a, a < 111 → w2[a]? = w[a]?) := by
  exact (H176 hI a1).mono9 (fun r w2 z => ⟨z.1, z.2.1, hR.ezl z.2.2, fun a ha => z.2.2.1 a (by unfold yc; omega) (by omega)⟩)
theorem r177 {xs : Option (List Int32)} {d : Nat} {w : List sx_C} {s : ST} (hI : WI w) (hR : REF w s) : sx_RP xs (d + 7) 177 0 (lv_args 0 [.ref 111]) [] w (fun r w2 => (∃ v : Int32, r = some (.int v)) ∧ WI w2 ∧ REF w2 (s) ∧ ∀ a, a < 111 → w2[a]? = w[a]?) := by
  exact (H177 hI).mono9 (fun r w2 z => ⟨z.1, z.2.1, hR.ezl z.2.2, fun a ha => z.2.2.1 a (by unfold yc; omega) (by omega)⟩)
theorem r180 {xs : Option (List Int32)} {d : Nat} {w : List sx_C} {s : ST} (hI : WI w) (hR : REF w s) (a1 a2 : Int32) : sx_RP xs (d + 7) 180 0 (lv_args 0 [.ref 111, .int a1, .int a2]) [] w (fun r w2 => (∃ v : Int32, r = some (.int v)) ∧ WI w2 ∧ REF w2 (s) ∧ ∀ a, a < 111 → w2[a]? = w[a]?) := by
  exact (H180 hI a1 a2).mono9 (fun r w2 z => ⟨z.1, z.2.1, hR.ezl z.2.2, fun a ha => z.2.2.1 a (by unfold yc; omega) (by omega)⟩)
theorem r183 {xs : Option (List Int32)} {d : Nat} {w : List sx_C} {s : ST} (hI : WI w) (hR : REF w s) (a1 : Int32) : sx_RP xs (d + 7) 183 0 (lv_args 0 [.ref 111, .int a1]) [] w (fun r w2 => (∃ v : Int32, r = some (.int v)) ∧ WI w2 ∧ REF w2 (s) ∧ ∀ a, a < 111 → w2[a]? = w[a]?) := by
  exact (H183 hI a1).mono9 (fun r w2 z => ⟨z.1, z.2.1, hR.ezl z.2.2, fun a ha => z.2.2.1 a (by unfold yc; omega) (by omega)⟩)
theorem r238 {xs : Option (List Int32)} {d : Nat} {w : List sx_C} {s : ST} (hI : WI w) (hR : REF w s) (a1 : Int32) : sx_RP xs (d + 7) 238 0 (lv_args 0 [.ref 111, .int a1]) [] w (fun r w2 => (∃ v : Int32, r = some (.int v)) ∧ WI w2 ∧ REF w2 (s) ∧ ∀ a, a < 111 → w2[a]? = w[a]?) := by
  exact (H238 hI a1).mono9 (fun r w2 z => ⟨z.1, z.2.1, hR.ezl z.2.2, fun a ha => z.2.2.1 a (by unfold yc; omega) (by omega)⟩)
theorem a15 {xs : Option (List Int32)} {d : Nat} {w : List sx_C} {s : ST} (hI : WI w) (hC : CLS w s) (a1 a2 : Int32) : sx_RP xs (d + 7) 15 0 (lv_args 0 [.ref 0, .int a1, .int a2]) [] w (fun r w2 => r = some (.int (farA s.1 a1 a2)) ∧ WI w2 ∧ CLS w2 (s) ∧ ∀ a, 111 ≤ a → w2[a]? = w[a]?) := by
  exact ((c15 (xs := xs) (d := d) hI hC a1 a2).and (A15 hI s.1 hC.1.1 hC.2.2 a1 a2)).mono9 (fun r w2 z => ⟨z.2.1, z.1.2.1, z.1.2.2.1, z.1.2.2.2⟩)
theorem a140 {xs : Option (List Int32)} {d : Nat} {w : List sx_C} {s : ST} (hI : WI w) (hR : REF w s) (a1 a2 : Int32) : sx_RP xs (d + 7) 140 0 (lv_args 0 [.ref 111, .int a1, .int a2]) [] w (fun r w2 => r = some (.int (farA s.1 a1 a2)) ∧ WI w2 ∧ REF w2 (s) ∧ ∀ a, a < 111 → w2[a]? = w[a]?) := by
  refine ((r140 (xs := xs) (d := d) hI hR a1 a2).and (A140 hI a1 a2)).mono9 (fun r w2 z => ⟨?_, z.1.2.1, z.1.2.2.1, z.1.2.2.2⟩)
  rw [z.2.1, hR.1.1]
end
-- 89y37.ans6.lean.txt
section
-- answers: cellOf
def hsF (l : List Int32) (c : Nat) : Nat → Int32
  | 0 => 0
  | n + 1 => if gF l n 5 = 0 ∧ gF l n 2 = nI c then hsF l c n + 1 else hsF l c n
theorem hs_y {l : List Int32} {c j : Nat} (h : gF l j 5 = 0 ∧ gF l j 2 = nI c) : hsF l c j + 1 = hsF l c (j + 1) := (if_pos h).symm
theorem hs_n {l : List Int32} {c j : Nat} (h : ¬ (gF l j 5 = 0 ∧ gF l j 2 = nI c)) : hsF l c j = hsF l c (j + 1) := (if_neg h).symm
set_option maxRecDepth 20000 in
set_option maxHeartbeats 4000000 in
theorem x13L {xs : Option (List Int32)} {d c n : Nat} {w : List sx_C} {l : List Int32} (hI : WI w) (hR : rel w 1 l) (hc : c < 48) (hn : n ≤ 10) (en : l.getD 1 0 = nI n) : ∀ (q j : Nat), j + q = n → sx_RP xs d 13 4 [(0, .ref 1), (1, .int (nI c)), (2, .int (hsF l c j)), (3, .int (nI j))] [] w (fun r w2 => r = some (.int (hsF l c n)) ∧ w2 = w)
  | 0, j, hj => by
    obtain rfl : j = n := by omega
    refine sx_RP.step (pc2 := 5) (ls2 := [(0, .ref 1), (1, .int (nI c)), (2, .int (hsF l c j)), (3, .int (nI j))]) (st2 := [.int (nI j)]) (w3 := w) rfl rfl ?_
    refine sx_RP.step (pc2 := 6) (ls2 := [(0, .ref 1), (1, .int (nI c)), (2, .int (hsF l c j)), (3, .int (nI j))]) (st2 := [.ref 1, .int (nI j)]) (w3 := w) rfl rfl ?_
    refine sx_RP.gc (k := 3) hI (Or.inl rfl) rfl rfl (by omega) (show _ = 9 from rfl) ?_
    rw [(hR.many.trans en)]
    refine sx_RP.br (p1 := 46) (l1 := [(0, .ref 1), (1, .int (nI c)), (2, .int (hsF l c j)), (3, .int (nI j))]) (s1 := []) (v1 := w) rfl rfl (fun _ => ?_) (fun q => absurd (nI_le (a := j) (b := j) (by omega) (by omega)) (of_decide_eq_false q))
    refine sx_RP.step (pc2 := 47) (ls2 := [(0, .ref 1), (1, .int (nI c)), (2, .int (hsF l c j)), (3, .int (nI j))]) (st2 := [.int (hsF l c j)]) (w3 := w) rfl rfl ?_
    refine sx_RP.ret (r := (some (.int (hsF l c j)))) rfl rfl ?_
    exact ⟨rfl, rfl⟩
  | q + 1, j, hj => by
    refine sx_RP.step (pc2 := 5) (ls2 := [(0, .ref 1), (1, .int (nI c)), (2, .int (hsF l c j)), (3, .int (nI j))]) (st2 := [.int (nI j)]) (w3 := w) rfl rfl ?_
    refine sx_RP.step (pc2 := 6) (ls2 := [(0, .ref 1), (1, .int (nI c)), (2, .int (hsF l c j)), (3, .int (nI j))]) (st2 := [.ref 1, .int (nI j)]) (w3 := w) rfl rfl ?_
    refine sx_RP.gc (k := 3) hI (Or.inl rfl) rfl rfl (by omega) (show _ = 9 from rfl) ?_
    rw [(hR.many.trans en)]
    refine sx_RP.br (p2 := 12) (l2 := [(0, .ref 1), (1, .int (nI c)), (2, .int (hsF l c j)), (3, .int (nI j))]) (s2 := []) (v2 := w) rfl rfl (fun q => absurd (of_decide_eq_true q) (fun z => absurd ((nI_leI (a := n) (b := j) (by omega) (by omega)).mp z) (by omega))) (fun _ => ?_)
    refine sx_RP.step (pc2 := 13) (ls2 := [(0, .ref 1), (1, .int (nI c)), (2, .int (hsF l c j)), (3, .int (nI j))]) (st2 := [.ref 1]) (w3 := w) rfl rfl ?_
    refine sx_RP.gref (k := 2) (b := 3) hI (Or.inl rfl) rfl rfl (by omega) (show _ = 16 from rfl) ?_
    refine sx_RP.step (pc2 := 17) (ls2 := [(0, .ref 1), (1, .int (nI c)), (2, .int (hsF l c j)), (3, .int (nI j))]) (st2 := [.int (nI j), .ref 3]) (w3 := w) rfl rfl ?_
    refine sx_RP.ald (v := .ref (1 + 4 + j)) rfl (hI.1.aG (Or.inl rfl)) rfl (grA_at (show j < 10 by omega)) (show _ = 18 from rfl) ?_
    refine sx_RP.gg (k := 5) hI (gAd.of (Or.inl rfl) (show j < 10 by omega)) rfl rfl (by decide) (show _ = 21 from rfl) ?_
    obtain ⟨x1, hx2, ex3⟩ : inR (fi w (1 + 4 + j) 5) 1 := hI.gk (k := 5) (gAd.of (Or.inl rfl) (show j < 10 by omega)) (by decide)
    rw [ex3]
    refine sx_RP.br (p1 := 40) (l1 := [(0, .ref 1), (1, .int (nI c)), (2, .int (hsF l c j)), (3, .int (nI j))]) (s1 := []) (v1 := w) (p2 := 24) (l2 := [(0, .ref 1), (1, .int (nI c)), (2, .int (hsF l c j)), (3, .int (nI j))]) (s2 := []) (v2 := w) rfl rfl (fun q4 => ?_) (fun q4 => ?_)
    · replace q4 := of_decide_eq_true q4
      replace q4 := mt (nI_eq (a := x1) (b := 0) (by omega) (by omega)).mpr q4
      refine sx_RP.step (pc2 := 43) (ls2 := [(3, .int ((nI j) + 1)), (0, .ref 1), (1, .int (nI c)), (2, .int (hsF l c j))]) (st2 := []) (w3 := w) rfl rfl ?_
      rw [nI_1 j]
      refine sx_RP.step (pc2 := 4) (ls2 := [(3, .int (nI (j + 1))), (0, .ref 1), (1, .int (nI c)), (2, .int (hsF l c j))]) (st2 := []) (w3 := w) rfl rfl ?_
      have e9 := hs_n (l := l) (c := c) (j := j) (fun z => q4 ((nI_eq (a := x1) (b := 0) (by omega) (by decide)).mp (((hR.ga (i := j) (k := 5) (by rw [en, iN_n (by omega)]; omega) (by decide)).symm.trans ex3).symm.trans z.1)))
      rw [e9]
      exact sx_RP.ls (sx_lr.cons rfl (sx_lr.cons rfl (sx_lr.cons rfl (sx_lr.cons rfl sx_lr.nil)))) (x13L hI hR hc hn en q (j + 1) (by omega))
    · replace q4 := Decidable.not_not.mp (of_decide_eq_false q4)
      replace q4 := (nI_eq (a := x1) (b := 0) (by omega) (by omega)).mp q4
      refine sx_RP.step (pc2 := 25) (ls2 := [(0, .ref 1), (1, .int (nI c)), (2, .int (hsF l c j)), (3, .int (nI j))]) (st2 := [.ref 1]) (w3 := w) rfl rfl ?_
      refine sx_RP.gref (k := 2) (b := 3) hI (Or.inl rfl) rfl rfl (by omega) (show _ = 28 from rfl) ?_
      refine sx_RP.step (pc2 := 29) (ls2 := [(0, .ref 1), (1, .int (nI c)), (2, .int (hsF l c j)), (3, .int (nI j))]) (st2 := [.int (nI j), .ref 3]) (w3 := w) rfl rfl ?_
      refine sx_RP.ald (v := .ref (1 + 4 + j)) rfl (hI.1.aG (Or.inl rfl)) rfl (grA_at (show j < 10 by omega)) (show _ = 30 from rfl) ?_
      refine sx_RP.gg (k := 2) hI (gAd.of (Or.inl rfl) (show j < 10 by omega)) rfl rfl (by decide) (show _ = 33 from rfl) ?_
      obtain ⟨x5, hx6, ex7⟩ : inR (fi w (1 + 4 + j) 2) 47 := hI.gk (k := 2) (gAd.of (Or.inl rfl) (show j < 10 by omega)) (by decide)
      rw [ex7]
      refine sx_RP.step (pc2 := 34) (ls2 := [(0, .ref 1), (1, .int (nI c)), (2, .int (hsF l c j)), (3, .int (nI j))]) (st2 := [.int (nI c), .int (nI x5)]) (w3 := w) rfl rfl ?_
      refine sx_RP.br (p1 := 40) (l1 := [(0, .ref 1), (1, .int (nI c)), (2, .int (hsF l c j)), (3, .int (nI j))]) (s1 := []) (v1 := w) (p2 := 37) (l2 := [(0, .ref 1), (1, .int (nI c)), (2, .int (hsF l c j)), (3, .int (nI j))]) (s2 := []) (v2 := w) rfl rfl (fun q8 => ?_) (fun q8 => ?_)
      · replace q8 := of_decide_eq_true q8
        replace q8 := mt (nI_eq (a := x5) (b := c) (by omega) (by omega)).mpr q8
        refine sx_RP.step (pc2 := 43) (ls2 := [(3, .int ((nI j) + 1)), (0, .ref 1), (1, .int (nI c)), (2, .int (hsF l c j))]) (st2 := []) (w3 := w) rfl rfl ?_
        rw [nI_1 j]
        refine sx_RP.step (pc2 := 4) (ls2 := [(3, .int (nI (j + 1))), (0, .ref 1), (1, .int (nI c)), (2, .int (hsF l c j))]) (st2 := []) (w3 := w) rfl rfl ?_
        have e9 := hs_n (l := l) (c := c) (j := j) (fun z => q8 ((nI_eq (a := x5) (b := c) (by omega) (by omega)).mp (((hR.ga (i := j) (k := 2) (by rw [en, iN_n (by omega)]; omega) (by decide)).symm.trans ex7).symm.trans z.2)))
        rw [e9]
        exact sx_RP.ls (sx_lr.cons rfl (sx_lr.cons rfl (sx_lr.cons rfl (sx_lr.cons rfl sx_lr.nil)))) (x13L hI hR hc hn en q (j + 1) (by omega))
      · replace q8 := Decidable.not_not.mp (of_decide_eq_false q8)
        replace q8 := (nI_eq (a := x5) (b := c) (by omega) (by omega)).mp q8
        refine sx_RP.step (pc2 := 40) (ls2 := [(2, .int ((hsF l c j) + 1)), (0, .ref 1), (1, .int (nI c)), (3, .int (nI j))]) (st2 := []) (w3 := w) rfl rfl ?_
        refine sx_RP.step (pc2 := 43) (ls2 := [(3, .int ((nI j) + 1)), (2, .int ((hsF l c j) + 1)), (0, .ref 1), (1, .int (nI c))]) (st2 := []) (w3 := w) rfl rfl ?_
        rw [nI_1 j]
        refine sx_RP.step (pc2 := 4) (ls2 := [(3, .int (nI (j + 1))), (2, .int ((hsF l c j) + 1)), (0, .ref 1), (1, .int (nI c))]) (st2 := []) (w3 := w) rfl rfl ?_
        have e9 := hs_y (l := l) (c := c) (j := j) ⟨((hR.ga (i := j) (k := 5) (by rw [en, iN_n (by omega)]; omega) (by decide)).symm.trans ex3).trans (by rw [q4]; rfl), ((hR.ga (i := j) (k := 2) (by rw [en, iN_n (by omega)]; omega) (by decide)).symm.trans ex7).trans (by rw [q8])⟩
        rw [e9]
        exact sx_RP.ls (sx_lr.cons rfl (sx_lr.cons rfl (sx_lr.cons rfl (sx_lr.cons rfl sx_lr.nil)))) (x13L hI hR hc hn en q (j + 1) (by omega))
set_option maxRecDepth 20000 in
set_option maxHeartbeats 4000000 in
theorem x13 {xs : Option (List Int32)} {d : Nat} {w : List sx_C} (hI : WI w) {c n : Nat} {l : List Int32} (hR : rel w 1 l) (hc : c < 48) (hn : n ≤ 10) (en : l.getD 1 0 = nI n) : sx_RU xs d 13 0 (lv_args 0 [.ref 1, .int (nI c)]) [] w (some (.int (hsF l c n))) w := by
  have h : sx_RP xs d 13 0 (lv_args 0 [.ref 1, .int (nI c)]) [] w (fun r9 w2 => r9 = some (.int (hsF l c n)) ∧ w2 = w) := by
    refine sx_RP.step (pc2 := 1) (ls2 := [(0, .ref 1), (1, .int (nI c))]) (st2 := [.int 0]) (w3 := w) rfl rfl ?_
    refine sx_RP.step (pc2 := 2) (ls2 := [(2, .int 0), (0, .ref 1), (1, .int (nI c))]) (st2 := []) (w3 := w) rfl rfl ?_
    refine sx_RP.step (pc2 := 3) (ls2 := [(2, .int 0), (0, .ref 1), (1, .int (nI c))]) (st2 := [.int 0]) (w3 := w) rfl rfl ?_
    refine sx_RP.step (pc2 := 4) (ls2 := [(3, .int 0), (2, .int 0), (0, .ref 1), (1, .int (nI c))]) (st2 := []) (w3 := w) rfl rfl ?_
    exact sx_RP.ls (sx_lr.cons rfl (sx_lr.cons rfl (sx_lr.cons rfl (sx_lr.cons rfl sx_lr.nil)))) (x13L hI hR hc hn en n 0 (by omega))
  obtain ⟨r9, w2, h1, rfl, rfl⟩ := h
  exact h1
set_option maxRecDepth 20000 in
set_option maxHeartbeats 4000000 in
theorem x136L {xs : Option (List Int32)} {d c n : Nat} {w : List sx_C} (hI : WI w) (hc : c < 48) (hn : n ≤ 10) (en : (ia w 112).getD 1 0 = nI n) : ∀ (q j : Nat), j + q = n → sx_RP xs (d + 2) 136 4 [(0, .ref 111), (1, .int (nI c)), (2, .int (hsF (ia w 112) c j)), (3, .int (nI j))] [] w (fun r w2 => r = some (.int (hsF (ia w 112) c n)) ∧ w2 = w)
  | 0, j, hj => by
    obtain rfl : j = n := by omega
    refine sx_RP.step (pc2 := 5) (ls2 := [(0, .ref 111), (1, .int (nI c)), (2, .int (hsF (ia w 112) c j)), (3, .int (nI j))]) (st2 := [.int (nI j)]) (w3 := w) rfl rfl ?_
    refine sx_RP.step (pc2 := 6) (ls2 := [(0, .ref 111), (1, .int (nI c)), (2, .int (hsF (ia w 112) c j)), (3, .int (nI j))]) (st2 := [.ref 111, .int (nI j)]) (w3 := w) rfl rfl ?_
    refine sx_RP.gf (v := .ref 112) rfl rfl hI.1.o111 rfl rfl (show _ = 9 from rfl) ?_
    refine sx_RP.step (pc2 := 10) (ls2 := [(0, .ref 111), (1, .int (nI c)), (2, .int (hsF (ia w 112) c j)), (3, .int (nI j))]) (st2 := [.int 1, .ref 112, .int (nI j)]) (w3 := w) rfl rfl ?_
    refine sx_RP.ild (c := 1) rfl hI.1.a112.1 hI.1.a112.2 (sx_in_nI (show 1 < 172 by omega) (by decide)) (show (nI 1).toNatClampNeg = 1 from nI_clamp (by omega)) (show _ = 11 from rfl) ?_
    rw [en]
    refine sx_RP.br (p1 := 46) (l1 := [(0, .ref 111), (1, .int (nI c)), (2, .int (hsF (ia w 112) c j)), (3, .int (nI j))]) (s1 := []) (v1 := w) rfl rfl (fun _ => ?_) (fun q => absurd (nI_le (a := j) (b := j) (by omega) (by omega)) (of_decide_eq_false q))
    refine sx_RP.step (pc2 := 47) (ls2 := [(0, .ref 111), (1, .int (nI c)), (2, .int (hsF (ia w 112) c j)), (3, .int (nI j))]) (st2 := [.int (hsF (ia w 112) c j)]) (w3 := w) rfl rfl ?_
    refine sx_RP.ret (r := (some (.int (hsF (ia w 112) c j)))) rfl rfl ?_
    exact ⟨rfl, rfl⟩
  | q + 1, j, hj => by
    refine sx_RP.step (pc2 := 5) (ls2 := [(0, .ref 111), (1, .int (nI c)), (2, .int (hsF (ia w 112) c j)), (3, .int (nI j))]) (st2 := [.int (nI j)]) (w3 := w) rfl rfl ?_
    refine sx_RP.step (pc2 := 6) (ls2 := [(0, .ref 111), (1, .int (nI c)), (2, .int (hsF (ia w 112) c j)), (3, .int (nI j))]) (st2 := [.ref 111, .int (nI j)]) (w3 := w) rfl rfl ?_
    refine sx_RP.gf (v := .ref 112) rfl rfl hI.1.o111 rfl rfl (show _ = 9 from rfl) ?_
    refine sx_RP.step (pc2 := 10) (ls2 := [(0, .ref 111), (1, .int (nI c)), (2, .int (hsF (ia w 112) c j)), (3, .int (nI j))]) (st2 := [.int 1, .ref 112, .int (nI j)]) (w3 := w) rfl rfl ?_
    refine sx_RP.ild (c := 1) rfl hI.1.a112.1 hI.1.a112.2 (sx_in_nI (show 1 < 172 by omega) (by decide)) (show (nI 1).toNatClampNeg = 1 from nI_clamp (by omega)) (show _ = 11 from rfl) ?_
    rw [en]
    refine sx_RP.br (p2 := 14) (l2 := [(0, .ref 111), (1, .int (nI c)), (2, .int (hsF (ia w 112) c j)), (3, .int (nI j))]) (s2 := []) (v2 := w) rfl rfl (fun q => absurd (of_decide_eq_true q) (fun z => absurd ((nI_leI (a := n) (b := j) (by omega) (by omega)).mp z) (by omega))) (fun _ => ?_)
    refine sx_RP.step (pc2 := 15) (ls2 := [(0, .ref 111), (1, .int (nI c)), (2, .int (hsF (ia w 112) c j)), (3, .int (nI j))]) (st2 := [.int (hsF (ia w 112) c j)]) (w3 := w) rfl rfl ?_
    refine sx_RP.step (pc2 := 16) (ls2 := [(0, .ref 111), (1, .int (nI c)), (2, .int (hsF (ia w 112) c j)), (3, .int (nI j))]) (st2 := [.ref 111, .int (hsF (ia w 112) c j)]) (w3 := w) rfl rfl ?_
    refine sx_RP.step (pc2 := 17) (ls2 := [(0, .ref 111), (1, .int (nI c)), (2, .int (hsF (ia w 112) c j)), (3, .int (nI j))]) (st2 := [.int (nI j), .ref 111, .int (hsF (ia w 112) c j)]) (w3 := w) rfl rfl ?_
    rcases Decidable.em ((ia w 112).getD (103 + 6 * j + 5) 0 = 0) with ci | ci
    · refine sx_RP.cu (as := [.ref 111, .int (nI j)]) (rest2 := [.int (hsF (ia w 112) c j)]) (st3 := [.int 1, .int (hsF (ia w 112) c j)]) rfl rfl (sx_inv_v2 (mi := 136) (k := 74) (st := [.int (nI j), .ref 111, .int (hsF (ia w 112) c j)]) (w := w) rfl rfl hI.1.o111 rfl rfl rfl) rfl rfl (x137y hI (by omega) ci) rfl ?_
      refine sx_RP.step (pc2 := 23) (ls2 := [(0, .ref 111), (1, .int (nI c)), (2, .int (hsF (ia w 112) c j)), (3, .int (nI j))]) (st2 := [.int (hsF (ia w 112) c j)]) (w3 := w) rfl rfl ?_
      refine sx_RP.step (pc2 := 24) (ls2 := [(0, .ref 111), (1, .int (nI c)), (2, .int (hsF (ia w 112) c j)), (3, .int (nI j))]) (st2 := [.ref 111, .int (hsF (ia w 112) c j)]) (w3 := w) rfl rfl ?_
      refine sx_RP.step (pc2 := 25) (ls2 := [(0, .ref 111), (1, .int (nI c)), (2, .int (hsF (ia w 112) c j)), (3, .int (nI j))]) (st2 := [.int (nI j), .ref 111, .int (hsF (ia w 112) c j)]) (w3 := w) rfl rfl ?_
      refine sx_RP.step (pc2 := 26) (ls2 := [(0, .ref 111), (1, .int (nI c)), (2, .int (hsF (ia w 112) c j)), (3, .int (nI j))]) (st2 := [.int 2, .int (nI j), .ref 111, .int (hsF (ia w 112) c j)]) (w3 := w) rfl rfl ?_
      refine sx_RP.cu (as := [.ref 111, .int (nI j), .int 2]) (rest2 := [.int (hsF (ia w 112) c j)]) (st3 := [.int ((ia w 112).getD (103 + 6 * j + 2) 0), .int (hsF (ia w 112) c j)]) rfl rfl (sx_inv_v2 (mi := 136) (k := 59) (st := [.int 2, .int (nI j), .ref 111, .int (hsF (ia w 112) c j)]) (w := w) rfl rfl hI.1.o111 rfl rfl rfl) rfl rfl (x138 hI (show j < 10 by omega) (show 2 < 6 by decide)) rfl ?_
      refine sx_RP.step (pc2 := 30) (ls2 := [(0, .ref 111), (1, .int (nI c)), (2, .int (hsF (ia w 112) c j)), (3, .int (nI j))]) (st2 := [.int (nI c), .int ((ia w 112).getD (103 + 6 * j + 2) 0), .int (hsF (ia w 112) c j)]) (w3 := w) rfl rfl ?_
      refine sx_RP.br (p1 := 37) (l1 := [(0, .ref 111), (1, .int (nI c)), (2, .int (hsF (ia w 112) c j)), (3, .int (nI j))]) (s1 := [.int (hsF (ia w 112) c j)]) (v1 := w) (p2 := 33) (l2 := [(0, .ref 111), (1, .int (nI c)), (2, .int (hsF (ia w 112) c j)), (3, .int (nI j))]) (s2 := [.int (hsF (ia w 112) c j)]) (v2 := w) rfl rfl (fun q1 => ?_) (fun q1 => ?_)
      · replace q1 := of_decide_eq_true q1
        refine sx_RP.step (pc2 := 38) (ls2 := [(0, .ref 111), (1, .int (nI c)), (2, .int (hsF (ia w 112) c j)), (3, .int (nI j))]) (st2 := [.int 0, .int (hsF (ia w 112) c j)]) (w3 := w) rfl rfl ?_
        refine sx_RP.step (pc2 := 39) (ls2 := [(0, .ref 111), (1, .int (nI c)), (2, .int (hsF (ia w 112) c j)), (3, .int (nI j))]) (st2 := [.int ((hsF (ia w 112) c j) + 0)]) (w3 := w) rfl rfl ?_
        refine sx_RP.step (pc2 := 40) (ls2 := [(2, .int ((hsF (ia w 112) c j) + 0)), (0, .ref 111), (1, .int (nI c)), (3, .int (nI j))]) (st2 := []) (w3 := w) rfl rfl ?_
        refine sx_RP.step (pc2 := 43) (ls2 := [(3, .int ((nI j) + 1)), (2, .int ((hsF (ia w 112) c j) + 0)), (0, .ref 111), (1, .int (nI c))]) (st2 := []) (w3 := w) rfl rfl ?_
        rw [nI_1 j]
        refine sx_RP.step (pc2 := 4) (ls2 := [(3, .int (nI (j + 1))), (2, .int ((hsF (ia w 112) c j) + 0)), (0, .ref 111), (1, .int (nI c))]) (st2 := []) (w3 := w) rfl rfl ?_
        rw [Int32.add_zero, hs_n (l := ia w 112) (c := c) (j := j) (fun z => q1 z.2)]
        exact sx_RP.ls (sx_lr.cons rfl (sx_lr.cons rfl (sx_lr.cons rfl (sx_lr.cons rfl sx_lr.nil)))) (x136L hI hc hn en q (j + 1) (by omega))
      · replace q1 := Decidable.not_not.mp (of_decide_eq_false q1)
        refine sx_RP.step (pc2 := 34) (ls2 := [(0, .ref 111), (1, .int (nI c)), (2, .int (hsF (ia w 112) c j)), (3, .int (nI j))]) (st2 := [.int 1, .int (hsF (ia w 112) c j)]) (w3 := w) rfl rfl ?_
        refine sx_RP.step (pc2 := 38) (ls2 := [(0, .ref 111), (1, .int (nI c)), (2, .int (hsF (ia w 112) c j)), (3, .int (nI j))]) (st2 := [.int 1, .int (hsF (ia w 112) c j)]) (w3 := w) rfl rfl ?_
        refine sx_RP.step (pc2 := 39) (ls2 := [(0, .ref 111), (1, .int (nI c)), (2, .int (hsF (ia w 112) c j)), (3, .int (nI j))]) (st2 := [.int ((hsF (ia w 112) c j) + 1)]) (w3 := w) rfl rfl ?_
        refine sx_RP.step (pc2 := 40) (ls2 := [(2, .int ((hsF (ia w 112) c j) + 1)), (0, .ref 111), (1, .int (nI c)), (3, .int (nI j))]) (st2 := []) (w3 := w) rfl rfl ?_
        refine sx_RP.step (pc2 := 43) (ls2 := [(3, .int ((nI j) + 1)), (2, .int ((hsF (ia w 112) c j) + 1)), (0, .ref 111), (1, .int (nI c))]) (st2 := []) (w3 := w) rfl rfl ?_
        rw [nI_1 j]
        refine sx_RP.step (pc2 := 4) (ls2 := [(3, .int (nI (j + 1))), (2, .int ((hsF (ia w 112) c j) + 1)), (0, .ref 111), (1, .int (nI c))]) (st2 := []) (w3 := w) rfl rfl ?_
        rw [hs_y (l := ia w 112) (c := c) (j := j) ⟨ci, q1⟩]
        exact sx_RP.ls (sx_lr.cons rfl (sx_lr.cons rfl (sx_lr.cons rfl (sx_lr.cons rfl sx_lr.nil)))) (x136L hI hc hn en q (j + 1) (by omega))
    · refine sx_RP.cu (as := [.ref 111, .int (nI j)]) (rest2 := [.int (hsF (ia w 112) c j)]) (st3 := [.int 0, .int (hsF (ia w 112) c j)]) rfl rfl (sx_inv_v2 (mi := 136) (k := 74) (st := [.int (nI j), .ref 111, .int (hsF (ia w 112) c j)]) (w := w) rfl rfl hI.1.o111 rfl rfl rfl) rfl rfl (x137n hI (by omega) ci) rfl ?_
      refine sx_RP.step (pc2 := 37) (ls2 := [(0, .ref 111), (1, .int (nI c)), (2, .int (hsF (ia w 112) c j)), (3, .int (nI j))]) (st2 := [.int (hsF (ia w 112) c j)]) (w3 := w) rfl rfl ?_
      refine sx_RP.step (pc2 := 38) (ls2 := [(0, .ref 111), (1, .int (nI c)), (2, .int (hsF (ia w 112) c j)), (3, .int (nI j))]) (st2 := [.int 0, .int (hsF (ia w 112) c j)]) (w3 := w) rfl rfl ?_
      refine sx_RP.step (pc2 := 39) (ls2 := [(0, .ref 111), (1, .int (nI c)), (2, .int (hsF (ia w 112) c j)), (3, .int (nI j))]) (st2 := [.int ((hsF (ia w 112) c j) + 0)]) (w3 := w) rfl rfl ?_
      refine sx_RP.step (pc2 := 40) (ls2 := [(2, .int ((hsF (ia w 112) c j) + 0)), (0, .ref 111), (1, .int (nI c)), (3, .int (nI j))]) (st2 := []) (w3 := w) rfl rfl ?_
      refine sx_RP.step (pc2 := 43) (ls2 := [(3, .int ((nI j) + 1)), (2, .int ((hsF (ia w 112) c j) + 0)), (0, .ref 111), (1, .int (nI c))]) (st2 := []) (w3 := w) rfl rfl ?_
      rw [nI_1 j]
      refine sx_RP.step (pc2 := 4) (ls2 := [(3, .int (nI (j + 1))), (2, .int ((hsF (ia w 112) c j) + 0)), (0, .ref 111), (1, .int (nI c))]) (st2 := []) (w3 := w) rfl rfl ?_
      rw [Int32.add_zero, hs_n (l := ia w 112) (c := c) (j := j) (fun z => ci z.1)]
      exact sx_RP.ls (sx_lr.cons rfl (sx_lr.cons rfl (sx_lr.cons rfl (sx_lr.cons rfl sx_lr.nil)))) (x136L hI hc hn en q (j + 1) (by omega))
set_option maxRecDepth 20000 in
set_option maxHeartbeats 4000000 in
theorem x136 {xs : Option (List Int32)} {d : Nat} {w : List sx_C} (hI : WI w) {c n : Nat} (hc : c < 48) (hn : n ≤ 10) (en : (ia w 112).getD 1 0 = nI n) : sx_RU xs (d + 2) 136 0 (lv_args 0 [.ref 111, .int (nI c)]) [] w (some (.int (hsF (ia w 112) c n))) w := by
  have h : sx_RP xs (d + 2) 136 0 (lv_args 0 [.ref 111, .int (nI c)]) [] w (fun r9 w2 => r9 = some (.int (hsF (ia w 112) c n)) ∧ w2 = w) := by
    refine sx_RP.step (pc2 := 1) (ls2 := [(0, .ref 111), (1, .int (nI c))]) (st2 := [.int 0]) (w3 := w) rfl rfl ?_
    refine sx_RP.step (pc2 := 2) (ls2 := [(2, .int 0), (0, .ref 111), (1, .int (nI c))]) (st2 := []) (w3 := w) rfl rfl ?_
    refine sx_RP.step (pc2 := 3) (ls2 := [(2, .int 0), (0, .ref 111), (1, .int (nI c))]) (st2 := [.int 0]) (w3 := w) rfl rfl ?_
    refine sx_RP.step (pc2 := 4) (ls2 := [(3, .int 0), (2, .int 0), (0, .ref 111), (1, .int (nI c))]) (st2 := []) (w3 := w) rfl rfl ?_
    exact sx_RP.ls (sx_lr.cons rfl (sx_lr.cons rfl (sx_lr.cons rfl (sx_lr.cons rfl sx_lr.nil)))) (x136L hI hc hn en n 0 (by omega))
  obtain ⟨r9, w2, h1, rfl, rfl⟩ := h
  exact h1
def celA (l : List Int32) (a1 a2 : Int32) : Int32 := if 0 ≤ a1 ∧ a1 ≤ 47 then (if a2 = 0 then l.getD (7 + iN a1) 0 else (if a2 = 1 then l.getD (55 + iN a1) 0 else (if a2 = 2 then hsF l (iN a1) (iN (l.getD 1 0)) else -1000000001))) else -1000000001
theorem celA_1 {l : List Int32} {a1 a2 : Int32} (h : ¬ (0 ≤ a1 ∧ a1 ≤ 47)) : celA l a1 a2 = -1000000001 := if_neg h
theorem celA_2 {l : List Int32} {a1 a2 : Int32} (h : ¬ (0 ≤ a2 ∧ a2 ≤ 2)) : celA l a1 a2 = -1000000001 := by
  unfold celA
  by_cases hc : 0 ≤ a1 ∧ a1 ≤ 47
  · rw [if_pos hc, if_neg (fun e => h (by rw [e]; decide)), if_neg (fun e => h (by rw [e]; decide)), if_neg (fun e => h (by rw [e]; decide))]
  · rw [if_neg hc]
theorem in2_n {a2 : Int32} (h : a2.toInt < 0 ∨ ((2 : Nat) : Int) < a2.toInt) : ¬ (0 ≤ a2 ∧ a2 ≤ 2) := by
  rw [Int32.le_iff_toInt_le, Int32.le_iff_toInt_le, show (0 : Int32).toInt = 0 by decide, show (2 : Int32).toInt = 2 by decide]
  omega
theorem cel_in {c : Nat} (hc : c < 48) : 0 ≤ nI c ∧ nI c ≤ 47 := ⟨nI_le (a := 0) (Nat.zero_le _) (by omega), nI_le (b := 47) (by omega) (by decide)⟩
theorem celA_s {l : List Int32} {c : Nat} (hc : c < 48) : celA l (nI c) (nI 0) = l.getD (7 + c) 0 := by
  unfold celA
  rw [if_pos (cel_in hc), if_pos (show nI 0 = 0 from rfl), iN_n (by omega)]
theorem celA_w {l : List Int32} {c : Nat} (hc : c < 48) : celA l (nI c) (nI 1) = l.getD (55 + c) 0 := by
  unfold celA
  rw [if_pos (cel_in hc), if_neg (show ¬ nI 1 = 0 by decide), if_pos (show nI 1 = 1 by decide), iN_n (by omega)]
theorem celA_h {l : List Int32} {c n : Nat} (hc : c < 48) (en : l.getD 1 0 = nI n) (hn : n ≤ 10) : celA l (nI c) (nI 2) = hsF l c n := by
  unfold celA
  rw [if_pos (cel_in hc), if_neg (show ¬ nI 2 = 0 by decide), if_neg (show ¬ nI 2 = 1 by decide), if_pos (show nI 2 = 2 by decide), iN_n (by omega), en, iN_n (by omega)]
set_option maxRecDepth 20000 in
set_option maxHeartbeats 4000000 in
theorem A12 {xs : Option (List Int32)} {d : Nat} {w : List sx_C} (hI : WI w) (l : List Int32) (hR : rel w 1 l) (a1 a2 : Int32) : sx_RP xs (d + 7) 12 0 (lv_args 0 [.ref 0, .int a1, .int a2]) [] w (fun r w2 => r = some (.int (celA l a1 a2)) ∧ WI w2) := by
  obtain ⟨n, hn, en⟩ := hR.n10 hI (Or.inl rfl)
  have en0 := hR.many.trans en
  refine sx_RP.step (pc2 := 1) (ls2 := [(0, .ref 0), (1, .int a1), (2, .int a2)]) (st2 := [.int a1]) (w3 := w) rfl rfl ?_
  rcases in_cases a1 0 47 (m := 0) (n := 47) rfl rfl (by decide) (by decide) with q1 | ⟨x2, hx3, hx4, rfl⟩
  · refine sx_RP.cu (as := [.int a1]) (rest2 := []) (st3 := [.int 0]) rfl rfl rfl rfl rfl (cx_7n q1) rfl ?_
    refine sx_RP.step (pc2 := 7) (ls2 := [(0, .ref 0), (1, .int a1), (2, .int a2)]) (st2 := []) (w3 := w) rfl rfl ?_
    refine sx_RP.step (pc2 := 8) (ls2 := [(0, .ref 0), (1, .int a1), (2, .int a2)]) (st2 := [.ref 0]) (w3 := w) rfl rfl ?_
    refine sx_RP.step (pc2 := 10) (ls2 := [(0, .ref 0), (1, .int a1), (2, .int a2)]) (st2 := [.int (-1000000001), .ref 0]) (w3 := w) rfl rfl ?_
    refine sx_RP.callp (as2 := [.ref 0, .int (-1000000001)]) (rest2 := []) rfl rfl (sx_inv_v2 (mi := 12) (k := 78) (st := [.int (-1000000001), .ref 0]) (w := w) rfl rfl hI.1.o0 rfl rfl rfl) rfl rfl rfl (S9_0 hI) (show _ = 13 from rfl) ?_
    rintro r4 w7 ⟨rfl, hI8, hs6⟩
    show sx_RP _ _ _ _ _ [.int (-1000000001)] _ _
    refine sx_RP.ret (r := (some (.int (-1000000001)))) rfl rfl ?_
    exact ⟨by rw [celA_1 q1], hI8⟩
  · refine sx_RP.cu (as := [.int (nI x2)]) (rest2 := []) (st3 := [.int 1]) rfl rfl rfl rfl rfl (cx_7p ⟨nI_le (a := 0) hx3 (by omega), nI_le (b := 47) hx4 (by decide)⟩) rfl ?_
    refine sx_RP.step (pc2 := 14) (ls2 := [(0, .ref 0), (1, .int (nI x2)), (2, .int a2)]) (st2 := []) (w3 := w) rfl rfl ?_
    refine sx_RP.step (pc2 := 15) (ls2 := [(0, .ref 0), (1, .int (nI x2)), (2, .int a2)]) (st2 := [.int a2]) (w3 := w) rfl rfl ?_
    rcases sw_cases (n := 2) (a2) with q9 | ⟨x10, hx11, ex12⟩
    · refine sx_RP.swo (t := 76) rfl q9 rfl ?_
      refine sx_RP.step (pc2 := 77) (ls2 := [(0, .ref 0), (1, .int (nI x2)), (2, .int a2)]) (st2 := [.ref 0]) (w3 := w) rfl rfl ?_
      refine sx_RP.step (pc2 := 79) (ls2 := [(0, .ref 0), (1, .int (nI x2)), (2, .int a2)]) (st2 := [.int (-1000000001), .ref 0]) (w3 := w) rfl rfl ?_
      refine sx_RP.callp (as2 := [.ref 0, .int (-1000000001)]) (rest2 := []) rfl rfl (sx_inv_v2 (mi := 12) (k := 78) (st := [.int (-1000000001), .ref 0]) (w := w) rfl rfl hI.1.o0 rfl rfl rfl) rfl rfl rfl (S9_0 hI) (show _ = 82 from rfl) ?_
      rintro r4 w14 ⟨rfl, hI15, hs13⟩
      show sx_RP _ _ _ _ _ [.int (-1000000001)] _ _
      refine sx_RP.ret (r := (some (.int (-1000000001)))) rfl rfl ?_
      exact ⟨by rw [celA_2 (in2_n q9)], hI15⟩
    · rw [ex12]
      rcases (show x10 = 0 ∨ x10 = 1 ∨ x10 = 2 by omega) with rfl | rfl | rfl
      · refine sx_RP.step (pc2 := 40) (ls2 := [(0, .ref 0), (1, .int (nI x2)), (2, .int (nI 0))]) (st2 := []) (w3 := w) rfl rfl ?_
        refine sx_RP.step (pc2 := 41) (ls2 := [(0, .ref 0), (1, .int (nI x2)), (2, .int (nI 0))]) (st2 := [.ref 0]) (w3 := w) rfl rfl ?_
        refine sx_RP.gf (v := .ref 1) rfl rfl hI.1.o0 rfl rfl (show _ = 44 from rfl) ?_
        refine sx_RP.gref (k := 0) (b := 2) hI (Or.inl rfl) rfl rfl (by omega) (show _ = 47 from rfl) ?_
        refine sx_RP.step (pc2 := 48) (ls2 := [(0, .ref 0), (1, .int (nI x2)), (2, .int (nI 0))]) (st2 := [.int (nI x2), .ref 2]) (w3 := w) rfl rfl ?_
        refine sx_RP.ild (c := x2) rfl (hI.1.aS (Or.inl rfl)).1 (hI.1.aS (Or.inl rfl)).2 (sx_in_nI (show x2 < 48 by omega) (by decide)) (show (nI x2).toNatClampNeg = x2 from nI_clamp (by omega)) (show _ = 49 from rfl) ?_
        obtain ⟨x16, hx17, ex18⟩ : inR ((ia w 2).getD x2 0) 3 := hI.st (Or.inl rfl) (show x2 < 48 by omega)
        rw [ex18]
        refine sx_RP.ret (r := (some (.int (nI x16)))) rfl rfl ?_
        exact ⟨by rw [celA_s (by omega), show l.getD (7 + x2) 0 = nI x16 from (hR.gr (by omega)).symm.trans ex18], hI⟩
      · refine sx_RP.step (pc2 := 50) (ls2 := [(0, .ref 0), (1, .int (nI x2)), (2, .int (nI 1))]) (st2 := []) (w3 := w) rfl rfl ?_
        refine sx_RP.step (pc2 := 51) (ls2 := [(0, .ref 0), (1, .int (nI x2)), (2, .int (nI 1))]) (st2 := [.ref 0]) (w3 := w) rfl rfl ?_
        refine sx_RP.gf (v := .ref 1) rfl rfl hI.1.o0 rfl rfl (show _ = 54 from rfl) ?_
        refine sx_RP.step (pc2 := 55) (ls2 := [(0, .ref 0), (1, .int (nI x2)), (2, .int (nI 1))]) (st2 := [.int (nI x2), .ref 1]) (w3 := w) rfl rfl ?_
        rcases Bool.eq_false_or_eq_true (bitL (fj w 1 1) x2) with hb19 | hb19
        · refine sx_RP.cu (as := [.ref 1, .int (nI x2)]) (rest2 := []) (st3 := [.int 1]) rfl rfl (sx_inv_v2 (mi := 12) (k := 85) (st := [.int (nI x2), .ref 1]) (w := w) rfl rfl (hI.1.oC (Or.inl rfl)) rfl rfl rfl) rfl rfl (x11t hI (Or.inl rfl) (by omega) hb19) rfl ?_
          refine sx_RP.step (pc2 := 61) (ls2 := [(0, .ref 0), (1, .int (nI x2)), (2, .int (nI 1))]) (st2 := []) (w3 := w) rfl rfl ?_
          refine sx_RP.step (pc2 := 62) (ls2 := [(0, .ref 0), (1, .int (nI x2)), (2, .int (nI 1))]) (st2 := [.int 1]) (w3 := w) rfl rfl ?_
          refine sx_RP.step (pc2 := 66) (ls2 := [(0, .ref 0), (1, .int (nI x2)), (2, .int (nI 1))]) (st2 := [.int 1]) (w3 := w) rfl rfl ?_
          refine sx_RP.ret (r := (some (.int 1))) rfl rfl ?_
          exact ⟨by rw [celA_w (by omega), ← hR.w48 (by omega), hb19]; rfl, hI⟩
        · refine sx_RP.cu (as := [.ref 1, .int (nI x2)]) (rest2 := []) (st3 := [.int 0]) rfl rfl (sx_inv_v2 (mi := 12) (k := 85) (st := [.int (nI x2), .ref 1]) (w := w) rfl rfl (hI.1.oC (Or.inl rfl)) rfl rfl rfl) rfl rfl (x11f hI (Or.inl rfl) (by omega) hb19) rfl ?_
          refine sx_RP.step (pc2 := 65) (ls2 := [(0, .ref 0), (1, .int (nI x2)), (2, .int (nI 1))]) (st2 := []) (w3 := w) rfl rfl ?_
          refine sx_RP.step (pc2 := 66) (ls2 := [(0, .ref 0), (1, .int (nI x2)), (2, .int (nI 1))]) (st2 := [.int 0]) (w3 := w) rfl rfl ?_
          refine sx_RP.ret (r := (some (.int 0))) rfl rfl ?_
          exact ⟨by rw [celA_w (by omega), ← hR.w48 (by omega), hb19]; rfl, hI⟩
      · refine sx_RP.step (pc2 := 67) (ls2 := [(0, .ref 0), (1, .int (nI x2)), (2, .int (nI 2))]) (st2 := []) (w3 := w) rfl rfl ?_
        refine sx_RP.step (pc2 := 68) (ls2 := [(0, .ref 0), (1, .int (nI x2)), (2, .int (nI 2))]) (st2 := [.ref 0]) (w3 := w) rfl rfl ?_
        refine sx_RP.gf (v := .ref 1) rfl rfl hI.1.o0 rfl rfl (show _ = 71 from rfl) ?_
        refine sx_RP.step (pc2 := 72) (ls2 := [(0, .ref 0), (1, .int (nI x2)), (2, .int (nI 2))]) (st2 := [.int (nI x2), .ref 1]) (w3 := w) rfl rfl ?_
        refine sx_RP.cu (as := [.ref 1, .int (nI x2)]) (rest2 := []) (st3 := [.int (hsF l x2 n)]) rfl rfl (sx_inv_v2 (mi := 12) (k := 92) (st := [.int (nI x2), .ref 1]) (w := w) rfl rfl (hI.1.oC (Or.inl rfl)) rfl rfl rfl) rfl rfl (x13 hI hR (show x2 < 48 by omega) hn en) rfl ?_
        refine sx_RP.ret (r := (some (.int (hsF l x2 n)))) rfl rfl ?_
        exact ⟨by rw [celA_h (by omega) en (by omega)], hI⟩
set_option maxRecDepth 20000 in
set_option maxHeartbeats 4000000 in
theorem A135 {xs : Option (List Int32)} {d : Nat} {w : List sx_C} (hI : WI w) (a1 a2 : Int32) : sx_RP xs (d + 7) 135 0 (lv_args 0 [.ref 111, .int a1, .int a2]) [] w (fun r w2 => r = some (.int (celA (ia w 112) a1 a2)) ∧ WI w2) := by
  obtain ⟨n, hn, en⟩ := (hI.sA (a := 112) (by decide) 1 (by decide)).1 rfl
  refine sx_RP.step (pc2 := 1) (ls2 := [(0, .ref 111), (1, .int a1), (2, .int a2)]) (st2 := [.int a1]) (w3 := w) rfl rfl ?_
  rcases in_cases a1 0 47 (m := 0) (n := 47) rfl rfl (by decide) (by decide) with q1 | ⟨x2, hx3, hx4, rfl⟩
  · refine sx_RP.cu (as := [.int a1]) (rest2 := []) (st3 := [.int 0]) rfl rfl rfl rfl rfl (cx_131n q1) rfl ?_
    refine sx_RP.step (pc2 := 16) (ls2 := [(0, .ref 111), (1, .int a1), (2, .int a2)]) (st2 := []) (w3 := w) rfl rfl ?_
    refine sx_RP.step (pc2 := 17) (ls2 := [(0, .ref 111), (1, .int a1), (2, .int a2)]) (st2 := [.ref 111]) (w3 := w) rfl rfl ?_
    refine sx_RP.step (pc2 := 18) (ls2 := [(0, .ref 111), (1, .int a1), (2, .int a2)]) (st2 := [.int 0, .ref 111]) (w3 := w) rfl rfl ?_
    refine sx_RP.callp (as2 := [.ref 111, .int 0]) (rest2 := []) rfl rfl (sx_inv_v2 (mi := 135) (k := 70) (st := [.int 0, .ref 111]) (w := w) rfl rfl hI.1.o111 rfl rfl rfl) rfl rfl rfl (S133_0 hI) (show _ = 21 from rfl) ?_
    rintro r4 w7 ⟨rfl, hI8, hs6⟩
    show sx_RP _ _ _ _ _ [.int (-1000000001)] _ _
    refine sx_RP.ret (r := (some (.int (-1000000001)))) rfl rfl ?_
    exact ⟨by rw [celA_1 q1], hI8⟩
  · refine sx_RP.cu (as := [.int (nI x2)]) (rest2 := []) (st3 := [.int 1]) rfl rfl rfl rfl rfl (cx_131p ⟨nI_le (a := 0) hx3 (by omega), nI_le (b := 47) hx4 (by decide)⟩) rfl ?_
    refine sx_RP.step (pc2 := 7) (ls2 := [(0, .ref 111), (1, .int (nI x2)), (2, .int a2)]) (st2 := []) (w3 := w) rfl rfl ?_
    refine sx_RP.step (pc2 := 8) (ls2 := [(0, .ref 111), (1, .int (nI x2)), (2, .int a2)]) (st2 := [.int a2]) (w3 := w) rfl rfl ?_
    refine sx_RP.step (pc2 := 9) (ls2 := [(0, .ref 111), (1, .int (nI x2)), (2, .int a2)]) (st2 := [.int 0, .int a2]) (w3 := w) rfl rfl ?_
    refine sx_RP.step (pc2 := 10) (ls2 := [(0, .ref 111), (1, .int (nI x2)), (2, .int a2)]) (st2 := [.int 2, .int 0, .int a2]) (w3 := w) rfl rfl ?_
    rcases in_cases a2 0 2 (m := 0) (n := 2) rfl rfl (by decide) (by decide) with q9 | ⟨x10, hx11, hx12, rfl⟩
    · refine sx_RP.cu (as := [.int a2, .int 0, .int 2]) (rest2 := []) (st3 := [.int 0]) rfl rfl rfl rfl rfl (cx_132o q9) rfl ?_
      refine sx_RP.step (pc2 := 16) (ls2 := [(0, .ref 111), (1, .int (nI x2)), (2, .int a2)]) (st2 := []) (w3 := w) rfl rfl ?_
      refine sx_RP.step (pc2 := 17) (ls2 := [(0, .ref 111), (1, .int (nI x2)), (2, .int a2)]) (st2 := [.ref 111]) (w3 := w) rfl rfl ?_
      refine sx_RP.step (pc2 := 18) (ls2 := [(0, .ref 111), (1, .int (nI x2)), (2, .int a2)]) (st2 := [.int 0, .ref 111]) (w3 := w) rfl rfl ?_
      refine sx_RP.callp (as2 := [.ref 111, .int 0]) (rest2 := []) rfl rfl (sx_inv_v2 (mi := 135) (k := 70) (st := [.int 0, .ref 111]) (w := w) rfl rfl hI.1.o111 rfl rfl rfl) rfl rfl rfl (S133_0 hI) (show _ = 21 from rfl) ?_
      rintro r4 w15 ⟨rfl, hI16, hs14⟩
      show sx_RP _ _ _ _ _ [.int (-1000000001)] _ _
      refine sx_RP.ret (r := (some (.int (-1000000001)))) rfl rfl ?_
      exact ⟨by rw [celA_2 q9], hI16⟩
    · refine sx_RP.cu (as := [.int (nI x10), .int 0, .int 2]) (rest2 := []) (st3 := [.int 1]) rfl rfl rfl rfl rfl (cx_132p ⟨nI_le (a := 0) hx11 (by omega), nI_le (b := 2) hx12 (by decide)⟩) rfl ?_
      refine sx_RP.step (pc2 := 22) (ls2 := [(0, .ref 111), (1, .int (nI x2)), (2, .int (nI x10))]) (st2 := []) (w3 := w) rfl rfl ?_
      refine sx_RP.step (pc2 := 23) (ls2 := [(0, .ref 111), (1, .int (nI x2)), (2, .int (nI x10))]) (st2 := [.int (nI x10)]) (w3 := w) rfl rfl ?_
      refine sx_RP.br (p1 := 38) (l1 := [(0, .ref 111), (1, .int (nI x2)), (2, .int (nI x10))]) (s1 := []) (v1 := w) (p2 := 26) (l2 := [(0, .ref 111), (1, .int (nI x2)), (2, .int (nI x10))]) (s2 := []) (v2 := w) rfl rfl (fun q17 => ?_) (fun q17 => ?_)
      · replace q17 := of_decide_eq_true q17
        replace q17 := mt (nI_eq (a := x10) (b := 0) (by omega) (by omega)).mpr q17
        refine sx_RP.step (pc2 := 39) (ls2 := [(0, .ref 111), (1, .int (nI x2)), (2, .int (nI x10))]) (st2 := [.int (nI x10)]) (w3 := w) rfl rfl ?_
        refine sx_RP.step (pc2 := 40) (ls2 := [(0, .ref 111), (1, .int (nI x2)), (2, .int (nI x10))]) (st2 := [.int 1, .int (nI x10)]) (w3 := w) rfl rfl ?_
        refine sx_RP.br (p1 := 55) (l1 := [(0, .ref 111), (1, .int (nI x2)), (2, .int (nI x10))]) (s1 := []) (v1 := w) (p2 := 43) (l2 := [(0, .ref 111), (1, .int (nI x2)), (2, .int (nI x10))]) (s2 := []) (v2 := w) rfl rfl (fun q18 => ?_) (fun q18 => ?_)
        · replace q18 := of_decide_eq_true q18
          replace q18 := mt (nI_eq (a := x10) (b := 1) (by omega) (by omega)).mpr q18
          refine sx_RP.step (pc2 := 56) (ls2 := [(0, .ref 111), (1, .int (nI x2)), (2, .int (nI x10))]) (st2 := [.ref 111]) (w3 := w) rfl rfl ?_
          refine sx_RP.step (pc2 := 57) (ls2 := [(0, .ref 111), (1, .int (nI x2)), (2, .int (nI x10))]) (st2 := [.int (nI x2), .ref 111]) (w3 := w) rfl rfl ?_
          refine sx_RP.cu (as := [.ref 111, .int (nI x2)]) (rest2 := []) (st3 := [.int (hsF (ia w 112) x2 n)]) rfl rfl (sx_inv_v2 (mi := 135) (k := 77) (st := [.int (nI x2), .ref 111]) (w := w) rfl rfl hI.1.o111 rfl rfl rfl) rfl rfl (x136 hI (show x2 < 48 by omega) hn en) rfl ?_
          refine sx_RP.ret (r := (some (.int (hsF (ia w 112) x2 n)))) rfl rfl ?_
          obtain rfl : x10 = 2 := by omega
          exact ⟨by rw [celA_h (by omega) en (by omega)], hI⟩
        · replace q18 := Decidable.not_not.mp (of_decide_eq_false q18)
          replace q18 := (nI_eq (a := x10) (b := 1) (by omega) (by omega)).mp q18
          refine sx_RP.step (pc2 := 44) (ls2 := [(0, .ref 111), (1, .int (nI x2)), (2, .int (nI x10))]) (st2 := [.ref 111]) (w3 := w) rfl rfl ?_
          refine sx_RP.gf (v := .ref 112) rfl rfl hI.1.o111 rfl rfl (show _ = 47 from rfl) ?_
          refine sx_RP.step (pc2 := 49) (ls2 := [(0, .ref 111), (1, .int (nI x2)), (2, .int (nI x10))]) (st2 := [.int 55, .ref 112]) (w3 := w) rfl rfl ?_
          refine sx_RP.step (pc2 := 50) (ls2 := [(0, .ref 111), (1, .int (nI x2)), (2, .int (nI x10))]) (st2 := [.int (nI x2), .int 55, .ref 112]) (w3 := w) rfl rfl ?_
          refine sx_RP.step (pc2 := 51) (ls2 := [(0, .ref 111), (1, .int (nI x2)), (2, .int (nI x10))]) (st2 := [.int (55 + (nI x2)), .ref 112]) (w3 := w) rfl rfl ?_
          rw [show (55 + (nI x2) : Int32) = nI (55 + x2) from nI_add 55 x2]
          refine sx_RP.ild (c := (55 + x2)) rfl hI.1.a112.1 hI.1.a112.2 (sx_in_nI (show (55 + x2) < 172 by omega) (by decide)) (show (nI (55 + x2)).toNatClampNeg = (55 + x2) from nI_clamp (by omega)) (show _ = 52 from rfl) ?_
          refine sx_RP.step (pc2 := 60) (ls2 := [(0, .ref 111), (1, .int (nI x2)), (2, .int (nI x10))]) (st2 := [.int ((ia w 112).getD (55 + x2) 0)]) (w3 := w) rfl rfl ?_
          refine sx_RP.ret (r := (some (.int ((ia w 112).getD (55 + x2) 0)))) rfl rfl ?_
          obtain rfl : x10 = 1 := by omega
          exact ⟨by rw [celA_w (by omega)], hI⟩
      · replace q17 := Decidable.not_not.mp (of_decide_eq_false q17)
        replace q17 := (nI_eq (a := x10) (b := 0) (by omega) (by omega)).mp q17
        refine sx_RP.step (pc2 := 27) (ls2 := [(0, .ref 111), (1, .int (nI x2)), (2, .int (nI x10))]) (st2 := [.ref 111]) (w3 := w) rfl rfl ?_
        refine sx_RP.gf (v := .ref 112) rfl rfl hI.1.o111 rfl rfl (show _ = 30 from rfl) ?_
        refine sx_RP.step (pc2 := 32) (ls2 := [(0, .ref 111), (1, .int (nI x2)), (2, .int (nI x10))]) (st2 := [.int 7, .ref 112]) (w3 := w) rfl rfl ?_
        refine sx_RP.step (pc2 := 33) (ls2 := [(0, .ref 111), (1, .int (nI x2)), (2, .int (nI x10))]) (st2 := [.int (nI x2), .int 7, .ref 112]) (w3 := w) rfl rfl ?_
        refine sx_RP.step (pc2 := 34) (ls2 := [(0, .ref 111), (1, .int (nI x2)), (2, .int (nI x10))]) (st2 := [.int (7 + (nI x2)), .ref 112]) (w3 := w) rfl rfl ?_
        rw [show (7 + (nI x2) : Int32) = nI (7 + x2) from nI_add 7 x2]
        refine sx_RP.ild (c := (7 + x2)) rfl hI.1.a112.1 hI.1.a112.2 (sx_in_nI (show (7 + x2) < 172 by omega) (by decide)) (show (nI (7 + x2)).toNatClampNeg = (7 + x2) from nI_clamp (by omega)) (show _ = 35 from rfl) ?_
        obtain ⟨x19, hx20, ex21⟩ : inR ((ia w 112).getD (7 + x2) 0) 3 := (hI.s ((7 + x2)) (by omega)).2.2.1 (by omega)
        rw [ex21]
        refine sx_RP.step (pc2 := 60) (ls2 := [(0, .ref 111), (1, .int (nI x2)), (2, .int (nI x10))]) (st2 := [.int (nI x19)]) (w3 := w) rfl rfl ?_
        refine sx_RP.ret (r := (some (.int (nI x19)))) rfl rfl ?_
        obtain rfl : x10 = 0 := by omega
        exact ⟨by rw [celA_s (by omega), ex21], hI⟩
theorem a12 {xs : Option (List Int32)} {d : Nat} {w : List sx_C} {s : ST} (hI : WI w) (hC : CLS w s) (a1 a2 : Int32) : sx_RP xs (d + 7) 12 0 (lv_args 0 [.ref 0, .int a1, .int a2]) [] w (fun r w2 => r = some (.int (celA s.1 a1 a2)) ∧ WI w2 ∧ CLS w2 (s) ∧ ∀ a, 111 ≤ a → w2[a]? = w[a]?) :=
  ((c12 (xs := xs) (d := d) hI hC a1 a2).and (A12 hI s.1 hC.1.1 a1 a2)).mono9 (fun r w2 z => ⟨z.2.1, z.1.2.1, z.1.2.2.1, z.1.2.2.2⟩)
theorem a135 {xs : Option (List Int32)} {d : Nat} {w : List sx_C} {s : ST} (hI : WI w) (hR : REF w s) (a1 a2 : Int32) : sx_RP xs (d + 7) 135 0 (lv_args 0 [.ref 111, .int a1, .int a2]) [] w (fun r w2 => r = some (.int (celA s.1 a1 a2)) ∧ WI w2 ∧ REF w2 (s) ∧ ∀ a, a < 111 → w2[a]? = w[a]?) := by
  refine ((r135 (xs := xs) (d := d) hI hR a1 a2).and (A135 hI a1 a2)).mono9 (fun r w2 z => ⟨?_, z.1.2.1, z.1.2.2.1, z.1.2.2.2⟩)
  rw [z.2.1, hR.1.1]
end
-- 89y38.ans7.lean.txt
section
-- answers: does
def dosV (k s : Nat) (b a3 : Int32) : Int32 := if a3 = 0 then (if s = 3 then -1000000004 else tmV k s b) else (if a3 = 1 then ldV k s else (if a3 = 2 then b01 (fmB k s) else -1000000001))
def dosA (l : List Int32) (a1 a2 a3 : Int32) : Int32 := if (0 ≤ a1 ∧ a1 < l.getD 1 0) ∧ (0 ≤ a2 ∧ a2 ≤ 47) then dosV (iN (gF l (iN a1) 0)) (iN (l.getD (7 + iN a2) 0)) (l.getD (55 + iN a2) 0) a3 else -1000000001
theorem dosA_1 {l : List Int32} {a1 a2 a3 : Int32} {n : Nat} (en : l.getD 1 0 = nI n) (h : ¬ ((0 ≤ a1 ∧ a1 < nI n) ∧ (0 ≤ a2 ∧ a2 ≤ 47))) : dosA l a1 a2 a3 = -1000000001 := by
  unfold dosA
  rw [en, if_neg h]
theorem dosV_n {k s : Nat} {b a3 : Int32} (h : ¬ (0 ≤ a3 ∧ a3 ≤ 2)) : dosV k s b a3 = -1000000001 := by
  unfold dosV
  rw [if_neg (fun e => h (by rw [e]; decide)), if_neg (fun e => h (by rw [e]; decide)), if_neg (fun e => h (by rw [e]; decide))]
theorem dosA_2 {l : List Int32} {a1 a2 a3 : Int32} (h : ¬ (0 ≤ a3 ∧ a3 ≤ 2)) : dosA l a1 a2 a3 = -1000000001 := by
  unfold dosA
  rw [dosV_n h]
  split <;> rfl
theorem dosA_y {l : List Int32} {n x c k s : Nat} {a3 : Int32} (en : l.getD 1 0 = nI n) (hx : x < 2 ^ 31) (h : 0 ≤ nI x ∧ nI x < nI n) (hc : c < 48) (hk : k ≤ 5) (hs : s ≤ 3) (ek : gF l x 0 = nI k) (es : l.getD (7 + c) 0 = nI s) : dosA l (nI x) (nI c) a3 = dosV k s (l.getD (55 + c) 0) a3 := by
  unfold dosA
  rw [en, if_pos ⟨h, cel_in hc⟩, iN_n hx, iN_n (show c < 2 ^ 31 by omega), ek, es, iN_n (by omega), iN_n (by omega)]
theorem dosV_w {k s : Nat} {b : Int32} (h : s = 3) : dosV k s b (nI 0) = -1000000004 := by
  unfold dosV
  rw [if_pos (show nI 0 = 0 from rfl), if_pos h]
theorem dosV_0 {k s : Nat} {b : Int32} (h : ¬ s = 3) : dosV k s b (nI 0) = tmV k s b := by
  unfold dosV
  rw [if_pos (show nI 0 = 0 from rfl), if_neg h]
theorem dosV_1 {k s : Nat} {b : Int32} : dosV k s b (nI 1) = ldV k s := by
  unfold dosV
  rw [if_neg (show ¬ nI 1 = 0 by decide), if_pos (show nI 1 = 1 from rfl)]
theorem dosV_2 {k s : Nat} {b : Int32} : dosV k s b (nI 2) = b01 (fmB k s) := by
  unfold dosV
  rw [if_neg (show ¬ nI 2 = 0 by decide), if_neg (show ¬ nI 2 = 1 by decide), if_pos (show nI 2 = 2 from rfl)]
theorem tm_ge {k s : Nat} {l : List Int32} {c : Nat} (hk : k ≤ 5) (hs : s ≤ 3) (hW : WB l) (hc : c < 48) : ¬ tmV k s (l.getD (55 + c) 0) < 0 := by
  obtain ⟨b, hb, e⟩ := hW c hc
  rw [e]
  exact tmV_pos k (by omega) s (by omega) b hb
set_option maxRecDepth 20000 in
set_option maxHeartbeats 4000000 in
theorem A32 {xs : Option (List Int32)} {d : Nat} {w : List sx_C} (hI : WI w) (l : List Int32) (hR : rel w 1 l) (a1 a2 a3 : Int32) : sx_RP xs (d + 7) 32 0 (lv_args 0 [.ref 0, .int a1, .int a2, .int a3]) [] w (fun r w2 => r = some (.int (dosA l a1 a2 a3)) ∧ WI w2) := by
  obtain ⟨n, hn, en⟩ := hR.n10 hI (Or.inl rfl)
  have en0 := hR.many.trans en
  refine sx_RP.step (pc2 := 1) (ls2 := [(0, .ref 0), (1, .int a1), (2, .int a2), (3, .int a3)]) (st2 := [.ref 0]) (w3 := w) rfl rfl ?_
  refine sx_RP.gf (v := .ref 1) rfl rfl hI.1.o0 rfl rfl (show _ = 4 from rfl) ?_
  refine sx_RP.step (pc2 := 5) (ls2 := [(0, .ref 0), (1, .int a1), (2, .int a2), (3, .int a3)]) (st2 := [.int a1, .ref 1]) (w3 := w) rfl rfl ?_
  rcases Decidable.em (0 ≤ a1 ∧ a1 < nI n) with c1 | c1
  · obtain ⟨x2, hx3, rfl⟩ := idx_get c1 (by omega)
    refine sx_RP.cu (as := [.ref 1, .int (nI x2)]) (rest2 := []) (st3 := [.int 1]) rfl rfl (sx_inv_v2 (mi := 32) (k := 120) (st := [.int (nI x2), .ref 1]) (w := w) rfl rfl (hI.1.oC (Or.inl rfl)) rfl rfl rfl) rfl rfl (p27y hI (Or.inl rfl) en0 hn c1) rfl ?_
    refine sx_RP.step (pc2 := 11) (ls2 := [(0, .ref 0), (1, .int (nI x2)), (2, .int a2), (3, .int a3)]) (st2 := []) (w3 := w) rfl rfl ?_
    refine sx_RP.step (pc2 := 12) (ls2 := [(0, .ref 0), (1, .int (nI x2)), (2, .int a2), (3, .int a3)]) (st2 := [.int a2]) (w3 := w) rfl rfl ?_
    rcases in_cases a2 0 47 (m := 0) (n := 47) rfl rfl (by decide) (by decide) with q4 | ⟨x5, hx6, hx7, rfl⟩
    · refine sx_RP.cu (as := [.int a2]) (rest2 := []) (st3 := [.int 0]) rfl rfl rfl rfl rfl (cx_7n q4) rfl ?_
      refine sx_RP.step (pc2 := 18) (ls2 := [(0, .ref 0), (1, .int (nI x2)), (2, .int a2), (3, .int a3)]) (st2 := []) (w3 := w) rfl rfl ?_
      refine sx_RP.step (pc2 := 19) (ls2 := [(0, .ref 0), (1, .int (nI x2)), (2, .int a2), (3, .int a3)]) (st2 := [.ref 0]) (w3 := w) rfl rfl ?_
      refine sx_RP.step (pc2 := 21) (ls2 := [(0, .ref 0), (1, .int (nI x2)), (2, .int a2), (3, .int a3)]) (st2 := [.int (-1000000001), .ref 0]) (w3 := w) rfl rfl ?_
      refine sx_RP.callp (as2 := [.ref 0, .int (-1000000001)]) (rest2 := []) rfl rfl (sx_inv_v2 (mi := 32) (k := 78) (st := [.int (-1000000001), .ref 0]) (w := w) rfl rfl hI.1.o0 rfl rfl rfl) rfl rfl rfl (S9_0 hI) (show _ = 24 from rfl) ?_
      rintro r4 w10 ⟨rfl, hI11, hs9⟩
      show sx_RP _ _ _ _ _ [.int (-1000000001)] _ _
      refine sx_RP.ret (r := (some (.int (-1000000001)))) rfl rfl ?_
      exact ⟨by rw [dosA_1 en (fun z => q4 z.2)], hI11⟩
    · refine sx_RP.cu (as := [.int (nI x5)]) (rest2 := []) (st3 := [.int 1]) rfl rfl rfl rfl rfl (cx_7p ⟨nI_le (a := 0) hx6 (by omega), nI_le (b := 47) hx7 (by decide)⟩) rfl ?_
      refine sx_RP.step (pc2 := 25) (ls2 := [(0, .ref 0), (1, .int (nI x2)), (2, .int (nI x5)), (3, .int a3)]) (st2 := []) (w3 := w) rfl rfl ?_
      refine sx_RP.step (pc2 := 26) (ls2 := [(0, .ref 0), (1, .int (nI x2)), (2, .int (nI x5)), (3, .int a3)]) (st2 := [.ref 0]) (w3 := w) rfl rfl ?_
      refine sx_RP.gf (v := .ref 1) rfl rfl hI.1.o0 rfl rfl (show _ = 29 from rfl) ?_
      refine sx_RP.gref (k := 2) (b := 3) hI (Or.inl rfl) rfl rfl (by omega) (show _ = 32 from rfl) ?_
      refine sx_RP.step (pc2 := 33) (ls2 := [(0, .ref 0), (1, .int (nI x2)), (2, .int (nI x5)), (3, .int a3)]) (st2 := [.int (nI x2), .ref 3]) (w3 := w) rfl rfl ?_
      refine sx_RP.ald (v := .ref (1 + 4 + x2)) rfl (hI.1.aG (Or.inl rfl)) rfl (grA_at (show x2 < 10 by omega)) (show _ = 34 from rfl) ?_
      refine sx_RP.gg (k := 0) hI (gAd.of (Or.inl rfl) (show x2 < 10 by omega)) rfl rfl (by decide) (show _ = 37 from rfl) ?_
      obtain ⟨x12, hx13, ex14⟩ : inR (fi w (1 + 4 + x2) 0) 5 := hI.gk (k := 0) (gAd.of (Or.inl rfl) (show x2 < 10 by omega)) (by decide)
      rw [ex14]
      refine sx_RP.step (pc2 := 39) (ls2 := [(4, .int (nI x12)), (0, .ref 0), (1, .int (nI x2)), (2, .int (nI x5)), (3, .int a3)]) (st2 := []) (w3 := w) rfl rfl ?_
      refine sx_RP.step (pc2 := 40) (ls2 := [(4, .int (nI x12)), (0, .ref 0), (1, .int (nI x2)), (2, .int (nI x5)), (3, .int a3)]) (st2 := [.int a3]) (w3 := w) rfl rfl ?_
      rcases sw_cases (n := 2) (a3) with q15 | ⟨x16, hx17, ex18⟩
      · refine sx_RP.swo (t := 131) rfl q15 rfl ?_
        refine sx_RP.step (pc2 := 132) (ls2 := [(4, .int (nI x12)), (0, .ref 0), (1, .int (nI x2)), (2, .int (nI x5)), (3, .int a3)]) (st2 := [.ref 0]) (w3 := w) rfl rfl ?_
        refine sx_RP.step (pc2 := 134) (ls2 := [(4, .int (nI x12)), (0, .ref 0), (1, .int (nI x2)), (2, .int (nI x5)), (3, .int a3)]) (st2 := [.int (-1000000001), .ref 0]) (w3 := w) rfl rfl ?_
        refine sx_RP.callp (as2 := [.ref 0, .int (-1000000001)]) (rest2 := []) rfl rfl (sx_inv_v2 (mi := 32) (k := 78) (st := [.int (-1000000001), .ref 0]) (w := w) rfl rfl hI.1.o0 rfl rfl rfl) rfl rfl rfl (S9_0 hI) (show _ = 137 from rfl) ?_
        rintro r4 w20 ⟨rfl, hI21, hs19⟩
        show sx_RP _ _ _ _ _ [.int (-1000000001)] _ _
        refine sx_RP.ret (r := (some (.int (-1000000001)))) rfl rfl ?_
        exact ⟨by rw [dosA_2 (in2_n q15)], hI21⟩
      · rw [ex18]
        rcases (show x16 = 0 ∨ x16 = 1 ∨ x16 = 2 by omega) with rfl | rfl | rfl
        · refine sx_RP.step (pc2 := 68) (ls2 := [(4, .int (nI x12)), (0, .ref 0), (1, .int (nI x2)), (2, .int (nI x5)), (3, .int (nI 0))]) (st2 := []) (w3 := w) rfl rfl ?_
          refine sx_RP.step (pc2 := 69) (ls2 := [(4, .int (nI x12)), (0, .ref 0), (1, .int (nI x2)), (2, .int (nI x5)), (3, .int (nI 0))]) (st2 := [.ref 0]) (w3 := w) rfl rfl ?_
          refine sx_RP.gf (v := .ref 1) rfl rfl hI.1.o0 rfl rfl (show _ = 72 from rfl) ?_
          refine sx_RP.gref (k := 0) (b := 2) hI (Or.inl rfl) rfl rfl (by omega) (show _ = 75 from rfl) ?_
          refine sx_RP.step (pc2 := 76) (ls2 := [(4, .int (nI x12)), (0, .ref 0), (1, .int (nI x2)), (2, .int (nI x5)), (3, .int (nI 0))]) (st2 := [.int (nI x5), .ref 2]) (w3 := w) rfl rfl ?_
          refine sx_RP.ild (c := x5) rfl (hI.1.aS (Or.inl rfl)).1 (hI.1.aS (Or.inl rfl)).2 (sx_in_nI (show x5 < 48 by omega) (by decide)) (show (nI x5).toNatClampNeg = x5 from nI_clamp (by omega)) (show _ = 77 from rfl) ?_
          obtain ⟨x22, hx23, ex24⟩ : inR ((ia w 2).getD x5 0) 3 := hI.st (Or.inl rfl) (show x5 < 48 by omega)
          rw [ex24]
          refine sx_RP.step (pc2 := 78) (ls2 := [(4, .int (nI x12)), (0, .ref 0), (1, .int (nI x2)), (2, .int (nI x5)), (3, .int (nI 0))]) (st2 := [.int 3, .int (nI x22)]) (w3 := w) rfl rfl ?_
          refine sx_RP.br (p1 := 90) (l1 := [(4, .int (nI x12)), (0, .ref 0), (1, .int (nI x2)), (2, .int (nI x5)), (3, .int (nI 0))]) (s1 := []) (v1 := w) (p2 := 81) (l2 := [(4, .int (nI x12)), (0, .ref 0), (1, .int (nI x2)), (2, .int (nI x5)), (3, .int (nI 0))]) (s2 := []) (v2 := w) rfl rfl (fun q25 => ?_) (fun q25 => ?_)
          · replace q25 := of_decide_eq_true q25
            replace q25 := mt (nI_eq (a := x22) (b := 3) (by omega) (by omega)).mpr q25
            refine sx_RP.step (pc2 := 91) (ls2 := [(4, .int (nI x12)), (0, .ref 0), (1, .int (nI x2)), (2, .int (nI x5)), (3, .int (nI 0))]) (st2 := [.ref 0]) (w3 := w) rfl rfl ?_
            refine sx_RP.gf (v := .ref 1) rfl rfl hI.1.o0 rfl rfl (show _ = 94 from rfl) ?_
            refine sx_RP.step (pc2 := 96) (ls2 := [(4, .int (nI x12)), (0, .ref 0), (1, .int (nI x2)), (2, .int (nI x5)), (3, .int (nI 0))]) (st2 := [.int (nI x12), .ref 1]) (w3 := w) rfl rfl ?_
            refine sx_RP.step (pc2 := 97) (ls2 := [(4, .int (nI x12)), (0, .ref 0), (1, .int (nI x2)), (2, .int (nI x5)), (3, .int (nI 0))]) (st2 := [.int (nI x5), .int (nI x12), .ref 1]) (w3 := w) rfl rfl ?_
            refine sx_RP.cu (as := [.ref 1, .int (nI x12), .int (nI x5)]) (rest2 := []) (st3 := [.int (tmV x12 (iN ((ia w (1 + 1)).getD x5 0)) (b01 (bitL (fj w 1 1) x5)))]) rfl rfl (sx_inv_v2 (mi := 32) (k := 153) (st := [.int (nI x5), .int (nI x12), .ref 1]) (w := w) rfl rfl (hI.1.oC (Or.inl rfl)) rfl rfl rfl) rfl rfl (x33 hI (Or.inl rfl) (show x12 ≤ 5 by omega) (show x5 < 48 by omega)) rfl ?_
            refine sx_RP.ret (r := (some (.int (tmV x12 (iN ((ia w (1 + 1)).getD x5 0)) (b01 (bitL (fj w 1 1) x5)))))) rfl rfl ?_
            obtain ⟨s9, hs9, es9⟩ : inR ((ia w (1 + 1)).getD x5 0) 3 := hI.st (Or.inl rfl) (show x5 < 48 by omega)
            have e8 : dosA l (nI x2) (nI x5) (nI 0) = dosV x12 s9 (l.getD (55 + x5) 0) (nI 0) := dosA_y en (by omega) c1 (by omega) (by omega) (by omega) ((hR.ga (i := x2) (k := 0) (by rw [en, iN_n (by omega)]; omega) (by decide)).symm.trans ex14) ((hR.gr (by omega)).symm.trans es9)
            have e7 : x22 = s9 := (nI_eq (by omega) (by omega)).mp (ex24.symm.trans es9)
            exact ⟨by rw [e8, dosV_0 (by omega), es9, iN_n (by omega), hR.w48 (by omega)], hI⟩
          · replace q25 := Decidable.not_not.mp (of_decide_eq_false q25)
            replace q25 := (nI_eq (a := x22) (b := 3) (by omega) (by omega)).mp q25
            refine sx_RP.step (pc2 := 82) (ls2 := [(4, .int (nI x12)), (0, .ref 0), (1, .int (nI x2)), (2, .int (nI x5)), (3, .int (nI 0))]) (st2 := [.ref 0]) (w3 := w) rfl rfl ?_
            refine sx_RP.step (pc2 := 84) (ls2 := [(4, .int (nI x12)), (0, .ref 0), (1, .int (nI x2)), (2, .int (nI x5)), (3, .int (nI 0))]) (st2 := [.int (-1000000004), .ref 0]) (w3 := w) rfl rfl ?_
            refine sx_RP.callp (as2 := [.ref 0, .int (-1000000004)]) (rest2 := []) rfl rfl (sx_inv_v2 (mi := 32) (k := 78) (st := [.int (-1000000004), .ref 0]) (w := w) rfl rfl hI.1.o0 rfl rfl rfl) rfl rfl rfl (S9_3 hI) (show _ = 87 from rfl) ?_
            rintro r4 w27 ⟨rfl, hI28, hs26⟩
            show sx_RP _ _ _ _ _ [.int (-1000000004)] _ _
            refine sx_RP.step (pc2 := 100) (ls2 := [(4, .int (nI x12)), (0, .ref 0), (1, .int (nI x2)), (2, .int (nI x5)), (3, .int (nI 0))]) (st2 := [.int (-1000000004)]) (w3 := w27) rfl rfl ?_
            refine sx_RP.ret (r := (some (.int (-1000000004)))) rfl rfl ?_
            obtain ⟨s9, hs9, es9⟩ : inR ((ia w (1 + 1)).getD x5 0) 3 := hI.st (Or.inl rfl) (show x5 < 48 by omega)
            have e8 : dosA l (nI x2) (nI x5) (nI 0) = dosV x12 s9 (l.getD (55 + x5) 0) (nI 0) := dosA_y en (by omega) c1 (by omega) (by omega) (by omega) ((hR.ga (i := x2) (k := 0) (by rw [en, iN_n (by omega)]; omega) (by decide)).symm.trans ex14) ((hR.gr (by omega)).symm.trans es9)
            have e7 : x22 = s9 := (nI_eq (by omega) (by omega)).mp (ex24.symm.trans es9)
            exact ⟨by rw [e8, dosV_w (by omega)], hI28⟩
        · refine sx_RP.step (pc2 := 101) (ls2 := [(4, .int (nI x12)), (0, .ref 0), (1, .int (nI x2)), (2, .int (nI x5)), (3, .int (nI 1))]) (st2 := []) (w3 := w) rfl rfl ?_
          refine sx_RP.step (pc2 := 102) (ls2 := [(4, .int (nI x12)), (0, .ref 0), (1, .int (nI x2)), (2, .int (nI x5)), (3, .int (nI 1))]) (st2 := [.ref 0]) (w3 := w) rfl rfl ?_
          refine sx_RP.gf (v := .ref 1) rfl rfl hI.1.o0 rfl rfl (show _ = 105 from rfl) ?_
          refine sx_RP.step (pc2 := 107) (ls2 := [(4, .int (nI x12)), (0, .ref 0), (1, .int (nI x2)), (2, .int (nI x5)), (3, .int (nI 1))]) (st2 := [.int (nI x12), .ref 1]) (w3 := w) rfl rfl ?_
          refine sx_RP.step (pc2 := 108) (ls2 := [(4, .int (nI x12)), (0, .ref 0), (1, .int (nI x2)), (2, .int (nI x5)), (3, .int (nI 1))]) (st2 := [.int (nI x5), .int (nI x12), .ref 1]) (w3 := w) rfl rfl ?_
          refine sx_RP.cu (as := [.ref 1, .int (nI x12), .int (nI x5)]) (rest2 := []) (st3 := [.int (ldV x12 (iN ((ia w (1 + 1)).getD x5 0)))]) rfl rfl (sx_inv_v2 (mi := 32) (k := 157) (st := [.int (nI x5), .int (nI x12), .ref 1]) (w := w) rfl rfl (hI.1.oC (Or.inl rfl)) rfl rfl rfl) rfl rfl (x35 hI (Or.inl rfl) (show x12 ≤ 5 by omega) (show x5 < 48 by omega)) rfl ?_
          refine sx_RP.ret (r := (some (.int (ldV x12 (iN ((ia w (1 + 1)).getD x5 0)))))) rfl rfl ?_
          obtain ⟨s9, hs9, es9⟩ : inR ((ia w (1 + 1)).getD x5 0) 3 := hI.st (Or.inl rfl) (show x5 < 48 by omega)
          have e8 : dosA l (nI x2) (nI x5) (nI 1) = dosV x12 s9 (l.getD (55 + x5) 0) (nI 1) := dosA_y en (by omega) c1 (by omega) (by omega) (by omega) ((hR.ga (i := x2) (k := 0) (by rw [en, iN_n (by omega)]; omega) (by decide)).symm.trans ex14) ((hR.gr (by omega)).symm.trans es9)
          exact ⟨by rw [e8, dosV_1, es9, iN_n (by omega)], hI⟩
        · refine sx_RP.step (pc2 := 112) (ls2 := [(4, .int (nI x12)), (0, .ref 0), (1, .int (nI x2)), (2, .int (nI x5)), (3, .int (nI 2))]) (st2 := []) (w3 := w) rfl rfl ?_
          refine sx_RP.step (pc2 := 113) (ls2 := [(4, .int (nI x12)), (0, .ref 0), (1, .int (nI x2)), (2, .int (nI x5)), (3, .int (nI 2))]) (st2 := [.ref 0]) (w3 := w) rfl rfl ?_
          refine sx_RP.gf (v := .ref 1) rfl rfl hI.1.o0 rfl rfl (show _ = 116 from rfl) ?_
          refine sx_RP.step (pc2 := 118) (ls2 := [(4, .int (nI x12)), (0, .ref 0), (1, .int (nI x2)), (2, .int (nI x5)), (3, .int (nI 2))]) (st2 := [.int (nI x12), .ref 1]) (w3 := w) rfl rfl ?_
          refine sx_RP.step (pc2 := 119) (ls2 := [(4, .int (nI x12)), (0, .ref 0), (1, .int (nI x2)), (2, .int (nI x5)), (3, .int (nI 2))]) (st2 := [.int (nI x5), .int (nI x12), .ref 1]) (w3 := w) rfl rfl ?_
          rcases Bool.eq_false_or_eq_true (fmB x12 (iN ((ia w (1 + 1)).getD x5 0))) with hf | hf
          · refine sx_RP.cu (as := [.ref 1, .int (nI x12), .int (nI x5)]) (rest2 := []) (st3 := [.int 1]) rfl rfl (sx_inv_v2 (mi := 32) (k := 160) (st := [.int (nI x5), .int (nI x12), .ref 1]) (w := w) rfl rfl (hI.1.oC (Or.inl rfl)) rfl rfl rfl) rfl rfl ((by have z := x37 (xs := xs) (d := d + 4) hI (Or.inl rfl) (show x12 ≤ 5 by omega) (show x5 < 48 by omega); rw [hf] at z; exact z)) rfl ?_
            refine sx_RP.step (pc2 := 125) (ls2 := [(4, .int (nI x12)), (0, .ref 0), (1, .int (nI x2)), (2, .int (nI x5)), (3, .int (nI 2))]) (st2 := []) (w3 := w) rfl rfl ?_
            refine sx_RP.step (pc2 := 126) (ls2 := [(4, .int (nI x12)), (0, .ref 0), (1, .int (nI x2)), (2, .int (nI x5)), (3, .int (nI 2))]) (st2 := [.int 1]) (w3 := w) rfl rfl ?_
            refine sx_RP.step (pc2 := 130) (ls2 := [(4, .int (nI x12)), (0, .ref 0), (1, .int (nI x2)), (2, .int (nI x5)), (3, .int (nI 2))]) (st2 := [.int 1]) (w3 := w) rfl rfl ?_
            refine sx_RP.ret (r := (some (.int 1))) rfl rfl ?_
            obtain ⟨s9, hs9, es9⟩ : inR ((ia w (1 + 1)).getD x5 0) 3 := hI.st (Or.inl rfl) (show x5 < 48 by omega)
            have e8 : dosA l (nI x2) (nI x5) (nI 2) = dosV x12 s9 (l.getD (55 + x5) 0) (nI 2) := dosA_y en (by omega) c1 (by omega) (by omega) (by omega) ((hR.ga (i := x2) (k := 0) (by rw [en, iN_n (by omega)]; omega) (by decide)).symm.trans ex14) ((hR.gr (by omega)).symm.trans es9)
            have e9 : fmB x12 s9 = true := by have z := hf; rw [es9, iN_n (by omega)] at z; exact z
            exact ⟨by rw [e8, dosV_2, e9]; rfl, hI⟩
          · refine sx_RP.cu (as := [.ref 1, .int (nI x12), .int (nI x5)]) (rest2 := []) (st3 := [.int 0]) rfl rfl (sx_inv_v2 (mi := 32) (k := 160) (st := [.int (nI x5), .int (nI x12), .ref 1]) (w := w) rfl rfl (hI.1.oC (Or.inl rfl)) rfl rfl rfl) rfl rfl ((by have z := x37 (xs := xs) (d := d + 4) hI (Or.inl rfl) (show x12 ≤ 5 by omega) (show x5 < 48 by omega); rw [hf] at z; exact z)) rfl ?_
            refine sx_RP.step (pc2 := 129) (ls2 := [(4, .int (nI x12)), (0, .ref 0), (1, .int (nI x2)), (2, .int (nI x5)), (3, .int (nI 2))]) (st2 := []) (w3 := w) rfl rfl ?_
            refine sx_RP.step (pc2 := 130) (ls2 := [(4, .int (nI x12)), (0, .ref 0), (1, .int (nI x2)), (2, .int (nI x5)), (3, .int (nI 2))]) (st2 := [.int 0]) (w3 := w) rfl rfl ?_
            refine sx_RP.ret (r := (some (.int 0))) rfl rfl ?_
            obtain ⟨s9, hs9, es9⟩ : inR ((ia w (1 + 1)).getD x5 0) 3 := hI.st (Or.inl rfl) (show x5 < 48 by omega)
            have e8 : dosA l (nI x2) (nI x5) (nI 2) = dosV x12 s9 (l.getD (55 + x5) 0) (nI 2) := dosA_y en (by omega) c1 (by omega) (by omega) (by omega) ((hR.ga (i := x2) (k := 0) (by rw [en, iN_n (by omega)]; omega) (by decide)).symm.trans ex14) ((hR.gr (by omega)).symm.trans es9)
            have e9 : fmB x12 s9 = false := by have z := hf; rw [es9, iN_n (by omega)] at z; exact z
            exact ⟨by rw [e8, dosV_2, e9]; rfl, hI⟩
  · refine sx_RP.cu (as := [.ref 1, .int a1]) (rest2 := []) (st3 := [.int 0]) rfl rfl (sx_inv_v2 (mi := 32) (k := 120) (st := [.int a1, .ref 1]) (w := w) rfl rfl (hI.1.oC (Or.inl rfl)) rfl rfl rfl) rfl rfl (p27n hI (Or.inl rfl) en0 hn c1) rfl ?_
    refine sx_RP.step (pc2 := 18) (ls2 := [(0, .ref 0), (1, .int a1), (2, .int a2), (3, .int a3)]) (st2 := []) (w3 := w) rfl rfl ?_
    refine sx_RP.step (pc2 := 19) (ls2 := [(0, .ref 0), (1, .int a1), (2, .int a2), (3, .int a3)]) (st2 := [.ref 0]) (w3 := w) rfl rfl ?_
    refine sx_RP.step (pc2 := 21) (ls2 := [(0, .ref 0), (1, .int a1), (2, .int a2), (3, .int a3)]) (st2 := [.int (-1000000001), .ref 0]) (w3 := w) rfl rfl ?_
    refine sx_RP.callp (as2 := [.ref 0, .int (-1000000001)]) (rest2 := []) rfl rfl (sx_inv_v2 (mi := 32) (k := 78) (st := [.int (-1000000001), .ref 0]) (w := w) rfl rfl hI.1.o0 rfl rfl rfl) rfl rfl rfl (S9_0 hI) (show _ = 24 from rfl) ?_
    rintro r4 w30 ⟨rfl, hI31, hs29⟩
    show sx_RP _ _ _ _ _ [.int (-1000000001)] _ _
    refine sx_RP.ret (r := (some (.int (-1000000001)))) rfl rfl ?_
    exact ⟨by rw [dosA_1 en (fun z => c1 z.1)], hI31⟩
set_option maxRecDepth 20000 in
set_option maxHeartbeats 4000000 in
theorem A161 {xs : Option (List Int32)} {d : Nat} {w : List sx_C} (hI : WI w) (hW : WB (ia w 112)) (a1 a2 a3 : Int32) : sx_RP xs (d + 7) 161 0 (lv_args 0 [.ref 111, .int a1, .int a2, .int a3]) [] w (fun r w2 => r = some (.int (dosA (ia w 112) a1 a2 a3)) ∧ WI w2) := by
  obtain ⟨n, hn, en⟩ := (hI.sA (a := 112) (by decide) 1 (by decide)).1 rfl
  refine sx_RP.step (pc2 := 1) (ls2 := [(0, .ref 111), (1, .int a1), (2, .int a2), (3, .int a3)]) (st2 := [.ref 111]) (w3 := w) rfl rfl ?_
  refine sx_RP.step (pc2 := 2) (ls2 := [(0, .ref 111), (1, .int a1), (2, .int a2), (3, .int a3)]) (st2 := [.int a1, .ref 111]) (w3 := w) rfl rfl ?_
  rcases Decidable.em (0 ≤ a1 ∧ a1 < nI n) with c1 | c1
  · obtain ⟨x2, hx3, rfl⟩ := idx_get c1 (by omega)
    refine sx_RP.cu (as := [.ref 111, .int (nI x2)]) (rest2 := []) (st3 := [.int 1]) rfl rfl (sx_inv_v2 (mi := 161) (k := 124) (st := [.int (nI x2), .ref 111]) (w := w) rfl rfl hI.1.o111 rfl rfl rfl) rfl rfl (p156y hI en hn c1) rfl ?_
    refine sx_RP.step (pc2 := 8) (ls2 := [(0, .ref 111), (1, .int (nI x2)), (2, .int a2), (3, .int a3)]) (st2 := []) (w3 := w) rfl rfl ?_
    refine sx_RP.step (pc2 := 9) (ls2 := [(0, .ref 111), (1, .int (nI x2)), (2, .int a2), (3, .int a3)]) (st2 := [.int a2]) (w3 := w) rfl rfl ?_
    rcases in_cases a2 0 47 (m := 0) (n := 47) rfl rfl (by decide) (by decide) with q4 | ⟨x5, hx6, hx7, rfl⟩
    · refine sx_RP.cu (as := [.int a2]) (rest2 := []) (st3 := [.int 0]) rfl rfl rfl rfl rfl (cx_131n q4) rfl ?_
      refine sx_RP.step (pc2 := 24) (ls2 := [(0, .ref 111), (1, .int (nI x2)), (2, .int a2), (3, .int a3)]) (st2 := []) (w3 := w) rfl rfl ?_
      refine sx_RP.step (pc2 := 25) (ls2 := [(0, .ref 111), (1, .int (nI x2)), (2, .int a2), (3, .int a3)]) (st2 := [.ref 111]) (w3 := w) rfl rfl ?_
      refine sx_RP.step (pc2 := 26) (ls2 := [(0, .ref 111), (1, .int (nI x2)), (2, .int a2), (3, .int a3)]) (st2 := [.int 0, .ref 111]) (w3 := w) rfl rfl ?_
      refine sx_RP.callp (as2 := [.ref 111, .int 0]) (rest2 := []) rfl rfl (sx_inv_v2 (mi := 161) (k := 70) (st := [.int 0, .ref 111]) (w := w) rfl rfl hI.1.o111 rfl rfl rfl) rfl rfl rfl (S133_0 hI) (show _ = 29 from rfl) ?_
      rintro r4 w10 ⟨rfl, hI11, hs9⟩
      show sx_RP _ _ _ _ _ [.int (-1000000001)] _ _
      refine sx_RP.ret (r := (some (.int (-1000000001)))) rfl rfl ?_
      exact ⟨by rw [dosA_1 en (fun z => q4 z.2)], hI11⟩
    · refine sx_RP.cu (as := [.int (nI x5)]) (rest2 := []) (st3 := [.int 1]) rfl rfl rfl rfl rfl (cx_131p ⟨nI_le (a := 0) hx6 (by omega), nI_le (b := 47) hx7 (by decide)⟩) rfl ?_
      refine sx_RP.step (pc2 := 15) (ls2 := [(0, .ref 111), (1, .int (nI x2)), (2, .int (nI x5)), (3, .int a3)]) (st2 := []) (w3 := w) rfl rfl ?_
      refine sx_RP.step (pc2 := 16) (ls2 := [(0, .ref 111), (1, .int (nI x2)), (2, .int (nI x5)), (3, .int a3)]) (st2 := [.int a3]) (w3 := w) rfl rfl ?_
      refine sx_RP.step (pc2 := 17) (ls2 := [(0, .ref 111), (1, .int (nI x2)), (2, .int (nI x5)), (3, .int a3)]) (st2 := [.int 0, .int a3]) (w3 := w) rfl rfl ?_
      refine sx_RP.step (pc2 := 18) (ls2 := [(0, .ref 111), (1, .int (nI x2)), (2, .int (nI x5)), (3, .int a3)]) (st2 := [.int 2, .int 0, .int a3]) (w3 := w) rfl rfl ?_
      rcases in_cases a3 0 2 (m := 0) (n := 2) rfl rfl (by decide) (by decide) with q12 | ⟨x13, hx14, hx15, rfl⟩
      · refine sx_RP.cu (as := [.int a3, .int 0, .int 2]) (rest2 := []) (st3 := [.int 0]) rfl rfl rfl rfl rfl (cx_132o q12) rfl ?_
        refine sx_RP.step (pc2 := 24) (ls2 := [(0, .ref 111), (1, .int (nI x2)), (2, .int (nI x5)), (3, .int a3)]) (st2 := []) (w3 := w) rfl rfl ?_
        refine sx_RP.step (pc2 := 25) (ls2 := [(0, .ref 111), (1, .int (nI x2)), (2, .int (nI x5)), (3, .int a3)]) (st2 := [.ref 111]) (w3 := w) rfl rfl ?_
        refine sx_RP.step (pc2 := 26) (ls2 := [(0, .ref 111), (1, .int (nI x2)), (2, .int (nI x5)), (3, .int a3)]) (st2 := [.int 0, .ref 111]) (w3 := w) rfl rfl ?_
        refine sx_RP.callp (as2 := [.ref 111, .int 0]) (rest2 := []) rfl rfl (sx_inv_v2 (mi := 161) (k := 70) (st := [.int 0, .ref 111]) (w := w) rfl rfl hI.1.o111 rfl rfl rfl) rfl rfl rfl (S133_0 hI) (show _ = 29 from rfl) ?_
        rintro r4 w18 ⟨rfl, hI19, hs17⟩
        show sx_RP _ _ _ _ _ [.int (-1000000001)] _ _
        refine sx_RP.ret (r := (some (.int (-1000000001)))) rfl rfl ?_
        exact ⟨by rw [dosA_2 q12], hI19⟩
      · refine sx_RP.cu (as := [.int (nI x13), .int 0, .int 2]) (rest2 := []) (st3 := [.int 1]) rfl rfl rfl rfl rfl (cx_132p ⟨nI_le (a := 0) hx14 (by omega), nI_le (b := 2) hx15 (by decide)⟩) rfl ?_
        refine sx_RP.step (pc2 := 30) (ls2 := [(0, .ref 111), (1, .int (nI x2)), (2, .int (nI x5)), (3, .int (nI x13))]) (st2 := []) (w3 := w) rfl rfl ?_
        refine sx_RP.step (pc2 := 31) (ls2 := [(0, .ref 111), (1, .int (nI x2)), (2, .int (nI x5)), (3, .int (nI x13))]) (st2 := [.int (nI x13)]) (w3 := w) rfl rfl ?_
        refine sx_RP.step (pc2 := 32) (ls2 := [(0, .ref 111), (1, .int (nI x2)), (2, .int (nI x5)), (3, .int (nI x13))]) (st2 := [.int 1, .int (nI x13)]) (w3 := w) rfl rfl ?_
        refine sx_RP.br (p1 := 47) (l1 := [(0, .ref 111), (1, .int (nI x2)), (2, .int (nI x5)), (3, .int (nI x13))]) (s1 := []) (v1 := w) (p2 := 35) (l2 := [(0, .ref 111), (1, .int (nI x2)), (2, .int (nI x5)), (3, .int (nI x13))]) (s2 := []) (v2 := w) rfl rfl (fun q20 => ?_) (fun q20 => ?_)
        · replace q20 := of_decide_eq_true q20
          replace q20 := mt (nI_eq (a := x13) (b := 1) (by omega) (by omega)).mpr q20
          refine sx_RP.step (pc2 := 48) (ls2 := [(0, .ref 111), (1, .int (nI x2)), (2, .int (nI x5)), (3, .int (nI x13))]) (st2 := [.int (nI x13)]) (w3 := w) rfl rfl ?_
          refine sx_RP.step (pc2 := 49) (ls2 := [(0, .ref 111), (1, .int (nI x2)), (2, .int (nI x5)), (3, .int (nI x13))]) (st2 := [.int 2, .int (nI x13)]) (w3 := w) rfl rfl ?_
          refine sx_RP.br (p1 := 69) (l1 := [(0, .ref 111), (1, .int (nI x2)), (2, .int (nI x5)), (3, .int (nI x13))]) (s1 := []) (v1 := w) (p2 := 52) (l2 := [(0, .ref 111), (1, .int (nI x2)), (2, .int (nI x5)), (3, .int (nI x13))]) (s2 := []) (v2 := w) rfl rfl (fun q21 => ?_) (fun q21 => ?_)
          · replace q21 := of_decide_eq_true q21
            replace q21 := mt (nI_eq (a := x13) (b := 2) (by omega) (by omega)).mpr q21
            refine sx_RP.step (pc2 := 70) (ls2 := [(0, .ref 111), (1, .int (nI x2)), (2, .int (nI x5)), (3, .int (nI x13))]) (st2 := [.ref 111]) (w3 := w) rfl rfl ?_
            refine sx_RP.step (pc2 := 71) (ls2 := [(0, .ref 111), (1, .int (nI x2)), (2, .int (nI x5)), (3, .int (nI x13))]) (st2 := [.int (nI x2), .ref 111]) (w3 := w) rfl rfl ?_
            refine sx_RP.step (pc2 := 72) (ls2 := [(0, .ref 111), (1, .int (nI x2)), (2, .int (nI x5)), (3, .int (nI x13))]) (st2 := [.int (nI x5), .int (nI x2), .ref 111]) (w3 := w) rfl rfl ?_
            obtain ⟨k9, hk9, ek⟩ : inR ((ia w 112).getD (103 + 6 * x2 + 0) 0) 5 := (hI.s (103 + 6 * x2 + 0) (by omega)).2.2.2.1 (by omega)
            obtain ⟨s9, hs9, es⟩ : inR ((ia w 112).getD (7 + x5) 0) 3 := (hI.s (7 + x5) (by omega)).2.2.1 (by omega)
            rcases Decidable.em (s9 = 3) with h3 | h3
            · refine sx_RP.cu (as := [.ref 111, .int (nI x2), .int (nI x5)]) (rest2 := []) (st3 := [.int (-1)]) rfl rfl (sx_inv_v2 (mi := 161) (k := 87) (st := [.int (nI x5), .int (nI x2), .ref 111]) (w := w) rfl rfl hI.1.o111 rfl rfl rfl) rfl rfl ((by have z := x147 (xs := xs) (d := d + 5) hI (show x2 < 10 by omega) (show x5 < 48 by omega) (show k9 < 6 by omega) ek (show s9 < 4 by omega) es; rw [if_pos h3] at z; exact z)) rfl ?_
              refine sx_RP.step (pc2 := 77) (ls2 := [(4, .int (-1)), (0, .ref 111), (1, .int (nI x2)), (2, .int (nI x5)), (3, .int (nI x13))]) (st2 := []) (w3 := w) rfl rfl ?_
              refine sx_RP.step (pc2 := 79) (ls2 := [(4, .int (-1)), (0, .ref 111), (1, .int (nI x2)), (2, .int (nI x5)), (3, .int (nI x13))]) (st2 := [.int (-1)]) (w3 := w) rfl rfl ?_
              refine sx_RP.step (pc2 := 82) (ls2 := [(4, .int (-1)), (0, .ref 111), (1, .int (nI x2)), (2, .int (nI x5)), (3, .int (nI x13))]) (st2 := []) (w3 := w) rfl rfl ?_
              refine sx_RP.step (pc2 := 83) (ls2 := [(4, .int (-1)), (0, .ref 111), (1, .int (nI x2)), (2, .int (nI x5)), (3, .int (nI x13))]) (st2 := [.ref 111]) (w3 := w) rfl rfl ?_
              refine sx_RP.step (pc2 := 84) (ls2 := [(4, .int (-1)), (0, .ref 111), (1, .int (nI x2)), (2, .int (nI x5)), (3, .int (nI x13))]) (st2 := [.int 3, .ref 111]) (w3 := w) rfl rfl ?_
              refine sx_RP.callp (as2 := [.ref 111, .int 3]) (rest2 := []) rfl rfl (sx_inv_v2 (mi := 161) (k := 70) (st := [.int 3, .ref 111]) (w := w) rfl rfl hI.1.o111 rfl rfl rfl) rfl rfl rfl (S133_3 hI) (show _ = 87 from rfl) ?_
              rintro r4 w23 ⟨rfl, hI24, hs22⟩
              show sx_RP _ _ _ _ _ [.int (-1000000004)] _ _
              refine sx_RP.step (pc2 := 92) (ls2 := [(4, .int (-1)), (0, .ref 111), (1, .int (nI x2)), (2, .int (nI x5)), (3, .int (nI x13))]) (st2 := [.int (-1000000004)]) (w3 := w23) rfl rfl ?_
              refine sx_RP.ret (r := (some (.int (-1000000004)))) rfl rfl ?_
              obtain rfl : x13 = 0 := by omega
              exact ⟨by rw [dosA_y (k := k9) (s := s9) en (by omega) c1 (by omega) (by omega) (by omega) ek es, dosV_w h3], hI24⟩
            · refine sx_RP.cu (as := [.ref 111, .int (nI x2), .int (nI x5)]) (rest2 := []) (st3 := [.int (tmV k9 s9 ((ia w 112).getD (55 + x5) 0))]) rfl rfl (sx_inv_v2 (mi := 161) (k := 87) (st := [.int (nI x5), .int (nI x2), .ref 111]) (w := w) rfl rfl hI.1.o111 rfl rfl rfl) rfl rfl ((by have z := x147 (xs := xs) (d := d + 5) hI (show x2 < 10 by omega) (show x5 < 48 by omega) (show k9 < 6 by omega) ek (show s9 < 4 by omega) es; rw [if_neg h3] at z; exact z)) rfl ?_
              refine sx_RP.step (pc2 := 77) (ls2 := [(4, .int (tmV k9 s9 ((ia w 112).getD (55 + x5) 0))), (0, .ref 111), (1, .int (nI x2)), (2, .int (nI x5)), (3, .int (nI x13))]) (st2 := []) (w3 := w) rfl rfl ?_
              refine sx_RP.step (pc2 := 79) (ls2 := [(4, .int (tmV k9 s9 ((ia w 112).getD (55 + x5) 0))), (0, .ref 111), (1, .int (nI x2)), (2, .int (nI x5)), (3, .int (nI x13))]) (st2 := [.int (tmV k9 s9 ((ia w 112).getD (55 + x5) 0))]) (w3 := w) rfl rfl ?_
              refine sx_RP.br (p1 := 90) (l1 := [(4, .int (tmV k9 s9 ((ia w 112).getD (55 + x5) 0))), (0, .ref 111), (1, .int (nI x2)), (2, .int (nI x5)), (3, .int (nI x13))]) (s1 := []) (v1 := w) rfl rfl (fun _ => ?_) (fun q => absurd (Int32.not_lt.mp (tm_ge (by omega) (by omega) hW (by omega))) (of_decide_eq_false q))
              refine sx_RP.step (pc2 := 92) (ls2 := [(4, .int (tmV k9 s9 ((ia w 112).getD (55 + x5) 0))), (0, .ref 111), (1, .int (nI x2)), (2, .int (nI x5)), (3, .int (nI x13))]) (st2 := [.int (tmV k9 s9 ((ia w 112).getD (55 + x5) 0))]) (w3 := w) rfl rfl ?_
              refine sx_RP.ret (r := (some (.int (tmV k9 s9 ((ia w 112).getD (55 + x5) 0))))) rfl rfl ?_
              obtain rfl : x13 = 0 := by omega
              exact ⟨by rw [dosA_y (k := k9) (s := s9) en (by omega) c1 (by omega) (by omega) (by omega) ek es, dosV_0 h3], hI⟩
          · replace q21 := Decidable.not_not.mp (of_decide_eq_false q21)
            replace q21 := (nI_eq (a := x13) (b := 2) (by omega) (by omega)).mp q21
            refine sx_RP.step (pc2 := 53) (ls2 := [(0, .ref 111), (1, .int (nI x2)), (2, .int (nI x5)), (3, .int (nI x13))]) (st2 := [.ref 111]) (w3 := w) rfl rfl ?_
            refine sx_RP.step (pc2 := 54) (ls2 := [(0, .ref 111), (1, .int (nI x2)), (2, .int (nI x5)), (3, .int (nI x13))]) (st2 := [.int (nI x2), .ref 111]) (w3 := w) rfl rfl ?_
            refine sx_RP.step (pc2 := 55) (ls2 := [(0, .ref 111), (1, .int (nI x2)), (2, .int (nI x5)), (3, .int (nI x13))]) (st2 := [.int (nI x5), .int (nI x2), .ref 111]) (w3 := w) rfl rfl ?_
            obtain ⟨k9, hk9, ek⟩ : inR ((ia w 112).getD (103 + 6 * x2 + 0) 0) 5 := (hI.s (103 + 6 * x2 + 0) (by omega)).2.2.2.1 (by omega)
            obtain ⟨s9, hs9, es⟩ : inR ((ia w 112).getD (7 + x5) 0) 3 := (hI.s (7 + x5) (by omega)).2.2.1 (by omega)
            rcases Bool.eq_false_or_eq_true (fmB k9 s9) with hf | hf
            · refine sx_RP.cu (as := [.ref 111, .int (nI x2), .int (nI x5)]) (rest2 := []) (st3 := [.int 1]) rfl rfl (sx_inv_v2 (mi := 161) (k := 107) (st := [.int (nI x5), .int (nI x2), .ref 111]) (w := w) rfl rfl hI.1.o111 rfl rfl rfl) rfl rfl ((by have z := x144 (xs := xs) (d := d + 5) hI (show x2 < 10 by omega) (show x5 < 48 by omega) (show k9 < 6 by omega) ek (show s9 < 4 by omega) es; rw [hf] at z; exact z)) rfl ?_
              refine sx_RP.step (pc2 := 61) (ls2 := [(0, .ref 111), (1, .int (nI x2)), (2, .int (nI x5)), (3, .int (nI x13))]) (st2 := []) (w3 := w) rfl rfl ?_
              refine sx_RP.step (pc2 := 62) (ls2 := [(0, .ref 111), (1, .int (nI x2)), (2, .int (nI x5)), (3, .int (nI x13))]) (st2 := [.int 1]) (w3 := w) rfl rfl ?_
              refine sx_RP.step (pc2 := 75) (ls2 := [(0, .ref 111), (1, .int (nI x2)), (2, .int (nI x5)), (3, .int (nI x13))]) (st2 := [.int 1]) (w3 := w) rfl rfl ?_
              refine sx_RP.step (pc2 := 77) (ls2 := [(4, .int 1), (0, .ref 111), (1, .int (nI x2)), (2, .int (nI x5)), (3, .int (nI x13))]) (st2 := []) (w3 := w) rfl rfl ?_
              refine sx_RP.step (pc2 := 79) (ls2 := [(4, .int 1), (0, .ref 111), (1, .int (nI x2)), (2, .int (nI x5)), (3, .int (nI x13))]) (st2 := [.int 1]) (w3 := w) rfl rfl ?_
              refine sx_RP.step (pc2 := 90) (ls2 := [(4, .int 1), (0, .ref 111), (1, .int (nI x2)), (2, .int (nI x5)), (3, .int (nI x13))]) (st2 := []) (w3 := w) rfl rfl ?_
              refine sx_RP.step (pc2 := 92) (ls2 := [(4, .int 1), (0, .ref 111), (1, .int (nI x2)), (2, .int (nI x5)), (3, .int (nI x13))]) (st2 := [.int 1]) (w3 := w) rfl rfl ?_
              refine sx_RP.ret (r := (some (.int 1))) rfl rfl ?_
              obtain rfl : x13 = 2 := by omega
              exact ⟨by rw [dosA_y (k := k9) (s := s9) en (by omega) c1 (by omega) (by omega) (by omega) ek es, dosV_2, hf]; rfl, hI⟩
            · refine sx_RP.cu (as := [.ref 111, .int (nI x2), .int (nI x5)]) (rest2 := []) (st3 := [.int 0]) rfl rfl (sx_inv_v2 (mi := 161) (k := 107) (st := [.int (nI x5), .int (nI x2), .ref 111]) (w := w) rfl rfl hI.1.o111 rfl rfl rfl) rfl rfl ((by have z := x144 (xs := xs) (d := d + 5) hI (show x2 < 10 by omega) (show x5 < 48 by omega) (show k9 < 6 by omega) ek (show s9 < 4 by omega) es; rw [hf] at z; exact z)) rfl ?_
              refine sx_RP.step (pc2 := 65) (ls2 := [(0, .ref 111), (1, .int (nI x2)), (2, .int (nI x5)), (3, .int (nI x13))]) (st2 := []) (w3 := w) rfl rfl ?_
              refine sx_RP.step (pc2 := 66) (ls2 := [(0, .ref 111), (1, .int (nI x2)), (2, .int (nI x5)), (3, .int (nI x13))]) (st2 := [.int 0]) (w3 := w) rfl rfl ?_
              refine sx_RP.step (pc2 := 75) (ls2 := [(0, .ref 111), (1, .int (nI x2)), (2, .int (nI x5)), (3, .int (nI x13))]) (st2 := [.int 0]) (w3 := w) rfl rfl ?_
              refine sx_RP.step (pc2 := 77) (ls2 := [(4, .int 0), (0, .ref 111), (1, .int (nI x2)), (2, .int (nI x5)), (3, .int (nI x13))]) (st2 := []) (w3 := w) rfl rfl ?_
              refine sx_RP.step (pc2 := 79) (ls2 := [(4, .int 0), (0, .ref 111), (1, .int (nI x2)), (2, .int (nI x5)), (3, .int (nI x13))]) (st2 := [.int 0]) (w3 := w) rfl rfl ?_
              refine sx_RP.step (pc2 := 90) (ls2 := [(4, .int 0), (0, .ref 111), (1, .int (nI x2)), (2, .int (nI x5)), (3, .int (nI x13))]) (st2 := []) (w3 := w) rfl rfl ?_
              refine sx_RP.step (pc2 := 92) (ls2 := [(4, .int 0), (0, .ref 111), (1, .int (nI x2)), (2, .int (nI x5)), (3, .int (nI x13))]) (st2 := [.int 0]) (w3 := w) rfl rfl ?_
              refine sx_RP.ret (r := (some (.int 0))) rfl rfl ?_
              obtain rfl : x13 = 2 := by omega
              exact ⟨by rw [dosA_y (k := k9) (s := s9) en (by omega) c1 (by omega) (by omega) (by omega) ek es, dosV_2, hf]; rfl, hI⟩
        · replace q20 := Decidable.not_not.mp (of_decide_eq_false q20)
          replace q20 := (nI_eq (a := x13) (b := 1) (by omega) (by omega)).mp q20
          refine sx_RP.step (pc2 := 36) (ls2 := [(0, .ref 111), (1, .int (nI x2)), (2, .int (nI x5)), (3, .int (nI x13))]) (st2 := [.ref 111]) (w3 := w) rfl rfl ?_
          refine sx_RP.step (pc2 := 37) (ls2 := [(0, .ref 111), (1, .int (nI x2)), (2, .int (nI x5)), (3, .int (nI x13))]) (st2 := [.ref 111, .ref 111]) (w3 := w) rfl rfl ?_
          refine sx_RP.step (pc2 := 38) (ls2 := [(0, .ref 111), (1, .int (nI x2)), (2, .int (nI x5)), (3, .int (nI x13))]) (st2 := [.int (nI x2), .ref 111, .ref 111]) (w3 := w) rfl rfl ?_
          refine sx_RP.step (pc2 := 39) (ls2 := [(0, .ref 111), (1, .int (nI x2)), (2, .int (nI x5)), (3, .int (nI x13))]) (st2 := [.int 0, .int (nI x2), .ref 111, .ref 111]) (w3 := w) rfl rfl ?_
          obtain ⟨k9, hk9, ek⟩ : inR ((ia w 112).getD (103 + 6 * x2 + 0) 0) 5 := (hI.s (103 + 6 * x2 + 0) (by omega)).2.2.2.1 (by omega)
          obtain ⟨s9, hs9, es⟩ : inR ((ia w 112).getD (7 + x5) 0) 3 := (hI.s (7 + x5) (by omega)).2.2.1 (by omega)
          refine sx_RP.cu (as := [.ref 111, .int (nI x2), .int 0]) (rest2 := [.ref 111]) (st3 := [.int (nI k9), .ref 111]) rfl rfl (sx_inv_v2 (mi := 161) (k := 59) (st := [.int 0, .int (nI x2), .ref 111, .ref 111]) (w := w) rfl rfl hI.1.o111 rfl rfl rfl) rfl rfl (x138e hI (show x2 < 10 by omega) (show 0 < 6 by decide) ek) rfl ?_
          refine sx_RP.step (pc2 := 43) (ls2 := [(0, .ref 111), (1, .int (nI x2)), (2, .int (nI x5)), (3, .int (nI x13))]) (st2 := [.int (nI x5), .int (nI k9), .ref 111]) (w3 := w) rfl rfl ?_
          refine sx_RP.cu (as := [.ref 111, .int (nI k9), .int (nI x5)]) (rest2 := []) (st3 := [.int (ldV k9 s9)]) rfl rfl (sx_inv_v2 (mi := 161) (k := 130) (st := [.int (nI x5), .int (nI k9), .ref 111]) (w := w) rfl rfl hI.1.o111 rfl rfl rfl) rfl rfl (x162 hI (show x5 < 48 by omega) (show k9 < 6 by omega) (show s9 < 4 by omega) es) rfl ?_
          refine sx_RP.ret (r := (some (.int (ldV k9 s9)))) rfl rfl ?_
          obtain rfl : x13 = 1 := by omega
          exact ⟨by rw [dosA_y (k := k9) (s := s9) en (by omega) c1 (by omega) (by omega) (by omega) ek es, dosV_1], hI⟩
  · refine sx_RP.cu (as := [.ref 111, .int a1]) (rest2 := []) (st3 := [.int 0]) rfl rfl (sx_inv_v2 (mi := 161) (k := 124) (st := [.int a1, .ref 111]) (w := w) rfl rfl hI.1.o111 rfl rfl rfl) rfl rfl (p156n hI en hn c1) rfl ?_
    refine sx_RP.step (pc2 := 24) (ls2 := [(0, .ref 111), (1, .int a1), (2, .int a2), (3, .int a3)]) (st2 := []) (w3 := w) rfl rfl ?_
    refine sx_RP.step (pc2 := 25) (ls2 := [(0, .ref 111), (1, .int a1), (2, .int a2), (3, .int a3)]) (st2 := [.ref 111]) (w3 := w) rfl rfl ?_
    refine sx_RP.step (pc2 := 26) (ls2 := [(0, .ref 111), (1, .int a1), (2, .int a2), (3, .int a3)]) (st2 := [.int 0, .ref 111]) (w3 := w) rfl rfl ?_
    refine sx_RP.callp (as2 := [.ref 111, .int 0]) (rest2 := []) rfl rfl (sx_inv_v2 (mi := 161) (k := 70) (st := [.int 0, .ref 111]) (w := w) rfl rfl hI.1.o111 rfl rfl rfl) rfl rfl rfl (S133_0 hI) (show _ = 29 from rfl) ?_
    rintro r4 w26 ⟨rfl, hI27, hs25⟩
    show sx_RP _ _ _ _ _ [.int (-1000000001)] _ _
    refine sx_RP.ret (r := (some (.int (-1000000001)))) rfl rfl ?_
    exact ⟨by rw [dosA_1 en (fun z => c1 z.1)], hI27⟩
theorem a32 {xs : Option (List Int32)} {d : Nat} {w : List sx_C} {s : ST} (hI : WI w) (hC : CLS w s) (a1 a2 a3 : Int32) : sx_RP xs (d + 7) 32 0 (lv_args 0 [.ref 0, .int a1, .int a2, .int a3]) [] w (fun r w2 => r = some (.int (dosA s.1 a1 a2 a3)) ∧ WI w2 ∧ CLS w2 (s) ∧ ∀ a, 111 ≤ a → w2[a]? = w[a]?) :=
  ((c32 (xs := xs) (d := d) hI hC a1 a2 a3).and (A32 hI s.1 hC.1.1 a1 a2 a3)).mono9 (fun r w2 z => ⟨z.2.1, z.1.2.1, z.1.2.2.1, z.1.2.2.2⟩)
theorem a161 {xs : Option (List Int32)} {d : Nat} {w : List sx_C} {s : ST} (hI : WI w) (hR : REF w s) (hW : WB s.1) (a1 a2 a3 : Int32) : sx_RP xs (d + 7) 161 0 (lv_args 0 [.ref 111, .int a1, .int a2, .int a3]) [] w (fun r w2 => r = some (.int (dosA s.1 a1 a2 a3)) ∧ WI w2 ∧ REF w2 (s) ∧ ∀ a, a < 111 → w2[a]? = w[a]?) := by
  refine ((r161 (xs := xs) (d := d) hI hR a1 a2 a3).and (A161 hI (by rw [hR.1.1]; exact hW) a1 a2 a3)).mono9 (fun r w2 z => ⟨?_, z.1.2.1, z.1.2.2.1, z.1.2.2.2⟩)
  rw [z.2.1, hR.1.1]
end
-- 90.law.lean.txt
section
-- the law: its script, the start of its loop
section SXLAW
variable {ys : List Int32} {d mi pc pc2 : Nat} {ls : sx_L} {r : List Value} {w : List sx_C} {P : Option Value → List sx_C → Prop}
theorem sx_RP.scr {x : Nat} (hi : sx_ins mi pc = some (.iaload, 1)) (hx : x < ys.length) (hl : ys.length ≤ 3072) (hp : pc + 1 = pc2) (kk : sx_RP (some ys) d mi pc2 ls (.int (ys.getD x 0) :: r) w P) : sx_RP (some ys) d mi pc ls (.int (nI x) :: .float 4 :: r) w P :=
  sx_RP.stat (k := 4) hi rfl ⟨sx_in_nI (n := ys.length) hx (by omega), by rw [nI_clamp (by omega)]; rfl⟩ hp kk
end SXLAW
theorem law_le {len i : Nat} (hlen : len ≤ 3072) (hi : i ≤ 3072) (h : ¬ (nI len - 6 < nI i)) : i + 6 ≤ len := by
  by_cases h6 : 6 ≤ len
  · rw [show (6 : Int32) = nI 6 from rfl, nI_sub h6] at h
    have := mt (nI_ltI (a := len - 6) (b := i) (by omega) (by omega)).mpr h
    omega
  · exfalso
    apply h
    have e : (nI len - 6).toInt < 0 := by
      rcases (show len = 0 ∨ len = 1 ∨ len = 2 ∨ len = 3 ∨ len = 4 ∨ len = 5 by omega) with rfl | rfl | rfl | rfl | rfl | rfl <;> decide
    rw [Int32.lt_iff_toInt_lt, nI_toInt (by omega)]
    omega
def inRb (v : Int32) (n : Nat) : Bool := (List.range (n + 1)).any (fun j => decide (v = nI j))
theorem inRb_ok {v : Int32} {n : Nat} (h : inRb v n = true) : inR v n := by
  unfold inRb at h
  obtain ⟨j, hj, e⟩ := List.any_eq_true.mp h
  exact ⟨j, by have := List.mem_range.mp hj; omega, of_decide_eq_true e⟩
def impb (p : Prop) [Decidable p] (b : Bool) : Bool := !(decide p) || b
theorem impb_ok {p : Prop} [Decidable p] {b : Bool} (h : impb p b = true) (hp : p) : b = true := by
  unfold impb at h
  rw [decide_eq_true hp] at h
  exact h
def eOKb (k : Nat) (v : Int32) : Bool :=
  impb (k = 1) (inRb v 10) && (impb (k = 2) (inRb v 9) && (impb (7 ≤ k ∧ k < 55) (inRb v 3) && (impb (103 ≤ k ∧ k < 163 ∧ (k - 103) % 6 = 0) (inRb v 5) && (impb (103 ≤ k ∧ k < 163 ∧ (k - 103) % 6 = 1) (inRb v 1) && (impb (103 ≤ k ∧ k < 163 ∧ (k - 103) % 6 = 2) (inRb v 47) && (impb (103 ≤ k ∧ k < 163 ∧ (k - 103) % 6 = 3) (inRb v 3) && (impb (103 ≤ k ∧ k < 163 ∧ (k - 103) % 6 = 5) (inRb v 1) && impb (163 ≤ k) (inRb v 47))))))))
theorem eOKb_ok {k : Nat} {v : Int32} (h : eOKb k v = true) : eOK k v := by
  unfold eOKb at h
  simp only [Bool.and_eq_true] at h
  obtain ⟨h1, h2, h3, h4, h5, h6, h7, h8, h9⟩ := h
  exact ⟨fun z => inRb_ok (impb_ok h1 z), fun z => inRb_ok (impb_ok h2 z), fun z => inRb_ok (impb_ok h3 z), fun z => inRb_ok (impb_ok h4 z), fun z => inRb_ok (impb_ok h5 z), fun z => inRb_ok (impb_ok h6 z), fun z => inRb_ok (impb_ok h7 z), fun z => inRb_ok (impb_ok h8 z), fun z => inRb_ok (impb_ok h9 z)⟩
def allb (n : Nat) (f : Nat → Bool) : Bool := (List.range n).all f
theorem allb_ok {n : Nat} {f : Nat → Bool} (h : allb n f = true) {k : Nat} (hk : k < n) : f k = true := List.all_eq_true.mp h k (List.mem_range.mpr hk)
def cOKb (a : Nat) (c : sx_C) : Bool :=
  impb ((5 ≤ a ∧ a < 15) ∨ (19 ≤ a ∧ a < 29) ∨ (33 ≤ a ∧ a < 44)) (inRb (vi (cf c)[0]?) 5 && (inRb (vi (cf c)[1]?) 1 && (inRb (vi (cf c)[2]?) 47 && (inRb (vi (cf c)[3]?) 3 && inRb (vi (cf c)[5]?) 1)))) && (impb (a = 1 ∨ a = 15 ∨ a = 29) (inRb (vi (cf c)[3]?) 10 && inRb (vi (cf c)[5]?) 9) && (impb (a = 2 ∨ a = 16 ∨ a = 30) (allb 48 (fun k => inRb ((cI c).getD k 0) 3)) && (impb (a = 4 ∨ a = 18 ∨ a = 32) (allb 9 (fun k => inRb ((cI c).getD k 0) 47)) && (impb (a = 0) (inRb (vi (cf c)[3]?) 1) && (impb (a = 96) (inRb (vi (cf c)[1]?) 120 && (inRb (vi (cf c)[3]?) 120 && inRb (vi (cf c)[4]?) 120)) && (impb (a = 103 ∨ a = 105 ∨ a = 107 ∨ a = 109) (inRb (vi (cf c)[2]?) 40) && (impb (a = 111) (inRb (vi (cf c)[4]?) 1 && (inRb (vi (cf c)[11]?) 120 && inRb (vi (cf c)[12]?) 120)) && (impb (a = 112 ∨ a = 113 ∨ a = 114 ∨ a = 115) (allb 172 (fun k => eOKb k ((cI c).getD k 0))) && impb (a = 123) (allb 4 (fun k => inRb ((cI c).getD k 0) 40))))))))))
theorem cOKb_ok {a : Nat} {c : sx_C} (h : cOKb a c = true) : cOK a c := by
  unfold cOKb at h
  simp only [Bool.and_eq_true] at h
  obtain ⟨h1, h2, h3, h4, h5, h6, h7, h8, h9, h10⟩ := h
  refine ⟨fun z => ?_, fun z => ?_, fun z k hk => inRb_ok (allb_ok (impb_ok h3 z) hk), fun z k hk => inRb_ok (allb_ok (impb_ok h4 z) hk), fun z => inRb_ok (impb_ok h5 z), fun z => ?_, fun z => inRb_ok (impb_ok h7 z), fun z => ?_, fun z k hk => eOKb_ok (allb_ok (impb_ok h9 z) hk), fun z k hk => inRb_ok (allb_ok (impb_ok h10 z) hk)⟩
  · have := impb_ok h1 z
    simp only [Bool.and_eq_true] at this
    exact ⟨inRb_ok this.1, inRb_ok this.2.1, inRb_ok this.2.2.1, inRb_ok this.2.2.2.1, inRb_ok this.2.2.2.2⟩
  · have := impb_ok h2 z
    simp only [Bool.and_eq_true] at this
    exact ⟨inRb_ok this.1, inRb_ok this.2⟩
  · have := impb_ok h6 z
    simp only [Bool.and_eq_true] at this
    exact ⟨inRb_ok this.1, inRb_ok this.2.1, inRb_ok this.2.2⟩
  · have := impb_ok h8 z
    simp only [Bool.and_eq_true] at this
    exact ⟨inRb_ok this.1, inRb_ok this.2.1, inRb_ok this.2.2⟩
theorem w0_ok : allb 126 (fun a => match (sx_w0[a]? : Option sx_C) with
  | some c => cOKb a c
  | none => true) = true := by decide +kernel
theorem w0_WI : WI sx_w0 := by
  refine ⟨rfl, ?_⟩
  intro a c hc
  have ha : a < 126 := by
    have := (List.getElem?_eq_some_iff.mp hc).1
    rw [sx_w0_len] at this
    exact this
  have h := allb_ok w0_ok ha
  rw [hc] at h
  exact cOKb_ok h
theorem fi_eqw {w w2 : List sx_C} {a : Nat} (k : Nat) (h : w2[a]? = w[a]?) : fi w2 a k = fi w a k := by
  unfold fi fs_
  rw [h]
/-- the law's line -/
def LI (w : List sx_C) : Prop := ∃ s : ST, CLS w s ∧ REF w s ∧ bOK w
theorem r139 {xs : Option (List Int32)} {d : Nat} {w : List sx_C} {s : ST} (hI : WI w) (hR : REF w s) : sx_RP xs (d + 7) 139 0 (lv_args 0 [.ref 111]) [] w (fun r w2 => (∃ v : Int64, r = some (.long v)) ∧ WI w2 ∧ REF w2 s ∧ ∀ a, a < 111 → w2[a]? = w[a]?) := by
  obtain ⟨v, h⟩ := p139 (xs := xs) (d := d) hI
  exact ⟨_, _, h, ⟨v, rfl⟩, hI, hR, fun _ _ => rfl⟩
end
-- 91a.cases.lean.txt
section
-- the law's cases
set_option maxRecDepth 20000 in
set_option maxHeartbeats 4000000 in
theorem lc0 {ys : List Int32} {i : Nat} {w : List sx_C} {P : Option Value → List sx_C → Prop} (hl : ys.length ≤ 3072) (hn : i + 6 ≤ ys.length) (hI : WI w) (hL : LI w) (kk : ∀ w2, WI w2 → LI w2 → sx_RP (some ys) 9 246 1539 [(3, .int (nI i)), (2, .ref 111), (1, .ref 0), (0, .float 4)] [] w2 P) : sx_RP (some ys) 9 246 228 [(3, .int (nI i)), (2, .ref 111), (1, .ref 0), (0, .float 4)] [] w P := by
  obtain ⟨s, hC, hR, hb⟩ := hL
  refine sx_RP.step (pc2 := 229) (ls2 := [(3, .int (nI i)), (2, .ref 111), (1, .ref 0), (0, .float 4)]) (st2 := [.ref 0]) (w3 := w) rfl rfl ?_
  refine sx_RP.step (pc2 := 230) (ls2 := [(3, .int (nI i)), (2, .ref 111), (1, .ref 0), (0, .float 4)]) (st2 := [.float 4, .ref 0]) (w3 := w) rfl rfl ?_
  refine sx_RP.step (pc2 := 231) (ls2 := [(3, .int (nI i)), (2, .ref 111), (1, .ref 0), (0, .float 4)]) (st2 := [.int (nI i), .float 4, .ref 0]) (w3 := w) rfl rfl ?_
  refine sx_RP.step (pc2 := 232) (ls2 := [(3, .int (nI i)), (2, .ref 111), (1, .ref 0), (0, .float 4)]) (st2 := [.int 1, .int (nI i), .float 4, .ref 0]) (w3 := w) rfl rfl ?_
  refine sx_RP.step (pc2 := 233) (ls2 := [(3, .int (nI i)), (2, .ref 111), (1, .ref 0), (0, .float 4)]) (st2 := [.int ((nI i) + 1), .float 4, .ref 0]) (w3 := w) rfl rfl ?_
  rw [show ((nI i) + 1 : Int32) = nI (i + 1) from nI_add i 1]
  refine sx_RP.scr (x := (i + 1)) rfl (by omega) hl (show _ = 234 from rfl) ?_
  refine sx_RP.step (pc2 := 235) (ls2 := [(3, .int (nI i)), (2, .ref 111), (1, .ref 0), (0, .float 4)]) (st2 := [.float 4, .int (ys.getD ((i + 1)) 0), .ref 0]) (w3 := w) rfl rfl ?_
  refine sx_RP.step (pc2 := 236) (ls2 := [(3, .int (nI i)), (2, .ref 111), (1, .ref 0), (0, .float 4)]) (st2 := [.int (nI i), .float 4, .int (ys.getD ((i + 1)) 0), .ref 0]) (w3 := w) rfl rfl ?_
  refine sx_RP.step (pc2 := 237) (ls2 := [(3, .int (nI i)), (2, .ref 111), (1, .ref 0), (0, .float 4)]) (st2 := [.int 2, .int (nI i), .float 4, .int (ys.getD ((i + 1)) 0), .ref 0]) (w3 := w) rfl rfl ?_
  refine sx_RP.step (pc2 := 238) (ls2 := [(3, .int (nI i)), (2, .ref 111), (1, .ref 0), (0, .float 4)]) (st2 := [.int ((nI i) + 2), .float 4, .int (ys.getD ((i + 1)) 0), .ref 0]) (w3 := w) rfl rfl ?_
  rw [show ((nI i) + 2 : Int32) = nI (i + 2) from nI_add i 2]
  refine sx_RP.scr (x := (i + 2)) rfl (by omega) hl (show _ = 239 from rfl) ?_
  refine sx_RP.callp (as2 := [.ref 0, .int (ys.getD ((i + 1)) 0), .int (ys.getD ((i + 2)) 0)]) (rest2 := []) rfl rfl (sx_inv_v2 (mi := 246) (k := 13) (st := [.int (ys.getD ((i + 2)) 0), .int (ys.getD ((i + 1)) 0), .ref 0]) (w := w) rfl rfl hI.1.o0 rfl rfl rfl) rfl rfl rfl (sx_RP.byk (c6 (d := 1) hI hC (ys.getD ((i + 1)) 0) (ys.getD ((i + 2)) 0))) (show _ = 242 from rfl) ?_
  rintro r4 w1 ⟨⟨rfl, hI2, ⟨hC3, hi4⟩⟩, hbk5⟩
  have hR6 := hR.hi hi4
  have hb7 := hbk5 hb
  show sx_RP _ _ _ _ _ [.int (gndA s.1 (ys.getD ((i + 1)) 0) (ys.getD ((i + 2)) 0))] _ _
  refine sx_RP.step (pc2 := 243) (ls2 := [(3, .int (nI i)), (2, .ref 111), (1, .ref 0), (0, .float 4)]) (st2 := []) (w3 := w1) rfl rfl ?_
  refine sx_RP.step (pc2 := 244) (ls2 := [(3, .int (nI i)), (2, .ref 111), (1, .ref 0), (0, .float 4)]) (st2 := [.ref 111]) (w3 := w1) rfl rfl ?_
  refine sx_RP.step (pc2 := 245) (ls2 := [(3, .int (nI i)), (2, .ref 111), (1, .ref 0), (0, .float 4)]) (st2 := [.float 4, .ref 111]) (w3 := w1) rfl rfl ?_
  refine sx_RP.step (pc2 := 246) (ls2 := [(3, .int (nI i)), (2, .ref 111), (1, .ref 0), (0, .float 4)]) (st2 := [.int (nI i), .float 4, .ref 111]) (w3 := w1) rfl rfl ?_
  refine sx_RP.step (pc2 := 247) (ls2 := [(3, .int (nI i)), (2, .ref 111), (1, .ref 0), (0, .float 4)]) (st2 := [.int 1, .int (nI i), .float 4, .ref 111]) (w3 := w1) rfl rfl ?_
  refine sx_RP.step (pc2 := 248) (ls2 := [(3, .int (nI i)), (2, .ref 111), (1, .ref 0), (0, .float 4)]) (st2 := [.int ((nI i) + 1), .float 4, .ref 111]) (w3 := w1) rfl rfl ?_
  rw [show ((nI i) + 1 : Int32) = nI (i + 1) from nI_add i 1]
  refine sx_RP.scr (x := (i + 1)) rfl (by omega) hl (show _ = 249 from rfl) ?_
  refine sx_RP.step (pc2 := 250) (ls2 := [(3, .int (nI i)), (2, .ref 111), (1, .ref 0), (0, .float 4)]) (st2 := [.float 4, .int (ys.getD ((i + 1)) 0), .ref 111]) (w3 := w1) rfl rfl ?_
  refine sx_RP.step (pc2 := 251) (ls2 := [(3, .int (nI i)), (2, .ref 111), (1, .ref 0), (0, .float 4)]) (st2 := [.int (nI i), .float 4, .int (ys.getD ((i + 1)) 0), .ref 111]) (w3 := w1) rfl rfl ?_
  refine sx_RP.step (pc2 := 252) (ls2 := [(3, .int (nI i)), (2, .ref 111), (1, .ref 0), (0, .float 4)]) (st2 := [.int 2, .int (nI i), .float 4, .int (ys.getD ((i + 1)) 0), .ref 111]) (w3 := w1) rfl rfl ?_
  refine sx_RP.step (pc2 := 253) (ls2 := [(3, .int (nI i)), (2, .ref 111), (1, .ref 0), (0, .float 4)]) (st2 := [.int ((nI i) + 2), .float 4, .int (ys.getD ((i + 1)) 0), .ref 111]) (w3 := w1) rfl rfl ?_
  rw [show ((nI i) + 2 : Int32) = nI (i + 2) from nI_add i 2]
  refine sx_RP.scr (x := (i + 2)) rfl (by omega) hl (show _ = 254 from rfl) ?_
  refine sx_RP.callp (as2 := [.ref 111, .int (ys.getD ((i + 1)) 0), .int (ys.getD ((i + 2)) 0)]) (rest2 := []) rfl rfl (sx_inv_v2 (mi := 246) (k := 17) (st := [.int (ys.getD ((i + 2)) 0), .int (ys.getD ((i + 1)) 0), .ref 111]) (w := w1) rfl rfl hI2.1.o111 rfl rfl rfl) rfl rfl rfl (sx_RP.byk (r130 (d := 1) hI2 hR6 (ys.getD ((i + 1)) 0) (ys.getD ((i + 2)) 0))) (show _ = 257 from rfl) ?_
  rintro r4 w8 ⟨⟨rfl, hI9, ⟨hR10, lo11⟩⟩, hbk12⟩
  have hL13 : LI w8 := ⟨_, hC3.lo hI2 lo11, hR10, hbk12 hb7⟩
  show sx_RP _ _ _ _ _ [.int (gndA s.1 (ys.getD ((i + 1)) 0) (ys.getD ((i + 2)) 0))] _ _
  refine sx_RP.step (pc2 := 258) (ls2 := [(3, .int (nI i)), (2, .ref 111), (1, .ref 0), (0, .float 4)]) (st2 := []) (w3 := w8) rfl rfl ?_
  refine sx_RP.step (pc2 := 1539) (ls2 := [(3, .int (nI i)), (2, .ref 111), (1, .ref 0), (0, .float 4)]) (st2 := []) (w3 := w8) rfl rfl ?_
  exact kk w8 hI9 hL13
set_option maxRecDepth 20000 in
set_option maxHeartbeats 4000000 in
theorem lc1 {ys : List Int32} {i : Nat} {w : List sx_C} {P : Option Value → List sx_C → Prop} (hl : ys.length ≤ 3072) (hn : i + 6 ≤ ys.length) (hI : WI w) (hL : LI w) (kk : ∀ w2, WI w2 → LI w2 → sx_RP (some ys) 9 246 1539 [(3, .int (nI i)), (2, .ref 111), (1, .ref 0), (0, .float 4)] [] w2 P) : sx_RP (some ys) 9 246 261 [(3, .int (nI i)), (2, .ref 111), (1, .ref 0), (0, .float 4)] [] w P := by
  obtain ⟨s, hC, hR, hb⟩ := hL
  refine sx_RP.step (pc2 := 262) (ls2 := [(3, .int (nI i)), (2, .ref 111), (1, .ref 0), (0, .float 4)]) (st2 := [.ref 0]) (w3 := w) rfl rfl ?_
  refine sx_RP.step (pc2 := 263) (ls2 := [(3, .int (nI i)), (2, .ref 111), (1, .ref 0), (0, .float 4)]) (st2 := [.float 4, .ref 0]) (w3 := w) rfl rfl ?_
  refine sx_RP.step (pc2 := 264) (ls2 := [(3, .int (nI i)), (2, .ref 111), (1, .ref 0), (0, .float 4)]) (st2 := [.int (nI i), .float 4, .ref 0]) (w3 := w) rfl rfl ?_
  refine sx_RP.step (pc2 := 265) (ls2 := [(3, .int (nI i)), (2, .ref 111), (1, .ref 0), (0, .float 4)]) (st2 := [.int 1, .int (nI i), .float 4, .ref 0]) (w3 := w) rfl rfl ?_
  refine sx_RP.step (pc2 := 266) (ls2 := [(3, .int (nI i)), (2, .ref 111), (1, .ref 0), (0, .float 4)]) (st2 := [.int ((nI i) + 1), .float 4, .ref 0]) (w3 := w) rfl rfl ?_
  rw [show ((nI i) + 1 : Int32) = nI (i + 1) from nI_add i 1]
  refine sx_RP.scr (x := (i + 1)) rfl (by omega) hl (show _ = 267 from rfl) ?_
  refine sx_RP.step (pc2 := 268) (ls2 := [(3, .int (nI i)), (2, .ref 111), (1, .ref 0), (0, .float 4)]) (st2 := [.float 4, .int (ys.getD ((i + 1)) 0), .ref 0]) (w3 := w) rfl rfl ?_
  refine sx_RP.step (pc2 := 269) (ls2 := [(3, .int (nI i)), (2, .ref 111), (1, .ref 0), (0, .float 4)]) (st2 := [.int (nI i), .float 4, .int (ys.getD ((i + 1)) 0), .ref 0]) (w3 := w) rfl rfl ?_
  refine sx_RP.step (pc2 := 270) (ls2 := [(3, .int (nI i)), (2, .ref 111), (1, .ref 0), (0, .float 4)]) (st2 := [.int 2, .int (nI i), .float 4, .int (ys.getD ((i + 1)) 0), .ref 0]) (w3 := w) rfl rfl ?_
  refine sx_RP.step (pc2 := 271) (ls2 := [(3, .int (nI i)), (2, .ref 111), (1, .ref 0), (0, .float 4)]) (st2 := [.int ((nI i) + 2), .float 4, .int (ys.getD ((i + 1)) 0), .ref 0]) (w3 := w) rfl rfl ?_
  rw [show ((nI i) + 2 : Int32) = nI (i + 2) from nI_add i 2]
  refine sx_RP.scr (x := (i + 2)) rfl (by omega) hl (show _ = 272 from rfl) ?_
  refine sx_RP.br (p1 := 279) (l1 := [(3, .int (nI i)), (2, .ref 111), (1, .ref 0), (0, .float 4)]) (s1 := [.int (ys.getD ((i + 1)) 0), .ref 0]) (v1 := w) (p2 := 275) (l2 := [(3, .int (nI i)), (2, .ref 111), (1, .ref 0), (0, .float 4)]) (s2 := [.int (ys.getD ((i + 1)) 0), .ref 0]) (v2 := w) rfl rfl (fun q1 => ?_) (fun q1 => ?_)
  · replace q1 := of_decide_eq_true q1
    refine sx_RP.step (pc2 := 280) (ls2 := [(3, .int (nI i)), (2, .ref 111), (1, .ref 0), (0, .float 4)]) (st2 := [.int 0, .int (ys.getD ((i + 1)) 0), .ref 0]) (w3 := w) rfl rfl ?_
    refine sx_RP.callp (as2 := [.ref 0, .int (ys.getD ((i + 1)) 0), .int 0]) (rest2 := []) rfl rfl (sx_inv_v2 (mi := 246) (k := 18) (st := [.int 0, .int (ys.getD ((i + 1)) 0), .ref 0]) (w := w) rfl rfl hI.1.o0 rfl rfl rfl) rfl rfl rfl (sx_RP.byk (c10_0 (d := 1) hI hC (ys.getD ((i + 1)) 0))) (show _ = 283 from rfl) ?_
    rintro r4 w2 ⟨⟨rfl, hI3, ⟨hC4, hi5⟩⟩, hbk6⟩
    have hR7 := hR.hi hi5
    have hb8 := hbk6 hb
    show sx_RP _ _ _ _ _ [.int (walA s.1 (ys.getD ((i + 1)) 0) 0)] _ _
    refine sx_RP.step (pc2 := 284) (ls2 := [(3, .int (nI i)), (2, .ref 111), (1, .ref 0), (0, .float 4)]) (st2 := []) (w3 := w2) rfl rfl ?_
    refine sx_RP.step (pc2 := 285) (ls2 := [(3, .int (nI i)), (2, .ref 111), (1, .ref 0), (0, .float 4)]) (st2 := [.ref 111]) (w3 := w2) rfl rfl ?_
    refine sx_RP.step (pc2 := 286) (ls2 := [(3, .int (nI i)), (2, .ref 111), (1, .ref 0), (0, .float 4)]) (st2 := [.float 4, .ref 111]) (w3 := w2) rfl rfl ?_
    refine sx_RP.step (pc2 := 287) (ls2 := [(3, .int (nI i)), (2, .ref 111), (1, .ref 0), (0, .float 4)]) (st2 := [.int (nI i), .float 4, .ref 111]) (w3 := w2) rfl rfl ?_
    refine sx_RP.step (pc2 := 288) (ls2 := [(3, .int (nI i)), (2, .ref 111), (1, .ref 0), (0, .float 4)]) (st2 := [.int 1, .int (nI i), .float 4, .ref 111]) (w3 := w2) rfl rfl ?_
    refine sx_RP.step (pc2 := 289) (ls2 := [(3, .int (nI i)), (2, .ref 111), (1, .ref 0), (0, .float 4)]) (st2 := [.int ((nI i) + 1), .float 4, .ref 111]) (w3 := w2) rfl rfl ?_
    rw [show ((nI i) + 1 : Int32) = nI (i + 1) from nI_add i 1]
    refine sx_RP.scr (x := (i + 1)) rfl (by omega) hl (show _ = 290 from rfl) ?_
    refine sx_RP.step (pc2 := 291) (ls2 := [(3, .int (nI i)), (2, .ref 111), (1, .ref 0), (0, .float 4)]) (st2 := [.float 4, .int (ys.getD ((i + 1)) 0), .ref 111]) (w3 := w2) rfl rfl ?_
    refine sx_RP.step (pc2 := 292) (ls2 := [(3, .int (nI i)), (2, .ref 111), (1, .ref 0), (0, .float 4)]) (st2 := [.int (nI i), .float 4, .int (ys.getD ((i + 1)) 0), .ref 111]) (w3 := w2) rfl rfl ?_
    refine sx_RP.step (pc2 := 293) (ls2 := [(3, .int (nI i)), (2, .ref 111), (1, .ref 0), (0, .float 4)]) (st2 := [.int 2, .int (nI i), .float 4, .int (ys.getD ((i + 1)) 0), .ref 111]) (w3 := w2) rfl rfl ?_
    refine sx_RP.step (pc2 := 294) (ls2 := [(3, .int (nI i)), (2, .ref 111), (1, .ref 0), (0, .float 4)]) (st2 := [.int ((nI i) + 2), .float 4, .int (ys.getD ((i + 1)) 0), .ref 111]) (w3 := w2) rfl rfl ?_
    rw [show ((nI i) + 2 : Int32) = nI (i + 2) from nI_add i 2]
    refine sx_RP.scr (x := (i + 2)) rfl (by omega) hl (show _ = 295 from rfl) ?_
    refine sx_RP.br (p1 := 302) (l1 := [(3, .int (nI i)), (2, .ref 111), (1, .ref 0), (0, .float 4)]) (s1 := [.int (ys.getD ((i + 1)) 0), .ref 111]) (v1 := w2) rfl rfl (fun _ => ?_) (fun q => absurd q1 (of_decide_eq_false q))
    refine sx_RP.step (pc2 := 303) (ls2 := [(3, .int (nI i)), (2, .ref 111), (1, .ref 0), (0, .float 4)]) (st2 := [.int 0, .int (ys.getD ((i + 1)) 0), .ref 111]) (w3 := w2) rfl rfl ?_
    refine sx_RP.callp (as2 := [.ref 111, .int (ys.getD ((i + 1)) 0), .int 0]) (rest2 := []) rfl rfl (sx_inv_v2 (mi := 246) (k := 22) (st := [.int 0, .int (ys.getD ((i + 1)) 0), .ref 111]) (w := w2) rfl rfl hI3.1.o111 rfl rfl rfl) rfl rfl rfl (sx_RP.byk (r134_0 (d := 1) hI3 hR7 (ys.getD ((i + 1)) 0))) (show _ = 306 from rfl) ?_
    rintro r4 w9 ⟨⟨rfl, hI10, ⟨hR11, lo12⟩⟩, hbk13⟩
    have hL14 : LI w9 := ⟨_, hC4.lo hI3 lo12, hR11, hbk13 hb8⟩
    show sx_RP _ _ _ _ _ [.int (walA s.1 (ys.getD ((i + 1)) 0) 0)] _ _
    refine sx_RP.step (pc2 := 307) (ls2 := [(3, .int (nI i)), (2, .ref 111), (1, .ref 0), (0, .float 4)]) (st2 := []) (w3 := w9) rfl rfl ?_
    refine sx_RP.step (pc2 := 1539) (ls2 := [(3, .int (nI i)), (2, .ref 111), (1, .ref 0), (0, .float 4)]) (st2 := []) (w3 := w9) rfl rfl ?_
    exact kk w9 hI10 hL14
  · replace q1 := of_decide_eq_false q1
    refine sx_RP.step (pc2 := 276) (ls2 := [(3, .int (nI i)), (2, .ref 111), (1, .ref 0), (0, .float 4)]) (st2 := [.int 1, .int (ys.getD ((i + 1)) 0), .ref 0]) (w3 := w) rfl rfl ?_
    refine sx_RP.step (pc2 := 280) (ls2 := [(3, .int (nI i)), (2, .ref 111), (1, .ref 0), (0, .float 4)]) (st2 := [.int 1, .int (ys.getD ((i + 1)) 0), .ref 0]) (w3 := w) rfl rfl ?_
    refine sx_RP.callp (as2 := [.ref 0, .int (ys.getD ((i + 1)) 0), .int 1]) (rest2 := []) rfl rfl (sx_inv_v2 (mi := 246) (k := 18) (st := [.int 1, .int (ys.getD ((i + 1)) 0), .ref 0]) (w := w) rfl rfl hI.1.o0 rfl rfl rfl) rfl rfl rfl (sx_RP.byk (c10_1 (d := 1) hI hC (ys.getD ((i + 1)) 0))) (show _ = 283 from rfl) ?_
    rintro r4 w15 ⟨⟨rfl, hI16, ⟨hC17, hi18⟩⟩, hbk19⟩
    have hR20 := hR.hi hi18
    have hb21 := hbk19 hb
    show sx_RP _ _ _ _ _ [.int (walA s.1 (ys.getD ((i + 1)) 0) 1)] _ _
    refine sx_RP.step (pc2 := 284) (ls2 := [(3, .int (nI i)), (2, .ref 111), (1, .ref 0), (0, .float 4)]) (st2 := []) (w3 := w15) rfl rfl ?_
    refine sx_RP.step (pc2 := 285) (ls2 := [(3, .int (nI i)), (2, .ref 111), (1, .ref 0), (0, .float 4)]) (st2 := [.ref 111]) (w3 := w15) rfl rfl ?_
    refine sx_RP.step (pc2 := 286) (ls2 := [(3, .int (nI i)), (2, .ref 111), (1, .ref 0), (0, .float 4)]) (st2 := [.float 4, .ref 111]) (w3 := w15) rfl rfl ?_
    refine sx_RP.step (pc2 := 287) (ls2 := [(3, .int (nI i)), (2, .ref 111), (1, .ref 0), (0, .float 4)]) (st2 := [.int (nI i), .float 4, .ref 111]) (w3 := w15) rfl rfl ?_
    refine sx_RP.step (pc2 := 288) (ls2 := [(3, .int (nI i)), (2, .ref 111), (1, .ref 0), (0, .float 4)]) (st2 := [.int 1, .int (nI i), .float 4, .ref 111]) (w3 := w15) rfl rfl ?_
    refine sx_RP.step (pc2 := 289) (ls2 := [(3, .int (nI i)), (2, .ref 111), (1, .ref 0), (0, .float 4)]) (st2 := [.int ((nI i) + 1), .float 4, .ref 111]) (w3 := w15) rfl rfl ?_
    rw [show ((nI i) + 1 : Int32) = nI (i + 1) from nI_add i 1]
    refine sx_RP.scr (x := (i + 1)) rfl (by omega) hl (show _ = 290 from rfl) ?_
    refine sx_RP.step (pc2 := 291) (ls2 := [(3, .int (nI i)), (2, .ref 111), (1, .ref 0), (0, .float 4)]) (st2 := [.float 4, .int (ys.getD ((i + 1)) 0), .ref 111]) (w3 := w15) rfl rfl ?_
    refine sx_RP.step (pc2 := 292) (ls2 := [(3, .int (nI i)), (2, .ref 111), (1, .ref 0), (0, .float 4)]) (st2 := [.int (nI i), .float 4, .int (ys.getD ((i + 1)) 0), .ref 111]) (w3 := w15) rfl rfl ?_
    refine sx_RP.step (pc2 := 293) (ls2 := [(3, .int (nI i)), (2, .ref 111), (1, .ref 0), (0, .float 4)]) (st2 := [.int 2, .int (nI i), .float 4, .int (ys.getD ((i + 1)) 0), .ref 111]) (w3 := w15) rfl rfl ?_
    refine sx_RP.step (pc2 := 294) (ls2 := [(3, .int (nI i)), (2, .ref 111), (1, .ref 0), (0, .float 4)]) (st2 := [.int ((nI i) + 2), .float 4, .int (ys.getD ((i + 1)) 0), .ref 111]) (w3 := w15) rfl rfl ?_
    rw [show ((nI i) + 2 : Int32) = nI (i + 2) from nI_add i 2]
    refine sx_RP.scr (x := (i + 2)) rfl (by omega) hl (show _ = 295 from rfl) ?_
    refine sx_RP.br (p2 := 298) (l2 := [(3, .int (nI i)), (2, .ref 111), (1, .ref 0), (0, .float 4)]) (s2 := [.int (ys.getD ((i + 1)) 0), .ref 111]) (v2 := w15) rfl rfl (fun q => absurd (of_decide_eq_true q) q1) (fun _ => ?_)
    refine sx_RP.step (pc2 := 299) (ls2 := [(3, .int (nI i)), (2, .ref 111), (1, .ref 0), (0, .float 4)]) (st2 := [.int 1, .int (ys.getD ((i + 1)) 0), .ref 111]) (w3 := w15) rfl rfl ?_
    refine sx_RP.step (pc2 := 303) (ls2 := [(3, .int (nI i)), (2, .ref 111), (1, .ref 0), (0, .float 4)]) (st2 := [.int 1, .int (ys.getD ((i + 1)) 0), .ref 111]) (w3 := w15) rfl rfl ?_
    refine sx_RP.callp (as2 := [.ref 111, .int (ys.getD ((i + 1)) 0), .int 1]) (rest2 := []) rfl rfl (sx_inv_v2 (mi := 246) (k := 22) (st := [.int 1, .int (ys.getD ((i + 1)) 0), .ref 111]) (w := w15) rfl rfl hI16.1.o111 rfl rfl rfl) rfl rfl rfl (sx_RP.byk (r134_1 (d := 1) hI16 hR20 (ys.getD ((i + 1)) 0))) (show _ = 306 from rfl) ?_
    rintro r4 w22 ⟨⟨rfl, hI23, ⟨hR24, lo25⟩⟩, hbk26⟩
    have hL27 : LI w22 := ⟨_, hC17.lo hI16 lo25, hR24, hbk26 hb21⟩
    show sx_RP _ _ _ _ _ [.int (walA s.1 (ys.getD ((i + 1)) 0) 1)] _ _
    refine sx_RP.step (pc2 := 307) (ls2 := [(3, .int (nI i)), (2, .ref 111), (1, .ref 0), (0, .float 4)]) (st2 := []) (w3 := w22) rfl rfl ?_
    refine sx_RP.step (pc2 := 1539) (ls2 := [(3, .int (nI i)), (2, .ref 111), (1, .ref 0), (0, .float 4)]) (st2 := []) (w3 := w22) rfl rfl ?_
    exact kk w22 hI23 hL27
set_option maxRecDepth 20000 in
set_option maxHeartbeats 4000000 in
theorem lc2 {ys : List Int32} {i : Nat} {w : List sx_C} {P : Option Value → List sx_C → Prop} (hl : ys.length ≤ 3072) (hn : i + 6 ≤ ys.length) (hI : WI w) (hL : LI w) (kk : ∀ w2, WI w2 → LI w2 → sx_RP (some ys) 9 246 1539 [(3, .int (nI i)), (2, .ref 111), (1, .ref 0), (0, .float 4)] [] w2 P) : sx_RP (some ys) 9 246 310 [(3, .int (nI i)), (2, .ref 111), (1, .ref 0), (0, .float 4)] [] w P := by
  obtain ⟨s, hC, hR, hb⟩ := hL
  refine sx_RP.step (pc2 := 311) (ls2 := [(3, .int (nI i)), (2, .ref 111), (1, .ref 0), (0, .float 4)]) (st2 := [.ref 0]) (w3 := w) rfl rfl ?_
  refine sx_RP.step (pc2 := 312) (ls2 := [(3, .int (nI i)), (2, .ref 111), (1, .ref 0), (0, .float 4)]) (st2 := [.float 4, .ref 0]) (w3 := w) rfl rfl ?_
  refine sx_RP.step (pc2 := 313) (ls2 := [(3, .int (nI i)), (2, .ref 111), (1, .ref 0), (0, .float 4)]) (st2 := [.int (nI i), .float 4, .ref 0]) (w3 := w) rfl rfl ?_
  refine sx_RP.step (pc2 := 314) (ls2 := [(3, .int (nI i)), (2, .ref 111), (1, .ref 0), (0, .float 4)]) (st2 := [.int 1, .int (nI i), .float 4, .ref 0]) (w3 := w) rfl rfl ?_
  refine sx_RP.step (pc2 := 315) (ls2 := [(3, .int (nI i)), (2, .ref 111), (1, .ref 0), (0, .float 4)]) (st2 := [.int ((nI i) + 1), .float 4, .ref 0]) (w3 := w) rfl rfl ?_
  rw [show ((nI i) + 1 : Int32) = nI (i + 1) from nI_add i 1]
  refine sx_RP.scr (x := (i + 1)) rfl (by omega) hl (show _ = 316 from rfl) ?_
  refine sx_RP.step (pc2 := 317) (ls2 := [(3, .int (nI i)), (2, .ref 111), (1, .ref 0), (0, .float 4)]) (st2 := [.float 4, .int (ys.getD ((i + 1)) 0), .ref 0]) (w3 := w) rfl rfl ?_
  refine sx_RP.step (pc2 := 318) (ls2 := [(3, .int (nI i)), (2, .ref 111), (1, .ref 0), (0, .float 4)]) (st2 := [.int (nI i), .float 4, .int (ys.getD ((i + 1)) 0), .ref 0]) (w3 := w) rfl rfl ?_
  refine sx_RP.step (pc2 := 319) (ls2 := [(3, .int (nI i)), (2, .ref 111), (1, .ref 0), (0, .float 4)]) (st2 := [.int 2, .int (nI i), .float 4, .int (ys.getD ((i + 1)) 0), .ref 0]) (w3 := w) rfl rfl ?_
  refine sx_RP.step (pc2 := 320) (ls2 := [(3, .int (nI i)), (2, .ref 111), (1, .ref 0), (0, .float 4)]) (st2 := [.int ((nI i) + 2), .float 4, .int (ys.getD ((i + 1)) 0), .ref 0]) (w3 := w) rfl rfl ?_
  rw [show ((nI i) + 2 : Int32) = nI (i + 2) from nI_add i 2]
  refine sx_RP.scr (x := (i + 2)) rfl (by omega) hl (show _ = 321 from rfl) ?_
  refine sx_RP.callp (as2 := [.ref 0, .int (ys.getD ((i + 1)) 0), .int (ys.getD ((i + 2)) 0)]) (rest2 := []) rfl rfl (sx_inv_v2 (mi := 246) (k := 23) (st := [.int (ys.getD ((i + 2)) 0), .int (ys.getD ((i + 1)) 0), .ref 0]) (w := w) rfl rfl hI.1.o0 rfl rfl rfl) rfl rfl rfl (sx_RP.byk (c12 (d := 1) hI hC (ys.getD ((i + 1)) 0) (ys.getD ((i + 2)) 0))) (show _ = 324 from rfl) ?_
  rintro r4 w1 ⟨⟨⟨v3, rfl⟩, hI2, ⟨hC4, hi5⟩⟩, hbk6⟩
  have hR7 := hR.hi hi5
  have hb8 := hbk6 hb
  show sx_RP _ _ _ _ _ [.int v3] _ _
  refine sx_RP.step (pc2 := 325) (ls2 := [(3, .int (nI i)), (2, .ref 111), (1, .ref 0), (0, .float 4)]) (st2 := []) (w3 := w1) rfl rfl ?_
  refine sx_RP.step (pc2 := 326) (ls2 := [(3, .int (nI i)), (2, .ref 111), (1, .ref 0), (0, .float 4)]) (st2 := [.ref 111]) (w3 := w1) rfl rfl ?_
  refine sx_RP.step (pc2 := 327) (ls2 := [(3, .int (nI i)), (2, .ref 111), (1, .ref 0), (0, .float 4)]) (st2 := [.float 4, .ref 111]) (w3 := w1) rfl rfl ?_
  refine sx_RP.step (pc2 := 328) (ls2 := [(3, .int (nI i)), (2, .ref 111), (1, .ref 0), (0, .float 4)]) (st2 := [.int (nI i), .float 4, .ref 111]) (w3 := w1) rfl rfl ?_
  refine sx_RP.step (pc2 := 329) (ls2 := [(3, .int (nI i)), (2, .ref 111), (1, .ref 0), (0, .float 4)]) (st2 := [.int 1, .int (nI i), .float 4, .ref 111]) (w3 := w1) rfl rfl ?_
  refine sx_RP.step (pc2 := 330) (ls2 := [(3, .int (nI i)), (2, .ref 111), (1, .ref 0), (0, .float 4)]) (st2 := [.int ((nI i) + 1), .float 4, .ref 111]) (w3 := w1) rfl rfl ?_
  rw [show ((nI i) + 1 : Int32) = nI (i + 1) from nI_add i 1]
  refine sx_RP.scr (x := (i + 1)) rfl (by omega) hl (show _ = 331 from rfl) ?_
  refine sx_RP.step (pc2 := 332) (ls2 := [(3, .int (nI i)), (2, .ref 111), (1, .ref 0), (0, .float 4)]) (st2 := [.float 4, .int (ys.getD ((i + 1)) 0), .ref 111]) (w3 := w1) rfl rfl ?_
  refine sx_RP.step (pc2 := 333) (ls2 := [(3, .int (nI i)), (2, .ref 111), (1, .ref 0), (0, .float 4)]) (st2 := [.int (nI i), .float 4, .int (ys.getD ((i + 1)) 0), .ref 111]) (w3 := w1) rfl rfl ?_
  refine sx_RP.step (pc2 := 334) (ls2 := [(3, .int (nI i)), (2, .ref 111), (1, .ref 0), (0, .float 4)]) (st2 := [.int 2, .int (nI i), .float 4, .int (ys.getD ((i + 1)) 0), .ref 111]) (w3 := w1) rfl rfl ?_
  refine sx_RP.step (pc2 := 335) (ls2 := [(3, .int (nI i)), (2, .ref 111), (1, .ref 0), (0, .float 4)]) (st2 := [.int ((nI i) + 2), .float 4, .int (ys.getD ((i + 1)) 0), .ref 111]) (w3 := w1) rfl rfl ?_
  rw [show ((nI i) + 2 : Int32) = nI (i + 2) from nI_add i 2]
  refine sx_RP.scr (x := (i + 2)) rfl (by omega) hl (show _ = 336 from rfl) ?_
  refine sx_RP.callp (as2 := [.ref 111, .int (ys.getD ((i + 1)) 0), .int (ys.getD ((i + 2)) 0)]) (rest2 := []) rfl rfl (sx_inv_v2 (mi := 246) (k := 26) (st := [.int (ys.getD ((i + 2)) 0), .int (ys.getD ((i + 1)) 0), .ref 111]) (w := w1) rfl rfl hI2.1.o111 rfl rfl rfl) rfl rfl rfl (sx_RP.byk (r135 (d := 1) hI2 hR7 (ys.getD ((i + 1)) 0) (ys.getD ((i + 2)) 0))) (show _ = 339 from rfl) ?_
  rintro r4 w9 ⟨⟨⟨v11, rfl⟩, hI10, ⟨hR12, lo13⟩⟩, hbk14⟩
  have hL15 : LI w9 := ⟨_, hC4.lo hI2 lo13, hR12, hbk14 hb8⟩
  show sx_RP _ _ _ _ _ [.int v11] _ _
  refine sx_RP.step (pc2 := 340) (ls2 := [(3, .int (nI i)), (2, .ref 111), (1, .ref 0), (0, .float 4)]) (st2 := []) (w3 := w9) rfl rfl ?_
  refine sx_RP.step (pc2 := 1539) (ls2 := [(3, .int (nI i)), (2, .ref 111), (1, .ref 0), (0, .float 4)]) (st2 := []) (w3 := w9) rfl rfl ?_
  exact kk w9 hI10 hL15
set_option maxRecDepth 20000 in
set_option maxHeartbeats 4000000 in
theorem lc3 {ys : List Int32} {i : Nat} {w : List sx_C} {P : Option Value → List sx_C → Prop} (hl : ys.length ≤ 3072) (hn : i + 6 ≤ ys.length) (hI : WI w) (hL : LI w) (kk : ∀ w2, WI w2 → LI w2 → sx_RP (some ys) 9 246 1539 [(3, .int (nI i)), (2, .ref 111), (1, .ref 0), (0, .float 4)] [] w2 P) : sx_RP (some ys) 9 246 343 [(3, .int (nI i)), (2, .ref 111), (1, .ref 0), (0, .float 4)] [] w P := by
  obtain ⟨s, hC, hR, hb⟩ := hL
  refine sx_RP.step (pc2 := 344) (ls2 := [(3, .int (nI i)), (2, .ref 111), (1, .ref 0), (0, .float 4)]) (st2 := [.ref 0]) (w3 := w) rfl rfl ?_
  refine sx_RP.callp (as2 := [.ref 0]) (rest2 := []) rfl rfl (sx_inv_v2 (mi := 246) (k := 27) (st := [.ref 0]) (w := w) rfl rfl hI.1.o0 rfl rfl rfl) rfl rfl rfl (sx_RP.byk (c14 (d := 1) hI hC)) (show _ = 347 from rfl) ?_
  rintro r4 w1 ⟨⟨⟨v3, rfl⟩, hI2, ⟨hC4, hi5⟩⟩, hbk6⟩
  have hR7 := hR.hi hi5
  have hb8 := hbk6 hb
  show sx_RP _ _ _ _ _ [.long v3] _ _
  refine sx_RP.step (pc2 := 348) (ls2 := [(3, .int (nI i)), (2, .ref 111), (1, .ref 0), (0, .float 4)]) (st2 := []) (w3 := w1) rfl rfl ?_
  refine sx_RP.step (pc2 := 349) (ls2 := [(3, .int (nI i)), (2, .ref 111), (1, .ref 0), (0, .float 4)]) (st2 := [.ref 111]) (w3 := w1) rfl rfl ?_
  refine sx_RP.callp (as2 := [.ref 111]) (rest2 := []) rfl rfl (sx_inv_v2 (mi := 246) (k := 31) (st := [.ref 111]) (w := w1) rfl rfl hI2.1.o111 rfl rfl rfl) rfl rfl rfl (sx_RP.byk (r139 (d := 1) hI2 hR7)) (show _ = 352 from rfl) ?_
  rintro r4 w9 ⟨⟨⟨v11, rfl⟩, hI10, ⟨hR12, lo13⟩⟩, hbk14⟩
  have hL15 : LI w9 := ⟨_, hC4.lo hI2 lo13, hR12, hbk14 hb8⟩
  show sx_RP _ _ _ _ _ [.long v11] _ _
  refine sx_RP.step (pc2 := 353) (ls2 := [(3, .int (nI i)), (2, .ref 111), (1, .ref 0), (0, .float 4)]) (st2 := []) (w3 := w9) rfl rfl ?_
  refine sx_RP.step (pc2 := 1539) (ls2 := [(3, .int (nI i)), (2, .ref 111), (1, .ref 0), (0, .float 4)]) (st2 := []) (w3 := w9) rfl rfl ?_
  exact kk w9 hI10 hL15
set_option maxRecDepth 20000 in
set_option maxHeartbeats 4000000 in
theorem lc4 {ys : List Int32} {i : Nat} {w : List sx_C} {P : Option Value → List sx_C → Prop} (hl : ys.length ≤ 3072) (hn : i + 6 ≤ ys.length) (hI : WI w) (hL : LI w) (kk : ∀ w2, WI w2 → LI w2 → sx_RP (some ys) 9 246 1539 [(3, .int (nI i)), (2, .ref 111), (1, .ref 0), (0, .float 4)] [] w2 P) : sx_RP (some ys) 9 246 356 [(3, .int (nI i)), (2, .ref 111), (1, .ref 0), (0, .float 4)] [] w P := by
  obtain ⟨s, hC, hR, hb⟩ := hL
  refine sx_RP.step (pc2 := 357) (ls2 := [(3, .int (nI i)), (2, .ref 111), (1, .ref 0), (0, .float 4)]) (st2 := [.ref 0]) (w3 := w) rfl rfl ?_
  refine sx_RP.step (pc2 := 358) (ls2 := [(3, .int (nI i)), (2, .ref 111), (1, .ref 0), (0, .float 4)]) (st2 := [.float 4, .ref 0]) (w3 := w) rfl rfl ?_
  refine sx_RP.step (pc2 := 359) (ls2 := [(3, .int (nI i)), (2, .ref 111), (1, .ref 0), (0, .float 4)]) (st2 := [.int (nI i), .float 4, .ref 0]) (w3 := w) rfl rfl ?_
  refine sx_RP.step (pc2 := 360) (ls2 := [(3, .int (nI i)), (2, .ref 111), (1, .ref 0), (0, .float 4)]) (st2 := [.int 1, .int (nI i), .float 4, .ref 0]) (w3 := w) rfl rfl ?_
  refine sx_RP.step (pc2 := 361) (ls2 := [(3, .int (nI i)), (2, .ref 111), (1, .ref 0), (0, .float 4)]) (st2 := [.int ((nI i) + 1), .float 4, .ref 0]) (w3 := w) rfl rfl ?_
  rw [show ((nI i) + 1 : Int32) = nI (i + 1) from nI_add i 1]
  refine sx_RP.scr (x := (i + 1)) rfl (by omega) hl (show _ = 362 from rfl) ?_
  refine sx_RP.step (pc2 := 363) (ls2 := [(3, .int (nI i)), (2, .ref 111), (1, .ref 0), (0, .float 4)]) (st2 := [.float 4, .int (ys.getD ((i + 1)) 0), .ref 0]) (w3 := w) rfl rfl ?_
  refine sx_RP.step (pc2 := 364) (ls2 := [(3, .int (nI i)), (2, .ref 111), (1, .ref 0), (0, .float 4)]) (st2 := [.int (nI i), .float 4, .int (ys.getD ((i + 1)) 0), .ref 0]) (w3 := w) rfl rfl ?_
  refine sx_RP.step (pc2 := 365) (ls2 := [(3, .int (nI i)), (2, .ref 111), (1, .ref 0), (0, .float 4)]) (st2 := [.int 2, .int (nI i), .float 4, .int (ys.getD ((i + 1)) 0), .ref 0]) (w3 := w) rfl rfl ?_
  refine sx_RP.step (pc2 := 366) (ls2 := [(3, .int (nI i)), (2, .ref 111), (1, .ref 0), (0, .float 4)]) (st2 := [.int ((nI i) + 2), .float 4, .int (ys.getD ((i + 1)) 0), .ref 0]) (w3 := w) rfl rfl ?_
  rw [show ((nI i) + 2 : Int32) = nI (i + 2) from nI_add i 2]
  refine sx_RP.scr (x := (i + 2)) rfl (by omega) hl (show _ = 367 from rfl) ?_
  refine sx_RP.callp (as2 := [.ref 0, .int (ys.getD ((i + 1)) 0), .int (ys.getD ((i + 2)) 0)]) (rest2 := []) rfl rfl (sx_inv_v2 (mi := 246) (k := 32) (st := [.int (ys.getD ((i + 2)) 0), .int (ys.getD ((i + 1)) 0), .ref 0]) (w := w) rfl rfl hI.1.o0 rfl rfl rfl) rfl rfl rfl (sx_RP.byk (c15 (d := 1) hI hC (ys.getD ((i + 1)) 0) (ys.getD ((i + 2)) 0))) (show _ = 370 from rfl) ?_
  rintro r4 w1 ⟨⟨⟨v3, rfl⟩, hI2, ⟨hC4, hi5⟩⟩, hbk6⟩
  have hR7 := hR.hi hi5
  have hb8 := hbk6 hb
  show sx_RP _ _ _ _ _ [.int v3] _ _
  refine sx_RP.step (pc2 := 371) (ls2 := [(3, .int (nI i)), (2, .ref 111), (1, .ref 0), (0, .float 4)]) (st2 := []) (w3 := w1) rfl rfl ?_
  refine sx_RP.step (pc2 := 372) (ls2 := [(3, .int (nI i)), (2, .ref 111), (1, .ref 0), (0, .float 4)]) (st2 := [.ref 111]) (w3 := w1) rfl rfl ?_
  refine sx_RP.step (pc2 := 373) (ls2 := [(3, .int (nI i)), (2, .ref 111), (1, .ref 0), (0, .float 4)]) (st2 := [.float 4, .ref 111]) (w3 := w1) rfl rfl ?_
  refine sx_RP.step (pc2 := 374) (ls2 := [(3, .int (nI i)), (2, .ref 111), (1, .ref 0), (0, .float 4)]) (st2 := [.int (nI i), .float 4, .ref 111]) (w3 := w1) rfl rfl ?_
  refine sx_RP.step (pc2 := 375) (ls2 := [(3, .int (nI i)), (2, .ref 111), (1, .ref 0), (0, .float 4)]) (st2 := [.int 1, .int (nI i), .float 4, .ref 111]) (w3 := w1) rfl rfl ?_
  refine sx_RP.step (pc2 := 376) (ls2 := [(3, .int (nI i)), (2, .ref 111), (1, .ref 0), (0, .float 4)]) (st2 := [.int ((nI i) + 1), .float 4, .ref 111]) (w3 := w1) rfl rfl ?_
  rw [show ((nI i) + 1 : Int32) = nI (i + 1) from nI_add i 1]
  refine sx_RP.scr (x := (i + 1)) rfl (by omega) hl (show _ = 377 from rfl) ?_
  refine sx_RP.step (pc2 := 378) (ls2 := [(3, .int (nI i)), (2, .ref 111), (1, .ref 0), (0, .float 4)]) (st2 := [.float 4, .int (ys.getD ((i + 1)) 0), .ref 111]) (w3 := w1) rfl rfl ?_
  refine sx_RP.step (pc2 := 379) (ls2 := [(3, .int (nI i)), (2, .ref 111), (1, .ref 0), (0, .float 4)]) (st2 := [.int (nI i), .float 4, .int (ys.getD ((i + 1)) 0), .ref 111]) (w3 := w1) rfl rfl ?_
  refine sx_RP.step (pc2 := 380) (ls2 := [(3, .int (nI i)), (2, .ref 111), (1, .ref 0), (0, .float 4)]) (st2 := [.int 2, .int (nI i), .float 4, .int (ys.getD ((i + 1)) 0), .ref 111]) (w3 := w1) rfl rfl ?_
  refine sx_RP.step (pc2 := 381) (ls2 := [(3, .int (nI i)), (2, .ref 111), (1, .ref 0), (0, .float 4)]) (st2 := [.int ((nI i) + 2), .float 4, .int (ys.getD ((i + 1)) 0), .ref 111]) (w3 := w1) rfl rfl ?_
  rw [show ((nI i) + 2 : Int32) = nI (i + 2) from nI_add i 2]
  refine sx_RP.scr (x := (i + 2)) rfl (by omega) hl (show _ = 382 from rfl) ?_
  refine sx_RP.callp (as2 := [.ref 111, .int (ys.getD ((i + 1)) 0), .int (ys.getD ((i + 2)) 0)]) (rest2 := []) rfl rfl (sx_inv_v2 (mi := 246) (k := 35) (st := [.int (ys.getD ((i + 2)) 0), .int (ys.getD ((i + 1)) 0), .ref 111]) (w := w1) rfl rfl hI2.1.o111 rfl rfl rfl) rfl rfl rfl (sx_RP.byk (r140 (d := 1) hI2 hR7 (ys.getD ((i + 1)) 0) (ys.getD ((i + 2)) 0))) (show _ = 385 from rfl) ?_
  rintro r4 w9 ⟨⟨⟨v11, rfl⟩, hI10, ⟨hR12, lo13⟩⟩, hbk14⟩
  have hL15 : LI w9 := ⟨_, hC4.lo hI2 lo13, hR12, hbk14 hb8⟩
  show sx_RP _ _ _ _ _ [.int v11] _ _
  refine sx_RP.step (pc2 := 386) (ls2 := [(3, .int (nI i)), (2, .ref 111), (1, .ref 0), (0, .float 4)]) (st2 := []) (w3 := w9) rfl rfl ?_
  refine sx_RP.step (pc2 := 1539) (ls2 := [(3, .int (nI i)), (2, .ref 111), (1, .ref 0), (0, .float 4)]) (st2 := []) (w3 := w9) rfl rfl ?_
  exact kk w9 hI10 hL15
set_option maxRecDepth 20000 in
set_option maxHeartbeats 4000000 in
theorem lc5 {ys : List Int32} {i : Nat} {w : List sx_C} {P : Option Value → List sx_C → Prop} (hl : ys.length ≤ 3072) (hn : i + 6 ≤ ys.length) (hI : WI w) (hL : LI w) (kk : ∀ w2, WI w2 → LI w2 → sx_RP (some ys) 9 246 1539 [(3, .int (nI i)), (2, .ref 111), (1, .ref 0), (0, .float 4)] [] w2 P) : sx_RP (some ys) 9 246 389 [(3, .int (nI i)), (2, .ref 111), (1, .ref 0), (0, .float 4)] [] w P := by
  obtain ⟨s, hC, hR, hb⟩ := hL
  refine sx_RP.step (pc2 := 390) (ls2 := [(3, .int (nI i)), (2, .ref 111), (1, .ref 0), (0, .float 4)]) (st2 := [.ref 0]) (w3 := w) rfl rfl ?_
  refine sx_RP.step (pc2 := 391) (ls2 := [(3, .int (nI i)), (2, .ref 111), (1, .ref 0), (0, .float 4)]) (st2 := [.float 4, .ref 0]) (w3 := w) rfl rfl ?_
  refine sx_RP.step (pc2 := 392) (ls2 := [(3, .int (nI i)), (2, .ref 111), (1, .ref 0), (0, .float 4)]) (st2 := [.int (nI i), .float 4, .ref 0]) (w3 := w) rfl rfl ?_
  refine sx_RP.step (pc2 := 393) (ls2 := [(3, .int (nI i)), (2, .ref 111), (1, .ref 0), (0, .float 4)]) (st2 := [.int 1, .int (nI i), .float 4, .ref 0]) (w3 := w) rfl rfl ?_
  refine sx_RP.step (pc2 := 394) (ls2 := [(3, .int (nI i)), (2, .ref 111), (1, .ref 0), (0, .float 4)]) (st2 := [.int ((nI i) + 1), .float 4, .ref 0]) (w3 := w) rfl rfl ?_
  rw [show ((nI i) + 1 : Int32) = nI (i + 1) from nI_add i 1]
  refine sx_RP.scr (x := (i + 1)) rfl (by omega) hl (show _ = 395 from rfl) ?_
  refine sx_RP.step (pc2 := 396) (ls2 := [(3, .int (nI i)), (2, .ref 111), (1, .ref 0), (0, .float 4)]) (st2 := [.float 4, .int (ys.getD ((i + 1)) 0), .ref 0]) (w3 := w) rfl rfl ?_
  refine sx_RP.step (pc2 := 397) (ls2 := [(3, .int (nI i)), (2, .ref 111), (1, .ref 0), (0, .float 4)]) (st2 := [.int (nI i), .float 4, .int (ys.getD ((i + 1)) 0), .ref 0]) (w3 := w) rfl rfl ?_
  refine sx_RP.step (pc2 := 398) (ls2 := [(3, .int (nI i)), (2, .ref 111), (1, .ref 0), (0, .float 4)]) (st2 := [.int 2, .int (nI i), .float 4, .int (ys.getD ((i + 1)) 0), .ref 0]) (w3 := w) rfl rfl ?_
  refine sx_RP.step (pc2 := 399) (ls2 := [(3, .int (nI i)), (2, .ref 111), (1, .ref 0), (0, .float 4)]) (st2 := [.int ((nI i) + 2), .float 4, .int (ys.getD ((i + 1)) 0), .ref 0]) (w3 := w) rfl rfl ?_
  rw [show ((nI i) + 2 : Int32) = nI (i + 2) from nI_add i 2]
  refine sx_RP.scr (x := (i + 2)) rfl (by omega) hl (show _ = 400 from rfl) ?_
  refine sx_RP.step (pc2 := 401) (ls2 := [(3, .int (nI i)), (2, .ref 111), (1, .ref 0), (0, .float 4)]) (st2 := [.float 4, .int (ys.getD ((i + 2)) 0), .int (ys.getD ((i + 1)) 0), .ref 0]) (w3 := w) rfl rfl ?_
  refine sx_RP.step (pc2 := 402) (ls2 := [(3, .int (nI i)), (2, .ref 111), (1, .ref 0), (0, .float 4)]) (st2 := [.int (nI i), .float 4, .int (ys.getD ((i + 2)) 0), .int (ys.getD ((i + 1)) 0), .ref 0]) (w3 := w) rfl rfl ?_
  refine sx_RP.step (pc2 := 403) (ls2 := [(3, .int (nI i)), (2, .ref 111), (1, .ref 0), (0, .float 4)]) (st2 := [.int 3, .int (nI i), .float 4, .int (ys.getD ((i + 2)) 0), .int (ys.getD ((i + 1)) 0), .ref 0]) (w3 := w) rfl rfl ?_
  refine sx_RP.step (pc2 := 404) (ls2 := [(3, .int (nI i)), (2, .ref 111), (1, .ref 0), (0, .float 4)]) (st2 := [.int ((nI i) + 3), .float 4, .int (ys.getD ((i + 2)) 0), .int (ys.getD ((i + 1)) 0), .ref 0]) (w3 := w) rfl rfl ?_
  rw [show ((nI i) + 3 : Int32) = nI (i + 3) from nI_add i 3]
  refine sx_RP.scr (x := (i + 3)) rfl (by omega) hl (show _ = 405 from rfl) ?_
  refine sx_RP.step (pc2 := 406) (ls2 := [(3, .int (nI i)), (2, .ref 111), (1, .ref 0), (0, .float 4)]) (st2 := [.float 4, .int (ys.getD ((i + 3)) 0), .int (ys.getD ((i + 2)) 0), .int (ys.getD ((i + 1)) 0), .ref 0]) (w3 := w) rfl rfl ?_
  refine sx_RP.step (pc2 := 407) (ls2 := [(3, .int (nI i)), (2, .ref 111), (1, .ref 0), (0, .float 4)]) (st2 := [.int (nI i), .float 4, .int (ys.getD ((i + 3)) 0), .int (ys.getD ((i + 2)) 0), .int (ys.getD ((i + 1)) 0), .ref 0]) (w3 := w) rfl rfl ?_
  refine sx_RP.step (pc2 := 408) (ls2 := [(3, .int (nI i)), (2, .ref 111), (1, .ref 0), (0, .float 4)]) (st2 := [.int 4, .int (nI i), .float 4, .int (ys.getD ((i + 3)) 0), .int (ys.getD ((i + 2)) 0), .int (ys.getD ((i + 1)) 0), .ref 0]) (w3 := w) rfl rfl ?_
  refine sx_RP.step (pc2 := 409) (ls2 := [(3, .int (nI i)), (2, .ref 111), (1, .ref 0), (0, .float 4)]) (st2 := [.int ((nI i) + 4), .float 4, .int (ys.getD ((i + 3)) 0), .int (ys.getD ((i + 2)) 0), .int (ys.getD ((i + 1)) 0), .ref 0]) (w3 := w) rfl rfl ?_
  rw [show ((nI i) + 4 : Int32) = nI (i + 4) from nI_add i 4]
  refine sx_RP.scr (x := (i + 4)) rfl (by omega) hl (show _ = 410 from rfl) ?_
  refine sx_RP.callp (as2 := [.ref 0, .int (ys.getD ((i + 1)) 0), .int (ys.getD ((i + 2)) 0), .int (ys.getD ((i + 3)) 0), .int (ys.getD ((i + 4)) 0)]) (rest2 := []) rfl rfl (sx_inv_v2 (mi := 246) (k := 36) (st := [.int (ys.getD ((i + 4)) 0), .int (ys.getD ((i + 3)) 0), .int (ys.getD ((i + 2)) 0), .int (ys.getD ((i + 1)) 0), .ref 0]) (w := w) rfl rfl hI.1.o0 rfl rfl rfl) rfl rfl rfl (sx_RP.byk (c21 (d := 1) hI hC (ys.getD ((i + 1)) 0) (ys.getD ((i + 2)) 0) (ys.getD ((i + 3)) 0) (ys.getD ((i + 4)) 0))) (show _ = 413 from rfl) ?_
  rintro r4 w1 ⟨⟨rfl, hI2, ⟨hC3, hi4⟩⟩, hbk5⟩
  have hR6 := hR.hi hi4
  have hb7 := hbk5 hb
  show sx_RP _ _ _ _ _ [.int (gal2A s.1 (ys.getD ((i + 1)) 0) (ys.getD ((i + 2)) 0) (ys.getD ((i + 3)) 0) (ys.getD ((i + 4)) 0))] _ _
  refine sx_RP.step (pc2 := 414) (ls2 := [(3, .int (nI i)), (2, .ref 111), (1, .ref 0), (0, .float 4)]) (st2 := []) (w3 := w1) rfl rfl ?_
  refine sx_RP.step (pc2 := 415) (ls2 := [(3, .int (nI i)), (2, .ref 111), (1, .ref 0), (0, .float 4)]) (st2 := [.ref 111]) (w3 := w1) rfl rfl ?_
  refine sx_RP.step (pc2 := 416) (ls2 := [(3, .int (nI i)), (2, .ref 111), (1, .ref 0), (0, .float 4)]) (st2 := [.float 4, .ref 111]) (w3 := w1) rfl rfl ?_
  refine sx_RP.step (pc2 := 417) (ls2 := [(3, .int (nI i)), (2, .ref 111), (1, .ref 0), (0, .float 4)]) (st2 := [.int (nI i), .float 4, .ref 111]) (w3 := w1) rfl rfl ?_
  refine sx_RP.step (pc2 := 418) (ls2 := [(3, .int (nI i)), (2, .ref 111), (1, .ref 0), (0, .float 4)]) (st2 := [.int 1, .int (nI i), .float 4, .ref 111]) (w3 := w1) rfl rfl ?_
  refine sx_RP.step (pc2 := 419) (ls2 := [(3, .int (nI i)), (2, .ref 111), (1, .ref 0), (0, .float 4)]) (st2 := [.int ((nI i) + 1), .float 4, .ref 111]) (w3 := w1) rfl rfl ?_
  rw [show ((nI i) + 1 : Int32) = nI (i + 1) from nI_add i 1]
  refine sx_RP.scr (x := (i + 1)) rfl (by omega) hl (show _ = 420 from rfl) ?_
  refine sx_RP.step (pc2 := 421) (ls2 := [(3, .int (nI i)), (2, .ref 111), (1, .ref 0), (0, .float 4)]) (st2 := [.float 4, .int (ys.getD ((i + 1)) 0), .ref 111]) (w3 := w1) rfl rfl ?_
  refine sx_RP.step (pc2 := 422) (ls2 := [(3, .int (nI i)), (2, .ref 111), (1, .ref 0), (0, .float 4)]) (st2 := [.int (nI i), .float 4, .int (ys.getD ((i + 1)) 0), .ref 111]) (w3 := w1) rfl rfl ?_
  refine sx_RP.step (pc2 := 423) (ls2 := [(3, .int (nI i)), (2, .ref 111), (1, .ref 0), (0, .float 4)]) (st2 := [.int 2, .int (nI i), .float 4, .int (ys.getD ((i + 1)) 0), .ref 111]) (w3 := w1) rfl rfl ?_
  refine sx_RP.step (pc2 := 424) (ls2 := [(3, .int (nI i)), (2, .ref 111), (1, .ref 0), (0, .float 4)]) (st2 := [.int ((nI i) + 2), .float 4, .int (ys.getD ((i + 1)) 0), .ref 111]) (w3 := w1) rfl rfl ?_
  rw [show ((nI i) + 2 : Int32) = nI (i + 2) from nI_add i 2]
  refine sx_RP.scr (x := (i + 2)) rfl (by omega) hl (show _ = 425 from rfl) ?_
  refine sx_RP.step (pc2 := 426) (ls2 := [(3, .int (nI i)), (2, .ref 111), (1, .ref 0), (0, .float 4)]) (st2 := [.float 4, .int (ys.getD ((i + 2)) 0), .int (ys.getD ((i + 1)) 0), .ref 111]) (w3 := w1) rfl rfl ?_
  refine sx_RP.step (pc2 := 427) (ls2 := [(3, .int (nI i)), (2, .ref 111), (1, .ref 0), (0, .float 4)]) (st2 := [.int (nI i), .float 4, .int (ys.getD ((i + 2)) 0), .int (ys.getD ((i + 1)) 0), .ref 111]) (w3 := w1) rfl rfl ?_
  refine sx_RP.step (pc2 := 428) (ls2 := [(3, .int (nI i)), (2, .ref 111), (1, .ref 0), (0, .float 4)]) (st2 := [.int 3, .int (nI i), .float 4, .int (ys.getD ((i + 2)) 0), .int (ys.getD ((i + 1)) 0), .ref 111]) (w3 := w1) rfl rfl ?_
  refine sx_RP.step (pc2 := 429) (ls2 := [(3, .int (nI i)), (2, .ref 111), (1, .ref 0), (0, .float 4)]) (st2 := [.int ((nI i) + 3), .float 4, .int (ys.getD ((i + 2)) 0), .int (ys.getD ((i + 1)) 0), .ref 111]) (w3 := w1) rfl rfl ?_
  rw [show ((nI i) + 3 : Int32) = nI (i + 3) from nI_add i 3]
  refine sx_RP.scr (x := (i + 3)) rfl (by omega) hl (show _ = 430 from rfl) ?_
  refine sx_RP.step (pc2 := 431) (ls2 := [(3, .int (nI i)), (2, .ref 111), (1, .ref 0), (0, .float 4)]) (st2 := [.float 4, .int (ys.getD ((i + 3)) 0), .int (ys.getD ((i + 2)) 0), .int (ys.getD ((i + 1)) 0), .ref 111]) (w3 := w1) rfl rfl ?_
  refine sx_RP.step (pc2 := 432) (ls2 := [(3, .int (nI i)), (2, .ref 111), (1, .ref 0), (0, .float 4)]) (st2 := [.int (nI i), .float 4, .int (ys.getD ((i + 3)) 0), .int (ys.getD ((i + 2)) 0), .int (ys.getD ((i + 1)) 0), .ref 111]) (w3 := w1) rfl rfl ?_
  refine sx_RP.step (pc2 := 433) (ls2 := [(3, .int (nI i)), (2, .ref 111), (1, .ref 0), (0, .float 4)]) (st2 := [.int 4, .int (nI i), .float 4, .int (ys.getD ((i + 3)) 0), .int (ys.getD ((i + 2)) 0), .int (ys.getD ((i + 1)) 0), .ref 111]) (w3 := w1) rfl rfl ?_
  refine sx_RP.step (pc2 := 434) (ls2 := [(3, .int (nI i)), (2, .ref 111), (1, .ref 0), (0, .float 4)]) (st2 := [.int ((nI i) + 4), .float 4, .int (ys.getD ((i + 3)) 0), .int (ys.getD ((i + 2)) 0), .int (ys.getD ((i + 1)) 0), .ref 111]) (w3 := w1) rfl rfl ?_
  rw [show ((nI i) + 4 : Int32) = nI (i + 4) from nI_add i 4]
  refine sx_RP.scr (x := (i + 4)) rfl (by omega) hl (show _ = 435 from rfl) ?_
  refine sx_RP.callp (as2 := [.ref 111, .int (ys.getD ((i + 1)) 0), .int (ys.getD ((i + 2)) 0), .int (ys.getD ((i + 3)) 0), .int (ys.getD ((i + 4)) 0)]) (rest2 := []) rfl rfl (sx_inv_v2 (mi := 246) (k := 40) (st := [.int (ys.getD ((i + 4)) 0), .int (ys.getD ((i + 3)) 0), .int (ys.getD ((i + 2)) 0), .int (ys.getD ((i + 1)) 0), .ref 111]) (w := w1) rfl rfl hI2.1.o111 rfl rfl rfl) rfl rfl rfl (sx_RP.byk (r150 (d := 1) hI2 hR6 (ys.getD ((i + 1)) 0) (ys.getD ((i + 2)) 0) (ys.getD ((i + 3)) 0) (ys.getD ((i + 4)) 0))) (show _ = 438 from rfl) ?_
  rintro r4 w8 ⟨⟨rfl, hI9, ⟨hR10, lo11⟩⟩, hbk12⟩
  have hL13 : LI w8 := ⟨_, hC3.lo hI2 lo11, hR10, hbk12 hb7⟩
  show sx_RP _ _ _ _ _ [.int (gal2A s.1 (ys.getD ((i + 1)) 0) (ys.getD ((i + 2)) 0) (ys.getD ((i + 3)) 0) (ys.getD ((i + 4)) 0))] _ _
  refine sx_RP.step (pc2 := 439) (ls2 := [(3, .int (nI i)), (2, .ref 111), (1, .ref 0), (0, .float 4)]) (st2 := []) (w3 := w8) rfl rfl ?_
  refine sx_RP.step (pc2 := 1539) (ls2 := [(3, .int (nI i)), (2, .ref 111), (1, .ref 0), (0, .float 4)]) (st2 := []) (w3 := w8) rfl rfl ?_
  exact kk w8 hI9 hL13
set_option maxRecDepth 20000 in
set_option maxHeartbeats 4000000 in
theorem lc6 {ys : List Int32} {i : Nat} {w : List sx_C} {P : Option Value → List sx_C → Prop} (hl : ys.length ≤ 3072) (hn : i + 6 ≤ ys.length) (hI : WI w) (hL : LI w) (kk : ∀ w2, WI w2 → LI w2 → sx_RP (some ys) 9 246 1539 [(3, .int (nI i)), (2, .ref 111), (1, .ref 0), (0, .float 4)] [] w2 P) : sx_RP (some ys) 9 246 442 [(3, .int (nI i)), (2, .ref 111), (1, .ref 0), (0, .float 4)] [] w P := by
  obtain ⟨s, hC, hR, hb⟩ := hL
  refine sx_RP.step (pc2 := 443) (ls2 := [(3, .int (nI i)), (2, .ref 111), (1, .ref 0), (0, .float 4)]) (st2 := [.ref 0]) (w3 := w) rfl rfl ?_
  refine sx_RP.step (pc2 := 444) (ls2 := [(3, .int (nI i)), (2, .ref 111), (1, .ref 0), (0, .float 4)]) (st2 := [.float 4, .ref 0]) (w3 := w) rfl rfl ?_
  refine sx_RP.step (pc2 := 445) (ls2 := [(3, .int (nI i)), (2, .ref 111), (1, .ref 0), (0, .float 4)]) (st2 := [.int (nI i), .float 4, .ref 0]) (w3 := w) rfl rfl ?_
  refine sx_RP.step (pc2 := 446) (ls2 := [(3, .int (nI i)), (2, .ref 111), (1, .ref 0), (0, .float 4)]) (st2 := [.int 1, .int (nI i), .float 4, .ref 0]) (w3 := w) rfl rfl ?_
  refine sx_RP.step (pc2 := 447) (ls2 := [(3, .int (nI i)), (2, .ref 111), (1, .ref 0), (0, .float 4)]) (st2 := [.int ((nI i) + 1), .float 4, .ref 0]) (w3 := w) rfl rfl ?_
  rw [show ((nI i) + 1 : Int32) = nI (i + 1) from nI_add i 1]
  refine sx_RP.scr (x := (i + 1)) rfl (by omega) hl (show _ = 448 from rfl) ?_
  refine sx_RP.step (pc2 := 449) (ls2 := [(3, .int (nI i)), (2, .ref 111), (1, .ref 0), (0, .float 4)]) (st2 := [.float 4, .int (ys.getD ((i + 1)) 0), .ref 0]) (w3 := w) rfl rfl ?_
  refine sx_RP.step (pc2 := 450) (ls2 := [(3, .int (nI i)), (2, .ref 111), (1, .ref 0), (0, .float 4)]) (st2 := [.int (nI i), .float 4, .int (ys.getD ((i + 1)) 0), .ref 0]) (w3 := w) rfl rfl ?_
  refine sx_RP.step (pc2 := 451) (ls2 := [(3, .int (nI i)), (2, .ref 111), (1, .ref 0), (0, .float 4)]) (st2 := [.int 2, .int (nI i), .float 4, .int (ys.getD ((i + 1)) 0), .ref 0]) (w3 := w) rfl rfl ?_
  refine sx_RP.step (pc2 := 452) (ls2 := [(3, .int (nI i)), (2, .ref 111), (1, .ref 0), (0, .float 4)]) (st2 := [.int ((nI i) + 2), .float 4, .int (ys.getD ((i + 1)) 0), .ref 0]) (w3 := w) rfl rfl ?_
  rw [show ((nI i) + 2 : Int32) = nI (i + 2) from nI_add i 2]
  refine sx_RP.scr (x := (i + 2)) rfl (by omega) hl (show _ = 453 from rfl) ?_
  refine sx_RP.callp (as2 := [.ref 0, .int (ys.getD ((i + 1)) 0), .int (ys.getD ((i + 2)) 0)]) (rest2 := []) rfl rfl (sx_inv_v2 (mi := 246) (k := 41) (st := [.int (ys.getD ((i + 2)) 0), .int (ys.getD ((i + 1)) 0), .ref 0]) (w := w) rfl rfl hI.1.o0 rfl rfl rfl) rfl rfl rfl (sx_RP.byk (c26 (d := 1) hI hC (ys.getD ((i + 1)) 0) (ys.getD ((i + 2)) 0))) (show _ = 456 from rfl) ?_
  rintro r4 w1 ⟨⟨⟨v3, rfl⟩, hI2, ⟨hC4, hi5⟩⟩, hbk6⟩
  have hR7 := hR.hi hi5
  have hb8 := hbk6 hb
  show sx_RP _ _ _ _ _ [.int v3] _ _
  refine sx_RP.step (pc2 := 457) (ls2 := [(3, .int (nI i)), (2, .ref 111), (1, .ref 0), (0, .float 4)]) (st2 := []) (w3 := w1) rfl rfl ?_
  refine sx_RP.step (pc2 := 458) (ls2 := [(3, .int (nI i)), (2, .ref 111), (1, .ref 0), (0, .float 4)]) (st2 := [.ref 111]) (w3 := w1) rfl rfl ?_
  refine sx_RP.step (pc2 := 459) (ls2 := [(3, .int (nI i)), (2, .ref 111), (1, .ref 0), (0, .float 4)]) (st2 := [.float 4, .ref 111]) (w3 := w1) rfl rfl ?_
  refine sx_RP.step (pc2 := 460) (ls2 := [(3, .int (nI i)), (2, .ref 111), (1, .ref 0), (0, .float 4)]) (st2 := [.int (nI i), .float 4, .ref 111]) (w3 := w1) rfl rfl ?_
  refine sx_RP.step (pc2 := 461) (ls2 := [(3, .int (nI i)), (2, .ref 111), (1, .ref 0), (0, .float 4)]) (st2 := [.int 1, .int (nI i), .float 4, .ref 111]) (w3 := w1) rfl rfl ?_
  refine sx_RP.step (pc2 := 462) (ls2 := [(3, .int (nI i)), (2, .ref 111), (1, .ref 0), (0, .float 4)]) (st2 := [.int ((nI i) + 1), .float 4, .ref 111]) (w3 := w1) rfl rfl ?_
  rw [show ((nI i) + 1 : Int32) = nI (i + 1) from nI_add i 1]
  refine sx_RP.scr (x := (i + 1)) rfl (by omega) hl (show _ = 463 from rfl) ?_
  refine sx_RP.step (pc2 := 464) (ls2 := [(3, .int (nI i)), (2, .ref 111), (1, .ref 0), (0, .float 4)]) (st2 := [.float 4, .int (ys.getD ((i + 1)) 0), .ref 111]) (w3 := w1) rfl rfl ?_
  refine sx_RP.step (pc2 := 465) (ls2 := [(3, .int (nI i)), (2, .ref 111), (1, .ref 0), (0, .float 4)]) (st2 := [.int (nI i), .float 4, .int (ys.getD ((i + 1)) 0), .ref 111]) (w3 := w1) rfl rfl ?_
  refine sx_RP.step (pc2 := 466) (ls2 := [(3, .int (nI i)), (2, .ref 111), (1, .ref 0), (0, .float 4)]) (st2 := [.int 2, .int (nI i), .float 4, .int (ys.getD ((i + 1)) 0), .ref 111]) (w3 := w1) rfl rfl ?_
  refine sx_RP.step (pc2 := 467) (ls2 := [(3, .int (nI i)), (2, .ref 111), (1, .ref 0), (0, .float 4)]) (st2 := [.int ((nI i) + 2), .float 4, .int (ys.getD ((i + 1)) 0), .ref 111]) (w3 := w1) rfl rfl ?_
  rw [show ((nI i) + 2 : Int32) = nI (i + 2) from nI_add i 2]
  refine sx_RP.scr (x := (i + 2)) rfl (by omega) hl (show _ = 468 from rfl) ?_
  refine sx_RP.callp (as2 := [.ref 111, .int (ys.getD ((i + 1)) 0), .int (ys.getD ((i + 2)) 0)]) (rest2 := []) rfl rfl (sx_inv_v2 (mi := 246) (k := 44) (st := [.int (ys.getD ((i + 2)) 0), .int (ys.getD ((i + 1)) 0), .ref 111]) (w := w1) rfl rfl hI2.1.o111 rfl rfl rfl) rfl rfl rfl (sx_RP.byk (r155 (d := 1) hI2 hR7 (ys.getD ((i + 1)) 0) (ys.getD ((i + 2)) 0))) (show _ = 471 from rfl) ?_
  rintro r4 w9 ⟨⟨⟨v11, rfl⟩, hI10, ⟨hR12, lo13⟩⟩, hbk14⟩
  have hL15 : LI w9 := ⟨_, hC4.lo hI2 lo13, hR12, hbk14 hb8⟩
  show sx_RP _ _ _ _ _ [.int v11] _ _
  refine sx_RP.step (pc2 := 472) (ls2 := [(3, .int (nI i)), (2, .ref 111), (1, .ref 0), (0, .float 4)]) (st2 := []) (w3 := w9) rfl rfl ?_
  refine sx_RP.step (pc2 := 1539) (ls2 := [(3, .int (nI i)), (2, .ref 111), (1, .ref 0), (0, .float 4)]) (st2 := []) (w3 := w9) rfl rfl ?_
  exact kk w9 hI10 hL15
set_option maxRecDepth 20000 in
set_option maxHeartbeats 4000000 in
theorem lc7 {ys : List Int32} {i : Nat} {w : List sx_C} {P : Option Value → List sx_C → Prop} (hl : ys.length ≤ 3072) (hn : i + 6 ≤ ys.length) (hI : WI w) (hL : LI w) (kk : ∀ w2, WI w2 → LI w2 → sx_RP (some ys) 9 246 1539 [(3, .int (nI i)), (2, .ref 111), (1, .ref 0), (0, .float 4)] [] w2 P) : sx_RP (some ys) 9 246 475 [(3, .int (nI i)), (2, .ref 111), (1, .ref 0), (0, .float 4)] [] w P := by
  obtain ⟨s, hC, hR, hb⟩ := hL
  refine sx_RP.step (pc2 := 476) (ls2 := [(3, .int (nI i)), (2, .ref 111), (1, .ref 0), (0, .float 4)]) (st2 := [.ref 0]) (w3 := w) rfl rfl ?_
  refine sx_RP.step (pc2 := 477) (ls2 := [(3, .int (nI i)), (2, .ref 111), (1, .ref 0), (0, .float 4)]) (st2 := [.float 4, .ref 0]) (w3 := w) rfl rfl ?_
  refine sx_RP.step (pc2 := 478) (ls2 := [(3, .int (nI i)), (2, .ref 111), (1, .ref 0), (0, .float 4)]) (st2 := [.int (nI i), .float 4, .ref 0]) (w3 := w) rfl rfl ?_
  refine sx_RP.step (pc2 := 479) (ls2 := [(3, .int (nI i)), (2, .ref 111), (1, .ref 0), (0, .float 4)]) (st2 := [.int 1, .int (nI i), .float 4, .ref 0]) (w3 := w) rfl rfl ?_
  refine sx_RP.step (pc2 := 480) (ls2 := [(3, .int (nI i)), (2, .ref 111), (1, .ref 0), (0, .float 4)]) (st2 := [.int ((nI i) + 1), .float 4, .ref 0]) (w3 := w) rfl rfl ?_
  rw [show ((nI i) + 1 : Int32) = nI (i + 1) from nI_add i 1]
  refine sx_RP.scr (x := (i + 1)) rfl (by omega) hl (show _ = 481 from rfl) ?_
  refine sx_RP.step (pc2 := 482) (ls2 := [(3, .int (nI i)), (2, .ref 111), (1, .ref 0), (0, .float 4)]) (st2 := [.float 4, .int (ys.getD ((i + 1)) 0), .ref 0]) (w3 := w) rfl rfl ?_
  refine sx_RP.step (pc2 := 483) (ls2 := [(3, .int (nI i)), (2, .ref 111), (1, .ref 0), (0, .float 4)]) (st2 := [.int (nI i), .float 4, .int (ys.getD ((i + 1)) 0), .ref 0]) (w3 := w) rfl rfl ?_
  refine sx_RP.step (pc2 := 484) (ls2 := [(3, .int (nI i)), (2, .ref 111), (1, .ref 0), (0, .float 4)]) (st2 := [.int 2, .int (nI i), .float 4, .int (ys.getD ((i + 1)) 0), .ref 0]) (w3 := w) rfl rfl ?_
  refine sx_RP.step (pc2 := 485) (ls2 := [(3, .int (nI i)), (2, .ref 111), (1, .ref 0), (0, .float 4)]) (st2 := [.int ((nI i) + 2), .float 4, .int (ys.getD ((i + 1)) 0), .ref 0]) (w3 := w) rfl rfl ?_
  rw [show ((nI i) + 2 : Int32) = nI (i + 2) from nI_add i 2]
  refine sx_RP.scr (x := (i + 2)) rfl (by omega) hl (show _ = 486 from rfl) ?_
  refine sx_RP.callp (as2 := [.ref 0, .int (ys.getD ((i + 1)) 0), .int (ys.getD ((i + 2)) 0)]) (rest2 := []) rfl rfl (sx_inv_v2 (mi := 246) (k := 45) (st := [.int (ys.getD ((i + 2)) 0), .int (ys.getD ((i + 1)) 0), .ref 0]) (w := w) rfl rfl hI.1.o0 rfl rfl rfl) rfl rfl rfl (sx_RP.byk (c28 (d := 1) hI hC (ys.getD ((i + 1)) 0) (ys.getD ((i + 2)) 0))) (show _ = 489 from rfl) ?_
  rintro r4 w1 ⟨⟨rfl, hI2, ⟨hC3, hi4⟩⟩, hbk5⟩
  have hR6 := hR.hi hi4
  have hb7 := hbk5 hb
  show sx_RP _ _ _ _ _ [.int (turA s.1 (ys.getD ((i + 1)) 0) (ys.getD ((i + 2)) 0))] _ _
  refine sx_RP.step (pc2 := 490) (ls2 := [(3, .int (nI i)), (2, .ref 111), (1, .ref 0), (0, .float 4)]) (st2 := []) (w3 := w1) rfl rfl ?_
  refine sx_RP.step (pc2 := 491) (ls2 := [(3, .int (nI i)), (2, .ref 111), (1, .ref 0), (0, .float 4)]) (st2 := [.ref 111]) (w3 := w1) rfl rfl ?_
  refine sx_RP.step (pc2 := 492) (ls2 := [(3, .int (nI i)), (2, .ref 111), (1, .ref 0), (0, .float 4)]) (st2 := [.float 4, .ref 111]) (w3 := w1) rfl rfl ?_
  refine sx_RP.step (pc2 := 493) (ls2 := [(3, .int (nI i)), (2, .ref 111), (1, .ref 0), (0, .float 4)]) (st2 := [.int (nI i), .float 4, .ref 111]) (w3 := w1) rfl rfl ?_
  refine sx_RP.step (pc2 := 494) (ls2 := [(3, .int (nI i)), (2, .ref 111), (1, .ref 0), (0, .float 4)]) (st2 := [.int 1, .int (nI i), .float 4, .ref 111]) (w3 := w1) rfl rfl ?_
  refine sx_RP.step (pc2 := 495) (ls2 := [(3, .int (nI i)), (2, .ref 111), (1, .ref 0), (0, .float 4)]) (st2 := [.int ((nI i) + 1), .float 4, .ref 111]) (w3 := w1) rfl rfl ?_
  rw [show ((nI i) + 1 : Int32) = nI (i + 1) from nI_add i 1]
  refine sx_RP.scr (x := (i + 1)) rfl (by omega) hl (show _ = 496 from rfl) ?_
  refine sx_RP.step (pc2 := 497) (ls2 := [(3, .int (nI i)), (2, .ref 111), (1, .ref 0), (0, .float 4)]) (st2 := [.float 4, .int (ys.getD ((i + 1)) 0), .ref 111]) (w3 := w1) rfl rfl ?_
  refine sx_RP.step (pc2 := 498) (ls2 := [(3, .int (nI i)), (2, .ref 111), (1, .ref 0), (0, .float 4)]) (st2 := [.int (nI i), .float 4, .int (ys.getD ((i + 1)) 0), .ref 111]) (w3 := w1) rfl rfl ?_
  refine sx_RP.step (pc2 := 499) (ls2 := [(3, .int (nI i)), (2, .ref 111), (1, .ref 0), (0, .float 4)]) (st2 := [.int 2, .int (nI i), .float 4, .int (ys.getD ((i + 1)) 0), .ref 111]) (w3 := w1) rfl rfl ?_
  refine sx_RP.step (pc2 := 500) (ls2 := [(3, .int (nI i)), (2, .ref 111), (1, .ref 0), (0, .float 4)]) (st2 := [.int ((nI i) + 2), .float 4, .int (ys.getD ((i + 1)) 0), .ref 111]) (w3 := w1) rfl rfl ?_
  rw [show ((nI i) + 2 : Int32) = nI (i + 2) from nI_add i 2]
  refine sx_RP.scr (x := (i + 2)) rfl (by omega) hl (show _ = 501 from rfl) ?_
  refine sx_RP.callp (as2 := [.ref 111, .int (ys.getD ((i + 1)) 0), .int (ys.getD ((i + 2)) 0)]) (rest2 := []) rfl rfl (sx_inv_v2 (mi := 246) (k := 48) (st := [.int (ys.getD ((i + 2)) 0), .int (ys.getD ((i + 1)) 0), .ref 111]) (w := w1) rfl rfl hI2.1.o111 rfl rfl rfl) rfl rfl rfl (sx_RP.byk (r157 (d := 1) hI2 hR6 (ys.getD ((i + 1)) 0) (ys.getD ((i + 2)) 0))) (show _ = 504 from rfl) ?_
  rintro r4 w8 ⟨⟨rfl, hI9, ⟨hR10, lo11⟩⟩, hbk12⟩
  have hL13 : LI w8 := ⟨_, hC3.lo hI2 lo11, hR10, hbk12 hb7⟩
  show sx_RP _ _ _ _ _ [.int (turA s.1 (ys.getD ((i + 1)) 0) (ys.getD ((i + 2)) 0))] _ _
  refine sx_RP.step (pc2 := 505) (ls2 := [(3, .int (nI i)), (2, .ref 111), (1, .ref 0), (0, .float 4)]) (st2 := []) (w3 := w8) rfl rfl ?_
  refine sx_RP.step (pc2 := 1539) (ls2 := [(3, .int (nI i)), (2, .ref 111), (1, .ref 0), (0, .float 4)]) (st2 := []) (w3 := w8) rfl rfl ?_
  exact kk w8 hI9 hL13
set_option maxRecDepth 20000 in
set_option maxHeartbeats 4000000 in
theorem lc8 {ys : List Int32} {i : Nat} {w : List sx_C} {P : Option Value → List sx_C → Prop} (hl : ys.length ≤ 3072) (hn : i + 6 ≤ ys.length) (hI : WI w) (hL : LI w) (kk : ∀ w2, WI w2 → LI w2 → sx_RP (some ys) 9 246 1539 [(3, .int (nI i)), (2, .ref 111), (1, .ref 0), (0, .float 4)] [] w2 P) : sx_RP (some ys) 9 246 508 [(3, .int (nI i)), (2, .ref 111), (1, .ref 0), (0, .float 4)] [] w P := by
  obtain ⟨s, hC, hR, hb⟩ := hL
  refine sx_RP.step (pc2 := 509) (ls2 := [(3, .int (nI i)), (2, .ref 111), (1, .ref 0), (0, .float 4)]) (st2 := [.ref 0]) (w3 := w) rfl rfl ?_
  refine sx_RP.step (pc2 := 510) (ls2 := [(3, .int (nI i)), (2, .ref 111), (1, .ref 0), (0, .float 4)]) (st2 := [.float 4, .ref 0]) (w3 := w) rfl rfl ?_
  refine sx_RP.step (pc2 := 511) (ls2 := [(3, .int (nI i)), (2, .ref 111), (1, .ref 0), (0, .float 4)]) (st2 := [.int (nI i), .float 4, .ref 0]) (w3 := w) rfl rfl ?_
  refine sx_RP.step (pc2 := 512) (ls2 := [(3, .int (nI i)), (2, .ref 111), (1, .ref 0), (0, .float 4)]) (st2 := [.int 1, .int (nI i), .float 4, .ref 0]) (w3 := w) rfl rfl ?_
  refine sx_RP.step (pc2 := 513) (ls2 := [(3, .int (nI i)), (2, .ref 111), (1, .ref 0), (0, .float 4)]) (st2 := [.int ((nI i) + 1), .float 4, .ref 0]) (w3 := w) rfl rfl ?_
  rw [show ((nI i) + 1 : Int32) = nI (i + 1) from nI_add i 1]
  refine sx_RP.scr (x := (i + 1)) rfl (by omega) hl (show _ = 514 from rfl) ?_
  refine sx_RP.step (pc2 := 515) (ls2 := [(3, .int (nI i)), (2, .ref 111), (1, .ref 0), (0, .float 4)]) (st2 := [.float 4, .int (ys.getD ((i + 1)) 0), .ref 0]) (w3 := w) rfl rfl ?_
  refine sx_RP.step (pc2 := 516) (ls2 := [(3, .int (nI i)), (2, .ref 111), (1, .ref 0), (0, .float 4)]) (st2 := [.int (nI i), .float 4, .int (ys.getD ((i + 1)) 0), .ref 0]) (w3 := w) rfl rfl ?_
  refine sx_RP.step (pc2 := 517) (ls2 := [(3, .int (nI i)), (2, .ref 111), (1, .ref 0), (0, .float 4)]) (st2 := [.int 2, .int (nI i), .float 4, .int (ys.getD ((i + 1)) 0), .ref 0]) (w3 := w) rfl rfl ?_
  refine sx_RP.step (pc2 := 518) (ls2 := [(3, .int (nI i)), (2, .ref 111), (1, .ref 0), (0, .float 4)]) (st2 := [.int ((nI i) + 2), .float 4, .int (ys.getD ((i + 1)) 0), .ref 0]) (w3 := w) rfl rfl ?_
  rw [show ((nI i) + 2 : Int32) = nI (i + 2) from nI_add i 2]
  refine sx_RP.scr (x := (i + 2)) rfl (by omega) hl (show _ = 519 from rfl) ?_
  refine sx_RP.callp (as2 := [.ref 0, .int (ys.getD ((i + 1)) 0), .int (ys.getD ((i + 2)) 0)]) (rest2 := []) rfl rfl (sx_inv_v2 (mi := 246) (k := 49) (st := [.int (ys.getD ((i + 2)) 0), .int (ys.getD ((i + 1)) 0), .ref 0]) (w := w) rfl rfl hI.1.o0 rfl rfl rfl) rfl rfl rfl (sx_RP.byk (c29 (d := 1) hI hC (ys.getD ((i + 1)) 0) (ys.getD ((i + 2)) 0))) (show _ = 522 from rfl) ?_
  rintro r4 w1 ⟨⟨rfl, hI2, ⟨hC3, hi4⟩⟩, hbk5⟩
  have hR6 := hR.hi hi4
  have hb7 := hbk5 hb
  show sx_RP _ _ _ _ _ [.int (bec2A s.1 (ys.getD ((i + 1)) 0) (ys.getD ((i + 2)) 0))] _ _
  refine sx_RP.step (pc2 := 523) (ls2 := [(3, .int (nI i)), (2, .ref 111), (1, .ref 0), (0, .float 4)]) (st2 := []) (w3 := w1) rfl rfl ?_
  refine sx_RP.step (pc2 := 524) (ls2 := [(3, .int (nI i)), (2, .ref 111), (1, .ref 0), (0, .float 4)]) (st2 := [.ref 111]) (w3 := w1) rfl rfl ?_
  refine sx_RP.step (pc2 := 525) (ls2 := [(3, .int (nI i)), (2, .ref 111), (1, .ref 0), (0, .float 4)]) (st2 := [.float 4, .ref 111]) (w3 := w1) rfl rfl ?_
  refine sx_RP.step (pc2 := 526) (ls2 := [(3, .int (nI i)), (2, .ref 111), (1, .ref 0), (0, .float 4)]) (st2 := [.int (nI i), .float 4, .ref 111]) (w3 := w1) rfl rfl ?_
  refine sx_RP.step (pc2 := 527) (ls2 := [(3, .int (nI i)), (2, .ref 111), (1, .ref 0), (0, .float 4)]) (st2 := [.int 1, .int (nI i), .float 4, .ref 111]) (w3 := w1) rfl rfl ?_
  refine sx_RP.step (pc2 := 528) (ls2 := [(3, .int (nI i)), (2, .ref 111), (1, .ref 0), (0, .float 4)]) (st2 := [.int ((nI i) + 1), .float 4, .ref 111]) (w3 := w1) rfl rfl ?_
  rw [show ((nI i) + 1 : Int32) = nI (i + 1) from nI_add i 1]
  refine sx_RP.scr (x := (i + 1)) rfl (by omega) hl (show _ = 529 from rfl) ?_
  refine sx_RP.step (pc2 := 530) (ls2 := [(3, .int (nI i)), (2, .ref 111), (1, .ref 0), (0, .float 4)]) (st2 := [.float 4, .int (ys.getD ((i + 1)) 0), .ref 111]) (w3 := w1) rfl rfl ?_
  refine sx_RP.step (pc2 := 531) (ls2 := [(3, .int (nI i)), (2, .ref 111), (1, .ref 0), (0, .float 4)]) (st2 := [.int (nI i), .float 4, .int (ys.getD ((i + 1)) 0), .ref 111]) (w3 := w1) rfl rfl ?_
  refine sx_RP.step (pc2 := 532) (ls2 := [(3, .int (nI i)), (2, .ref 111), (1, .ref 0), (0, .float 4)]) (st2 := [.int 2, .int (nI i), .float 4, .int (ys.getD ((i + 1)) 0), .ref 111]) (w3 := w1) rfl rfl ?_
  refine sx_RP.step (pc2 := 533) (ls2 := [(3, .int (nI i)), (2, .ref 111), (1, .ref 0), (0, .float 4)]) (st2 := [.int ((nI i) + 2), .float 4, .int (ys.getD ((i + 1)) 0), .ref 111]) (w3 := w1) rfl rfl ?_
  rw [show ((nI i) + 2 : Int32) = nI (i + 2) from nI_add i 2]
  refine sx_RP.scr (x := (i + 2)) rfl (by omega) hl (show _ = 534 from rfl) ?_
  refine sx_RP.callp (as2 := [.ref 111, .int (ys.getD ((i + 1)) 0), .int (ys.getD ((i + 2)) 0)]) (rest2 := []) rfl rfl (sx_inv_v2 (mi := 246) (k := 52) (st := [.int (ys.getD ((i + 2)) 0), .int (ys.getD ((i + 1)) 0), .ref 111]) (w := w1) rfl rfl hI2.1.o111 rfl rfl rfl) rfl rfl rfl (sx_RP.byk (r158 (d := 1) hI2 hR6 (ys.getD ((i + 1)) 0) (ys.getD ((i + 2)) 0))) (show _ = 537 from rfl) ?_
  rintro r4 w8 ⟨⟨rfl, hI9, ⟨hR10, lo11⟩⟩, hbk12⟩
  have hL13 : LI w8 := ⟨_, hC3.lo hI2 lo11, hR10, hbk12 hb7⟩
  show sx_RP _ _ _ _ _ [.int (bec2A s.1 (ys.getD ((i + 1)) 0) (ys.getD ((i + 2)) 0))] _ _
  refine sx_RP.step (pc2 := 538) (ls2 := [(3, .int (nI i)), (2, .ref 111), (1, .ref 0), (0, .float 4)]) (st2 := []) (w3 := w8) rfl rfl ?_
  refine sx_RP.step (pc2 := 1539) (ls2 := [(3, .int (nI i)), (2, .ref 111), (1, .ref 0), (0, .float 4)]) (st2 := []) (w3 := w8) rfl rfl ?_
  exact kk w8 hI9 hL13
set_option maxRecDepth 20000 in
set_option maxHeartbeats 4000000 in
theorem lc9 {ys : List Int32} {i : Nat} {w : List sx_C} {P : Option Value → List sx_C → Prop} (hl : ys.length ≤ 3072) (hn : i + 6 ≤ ys.length) (hI : WI w) (hL : LI w) (kk : ∀ w2, WI w2 → LI w2 → sx_RP (some ys) 9 246 1539 [(3, .int (nI i)), (2, .ref 111), (1, .ref 0), (0, .float 4)] [] w2 P) : sx_RP (some ys) 9 246 541 [(3, .int (nI i)), (2, .ref 111), (1, .ref 0), (0, .float 4)] [] w P := by
  obtain ⟨s, hC, hR, hb⟩ := hL
  refine sx_RP.step (pc2 := 542) (ls2 := [(3, .int (nI i)), (2, .ref 111), (1, .ref 0), (0, .float 4)]) (st2 := [.ref 0]) (w3 := w) rfl rfl ?_
  refine sx_RP.step (pc2 := 543) (ls2 := [(3, .int (nI i)), (2, .ref 111), (1, .ref 0), (0, .float 4)]) (st2 := [.float 4, .ref 0]) (w3 := w) rfl rfl ?_
  refine sx_RP.step (pc2 := 544) (ls2 := [(3, .int (nI i)), (2, .ref 111), (1, .ref 0), (0, .float 4)]) (st2 := [.int (nI i), .float 4, .ref 0]) (w3 := w) rfl rfl ?_
  refine sx_RP.step (pc2 := 545) (ls2 := [(3, .int (nI i)), (2, .ref 111), (1, .ref 0), (0, .float 4)]) (st2 := [.int 1, .int (nI i), .float 4, .ref 0]) (w3 := w) rfl rfl ?_
  refine sx_RP.step (pc2 := 546) (ls2 := [(3, .int (nI i)), (2, .ref 111), (1, .ref 0), (0, .float 4)]) (st2 := [.int ((nI i) + 1), .float 4, .ref 0]) (w3 := w) rfl rfl ?_
  rw [show ((nI i) + 1 : Int32) = nI (i + 1) from nI_add i 1]
  refine sx_RP.scr (x := (i + 1)) rfl (by omega) hl (show _ = 547 from rfl) ?_
  refine sx_RP.step (pc2 := 548) (ls2 := [(3, .int (nI i)), (2, .ref 111), (1, .ref 0), (0, .float 4)]) (st2 := [.float 4, .int (ys.getD ((i + 1)) 0), .ref 0]) (w3 := w) rfl rfl ?_
  refine sx_RP.step (pc2 := 549) (ls2 := [(3, .int (nI i)), (2, .ref 111), (1, .ref 0), (0, .float 4)]) (st2 := [.int (nI i), .float 4, .int (ys.getD ((i + 1)) 0), .ref 0]) (w3 := w) rfl rfl ?_
  refine sx_RP.step (pc2 := 550) (ls2 := [(3, .int (nI i)), (2, .ref 111), (1, .ref 0), (0, .float 4)]) (st2 := [.int 2, .int (nI i), .float 4, .int (ys.getD ((i + 1)) 0), .ref 0]) (w3 := w) rfl rfl ?_
  refine sx_RP.step (pc2 := 551) (ls2 := [(3, .int (nI i)), (2, .ref 111), (1, .ref 0), (0, .float 4)]) (st2 := [.int ((nI i) + 2), .float 4, .int (ys.getD ((i + 1)) 0), .ref 0]) (w3 := w) rfl rfl ?_
  rw [show ((nI i) + 2 : Int32) = nI (i + 2) from nI_add i 2]
  refine sx_RP.scr (x := (i + 2)) rfl (by omega) hl (show _ = 552 from rfl) ?_
  refine sx_RP.callp (as2 := [.ref 0, .int (ys.getD ((i + 1)) 0), .int (ys.getD ((i + 2)) 0)]) (rest2 := []) rfl rfl (sx_inv_v2 (mi := 246) (k := 53) (st := [.int (ys.getD ((i + 2)) 0), .int (ys.getD ((i + 1)) 0), .ref 0]) (w := w) rfl rfl hI.1.o0 rfl rfl rfl) rfl rfl rfl (sx_RP.byk (c30 (d := 1) hI hC (ys.getD ((i + 1)) 0) (ys.getD ((i + 2)) 0))) (show _ = 555 from rfl) ?_
  rintro r4 w1 ⟨⟨⟨v3, rfl⟩, hI2, ⟨hC4, hi5⟩⟩, hbk6⟩
  have hR7 := hR.hi hi5
  have hb8 := hbk6 hb
  show sx_RP _ _ _ _ _ [.int v3] _ _
  refine sx_RP.step (pc2 := 556) (ls2 := [(3, .int (nI i)), (2, .ref 111), (1, .ref 0), (0, .float 4)]) (st2 := []) (w3 := w1) rfl rfl ?_
  refine sx_RP.step (pc2 := 557) (ls2 := [(3, .int (nI i)), (2, .ref 111), (1, .ref 0), (0, .float 4)]) (st2 := [.ref 111]) (w3 := w1) rfl rfl ?_
  refine sx_RP.step (pc2 := 558) (ls2 := [(3, .int (nI i)), (2, .ref 111), (1, .ref 0), (0, .float 4)]) (st2 := [.float 4, .ref 111]) (w3 := w1) rfl rfl ?_
  refine sx_RP.step (pc2 := 559) (ls2 := [(3, .int (nI i)), (2, .ref 111), (1, .ref 0), (0, .float 4)]) (st2 := [.int (nI i), .float 4, .ref 111]) (w3 := w1) rfl rfl ?_
  refine sx_RP.step (pc2 := 560) (ls2 := [(3, .int (nI i)), (2, .ref 111), (1, .ref 0), (0, .float 4)]) (st2 := [.int 1, .int (nI i), .float 4, .ref 111]) (w3 := w1) rfl rfl ?_
  refine sx_RP.step (pc2 := 561) (ls2 := [(3, .int (nI i)), (2, .ref 111), (1, .ref 0), (0, .float 4)]) (st2 := [.int ((nI i) + 1), .float 4, .ref 111]) (w3 := w1) rfl rfl ?_
  rw [show ((nI i) + 1 : Int32) = nI (i + 1) from nI_add i 1]
  refine sx_RP.scr (x := (i + 1)) rfl (by omega) hl (show _ = 562 from rfl) ?_
  refine sx_RP.step (pc2 := 563) (ls2 := [(3, .int (nI i)), (2, .ref 111), (1, .ref 0), (0, .float 4)]) (st2 := [.float 4, .int (ys.getD ((i + 1)) 0), .ref 111]) (w3 := w1) rfl rfl ?_
  refine sx_RP.step (pc2 := 564) (ls2 := [(3, .int (nI i)), (2, .ref 111), (1, .ref 0), (0, .float 4)]) (st2 := [.int (nI i), .float 4, .int (ys.getD ((i + 1)) 0), .ref 111]) (w3 := w1) rfl rfl ?_
  refine sx_RP.step (pc2 := 565) (ls2 := [(3, .int (nI i)), (2, .ref 111), (1, .ref 0), (0, .float 4)]) (st2 := [.int 2, .int (nI i), .float 4, .int (ys.getD ((i + 1)) 0), .ref 111]) (w3 := w1) rfl rfl ?_
  refine sx_RP.step (pc2 := 566) (ls2 := [(3, .int (nI i)), (2, .ref 111), (1, .ref 0), (0, .float 4)]) (st2 := [.int ((nI i) + 2), .float 4, .int (ys.getD ((i + 1)) 0), .ref 111]) (w3 := w1) rfl rfl ?_
  rw [show ((nI i) + 2 : Int32) = nI (i + 2) from nI_add i 2]
  refine sx_RP.scr (x := (i + 2)) rfl (by omega) hl (show _ = 567 from rfl) ?_
  refine sx_RP.callp (as2 := [.ref 111, .int (ys.getD ((i + 1)) 0), .int (ys.getD ((i + 2)) 0)]) (rest2 := []) rfl rfl (sx_inv_v2 (mi := 246) (k := 56) (st := [.int (ys.getD ((i + 2)) 0), .int (ys.getD ((i + 1)) 0), .ref 111]) (w := w1) rfl rfl hI2.1.o111 rfl rfl rfl) rfl rfl rfl (sx_RP.byk (r159 (d := 1) hI2 hR7 (ys.getD ((i + 1)) 0) (ys.getD ((i + 2)) 0))) (show _ = 570 from rfl) ?_
  rintro r4 w9 ⟨⟨⟨v11, rfl⟩, hI10, ⟨hR12, lo13⟩⟩, hbk14⟩
  have hL15 : LI w9 := ⟨_, hC4.lo hI2 lo13, hR12, hbk14 hb8⟩
  show sx_RP _ _ _ _ _ [.int v11] _ _
  refine sx_RP.step (pc2 := 571) (ls2 := [(3, .int (nI i)), (2, .ref 111), (1, .ref 0), (0, .float 4)]) (st2 := []) (w3 := w9) rfl rfl ?_
  refine sx_RP.step (pc2 := 1539) (ls2 := [(3, .int (nI i)), (2, .ref 111), (1, .ref 0), (0, .float 4)]) (st2 := []) (w3 := w9) rfl rfl ?_
  exact kk w9 hI10 hL15
set_option maxRecDepth 20000 in
set_option maxHeartbeats 4000000 in
theorem lc10 {ys : List Int32} {i : Nat} {w : List sx_C} {P : Option Value → List sx_C → Prop} (hl : ys.length ≤ 3072) (hn : i + 6 ≤ ys.length) (hI : WI w) (hL : LI w) (kk : ∀ w2, WI w2 → LI w2 → sx_RP (some ys) 9 246 1539 [(3, .int (nI i)), (2, .ref 111), (1, .ref 0), (0, .float 4)] [] w2 P) : sx_RP (some ys) 9 246 574 [(3, .int (nI i)), (2, .ref 111), (1, .ref 0), (0, .float 4)] [] w P := by
  obtain ⟨s, hC, hR, hb⟩ := hL
  refine sx_RP.step (pc2 := 575) (ls2 := [(3, .int (nI i)), (2, .ref 111), (1, .ref 0), (0, .float 4)]) (st2 := [.ref 0]) (w3 := w) rfl rfl ?_
  refine sx_RP.step (pc2 := 576) (ls2 := [(3, .int (nI i)), (2, .ref 111), (1, .ref 0), (0, .float 4)]) (st2 := [.float 4, .ref 0]) (w3 := w) rfl rfl ?_
  refine sx_RP.step (pc2 := 577) (ls2 := [(3, .int (nI i)), (2, .ref 111), (1, .ref 0), (0, .float 4)]) (st2 := [.int (nI i), .float 4, .ref 0]) (w3 := w) rfl rfl ?_
  refine sx_RP.step (pc2 := 578) (ls2 := [(3, .int (nI i)), (2, .ref 111), (1, .ref 0), (0, .float 4)]) (st2 := [.int 1, .int (nI i), .float 4, .ref 0]) (w3 := w) rfl rfl ?_
  refine sx_RP.step (pc2 := 579) (ls2 := [(3, .int (nI i)), (2, .ref 111), (1, .ref 0), (0, .float 4)]) (st2 := [.int ((nI i) + 1), .float 4, .ref 0]) (w3 := w) rfl rfl ?_
  rw [show ((nI i) + 1 : Int32) = nI (i + 1) from nI_add i 1]
  refine sx_RP.scr (x := (i + 1)) rfl (by omega) hl (show _ = 580 from rfl) ?_
  refine sx_RP.step (pc2 := 581) (ls2 := [(3, .int (nI i)), (2, .ref 111), (1, .ref 0), (0, .float 4)]) (st2 := [.float 4, .int (ys.getD ((i + 1)) 0), .ref 0]) (w3 := w) rfl rfl ?_
  refine sx_RP.step (pc2 := 582) (ls2 := [(3, .int (nI i)), (2, .ref 111), (1, .ref 0), (0, .float 4)]) (st2 := [.int (nI i), .float 4, .int (ys.getD ((i + 1)) 0), .ref 0]) (w3 := w) rfl rfl ?_
  refine sx_RP.step (pc2 := 583) (ls2 := [(3, .int (nI i)), (2, .ref 111), (1, .ref 0), (0, .float 4)]) (st2 := [.int 2, .int (nI i), .float 4, .int (ys.getD ((i + 1)) 0), .ref 0]) (w3 := w) rfl rfl ?_
  refine sx_RP.step (pc2 := 584) (ls2 := [(3, .int (nI i)), (2, .ref 111), (1, .ref 0), (0, .float 4)]) (st2 := [.int ((nI i) + 2), .float 4, .int (ys.getD ((i + 1)) 0), .ref 0]) (w3 := w) rfl rfl ?_
  rw [show ((nI i) + 2 : Int32) = nI (i + 2) from nI_add i 2]
  refine sx_RP.scr (x := (i + 2)) rfl (by omega) hl (show _ = 585 from rfl) ?_
  refine sx_RP.step (pc2 := 586) (ls2 := [(3, .int (nI i)), (2, .ref 111), (1, .ref 0), (0, .float 4)]) (st2 := [.float 4, .int (ys.getD ((i + 2)) 0), .int (ys.getD ((i + 1)) 0), .ref 0]) (w3 := w) rfl rfl ?_
  refine sx_RP.step (pc2 := 587) (ls2 := [(3, .int (nI i)), (2, .ref 111), (1, .ref 0), (0, .float 4)]) (st2 := [.int (nI i), .float 4, .int (ys.getD ((i + 2)) 0), .int (ys.getD ((i + 1)) 0), .ref 0]) (w3 := w) rfl rfl ?_
  refine sx_RP.step (pc2 := 588) (ls2 := [(3, .int (nI i)), (2, .ref 111), (1, .ref 0), (0, .float 4)]) (st2 := [.int 3, .int (nI i), .float 4, .int (ys.getD ((i + 2)) 0), .int (ys.getD ((i + 1)) 0), .ref 0]) (w3 := w) rfl rfl ?_
  refine sx_RP.step (pc2 := 589) (ls2 := [(3, .int (nI i)), (2, .ref 111), (1, .ref 0), (0, .float 4)]) (st2 := [.int ((nI i) + 3), .float 4, .int (ys.getD ((i + 2)) 0), .int (ys.getD ((i + 1)) 0), .ref 0]) (w3 := w) rfl rfl ?_
  rw [show ((nI i) + 3 : Int32) = nI (i + 3) from nI_add i 3]
  refine sx_RP.scr (x := (i + 3)) rfl (by omega) hl (show _ = 590 from rfl) ?_
  refine sx_RP.callp (as2 := [.ref 0, .int (ys.getD ((i + 1)) 0), .int (ys.getD ((i + 2)) 0), .int (ys.getD ((i + 3)) 0)]) (rest2 := []) rfl rfl (sx_inv_v2 (mi := 246) (k := 57) (st := [.int (ys.getD ((i + 3)) 0), .int (ys.getD ((i + 2)) 0), .int (ys.getD ((i + 1)) 0), .ref 0]) (w := w) rfl rfl hI.1.o0 rfl rfl rfl) rfl rfl rfl (sx_RP.byk (a32 (d := 1) hI hC (ys.getD ((i + 1)) 0) (ys.getD ((i + 2)) 0) (ys.getD ((i + 3)) 0))) (show _ = 593 from rfl) ?_
  rintro r4 w1 ⟨⟨rfl, hI2, ⟨hC3, hi4⟩⟩, hbk5⟩
  have hR6 := hR.hi hi4
  have hb7 := hbk5 hb
  show sx_RP _ _ _ _ _ [.int (dosA s.1 (ys.getD ((i + 1)) 0) (ys.getD ((i + 2)) 0) (ys.getD ((i + 3)) 0))] _ _
  refine sx_RP.step (pc2 := 594) (ls2 := [(3, .int (nI i)), (2, .ref 111), (1, .ref 0), (0, .float 4)]) (st2 := [.ref 111, .int (dosA s.1 (ys.getD ((i + 1)) 0) (ys.getD ((i + 2)) 0) (ys.getD ((i + 3)) 0))]) (w3 := w1) rfl rfl ?_
  refine sx_RP.step (pc2 := 595) (ls2 := [(3, .int (nI i)), (2, .ref 111), (1, .ref 0), (0, .float 4)]) (st2 := [.float 4, .ref 111, .int (dosA s.1 (ys.getD ((i + 1)) 0) (ys.getD ((i + 2)) 0) (ys.getD ((i + 3)) 0))]) (w3 := w1) rfl rfl ?_
  refine sx_RP.step (pc2 := 596) (ls2 := [(3, .int (nI i)), (2, .ref 111), (1, .ref 0), (0, .float 4)]) (st2 := [.int (nI i), .float 4, .ref 111, .int (dosA s.1 (ys.getD ((i + 1)) 0) (ys.getD ((i + 2)) 0) (ys.getD ((i + 3)) 0))]) (w3 := w1) rfl rfl ?_
  refine sx_RP.step (pc2 := 597) (ls2 := [(3, .int (nI i)), (2, .ref 111), (1, .ref 0), (0, .float 4)]) (st2 := [.int 1, .int (nI i), .float 4, .ref 111, .int (dosA s.1 (ys.getD ((i + 1)) 0) (ys.getD ((i + 2)) 0) (ys.getD ((i + 3)) 0))]) (w3 := w1) rfl rfl ?_
  refine sx_RP.step (pc2 := 598) (ls2 := [(3, .int (nI i)), (2, .ref 111), (1, .ref 0), (0, .float 4)]) (st2 := [.int ((nI i) + 1), .float 4, .ref 111, .int (dosA s.1 (ys.getD ((i + 1)) 0) (ys.getD ((i + 2)) 0) (ys.getD ((i + 3)) 0))]) (w3 := w1) rfl rfl ?_
  rw [show ((nI i) + 1 : Int32) = nI (i + 1) from nI_add i 1]
  refine sx_RP.scr (x := (i + 1)) rfl (by omega) hl (show _ = 599 from rfl) ?_
  refine sx_RP.step (pc2 := 600) (ls2 := [(3, .int (nI i)), (2, .ref 111), (1, .ref 0), (0, .float 4)]) (st2 := [.float 4, .int (ys.getD ((i + 1)) 0), .ref 111, .int (dosA s.1 (ys.getD ((i + 1)) 0) (ys.getD ((i + 2)) 0) (ys.getD ((i + 3)) 0))]) (w3 := w1) rfl rfl ?_
  refine sx_RP.step (pc2 := 601) (ls2 := [(3, .int (nI i)), (2, .ref 111), (1, .ref 0), (0, .float 4)]) (st2 := [.int (nI i), .float 4, .int (ys.getD ((i + 1)) 0), .ref 111, .int (dosA s.1 (ys.getD ((i + 1)) 0) (ys.getD ((i + 2)) 0) (ys.getD ((i + 3)) 0))]) (w3 := w1) rfl rfl ?_
  refine sx_RP.step (pc2 := 602) (ls2 := [(3, .int (nI i)), (2, .ref 111), (1, .ref 0), (0, .float 4)]) (st2 := [.int 2, .int (nI i), .float 4, .int (ys.getD ((i + 1)) 0), .ref 111, .int (dosA s.1 (ys.getD ((i + 1)) 0) (ys.getD ((i + 2)) 0) (ys.getD ((i + 3)) 0))]) (w3 := w1) rfl rfl ?_
  refine sx_RP.step (pc2 := 603) (ls2 := [(3, .int (nI i)), (2, .ref 111), (1, .ref 0), (0, .float 4)]) (st2 := [.int ((nI i) + 2), .float 4, .int (ys.getD ((i + 1)) 0), .ref 111, .int (dosA s.1 (ys.getD ((i + 1)) 0) (ys.getD ((i + 2)) 0) (ys.getD ((i + 3)) 0))]) (w3 := w1) rfl rfl ?_
  rw [show ((nI i) + 2 : Int32) = nI (i + 2) from nI_add i 2]
  refine sx_RP.scr (x := (i + 2)) rfl (by omega) hl (show _ = 604 from rfl) ?_
  refine sx_RP.step (pc2 := 605) (ls2 := [(3, .int (nI i)), (2, .ref 111), (1, .ref 0), (0, .float 4)]) (st2 := [.float 4, .int (ys.getD ((i + 2)) 0), .int (ys.getD ((i + 1)) 0), .ref 111, .int (dosA s.1 (ys.getD ((i + 1)) 0) (ys.getD ((i + 2)) 0) (ys.getD ((i + 3)) 0))]) (w3 := w1) rfl rfl ?_
  refine sx_RP.step (pc2 := 606) (ls2 := [(3, .int (nI i)), (2, .ref 111), (1, .ref 0), (0, .float 4)]) (st2 := [.int (nI i), .float 4, .int (ys.getD ((i + 2)) 0), .int (ys.getD ((i + 1)) 0), .ref 111, .int (dosA s.1 (ys.getD ((i + 1)) 0) (ys.getD ((i + 2)) 0) (ys.getD ((i + 3)) 0))]) (w3 := w1) rfl rfl ?_
  refine sx_RP.step (pc2 := 607) (ls2 := [(3, .int (nI i)), (2, .ref 111), (1, .ref 0), (0, .float 4)]) (st2 := [.int 3, .int (nI i), .float 4, .int (ys.getD ((i + 2)) 0), .int (ys.getD ((i + 1)) 0), .ref 111, .int (dosA s.1 (ys.getD ((i + 1)) 0) (ys.getD ((i + 2)) 0) (ys.getD ((i + 3)) 0))]) (w3 := w1) rfl rfl ?_
  refine sx_RP.step (pc2 := 608) (ls2 := [(3, .int (nI i)), (2, .ref 111), (1, .ref 0), (0, .float 4)]) (st2 := [.int ((nI i) + 3), .float 4, .int (ys.getD ((i + 2)) 0), .int (ys.getD ((i + 1)) 0), .ref 111, .int (dosA s.1 (ys.getD ((i + 1)) 0) (ys.getD ((i + 2)) 0) (ys.getD ((i + 3)) 0))]) (w3 := w1) rfl rfl ?_
  rw [show ((nI i) + 3 : Int32) = nI (i + 3) from nI_add i 3]
  refine sx_RP.scr (x := (i + 3)) rfl (by omega) hl (show _ = 609 from rfl) ?_
  refine sx_RP.callp (as2 := [.ref 111, .int (ys.getD ((i + 1)) 0), .int (ys.getD ((i + 2)) 0), .int (ys.getD ((i + 3)) 0)]) (rest2 := [.int (dosA s.1 (ys.getD ((i + 1)) 0) (ys.getD ((i + 2)) 0) (ys.getD ((i + 3)) 0))]) rfl rfl (sx_inv_v2 (mi := 246) (k := 61) (st := [.int (ys.getD ((i + 3)) 0), .int (ys.getD ((i + 2)) 0), .int (ys.getD ((i + 1)) 0), .ref 111, .int (dosA s.1 (ys.getD ((i + 1)) 0) (ys.getD ((i + 2)) 0) (ys.getD ((i + 3)) 0))]) (w := w1) rfl rfl hI2.1.o111 rfl rfl rfl) rfl rfl rfl (sx_RP.byk (a161 (d := 1) hI2 hR6 hC.1.1.wb (ys.getD ((i + 1)) 0) (ys.getD ((i + 2)) 0) (ys.getD ((i + 3)) 0))) (show _ = 612 from rfl) ?_
  rintro r4 w8 ⟨⟨rfl, hI9, ⟨hR10, lo11⟩⟩, hbk12⟩
  have hL13 : LI w8 := ⟨_, hC3.lo hI2 lo11, hR10, hbk12 hb7⟩
  show sx_RP _ _ _ _ _ [.int (dosA s.1 (ys.getD ((i + 1)) 0) (ys.getD ((i + 2)) 0) (ys.getD ((i + 3)) 0)), .int (dosA s.1 (ys.getD ((i + 1)) 0) (ys.getD ((i + 2)) 0) (ys.getD ((i + 3)) 0))] _ _
  refine sx_RP.br (p1 := 1539) (l1 := [(3, .int (nI i)), (2, .ref 111), (1, .ref 0), (0, .float 4)]) (s1 := []) (v1 := w8) rfl rfl (fun _ => ?_) (fun q => absurd rfl (of_decide_eq_false q))
  exact kk w8 hI9 hL13
set_option maxRecDepth 20000 in
set_option maxHeartbeats 4000000 in
theorem lc11 {ys : List Int32} {i : Nat} {w : List sx_C} {P : Option Value → List sx_C → Prop} (hl : ys.length ≤ 3072) (hn : i + 6 ≤ ys.length) (hI : WI w) (hL : LI w) (kk : ∀ w2, WI w2 → LI w2 → sx_RP (some ys) 9 246 1539 [(3, .int (nI i)), (2, .ref 111), (1, .ref 0), (0, .float 4)] [] w2 P) : sx_RP (some ys) 9 246 617 [(3, .int (nI i)), (2, .ref 111), (1, .ref 0), (0, .float 4)] [] w P := by
  obtain ⟨s, hC, hR, hb⟩ := hL
  refine sx_RP.step (pc2 := 618) (ls2 := [(3, .int (nI i)), (2, .ref 111), (1, .ref 0), (0, .float 4)]) (st2 := [.ref 0]) (w3 := w) rfl rfl ?_
  refine sx_RP.step (pc2 := 619) (ls2 := [(3, .int (nI i)), (2, .ref 111), (1, .ref 0), (0, .float 4)]) (st2 := [.float 4, .ref 0]) (w3 := w) rfl rfl ?_
  refine sx_RP.step (pc2 := 620) (ls2 := [(3, .int (nI i)), (2, .ref 111), (1, .ref 0), (0, .float 4)]) (st2 := [.int (nI i), .float 4, .ref 0]) (w3 := w) rfl rfl ?_
  refine sx_RP.step (pc2 := 621) (ls2 := [(3, .int (nI i)), (2, .ref 111), (1, .ref 0), (0, .float 4)]) (st2 := [.int 1, .int (nI i), .float 4, .ref 0]) (w3 := w) rfl rfl ?_
  refine sx_RP.step (pc2 := 622) (ls2 := [(3, .int (nI i)), (2, .ref 111), (1, .ref 0), (0, .float 4)]) (st2 := [.int ((nI i) + 1), .float 4, .ref 0]) (w3 := w) rfl rfl ?_
  rw [show ((nI i) + 1 : Int32) = nI (i + 1) from nI_add i 1]
  refine sx_RP.scr (x := (i + 1)) rfl (by omega) hl (show _ = 623 from rfl) ?_
  refine sx_RP.callp (as2 := [.ref 0, .int (ys.getD ((i + 1)) 0)]) (rest2 := []) rfl rfl (sx_inv_v2 (mi := 246) (k := 62) (st := [.int (ys.getD ((i + 1)) 0), .ref 0]) (w := w) rfl rfl hI.1.o0 rfl rfl rfl) rfl rfl rfl (sx_RP.byk (c39 (d := 1) hI hC (ys.getD ((i + 1)) 0))) (show _ = 626 from rfl) ?_
  rintro r4 w1 ⟨⟨rfl, hI2, ⟨hC3, hi4⟩⟩, hbk5⟩
  have hR6 := hR.hi hi4
  have hb7 := hbk5 hb
  show sx_RP _ _ _ _ _ [.int (ntsA s.1 (ys.getD ((i + 1)) 0))] _ _
  refine sx_RP.step (pc2 := 627) (ls2 := [(3, .int (nI i)), (2, .ref 111), (1, .ref 0), (0, .float 4)]) (st2 := []) (w3 := w1) rfl rfl ?_
  refine sx_RP.step (pc2 := 628) (ls2 := [(3, .int (nI i)), (2, .ref 111), (1, .ref 0), (0, .float 4)]) (st2 := [.ref 111]) (w3 := w1) rfl rfl ?_
  refine sx_RP.step (pc2 := 629) (ls2 := [(3, .int (nI i)), (2, .ref 111), (1, .ref 0), (0, .float 4)]) (st2 := [.float 4, .ref 111]) (w3 := w1) rfl rfl ?_
  refine sx_RP.step (pc2 := 630) (ls2 := [(3, .int (nI i)), (2, .ref 111), (1, .ref 0), (0, .float 4)]) (st2 := [.int (nI i), .float 4, .ref 111]) (w3 := w1) rfl rfl ?_
  refine sx_RP.step (pc2 := 631) (ls2 := [(3, .int (nI i)), (2, .ref 111), (1, .ref 0), (0, .float 4)]) (st2 := [.int 1, .int (nI i), .float 4, .ref 111]) (w3 := w1) rfl rfl ?_
  refine sx_RP.step (pc2 := 632) (ls2 := [(3, .int (nI i)), (2, .ref 111), (1, .ref 0), (0, .float 4)]) (st2 := [.int ((nI i) + 1), .float 4, .ref 111]) (w3 := w1) rfl rfl ?_
  rw [show ((nI i) + 1 : Int32) = nI (i + 1) from nI_add i 1]
  refine sx_RP.scr (x := (i + 1)) rfl (by omega) hl (show _ = 633 from rfl) ?_
  refine sx_RP.callp (as2 := [.ref 111, .int (ys.getD ((i + 1)) 0)]) (rest2 := []) rfl rfl (sx_inv_v2 (mi := 246) (k := 66) (st := [.int (ys.getD ((i + 1)) 0), .ref 111]) (w := w1) rfl rfl hI2.1.o111 rfl rfl rfl) rfl rfl rfl (sx_RP.byk (r164 (d := 1) hI2 hR6 hC.1.1.wb (ys.getD ((i + 1)) 0))) (show _ = 636 from rfl) ?_
  rintro r4 w8 ⟨⟨rfl, hI9, ⟨hR10, lo11⟩⟩, hbk12⟩
  have hL13 : LI w8 := ⟨_, hC3.lo hI2 lo11, hR10, hbk12 hb7⟩
  show sx_RP _ _ _ _ _ [.int (ntsA s.1 (ys.getD ((i + 1)) 0))] _ _
  refine sx_RP.step (pc2 := 637) (ls2 := [(3, .int (nI i)), (2, .ref 111), (1, .ref 0), (0, .float 4)]) (st2 := []) (w3 := w8) rfl rfl ?_
  refine sx_RP.step (pc2 := 1539) (ls2 := [(3, .int (nI i)), (2, .ref 111), (1, .ref 0), (0, .float 4)]) (st2 := []) (w3 := w8) rfl rfl ?_
  exact kk w8 hI9 hL13
set_option maxRecDepth 20000 in
set_option maxHeartbeats 4000000 in
theorem lc12 {ys : List Int32} {i : Nat} {w : List sx_C} {P : Option Value → List sx_C → Prop} (hl : ys.length ≤ 3072) (hn : i + 6 ≤ ys.length) (hI : WI w) (hL : LI w) (kk : ∀ w2, WI w2 → LI w2 → sx_RP (some ys) 9 246 1539 [(3, .int (nI i)), (2, .ref 111), (1, .ref 0), (0, .float 4)] [] w2 P) : sx_RP (some ys) 9 246 640 [(3, .int (nI i)), (2, .ref 111), (1, .ref 0), (0, .float 4)] [] w P := by
  obtain ⟨s, hC, hR, hb⟩ := hL
  refine sx_RP.step (pc2 := 641) (ls2 := [(3, .int (nI i)), (2, .ref 111), (1, .ref 0), (0, .float 4)]) (st2 := [.ref 0]) (w3 := w) rfl rfl ?_
  refine sx_RP.step (pc2 := 642) (ls2 := [(3, .int (nI i)), (2, .ref 111), (1, .ref 0), (0, .float 4)]) (st2 := [.float 4, .ref 0]) (w3 := w) rfl rfl ?_
  refine sx_RP.step (pc2 := 643) (ls2 := [(3, .int (nI i)), (2, .ref 111), (1, .ref 0), (0, .float 4)]) (st2 := [.int (nI i), .float 4, .ref 0]) (w3 := w) rfl rfl ?_
  refine sx_RP.step (pc2 := 644) (ls2 := [(3, .int (nI i)), (2, .ref 111), (1, .ref 0), (0, .float 4)]) (st2 := [.int 1, .int (nI i), .float 4, .ref 0]) (w3 := w) rfl rfl ?_
  refine sx_RP.step (pc2 := 645) (ls2 := [(3, .int (nI i)), (2, .ref 111), (1, .ref 0), (0, .float 4)]) (st2 := [.int ((nI i) + 1), .float 4, .ref 0]) (w3 := w) rfl rfl ?_
  rw [show ((nI i) + 1 : Int32) = nI (i + 1) from nI_add i 1]
  refine sx_RP.scr (x := (i + 1)) rfl (by omega) hl (show _ = 646 from rfl) ?_
  refine sx_RP.callp (as2 := [.ref 0, .int (ys.getD ((i + 1)) 0)]) (rest2 := []) rfl rfl (sx_inv_v2 (mi := 246) (k := 67) (st := [.int (ys.getD ((i + 1)) 0), .ref 0]) (w := w) rfl rfl hI.1.o0 rfl rfl rfl) rfl rfl rfl (sx_RP.byk (c48 (d := 1) hI hC (ys.getD ((i + 1)) 0))) (show _ = 649 from rfl) ?_
  rintro r4 w1 ⟨⟨⟨v3, rfl⟩, hI2, ⟨hC4, hi5⟩⟩, hbk6⟩
  have hR7 := hR.hi hi5
  have hb8 := hbk6 hb
  show sx_RP _ _ _ _ _ [.int v3] _ _
  refine sx_RP.step (pc2 := 650) (ls2 := [(3, .int (nI i)), (2, .ref 111), (1, .ref 0), (0, .float 4)]) (st2 := []) (w3 := w1) rfl rfl ?_
  refine sx_RP.step (pc2 := 651) (ls2 := [(3, .int (nI i)), (2, .ref 111), (1, .ref 0), (0, .float 4)]) (st2 := [.ref 111]) (w3 := w1) rfl rfl ?_
  refine sx_RP.step (pc2 := 652) (ls2 := [(3, .int (nI i)), (2, .ref 111), (1, .ref 0), (0, .float 4)]) (st2 := [.float 4, .ref 111]) (w3 := w1) rfl rfl ?_
  refine sx_RP.step (pc2 := 653) (ls2 := [(3, .int (nI i)), (2, .ref 111), (1, .ref 0), (0, .float 4)]) (st2 := [.int (nI i), .float 4, .ref 111]) (w3 := w1) rfl rfl ?_
  refine sx_RP.step (pc2 := 654) (ls2 := [(3, .int (nI i)), (2, .ref 111), (1, .ref 0), (0, .float 4)]) (st2 := [.int 1, .int (nI i), .float 4, .ref 111]) (w3 := w1) rfl rfl ?_
  refine sx_RP.step (pc2 := 655) (ls2 := [(3, .int (nI i)), (2, .ref 111), (1, .ref 0), (0, .float 4)]) (st2 := [.int ((nI i) + 1), .float 4, .ref 111]) (w3 := w1) rfl rfl ?_
  rw [show ((nI i) + 1 : Int32) = nI (i + 1) from nI_add i 1]
  refine sx_RP.scr (x := (i + 1)) rfl (by omega) hl (show _ = 656 from rfl) ?_
  refine sx_RP.callp (as2 := [.ref 111, .int (ys.getD ((i + 1)) 0)]) (rest2 := []) rfl rfl (sx_inv_v2 (mi := 246) (k := 70) (st := [.int (ys.getD ((i + 1)) 0), .ref 111]) (w := w1) rfl rfl hI2.1.o111 rfl rfl rfl) rfl rfl rfl (sx_RP.byk (r173 (d := 1) hI2 hR7 (ys.getD ((i + 1)) 0))) (show _ = 659 from rfl) ?_
  rintro r4 w9 ⟨⟨⟨v11, rfl⟩, hI10, ⟨hR12, lo13⟩⟩, hbk14⟩
  have hL15 : LI w9 := ⟨_, hC4.lo hI2 lo13, hR12, hbk14 hb8⟩
  show sx_RP _ _ _ _ _ [.int v11] _ _
  refine sx_RP.step (pc2 := 660) (ls2 := [(3, .int (nI i)), (2, .ref 111), (1, .ref 0), (0, .float 4)]) (st2 := []) (w3 := w9) rfl rfl ?_
  refine sx_RP.step (pc2 := 1539) (ls2 := [(3, .int (nI i)), (2, .ref 111), (1, .ref 0), (0, .float 4)]) (st2 := []) (w3 := w9) rfl rfl ?_
  exact kk w9 hI10 hL15
set_option maxRecDepth 20000 in
set_option maxHeartbeats 4000000 in
theorem lc13 {ys : List Int32} {i : Nat} {w : List sx_C} {P : Option Value → List sx_C → Prop} (hl : ys.length ≤ 3072) (hn : i + 6 ≤ ys.length) (hI : WI w) (hL : LI w) (kk : ∀ w2, WI w2 → LI w2 → sx_RP (some ys) 9 246 1539 [(3, .int (nI i)), (2, .ref 111), (1, .ref 0), (0, .float 4)] [] w2 P) : sx_RP (some ys) 9 246 663 [(3, .int (nI i)), (2, .ref 111), (1, .ref 0), (0, .float 4)] [] w P := by
  obtain ⟨s, hC, hR, hb⟩ := hL
  refine sx_RP.step (pc2 := 664) (ls2 := [(3, .int (nI i)), (2, .ref 111), (1, .ref 0), (0, .float 4)]) (st2 := [.ref 0]) (w3 := w) rfl rfl ?_
  refine sx_RP.step (pc2 := 665) (ls2 := [(3, .int (nI i)), (2, .ref 111), (1, .ref 0), (0, .float 4)]) (st2 := [.float 4, .ref 0]) (w3 := w) rfl rfl ?_
  refine sx_RP.step (pc2 := 666) (ls2 := [(3, .int (nI i)), (2, .ref 111), (1, .ref 0), (0, .float 4)]) (st2 := [.int (nI i), .float 4, .ref 0]) (w3 := w) rfl rfl ?_
  refine sx_RP.step (pc2 := 667) (ls2 := [(3, .int (nI i)), (2, .ref 111), (1, .ref 0), (0, .float 4)]) (st2 := [.int 1, .int (nI i), .float 4, .ref 0]) (w3 := w) rfl rfl ?_
  refine sx_RP.step (pc2 := 668) (ls2 := [(3, .int (nI i)), (2, .ref 111), (1, .ref 0), (0, .float 4)]) (st2 := [.int ((nI i) + 1), .float 4, .ref 0]) (w3 := w) rfl rfl ?_
  rw [show ((nI i) + 1 : Int32) = nI (i + 1) from nI_add i 1]
  refine sx_RP.scr (x := (i + 1)) rfl (by omega) hl (show _ = 669 from rfl) ?_
  refine sx_RP.step (pc2 := 670) (ls2 := [(3, .int (nI i)), (2, .ref 111), (1, .ref 0), (0, .float 4)]) (st2 := [.float 4, .int (ys.getD ((i + 1)) 0), .ref 0]) (w3 := w) rfl rfl ?_
  refine sx_RP.step (pc2 := 671) (ls2 := [(3, .int (nI i)), (2, .ref 111), (1, .ref 0), (0, .float 4)]) (st2 := [.int (nI i), .float 4, .int (ys.getD ((i + 1)) 0), .ref 0]) (w3 := w) rfl rfl ?_
  refine sx_RP.step (pc2 := 672) (ls2 := [(3, .int (nI i)), (2, .ref 111), (1, .ref 0), (0, .float 4)]) (st2 := [.int 2, .int (nI i), .float 4, .int (ys.getD ((i + 1)) 0), .ref 0]) (w3 := w) rfl rfl ?_
  refine sx_RP.step (pc2 := 673) (ls2 := [(3, .int (nI i)), (2, .ref 111), (1, .ref 0), (0, .float 4)]) (st2 := [.int ((nI i) + 2), .float 4, .int (ys.getD ((i + 1)) 0), .ref 0]) (w3 := w) rfl rfl ?_
  rw [show ((nI i) + 2 : Int32) = nI (i + 2) from nI_add i 2]
  refine sx_RP.scr (x := (i + 2)) rfl (by omega) hl (show _ = 674 from rfl) ?_
  refine sx_RP.callp (as2 := [.ref 0, .int (ys.getD ((i + 1)) 0), .int (ys.getD ((i + 2)) 0)]) (rest2 := []) rfl rfl (sx_inv_v2 (mi := 246) (k := 71) (st := [.int (ys.getD ((i + 2)) 0), .int (ys.getD ((i + 1)) 0), .ref 0]) (w := w) rfl rfl hI.1.o0 rfl rfl rfl) rfl rfl rfl (sx_RP.byk (c49 (d := 1) hI hC (ys.getD ((i + 1)) 0) (ys.getD ((i + 2)) 0))) (show _ = 677 from rfl) ?_
  rintro r4 w1 ⟨⟨⟨v3, rfl⟩, hI2, ⟨hC4, hi5⟩⟩, hbk6⟩
  have hR7 := hR.hi hi5
  have hb8 := hbk6 hb
  show sx_RP _ _ _ _ _ [.int v3] _ _
  refine sx_RP.step (pc2 := 678) (ls2 := [(3, .int (nI i)), (2, .ref 111), (1, .ref 0), (0, .float 4)]) (st2 := []) (w3 := w1) rfl rfl ?_
  refine sx_RP.step (pc2 := 679) (ls2 := [(3, .int (nI i)), (2, .ref 111), (1, .ref 0), (0, .float 4)]) (st2 := [.ref 111]) (w3 := w1) rfl rfl ?_
  refine sx_RP.step (pc2 := 680) (ls2 := [(3, .int (nI i)), (2, .ref 111), (1, .ref 0), (0, .float 4)]) (st2 := [.float 4, .ref 111]) (w3 := w1) rfl rfl ?_
  refine sx_RP.step (pc2 := 681) (ls2 := [(3, .int (nI i)), (2, .ref 111), (1, .ref 0), (0, .float 4)]) (st2 := [.int (nI i), .float 4, .ref 111]) (w3 := w1) rfl rfl ?_
  refine sx_RP.step (pc2 := 682) (ls2 := [(3, .int (nI i)), (2, .ref 111), (1, .ref 0), (0, .float 4)]) (st2 := [.int 1, .int (nI i), .float 4, .ref 111]) (w3 := w1) rfl rfl ?_
  refine sx_RP.step (pc2 := 683) (ls2 := [(3, .int (nI i)), (2, .ref 111), (1, .ref 0), (0, .float 4)]) (st2 := [.int ((nI i) + 1), .float 4, .ref 111]) (w3 := w1) rfl rfl ?_
  rw [show ((nI i) + 1 : Int32) = nI (i + 1) from nI_add i 1]
  refine sx_RP.scr (x := (i + 1)) rfl (by omega) hl (show _ = 684 from rfl) ?_
  refine sx_RP.step (pc2 := 685) (ls2 := [(3, .int (nI i)), (2, .ref 111), (1, .ref 0), (0, .float 4)]) (st2 := [.float 4, .int (ys.getD ((i + 1)) 0), .ref 111]) (w3 := w1) rfl rfl ?_
  refine sx_RP.step (pc2 := 686) (ls2 := [(3, .int (nI i)), (2, .ref 111), (1, .ref 0), (0, .float 4)]) (st2 := [.int (nI i), .float 4, .int (ys.getD ((i + 1)) 0), .ref 111]) (w3 := w1) rfl rfl ?_
  refine sx_RP.step (pc2 := 687) (ls2 := [(3, .int (nI i)), (2, .ref 111), (1, .ref 0), (0, .float 4)]) (st2 := [.int 2, .int (nI i), .float 4, .int (ys.getD ((i + 1)) 0), .ref 111]) (w3 := w1) rfl rfl ?_
  refine sx_RP.step (pc2 := 688) (ls2 := [(3, .int (nI i)), (2, .ref 111), (1, .ref 0), (0, .float 4)]) (st2 := [.int ((nI i) + 2), .float 4, .int (ys.getD ((i + 1)) 0), .ref 111]) (w3 := w1) rfl rfl ?_
  rw [show ((nI i) + 2 : Int32) = nI (i + 2) from nI_add i 2]
  refine sx_RP.scr (x := (i + 2)) rfl (by omega) hl (show _ = 689 from rfl) ?_
  refine sx_RP.callp (as2 := [.ref 111, .int (ys.getD ((i + 1)) 0), .int (ys.getD ((i + 2)) 0)]) (rest2 := []) rfl rfl (sx_inv_v2 (mi := 246) (k := 74) (st := [.int (ys.getD ((i + 2)) 0), .int (ys.getD ((i + 1)) 0), .ref 111]) (w := w1) rfl rfl hI2.1.o111 rfl rfl rfl) rfl rfl rfl (sx_RP.byk (r174 (d := 1) hI2 hR7 (ys.getD ((i + 1)) 0) (ys.getD ((i + 2)) 0))) (show _ = 692 from rfl) ?_
  rintro r4 w9 ⟨⟨⟨v11, rfl⟩, hI10, ⟨hR12, lo13⟩⟩, hbk14⟩
  have hL15 : LI w9 := ⟨_, hC4.lo hI2 lo13, hR12, hbk14 hb8⟩
  show sx_RP _ _ _ _ _ [.int v11] _ _
  refine sx_RP.step (pc2 := 693) (ls2 := [(3, .int (nI i)), (2, .ref 111), (1, .ref 0), (0, .float 4)]) (st2 := []) (w3 := w9) rfl rfl ?_
  refine sx_RP.step (pc2 := 1539) (ls2 := [(3, .int (nI i)), (2, .ref 111), (1, .ref 0), (0, .float 4)]) (st2 := []) (w3 := w9) rfl rfl ?_
  exact kk w9 hI10 hL15
set_option maxRecDepth 20000 in
set_option maxHeartbeats 4000000 in
theorem lc14 {ys : List Int32} {i : Nat} {w : List sx_C} {P : Option Value → List sx_C → Prop} (hl : ys.length ≤ 3072) (hn : i + 6 ≤ ys.length) (hI : WI w) (hL : LI w) (kk : ∀ w2, WI w2 → LI w2 → sx_RP (some ys) 9 246 1539 [(3, .int (nI i)), (2, .ref 111), (1, .ref 0), (0, .float 4)] [] w2 P) : sx_RP (some ys) 9 246 696 [(3, .int (nI i)), (2, .ref 111), (1, .ref 0), (0, .float 4)] [] w P := by
  obtain ⟨s, hC, hR, hb⟩ := hL
  refine sx_RP.step (pc2 := 697) (ls2 := [(3, .int (nI i)), (2, .ref 111), (1, .ref 0), (0, .float 4)]) (st2 := [.ref 0]) (w3 := w) rfl rfl ?_
  refine sx_RP.step (pc2 := 698) (ls2 := [(3, .int (nI i)), (2, .ref 111), (1, .ref 0), (0, .float 4)]) (st2 := [.float 4, .ref 0]) (w3 := w) rfl rfl ?_
  refine sx_RP.step (pc2 := 699) (ls2 := [(3, .int (nI i)), (2, .ref 111), (1, .ref 0), (0, .float 4)]) (st2 := [.int (nI i), .float 4, .ref 0]) (w3 := w) rfl rfl ?_
  refine sx_RP.step (pc2 := 700) (ls2 := [(3, .int (nI i)), (2, .ref 111), (1, .ref 0), (0, .float 4)]) (st2 := [.int 1, .int (nI i), .float 4, .ref 0]) (w3 := w) rfl rfl ?_
  refine sx_RP.step (pc2 := 701) (ls2 := [(3, .int (nI i)), (2, .ref 111), (1, .ref 0), (0, .float 4)]) (st2 := [.int ((nI i) + 1), .float 4, .ref 0]) (w3 := w) rfl rfl ?_
  rw [show ((nI i) + 1 : Int32) = nI (i + 1) from nI_add i 1]
  refine sx_RP.scr (x := (i + 1)) rfl (by omega) hl (show _ = 702 from rfl) ?_
  refine sx_RP.callp (as2 := [.ref 0, .int (ys.getD ((i + 1)) 0)]) (rest2 := []) rfl rfl (sx_inv_v2 (mi := 246) (k := 75) (st := [.int (ys.getD ((i + 1)) 0), .ref 0]) (w := w) rfl rfl hI.1.o0 rfl rfl rfl) rfl rfl rfl (sx_RP.byk (c52 (d := 1) hI hC (ys.getD ((i + 1)) 0))) (show _ = 705 from rfl) ?_
  rintro r4 w1 ⟨⟨⟨v3, rfl⟩, hI2, ⟨hC4, hi5⟩⟩, hbk6⟩
  have hR7 := hR.hi hi5
  have hb8 := hbk6 hb
  show sx_RP _ _ _ _ _ [.int v3] _ _
  refine sx_RP.step (pc2 := 706) (ls2 := [(3, .int (nI i)), (2, .ref 111), (1, .ref 0), (0, .float 4)]) (st2 := []) (w3 := w1) rfl rfl ?_
  refine sx_RP.step (pc2 := 707) (ls2 := [(3, .int (nI i)), (2, .ref 111), (1, .ref 0), (0, .float 4)]) (st2 := [.ref 111]) (w3 := w1) rfl rfl ?_
  refine sx_RP.step (pc2 := 708) (ls2 := [(3, .int (nI i)), (2, .ref 111), (1, .ref 0), (0, .float 4)]) (st2 := [.float 4, .ref 111]) (w3 := w1) rfl rfl ?_
  refine sx_RP.step (pc2 := 709) (ls2 := [(3, .int (nI i)), (2, .ref 111), (1, .ref 0), (0, .float 4)]) (st2 := [.int (nI i), .float 4, .ref 111]) (w3 := w1) rfl rfl ?_
  refine sx_RP.step (pc2 := 710) (ls2 := [(3, .int (nI i)), (2, .ref 111), (1, .ref 0), (0, .float 4)]) (st2 := [.int 1, .int (nI i), .float 4, .ref 111]) (w3 := w1) rfl rfl ?_
  refine sx_RP.step (pc2 := 711) (ls2 := [(3, .int (nI i)), (2, .ref 111), (1, .ref 0), (0, .float 4)]) (st2 := [.int ((nI i) + 1), .float 4, .ref 111]) (w3 := w1) rfl rfl ?_
  rw [show ((nI i) + 1 : Int32) = nI (i + 1) from nI_add i 1]
  refine sx_RP.scr (x := (i + 1)) rfl (by omega) hl (show _ = 712 from rfl) ?_
  refine sx_RP.callp (as2 := [.ref 111, .int (ys.getD ((i + 1)) 0)]) (rest2 := []) rfl rfl (sx_inv_v2 (mi := 246) (k := 78) (st := [.int (ys.getD ((i + 1)) 0), .ref 111]) (w := w1) rfl rfl hI2.1.o111 rfl rfl rfl) rfl rfl rfl (sx_RP.byk (r176 (d := 1) hI2 hR7 (ys.getD ((i + 1)) 0))) (show _ = 715 from rfl) ?_
  rintro r4 w9 ⟨⟨⟨v11, rfl⟩, hI10, ⟨hR12, lo13⟩⟩, hbk14⟩
  have hL15 : LI w9 := ⟨_, hC4.lo hI2 lo13, hR12, hbk14 hb8⟩
  show sx_RP _ _ _ _ _ [.int v11] _ _
  refine sx_RP.step (pc2 := 716) (ls2 := [(3, .int (nI i)), (2, .ref 111), (1, .ref 0), (0, .float 4)]) (st2 := []) (w3 := w9) rfl rfl ?_
  refine sx_RP.step (pc2 := 1539) (ls2 := [(3, .int (nI i)), (2, .ref 111), (1, .ref 0), (0, .float 4)]) (st2 := []) (w3 := w9) rfl rfl ?_
  exact kk w9 hI10 hL15
end
