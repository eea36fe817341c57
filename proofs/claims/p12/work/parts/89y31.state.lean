-- the state of both sides
theorem sx_between {a : Int32} (h : 0 ≤ a ∧ a ≤ 3) : ∃ s, s < 4 ∧ a = nI s := by
  rw [Int32.le_iff_toInt_le, Int32.le_iff_toInt_le] at h
  have h1 : (0 : Int32).toInt = 0 := by decide
  have h2 : (3 : Int32).toInt = 3 := by decide
  refine ⟨a.toInt.toNat, by omega, ?_⟩
  rw [← Int32.toInt_inj, nI_toInt (by omega)]
  omega
abbrev ST := List Int32 × Int32 × List Int32 × List Int32 × (Nat → Int32 × Int32) × (Nat → Nat → Int64)
def CLS (w : List sx_C) (s : ST) : Prop := (rel w 1 s.1 ∧ fi w 0 3 = s.2.1 ∧ (s.2.1 = 1 → rel w 15 s.2.2.1)) ∧ (tapC w = s.2.2.2.1 ∧ FCs w = s.2.2.2.2.1 ∧ NCs w = s.2.2.2.2.2) ∧ SK w
def REF (w : List sx_C) (s : ST) : Prop := (ia w 112 = s.1 ∧ fi w 111 4 = s.2.1 ∧ (s.2.1 = 1 → ia w 113 = s.2.2.1)) ∧ (tapM w = s.2.2.2.1 ∧ FMs w = s.2.2.2.2.1 ∧ NMs w = s.2.2.2.2.2)
theorem tapC_eq {w w2 : List sx_C} (h1 : w2[96]? = w[96]?) (h2 : w2[97]? = w[97]?) : tapC w2 = tapC w := by
  unfold tapC
  rw [fi_same 1 h1, ia_of h2]
theorem tapM_eq {w w2 : List sx_C} (h1 : fi w2 111 11 = fi w 111 11) (h2 : w2[121]? = w[121]?) : tapM w2 = tapM w := by
  unfold tapM
  rw [h1, ia_of h2]
theorem isA15 : isA 15 := Or.inr (Or.inl rfl)
theorem isA1 : isA 1 := Or.inl rfl
section SXST
variable {w w2 : List sx_C} {s : ST}
theorem CLS.fr (h : CLS w s) (hI : WI w) (hE : ∀ a, (a < 29 ∨ a = 96 ∨ a = 97 ∨ (103 ≤ a ∧ a < 111)) → w2[a]? = w[a]?) (hK : SK w → SK w2) : CLS w2 s :=
  ⟨⟨h.1.1.same hI isA1 (fun a _ _ => hE a (by omega)), (fi_same 3 (hE 0 (by omega))).trans h.1.2.1, fun k => (h.1.2.2 k).same hI isA15 (fun a _ _ => hE a (by omega))⟩, ⟨(tapC_eq (hE 96 (by omega)) (hE 97 (by omega))).trans h.2.1.1, (FCs_eq (fun q hq => hE _ (by omega))).trans h.2.1.2.1, (NCs_eq (fun q hq => hE _ (by omega))).trans h.2.1.2.2⟩, hK h.2.2⟩
theorem CLS.lo (h : CLS w s) (hI : WI w) (hE : ∀ a, a < 111 → w2[a]? = w[a]?) : CLS w2 s := h.fr hI (fun a ha => hE a (by omega)) (fun z => z.same (fun a _ _ => hE a (by omega)))
theorem CLS.es (h : CLS w s) (hI : WI w) (hE : ES w w2) : CLS w2 s := h.fr hI (fun a ha => hE.1 a (by unfold qc; omega)) hE.2
theorem CLS.row {l2 : List Int32} (h : CLS w s) (hI : WI w) (hr : rel w2 1 l2) (hE : EO w w2) : CLS w2 (l2, s.2) :=
  ⟨⟨hr, (fi_same 3 (hE 0 (by unfold oc; omega))).trans h.1.2.1, fun k => (h.1.2.2 k).same hI isA15 (fun a _ _ => hE a (by unfold oc; omega))⟩, ⟨(tapC_eq (hE 96 (by unfold oc; omega)) (hE 97 (by unfold oc; omega))).trans h.2.1.1, (FCs_eq (fun q hq => hE _ (by unfold oc; omega))).trans h.2.1.2.1, (NCs_eq (fun q hq => hE _ (by unfold oc; omega))).trans h.2.1.2.2⟩, h.2.2.same (fun a _ _ => hE a (by unfold oc; omega))⟩
theorem CLS.sh {F2 : Nat → Int32 × Int32} {N2 : Nat → Nat → Int64} (h : CLS w s) (hI : WI w) (hF : FCs w2 = F2) (hN : NCs w2 = N2) (hK : SK w2) (hE : ∀ a, (a < 29 ∨ a = 96 ∨ a = 97) → w2[a]? = w[a]?) : CLS w2 (s.1, s.2.1, s.2.2.1, s.2.2.2.1, F2, N2) :=
  ⟨⟨h.1.1.same hI isA1 (fun a _ _ => hE a (by omega)), (fi_same 3 (hE 0 (by omega))).trans h.1.2.1, fun k => (h.1.2.2 k).same hI isA15 (fun a _ _ => hE a (by omega))⟩, ⟨(tapC_eq (hE 96 (by omega)) (hE 97 (by omega))).trans h.2.1.1, hF, hN⟩, hK⟩
theorem CLS.tp {l2 t2 : List Int32} (h : CLS w s) (hI : WI w) (hr : rel w2 1 l2) (ht : tapC w2 = t2) (hE : ∀ a, (a = 0 ∨ (15 ≤ a ∧ a < 29) ∨ (44 ≤ a ∧ a < 96) ∨ (103 ≤ a ∧ a < 111)) → w2[a]? = w[a]?) : CLS w2 (l2, s.2.1, s.2.2.1, t2, s.2.2.2.2) :=
  ⟨⟨hr, (fi_same 3 (hE 0 (by omega))).trans h.1.2.1, fun k => (h.1.2.2 k).same hI isA15 (fun a _ _ => hE a (by omega))⟩, ⟨ht, (FCs_eq (fun q hq => hE _ (by omega))).trans h.2.1.2.1, (NCs_eq (fun q hq => hE _ (by omega))).trans h.2.1.2.2⟩, h.2.2.same (fun a _ _ => hE a (by omega))⟩
theorem REF.fr (h : REF w s) (hi : ia w2 112 = ia w 112) (hE : ∀ a, (a = 111 ∨ a = 113 ∨ 121 ≤ a) → w2[a]? = w[a]?) : REF w2 s :=
  ⟨⟨hi.trans h.1.1, (fi_same 4 (hE 111 (by omega))).trans h.1.2.1, fun k => (ia_of (hE 113 (by omega))).trans (h.1.2.2 k)⟩, ⟨(tapM_eq (fi_same 11 (hE 111 (by omega))) (hE 121 (by omega))).trans h.2.1, (FMs_eq (hE 122 (by omega)) (hE 123 (by omega))).trans h.2.2.1, (NMs_eq (hE 124 (by omega))).trans h.2.2.2⟩⟩
theorem REF.hi (h : REF w s) (hE : ∀ a, 111 ≤ a → w2[a]? = w[a]?) : REF w2 s := h.fr (ia_of (hE 112 (by omega))) (fun a ha => hE a (by omega))
theorem REF.ez (h : REF w s) (hE : EZ w w2) : REF w2 s := h.fr (ia_of (hE 112 (by unfold zc; omega))) (fun a ha => hE a (by unfold zc; omega))
theorem REF.ezl (h : REF w s) (hE : EZL w w2) : REF w2 s := h.fr hE.2 (fun a ha => hE.1 a (by unfold yc; omega) (by omega))
theorem REF.row {l2 : List Int32} (h : REF w s) (hr : ia w2 112 = l2) (hE : EOm w w2) : REF w2 (l2, s.2) :=
  ⟨⟨hr, (fi_same 4 (hE 111 (by unfold ocm; omega))).trans h.1.2.1, fun k => (ia_of (hE 113 (by unfold ocm; omega))).trans (h.1.2.2 k)⟩, ⟨(tapM_eq (fi_same 11 (hE 111 (by unfold ocm; omega))) (hE 121 (by unfold ocm; omega))).trans h.2.1, (FMs_eq (hE 122 (by unfold ocm; omega)) (hE 123 (by unfold ocm; omega))).trans h.2.2.1, (NMs_eq (hE 124 (by unfold ocm; omega))).trans h.2.2.2⟩⟩
theorem REF.sh {F2 : Nat → Int32 × Int32} {N2 : Nat → Nat → Int64} (h : REF w s) (hF : FMs w2 = F2) (hN : NMs w2 = N2) (hE : ∀ a, (a = 111 ∨ a = 112 ∨ a = 113 ∨ a = 121) → w2[a]? = w[a]?) : REF w2 (s.1, s.2.1, s.2.2.1, s.2.2.2.1, F2, N2) :=
  ⟨⟨(ia_of (hE 112 (by omega))).trans h.1.1, (fi_same 4 (hE 111 (by omega))).trans h.1.2.1, fun k => (ia_of (hE 113 (by omega))).trans (h.1.2.2 k)⟩, ⟨(tapM_eq (fi_same 11 (hE 111 (by omega))) (hE 121 (by omega))).trans h.2.1, hF, hN⟩⟩
theorem REF.tp {l2 t2 : List Int32} (h : REF w s) (hr : ia w2 112 = l2) (ht : tapM w2 = t2) (h4 : fi w2 111 4 = fi w 111 4) (hE : ∀ a, (a = 113 ∨ 122 ≤ a) → w2[a]? = w[a]?) : REF w2 (l2, s.2.1, s.2.2.1, t2, s.2.2.2.2) :=
  ⟨⟨hr, h4.trans h.1.2.1, fun k => (ia_of (hE 113 (by omega))).trans (h.1.2.2 k)⟩, ⟨ht, (FMs_eq (hE 122 (by omega)) (hE 123 (by omega))).trans h.2.2.1, (NMs_eq (hE 124 (by omega))).trans h.2.2.2⟩⟩
end SXST
/-- the tape's bytes -/
def TT (t : List Int32) : Prop := ∀ i, i < t.length → ∃ j, j < 256 ∧ t.getD i 0 = nI j
theorem TT_of {w : List sx_C} (hI : WI w) (hY : TBy w) : TT (tapC w) := by
  intro i hi
  obtain ⟨n, hn, en⟩ := hI.t.1
  have hl : (tapC w).length = n := tapC_len en hn
  rw [hl] at hi
  obtain ⟨j, hj, ej⟩ := hY i
  refine ⟨j, hj, ?_⟩
  unfold tapC
  rw [map_at (by rw [en, iN_n (by omega)]; exact hi), ej]
  exact sgn_and ⟨j, hj⟩
def feT (t : List Int32) (a1 a2 : Int32) : List Int32 := if 1 ≤ a2 ∧ a2 ≤ 4 then (if t.length + iN a2 ≤ 120 then t ++ bytesOf a1 (iN a2) else t) else t
theorem fe_T (t : BT) (a1 a2 : Int32) : (feeU t a1 a2).2.2.2 = feT t.2.2.2 a1 a2 := by
  unfold feeU feT
  split
  · split <;> rfl
  · rfl
theorem c6 {xs : Option (List Int32)} {d : Nat} {w : List sx_C} {s : ST} (hI : WI w) (hC : CLS w s) (a1 a2 : Int32) : sx_RP xs (d + 7) 6 0 (lv_args 0 [.ref 0, .int a1, .int a2]) [] w (fun r w2 => r = some (.int (gndA s.1 a1 a2)) ∧ WI w2 ∧ CLS w2 (gndR s.1 a1 a2, s.2) ∧ ∀ a, 111 ≤ a → w2[a]? = w[a]?) := by
  exact (Z6 hI s.1 hC.1.1 a1 a2).mono9 (fun r w2 z => ⟨z.1.1, z.2.1, hC.row hI z.1.2 z.2.2, fun a ha => z.2.2 a (by unfold oc; omega)⟩)
theorem r130 {xs : Option (List Int32)} {d : Nat} {w : List sx_C} {s : ST} (hI : WI w) (hR : REF w s) (a1 a2 : Int32) : sx_RP xs (d + 7) 130 0 (lv_args 0 [.ref 111, .int a1, .int a2]) [] w (fun r w2 => r = some (.int (gndA s.1 a1 a2)) ∧ WI w2 ∧ REF w2 (gndR s.1 a1 a2, s.2) ∧ ∀ a, a < 111 → w2[a]? = w[a]?) := by
  refine (Y130 hI a1 a2).mono9 (fun r w2 z => ⟨?_, z.2.1, hR.row ?_ z.2.2, fun a ha => z.2.2 a (by unfold ocm; omega)⟩)
  · rw [z.1.1, hR.1.1]
  · rw [z.1.2, hR.1.1]
theorem c28 {xs : Option (List Int32)} {d : Nat} {w : List sx_C} {s : ST} (hI : WI w) (hC : CLS w s) (a1 a2 : Int32) : sx_RP xs (d + 7) 28 0 (lv_args 0 [.ref 0, .int a1, .int a2]) [] w (fun r w2 => r = some (.int (turA s.1 a1 a2)) ∧ WI w2 ∧ CLS w2 (turR s.1 a1 a2, s.2) ∧ ∀ a, 111 ≤ a → w2[a]? = w[a]?) := by
  exact (Z28 hI s.1 hC.1.1 a1 a2).mono9 (fun r w2 z => ⟨z.1.1, z.2.1, hC.row hI z.1.2 z.2.2, fun a ha => z.2.2 a (by unfold oc; omega)⟩)
theorem r157 {xs : Option (List Int32)} {d : Nat} {w : List sx_C} {s : ST} (hI : WI w) (hR : REF w s) (a1 a2 : Int32) : sx_RP xs (d + 7) 157 0 (lv_args 0 [.ref 111, .int a1, .int a2]) [] w (fun r w2 => r = some (.int (turA s.1 a1 a2)) ∧ WI w2 ∧ REF w2 (turR s.1 a1 a2, s.2) ∧ ∀ a, a < 111 → w2[a]? = w[a]?) := by
  refine (Y157 hI a1 a2).mono9 (fun r w2 z => ⟨?_, z.2.1, hR.row ?_ z.2.2, fun a ha => z.2.2 a (by unfold ocm; omega)⟩)
  · rw [z.1.1, hR.1.1]
  · rw [z.1.2, hR.1.1]
theorem c29 {xs : Option (List Int32)} {d : Nat} {w : List sx_C} {s : ST} (hI : WI w) (hC : CLS w s) (a1 a2 : Int32) : sx_RP xs (d + 7) 29 0 (lv_args 0 [.ref 0, .int a1, .int a2]) [] w (fun r w2 => r = some (.int (bec2A s.1 a1 a2)) ∧ WI w2 ∧ CLS w2 (bec2R s.1 a1 a2, s.2) ∧ ∀ a, 111 ≤ a → w2[a]? = w[a]?) := by
  exact (Z29 hI s.1 hC.1.1 a1 a2).mono9 (fun r w2 z => ⟨z.1.1, z.2.1, hC.row hI z.1.2 z.2.2, fun a ha => z.2.2 a (by unfold oc; omega)⟩)
theorem r158 {xs : Option (List Int32)} {d : Nat} {w : List sx_C} {s : ST} (hI : WI w) (hR : REF w s) (a1 a2 : Int32) : sx_RP xs (d + 7) 158 0 (lv_args 0 [.ref 111, .int a1, .int a2]) [] w (fun r w2 => r = some (.int (bec2A s.1 a1 a2)) ∧ WI w2 ∧ REF w2 (bec2R s.1 a1 a2, s.2) ∧ ∀ a, a < 111 → w2[a]? = w[a]?) := by
  refine (Y158 hI a1 a2).mono9 (fun r w2 z => ⟨?_, z.2.1, hR.row ?_ z.2.2, fun a ha => z.2.2 a (by unfold ocm; omega)⟩)
  · rw [z.1.1, hR.1.1]
  · rw [z.1.2, hR.1.1]
theorem c21 {xs : Option (List Int32)} {d : Nat} {w : List sx_C} {s : ST} (hI : WI w) (hC : CLS w s) (a1 a2 a3 a4 : Int32) : sx_RP xs (d + 7) 21 0 (lv_args 0 [.ref 0, .int a1, .int a2, .int a3, .int a4]) [] w (fun r w2 => r = some (.int (gal2A s.1 a1 a2 a3 a4)) ∧ WI w2 ∧ CLS w2 (gal2R s.1 a1 a2 a3 a4, s.2) ∧ ∀ a, 111 ≤ a → w2[a]? = w[a]?) := by
  exact (Z21 hI s.1 hC.1.1 a1 a2 a3 a4).mono9 (fun r w2 z => ⟨z.1.1, z.2.1, hC.row hI z.1.2 z.2.2, fun a ha => z.2.2 a (by unfold oc; omega)⟩)
theorem r150 {xs : Option (List Int32)} {d : Nat} {w : List sx_C} {s : ST} (hI : WI w) (hR : REF w s) (a1 a2 a3 a4 : Int32) : sx_RP xs (d + 7) 150 0 (lv_args 0 [.ref 111, .int a1, .int a2, .int a3, .int a4]) [] w (fun r w2 => r = some (.int (gal2A s.1 a1 a2 a3 a4)) ∧ WI w2 ∧ REF w2 (gal2R s.1 a1 a2 a3 a4, s.2) ∧ ∀ a, a < 111 → w2[a]? = w[a]?) := by
  refine (Y150 hI a1 a2 a3 a4).mono9 (fun r w2 z => ⟨?_, z.2.1, hR.row ?_ z.2.2, fun a ha => z.2.2 a (by unfold ocm; omega)⟩)
  · rw [z.1.1, hR.1.1]
  · rw [z.1.2, hR.1.1]
theorem c62 {xs : Option (List Int32)} {d : Nat} {w : List sx_C} {s : ST} (hI : WI w) (hC : CLS w s) (a1 : Int32) : sx_RP xs (d + 7) 62 0 (lv_args 0 [.ref 0, .int a1]) [] w (fun r w2 => r = some (.int (dis2A s.1 a1)) ∧ WI w2 ∧ CLS w2 (dis2R s.1 a1, s.2) ∧ ∀ a, 111 ≤ a → w2[a]? = w[a]?) := by
  exact (Z62 hI s.1 hC.1.1 a1).mono9 (fun r w2 z => ⟨z.1.1, z.2.1, hC.row hI z.1.2 z.2.2, fun a ha => z.2.2 a (by unfold oc; omega)⟩)
theorem r184 {xs : Option (List Int32)} {d : Nat} {w : List sx_C} {s : ST} (hI : WI w) (hR : REF w s) (a1 : Int32) : sx_RP xs (d + 7) 184 0 (lv_args 0 [.ref 111, .int a1]) [] w (fun r w2 => r = some (.int (dis2A s.1 a1)) ∧ WI w2 ∧ REF w2 (dis2R s.1 a1, s.2) ∧ ∀ a, a < 111 → w2[a]? = w[a]?) := by
  refine (Y184 hI a1).mono9 (fun r w2 z => ⟨?_, z.2.1, hR.row ?_ z.2.2, fun a ha => z.2.2 a (by unfold ocm; omega)⟩)
  · rw [z.1.1, hR.1.1]
  · rw [z.1.2, hR.1.1]
theorem c65 {xs : Option (List Int32)} {d : Nat} {w : List sx_C} {s : ST} (hI : WI w) (hC : CLS w s) (a1 a2 : Int32) : sx_RP xs (d + 7) 65 0 (lv_args 0 [.ref 0, .int a1, .int a2]) [] w (fun r w2 => r = some (.int (mov2A s.1 a1 a2)) ∧ WI w2 ∧ CLS w2 (mov2R s.1 a1 a2, s.2) ∧ ∀ a, 111 ≤ a → w2[a]? = w[a]?) := by
  exact (Z65 hI s.1 hC.1.1 a1 a2).mono9 (fun r w2 z => ⟨z.1.1, z.2.1, hC.row hI z.1.2 z.2.2, fun a ha => z.2.2 a (by unfold oc; omega)⟩)
theorem r185 {xs : Option (List Int32)} {d : Nat} {w : List sx_C} {s : ST} (hI : WI w) (hR : REF w s) (a1 a2 : Int32) : sx_RP xs (d + 7) 185 0 (lv_args 0 [.ref 111, .int a1, .int a2]) [] w (fun r w2 => r = some (.int (mov2A s.1 a1 a2)) ∧ WI w2 ∧ REF w2 (mov2R s.1 a1 a2, s.2) ∧ ∀ a, a < 111 → w2[a]? = w[a]?) := by
  refine (Y185 hI a1 a2).mono9 (fun r w2 z => ⟨?_, z.2.1, hR.row ?_ z.2.2, fun a ha => z.2.2 a (by unfold ocm; omega)⟩)
  · rw [z.1.1, hR.1.1]
  · rw [z.1.2, hR.1.1]
theorem c82 {xs : Option (List Int32)} {d : Nat} {w : List sx_C} {s : ST} (hI : WI w) (hC : CLS w s) (a1 a2 : Int32) : sx_RP xs (d + 7) 82 0 (lv_args 0 [.ref 0, .int a1, .int a2]) [] w (fun r w2 => r = some (.int (bre2A s.1 a1 a2)) ∧ WI w2 ∧ CLS w2 (bre2R s.1 a1 a2, s.2) ∧ ∀ a, 111 ≤ a → w2[a]? = w[a]?) := by
  exact (Z82 hI s.1 hC.1.1 a1 a2).mono9 (fun r w2 z => ⟨z.1.1, z.2.1, hC.row hI z.1.2 z.2.2, fun a ha => z.2.2 a (by unfold oc; omega)⟩)
theorem r203 {xs : Option (List Int32)} {d : Nat} {w : List sx_C} {s : ST} (hI : WI w) (hR : REF w s) (a1 a2 : Int32) : sx_RP xs (d + 7) 203 0 (lv_args 0 [.ref 111, .int a1, .int a2]) [] w (fun r w2 => r = some (.int (bre2A s.1 a1 a2)) ∧ WI w2 ∧ REF w2 (bre2R s.1 a1 a2, s.2) ∧ ∀ a, a < 111 → w2[a]? = w[a]?) := by
  refine (Y203 hI a1 a2).mono9 (fun r w2 z => ⟨?_, z.2.1, hR.row ?_ z.2.2, fun a ha => z.2.2 a (by unfold ocm; omega)⟩)
  · rw [z.1.1, hR.1.1]
  · rw [z.1.2, hR.1.1]
theorem c39 {xs : Option (List Int32)} {d : Nat} {w : List sx_C} {s : ST} (hI : WI w) (hC : CLS w s) (a1 : Int32) : sx_RP xs (d + 7) 39 0 (lv_args 0 [.ref 0, .int a1]) [] w (fun r w2 => r = some (.int (ntsA s.1 a1)) ∧ WI w2 ∧ CLS w2 (ntsR s.1 a1, s.2) ∧ ∀ a, 111 ≤ a → w2[a]? = w[a]?) := by
  exact (Z39 hI s.1 hC.1.1 a1).mono9 (fun r w2 z => ⟨z.1.1, z.2.1, hC.row hI z.1.2 z.2.2, fun a ha => z.2.2 a (by unfold oc; omega)⟩)
theorem r164 {xs : Option (List Int32)} {d : Nat} {w : List sx_C} {s : ST} (hI : WI w) (hR : REF w s) (hW : WB s.1) (a1 : Int32) : sx_RP xs (d + 7) 164 0 (lv_args 0 [.ref 111, .int a1]) [] w (fun r w2 => r = some (.int (ntsA s.1 a1)) ∧ WI w2 ∧ REF w2 (ntsR s.1 a1, s.2) ∧ ∀ a, a < 111 → w2[a]? = w[a]?) := by
  refine (Y164 hI (by rw [hR.1.1]; exact hW) a1).mono9 (fun r w2 z => ⟨?_, z.2.1, hR.row ?_ z.2.2, fun a ha => z.2.2 a (by unfold ocm; omega)⟩)
  · rw [z.1.1, hR.1.1]
  · rw [z.1.2, hR.1.1]
theorem c79 {xs : Option (List Int32)} {d : Nat} {w : List sx_C} {s : ST} (hI : WI w) (hC : CLS w s) (a1 a2 : Int32) : sx_RP xs (d + 7) 79 0 (lv_args 0 [.ref 0, .int a1, .int a2]) [] w (fun r w2 => r = some (.int (blwA s.1 a1 a2)) ∧ WI w2 ∧ CLS w2 (blwR s.1 a1 a2, s.2) ∧ ∀ a, 111 ≤ a → w2[a]? = w[a]?) := by
  exact (Z79 hI s.1 hC.1.1 a1 a2).mono9 (fun r w2 z => ⟨z.1.1, z.2.1, hC.row hI z.1.2 z.2.2, fun a ha => z.2.2 a (by unfold oc; omega)⟩)
theorem r201 {xs : Option (List Int32)} {d : Nat} {w : List sx_C} {s : ST} (hI : WI w) (hR : REF w s) (a1 a2 : Int32) : sx_RP xs (d + 7) 201 0 (lv_args 0 [.ref 111, .int a1, .int a2]) [] w (fun r w2 => r = some (.int (blwA s.1 a1 a2)) ∧ WI w2 ∧ REF w2 (blwR s.1 a1 a2, s.2) ∧ ∀ a, a < 111 → w2[a]? = w[a]?) := by
  refine (Y201 hI a1 a2).mono9 (fun r w2 z => ⟨?_, z.2.1, hR.row ?_ z.2.2, fun a ha => z.2.2 a (by unfold ocm; omega)⟩)
  · rw [z.1.1, hR.1.1]
  · rw [z.1.2, hR.1.1]
theorem c10_0 {xs : Option (List Int32)} {d : Nat} {w : List sx_C} {s : ST} (hI : WI w) (hC : CLS w s) (a1 : Int32) : sx_RP xs (d + 7) 10 0 (lv_args 0 [.ref 0, .int a1, .int 0]) [] w (fun r w2 => r = some (.int (walA s.1 a1 0)) ∧ WI w2 ∧ CLS w2 (walR s.1 a1 0, s.2) ∧ ∀ a, 111 ≤ a → w2[a]? = w[a]?) := by
  exact (Z10_0 hI s.1 hC.1.1 a1).mono9 (fun r w2 z => ⟨z.1.1, z.2.1, hC.row hI z.1.2 z.2.2, fun a ha => z.2.2 a (by unfold oc; omega)⟩)
theorem r134_0 {xs : Option (List Int32)} {d : Nat} {w : List sx_C} {s : ST} (hI : WI w) (hR : REF w s) (a1 : Int32) : sx_RP xs (d + 7) 134 0 (lv_args 0 [.ref 111, .int a1, .int 0]) [] w (fun r w2 => r = some (.int (walA s.1 a1 0)) ∧ WI w2 ∧ REF w2 (walR s.1 a1 0, s.2) ∧ ∀ a, a < 111 → w2[a]? = w[a]?) := by
  refine (Y134_0 hI a1).mono9 (fun r w2 z => ⟨?_, z.2.1, hR.row ?_ z.2.2, fun a ha => z.2.2 a (by unfold ocm; omega)⟩)
  · rw [z.1.1, hR.1.1]
  · rw [z.1.2, hR.1.1]
theorem c10_1 {xs : Option (List Int32)} {d : Nat} {w : List sx_C} {s : ST} (hI : WI w) (hC : CLS w s) (a1 : Int32) : sx_RP xs (d + 7) 10 0 (lv_args 0 [.ref 0, .int a1, .int 1]) [] w (fun r w2 => r = some (.int (walA s.1 a1 1)) ∧ WI w2 ∧ CLS w2 (walR s.1 a1 1, s.2) ∧ ∀ a, 111 ≤ a → w2[a]? = w[a]?) := by
  exact (Z10_1 hI s.1 hC.1.1 a1).mono9 (fun r w2 z => ⟨z.1.1, z.2.1, hC.row hI z.1.2 z.2.2, fun a ha => z.2.2 a (by unfold oc; omega)⟩)
theorem r134_1 {xs : Option (List Int32)} {d : Nat} {w : List sx_C} {s : ST} (hI : WI w) (hR : REF w s) (a1 : Int32) : sx_RP xs (d + 7) 134 0 (lv_args 0 [.ref 111, .int a1, .int 1]) [] w (fun r w2 => r = some (.int (walA s.1 a1 1)) ∧ WI w2 ∧ REF w2 (walR s.1 a1 1, s.2) ∧ ∀ a, a < 111 → w2[a]? = w[a]?) := by
  refine (Y134_1 hI a1).mono9 (fun r w2 z => ⟨?_, z.2.1, hR.row ?_ z.2.2, fun a ha => z.2.2 a (by unfold ocm; omega)⟩)
  · rw [z.1.1, hR.1.1]
  · rw [z.1.2, hR.1.1]
theorem c120 {xs : Option (List Int32)} {d : Nat} {w : List sx_C} {s : ST} (hI : WI w) (hC : CLS w s) (a1 a2 : Int32) : sx_RP xs (d + 7) 120 0 (lv_args 0 [.ref 0, .int a1, .int a2]) [] w (fun r w2 => r = some (.int (lysA s.2.2.2.2.1 s.2.2.2.2.2 s.1 a1 a2)) ∧ WI w2 ∧ CLS w2 (lysR s.2.2.2.2.1 s.2.2.2.2.2 s.1 a1 a2, s.2) ∧ ∀ a, 111 ≤ a → w2[a]? = w[a]?) := by
  have z0 := Z120 (xs := xs) (d := d) hI s.1 hC.1.1 a1 a2
  rw [hC.2.1.2.1, hC.2.1.2.2] at z0
  exact z0.mono9 (fun r w2 z => ⟨z.1.1, z.2.1, hC.row hI z.1.2 z.2.2, fun a ha => z.2.2 a (by unfold oc; omega)⟩)
theorem r235 {xs : Option (List Int32)} {d : Nat} {w : List sx_C} {s : ST} (hI : WI w) (hR : REF w s) (a1 a2 : Int32) : sx_RP xs (d + 7) 235 0 (lv_args 0 [.ref 111, .int a1, .int a2]) [] w (fun r w2 => r = some (.int (lysA s.2.2.2.2.1 s.2.2.2.2.2 s.1 a1 a2)) ∧ WI w2 ∧ REF w2 (lysR s.2.2.2.2.1 s.2.2.2.2.2 s.1 a1 a2, s.2) ∧ ∀ a, a < 111 → w2[a]? = w[a]?) := by
  have z0 := Y235 (xs := xs) (d := d) hI a1 a2
  rw [hR.2.2.1, hR.2.2.2, hR.1.1] at z0
  exact z0.mono9 (fun r w2 z => ⟨z.1.1, z.2.1, hR.row z.1.2 z.2.2, fun a ha => z.2.2 a (by unfold ocm; omega)⟩)
theorem c115 {xs : Option (List Int32)} {d : Nat} {w : List sx_C} {s : ST} (hI : WI w) (hC : CLS w s) (a1 a2 : Int32) (v : Int64) : sx_RP xs (d + 7) 115 0 (lv_args 0 [.ref 0, .int a1, .int a2, .long v]) [] w (fun r w2 => r = some (.long (wrA s.2.2.2.2.1 s.2.2.2.2.2 a1 a2)) ∧ WI w2 ∧ CLS w2 (s.1, s.2.1, s.2.2.1, s.2.2.2.1, s.2.2.2.2.1, wrR s.2.2.2.2.1 s.2.2.2.2.2 a1 a2 v) ∧ ∀ a, 111 ≤ a → w2[a]? = w[a]?) := by
  have z0 := Z115 (xs := xs) (d := d) hI a1 a2 v
  rw [hC.2.1.2.1, hC.2.1.2.2] at z0
  exact z0.mono9 (fun r w2 z => ⟨z.1.1, z.2.1, hC.sh hI z.1.2.2 z.1.2.1 (hC.2.2.same (fun a _ _ => z.2.2 a (by omega) (by omega))) (fun a ha => z.2.2 a (by omega) (by omega)), fun a ha => z.2.2 a (by omega) (by omega)⟩)
theorem r232 {xs : Option (List Int32)} {d : Nat} {w : List sx_C} {s : ST} (hI : WI w) (hR : REF w s) (a1 a2 : Int32) (v : Int64) : sx_RP xs (d + 7) 232 0 (lv_args 0 [.ref 111, .int a1, .int a2, .long v]) [] w (fun r w2 => r = some (.long (wrA s.2.2.2.2.1 s.2.2.2.2.2 a1 a2)) ∧ WI w2 ∧ REF w2 (s.1, s.2.1, s.2.2.1, s.2.2.2.1, s.2.2.2.2.1, wrR s.2.2.2.2.1 s.2.2.2.2.2 a1 a2 v) ∧ ∀ a, a < 111 → w2[a]? = w[a]?) := by
  have z0 := Y232 (xs := xs) (d := d) hI a1 a2 v
  rw [hR.2.2.1, hR.2.2.2] at z0
  exact z0.mono9 (fun r w2 z => ⟨z.1.1, z.2.1, hR.sh z.1.2.2 z.1.2.1 (fun a ha => z.2.2 a (by omega) (by omega)), fun a ha => z.2.2 a (by omega) (by omega)⟩)
theorem c118 {xs : Option (List Int32)} {d : Nat} {w : List sx_C} {s : ST} (hI : WI w) (hC : CLS w s) (a1 a2 a3 a4 a5 : Int32) : sx_RP xs (d + 7) 118 0 (lv_args 0 [.ref 0, .int a1, .int a2, .int a3, .int a4, .int a5]) [] w (fun r w2 => r = some (.int (cpAns s.2.2.2.2.1 a1 a2 a3 a4 a5)) ∧ WI w2 ∧ CLS w2 (s.1, s.2.1, s.2.2.1, s.2.2.2.1, s.2.2.2.2.1, cpR s.2.2.2.2.1 s.2.2.2.2.2 a1 a2 a3 a4 a5) ∧ ∀ a, 111 ≤ a → w2[a]? = w[a]?) := by
  have z0 := Z118 (xs := xs) (d := d) hI a1 a2 a3 a4 a5
  rw [hC.2.1.2.1, hC.2.1.2.2] at z0
  exact z0.mono9 (fun r w2 z => ⟨z.1.1, z.2.1, hC.sh hI z.1.2.2 z.1.2.1 (hC.2.2.same (fun a _ _ => z.2.2 a (by omega) (by omega))) (fun a ha => z.2.2 a (by omega) (by omega)), fun a ha => z.2.2 a (by omega) (by omega)⟩)
theorem r234 {xs : Option (List Int32)} {d : Nat} {w : List sx_C} {s : ST} (hI : WI w) (hR : REF w s) (a1 a2 a3 a4 a5 : Int32) : sx_RP xs (d + 7) 234 0 (lv_args 0 [.ref 111, .int a1, .int a2, .int a3, .int a4, .int a5]) [] w (fun r w2 => r = some (.int (cpAns s.2.2.2.2.1 a1 a2 a3 a4 a5)) ∧ WI w2 ∧ REF w2 (s.1, s.2.1, s.2.2.1, s.2.2.2.1, s.2.2.2.2.1, cpR s.2.2.2.2.1 s.2.2.2.2.2 a1 a2 a3 a4 a5) ∧ ∀ a, a < 111 → w2[a]? = w[a]?) := by
  have z0 := Y234 (xs := xs) (d := d) hI a1 a2 a3 a4 a5
  rw [hR.2.2.1, hR.2.2.2] at z0
  exact z0.mono9 (fun r w2 z => ⟨z.1.1, z.2.1, hR.sh z.1.2.2 z.1.2.1 (fun a ha => z.2.2 a (by omega) (by omega) (by omega)), fun a ha => z.2.2 a (by omega) (by omega) (by omega)⟩)
theorem c121 {xs : Option (List Int32)} {d : Nat} {w : List sx_C} {s : ST} (hI : WI w) (hC : CLS w s) (a1 : Int32) : sx_RP xs (d + 7) 121 0 (lv_args 0 [.ref 0, .int a1]) [] w (fun r w2 => r = some (.int (bokA s.2.2.2.2.1 s.1 a1)) ∧ WI w2 ∧ CLS w2 (s.1, s.2.1, s.2.2.1, s.2.2.2.1, s.2.2.2.2.1, bokR s.2.2.2.2.1 s.2.2.2.2.2 s.1 a1) ∧ ∀ a, 111 ≤ a → w2[a]? = w[a]?) := by
  have z0 := Z121 (xs := xs) (d := d) hI s.1 hC.1.1 hC.2.2 a1
  rw [hC.2.1.2.1, hC.2.1.2.2] at z0
  exact z0.mono9 (fun r w2 z => ⟨z.1.1, z.2.1, hC.sh hI z.1.2.2 z.1.2.1 z.2.2.1 (fun a ha => z.2.2.2 a (by omega) (by omega)), fun a ha => z.2.2.2 a (by omega) (by omega)⟩)
theorem r236 {xs : Option (List Int32)} {d : Nat} {w : List sx_C} {s : ST} (hI : WI w) (hR : REF w s) (a1 : Int32) : sx_RP xs (d + 7) 236 0 (lv_args 0 [.ref 111, .int a1]) [] w (fun r w2 => r = some (.int (bokA s.2.2.2.2.1 s.1 a1)) ∧ WI w2 ∧ REF w2 (s.1, s.2.1, s.2.2.1, s.2.2.2.1, s.2.2.2.2.1, bokR s.2.2.2.2.1 s.2.2.2.2.2 s.1 a1) ∧ ∀ a, a < 111 → w2[a]? = w[a]?) := by
  have z0 := Y236 (xs := xs) (d := d) hI a1
  rw [hR.2.2.1, hR.2.2.2, hR.1.1] at z0
  exact z0.mono9 (fun r w2 z => ⟨z.1.1, z.2.1, hR.sh z.1.2.2 z.1.2.1 (fun a ha => z.2.2 a (by omega) (by omega) (by omega) (by omega)), fun a ha => z.2.2 a (by omega) (by omega) (by omega) (by omega)⟩)
theorem c92 {xs : Option (List Int32)} {d : Nat} {w : List sx_C} {s : ST} (hI : WI w) (hC : CLS w s) (hY : TBy w) : sx_RP xs (d + 7) 92 0 (lv_args 0 [.ref 0]) [] w (fun r w2 => r = some (.int (sieV s.2.2.2.1 s.1).1) ∧ WI w2 ∧ CLS w2 (sieR s.2.2.2.1 s.1, s.2.1, s.2.2.1, [], s.2.2.2.2) ∧ ∀ a, 111 ≤ a → w2[a]? = w[a]?) := by
  have z0 := Z92 (xs := xs) (d := d) hI s.1 hC.1.1 hY
  rw [hC.2.1.1] at z0
  exact z0.mono9 (fun r w2 z => ⟨z.1.1, z.2.1, hC.tp hI z.1.2.1 z.1.2.2 (fun a ha => z.2.2 a (by omega) (by omega)), fun a ha => z.2.2 a (by omega) (by omega)⟩)
theorem r210 {xs : Option (List Int32)} {d : Nat} {w : List sx_C} {s : ST} (hI : WI w) (hR : REF w s) (hT : TT s.2.2.2.1) : sx_RP xs (d + 8) 210 0 (lv_args 0 [.ref 111]) [] w (fun r w2 => r = some (.int (sieV s.2.2.2.1 s.1).1) ∧ WI w2 ∧ REF w2 (sieR s.2.2.2.1 s.1, s.2.1, s.2.2.1, [], s.2.2.2.2) ∧ ∀ a, a < 111 → w2[a]? = w[a]?) := by
  have z0 := Y210 (xs := xs) (d := d) hI (show TT (tapM w) by rw [hR.2.1]; exact hT)
  rw [hR.2.1, hR.1.1] at z0
  exact z0.mono9 (fun r w2 z => ⟨z.1.1, z.2.1, hR.tp z.1.2.1 z.1.2.2.1 (z.1.2.2.2 4 (by decide)) (fun a ha => z.2.2 a (by omega) (by omega) (by omega)), fun a ha => z.2.2 a (by omega) (by omega) (by omega)⟩)
theorem c90 {xs : Option (List Int32)} {d : Nat} {w : List sx_C} {s : ST} (hI : WI w) (hC : CLS w s) : sx_RP xs (d + 7) 90 0 (lv_args 0 [.ref 0]) [] w (fun r w2 => r = some (.int (nI s.2.2.2.1.length)) ∧ WI w2 ∧ CLS w2 (s.1, s.2.1, s.2.2.1, [], s.2.2.2.2) ∧ ∀ a, 111 ≤ a → w2[a]? = w[a]?) := by
  obtain ⟨n, hn, en⟩ := hI.t.1
  refine (Z90 (xs := xs) (d := d) hI).mono9 (fun r w2 z => ⟨?_, z.2.1, hC.tp hI (hC.1.1.same hI isA1 (fun a _ _ => z.2.2 a (by omega))) z.1.2 (fun a ha => z.2.2 a (by omega)), fun a ha => z.2.2 a (by omega)⟩)
  rw [z.1.1, ← hC.2.1.1, show (tapC w).length = n from tapC_len en hn, en]
theorem r209 {xs : Option (List Int32)} {d : Nat} {w : List sx_C} {s : ST} (hI : WI w) (hR : REF w s) : sx_RP xs (d + 7) 209 0 (lv_args 0 [.ref 111]) [] w (fun r w2 => r = some (.int (nI s.2.2.2.1.length)) ∧ WI w2 ∧ REF w2 (s.1, s.2.1, s.2.2.1, [], s.2.2.2.2) ∧ ∀ a, a < 111 → w2[a]? = w[a]?) := by
  obtain ⟨n, hn, en⟩ := hI.m.2.1
  refine (Y209 (xs := xs) (d := d) hI).mono9 (fun r w2 z => ⟨?_, z.2.1, hR.tp ((ia_of (z.2.2 112 (by omega))).trans hR.1.1) z.1.2.1 z.1.2.2 (fun a ha => z.2.2 a (by omega)), fun a ha => z.2.2 a (by omega)⟩)
  rw [z.1.1, ← hR.2.1, show (tapM w).length = n from tapM_len9 en hn, en]
theorem c87 {xs : Option (List Int32)} {d : Nat} {w : List sx_C} {s : ST} (hI : WI w) (hC : CLS w s) (a1 a2 : Int32) : sx_RP xs (d + 7) 87 0 (lv_args 0 [.ref 0, .int a1, .int a2]) [] w (fun r w2 => r = some (.int (feedA s.2.2.2.1.length a2)) ∧ WI w2 ∧ CLS w2 (s.1, s.2.1, s.2.2.1, feT s.2.2.2.1 a1 a2, s.2.2.2.2) ∧ ∀ a, 111 ≤ a → w2[a]? = w[a]?) := by
  refine ((B87 (xs := xs) (d := d) hI a1 a2).and (F87 hI a1 a2)).mono9 (fun r w2 z => ⟨?_, z.2.1, hC.tp hI (hC.1.1.same hI isA1 (fun a _ _ => z.2.2 a (by omega) (by omega) (by omega))) ?_ (fun a ha => z.2.2 a (by omega) (by omega) (by omega)), fun a ha => z.2.2 a (by omega) (by omega) (by omega)⟩)
  · rw [z.1.1.1, ← hC.2.1.1]
    rfl
  · rw [← hC.2.1.1]
    exact (congrArg (fun t : BT => t.2.2.2) z.1.1.2).trans (fe_T _ _ _)
theorem r208 {xs : Option (List Int32)} {d : Nat} {w : List sx_C} {s : ST} (hI : WI w) (hR : REF w s) (a1 a2 : Int32) : sx_RP xs (d + 7) 208 0 (lv_args 0 [.ref 111, .int a1, .int a2]) [] w (fun r w2 => r = some (.int (feedA s.2.2.2.1.length a2)) ∧ WI w2 ∧ REF w2 (s.1, s.2.1, s.2.2.1, feT s.2.2.2.1 a1 a2, s.2.2.2.2) ∧ ∀ a, a < 111 → w2[a]? = w[a]?) := by
  refine ((B208 (xs := xs) (d := d) hI a1 a2).and (F208 hI a1 a2)).mono9 (fun r w2 z => ⟨?_, z.2.1, hR.tp ((ia_of (z.2.2.2 112 (by omega) (by omega) (by omega))).trans hR.1.1) ?_ z.2.2.1 (fun a ha => z.2.2.2 a (by omega) (by omega) (by omega)), fun a ha => z.2.2.2 a (by omega) (by omega) (by omega)⟩)
  · rw [z.1.1.1, ← hR.2.1]
    rfl
  · rw [← hR.2.1]
    exact (congrArg (fun t : BT => t.2.2.2) z.1.1.2).trans (fe_T _ _ _)
theorem c124 {xs : Option (List Int32)} {d : Nat} {w : List sx_C} {s : ST} (hI : WI w) (hC : CLS w s) : sx_RP xs (d + 7) 124 0 (lv_args 0 [.ref 0]) [] w (fun r w2 => r = some (.int 1) ∧ WI w2 ∧ CLS w2 (s.1, 1, s.1, s.2.2.2) ∧ ∀ a, 111 ≤ a → w2[a]? = w[a]?) := by
  exact (Z124 (xs := xs) (d := d) hI).mono9 (fun r w2 z => ⟨z.1.1, z.2.1, ⟨⟨hC.1.1.same hI isA1 (fun a _ _ => z.2.2 a (by omega) (by omega)), z.1.2.1, fun _ => z.1.2.2 _ hC.1.1⟩, ⟨(tapC_eq (z.2.2 96 (by omega) (by omega)) (z.2.2 97 (by omega) (by omega))).trans hC.2.1.1, (FCs_eq (fun q hq => z.2.2 _ (by omega) (by omega))).trans hC.2.1.2.1, (NCs_eq (fun q hq => z.2.2 _ (by omega) (by omega))).trans hC.2.1.2.2⟩, hC.2.2.same (fun a _ _ => z.2.2 a (by omega) (by omega))⟩, fun a ha => z.2.2 a (by omega) (by omega)⟩)
theorem r240 {xs : Option (List Int32)} {d : Nat} {w : List sx_C} {s : ST} (hI : WI w) (hR : REF w s) : sx_RP xs (d + 7) 240 0 (lv_args 0 [.ref 111]) [] w (fun r w2 => r = some (.int 1) ∧ WI w2 ∧ REF w2 (s.1, 1, s.1, s.2.2.2) ∧ ∀ a, a < 111 → w2[a]? = w[a]?) := by
  exact (Y240 (xs := xs) (d := d) hI).mono9 (fun r w2 z => ⟨z.1.1, z.2.1, ⟨⟨(ia_of (z.2.2 112 (by omega) (by omega))).trans hR.1.1, z.1.2.1, fun _ => z.1.2.2.1.trans hR.1.1⟩, ⟨(tapM_eq z.1.2.2.2 (z.2.2 121 (by omega) (by omega))).trans hR.2.1, (FMs_eq (z.2.2 122 (by omega) (by omega)) (z.2.2 123 (by omega) (by omega))).trans hR.2.2.1, (NMs_eq (z.2.2 124 (by omega) (by omega))).trans hR.2.2.2⟩⟩, fun a ha => z.2.2 a (by omega) (by omega)⟩)
theorem c125 {xs : Option (List Int32)} {d : Nat} {w : List sx_C} {s : ST} (hI : WI w) (hC : CLS w s) : sx_RP xs (d + 7) 125 0 (lv_args 0 [.ref 0]) [] w (fun r w2 => r = some (.int (if s.2.1 = 1 then s.2.2.1.getD 1 0 else -1000000004)) ∧ WI w2 ∧ CLS w2 (if s.2.1 = 1 then s.2.2.1 else s.1, s.2) ∧ ∀ a, 111 ≤ a → w2[a]? = w[a]?) := by
  rcases keeps_01 hI with ek | ek
  · have e0 : ¬ s.2.1 = 1 := by rw [← hC.1.2.1, ek]; decide
    rw [if_neg e0, if_neg e0]
    exact (Z125_0 (xs := xs) (d := d) hI ek).mono9 (fun r w2 z => ⟨z.1, z.2.1, hC.fr hI (fun a ha => z.2.2 a (by omega)) (fun k => k.same (fun a _ _ => z.2.2 a (by omega))), fun a ha => z.2.2 a (by omega)⟩)
  · have e1 : s.2.1 = 1 := by rw [← hC.1.2.1, ek]
    rw [if_pos e1, if_pos e1]
    exact (Z125_1 (xs := xs) (d := d) hI ek).mono9 (fun r w2 z => ⟨by rw [z.1.1, (hC.1.2.2 e1).many], z.2.1, hC.row hI (z.1.2 _ (hC.1.2.2 e1)) z.2.2.eo, fun a ha => z.2.2 a (by omega)⟩)
theorem r241 {xs : Option (List Int32)} {d : Nat} {w : List sx_C} {s : ST} (hI : WI w) (hR : REF w s) : sx_RP xs (d + 7) 241 0 (lv_args 0 [.ref 111]) [] w (fun r w2 => r = some (.int (if s.2.1 = 1 then s.2.2.1.getD 1 0 else -1000000004)) ∧ WI w2 ∧ REF w2 (if s.2.1 = 1 then s.2.2.1 else s.1, s.2) ∧ ∀ a, a < 111 → w2[a]? = w[a]?) := by
  rcases kept_01 hI with ek | ek
  · have e0 : ¬ s.2.1 = 1 := by rw [← hR.1.2.1, ek]; decide
    rw [if_neg e0, if_neg e0]
    exact (Y241_0 (xs := xs) (d := d) hI ek).mono9 (fun r w2 z => ⟨z.1, z.2.1, hR.fr (ia_of (z.2.2 112 (by omega))) (fun a ha => z.2.2 a (by omega)), fun a ha => z.2.2 a (by omega)⟩)
  · have e1 : s.2.1 = 1 := by rw [← hR.1.2.1, ek]
    rw [if_pos e1, if_pos e1]
    exact (Y241_1 (xs := xs) (d := d) hI ek).mono9 (fun r w2 z => ⟨by rw [z.1.1, hR.1.2.2 e1], z.2.1, hR.row (z.1.2.trans (hR.1.2.2 e1)) (fun a ha => z.2.2 a (by unfold ocm at ha; omega)), fun a ha => z.2.2 a (by omega)⟩)
theorem c126 {xs : Option (List Int32)} {d : Nat} {w : List sx_C} {s : ST} (hI : WI w) (hC : CLS w s) : sx_RP xs (d + 7) 126 0 (lv_args 0 [.ref 0]) [] w (fun r w2 => r = some (.int s.2.1) ∧ WI w2 ∧ CLS w2 (s.1, 0, s.2.2) ∧ ∀ a, 111 ≤ a → w2[a]? = w[a]?) := by
  exact (Z126 (xs := xs) (d := d) hI).mono9 (fun r w2 z => ⟨by rw [z.1.1, hC.1.2.1], z.2.1, ⟨⟨hC.1.1.same hI isA1 (fun a _ _ => z.2.2 a (by omega)), z.1.2, fun k => absurd (show (0 : Int32) = 1 from k) (by decide)⟩, ⟨(tapC_eq (z.2.2 96 (by omega)) (z.2.2 97 (by omega))).trans hC.2.1.1, (FCs_eq (fun q hq => z.2.2 _ (by omega))).trans hC.2.1.2.1, (NCs_eq (fun q hq => z.2.2 _ (by omega))).trans hC.2.1.2.2⟩, hC.2.2.same (fun a _ _ => z.2.2 a (by omega))⟩, fun a ha => z.2.2 a (by omega)⟩)
theorem r242 {xs : Option (List Int32)} {d : Nat} {w : List sx_C} {s : ST} (hI : WI w) (hR : REF w s) : sx_RP xs (d + 7) 242 0 (lv_args 0 [.ref 111]) [] w (fun r w2 => r = some (.int s.2.1) ∧ WI w2 ∧ REF w2 (s.1, 0, s.2.2) ∧ ∀ a, a < 111 → w2[a]? = w[a]?) := by
  exact (Y242 (xs := xs) (d := d) hI).mono9 (fun r w2 z => ⟨by rw [z.1.1, hR.1.2.1], z.2.1, ⟨⟨(ia_of (z.2.2 112 (by omega))).trans hR.1.1, z.1.2.1, fun k => absurd (show (0 : Int32) = 1 from k) (by decide)⟩, ⟨(tapM_eq z.1.2.2 (z.2.2 121 (by omega))).trans hR.2.1, (FMs_eq (z.2.2 122 (by omega)) (z.2.2 123 (by omega))).trans hR.2.2.1, (NMs_eq (z.2.2 124 (by omega))).trans hR.2.2.2⟩⟩, fun a ha => z.2.2 a (by omega)⟩)
def shR (N : Nat → Nat → Int64) (a1 a2 a3 : Int32) : Nat → Nat → Int64 := if ((0 ≤ a1 ∧ a1 ≤ 3) ∧ (a2 = 0 ∨ a2 = 8 ∨ a2 = 16 ∨ a2 = 64)) ∧ (0 ≤ a3 ∧ a3 ≤ 40) then shN N (iN a1) else N
theorem shR_y {N : Nat → Nat → Int64} {s : Nat} {a2 a3 : Int32} (hs : s < 4) (h : shV (nI s) a2 a3) : shR N (nI s) a2 a3 = shN N s := by
  unfold shR
  unfold shV at h
  rw [if_pos h, iN_n (by omega)]
theorem shR_n {N : Nat → Nat → Int64} {a1 a2 a3 : Int32} (h : ¬ shV a1 a2 a3) : shR N a1 a2 a3 = N := if_neg h
theorem c111 {xs : Option (List Int32)} {d : Nat} {w : List sx_C} {s : ST} (hI : WI w) (hC : CLS w s) (a1 a2 a3 : Int32) : sx_RP xs (d + 7) 111 0 (lv_args 0 [.ref 0, .int a1, .int a2, .int a3]) [] w (fun r w2 => r = some (.int (shAns a1 a2 a3)) ∧ WI w2 ∧ CLS w2 (s.1, s.2.1, s.2.2.1, s.2.2.2.1, shF s.2.2.2.2.1 a1 a2 a3, shR s.2.2.2.2.2 a1 a2 a3) ∧ ∀ a, 111 ≤ a → w2[a]? = w[a]?) := by
  by_cases h : 0 ≤ a1 ∧ a1 ≤ 3
  · obtain ⟨k, hk, rfl⟩ := sx_between h
    refine ((s111S (xs := xs) (d := d) hI hk a2 a3).and (F111 hI hk a2 a3)).mono9 (fun r w2 z => ?_)
    obtain ⟨⟨⟨z1, z2⟩, z3, z4⟩, z5, z6⟩ := z
    rw [hC.2.1.2.1] at z2
    rcases z6 with ⟨hv, h0, hE⟩ | ⟨hv, hE⟩
    · exact ⟨z1, z5, hC.sh hI z2 (by rw [shR_y hk hv, NCs_sh hk h0 (fun q hq hn => hE _ (by omega) (by omega)), hC.2.1.2.2]) (hC.2.2.same (fun a _ _ => hE a (by omega) (by omega))) (fun a ha => hE a (by omega) (by omega)), fun a ha => hE a (by omega) (by omega)⟩
    · exact ⟨z1, z5, hC.sh hI z2 (by rw [shR_n hv, NCs_eq (fun q hq => hE _ (by omega)), hC.2.1.2.2]) (hC.2.2.same (fun a _ _ => hE a (by omega))) (fun a ha => hE a (by omega)), fun a ha => hE a (by omega)⟩
  · refine ((s111Sn (xs := xs) (d := d) hI a1 a2 a3 h).and (F111n hI a1 a2 a3 h)).mono9 (fun r w2 z => ?_)
    obtain ⟨⟨⟨z1, z2⟩, z3, z4⟩, z5, hv, hE⟩ := z
    rw [hC.2.1.2.1] at z2
    exact ⟨z1, z5, hC.sh hI z2 (by rw [shR_n hv, NCs_eq (fun q hq => hE _ (by omega)), hC.2.1.2.2]) (hC.2.2.same (fun a _ _ => hE a (by omega))) (fun a ha => hE a (by omega)), fun a ha => hE a (by omega)⟩
theorem r230 {xs : Option (List Int32)} {d : Nat} {w : List sx_C} {s : ST} (hI : WI w) (hR : REF w s) (a1 a2 a3 : Int32) : sx_RP xs (d + 7) 230 0 (lv_args 0 [.ref 111, .int a1, .int a2, .int a3]) [] w (fun r w2 => r = some (.int (shAns a1 a2 a3)) ∧ WI w2 ∧ REF w2 (s.1, s.2.1, s.2.2.1, s.2.2.2.1, shF s.2.2.2.2.1 a1 a2 a3, shR s.2.2.2.2.2 a1 a2 a3) ∧ ∀ a, a < 111 → w2[a]? = w[a]?) := by
  by_cases h : 0 ≤ a1 ∧ a1 ≤ 3
  · obtain ⟨k, hk, rfl⟩ := sx_between h
    refine ((s230S (xs := xs) (d := d) hI hk a2 a3).and (F230 hI hk a2 a3)).mono9 (fun r w2 z => ?_)
    obtain ⟨⟨⟨z1, z2⟩, z3, z4⟩, z5, z6⟩ := z
    rw [hR.2.2.1] at z2
    rcases z6 with ⟨hv, h0, hE⟩ | ⟨hv, hE⟩
    · exact ⟨z1, z5, hR.sh z2 (by rw [shR_y hk hv, NMs_sh hk h0, hR.2.2.2]) (fun a ha => hE a (by omega) (by omega) (by omega)), z4⟩
    · exact ⟨z1, z5, hR.sh z2 (by rw [shR_n hv, NMs_eq (hE 124 (by omega)), hR.2.2.2]) (fun a ha => hE a (by omega)), z4⟩
  · refine ((s230Sn (xs := xs) (d := d) hI a1 a2 a3 h).and (F230n hI a1 a2 a3 h)).mono9 (fun r w2 z => ?_)
    obtain ⟨⟨⟨z1, z2⟩, z3, z4⟩, z5, hv, hE⟩ := z
    rw [hR.2.2.1] at z2
    exact ⟨z1, z5, hR.sh z2 (by rw [shR_n hv, NMs_eq (hE 124 (by omega)), hR.2.2.2]) (fun a ha => hE a (by omega)), z4⟩
theorem c12 {xs : Option (List Int32)} {d : Nat} {w : List sx_C} {s : ST} (hI : WI w) (hC : CLS w s) (a1 a2 : Int32) : sx_RP xs (d + 7) 12 0 (lv_args 0 [.ref 0, .int a1, .int a2]) [] w (fun r w2 => (∃ v : Int32, r = some (.int v)) ∧ WI w2 ∧ CLS w2 (s) ∧ ∀ a, 111 ≤ a → w2[a]? = w[a]?) := by
  exact (G12 hI a1 a2).mono9 (fun r w2 z => ⟨z.1, z.2.1, hC.es hI z.2.2, fun a ha => z.2.2.1 a (by unfold qc; omega)⟩)
theorem c14 {xs : Option (List Int32)} {d : Nat} {w : List sx_C} {s : ST} (hI : WI w) (hC : CLS w s) : sx_RP xs (d + 7) 14 0 (lv_args 0 [.ref 0]) [] w (fun r w2 => (∃ v : Int64, r = some (.long v)) ∧ WI w2 ∧ CLS w2 (s) ∧ ∀ a, 111 ≤ a → w2[a]? = w[a]?) := by
  exact (G14 hI).mono9 (fun r w2 z => ⟨z.1, z.2.1, hC.es hI z.2.2, fun a ha => z.2.2.1 a (by unfold qc; omega)⟩)
theorem c15 {xs : Option (List Int32)} {d : Nat} {w : List sx_C} {s : ST} (hI : WI w) (hC : CLS w s) (a1 a2 : Int32) : sx_RP xs (d + 7) 15 0 (lv_args 0 [.ref 0, .int a1, .int a2]) [] w (fun r w2 => (∃ v : Int32, r = some (.int v)) ∧ WI w2 ∧ CLS w2 (s) ∧ ∀ a, 111 ≤ a → w2[a]? = w[a]?) := by
  exact (G15 hI a1 a2).mono9 (fun r w2 z => ⟨z.1, z.2.1, hC.es hI z.2.2, fun a ha => z.2.2.1 a (by unfold qc; omega)⟩)
theorem c26 {xs : Option (List Int32)} {d : Nat} {w : List sx_C} {s : ST} (hI : WI w) (hC : CLS w s) (a1 a2 : Int32) : sx_RP xs (d + 7) 26 0 (lv_args 0 [.ref 0, .int a1, .int a2]) [] w (fun r w2 => (∃ v : Int32, r = some (.int v)) ∧ WI w2 ∧ CLS w2 (s) ∧ ∀ a, 111 ≤ a → w2[a]? = w[a]?) := by
  exact (G26 hI a1 a2).mono9 (fun r w2 z => ⟨z.1, z.2.1, hC.es hI z.2.2, fun a ha => z.2.2.1 a (by unfold qc; omega)⟩)
theorem c30 {xs : Option (List Int32)} {d : Nat} {w : List sx_C} {s : ST} (hI : WI w) (hC : CLS w s) (a1 a2 : Int32) : sx_RP xs (d + 7) 30 0 (lv_args 0 [.ref 0, .int a1, .int a2]) [] w (fun r w2 => (∃ v : Int32, r = some (.int v)) ∧ WI w2 ∧ CLS w2 (s) ∧ ∀ a, 111 ≤ a → w2[a]? = w[a]?) := by
  exact (G30 hI a1 a2).mono9 (fun r w2 z => ⟨z.1, z.2.1, hC.es hI z.2.2, fun a ha => z.2.2.1 a (by unfold qc; omega)⟩)
theorem c32 {xs : Option (List Int32)} {d : Nat} {w : List sx_C} {s : ST} (hI : WI w) (hC : CLS w s) (a1 a2 a3 : Int32) : sx_RP xs (d + 7) 32 0 (lv_args 0 [.ref 0, .int a1, .int a2, .int a3]) [] w (fun r w2 => (∃ v : Int32, r = some (.int v)) ∧ WI w2 ∧ CLS w2 (s) ∧ ∀ a, 111 ≤ a → w2[a]? = w[a]?) := by
  exact (G32 hI a1 a2 a3).mono9 (fun r w2 z => ⟨z.1, z.2.1, hC.es hI z.2.2, fun a ha => z.2.2.1 a (by unfold qc; omega)⟩)
theorem c48 {xs : Option (List Int32)} {d : Nat} {w : List sx_C} {s : ST} (hI : WI w) (hC : CLS w s) (a1 : Int32) : sx_RP xs (d + 7) 48 0 (lv_args 0 [.ref 0, .int a1]) [] w (fun r w2 => (∃ v : Int32, r = some (.int v)) ∧ WI w2 ∧ CLS w2 (s) ∧ ∀ a, 111 ≤ a → w2[a]? = w[a]?) := by
  exact (G48 hI a1).mono9 (fun r w2 z => ⟨z.1, z.2.1, hC.es hI z.2.2, fun a ha => z.2.2.1 a (by unfold qc; omega)⟩)
theorem c55 {xs : Option (List Int32)} {d : Nat} {w : List sx_C} {s : ST} (hI : WI w) (hC : CLS w s) (a1 a2 : Int32) : sx_RP xs (d + 7) 55 0 (lv_args 0 [.ref 0, .int a1, .int a2]) [] w (fun r w2 => (∃ v : Int32, r = some (.int v)) ∧ WI w2 ∧ CLS w2 (s) ∧ ∀ a, 111 ≤ a → w2[a]? = w[a]?) := by
  exact (G55 hI a1 a2).mono9 (fun r w2 z => ⟨z.1, z.2.1, hC.es hI z.2.2, fun a ha => z.2.2.1 a (by unfold qc; omega)⟩)
theorem c58 {xs : Option (List Int32)} {d : Nat} {w : List sx_C} {s : ST} (hI : WI w) (hC : CLS w s) (a1 a2 : Int32) : sx_RP xs (d + 7) 58 0 (lv_args 0 [.ref 0, .int a1, .int a2]) [] w (fun r w2 => (∃ v : Int32, r = some (.int v)) ∧ WI w2 ∧ CLS w2 (s) ∧ ∀ a, 111 ≤ a → w2[a]? = w[a]?) := by
  exact (G58 hI a1 a2).mono9 (fun r w2 z => ⟨z.1, z.2.1, hC.es hI z.2.2, fun a ha => z.2.2.1 a (by unfold qc; omega)⟩)
theorem c67 {xs : Option (List Int32)} {d : Nat} {w : List sx_C} {s : ST} (hI : WI w) (hC : CLS w s) (a1 : Int32) : sx_RP xs (d + 7) 67 0 (lv_args 0 [.ref 0, .int a1]) [] w (fun r w2 => (∃ v : Int32, r = some (.int v)) ∧ WI w2 ∧ CLS w2 (s) ∧ ∀ a, 111 ≤ a → w2[a]? = w[a]?) := by
  exact (G67 hI a1).mono9 (fun r w2 z => ⟨z.1, z.2.1, hC.es hI z.2.2, fun a ha => z.2.2.1 a (by unfold qc; omega)⟩)
theorem c70 {xs : Option (List Int32)} {d : Nat} {w : List sx_C} {s : ST} (hI : WI w) (hC : CLS w s) (a1 a2 : Int32) : sx_RP xs (d + 7) 70 0 (lv_args 0 [.ref 0, .int a1, .int a2]) [] w (fun r w2 => (∃ v : Int32, r = some (.int v)) ∧ WI w2 ∧ CLS w2 (s) ∧ ∀ a, 111 ≤ a → w2[a]? = w[a]?) := by
  exact (G70 hI a1 a2).mono9 (fun r w2 z => ⟨z.1, z.2.1, hC.es hI z.2.2, fun a ha => z.2.2.1 a (by unfold qc; omega)⟩)
theorem c71 {xs : Option (List Int32)} {d : Nat} {w : List sx_C} {s : ST} (hI : WI w) (hC : CLS w s) (a1 : Int32) : sx_RP xs (d + 7) 71 0 (lv_args 0 [.ref 0, .int a1]) [] w (fun r w2 => (∃ v : Int64, r = some (.long v)) ∧ WI w2 ∧ CLS w2 (s) ∧ ∀ a, 111 ≤ a → w2[a]? = w[a]?) := by
  exact (G71 hI a1).mono9 (fun r w2 z => ⟨z.1, z.2.1, hC.es hI z.2.2, fun a ha => z.2.2.1 a (by unfold qc; omega)⟩)
theorem c76 {xs : Option (List Int32)} {d : Nat} {w : List sx_C} {s : ST} (hI : WI w) (hC : CLS w s) (a1 a2 : Int32) : sx_RP xs (d + 7) 76 0 (lv_args 0 [.ref 0, .int a1, .int a2]) [] w (fun r w2 => (∃ v : Int32, r = some (.int v)) ∧ WI w2 ∧ CLS w2 (s) ∧ ∀ a, 111 ≤ a → w2[a]? = w[a]?) := by
  exact (G76 hI a1 a2).mono9 (fun r w2 z => ⟨z.1, z.2.1, hC.es hI z.2.2, fun a ha => z.2.2.1 a (by unfold qc; omega)⟩)
theorem c83 {xs : Option (List Int32)} {d : Nat} {w : List sx_C} {s : ST} (hI : WI w) (hC : CLS w s) : sx_RP xs (d + 7) 83 0 (lv_args 0 [.ref 0]) [] w (fun r w2 => (∃ v : Int32, r = some (.int v)) ∧ WI w2 ∧ CLS w2 (s) ∧ ∀ a, 111 ≤ a → w2[a]? = w[a]?) := by
  exact (G83 hI).mono9 (fun r w2 z => ⟨z.1, z.2.1, hC.es hI z.2.2, fun a ha => z.2.2.1 a (by unfold qc; omega)⟩)
theorem c127 {xs : Option (List Int32)} {d : Nat} {w : List sx_C} {s : ST} (hI : WI w) (hC : CLS w s) (a1 : Int32) : sx_RP xs (d + 7) 127 0 (lv_args 0 [.ref 0, .int a1]) [] w (fun r w2 => (∃ v : Int32, r = some (.int v)) ∧ WI w2 ∧ CLS w2 (s) ∧ ∀ a, 111 ≤ a → w2[a]? = w[a]?) := by
  exact (G127 hI a1).mono9 (fun r w2 z => ⟨z.1, z.2.1, hC.es hI z.2.2, fun a ha => z.2.2.1 a (by unfold qc; omega)⟩)
theorem c49 {xs : Option (List Int32)} {d : Nat} {w : List sx_C} {s : ST} (hI : WI w) (hC : CLS w s) (a1 a2 : Int32) : sx_RP xs (d + 7) 49 0 (lv_args 0 [.ref 0, .int a1, .int a2]) [] w (fun r w2 => (∃ v : Int32, r = some (.int v)) ∧ WI w2 ∧ CLS w2 (s) ∧ ∀ a, 111 ≤ a → w2[a]? = w[a]?) := by
  exact (G49 hI a1 a2).mono9 (fun r w2 z => ⟨z.1, z.2.1, hC.es hI z.2.2, fun a ha => z.2.2.1 a (by unfold qc; omega)⟩)
theorem c52 {xs : Option (List Int32)} {d : Nat} {w : List sx_C} {s : ST} (hI : WI w) (hC : CLS w s) (a1 : Int32) : sx_RP xs (d + 7) 52 0 (lv_args 0 [.ref 0, .int a1]) [] w (fun r w2 => (∃ v : Int32, r = some (.int v)) ∧ WI w2 ∧ CLS w2 (s) ∧ ∀ a, 111 ≤ a → w2[a]? = w[a]?) := by
  exact (G52 hI a1).mono9 (fun r w2 z => ⟨z.1, z.2.1, hC.es hI z.2.2, fun a ha => z.2.2.1 a (by unfold qc; omega)⟩)
theorem c53 {xs : Option (List Int32)} {d : Nat} {w : List sx_C} {s : ST} (hI : WI w) (hC : CLS w s) : sx_RP xs (d + 7) 53 0 (lv_args 0 [.ref 0]) [] w (fun r w2 => (∃ v : Int32, r = some (.int v)) ∧ WI w2 ∧ CLS w2 (s) ∧ ∀ a, 111 ≤ a → w2[a]? = w[a]?) := by
  exact (G53 hI).mono9 (fun r w2 z => ⟨z.1, z.2.1, hC.es hI z.2.2, fun a ha => z.2.2.1 a (by unfold qc; omega)⟩)
theorem c61 {xs : Option (List Int32)} {d : Nat} {w : List sx_C} {s : ST} (hI : WI w) (hC : CLS w s) (a1 : Int32) : sx_RP xs (d + 7) 61 0 (lv_args 0 [.ref 0, .int a1]) [] w (fun r w2 => (∃ v : Int32, r = some (.int v)) ∧ WI w2 ∧ CLS w2 (s) ∧ ∀ a, 111 ≤ a → w2[a]? = w[a]?) := by
  exact (G61 hI a1).mono9 (fun r w2 z => ⟨z.1, z.2.1, hC.es hI z.2.2, fun a ha => z.2.2.1 a (by unfold qc; omega)⟩)
theorem c74 {xs : Option (List Int32)} {d : Nat} {w : List sx_C} {s : ST} (hI : WI w) (hC : CLS w s) (a1 : Int32) : sx_RP xs (d + 7) 74 0 (lv_args 0 [.ref 0, .int a1]) [] w (fun r w2 => (∃ v : Int32, r = some (.int v)) ∧ WI w2 ∧ CLS w2 (s) ∧ ∀ a, 111 ≤ a → w2[a]? = w[a]?) := by
  exact (G74 hI a1).mono9 (fun r w2 z => ⟨z.1, z.2.1, hC.es hI z.2.2, fun a ha => z.2.2.1 a (by unfold qc; omega)⟩)
theorem c81 {xs : Option (List Int32)} {d : Nat} {w : List sx_C} {s : ST} (hI : WI w) (hC : CLS w s) (a1 : Int32) : sx_RP xs (d + 7) 81 0 (lv_args 0 [.ref 0, .int a1]) [] w (fun r w2 => (∃ v : Int32, r = some (.int v)) ∧ WI w2 ∧ CLS w2 (s) ∧ ∀ a, 111 ≤ a → w2[a]? = w[a]?) := by
  exact (G81 hI a1).mono9 (fun r w2 z => ⟨z.1, z.2.1, hC.es hI z.2.2, fun a ha => z.2.2.1 a (by unfold qc; omega)⟩)
theorem c86 {xs : Option (List Int32)} {d : Nat} {w : List sx_C} {s : ST} (hI : WI w) (hC : CLS w s) (a1 : Int32) : sx_RP xs (d + 7) 86 0 (lv_args 0 [.ref 0, .int a1]) [] w (fun r w2 => (∃ v : Int32, r = some (.int v)) ∧ WI w2 ∧ CLS w2 (s) ∧ ∀ a, 111 ≤ a → w2[a]? = w[a]?) := by
  exact (G86 hI a1).mono9 (fun r w2 z => ⟨z.1, z.2.1, hC.es hI z.2.2, fun a ha => z.2.2.1 a (by unfold qc; omega)⟩)
theorem c122 {xs : Option (List Int32)} {d : Nat} {w : List sx_C} {s : ST} (hI : WI w) (hC : CLS w s) (a1 : Int32) : sx_RP xs (d + 7) 122 0 (lv_args 0 [.ref 0, .int a1]) [] w (fun r w2 => (∃ v : Int32, r = some (.int v)) ∧ WI w2 ∧ CLS w2 (s) ∧ ∀ a, 111 ≤ a → w2[a]? = w[a]?) := by
  exact (G122 hI a1).mono9 (fun r w2 z => ⟨z.1, z.2.1, hC.es hI z.2.2, fun a ha => z.2.2.1 a (by unfold qc; omega)⟩)
theorem c128 {xs : Option (List Int32)} {d : Nat} {w : List sx_C} {s : ST} (hI : WI w) (hC : CLS w s) (a1 : Int32) : sx_RP xs (d + 7) 128 0 (lv_args 0 [.ref 0, .int a1]) [] w (fun r w2 => (∃ v : Int32, r = some (.int v)) ∧ WI w2 ∧ CLS w2 (s) ∧ ∀ a, 111 ≤ a → w2[a]? = w[a]?) := by
  exact (G128 hI a1).mono9 (fun r w2 z => ⟨z.1, z.2.1, hC.es hI z.2.2, fun a ha => z.2.2.1 a (by unfold qc; omega)⟩)
theorem r135 {xs : Option (List Int32)} {d : Nat} {w : List sx_C} {s : ST} (hI : WI w) (hR : REF w s) (a1 a2 : Int32) : sx_RP xs (d + 7) 135 0 (lv_args 0 [.ref 111, .int a1, .int a2]) [] w (fun r w2 => (∃ v : Int32, r = some (.int v)) ∧ WI w2 ∧ REF w2 (s) ∧ ∀ a, a < 111 → w2[a]? = w[a]?) := by
  exact (H135 hI a1 a2).mono9 (fun r w2 z => ⟨z.1, z.2.1, hR.ez z.2.2, fun a ha => z.2.2 a (by unfold zc; omega)⟩)
theorem r155 {xs : Option (List Int32)} {d : Nat} {w : List sx_C} {s : ST} (hI : WI w) (hR : REF w s) (a1 a2 : Int32) : sx_RP xs (d + 7) 155 0 (lv_args 0 [.ref 111, .int a1, .int a2]) [] w (fun r w2 => (∃ v : Int32, r = some (.int v)) ∧ WI w2 ∧ REF w2 (s) ∧ ∀ a, a < 111 → w2[a]? = w[a]?) := by
  exact (H155 hI a1 a2).mono9 (fun r w2 z => ⟨z.1, z.2.1, hR.ez z.2.2, fun a ha => z.2.2 a (by unfold zc; omega)⟩)
theorem r159 {xs : Option (List Int32)} {d : Nat} {w : List sx_C} {s : ST} (hI : WI w) (hR : REF w s) (a1 a2 : Int32) : sx_RP xs (d + 7) 159 0 (lv_args 0 [.ref 111, .int a1, .int a2]) [] w (fun r w2 => (∃ v : Int32, r = some (.int v)) ∧ WI w2 ∧ REF w2 (s) ∧ ∀ a, a < 111 → w2[a]? = w[a]?) := by
  exact (H159 hI a1 a2).mono9 (fun r w2 z => ⟨z.1, z.2.1, hR.ez z.2.2, fun a ha => z.2.2 a (by unfold zc; omega)⟩)
theorem r161 {xs : Option (List Int32)} {d : Nat} {w : List sx_C} {s : ST} (hI : WI w) (hR : REF w s) (a1 a2 a3 : Int32) : sx_RP xs (d + 7) 161 0 (lv_args 0 [.ref 111, .int a1, .int a2, .int a3]) [] w (fun r w2 => (∃ v : Int32, r = some (.int v)) ∧ WI w2 ∧ REF w2 (s) ∧ ∀ a, a < 111 → w2[a]? = w[a]?) := by
  exact (H161 hI a1 a2 a3).mono9 (fun r w2 z => ⟨z.1, z.2.1, hR.ez z.2.2, fun a ha => z.2.2 a (by unfold zc; omega)⟩)
theorem r173 {xs : Option (List Int32)} {d : Nat} {w : List sx_C} {s : ST} (hI : WI w) (hR : REF w s) (a1 : Int32) : sx_RP xs (d + 7) 173 0 (lv_args 0 [.ref 111, .int a1]) [] w (fun r w2 => (∃ v : Int32, r = some (.int v)) ∧ WI w2 ∧ REF w2 (s) ∧ ∀ a, a < 111 → w2[a]? = w[a]?) := by
  exact (H173 hI a1).mono9 (fun r w2 z => ⟨z.1, z.2.1, hR.ez z.2.2, fun a ha => z.2.2 a (by unfold zc; omega)⟩)
theorem r196 {xs : Option (List Int32)} {d : Nat} {w : List sx_C} {s : ST} (hI : WI w) (hR : REF w s) (a1 a2 : Int32) : sx_RP xs (d + 7) 196 0 (lv_args 0 [.ref 111, .int a1, .int a2]) [] w (fun r w2 => (∃ v : Int32, r = some (.int v)) ∧ WI w2 ∧ REF w2 (s) ∧ ∀ a, a < 111 → w2[a]? = w[a]?) := by
  exact (H196 hI a1 a2).mono9 (fun r w2 z => ⟨z.1, z.2.1, hR.ez z.2.2, fun a ha => z.2.2 a (by unfold zc; omega)⟩)
theorem r205 {xs : Option (List Int32)} {d : Nat} {w : List sx_C} {s : ST} (hI : WI w) (hR : REF w s) : sx_RP xs (d + 7) 205 0 (lv_args 0 [.ref 111]) [] w (fun r w2 => (∃ v : Int32, r = some (.int v)) ∧ WI w2 ∧ REF w2 (s) ∧ ∀ a, a < 111 → w2[a]? = w[a]?) := by
  exact (H205 hI).mono9 (fun r w2 z => ⟨z.1, z.2.1, hR.ez z.2.2, fun a ha => z.2.2 a (by unfold zc; omega)⟩)
theorem r243 {xs : Option (List Int32)} {d : Nat} {w : List sx_C} {s : ST} (hI : WI w) (hR : REF w s) (a1 : Int32) : sx_RP xs (d + 7) 243 0 (lv_args 0 [.ref 111, .int a1]) [] w (fun r w2 => (∃ v : Int32, r = some (.int v)) ∧ WI w2 ∧ REF w2 (s) ∧ ∀ a, a < 111 → w2[a]? = w[a]?) := by
  exact (H243 hI a1).mono9 (fun r w2 z => ⟨z.1, z.2.1, hR.ez z.2.2, fun a ha => z.2.2 a (by unfold zc; omega)⟩)
theorem r202 {xs : Option (List Int32)} {d : Nat} {w : List sx_C} {s : ST} (hI : WI w) (hR : REF w s) (a1 : Int32) : sx_RP xs (d + 7) 202 0 (lv_args 0 [.ref 111, .int a1]) [] w (fun r w2 => (∃ v : Int32, r = some (.int v)) ∧ WI w2 ∧ REF w2 (s) ∧ ∀ a, a < 111 → w2[a]? = w[a]?) := by
  exact (H202 hI a1).mono9 (fun r w2 z => ⟨z.1, z.2.1, hR.ez z.2.2, fun a ha => z.2.2 a (by unfold zc; omega)⟩)
theorem r245 {xs : Option (List Int32)} {d : Nat} {w : List sx_C} {s : ST} (hI : WI w) (hR : REF w s) (a1 : Int32) : sx_RP xs (d + 7) 245 0 (lv_args 0 [.ref 111, .int a1]) [] w (fun r w2 => (∃ v : Int32, r = some (.int v)) ∧ WI w2 ∧ REF w2 (s) ∧ ∀ a, a < 111 → w2[a]? = w[a]?) := by
  exact (H245 hI a1).mono9 (fun r w2 z => ⟨z.1, z.2.1, hR.ez z.2.2, fun a ha => z.2.2 a (by unfold zc; omega)⟩)
theorem r207 {xs : Option (List Int32)} {d : Nat} {w : List sx_C} {s : ST} (hI : WI w) (hR : REF w s) (a1 : Int32) : sx_RP xs (d + 7) 207 0 (lv_args 0 [.ref 111, .int a1]) [] w (fun r w2 => (∃ v : Int32, r = some (.int v)) ∧ WI w2 ∧ REF w2 (s) ∧ ∀ a, a < 111 → w2[a]? = w[a]?) := by
  exact (H207 hI a1).mono9 (fun r w2 z => ⟨z.1, z.2.1, hR.ez z.2.2, fun a ha => z.2.2 a (by unfold zc; omega)⟩)
theorem r140 {xs : Option (List Int32)} {d : Nat} {w : List sx_C} {s : ST} (hI : WI w) (hR : REF w s) (a1 a2 : Int32) : sx_RP xs (d + 7) 140 0 (lv_args 0 [.ref 111, .int a1, .int a2]) [] w (fun r w2 => (∃ v : Int32, r = some (.int v)) ∧ WI w2 ∧ REF w2 (s) ∧ ∀ a, a < 111 → w2[a]? = w[a]?) := by
  exact (H140 hI a1 a2).mono9 (fun r w2 z => ⟨z.1, z.2.1, hR.ez z.2.2, fun a ha => z.2.2 a (by unfold zc; omega)⟩)
theorem r179 {xs : Option (List Int32)} {d : Nat} {w : List sx_C} {s : ST} (hI : WI w) (hR : REF w s) (a1 a2 : Int32) : sx_RP xs (d + 7) 179 0 (lv_args 0 [.ref 111, .int a1, .int a2]) [] w (fun r w2 => (∃ v : Int32, r = some (.int v)) ∧ WI w2 ∧ REF w2 (s) ∧ ∀ a, a < 111 → w2[a]? = w[a]?) := by
  exact (H179 hI a1 a2).mono9 (fun r w2 z => ⟨z.1, z.2.1, hR.ez z.2.2, fun a ha => z.2.2 a (by unfold zc; omega)⟩)
theorem r187 {xs : Option (List Int32)} {d : Nat} {w : List sx_C} {s : ST} (hI : WI w) (hR : REF w s) (a1 : Int32) : sx_RP xs (d + 7) 187 0 (lv_args 0 [.ref 111, .int a1]) [] w (fun r w2 => (∃ v : Int32, r = some (.int v)) ∧ WI w2 ∧ REF w2 (s) ∧ ∀ a, a < 111 → w2[a]? = w[a]?) := by
  exact (H187 hI a1).mono9 (fun r w2 z => ⟨z.1, z.2.1, hR.ez z.2.2, fun a ha => z.2.2 a (by unfold zc; omega)⟩)
theorem r191 {xs : Option (List Int32)} {d : Nat} {w : List sx_C} {s : ST} (hI : WI w) (hR : REF w s) (a1 a2 : Int32) : sx_RP xs (d + 7) 191 0 (lv_args 0 [.ref 111, .int a1, .int a2]) [] w (fun r w2 => (∃ v : Int32, r = some (.int v)) ∧ WI w2 ∧ REF w2 (s) ∧ ∀ a, a < 111 → w2[a]? = w[a]?) := by
  exact (H191 hI a1 a2).mono9 (fun r w2 z => ⟨z.1, z.2.1, hR.ez z.2.2, fun a ha => z.2.2 a (by unfold zc; omega)⟩)
theorem r192 {xs : Option (List Int32)} {d : Nat} {w : List sx_C} {s : ST} (hI : WI w) (hR : REF w s) (a1 : Int32) : sx_RP xs (d + 7) 192 0 (lv_args 0 [.ref 111, .int a1]) [] w (fun r w2 => (∃ v : Int64, r = some (.long v)) ∧ WI w2 ∧ REF w2 (s) ∧ ∀ a, a < 111 → w2[a]? = w[a]?) := by
  exact (H192 hI a1).mono9 (fun r w2 z => ⟨z.1, z.2.1, hR.ez z.2.2, fun a ha => z.2.2 a (by unfold zc; omega)⟩)
theorem r194 {xs : Option (List Int32)} {d : Nat} {w : List sx_C} {s : ST} (hI : WI w) (hR : REF w s) (a1 : Int32) : sx_RP xs (d + 7) 194 0 (lv_args 0 [.ref 111, .int a1]) [] w (fun r w2 => (∃ v : Int32, r = some (.int v)) ∧ WI w2 ∧ REF w2 (s) ∧ ∀ a, a < 111 → w2[a]? = w[a]?) := by
  exact (H194 hI a1).mono9 (fun r w2 z => ⟨z.1, z.2.1, hR.ez z.2.2, fun a ha => z.2.2 a (by unfold zc; omega)⟩)
theorem r174 {xs : Option (List Int32)} {d : Nat} {w : List sx_C} {s : ST} (hI : WI w) (hR : REF w s) (a1 a2 : Int32) : sx_RP xs (d + 7) 174 0 (lv_args 0 [.ref 111, .int a1, .int a2]) [] w (fun r w2 => (∃ v : Int32, r = some (.int v)) ∧ WI w2 ∧ REF w2 (s) ∧ ∀ a, a < 111 → w2[a]? = w[a]?) := by
  exact (H174 hI a1 a2).mono9 (fun r w2 z => ⟨z.1, z.2.1, hR.ezl z.2.2, fun a ha => z.2.2.1 a (by unfold yc; omega) (by omega)⟩)
theorem r176 {xs : Option (List Int32)} {d : Nat} {w : List sx_C} {s : ST} (hI : WI w) (hR : REF w s) (a1 : Int32) : sx_RP xs (d + 7) 176 0 (lv_args 0 [.ref 111, .int a1]) [] w (fun r w2 => (∃ v : Int32, r = some (.int v)) ∧ WI w2 ∧ REF w2 (s) ∧ ∀ a, a < 111 → w2[a]? = w[a]?) := by
  exact (H176 hI a1).mono9 (fun r w2 z => ⟨z.1, z.2.1, hR.ezl z.2.2, fun a ha => z.2.2.1 a (by unfold yc; omega) (by omega)⟩)
theorem r177 {xs : Option (List Int32)} {d : Nat} {w : List sx_C} {s : ST} (hI : WI w) (hR : REF w s) : sx_RP xs (d + 7) 177 0 (lv_args 0 [.ref 111]) [] w (fun r w2 => (∃ v : Int32, r = some (.int v)) ∧ WI w2 ∧ REF w2 (s) ∧ ∀ a, a < 111 → w2[a]? = w[a]?) := by
  exact (H177 hI).mono9 (fun r w2 z => ⟨z.1, z.2.1, hR.ezl z.2.2, fun a ha => z.2.2.1 a (by unfold yc; omega) (by omega)⟩)
theorem r180 {xs : Option (List Int32)} {d : Nat} {w : List sx_C} {s : ST} (hI : WI w) (hR : REF w s) (a1 a2 : Int32) : sx_RP xs (d + 7) 180 0 (lv_args 0 [.ref 111, .int a1, .int a2]) [] w (fun r w2 => (∃ v : Int32, r = some (.int v)) ∧ WI w2 ∧ REF w2 (s) ∧ ∀ a, a < 111 → w2[a]? = w[a]?) := by
  exact (H180 hI a1 a2).mono9 (fun r w2 z => ⟨z.1, z.2.1, hR.ezl z.2.2, fun a ha => z.2.2.1 a (by unfold yc; omega) (by omega)⟩)
theorem r183 {xs : Option (List Int32)} {d : Nat} {w : List sx_C} {s : ST} (hI : WI w) (hR : REF w s) (a1 : Int32) : sx_RP xs (d + 7) 183 0 (lv_args 0 [.ref 111, .int a1]) [] w (fun r w2 => (∃ v : Int32, r = some (.int v)) ∧ WI w2 ∧ REF w2 (s) ∧ ∀ a, a < 111 → w2[a]? = w[a]?) := by
  exact (H183 hI a1).mono9 (fun r w2 z => ⟨z.1, z.2.1, hR.ezl z.2.2, fun a ha => z.2.2.1 a (by unfold yc; omega) (by omega)⟩)
theorem r238 {xs : Option (List Int32)} {d : Nat} {w : List sx_C} {s : ST} (hI : WI w) (hR : REF w s) (a1 : Int32) : sx_RP xs (d + 7) 238 0 (lv_args 0 [.ref 111, .int a1]) [] w (fun r w2 => (∃ v : Int32, r = some (.int v)) ∧ WI w2 ∧ REF w2 (s) ∧ ∀ a, a < 111 → w2[a]? = w[a]?) := by
  exact (H238 hI a1).mono9 (fun r w2 z => ⟨z.1, z.2.1, hR.ezl z.2.2, fun a ha => z.2.2.1 a (by unfold yc; omega) (by omega)⟩)
theorem a15 {xs : Option (List Int32)} {d : Nat} {w : List sx_C} {s : ST} (hI : WI w) (hC : CLS w s) (a1 a2 : Int32) : sx_RP xs (d + 7) 15 0 (lv_args 0 [.ref 0, .int a1, .int a2]) [] w (fun r w2 => r = some (.int (farA s.1 a1 a2)) ∧ WI w2 ∧ CLS w2 (s) ∧ ∀ a, 111 ≤ a → w2[a]? = w[a]?) := by
  exact ((c15 (xs := xs) (d := d) hI hC a1 a2).and (A15 hI s.1 hC.1.1 hC.2.2 a1 a2)).mono9 (fun r w2 z => ⟨z.2.1, z.1.2.1, z.1.2.2.1, z.1.2.2.2⟩)
theorem a140 {xs : Option (List Int32)} {d : Nat} {w : List sx_C} {s : ST} (hI : WI w) (hR : REF w s) (a1 a2 : Int32) : sx_RP xs (d + 7) 140 0 (lv_args 0 [.ref 111, .int a1, .int a2]) [] w (fun r w2 => r = some (.int (farA s.1 a1 a2)) ∧ WI w2 ∧ REF w2 (s) ∧ ∀ a, a < 111 → w2[a]? = w[a]?) := by
  refine ((r140 (xs := xs) (d := d) hI hR a1 a2).and (A140 hI a1 a2)).mono9 (fun r w2 z => ⟨?_, z.1.2.1, z.1.2.2.1, z.1.2.2.2⟩)
  rw [z.2.1, hR.1.1]
