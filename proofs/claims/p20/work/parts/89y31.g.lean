-- 89y31.state.lean.txt
section
theorem sx_between {a : Int32} (h : 0 ≤ a ∧ a ≤ 3) : ∃ s, s < 4 ∧ a = nI s := by
  rw [Int32.le_iff_toInt_le, Int32.le_iff_toInt_le] at h
  have h1 : (0 : Int32).toInt = 0 := by decide
  have h2 : (3 : Int32).toInt = 3 := by decide
  refine ⟨a.toInt.toNat, by omega, ?_⟩
  rw [← Int32.toInt_inj, nI_toInt (by omega)]
  omega
abbrev ST := List Int32 × Int32 × List Int32 × List Int32 × (Nat → Int32 × Int32) × (Nat → Nat → Int64)
def CLS (w : List sx_C) (s : ST) : Prop := (rel w 1 s.1 ∧ fi w 0 3 = s.2.1 ∧ (s.2.1 = 1 → rel w 15 s.2.2.1)) ∧ (tapC w = s.2.2.2.1 ∧ FCs w = s.2.2.2.2.1 ∧ NCs w = s.2.2.2.2.2) ∧ SK w
def REF (w : List sx_C) (s : ST) : Prop := (ia w 112 = s.1 ∧ fi w 111 4 = s.2.1 ∧ (s.2.1 = 1 → ia w 113 = s.2.2.1)) ∧ (tapM w = s.2.2.2.1 ∧ FMs w = s.2.2.2.2.1 ∧ NMs w = s.2.2.2.2.2)
theorem tapC_eq {w w2 : List sx_C} (h1 : w2[96]? = w[96]?) (h2 : w2[97]? = w[97]?) : tapC w2 = tapC w := by
  unfold tapC
  rw [fi_same 1 h1, ia_of h2]
theorem tapM_eq {w w2 : List sx_C} (h1 : fi w2 111 11 = fi w 111 11) (h2 : w2[121]? = w[121]?) : tapM w2 = tapM w := by
  unfold tapM
  rw [h1, ia_of h2]
theorem isA15 : isA 15 := Or.inr (Or.inl rfl)
theorem isA1 : isA 1 := Or.inl rfl
section SXST
variable {w w2 : List sx_C} {s : ST}
theorem CLS.fr (h : CLS w s) (hI : WI w) (hE : ∀ a, (a < 29 ∨ a = 96 ∨ a = 97 ∨ (103 ≤ a ∧ a < 111)) → w2[a]? = w[a]?) (hK : SK w → SK w2) : CLS w2 s :=
  ⟨⟨h.1.1.same hI isA1 (fun a _ _ => hE a (by omega)), (fi_same 3 (hE 0 (by omega))).trans h.1.2.1, fun k => (h.1.2.2 k).same hI isA15 (fun a _ _ => hE a (by omega))⟩, ⟨(tapC_eq (hE 96 (by omega)) (hE 97 (by omega))).trans h.2.1.1, (FCs_eq (fun q hq => hE _ (by omega))).trans h.2.1.2.1, (NCs_eq (fun q hq => hE _ (by omega))).trans h.2.1.2.2⟩, hK h.2.2⟩
theorem CLS.lo (h : CLS w s) (hI : WI w) (hE : ∀ a, a < 111 → w2[a]? = w[a]?) : CLS w2 s := h.fr hI (fun a ha => hE a (by omega)) (fun z => z.same (fun a _ _ => hE a (by omega)))
theorem CLS.es (h : CLS w s) (hI : WI w) (hE : ES w w2) : CLS w2 s := h.fr hI (fun a ha => hE.1 a (by unfold qc; omega)) hE.2
theorem CLS.row {l2 : List Int32} (h : CLS w s) (hI : WI w) (hr : rel w2 1 l2) (hE : EO w w2) : CLS w2 (l2, s.2) :=
  ⟨⟨hr, (fi_same 3 (hE 0 (by unfold oc; omega))).trans h.1.2.1, fun k => (h.1.2.2 k).same hI isA15 (fun a _ _ => hE a (by unfold oc; omega))⟩, ⟨(tapC_eq (hE 96 (by unfold oc; omega)) (hE 97 (by unfold oc; omega))).trans h.2.1.1, (FCs_eq (fun q hq => hE _ (by unfold oc; omega))).trans h.2.1.2.1, (NCs_eq (fun q hq => hE _ (by unfold oc; omega))).trans h.2.1.2.2⟩, h.2.2.same (fun a _ _ => hE a (by unfold oc; omega))⟩
theorem CLS.sh {F2 : Nat → Int32 × Int32} {N2 : Nat → Nat → Int64} (h : CLS w s) (hI : WI w) (hF : FCs w2 = F2) (hN : NCs w2 = N2) (hK : SK w2) (hE : ∀ a, (a < 29 ∨ a = 96 ∨ a = 97) → w2[a]? = w[a]?) : CLS w2 (s.1, s.2.1, s.2.2.1, s.2.2.2.1, F2, N2) :=
  ⟨⟨h.1.1.same hI isA1 (fun a _ _ => hE a (by omega)), (fi_same 3 (hE 0 (by omega))).trans h.1.2.1, fun k => (h.1.2.2 k).same hI isA15 (fun a _ _ => hE a (by omega))⟩, ⟨(tapC_eq (hE 96 (by omega)) (hE 97 (by omega))).trans h.2.1.1, hF, hN⟩, hK⟩
theorem CLS.tp {l2 t2 : List Int32} (h : CLS w s) (hI : WI w) (hr : rel w2 1 l2) (ht : tapC w2 = t2) (hE : ∀ a, (a = 0 ∨ (15 ≤ a ∧ a < 29) ∨ (44 ≤ a ∧ a < 96) ∨ (103 ≤ a ∧ a < 111)) → w2[a]? = w[a]?) : CLS w2 (l2, s.2.1, s.2.2.1, t2, s.2.2.2.2) :=
  ⟨⟨hr, (fi_same 3 (hE 0 (by omega))).trans h.1.2.1, fun k => (h.1.2.2 k).same hI isA15 (fun a _ _ => hE a (by omega))⟩, ⟨ht, (FCs_eq (fun q hq => hE _ (by omega))).trans h.2.1.2.1, (NCs_eq (fun q hq => hE _ (by omega))).trans h.2.1.2.2⟩, h.2.2.same (fun a _ _ => hE a (by omega))⟩
theorem REF.fr (h : REF w s) (hi : ia w2 112 = ia w 112) (hE : ∀ a, (a = 111 ∨ a = 113 ∨ 121 ≤ a) → w2[a]? = w[a]?) : REF w2 s :=
  ⟨⟨hi.trans h.1.1, (fi_same 4 (hE 111 (by omega))).trans h.1.2.1, fun k => (ia_of (hE 113 (by omega))).trans (h.1.2.2 k)⟩, ⟨(tapM_eq (fi_same 11 (hE 111 (by omega))) (hE 121 (by omega))).trans h.2.1, (FMs_eq (hE 122 (by omega)) (hE 123 (by omega))).trans h.2.2.1, (NMs_eq (hE 124 (by omega))).trans h.2.2.2⟩⟩
theorem REF.hi (h : REF w s) (hE : ∀ a, 111 ≤ a → w2[a]? = w[a]?) : REF w2 s := h.fr (ia_of (hE 112 (by omega))) (fun a ha => hE a (by omega))
theorem REF.ez (h : REF w s) (hE : EZ w w2) : REF w2 s := h.fr (ia_of (hE 112 (by unfold zc; omega))) (fun a ha => hE a (by unfold zc; omega))
theorem REF.ezl (h : REF w s) (hE : EZL w w2) : REF w2 s := h.fr hE.2 (fun a ha => hE.1 a (by unfold yc; omega) (by omega))
theorem REF.row {l2 : List Int32} (h : REF w s) (hr : ia w2 112 = l2) (hE : EOm w w2) : REF w2 (l2, s.2) :=
  ⟨⟨hr, (fi_same 4 (hE 111 (by unfold ocm; omega))).trans h.1.2.1, fun k => (ia_of (hE 113 (by unfold ocm; omega))).trans (h.1.2.2 k)⟩, ⟨(tapM_eq (fi_same 11 (hE 111 (by unfold ocm; omega))) (hE 121 (by unfold ocm; omega))).trans h.2.1, (FMs_eq (hE 122 (by unfold ocm; omega)) (hE 123 (by unfold ocm; omega))).trans h.2.2.1, (NMs_eq (hE 124 (by unfold ocm; omega))).trans h.2.2.2⟩⟩
theorem REF.sh {F2 : Nat → Int32 × Int32} {N2 : Nat → Nat → Int64} (h : REF w s) (hF : FMs w2 = F2) (hN : NMs w2 = N2) (hE : ∀ a, (a = 111 ∨ a = 112 ∨ a = 113 ∨ a = 121) → w2[a]? = w[a]?) : REF w2 (s.1, s.2.1, s.2.2.1, s.2.2.2.1, F2, N2) :=
  ⟨⟨(ia_of (hE 112 (by omega))).trans h.1.1, (fi_same 4 (hE 111 (by omega))).trans h.1.2.1, fun k => (ia_of (hE 113 (by omega))).trans (h.1.2.2 k)⟩, ⟨(tapM_eq (fi_same 11 (hE 111 (by omega))) (hE 121 (by omega))).trans h.2.1, hF, hN⟩⟩
theorem REF.tp {l2 t2 : List Int32} (h : REF w s) (hr : ia w2 112 = l2) (ht : tapM w2 = t2) (h4 : fi w2 111 4 = fi w 111 4) (hE : ∀ a, (a = 113 ∨ 122 ≤ a) → w2[a]? = w[a]?) : REF w2 (l2, s.2.1, s.2.2.1, t2, s.2.2.2.2) :=
  ⟨⟨hr, h4.trans h.1.2.1, fun k => (ia_of (hE 113 (by omega))).trans (h.1.2.2 k)⟩, ⟨ht, (FMs_eq (hE 122 (by omega)) (hE 123 (by omega))).trans h.2.2.1, (NMs_eq (hE 124 (by omega))).trans h.2.2.2⟩⟩
end SXST
def TT (t : List Int32) : Prop := ∀ i, i < t.length → ∃ j, j < 256 ∧ t.getD i 0 = nI j
theorem TT_of {w : List sx_C} (hI : WI w) (hY : TBy w) : TT (tapC w) := by
  intro i hi
  obtain ⟨n, hn, en⟩ := hI.t.1
  have hl : (tapC w).length = n := tapC_len en hn
  rw [hl] at hi
  obtain ⟨j, hj, ej⟩ := hY i
  refine ⟨j, hj, ?_⟩
  unfold tapC
  rw [map_at (by rw [en, iN_n (by omega)]; exact hi), ej]
  exact sgn_and ⟨j, hj⟩
def feT (t : List Int32) (a1 a2 : Int32) : List Int32 := if 1 ≤ a2 ∧ a2 ≤ 4 then (if t.length + iN a2 ≤ 120 then t ++ bytesOf a1 (iN a2) else t) else t
theorem fe_T (t : BT) (a1 a2 : Int32) : (feeU t a1 a2).2.2.2 = feT t.2.2.2 a1 a2 := by
  unfold feeU feT
  split
  · split <;> rfl
  · rfl
theorem c6 {xs : Option (List Int32)} {d : Nat} {w : List sx_C} {s : ST} (hI : WI w) (hC : CLS w s) (a1 a2 : Int32) : sx_RP xs (d + 7) 6 0 (lv_args 0 [.ref 0, .int a1, .int a2]) [] w (fun r w2 => r = some (.int (gndA s.1 a1 a2)) ∧ WI w2 ∧ CLS w2 (gndR s.1 a1 a2, s.2) ∧ ∀ a, 111 ≤ a → w2[a]? = w[a]?) := by
  exact (Z6 hI s.1 hC.1.1 a1 a2).mono9 (fun r w2 z => ⟨z.1.1, z.2.1, hC.row hI z.1.2 z.2.2, fun a ha => z.2.2 a (by unfold oc; omega)⟩)
theorem r130 {xs : Option (List Int32)} {d : Nat} {w : List sx_C} {s : ST} (hI : WI w) (hR : REF w s) (a1 a2 : Int32) : sx_RP xs (d + 7) 130 0 (lv_args 0 [.ref 111, .int a1, .int a2]) [] w (fun r w2 => r = some (.int (gndA s.1 a1 a2)) ∧ WI w2 ∧ REF w2 (gndR s.1 a1 a2, s.2) ∧ ∀ a, a < 111 → w2[a]? = w[a]?) := by
  refine (Y130 hI a1 a2).mono9 (fun r w2 z => ⟨?_, z.2.1, hR.row ?_ z.2.2, fun a ha => z.2.2 a (by unfold ocm; omega)⟩)
  · rw [z.1.1, hR.1.1]
  · rw [z.1.2, hR.1.1]
theorem c28 {xs : Option (List Int32)} {d : Nat} {w : List sx_C} {s : ST} (hI : WI w) (hC : CLS w s) (a1 a2 : Int32) : sx_RP xs (d + 7) 28 0 (lv_args 0 [.ref 0, .int a1, .int a2]) [] w (fun r w2 => r = some (.int (turA s.1 a1 a2)) ∧ WI w2 ∧ CLS w2 (turR s.1 a1 a2, s.2) ∧ ∀ a, 111 ≤ a → w2[a]? = w[a]?) := by
  exact (Z28 hI s.1 hC.1.1 a1 a2).mono9 (fun r w2 z => ⟨z.1.1, z.2.1, hC.row hI z.1.2 z.2.2, fun a ha => z.2.2 a (by unfold oc; omega)⟩)
theorem r157 {xs : Option (List Int32)} {d : Nat} {w : List sx_C} {s : ST} (hI : WI w) (hR : REF w s) (a1 a2 : Int32) : sx_RP xs (d + 7) 157 0 (lv_args 0 [.ref 111, .int a1, .int a2]) [] w (fun r w2 => r = some (.int (turA s.1 a1 a2)) ∧ WI w2 ∧ REF w2 (turR s.1 a1 a2, s.2) ∧ ∀ a, a < 111 → w2[a]? = w[a]?) := by
  refine (Y157 hI a1 a2).mono9 (fun r w2 z => ⟨?_, z.2.1, hR.row ?_ z.2.2, fun a ha => z.2.2 a (by unfold ocm; omega)⟩)
  · rw [z.1.1, hR.1.1]
  · rw [z.1.2, hR.1.1]
theorem c29 {xs : Option (List Int32)} {d : Nat} {w : List sx_C} {s : ST} (hI : WI w) (hC : CLS w s) (a1 a2 : Int32) : sx_RP xs (d + 7) 29 0 (lv_args 0 [.ref 0, .int a1, .int a2]) [] w (fun r w2 => r = some (.int (bec2A s.1 a1 a2)) ∧ WI w2 ∧ CLS w2 (bec2R s.1 a1 a2, s.2) ∧ ∀ a, 111 ≤ a → w2[a]? = w[a]?) := by
  exact (Z29 hI s.1 hC.1.1 a1 a2).mono9 (fun r w2 z => ⟨z.1.1, z.2.1, hC.row hI z.1.2 z.2.2, fun a ha => z.2.2 a (by unfold oc; omega)⟩)
theorem r158 {xs : Option (List Int32)} {d : Nat} {w : List sx_C} {s : ST} (hI : WI w) (hR : REF w s) (a1 a2 : Int32) : sx_RP xs (d + 7) 158 0 (lv_args 0 [.ref 111, .int a1, .int a2]) [] w (fun r w2 => r = some (.int (bec2A s.1 a1 a2)) ∧ WI w2 ∧ REF w2 (bec2R s.1 a1 a2, s.2) ∧ ∀ a, a < 111 → w2[a]? = w[a]?) := by
  refine (Y158 hI a1 a2).mono9 (fun r w2 z => ⟨?_, z.2.1, hR.row ?_ z.2.2, fun a ha => z.2.2 a (by unfold ocm; omega)⟩)
  · rw [z.1.1, hR.1.1]
  · rw [z.1.2, hR.1.1]
theorem c21 {xs : Option (List Int32)} {d : Nat} {w : List sx_C} {s : ST} (hI : WI w) (hC : CLS w s) (a1 a2 a3 a4 : Int32) : sx_RP xs (d + 7) 21 0 (lv_args 0 [.ref 0, .int a1, .int a2, .int a3, .int a4]) [] w (fun r w2 => r = some (.int (gal2A s.1 a1 a2 a3 a4)) ∧ WI w2 ∧ CLS w2 (gal2R s.1 a1 a2 a3 a4, s.2) ∧ ∀ a, 111 ≤ a → w2[a]? = w[a]?) := by
  exact (Z21 hI s.1 hC.1.1 a1 a2 a3 a4).mono9 (fun r w2 z => ⟨z.1.1, z.2.1, hC.row hI z.1.2 z.2.2, fun a ha => z.2.2 a (by unfold oc; omega)⟩)
theorem r150 {xs : Option (List Int32)} {d : Nat} {w : List sx_C} {s : ST} (hI : WI w) (hR : REF w s) (a1 a2 a3 a4 : Int32) : sx_RP xs (d + 7) 150 0 (lv_args 0 [.ref 111, .int a1, .int a2, .int a3, .int a4]) [] w (fun r w2 => r = some (.int (gal2A s.1 a1 a2 a3 a4)) ∧ WI w2 ∧ REF w2 (gal2R s.1 a1 a2 a3 a4, s.2) ∧ ∀ a, a < 111 → w2[a]? = w[a]?) := by
  refine (Y150 hI a1 a2 a3 a4).mono9 (fun r w2 z => ⟨?_, z.2.1, hR.row ?_ z.2.2, fun a ha => z.2.2 a (by unfold ocm; omega)⟩)
  · rw [z.1.1, hR.1.1]
  · rw [z.1.2, hR.1.1]
theorem c62 {xs : Option (List Int32)} {d : Nat} {w : List sx_C} {s : ST} (hI : WI w) (hC : CLS w s) (a1 : Int32) : sx_RP xs (d + 7) 62 0 (lv_args 0 [.ref 0, .int a1]) [] w (fun r w2 => r = some (.int (dis2A s.1 a1)) ∧ WI w2 ∧ CLS w2 (dis2R s.1 a1, s.2) ∧ ∀ a, 111 ≤ a → w2[a]? = w[a]?) := by
  exact (Z62 hI s.1 hC.1.1 a1).mono9 (fun r w2 z => ⟨z.1.1, z.2.1, hC.row hI z.1.2 z.2.2, fun a ha => z.2.2 a (by unfold oc; omega)⟩)
theorem r184 {xs : Option (List Int32)} {d : Nat} {w : List sx_C} {s : ST} (hI : WI w) (hR : REF w s) (a1 : Int32) : sx_RP xs (d + 7) 184 0 (lv_args 0 [.ref 111, .int a1]) [] w (fun r w2 => r = some (.int (dis2A s.1 a1)) ∧ WI w2 ∧ REF w2 (dis2R s.1 a1, s.2) ∧ ∀ a, a < 111 → w2[a]? = w[a]?) := by
  refine (Y184 hI a1).mono9 (fun r w2 z => ⟨?_, z.2.1, hR.row ?_ z.2.2, fun a ha => z.2.2 a (by unfold ocm; omega)⟩)
  · rw [z.1.1, hR.1.1]
  · rw [z.1.2, hR.1.1]
theorem c65 {xs : Option (List Int32)} {d : Nat} {w : List sx_C} {s : ST} (hI : WI w) (hC : CLS w s) (a1 a2 : Int32) : sx_RP xs (d + 7) 65 0 (lv_args 0 [.ref 0, .int a1, .int a2]) [] w (fun r w2 => r = some (.int (mov2A s.1 a1 a2)) ∧ WI w2 ∧ CLS w2 (mov2R s.1 a1 a2, s.2) ∧ ∀ a, 111 ≤ a → w2[a]? = w[a]?) := by
  exact (Z65 hI s.1 hC.1.1 a1 a2).mono9 (fun r w2 z => ⟨z.1.1, z.2.1, hC.row hI z.1.2 z.2.2, fun a ha => z.2.2 a (by unfold oc; omega)⟩)
theorem r185 {xs : Option (List Int32)} {d : Nat} {w : List sx_C} {s : ST} (hI : WI w) (hR : REF w s) (a1 a2 : Int32) : sx_RP xs (d + 7) 185 0 (lv_args 0 [.ref 111, .int a1, .int a2]) [] w (fun r w2 => r = some (.int (mov2A s.1 a1 a2)) ∧ WI w2 ∧ REF w2 (mov2R s.1 a1 a2, s.2) ∧ ∀ a, a < 111 → w2[a]? = w[a]?) := by
  refine (Y185 hI a1 a2).mono9 (fun r w2 z => ⟨?_, z.2.1, hR.row ?_ z.2.2, fun a ha => z.2.2 a (by unfold ocm; omega)⟩)
  · rw [z.1.1, hR.1.1]
  · rw [z.1.2, hR.1.1]
theorem c82 {xs : Option (List Int32)} {d : Nat} {w : List sx_C} {s : ST} (hI : WI w) (hC : CLS w s) (a1 a2 : Int32) : sx_RP xs (d + 7) 82 0 (lv_args 0 [.ref 0, .int a1, .int a2]) [] w (fun r w2 => r = some (.int (bre2A s.1 a1 a2)) ∧ WI w2 ∧ CLS w2 (bre2R s.1 a1 a2, s.2) ∧ ∀ a, 111 ≤ a → w2[a]? = w[a]?) := by
  exact (Z82 hI s.1 hC.1.1 a1 a2).mono9 (fun r w2 z => ⟨z.1.1, z.2.1, hC.row hI z.1.2 z.2.2, fun a ha => z.2.2 a (by unfold oc; omega)⟩)
theorem r203 {xs : Option (List Int32)} {d : Nat} {w : List sx_C} {s : ST} (hI : WI w) (hR : REF w s) (a1 a2 : Int32) : sx_RP xs (d + 7) 203 0 (lv_args 0 [.ref 111, .int a1, .int a2]) [] w (fun r w2 => r = some (.int (bre2A s.1 a1 a2)) ∧ WI w2 ∧ REF w2 (bre2R s.1 a1 a2, s.2) ∧ ∀ a, a < 111 → w2[a]? = w[a]?) := by
  refine (Y203 hI a1 a2).mono9 (fun r w2 z => ⟨?_, z.2.1, hR.row ?_ z.2.2, fun a ha => z.2.2 a (by unfold ocm; omega)⟩)
  · rw [z.1.1, hR.1.1]
  · rw [z.1.2, hR.1.1]
theorem c39 {xs : Option (List Int32)} {d : Nat} {w : List sx_C} {s : ST} (hI : WI w) (hC : CLS w s) (a1 : Int32) : sx_RP xs (d + 7) 39 0 (lv_args 0 [.ref 0, .int a1]) [] w (fun r w2 => r = some (.int (ntsA s.1 a1)) ∧ WI w2 ∧ CLS w2 (ntsR s.1 a1, s.2) ∧ ∀ a, 111 ≤ a → w2[a]? = w[a]?) := by
  exact (Z39 hI s.1 hC.1.1 a1).mono9 (fun r w2 z => ⟨z.1.1, z.2.1, hC.row hI z.1.2 z.2.2, fun a ha => z.2.2 a (by unfold oc; omega)⟩)
theorem r164 {xs : Option (List Int32)} {d : Nat} {w : List sx_C} {s : ST} (hI : WI w) (hR : REF w s) (hW : WB s.1) (a1 : Int32) : sx_RP xs (d + 7) 164 0 (lv_args 0 [.ref 111, .int a1]) [] w (fun r w2 => r = some (.int (ntsA s.1 a1)) ∧ WI w2 ∧ REF w2 (ntsR s.1 a1, s.2) ∧ ∀ a, a < 111 → w2[a]? = w[a]?) := by
  refine (Y164 hI (by rw [hR.1.1]; exact hW) a1).mono9 (fun r w2 z => ⟨?_, z.2.1, hR.row ?_ z.2.2, fun a ha => z.2.2 a (by unfold ocm; omega)⟩)
  · rw [z.1.1, hR.1.1]
  · rw [z.1.2, hR.1.1]
theorem c79 {xs : Option (List Int32)} {d : Nat} {w : List sx_C} {s : ST} (hI : WI w) (hC : CLS w s) (a1 a2 : Int32) : sx_RP xs (d + 7) 79 0 (lv_args 0 [.ref 0, .int a1, .int a2]) [] w (fun r w2 => r = some (.int (blwA s.1 a1 a2)) ∧ WI w2 ∧ CLS w2 (blwR s.1 a1 a2, s.2) ∧ ∀ a, 111 ≤ a → w2[a]? = w[a]?) := by
  exact (Z79 hI s.1 hC.1.1 a1 a2).mono9 (fun r w2 z => ⟨z.1.1, z.2.1, hC.row hI z.1.2 z.2.2, fun a ha => z.2.2 a (by unfold oc; omega)⟩)
theorem r201 {xs : Option (List Int32)} {d : Nat} {w : List sx_C} {s : ST} (hI : WI w) (hR : REF w s) (a1 a2 : Int32) : sx_RP xs (d + 7) 201 0 (lv_args 0 [.ref 111, .int a1, .int a2]) [] w (fun r w2 => r = some (.int (blwA s.1 a1 a2)) ∧ WI w2 ∧ REF w2 (blwR s.1 a1 a2, s.2) ∧ ∀ a, a < 111 → w2[a]? = w[a]?) := by
  refine (Y201 hI a1 a2).mono9 (fun r w2 z => ⟨?_, z.2.1, hR.row ?_ z.2.2, fun a ha => z.2.2 a (by unfold ocm; omega)⟩)
  · rw [z.1.1, hR.1.1]
  · rw [z.1.2, hR.1.1]
theorem c10_0 {xs : Option (List Int32)} {d : Nat} {w : List sx_C} {s : ST} (hI : WI w) (hC : CLS w s) (a1 : Int32) : sx_RP xs (d + 7) 10 0 (lv_args 0 [.ref 0, .int a1, .int 0]) [] w (fun r w2 => r = some (.int (walA s.1 a1 0)) ∧ WI w2 ∧ CLS w2 (walR s.1 a1 0, s.2) ∧ ∀ a, 111 ≤ a → w2[a]? = w[a]?) := by
  exact (Z10_0 hI s.1 hC.1.1 a1).mono9 (fun r w2 z => ⟨z.1.1, z.2.1, hC.row hI z.1.2 z.2.2, fun a ha => z.2.2 a (by unfold oc; omega)⟩)
theorem r134_0 {xs : Option (List Int32)} {d : Nat} {w : List sx_C} {s : ST} (hI : WI w) (hR : REF w s) (a1 : Int32) : sx_RP xs (d + 7) 134 0 (lv_args 0 [.ref 111, .int a1, .int 0]) [] w (fun r w2 => r = some (.int (walA s.1 a1 0)) ∧ WI w2 ∧ REF w2 (walR s.1 a1 0, s.2) ∧ ∀ a, a < 111 → w2[a]? = w[a]?) := by
  refine (Y134_0 hI a1).mono9 (fun r w2 z => ⟨?_, z.2.1, hR.row ?_ z.2.2, fun a ha => z.2.2 a (by unfold ocm; omega)⟩)
  · rw [z.1.1, hR.1.1]
  · rw [z.1.2, hR.1.1]
theorem c10_1 {xs : Option (List Int32)} {d : Nat} {w : List sx_C} {s : ST} (hI : WI w) (hC : CLS w s) (a1 : Int32) : sx_RP xs (d + 7) 10 0 (lv_args 0 [.ref 0, .int a1, .int 1]) [] w (fun r w2 => r = some (.int (walA s.1 a1 1)) ∧ WI w2 ∧ CLS w2 (walR s.1 a1 1, s.2) ∧ ∀ a, 111 ≤ a → w2[a]? = w[a]?) := by
  exact (Z10_1 hI s.1 hC.1.1 a1).mono9 (fun r w2 z => ⟨z.1.1, z.2.1, hC.row hI z.1.2 z.2.2, fun a ha => z.2.2 a (by unfold oc; omega)⟩)
theorem r134_1 {xs : Option (List Int32)} {d : Nat} {w : List sx_C} {s : ST} (hI : WI w) (hR : REF w s) (a1 : Int32) : sx_RP xs (d + 7) 134 0 (lv_args 0 [.ref 111, .int a1, .int 1]) [] w (fun r w2 => r = some (.int (walA s.1 a1 1)) ∧ WI w2 ∧ REF w2 (walR s.1 a1 1, s.2) ∧ ∀ a, a < 111 → w2[a]? = w[a]?) := by
  refine (Y134_1 hI a1).mono9 (fun r w2 z => ⟨?_, z.2.1, hR.row ?_ z.2.2, fun a ha => z.2.2 a (by unfold ocm; omega)⟩)
  · rw [z.1.1, hR.1.1]
  · rw [z.1.2, hR.1.1]
theorem c120 {xs : Option (List Int32)} {d : Nat} {w : List sx_C} {s : ST} (hI : WI w) (hC : CLS w s) (a1 a2 : Int32) : sx_RP xs (d + 7) 120 0 (lv_args 0 [.ref 0, .int a1, .int a2]) [] w (fun r w2 => r = some (.int (lysA s.2.2.2.2.1 s.2.2.2.2.2 s.1 a1 a2)) ∧ WI w2 ∧ CLS w2 (lysR s.2.2.2.2.1 s.2.2.2.2.2 s.1 a1 a2, s.2) ∧ ∀ a, 111 ≤ a → w2[a]? = w[a]?) := by
  have z0 := Z120 (xs := xs) (d := d) hI s.1 hC.1.1 a1 a2
  rw [hC.2.1.2.1, hC.2.1.2.2] at z0
  exact z0.mono9 (fun r w2 z => ⟨z.1.1, z.2.1, hC.row hI z.1.2 z.2.2, fun a ha => z.2.2 a (by unfold oc; omega)⟩)
theorem r235 {xs : Option (List Int32)} {d : Nat} {w : List sx_C} {s : ST} (hI : WI w) (hR : REF w s) (a1 a2 : Int32) : sx_RP xs (d + 7) 235 0 (lv_args 0 [.ref 111, .int a1, .int a2]) [] w (fun r w2 => r = some (.int (lysA s.2.2.2.2.1 s.2.2.2.2.2 s.1 a1 a2)) ∧ WI w2 ∧ REF w2 (lysR s.2.2.2.2.1 s.2.2.2.2.2 s.1 a1 a2, s.2) ∧ ∀ a, a < 111 → w2[a]? = w[a]?) := by
  have z0 := Y235 (xs := xs) (d := d) hI a1 a2
  rw [hR.2.2.1, hR.2.2.2, hR.1.1] at z0
  exact z0.mono9 (fun r w2 z => ⟨z.1.1, z.2.1, hR.row z.1.2 z.2.2, fun a ha => z.2.2 a (by unfold ocm; omega)⟩)
theorem c115 {xs : Option (List Int32)} {d : Nat} {w : List sx_C} {s : ST} (hI : WI w) (hC : CLS w s) (a1 a2 : Int32) (v : Int64) : sx_RP xs (d + 7) 115 0 (lv_args 0 [.ref 0, .int a1, .int a2, .long v]) [] w (fun r w2 => r = some (.long (wrA s.2.2.2.2.1 s.2.2.2.2.2 a1 a2)) ∧ WI w2 ∧ CLS w2 (s.1, s.2.1, s.2.2.1, s.2.2.2.1, s.2.2.2.2.1, wrR s.2.2.2.2.1 s.2.2.2.2.2 a1 a2 v) ∧ ∀ a, 111 ≤ a → w2[a]? = w[a]?) := by
  have z0 := Z115 (xs := xs) (d := d) hI a1 a2 v
  rw [hC.2.1.2.1, hC.2.1.2.2] at z0
  exact z0.mono9 (fun r w2 z => ⟨z.1.1, z.2.1, hC.sh hI z.1.2.2 z.1.2.1 (hC.2.2.same (fun a _ _ => z.2.2 a (by omega) (by omega))) (fun a ha => z.2.2 a (by omega) (by omega)), fun a ha => z.2.2 a (by omega) (by omega)⟩)
theorem r232 {xs : Option (List Int32)} {d : Nat} {w : List sx_C} {s : ST} (hI : WI w) (hR : REF w s) (a1 a2 : Int32) (v : Int64) : sx_RP xs (d + 7) 232 0 (lv_args 0 [.ref 111, .int a1, .int a2, .long v]) [] w (fun r w2 => r = some (.long (wrA s.2.2.2.2.1 s.2.2.2.2.2 a1 a2)) ∧ WI w2 ∧ REF w2 (s.1, s.2.1, s.2.2.1, s.2.2.2.1, s.2.2.2.2.1, wrR s.2.2.2.2.1 s.2.2.2.2.2 a1 a2 v) ∧ ∀ a, a < 111 → w2[a]? = w[a]?) := by
  have z0 := Y232 (xs := xs) (d := d) hI a1 a2 v
  rw [hR.2.2.1, hR.2.2.2] at z0
  exact z0.mono9 (fun r w2 z => ⟨z.1.1, z.2.1, hR.sh z.1.2.2 z.1.2.1 (fun a ha => z.2.2 a (by omega) (by omega)), fun a ha => z.2.2 a (by omega) (by omega)⟩)
theorem c118 {xs : Option (List Int32)} {d : Nat} {w : List sx_C} {s : ST} (hI : WI w) (hC : CLS w s) (a1 a2 a3 a4 a5 : Int32) : sx_RP xs (d + 7) 118 0 (lv_args 0 [.ref 0, .int a1, .int a2, .int a3, .int a4, .int a5]) [] w (fun r w2 => r = some (.int (cpAns s.2.2.2.2.1 a1 a2 a3 a4 a5)) ∧ WI w2 ∧ CLS w2 (s.1, s.2.1, s.2.2.1, s.2.2.2.1, s.2.2.2.2.1, cpR s.2.2.2.2.1 s.2.2.2.2.2 a1 a2 a3 a4 a5) ∧ ∀ a, 111 ≤ a → w2[a]? = w[a]?) := by
  have z0 := Z118 (xs := xs) (d := d) hI a1 a2 a3 a4 a5
  rw [hC.2.1.2.1, hC.2.1.2.2] at z0
  exact z0.mono9 (fun r w2 z => ⟨z.1.1, z.2.1, hC.sh hI z.1.2.2 z.1.2.1 (hC.2.2.same (fun a _ _ => z.2.2 a (by omega) (by omega))) (fun a ha => z.2.2 a (by omega) (by omega)), fun a ha => z.2.2 a (by omega) (by omega)⟩)
theorem r234 {xs : Option (List Int32)} {d : Nat} {w : List sx_C} {s : ST} (hI : WI w) (hR : REF w s) (a1 a2 a3 a4 a5 : Int32) : sx_RP xs (d + 7) 234 0 (lv_args 0 [.ref 111, .int a1, .int a2, .int a3, .int a4, .int a5]) [] w (fun r w2 => r = some (.int (cpAns s.2.2.2.2.1 a1 a2 a3 a4 a5)) ∧ WI w2 ∧ REF w2 (s.1, s.2.1, s.2.2.1, s.2.2.2.1, s.2.2.2.2.1, cpR s.2.2.2.2.1 s.2.2.2.2.2 a1 a2 a3 a4 a5) ∧ ∀ a, a < 111 → w2[a]? = w[a]?) := by
  have z0 := Y234 (xs := xs) (d := d) hI a1 a2 a3 a4 a5
  rw [hR.2.2.1, hR.2.2.2] at z0
  exact z0.mono9 (fun r w2 z => ⟨z.1.1, z.2.1, hR.sh z.1.2.2 z.1.2.1 (fun a ha => z.2.2 a (by omega) (by omega) (by omega)), fun a ha => z.2.2 a (by omega) (by omega) (by omega)⟩)
theorem c121 {xs : Option (List Int32)} {d : Nat} {w : List sx_C} {s : ST} (hI : WI w) (hC : CLS w s) (a1 : Int32) : sx_RP xs (d + 7) 121 0 (lv_args 0 [.ref 0, .int a1]) [] w (fun r w2 => r = some (.int (bokA s.2.2.2.2.1 s.1 a1)) ∧ WI w2 ∧ CLS w2 (s.1, s.2.1, s.2.2.1, s.2.2.2.1, s.2.2.2.2.1, bokR s.2.2.2.2.1 s.2.2.2.2.2 s.1 a1) ∧ ∀ a, 111 ≤ a → w2[a]? = w[a]?) := by
  have z0 := Z121 (xs := xs) (d := d) hI s.1 hC.1.1 hC.2.2 a1
  rw [hC.2.1.2.1, hC.2.1.2.2] at z0
  exact z0.mono9 (fun r w2 z => ⟨z.1.1, z.2.1, hC.sh hI z.1.2.2 z.1.2.1 z.2.2.1 (fun a ha => z.2.2.2 a (by omega) (by omega)), fun a ha => z.2.2.2 a (by omega) (by omega)⟩)
theorem r236 {xs : Option (List Int32)} {d : Nat} {w : List sx_C} {s : ST} (hI : WI w) (hR : REF w s) (a1 : Int32) : sx_RP xs (d + 7) 236 0 (lv_args 0 [.ref 111, .int a1]) [] w (fun r w2 => r = some (.int (bokA s.2.2.2.2.1 s.1 a1)) ∧ WI w2 ∧ REF w2 (s.1, s.2.1, s.2.2.1, s.2.2.2.1, s.2.2.2.2.1, bokR s.2.2.2.2.1 s.2.2.2.2.2 s.1 a1) ∧ ∀ a, a < 111 → w2[a]? = w[a]?) := by
  have z0 := Y236 (xs := xs) (d := d) hI a1
  rw [hR.2.2.1, hR.2.2.2, hR.1.1] at z0
  exact z0.mono9 (fun r w2 z => ⟨z.1.1, z.2.1, hR.sh z.1.2.2 z.1.2.1 (fun a ha => z.2.2 a (by omega) (by omega) (by omega) (by omega)), fun a ha => z.2.2 a (by omega) (by omega) (by omega) (by omega)⟩)
theorem c92 {xs : Option (List Int32)} {d : Nat} {w : List sx_C} {s : ST} (hI : WI w) (hC : CLS w s) (hY : TBy w) : sx_RP xs (d + 7) 92 0 (lv_args 0 [.ref 0]) [] w (fun r w2 => r = some (.int (sieV s.2.2.2.1 s.1).1) ∧ WI w2 ∧ CLS w2 (sieR s.2.2.2.1 s.1, s.2.1, s.2.2.1, [], s.2.2.2.2) ∧ ∀ a, 111 ≤ a → w2[a]? = w[a]?) := by
  have z0 := Z92 (xs := xs) (d := d) hI s.1 hC.1.1 hY
  rw [hC.2.1.1] at z0
  exact z0.mono9 (fun r w2 z => ⟨z.1.1, z.2.1, hC.tp hI z.1.2.1 z.1.2.2 (fun a ha => z.2.2 a (by omega) (by omega)), fun a ha => z.2.2 a (by omega) (by omega)⟩)
theorem r210 {xs : Option (List Int32)} {d : Nat} {w : List sx_C} {s : ST} (hI : WI w) (hR : REF w s) (hT : TT s.2.2.2.1) : sx_RP xs (d + 8) 210 0 (lv_args 0 [.ref 111]) [] w (fun r w2 => r = some (.int (sieV s.2.2.2.1 s.1).1) ∧ WI w2 ∧ REF w2 (sieR s.2.2.2.1 s.1, s.2.1, s.2.2.1, [], s.2.2.2.2) ∧ ∀ a, a < 111 → w2[a]? = w[a]?) := by
  have z0 := Y210 (xs := xs) (d := d) hI (show TT (tapM w) by rw [hR.2.1]; exact hT)
  rw [hR.2.1, hR.1.1] at z0
  exact z0.mono9 (fun r w2 z => ⟨z.1.1, z.2.1, hR.tp z.1.2.1 z.1.2.2.1 (z.1.2.2.2 4 (by decide)) (fun a ha => z.2.2 a (by omega) (by omega) (by omega)), fun a ha => z.2.2 a (by omega) (by omega) (by omega)⟩)
theorem c90 {xs : Option (List Int32)} {d : Nat} {w : List sx_C} {s : ST} (hI : WI w) (hC : CLS w s) : sx_RP xs (d + 7) 90 0 (lv_args 0 [.ref 0]) [] w (fun r w2 => r = some (.int (nI s.2.2.2.1.length)) ∧ WI w2 ∧ CLS w2 (s.1, s.2.1, s.2.2.1, [], s.2.2.2.2) ∧ ∀ a, 111 ≤ a → w2[a]? = w[a]?) := by
  obtain ⟨n, hn, en⟩ := hI.t.1
  refine (Z90 (xs := xs) (d := d) hI).mono9 (fun r w2 z => ⟨?_, z.2.1, hC.tp hI (hC.1.1.same hI isA1 (fun a _ _ => z.2.2 a (by omega))) z.1.2 (fun a ha => z.2.2 a (by omega)), fun a ha => z.2.2 a (by omega)⟩)
  rw [z.1.1, ← hC.2.1.1, show (tapC w).length = n from tapC_len en hn, en]
theorem r209 {xs : Option (List Int32)} {d : Nat} {w : List sx_C} {s : ST} (hI : WI w) (hR : REF w s) : sx_RP xs (d + 7) 209 0 (lv_args 0 [.ref 111]) [] w (fun r w2 => r = some (.int (nI s.2.2.2.1.length)) ∧ WI w2 ∧ REF w2 (s.1, s.2.1, s.2.2.1, [], s.2.2.2.2) ∧ ∀ a, a < 111 → w2[a]? = w[a]?) := by
  obtain ⟨n, hn, en⟩ := hI.m.2.1
  refine (Y209 (xs := xs) (d := d) hI).mono9 (fun r w2 z => ⟨?_, z.2.1, hR.tp ((ia_of (z.2.2 112 (by omega))).trans hR.1.1) z.1.2.1 z.1.2.2 (fun a ha => z.2.2 a (by omega)), fun a ha => z.2.2 a (by omega)⟩)
  rw [z.1.1, ← hR.2.1, show (tapM w).length = n from tapM_len9 en hn, en]
theorem c87 {xs : Option (List Int32)} {d : Nat} {w : List sx_C} {s : ST} (hI : WI w) (hC : CLS w s) (a1 a2 : Int32) : sx_RP xs (d + 7) 87 0 (lv_args 0 [.ref 0, .int a1, .int a2]) [] w (fun r w2 => r = some (.int (feedA s.2.2.2.1.length a2)) ∧ WI w2 ∧ CLS w2 (s.1, s.2.1, s.2.2.1, feT s.2.2.2.1 a1 a2, s.2.2.2.2) ∧ ∀ a, 111 ≤ a → w2[a]? = w[a]?) := by
  refine ((B87 (xs := xs) (d := d) hI a1 a2).and (F87 hI a1 a2)).mono9 (fun r w2 z => ⟨?_, z.2.1, hC.tp hI (hC.1.1.same hI isA1 (fun a _ _ => z.2.2 a (by omega) (by omega) (by omega))) ?_ (fun a ha => z.2.2 a (by omega) (by omega) (by omega)), fun a ha => z.2.2 a (by omega) (by omega) (by omega)⟩)
  · rw [z.1.1.1, ← hC.2.1.1]
    rfl
  · rw [← hC.2.1.1]
    exact (congrArg (fun t : BT => t.2.2.2) z.1.1.2).trans (fe_T _ _ _)
theorem r208 {xs : Option (List Int32)} {d : Nat} {w : List sx_C} {s : ST} (hI : WI w) (hR : REF w s) (a1 a2 : Int32) : sx_RP xs (d + 7) 208 0 (lv_args 0 [.ref 111, .int a1, .int a2]) [] w (fun r w2 => r = some (.int (feedA s.2.2.2.1.length a2)) ∧ WI w2 ∧ REF w2 (s.1, s.2.1, s.2.2.1, feT s.2.2.2.1 a1 a2, s.2.2.2.2) ∧ ∀ a, a < 111 → w2[a]? = w[a]?) := by
  refine ((B208 (xs := xs) (d := d) hI a1 a2).and (F208 hI a1 a2)).mono9 (fun r w2 z => ⟨?_, z.2.1, hR.tp ((ia_of (z.2.2.2 112 (by omega) (by omega) (by omega))).trans hR.1.1) ?_ z.2.2.1 (fun a ha => z.2.2.2 a (by omega) (by omega) (by omega)), fun a ha => z.2.2.2 a (by omega) (by omega) (by omega)⟩)
  · rw [z.1.1.1, ← hR.2.1]
    rfl
  · rw [← hR.2.1]
    exact (congrArg (fun t : BT => t.2.2.2) z.1.1.2).trans (fe_T _ _ _)
theorem c124 {xs : Option (List Int32)} {d : Nat} {w : List sx_C} {s : ST} (hI : WI w) (hC : CLS w s) : sx_RP xs (d + 7) 124 0 (lv_args 0 [.ref 0]) [] w (fun r w2 => r = some (.int 1) ∧ WI w2 ∧ CLS w2 (s.1, 1, s.1, s.2.2.2) ∧ ∀ a, 111 ≤ a → w2[a]? = w[a]?) := by
  exact (Z124 (xs := xs) (d := d) hI).mono9 (fun r w2 z => ⟨z.1.1, z.2.1, ⟨⟨hC.1.1.same hI isA1 (fun a _ _ => z.2.2 a (by omega) (by omega)), z.1.2.1, fun _ => z.1.2.2 _ hC.1.1⟩, ⟨(tapC_eq (z.2.2 96 (by omega) (by omega)) (z.2.2 97 (by omega) (by omega))).trans hC.2.1.1, (FCs_eq (fun q hq => z.2.2 _ (by omega) (by omega))).trans hC.2.1.2.1, (NCs_eq (fun q hq => z.2.2 _ (by omega) (by omega))).trans hC.2.1.2.2⟩, hC.2.2.same (fun a _ _ => z.2.2 a (by omega) (by omega))⟩, fun a ha => z.2.2 a (by omega) (by omega)⟩)
theorem r240 {xs : Option (List Int32)} {d : Nat} {w : List sx_C} {s : ST} (hI : WI w) (hR : REF w s) : sx_RP xs (d + 7) 240 0 (lv_args 0 [.ref 111]) [] w (fun r w2 => r = some (.int 1) ∧ WI w2 ∧ REF w2 (s.1, 1, s.1, s.2.2.2) ∧ ∀ a, a < 111 → w2[a]? = w[a]?) := by
  exact (Y240 (xs := xs) (d := d) hI).mono9 (fun r w2 z => ⟨z.1.1, z.2.1, ⟨⟨(ia_of (z.2.2 112 (by omega) (by omega))).trans hR.1.1, z.1.2.1, fun _ => z.1.2.2.1.trans hR.1.1⟩, ⟨(tapM_eq z.1.2.2.2 (z.2.2 121 (by omega) (by omega))).trans hR.2.1, (FMs_eq (z.2.2 122 (by omega) (by omega)) (z.2.2 123 (by omega) (by omega))).trans hR.2.2.1, (NMs_eq (z.2.2 124 (by omega) (by omega))).trans hR.2.2.2⟩⟩, fun a ha => z.2.2 a (by omega) (by omega)⟩)
theorem c125 {xs : Option (List Int32)} {d : Nat} {w : List sx_C} {s : ST} (hI : WI w) (hC : CLS w s) : sx_RP xs (d + 7) 125 0 (lv_args 0 [.ref 0]) [] w (fun r w2 => r = some (.int (if s.2.1 = 1 then s.2.2.1.getD 1 0 else -1000000004)) ∧ WI w2 ∧ CLS w2 (if s.2.1 = 1 then s.2.2.1 else s.1, s.2) ∧ ∀ a, 111 ≤ a → w2[a]? = w[a]?) := by
  rcases keeps_01 hI with ek | ek
  · have e0 : ¬ s.2.1 = 1 := by rw [← hC.1.2.1, ek]; decide
    rw [if_neg e0, if_neg e0]
    exact (Z125_0 (xs := xs) (d := d) hI ek).mono9 (fun r w2 z => ⟨z.1, z.2.1, hC.fr hI (fun a ha => z.2.2 a (by omega)) (fun k => k.same (fun a _ _ => z.2.2 a (by omega))), fun a ha => z.2.2 a (by omega)⟩)
  · have e1 : s.2.1 = 1 := by rw [← hC.1.2.1, ek]
    rw [if_pos e1, if_pos e1]
    exact (Z125_1 (xs := xs) (d := d) hI ek).mono9 (fun r w2 z => ⟨by rw [z.1.1, (hC.1.2.2 e1).many], z.2.1, hC.row hI (z.1.2 _ (hC.1.2.2 e1)) z.2.2.eo, fun a ha => z.2.2 a (by omega)⟩)
theorem r241 {xs : Option (List Int32)} {d : Nat} {w : List sx_C} {s : ST} (hI : WI w) (hR : REF w s) : sx_RP xs (d + 7) 241 0 (lv_args 0 [.ref 111]) [] w (fun r w2 => r = some (.int (if s.2.1 = 1 then s.2.2.1.getD 1 0 else -1000000004)) ∧ WI w2 ∧ REF w2 (if s.2.1 = 1 then s.2.2.1 else s.1, s.2) ∧ ∀ a, a < 111 → w2[a]? = w[a]?) := by
  rcases kept_01 hI with ek | ek
  · have e0 : ¬ s.2.1 = 1 := by rw [← hR.1.2.1, ek]; decide
    rw [if_neg e0, if_neg e0]
    exact (Y241_0 (xs := xs) (d := d) hI ek).mono9 (fun r w2 z => ⟨z.1, z.2.1, hR.fr (ia_of (z.2.2 112 (by omega))) (fun a ha => z.2.2 a (by omega)), fun a ha => z.2.2 a (by omega)⟩)
  · have e1 : s.2.1 = 1 := by rw [← hR.1.2.1, ek]
    rw [if_pos e1, if_pos e1]
    exact (Y241_1 (xs := xs) (d := d) hI ek).mono9 (fun r w2 z => ⟨by rw [z.1.1, hR.1.2.2 e1], z.2.1, hR.row (z.1.2.trans (hR.1.2.2 e1)) (fun a ha => z.2.2 a (by unfold ocm at ha; omega)), fun a ha => z.2.2 a (by omega)⟩)
theorem c126 {xs : Option (List Int32)} {d : Nat} {w : List sx_C} {s : ST} (hI : WI w) (hC : CLS w s) : sx_RP xs (d + 7) 126 0 (lv_args 0 [.ref 0]) [] w (fun r w2 => r = some (.int s.2.1) ∧ WI w2 ∧ CLS w2 (s.1, 0, s.2.2) ∧ ∀ a, 111 ≤ a → w2[a]? = w[a]?) := by
  exact (Z126 (xs := xs) (d := d) hI).mono9 (fun r w2 z => ⟨by rw [z.1.1, hC.1.2.1], z.2.1, ⟨⟨hC.1.1.same hI isA1 (fun a _ _ => z.2.2 a (by omega)), z.1.2, fun k => absurd (show (0 : Int32) = 1 from k) (by decide)⟩, ⟨(tapC_eq (z.2.2 96 (by omega)) (z.2.2 97 (by omega))).trans hC.2.1.1, (FCs_eq (fun q hq => z.2.2 _ (by omega))).trans hC.2.1.2.1, (NCs_eq (fun q hq => z.2.2 _ (by omega))).trans hC.2.1.2.2⟩, hC.2.2.same (fun a _ _ => z.2.2 a (by omega))⟩, fun a ha => z.2.2 a (by omega)⟩)
theorem r242 {xs : Option (List Int32)} {d : Nat} {w : List sx_C} {s : ST} (hI : WI w) (hR : REF w s) : sx_RP xs (d + 7) 242 0 (lv_args 0 [.ref 111]) [] w (fun r w2 => r = some (.int s.2.1) ∧ WI w2 ∧ REF w2 (s.1, 0, s.2.2) ∧ ∀ a, a < 111 → w2[a]? = w[a]?) := by
  exact (Y242 (xs := xs) (d := d) hI).mono9 (fun r w2 z => ⟨by rw [z.1.1, hR.1.2.1], z.2.1, ⟨⟨(ia_of (z.2.2 112 (by omega))).trans hR.1.1, z.1.2.1, fun k => absurd (show (0 : Int32) = 1 from k) (by decide)⟩, ⟨(tapM_eq z.1.2.2 (z.2.2 121 (by omega))).trans hR.2.1, (FMs_eq (z.2.2 122 (by omega)) (z.2.2 123 (by omega))).trans hR.2.2.1, (NMs_eq (z.2.2 124 (by omega))).trans hR.2.2.2⟩⟩, fun a ha => z.2.2 a (by omega)⟩)
def shR (N : Nat → Nat → Int64) (a1 a2 a3 : Int32) : Nat → Nat → Int64 := if ((0 ≤ a1 ∧ a1 ≤ 3) ∧ (a2 = 0 ∨ a2 = 8 ∨ a2 = 16 ∨ a2 = 64)) ∧ (0 ≤ a3 ∧ a3 ≤ 40) then shN N (iN a1) else N
theorem shR_y {N : Nat → Nat → Int64} {s : Nat} {a2 a3 : Int32} (hs : s < 4) (h : shV (nI s) a2 a3) : shR N (nI s) a2 a3 = shN N s := by
  unfold shR
  unfold shV at h
  rw [if_pos h, iN_n (by omega)]
theorem shR_n {N : Nat → Nat → Int64} {a1 a2 a3 : Int32} (h : ¬ shV a1 a2 a3) : shR N a1 a2 a3 = N := if_neg h
theorem c111 {xs : Option (List Int32)} {d : Nat} {w : List sx_C} {s : ST} (hI : WI w) (hC : CLS w s) (a1 a2 a3 : Int32) : sx_RP xs (d + 7) 111 0 (lv_args 0 [.ref 0, .int a1, .int a2, .int a3]) [] w (fun r w2 => r = some (.int (shAns a1 a2 a3)) ∧ WI w2 ∧ CLS w2 (s.1, s.2.1, s.2.2.1, s.2.2.2.1, shF s.2.2.2.2.1 a1 a2 a3, shR s.2.2.2.2.2 a1 a2 a3) ∧ ∀ a, 111 ≤ a → w2[a]? = w[a]?) := by
  by_cases h : 0 ≤ a1 ∧ a1 ≤ 3
  · obtain ⟨k, hk, rfl⟩ := sx_between h
    refine ((s111S (xs := xs) (d := d) hI hk a2 a3).and (F111 hI hk a2 a3)).mono9 (fun r w2 z => ?_)
    obtain ⟨⟨⟨z1, z2⟩, z3, z4⟩, z5, z6⟩ := z
    rw [hC.2.1.2.1] at z2
    rcases z6 with ⟨hv, h0, hE⟩ | ⟨hv, hE⟩
    · exact ⟨z1, z5, hC.sh hI z2 (by rw [shR_y hk hv, NCs_sh hk h0 (fun q hq hn => hE _ (by omega) (by omega)), hC.2.1.2.2]) (hC.2.2.same (fun a _ _ => hE a (by omega) (by omega))) (fun a ha => hE a (by omega) (by omega)), fun a ha => hE a (by omega) (by omega)⟩
    · exact ⟨z1, z5, hC.sh hI z2 (by rw [shR_n hv, NCs_eq (fun q hq => hE _ (by omega)), hC.2.1.2.2]) (hC.2.2.same (fun a _ _ => hE a (by omega))) (fun a ha => hE a (by omega)), fun a ha => hE a (by omega)⟩
  · refine ((s111Sn (xs := xs) (d := d) hI a1 a2 a3 h).and (F111n hI a1 a2 a3 h)).mono9 (fun r w2 z => ?_)
    obtain ⟨⟨⟨z1, z2⟩, z3, z4⟩, z5, hv, hE⟩ := z
    rw [hC.2.1.2.1] at z2
    exact ⟨z1, z5, hC.sh hI z2 (by rw [shR_n hv, NCs_eq (fun q hq => hE _ (by omega)), hC.2.1.2.2]) (hC.2.2.same (fun a _ _ => hE a (by omega))) (fun a ha => hE a (by omega)), fun a ha => hE a (by omega)⟩
theorem r230 {xs : Option (List Int32)} {d : Nat} {w : List sx_C} {s : ST} (hI : WI w) (hR : REF w s) (a1 a2 a3 : Int32) : sx_RP xs (d + 7) 230 0 (lv_args 0 [.ref 111, .int a1, .int a2, .int a3]) [] w (fun r w2 => r = some (.int (shAns a1 a2 a3)) ∧ WI w2 ∧ REF w2 (s.1, s.2.1, s.2.2.1, s.2.2.2.1, shF s.2.2.2.2.1 a1 a2 a3, shR s.2.2.2.2.2 a1 a2 a3) ∧ ∀ a, a < 111 → w2[a]? = w[a]?) := by
  by_cases h : 0 ≤ a1 ∧ a1 ≤ 3
  · obtain ⟨k, hk, rfl⟩ := sx_between h
    refine ((s230S (xs := xs) (d := d) hI hk a2 a3).and (F230 hI hk a2 a3)).mono9 (fun r w2 z => ?_)
    obtain ⟨⟨⟨z1, z2⟩, z3, z4⟩, z5, z6⟩ := z
    rw [hR.2.2.1] at z2
    rcases z6 with ⟨hv, h0, hE⟩ | ⟨hv, hE⟩
    · exact ⟨z1, z5, hR.sh z2 (by rw [shR_y hk hv, NMs_sh hk h0, hR.2.2.2]) (fun a ha => hE a (by omega) (by omega) (by omega)), z4⟩
    · exact ⟨z1, z5, hR.sh z2 (by rw [shR_n hv, NMs_eq (hE 124 (by omega)), hR.2.2.2]) (fun a ha => hE a (by omega)), z4⟩
  · refine ((s230Sn (xs := xs) (d := d) hI a1 a2 a3 h).and (F230n hI a1 a2 a3 h)).mono9 (fun r w2 z => ?_)
    obtain ⟨⟨⟨z1, z2⟩, z3, z4⟩, z5, hv, hE⟩ := z
    rw [hR.2.2.1] at z2
    exact ⟨z1, z5, hR.sh z2 (by rw [shR_n hv, NMs_eq (hE 124 (by omega)), hR.2.2.2]) (fun a ha => hE a (by omega)), z4⟩
theorem c12 {xs : Option (List Int32)} {d : Nat} {w : List sx_C} {s : ST} (hI : WI w) (hC : CLS w s) (a1 a2 : Int32) : sx_RP xs (d + 7) 12 0 (lv_args 0 [.ref 0, .int a1, .int a2]) [] w (fun r w2 => (∃ v : Int32, r = some (.int v)) ∧ WI w2 ∧ CLS w2 (s) ∧ ∀ a, 111 ≤ a → w2[a]? = w[a]?) := by
  exact (G12 hI a1 a2).mono9 (fun r w2 z => ⟨z.1, z.2.1, hC.es hI z.2.2, fun a ha => z.2.2.1 a (by unfold qc; omega)⟩)
theorem c14 {xs : Option (List Int32)} {d : Nat} {w : List sx_C} {s : ST} (hI : WI w) (hC : CLS w s) : sx_RP xs (d + 7) 14 0 (lv_args 0 [.ref 0]) [] w (fun r w2 => (∃ v : Int64, r = some (.long v)) ∧ WI w2 ∧ CLS w2 (s) ∧ ∀ a, 111 ≤ a → w2[a]? = w[a]?) := by
  exact (G14 hI).mono9 (fun r w2 z => ⟨z.1, z.2.1, hC.es hI z.2.2, fun a ha => z.2.2.1 a (by unfold qc; omega)⟩)
theorem c15 {xs : Option (List Int32)} {d : Nat} {w : List sx_C} {s : ST} (hI : WI w) (hC : CLS w s) (a1 a2 : Int32) : sx_RP xs (d + 7) 15 0 (lv_args 0 [.ref 0, .int a1, .int a2]) [] w (fun r w2 => (∃ v : Int32, r = some (.int v)) ∧ WI w2 ∧ CLS w2 (s) ∧ ∀ a, 111 ≤ a → w2[a]? = w[a]?) := by
  exact (G15 hI a1 a2).mono9 (fun r w2 z => ⟨z.1, z.2.1, hC.es hI z.2.2, fun a ha => z.2.2.1 a (by unfold qc; omega)⟩)
theorem c26 {xs : Option (List Int32)} {d : Nat} {w : List sx_C} {s : ST} (hI : WI w) (hC : CLS w s) (a1 a2 : Int32) : sx_RP xs (d + 7) 26 0 (lv_args 0 [.ref 0, .int a1, .int a2]) [] w (fun r w2 => (∃ v : Int32, r = some (.int v)) ∧ WI w2 ∧ CLS w2 (s) ∧ ∀ a, 111 ≤ a → w2[a]? = w[a]?) := by
  exact (G26 hI a1 a2).mono9 (fun r w2 z => ⟨z.1, z.2.1, hC.es hI z.2.2, fun a ha => z.2.2.1 a (by unfold qc; omega)⟩)
theorem c30 {xs : Option (List Int32)} {d : Nat} {w : List sx_C} {s : ST} (hI : WI w) (hC : CLS w s) (a1 a2 : Int32) : sx_RP xs (d + 7) 30 0 (lv_args 0 [.ref 0, .int a1, .int a2]) [] w (fun r w2 => (∃ v : Int32, r = some (.int v)) ∧ WI w2 ∧ CLS w2 (s) ∧ ∀ a, 111 ≤ a → w2[a]? = w[a]?) := by
  exact (G30 hI a1 a2).mono9 (fun r w2 z => ⟨z.1, z.2.1, hC.es hI z.2.2, fun a ha => z.2.2.1 a (by unfold qc; omega)⟩)
theorem c32 {xs : Option (List Int32)} {d : Nat} {w : List sx_C} {s : ST} (hI : WI w) (hC : CLS w s) (a1 a2 a3 : Int32) : sx_RP xs (d + 7) 32 0 (lv_args 0 [.ref 0, .int a1, .int a2, .int a3]) [] w (fun r w2 => (∃ v : Int32, r = some (.int v)) ∧ WI w2 ∧ CLS w2 (s) ∧ ∀ a, 111 ≤ a → w2[a]? = w[a]?) := by
  exact (G32 hI a1 a2 a3).mono9 (fun r w2 z => ⟨z.1, z.2.1, hC.es hI z.2.2, fun a ha => z.2.2.1 a (by unfold qc; omega)⟩)
theorem c48 {xs : Option (List Int32)} {d : Nat} {w : List sx_C} {s : ST} (hI : WI w) (hC : CLS w s) (a1 : Int32) : sx_RP xs (d + 7) 48 0 (lv_args 0 [.ref 0, .int a1]) [] w (fun r w2 => (∃ v : Int32, r = some (.int v)) ∧ WI w2 ∧ CLS w2 (s) ∧ ∀ a, 111 ≤ a → w2[a]? = w[a]?) := by
  exact (G48 hI a1).mono9 (fun r w2 z => ⟨z.1, z.2.1, hC.es hI z.2.2, fun a ha => z.2.2.1 a (by unfold qc; omega)⟩)
theorem c55 {xs : Option (List Int32)} {d : Nat} {w : List sx_C} {s : ST} (hI : WI w) (hC : CLS w s) (a1 a2 : Int32) : sx_RP xs (d + 7) 55 0 (lv_args 0 [.ref 0, .int a1, .int a2]) [] w (fun r w2 => (∃ v : Int32, r = some (.int v)) ∧ WI w2 ∧ CLS w2 (s) ∧ ∀ a, 111 ≤ a → w2[a]? = w[a]?) := by
  exact (G55 hI a1 a2).mono9 (fun r w2 z => ⟨z.1, z.2.1, hC.es hI z.2.2, fun a ha => z.2.2.1 a (by unfold qc; omega)⟩)
theorem c58 {xs : Option (List Int32)} {d : Nat} {w : List sx_C} {s : ST} (hI : WI w) (hC : CLS w s) (a1 a2 : Int32) : sx_RP xs (d + 7) 58 0 (lv_args 0 [.ref 0, .int a1, .int a2]) [] w (fun r w2 => (∃ v : Int32, r = some (.int v)) ∧ WI w2 ∧ CLS w2 (s) ∧ ∀ a, 111 ≤ a → w2[a]? = w[a]?) := by
  exact (G58 hI a1 a2).mono9 (fun r w2 z => ⟨z.1, z.2.1, hC.es hI z.2.2, fun a ha => z.2.2.1 a (by unfold qc; omega)⟩)
theorem c67 {xs : Option (List Int32)} {d : Nat} {w : List sx_C} {s : ST} (hI : WI w) (hC : CLS w s) (a1 : Int32) : sx_RP xs (d + 7) 67 0 (lv_args 0 [.ref 0, .int a1]) [] w (fun r w2 => (∃ v : Int32, r = some (.int v)) ∧ WI w2 ∧ CLS w2 (s) ∧ ∀ a, 111 ≤ a → w2[a]? = w[a]?) := by
  exact (G67 hI a1).mono9 (fun r w2 z => ⟨z.1, z.2.1, hC.es hI z.2.2, fun a ha => z.2.2.1 a (by unfold qc; omega)⟩)
theorem c70 {xs : Option (List Int32)} {d : Nat} {w : List sx_C} {s : ST} (hI : WI w) (hC : CLS w s) (a1 a2 : Int32) : sx_RP xs (d + 7) 70 0 (lv_args 0 [.ref 0, .int a1, .int a2]) [] w (fun r w2 => (∃ v : Int32, r = some (.int v)) ∧ WI w2 ∧ CLS w2 (s) ∧ ∀ a, 111 ≤ a → w2[a]? = w[a]?) := by
  exact (G70 hI a1 a2).mono9 (fun r w2 z => ⟨z.1, z.2.1, hC.es hI z.2.2, fun a ha => z.2.2.1 a (by unfold qc; omega)⟩)
theorem c71 {xs : Option (List Int32)} {d : Nat} {w : List sx_C} {s : ST} (hI : WI w) (hC : CLS w s) (a1 : Int32) : sx_RP xs (d + 7) 71 0 (lv_args 0 [.ref 0, .int a1]) [] w (fun r w2 => (∃ v : Int64, r = some (.long v)) ∧ WI w2 ∧ CLS w2 (s) ∧ ∀ a, 111 ≤ a → w2[a]? = w[a]?) := by
  exact (G71 hI a1).mono9 (fun r w2 z => ⟨z.1, z.2.1, hC.es hI z.2.2, fun a ha => z.2.2.1 a (by unfold qc; omega)⟩)
theorem c76 {xs : Option (List Int32)} {d : Nat} {w : List sx_C} {s : ST} (hI : WI w) (hC : CLS w s) (a1 a2 : Int32) : sx_RP xs (d + 7) 76 0 (lv_args 0 [.ref 0, .int a1, .int a2]) [] w (fun r w2 => (∃ v : Int32, r = some (.int v)) ∧ WI w2 ∧ CLS w2 (s) ∧ ∀ a, 111 ≤ a → w2[a]? = w[a]?) := by
  exact (G76 hI a1 a2).mono9 (fun r w2 z => ⟨z.1, z.2.1, hC.es hI z.2.2, fun a ha => z.2.2.1 a (by unfold qc; omega)⟩)
theorem c83 {xs : Option (List Int32)} {d : Nat} {w : List sx_C} {s : ST} (hI : WI w) (hC : CLS w s) : sx_RP xs (d + 7) 83 0 (lv_args 0 [.ref 0]) [] w (fun r w2 => (∃ v : Int32, r = some (.int v)) ∧ WI w2 ∧ CLS w2 (s) ∧ ∀ a, 111 ≤ a → w2[a]? = w[a]?) := by
  exact (G83 hI).mono9 (fun r w2 z => ⟨z.1, z.2.1, hC.es hI z.2.2, fun a ha => z.2.2.1 a (by unfold qc; omega)⟩)
theorem c127 {xs : Option (List Int32)} {d : Nat} {w : List sx_C} {s : ST} (hI : WI w) (hC : CLS w s) (a1 : Int32) : sx_RP xs (d + 7) 127 0 (lv_args 0 [.ref 0, .int a1]) [] w (fun r w2 => (∃ v : Int32, r = some (.int v)) ∧ WI w2 ∧ CLS w2 (s) ∧ ∀ a, 111 ≤ a → w2[a]? = w[a]?) := by
  exact (G127 hI a1).mono9 (fun r w2 z => ⟨z.1, z.2.1, hC.es hI z.2.2, fun a ha => z.2.2.1 a (by unfold qc; omega)⟩)
theorem c49 {xs : Option (List Int32)} {d : Nat} {w : List sx_C} {s : ST} (hI : WI w) (hC : CLS w s) (a1 a2 : Int32) : sx_RP xs (d + 7) 49 0 (lv_args 0 [.ref 0, .int a1, .int a2]) [] w (fun r w2 => (∃ v : Int32, r = some (.int v)) ∧ WI w2 ∧ CLS w2 (s) ∧ ∀ a, 111 ≤ a → w2[a]? = w[a]?) := by
  exact (G49 hI a1 a2).mono9 (fun r w2 z => ⟨z.1, z.2.1, hC.es hI z.2.2, fun a ha => z.2.2.1 a (by unfold qc; omega)⟩)
theorem c52 {xs : Option (List Int32)} {d : Nat} {w : List sx_C} {s : ST} (hI : WI w) (hC : CLS w s) (a1 : Int32) : sx_RP xs (d + 7) 52 0 (lv_args 0 [.ref 0, .int a1]) [] w (fun r w2 => (∃ v : Int32, r = some (.int v)) ∧ WI w2 ∧ CLS w2 (s) ∧ ∀ a, 111 ≤ a → w2[a]? = w[a]?) := by
  exact (G52 hI a1).mono9 (fun r w2 z => ⟨z.1, z.2.1, hC.es hI z.2.2, fun a ha => z.2.2.1 a (by unfold qc; omega)⟩)
theorem c53 {xs : Option (List Int32)} {d : Nat} {w : List sx_C} {s : ST} (hI : WI w) (hC : CLS w s) : sx_RP xs (d + 7) 53 0 (lv_args 0 [.ref 0]) [] w (fun r w2 => (∃ v : Int32, r = some (.int v)) ∧ WI w2 ∧ CLS w2 (s) ∧ ∀ a, 111 ≤ a → w2[a]? = w[a]?) := by
  exact (G53 hI).mono9 (fun r w2 z => ⟨z.1, z.2.1, hC.es hI z.2.2, fun a ha => z.2.2.1 a (by unfold qc; omega)⟩)
theorem c61 {xs : Option (List Int32)} {d : Nat} {w : List sx_C} {s : ST} (hI : WI w) (hC : CLS w s) (a1 : Int32) : sx_RP xs (d + 7) 61 0 (lv_args 0 [.ref 0, .int a1]) [] w (fun r w2 => (∃ v : Int32, r = some (.int v)) ∧ WI w2 ∧ CLS w2 (s) ∧ ∀ a, 111 ≤ a → w2[a]? = w[a]?) := by
  exact (G61 hI a1).mono9 (fun r w2 z => ⟨z.1, z.2.1, hC.es hI z.2.2, fun a ha => z.2.2.1 a (by unfold qc; omega)⟩)
theorem c74 {xs : Option (List Int32)} {d : Nat} {w : List sx_C} {s : ST} (hI : WI w) (hC : CLS w s) (a1 : Int32) : sx_RP xs (d + 7) 74 0 (lv_args 0 [.ref 0, .int a1]) [] w (fun r w2 => (∃ v : Int32, r = some (.int v)) ∧ WI w2 ∧ CLS w2 (s) ∧ ∀ a, 111 ≤ a → w2[a]? = w[a]?) := by
  exact (G74 hI a1).mono9 (fun r w2 z => ⟨z.1, z.2.1, hC.es hI z.2.2, fun a ha => z.2.2.1 a (by unfold qc; omega)⟩)
theorem c81 {xs : Option (List Int32)} {d : Nat} {w : List sx_C} {s : ST} (hI : WI w) (hC : CLS w s) (a1 : Int32) : sx_RP xs (d + 7) 81 0 (lv_args 0 [.ref 0, .int a1]) [] w (fun r w2 => (∃ v : Int32, r = some (.int v)) ∧ WI w2 ∧ CLS w2 (s) ∧ ∀ a, 111 ≤ a → w2[a]? = w[a]?) := by
  exact (G81 hI a1).mono9 (fun r w2 z => ⟨z.1, z.2.1, hC.es hI z.2.2, fun a ha => z.2.2.1 a (by unfold qc; omega)⟩)
theorem c86 {xs : Option (List Int32)} {d : Nat} {w : List sx_C} {s : ST} (hI : WI w) (hC : CLS w s) (a1 : Int32) : sx_RP xs (d + 7) 86 0 (lv_args 0 [.ref 0, .int a1]) [] w (fun r w2 => (∃ v : Int32, r = some (.int v)) ∧ WI w2 ∧ CLS w2 (s) ∧ ∀ a, 111 ≤ a → w2[a]? = w[a]?) := by
  exact (G86 hI a1).mono9 (fun r w2 z => ⟨z.1, z.2.1, hC.es hI z.2.2, fun a ha => z.2.2.1 a (by unfold qc; omega)⟩)
theorem c122 {xs : Option (List Int32)} {d : Nat} {w : List sx_C} {s : ST} (hI : WI w) (hC : CLS w s) (a1 : Int32) : sx_RP xs (d + 7) 122 0 (lv_args 0 [.ref 0, .int a1]) [] w (fun r w2 => (∃ v : Int32, r = some (.int v)) ∧ WI w2 ∧ CLS w2 (s) ∧ ∀ a, 111 ≤ a → w2[a]? = w[a]?) := by
  exact (G122 hI a1).mono9 (fun r w2 z => ⟨z.1, z.2.1, hC.es hI z.2.2, fun a ha => z.2.2.1 a (by unfold qc; omega)⟩)
theorem c128 {xs : Option (List Int32)} {d : Nat} {w : List sx_C} {s : ST} (hI : WI w) (hC : CLS w s) (a1 : Int32) : sx_RP xs (d + 7) 128 0 (lv_args 0 [.ref 0, .int a1]) [] w (fun r w2 => (∃ v : Int32, r = some (.int v)) ∧ WI w2 ∧ CLS w2 (s) ∧ ∀ a, 111 ≤ a → w2[a]? = w[a]?) := by
  exact (G128 hI a1).mono9 (fun r w2 z => ⟨z.1, z.2.1, hC.es hI z.2.2, fun a ha => z.2.2.1 a (by unfold qc; omega)⟩)
theorem r135 {xs : Option (List Int32)} {d : Nat} {w : List sx_C} {s : ST} (hI : WI w) (hR : REF w s) (a1 a2 : Int32) : sx_RP xs (d + 7) 135 0 (lv_args 0 [.ref 111, .int a1, .int a2]) [] w (fun r w2 => (∃ v : Int32, r = some (.int v)) ∧ WI w2 ∧ REF w2 (s) ∧ ∀ a, a < 111 → w2[a]? = w[a]?) := by
  exact (H135 hI a1 a2).mono9 (fun r w2 z => ⟨z.1, z.2.1, hR.ez z.2.2, fun a ha => z.2.2 a (by unfold zc; omega)⟩)
theorem r155 {xs : Option (List Int32)} {d : Nat} {w : List sx_C} {s : ST} (hI : WI w) (hR : REF w s) (a1 a2 : Int32) : sx_RP xs (d + 7) 155 0 (lv_args 0 [.ref 111, .int a1, .int a2]) [] w (fun r w2 => (∃ v : Int32, r = some (.int v)) ∧ WI w2 ∧ REF w2 (s) ∧ ∀ a, a < 111 → w2[a]? = w[a]?) := by
  exact (H155 hI a1 a2).mono9 (fun r w2 z => ⟨z.1, z.2.1, hR.ez z.2.2, fun a ha => z.2.2 a (by unfold zc; omega)⟩)
theorem r159 {xs : Option (List Int32)} {d : Nat} {w : List sx_C} {s : ST} (hI : WI w) (hR : REF w s) (a1 a2 : Int32) : sx_RP xs (d + 7) 159 0 (lv_args 0 [.ref 111, .int a1, .int a2]) [] w (fun r w2 => (∃ v : Int32, r = some (.int v)) ∧ WI w2 ∧ REF w2 (s) ∧ ∀ a, a < 111 → w2[a]? = w[a]?) := by
  exact (H159 hI a1 a2).mono9 (fun r w2 z => ⟨z.1, z.2.1, hR.ez z.2.2, fun a ha => z.2.2 a (by unfold zc; omega)⟩)
theorem r161 {xs : Option (List Int32)} {d : Nat} {w : List sx_C} {s : ST} (hI : WI w) (hR : REF w s) (a1 a2 a3 : Int32) : sx_RP xs (d + 7) 161 0 (lv_args 0 [.ref 111, .int a1, .int a2, .int a3]) [] w (fun r w2 => (∃ v : Int32, r = some (.int v)) ∧ WI w2 ∧ REF w2 (s) ∧ ∀ a, a < 111 → w2[a]? = w[a]?) := by
  exact (H161 hI a1 a2 a3).mono9 (fun r w2 z => ⟨z.1, z.2.1, hR.ez z.2.2, fun a ha => z.2.2 a (by unfold zc; omega)⟩)
theorem r173 {xs : Option (List Int32)} {d : Nat} {w : List sx_C} {s : ST} (hI : WI w) (hR : REF w s) (a1 : Int32) : sx_RP xs (d + 7) 173 0 (lv_args 0 [.ref 111, .int a1]) [] w (fun r w2 => (∃ v : Int32, r = some (.int v)) ∧ WI w2 ∧ REF w2 (s) ∧ ∀ a, a < 111 → w2[a]? = w[a]?) := by
  exact (H173 hI a1).mono9 (fun r w2 z => ⟨z.1, z.2.1, hR.ez z.2.2, fun a ha => z.2.2 a (by unfold zc; omega)⟩)
theorem r196 {xs : Option (List Int32)} {d : Nat} {w : List sx_C} {s : ST} (hI : WI w) (hR : REF w s) (a1 a2 : Int32) : sx_RP xs (d + 7) 196 0 (lv_args 0 [.ref 111, .int a1, .int a2]) [] w (fun r w2 => (∃ v : Int32, r = some (.int v)) ∧ WI w2 ∧ REF w2 (s) ∧ ∀ a, a < 111 → w2[a]? = w[a]?) := by
  exact (H196 hI a1 a2).mono9 (fun r w2 z => ⟨z.1, z.2.1, hR.ez z.2.2, fun a ha => z.2.2 a (by unfold zc; omega)⟩)
theorem r205 {xs : Option (List Int32)} {d : Nat} {w : List sx_C} {s : ST} (hI : WI w) (hR : REF w s) : sx_RP xs (d + 7) 205 0 (lv_args 0 [.ref 111]) [] w (fun r w2 => (∃ v : Int32, r = some (.int v)) ∧ WI w2 ∧ REF w2 (s) ∧ ∀ a, a < 111 → w2[a]? = w[a]?) := by
  exact (H205 hI).mono9 (fun r w2 z => ⟨z.1, z.2.1, hR.ez z.2.2, fun a ha => z.2.2 a (by unfold zc; omega)⟩)
theorem r243 {xs : Option (List Int32)} {d : Nat} {w : List sx_C} {s : ST} (hI : WI w) (hR : REF w s) (a1 : Int32) : sx_RP xs (d + 7) 243 0 (lv_args 0 [.ref 111, .int a1]) [] w (fun r w2 => (∃ v : Int32, r = some (.int v)) ∧ WI w2 ∧ REF w2 (s) ∧ ∀ a, a < 111 → w2[a]? = w[a]?) := by
  exact (H243 hI a1).mono9 (fun r w2 z => ⟨z.1, z.2.1, hR.ez z.2.2, fun a ha => z.2.2 a (by unfold zc; omega)⟩)
theorem r202 {xs : Option (List Int32)} {d : Nat} {w : List sx_C} {s : ST} (hI : WI w) (hR : REF w s) (a1 : Int32) : sx_RP xs (d + 7) 202 0 (lv_args 0 [.ref 111, .int a1]) [] w (fun r w2 => (∃ v : Int32, r = some (.int v)) ∧ WI w2 ∧ REF w2 (s) ∧ ∀ a, a < 111 → w2[a]? = w[a]?) := by
  exact (H202 hI a1).mono9 (fun r w2 z => ⟨z.1, z.2.1, hR.ez z.2.2, fun a ha => z.2.2 a (by unfold zc; omega)⟩)
theorem r245 {xs : Option (List Int32)} {d : Nat} {w : List sx_C} {s : ST} (hI : WI w) (hR : REF w s) (a1 : Int32) : sx_RP xs (d + 7) 245 0 (lv_args 0 [.ref 111, .int a1]) [] w (fun r w2 => (∃ v : Int32, r = some (.int v)) ∧ WI w2 ∧ REF w2 (s) ∧ ∀ a, a < 111 → w2[a]? = w[a]?) := by
  exact (H245 hI a1).mono9 (fun r w2 z => ⟨z.1, z.2.1, hR.ez z.2.2, fun a ha => z.2.2 a (by unfold zc; omega)⟩)
theorem r207 {xs : Option (List Int32)} {d : Nat} {w : List sx_C} {s : ST} (hI : WI w) (hR : REF w s) (a1 : Int32) : sx_RP xs (d + 7) 207 0 (lv_args 0 [.ref 111, .int a1]) [] w (fun r w2 => (∃ v : Int32, r = some (.int v)) ∧ WI w2 ∧ REF w2 (s) ∧ ∀ a, a < 111 → w2[a]? = w[a]?) := by
  exact (H207 hI a1).mono9 (fun r w2 z => ⟨z.1, z.2.1, hR.ez z.2.2, fun a ha => z.2.2 a (by unfold zc; omega)⟩)
theorem r140 {xs : Option (List Int32)} {d : Nat} {w : List sx_C} {s : ST} (hI : WI w) (hR : REF w s) (a1 a2 : Int32) : sx_RP xs (d + 7) 140 0 (lv_args 0 [.ref 111, .int a1, .int a2]) [] w (fun r w2 => (∃ v : Int32, r = some (.int v)) ∧ WI w2 ∧ REF w2 (s) ∧ ∀ a, a < 111 → w2[a]? = w[a]?) := by
  exact (H140 hI a1 a2).mono9 (fun r w2 z => ⟨z.1, z.2.1, hR.ez z.2.2, fun a ha => z.2.2 a (by unfold zc; omega)⟩)
theorem r179 {xs : Option (List Int32)} {d : Nat} {w : List sx_C} {s : ST} (hI : WI w) (hR : REF w s) (a1 a2 : Int32) : sx_RP xs (d + 7) 179 0 (lv_args 0 [.ref 111, .int a1, .int a2]) [] w (fun r w2 => (∃ v : Int32, r = some (.int v)) ∧ WI w2 ∧ REF w2 (s) ∧ ∀ a, a < 111 → w2[a]? = w[a]?) := by
  exact (H179 hI a1 a2).mono9 (fun r w2 z => ⟨z.1, z.2.1, hR.ez z.2.2, fun a ha => z.2.2 a (by unfold zc; omega)⟩)
theorem r187 {xs : Option (List Int32)} {d : Nat} {w : List sx_C} {s : ST} (hI : WI w) (hR : REF w s) (a1 : Int32) : sx_RP xs (d + 7) 187 0 (lv_args 0 [.ref 111, .int a1]) [] w (fun r w2 => (∃ v : Int32, r = some (.int v)) ∧ WI w2 ∧ REF w2 (s) ∧ ∀ a, a < 111 → w2[a]? = w[a]?) := by
  exact (H187 hI a1).mono9 (fun r w2 z => ⟨z.1, z.2.1, hR.ez z.2.2, fun a ha => z.2.2 a (by unfold zc; omega)⟩)
theorem r191 {xs : Option (List Int32)} {d : Nat} {w : List sx_C} {s : ST} (hI : WI w) (hR : REF w s) (a1 a2 : Int32) : sx_RP xs (d + 7) 191 0 (lv_args 0 [.ref 111, .int a1, .int a2]) [] w (fun r w2 => (∃ v : Int32, r = some (.int v)) ∧ WI w2 ∧ REF w2 (s) ∧ ∀ a, a < 111 → w2[a]? = w[a]?) := by
  exact (H191 hI a1 a2).mono9 (fun r w2 z => ⟨z.1, z.2.1, hR.ez z.2.2, fun a ha => z.2.2 a (by unfold zc; omega)⟩)
theorem r192 {xs : Option (List Int32)} {d : Nat} {w : List sx_C} {s : ST} (hI : WI w) (hR : REF w s) (a1 : Int32) : sx_RP xs (d + 7) 192 0 (lv_args 0 [.ref 111, .int a1]) [] w (fun r w2 => (∃ v : Int64, r = some (.long v)) ∧ WI w2 ∧ REF w2 (s) ∧ ∀ a, a < 111 → w2[a]? = w[a]?) := by
  exact (H192 hI a1).mono9 (fun r w2 z => ⟨z.1, z.2.1, hR.ez z.2.2, fun a ha => z.2.2 a (by unfold zc; omega)⟩)
theorem r194 {xs : Option (List Int32)} {d : Nat} {w : List sx_C} {s : ST} (hI : WI w) (hR : REF w s) (a1 : Int32) : sx_RP xs (d + 7) 194 0 (lv_args 0 [.ref 111, .int a1]) [] w (fun r w2 => (∃ v : Int32, r = some (.int v)) ∧ WI w2 ∧ REF w2 (s) ∧ ∀ a, a < 111 → w2[a]? = w[a]?) := by
  exact (H194 hI a1).mono9 (fun r w2 z => ⟨z.1, z.2.1, hR.ez z.2.2, fun a ha => z.2.2 a (by unfold zc; omega)⟩)
theorem r174 {xs : Option (List Int32)} {d : Nat} {w : List sx_C} {s : ST} (hI : WI w) (hR : REF w s) (a1 a2 : Int32) : sx_RP xs (d + 7) 174 0 (lv_args 0 [.ref 111, .int a1, .int a2]) [] w (fun r w2 => (∃ v : Int32, r = some (.int v)) ∧ WI w2 ∧ REF w2 (s) ∧ ∀ a, a < 111 → w2[a]? = w[a]?) := by
  exact (H174 hI a1 a2).mono9 (fun r w2 z => ⟨z.1, z.2.1, hR.ezl z.2.2, fun a ha => z.2.2.1 a (by unfold yc; omega) (by omega)⟩)
theorem r176 {xs : Option (List Int32)} {d : Nat} {w : List sx_C} {s : ST} (hI : WI w) (hR : REF w s) (a1 : Int32) : sx_RP xs (d + 7) 176 0 (lv_args 0 [.ref 111, .int a1]) [] w (fun r w2 => (∃ v : Int32, r = some (.int v)) ∧ WI w2 ∧ REF w2 (s) ∧ ∀ a, a < 111 → w2[a]? = w[a]?) := by
  exact (H176 hI a1).mono9 (fun r w2 z => ⟨z.1, z.2.1, hR.ezl z.2.2, fun a ha => z.2.2.1 a (by unfold yc; omega) (by omega)⟩)
theorem r177 {xs : Option (List Int32)} {d : Nat} {w : List sx_C} {s : ST} (hI : WI w) (hR : REF w s) : sx_RP xs (d + 7) 177 0 (lv_args 0 [.ref 111]) [] w (fun r w2 => (∃ v : Int32, r = some (.int v)) ∧ WI w2 ∧ REF w2 (s) ∧ ∀ a, a < 111 → w2[a]? = w[a]?) := by
  exact (H177 hI).mono9 (fun r w2 z => ⟨z.1, z.2.1, hR.ezl z.2.2, fun a ha => z.2.2.1 a (by unfold yc; omega) (by omega)⟩)
theorem r180 {xs : Option (List Int32)} {d : Nat} {w : List sx_C} {s : ST} (hI : WI w) (hR : REF w s) (a1 a2 : Int32) : sx_RP xs (d + 7) 180 0 (lv_args 0 [.ref 111, .int a1, .int a2]) [] w (fun r w2 => (∃ v : Int32, r = some (.int v)) ∧ WI w2 ∧ REF w2 (s) ∧ ∀ a, a < 111 → w2[a]? = w[a]?) := by
  exact (H180 hI a1 a2).mono9 (fun r w2 z => ⟨z.1, z.2.1, hR.ezl z.2.2, fun a ha => z.2.2.1 a (by unfold yc; omega) (by omega)⟩)
theorem r183 {xs : Option (List Int32)} {d : Nat} {w : List sx_C} {s : ST} (hI : WI w) (hR : REF w s) (a1 : Int32) : sx_RP xs (d + 7) 183 0 (lv_args 0 [.ref 111, .int a1]) [] w (fun r w2 => (∃ v : Int32, r = some (.int v)) ∧ WI w2 ∧ REF w2 (s) ∧ ∀ a, a < 111 → w2[a]? = w[a]?) := by
  exact (H183 hI a1).mono9 (fun r w2 z => ⟨z.1, z.2.1, hR.ezl z.2.2, fun a ha => z.2.2.1 a (by unfold yc; omega) (by omega)⟩)
theorem r238 {xs : Option (List Int32)} {d : Nat} {w : List sx_C} {s : ST} (hI : WI w) (hR : REF w s) (a1 : Int32) : sx_RP xs (d + 7) 238 0 (lv_args 0 [.ref 111, .int a1]) [] w (fun r w2 => (∃ v : Int32, r = some (.int v)) ∧ WI w2 ∧ REF w2 (s) ∧ ∀ a, a < 111 → w2[a]? = w[a]?) := by
  exact (H238 hI a1).mono9 (fun r w2 z => ⟨z.1, z.2.1, hR.ezl z.2.2, fun a ha => z.2.2.1 a (by unfold yc; omega) (by omega)⟩)
end
-- 89y36.ans5.lean.txt
section
def wlN (l : List Int32) : Nat → Int64
  | 0 => 0
  | n + 1 => wlN l n ||| (if l.getD (55 + n) 0 = 1 then (1 : Int64) <<< ((nI n).toInt64 &&& 63) else 0)
theorem bit_or0 {v : Int64} {j : Nat} : bitL (v ||| 0) j = bitL v j := by
  unfold bitL
  rw [Int64.toBitVec_or, BitVec.getLsbD_or, show ((0 : Int64)).toBitVec = 0#64 from rfl, BitVec.getLsbD_zero, Bool.or_false]
theorem wlN_bit {l : List Int32} : ∀ (n : Nat), n ≤ 48 → ∀ j, j < 64 → bitL (wlN l n) j = (ltB n j && decide (l.getD (55 + j) 0 = 1))
  | 0, _, j, _ => by
    show bitL 0 j = _
    rw [bit_0, ltB_n (by omega)]
    rfl
  | n + 1, h, j, hj => by
    show bitL (wlN l n ||| _) j = _
    have ih := wlN_bit (l := l) n (by omega) j hj
    by_cases e : l.getD (55 + n) 0 = 1
    · rw [if_pos e, bit_or (by omega), ih]
      by_cases c : n = j
      · rw [decide_eq_true c, Bool.or_true, ← c, ltB_y (by omega), decide_eq_true e]
        rfl
      · rw [decide_eq_false c, Bool.or_false, ltB_ne (Ne.symm c)]
    · rw [if_neg e, bit_or0, ih]
      by_cases c : n = j
      · rw [← c, decide_eq_false e, Bool.and_false, Bool.and_false]
      · rw [ltB_ne (Ne.symm c)]
theorem i64_ext {a b : Int64} (h : ∀ c, c < 64 → bitL a c = bitL b c) : a = b := Int64.toBitVec_inj.mp (BitVec.eq_of_getLsbD_eq (fun i hi => h i hi))
theorem rel.walls {w : List sx_C} {l : List Int32} (hR : rel w 1 l) : fj w 1 1 = wlN l 48 := i64_ext (fun c hc => by
  have e := hR.wl hc
  unfold wbt wlr at e
  rw [wlN_bit 48 (by omega) c hc]
  by_cases h : c < 48
  · rw [if_pos h] at e
    rw [ltB_y h, ← e]
    cases bitL (fj w 1 1) c <;> decide
  · rw [if_neg h] at e
    rw [ltB_n h, Bool.false_and]
    cases hb : bitL (fj w 1 1) c with
    | false => rfl
    | true =>
      rw [hb] at e
      exact absurd e (by decide))
end
-- 89y37.ans6.lean.txt
section
def hsF (l : List Int32) (c : Nat) : Nat → Int32
  | 0 => 0
  | n + 1 => if gF l n 5 = 0 ∧ gF l n 2 = nI c then hsF l c n + 1 else hsF l c n
theorem hs_y {l : List Int32} {c j : Nat} (h : gF l j 5 = 0 ∧ gF l j 2 = nI c) : hsF l c j + 1 = hsF l c (j + 1) := (if_pos h).symm
theorem hs_n {l : List Int32} {c j : Nat} (h : ¬ (gF l j 5 = 0 ∧ gF l j 2 = nI c)) : hsF l c j = hsF l c (j + 1) := (if_neg h).symm
set_option maxRecDepth 20000 in
set_option maxHeartbeats 4000000 in
theorem x13L {xs : Option (List Int32)} {d c n : Nat} {w : List sx_C} {l : List Int32} (hI : WI w) (hR : rel w 1 l) (hc : c < 48) (hn : n ≤ 10) (en : l.getD 1 0 = nI n) : ∀ (q j : Nat), j + q = n → sx_RP xs d 13 4 [(0, .ref 1), (1, .int (nI c)), (2, .int (hsF l c j)), (3, .int (nI j))] [] w (fun r w2 => r = some (.int (hsF l c n)) ∧ w2 = w)
  | 0, j, hj => by
    obtain rfl : j = n := by omega
    refine sx_RP.step (pc2 := 5) (ls2 := [(0, .ref 1), (1, .int (nI c)), (2, .int (hsF l c j)), (3, .int (nI j))]) (st2 := [.int (nI j)]) (w3 := w) rfl rfl ?_
    refine sx_RP.step (pc2 := 6) (ls2 := [(0, .ref 1), (1, .int (nI c)), (2, .int (hsF l c j)), (3, .int (nI j))]) (st2 := [.ref 1, .int (nI j)]) (w3 := w) rfl rfl ?_
    refine sx_RP.gc (k := 3) hI (Or.inl rfl) rfl rfl (by omega) (show _ = 9 from rfl) ?_
    rw [(hR.many.trans en)]
    refine sx_RP.br (p1 := 46) (l1 := [(0, .ref 1), (1, .int (nI c)), (2, .int (hsF l c j)), (3, .int (nI j))]) (s1 := []) (v1 := w) rfl rfl (fun _ => ?_) (fun q => absurd (nI_le (a := j) (b := j) (by omega) (by omega)) (of_decide_eq_false q))
    refine sx_RP.step (pc2 := 47) (ls2 := [(0, .ref 1), (1, .int (nI c)), (2, .int (hsF l c j)), (3, .int (nI j))]) (st2 := [.int (hsF l c j)]) (w3 := w) rfl rfl ?_
    refine sx_RP.ret (r := (some (.int (hsF l c j)))) rfl rfl ?_
    exact ⟨rfl, rfl⟩
  | q + 1, j, hj => by
    refine sx_RP.step (pc2 := 5) (ls2 := [(0, .ref 1), (1, .int (nI c)), (2, .int (hsF l c j)), (3, .int (nI j))]) (st2 := [.int (nI j)]) (w3 := w) rfl rfl ?_
    refine sx_RP.step (pc2 := 6) (ls2 := [(0, .ref 1), (1, .int (nI c)), (2, .int (hsF l c j)), (3, .int (nI j))]) (st2 := [.ref 1, .int (nI j)]) (w3 := w) rfl rfl ?_
    refine sx_RP.gc (k := 3) hI (Or.inl rfl) rfl rfl (by omega) (show _ = 9 from rfl) ?_
    rw [(hR.many.trans en)]
    refine sx_RP.br (p2 := 12) (l2 := [(0, .ref 1), (1, .int (nI c)), (2, .int (hsF l c j)), (3, .int (nI j))]) (s2 := []) (v2 := w) rfl rfl (fun q => absurd (of_decide_eq_true q) (fun z => absurd ((nI_leI (a := n) (b := j) (by omega) (by omega)).mp z) (by omega))) (fun _ => ?_)
    refine sx_RP.step (pc2 := 13) (ls2 := [(0, .ref 1), (1, .int (nI c)), (2, .int (hsF l c j)), (3, .int (nI j))]) (st2 := [.ref 1]) (w3 := w) rfl rfl ?_
    refine sx_RP.gref (k := 2) (b := 3) hI (Or.inl rfl) rfl rfl (by omega) (show _ = 16 from rfl) ?_
    refine sx_RP.step (pc2 := 17) (ls2 := [(0, .ref 1), (1, .int (nI c)), (2, .int (hsF l c j)), (3, .int (nI j))]) (st2 := [.int (nI j), .ref 3]) (w3 := w) rfl rfl ?_
    refine sx_RP.ald (v := .ref (1 + 4 + j)) rfl (hI.1.aG (Or.inl rfl)) rfl (grA_at (show j < 10 by omega)) (show _ = 18 from rfl) ?_
    refine sx_RP.gg (k := 5) hI (gAd.of (Or.inl rfl) (show j < 10 by omega)) rfl rfl (by decide) (show _ = 21 from rfl) ?_
    obtain ⟨x1, hx2, ex3⟩ : inR (fi w (1 + 4 + j) 5) 1 := hI.gk (k := 5) (gAd.of (Or.inl rfl) (show j < 10 by omega)) (by decide)
    rw [ex3]
    refine sx_RP.br (p1 := 40) (l1 := [(0, .ref 1), (1, .int (nI c)), (2, .int (hsF l c j)), (3, .int (nI j))]) (s1 := []) (v1 := w) (p2 := 24) (l2 := [(0, .ref 1), (1, .int (nI c)), (2, .int (hsF l c j)), (3, .int (nI j))]) (s2 := []) (v2 := w) rfl rfl (fun q4 => ?_) (fun q4 => ?_)
    · replace q4 := of_decide_eq_true q4
      replace q4 := mt (nI_eq (a := x1) (b := 0) (by omega) (by omega)).mpr q4
      refine sx_RP.step (pc2 := 43) (ls2 := [(3, .int ((nI j) + 1)), (0, .ref 1), (1, .int (nI c)), (2, .int (hsF l c j))]) (st2 := []) (w3 := w) rfl rfl ?_
      rw [nI_1 j]
      refine sx_RP.step (pc2 := 4) (ls2 := [(3, .int (nI (j + 1))), (0, .ref 1), (1, .int (nI c)), (2, .int (hsF l c j))]) (st2 := []) (w3 := w) rfl rfl ?_
      have e9 := hs_n (l := l) (c := c) (j := j) (fun z => q4 ((nI_eq (a := x1) (b := 0) (by omega) (by decide)).mp (((hR.ga (i := j) (k := 5) (by rw [en, iN_n (by omega)]; omega) (by decide)).symm.trans ex3).symm.trans z.1)))
      rw [e9]
      exact sx_RP.ls (sx_lr.cons rfl (sx_lr.cons rfl (sx_lr.cons rfl (sx_lr.cons rfl sx_lr.nil)))) (x13L hI hR hc hn en q (j + 1) (by omega))
    · replace q4 := Decidable.not_not.mp (of_decide_eq_false q4)
      replace q4 := (nI_eq (a := x1) (b := 0) (by omega) (by omega)).mp q4
      refine sx_RP.step (pc2 := 25) (ls2 := [(0, .ref 1), (1, .int (nI c)), (2, .int (hsF l c j)), (3, .int (nI j))]) (st2 := [.ref 1]) (w3 := w) rfl rfl ?_
      refine sx_RP.gref (k := 2) (b := 3) hI (Or.inl rfl) rfl rfl (by omega) (show _ = 28 from rfl) ?_
      refine sx_RP.step (pc2 := 29) (ls2 := [(0, .ref 1), (1, .int (nI c)), (2, .int (hsF l c j)), (3, .int (nI j))]) (st2 := [.int (nI j), .ref 3]) (w3 := w) rfl rfl ?_
      refine sx_RP.ald (v := .ref (1 + 4 + j)) rfl (hI.1.aG (Or.inl rfl)) rfl (grA_at (show j < 10 by omega)) (show _ = 30 from rfl) ?_
      refine sx_RP.gg (k := 2) hI (gAd.of (Or.inl rfl) (show j < 10 by omega)) rfl rfl (by decide) (show _ = 33 from rfl) ?_
      obtain ⟨x5, hx6, ex7⟩ : inR (fi w (1 + 4 + j) 2) 47 := hI.gk (k := 2) (gAd.of (Or.inl rfl) (show j < 10 by omega)) (by decide)
      rw [ex7]
      refine sx_RP.step (pc2 := 34) (ls2 := [(0, .ref 1), (1, .int (nI c)), (2, .int (hsF l c j)), (3, .int (nI j))]) (st2 := [.int (nI c), .int (nI x5)]) (w3 := w) rfl rfl ?_
      refine sx_RP.br (p1 := 40) (l1 := [(0, .ref 1), (1, .int (nI c)), (2, .int (hsF l c j)), (3, .int (nI j))]) (s1 := []) (v1 := w) (p2 := 37) (l2 := [(0, .ref 1), (1, .int (nI c)), (2, .int (hsF l c j)), (3, .int (nI j))]) (s2 := []) (v2 := w) rfl rfl (fun q8 => ?_) (fun q8 => ?_)
      · replace q8 := of_decide_eq_true q8
        replace q8 := mt (nI_eq (a := x5) (b := c) (by omega) (by omega)).mpr q8
        refine sx_RP.step (pc2 := 43) (ls2 := [(3, .int ((nI j) + 1)), (0, .ref 1), (1, .int (nI c)), (2, .int (hsF l c j))]) (st2 := []) (w3 := w) rfl rfl ?_
        rw [nI_1 j]
        refine sx_RP.step (pc2 := 4) (ls2 := [(3, .int (nI (j + 1))), (0, .ref 1), (1, .int (nI c)), (2, .int (hsF l c j))]) (st2 := []) (w3 := w) rfl rfl ?_
        have e9 := hs_n (l := l) (c := c) (j := j) (fun z => q8 ((nI_eq (a := x5) (b := c) (by omega) (by omega)).mp (((hR.ga (i := j) (k := 2) (by rw [en, iN_n (by omega)]; omega) (by decide)).symm.trans ex7).symm.trans z.2)))
        rw [e9]
        exact sx_RP.ls (sx_lr.cons rfl (sx_lr.cons rfl (sx_lr.cons rfl (sx_lr.cons rfl sx_lr.nil)))) (x13L hI hR hc hn en q (j + 1) (by omega))
      · replace q8 := Decidable.not_not.mp (of_decide_eq_false q8)
        replace q8 := (nI_eq (a := x5) (b := c) (by omega) (by omega)).mp q8
        refine sx_RP.step (pc2 := 40) (ls2 := [(2, .int ((hsF l c j) + 1)), (0, .ref 1), (1, .int (nI c)), (3, .int (nI j))]) (st2 := []) (w3 := w) rfl rfl ?_
        refine sx_RP.step (pc2 := 43) (ls2 := [(3, .int ((nI j) + 1)), (2, .int ((hsF l c j) + 1)), (0, .ref 1), (1, .int (nI c))]) (st2 := []) (w3 := w) rfl rfl ?_
        rw [nI_1 j]
        refine sx_RP.step (pc2 := 4) (ls2 := [(3, .int (nI (j + 1))), (2, .int ((hsF l c j) + 1)), (0, .ref 1), (1, .int (nI c))]) (st2 := []) (w3 := w) rfl rfl ?_
        have e9 := hs_y (l := l) (c := c) (j := j) ⟨((hR.ga (i := j) (k := 5) (by rw [en, iN_n (by omega)]; omega) (by decide)).symm.trans ex3).trans (by rw [q4]; rfl), ((hR.ga (i := j) (k := 2) (by rw [en, iN_n (by omega)]; omega) (by decide)).symm.trans ex7).trans (by rw [q8])⟩
        rw [e9]
        exact sx_RP.ls (sx_lr.cons rfl (sx_lr.cons rfl (sx_lr.cons rfl (sx_lr.cons rfl sx_lr.nil)))) (x13L hI hR hc hn en q (j + 1) (by omega))
set_option maxRecDepth 20000 in
set_option maxHeartbeats 4000000 in
theorem x13 {xs : Option (List Int32)} {d : Nat} {w : List sx_C} (hI : WI w) {c n : Nat} {l : List Int32} (hR : rel w 1 l) (hc : c < 48) (hn : n ≤ 10) (en : l.getD 1 0 = nI n) : sx_RU xs d 13 0 (lv_args 0 [.ref 1, .int (nI c)]) [] w (some (.int (hsF l c n))) w := by
  have h : sx_RP xs d 13 0 (lv_args 0 [.ref 1, .int (nI c)]) [] w (fun r9 w2 => r9 = some (.int (hsF l c n)) ∧ w2 = w) := by
    refine sx_RP.step (pc2 := 1) (ls2 := [(0, .ref 1), (1, .int (nI c))]) (st2 := [.int 0]) (w3 := w) rfl rfl ?_
    refine sx_RP.step (pc2 := 2) (ls2 := [(2, .int 0), (0, .ref 1), (1, .int (nI c))]) (st2 := []) (w3 := w) rfl rfl ?_
    refine sx_RP.step (pc2 := 3) (ls2 := [(2, .int 0), (0, .ref 1), (1, .int (nI c))]) (st2 := [.int 0]) (w3 := w) rfl rfl ?_
    refine sx_RP.step (pc2 := 4) (ls2 := [(3, .int 0), (2, .int 0), (0, .ref 1), (1, .int (nI c))]) (st2 := []) (w3 := w) rfl rfl ?_
    exact sx_RP.ls (sx_lr.cons rfl (sx_lr.cons rfl (sx_lr.cons rfl (sx_lr.cons rfl sx_lr.nil)))) (x13L hI hR hc hn en n 0 (by omega))
  obtain ⟨r9, w2, h1, rfl, rfl⟩ := h
  exact h1
end
-- 89y42.ansA.lean.txt
section
def mnA (b : Int32) : Int32 := if b = -1 then -1000000004 else b
theorem mnA_k {k : Nat} (h : k < 48) : mnA (nI k) = nI k := if_neg (nI_ne1 (by omega))
end
-- 89y43.ansB.lean.txt
section
def dgK (l : List Int32) (k n : Nat) : Int32 := if iN (l.getD (7 + n) 0) = 3 then -1 else (if fmB k (iN (l.getD (7 + n) 0)) = true then tmV k (iN (l.getD (7 + n) 0)) (l.getD (55 + n) 0) else -1)
def GRo (l : List Int32) : Prop := ∀ c, c < 48 → ∃ s, s < 4 ∧ l.getD (7 + c) 0 = nI s
theorem tm_19 : ∀ k, k < 6 → ∀ s, s < 3 → ∀ b, b < 2 → (1 ≤ iN (tmV k s (nI b)) ∧ iN (tmV k s (nI b)) ≤ 9) ∧ tmV k s (nI b) = nI (iN (tmV k s (nI b))) := by decide +kernel
theorem dgK_at {l : List Int32} {k n s : Nat} (hs : s < 4) (es : l.getD (7 + n) 0 = nI s) : dgK l k n = if s = 3 then -1 else (if fmB k s = true then tmV k s (l.getD (55 + n) 0) else -1) := by
  unfold dgK
  rw [es, iN_n (by omega)]
theorem dgK_kfr {l : List Int32} {k : Nat} (hk : k < 6) (hG : GRo l) (hW : WB l) : kfr (dgK l k) (fun n => iN (dgK l k n)) (fun n => !(dgK l k n == -1)) := by
  intro n hn
  obtain ⟨s, hs, es⟩ := hG n hn
  obtain ⟨b, hb, eb⟩ := hW n hn
  show ((!(dgK l k n == -1)) = false ∧ _) ∨ ((!(dgK l k n == -1)) = true ∧ 1 ≤ iN (dgK l k n) ∧ iN (dgK l k n) ≤ 9 ∧ dgK l k n = nI (iN (dgK l k n)))
  rw [dgK_at hs es, eb]
  by_cases h3 : s = 3
  · rw [if_pos h3]
    exact Or.inl ⟨rfl, rfl⟩
  · rw [if_neg h3]
    by_cases hf : fmB k s = true
    · rw [if_pos hf]
      have h := tm_19 k hk s (by omega) b hb
      refine Or.inr ⟨?_, h.1.1, h.1.2, h.2⟩
      rw [h.2]
      rw [beq_eq_false_iff_ne.mpr (nI_ne1 (by omega))]
      rfl
    · rw [if_neg hf]
      exact Or.inl ⟨rfl, rfl⟩
theorem dgK_y {l : List Int32} {k n s : Nat} (hs : s < 4) (es : l.getD (7 + n) 0 = nI s) (h : ¬ dgK l k n = -1) : ¬ s = 3 ∧ fmB k s = true ∧ dgK l k n = tmV k s (l.getD (55 + n) 0) := by
  rw [dgK_at hs es] at h ⊢
  by_cases h3 : s = 3
  · rw [if_pos h3] at h
    exact absurd rfl h
  · rw [if_neg h3] at h ⊢
    by_cases hf : fmB k s = true
    · rw [if_pos hf]
      exact ⟨h3, hf, rfl⟩
    · rw [if_neg hf] at h
      exact absurd rfl h
theorem dgK_n {l : List Int32} {k n s : Nat} (hk : k < 6) (hs : s < 4) (es : l.getD (7 + n) 0 = nI s) (hW : WB l) (hn : n < 48) (h : dgK l k n = -1) : s = 3 ∨ (¬ s = 3 ∧ fmB k s = false) := by
  obtain ⟨b, hb, eb⟩ := hW n hn
  rw [dgK_at hs es, eb] at h
  by_cases h3 : s = 3
  · exact Or.inl h3
  · rw [if_neg h3] at h
    refine Or.inr ⟨h3, ?_⟩
    cases hf : fmB k s with
    | false => rfl
    | true =>
      rw [if_pos hf] at h
      have h2 := tm_19 k hk s (by omega) b hb
      rw [h2.2] at h
      exact absurd h (nI_ne1 (by omega))
theorem GRo.of {w : List sx_C} (hI : WI w) : GRo (ia w 112) := fun c hc => by
  obtain ⟨s, hs, e⟩ := (hI.s (7 + c) (by omega)).2.2.1 (by omega)
  exact ⟨s, by omega, e⟩
theorem GRo.rel {w : List sx_C} {l : List Int32} (hI : WI w) (hR : rel w 1 l) : GRo l := fun c hc => by
  obtain ⟨s, hs, e⟩ : inR ((ia w (1 + 1)).getD c 0) 3 := hI.st (Or.inl rfl) hc
  exact ⟨s, by omega, (hR.gr hc).symm.trans e⟩
def Wk (w0 w : List sx_C) (wy su : List Int32) : Prop := (∀ a, a ≠ 117 → a ≠ 118 → w[a]? = w0[a]?) ∧ ia w 117 = wy ∧ ia w 118 = su
theorem Wk.f7 {w0 w w2 : List sx_C} {wy su : List Int32} {k : Nat} {v : Int32} (h : Wk w0 w wy su) (hs : Same 117 w w2) (hv : ia w2 117 = (ia w 117).set k v) : Wk w0 w2 (wy.set k v) su := ⟨fun a h1 h2 => (hs a h1).trans (h.1 a h1 h2), by rw [hv, h.2.1], (ia_of (hs 118 (by decide))).trans h.2.2⟩
theorem Wk.b8 {w0 w w2 : List sx_C} {wy su : List Int32} {k : Nat} {v : Int32} (h : Wk w0 w wy su) (hs : Same 118 w w2) (hv : ia w2 118 = (ia w 118).set k v) : Wk w0 w2 wy (su.set k v) := ⟨fun a h1 h2 => (hs a h2).trans (h.1 a h1 h2), (ia_of (hs 117 (by decide))).trans h.2.1, by rw [hv, h.2.2]⟩
theorem Wk.row {w0 w : List sx_C} {wy su : List Int32} (h : Wk w0 w wy su) : ia w 112 = ia w0 112 := ia_of (h.1 112 (by decide) (by decide))
section SXWK
variable {xs : Option (List Int32)} {d mi pc pc2 a idx p : Nat} {ls : sx_L} {r : List Value} {w w0 : List sx_C} {P : Option Value → List sx_C → Prop}
theorem sx_RP.xF7 {k : Nat} {x : Int32} (hI : WI w) (hi : sx_ins mi pc = some (.iastore, 1)) (hk : k < 48) (hp : pc + 1 = pc2) (kk : ∀ w2, WI w2 → Same 117 w w2 → ia w2 117 = (ia w 117).set k x → sx_RP xs d mi pc2 ls r w2 P) : sx_RP xs d mi pc ls (.int x :: .int (nI k) :: .ref 117 :: r) w P := by
  have h := hI.1.a117
  exact sx_RP.ist hi h.1 h.2 (sx_in_nI hk (by decide)) (nI_clamp (by omega)) rfl hp (kk _ (hI.set h.1 sh_set (cOK.free (by omega))) Same.set (ia_set h.1))
theorem sx_RP.xB8 {k : Nat} {x : Int32} (hI : WI w) (hi : sx_ins mi pc = some (.bastore, 1)) (hk : k < 48) (hp : pc + 1 = pc2) (kk : ∀ w2, WI w2 → Same 118 w w2 → ia w2 118 = (ia w 118).set k (vp_nar .boolean x) → sx_RP xs d mi pc2 ls r w2 P) : sx_RP xs d mi pc ls (.int x :: .int (nI k) :: .ref 118 :: r) w P := by
  have h := hI.1.a118
  exact sx_RP.bst1 hi h.1 h.2 (sx_in_nI hk (by decide)) (nI_clamp (by omega)) rfl hp (kk _ (hI.set h.1 sh_set (cOK.free (by omega))) Same.set (ia_set h.1))
theorem sx_RP.xF0 {k : Nat} {x : Int32} (hI : WI w) (hi : sx_ins mi pc = some (.iastore, 1)) (hk : k < 48) (hp : pc + 1 = pc2) (kk : ∀ w2, WI w2 → Same 100 w w2 → ia w2 100 = (ia w 100).set k x → sx_RP xs d mi pc2 ls r w2 P) : sx_RP xs d mi pc ls (.int x :: .int (nI k) :: .ref 100 :: r) w P := by
  have h := hI.1.a100
  exact sx_RP.ist hi h.1 h.2 (sx_in_nI hk (by decide)) (nI_clamp (by omega)) rfl hp (kk _ (hI.set h.1 sh_set (cOK.free (by omega))) Same.set (ia_set h.1))
end SXWK
theorem nar_0 : vp_nar .boolean 0 = 0 := rfl
theorem nar_1 : vp_nar .boolean 1 = 1 := rfl
section SXW1
variable {kf : Nat → Int32} {c t : Nat} {wy : List Int32}
theorem wr_a {n : Int32} (h : n < 0) : wr1G kf c wy n = wy := if_pos h
theorem wr_b (ht : t < 48) (h : kf t = -1) : wr1G kf c wy (nI t) = wy := by
  unfold wr1G
  rw [if_neg (nI_pos (by omega)), nI_clamp (by omega), if_pos h]
theorem wr_c (ht : t < 48) (h : ¬ kf t = -1) (h2 : wy.getD t 0 < 0) : wr1G kf c wy (nI t) = wy.set t (wy.getD c 0 + kf t) := by
  unfold wr1G
  rw [if_neg (nI_pos (by omega)), nI_clamp (by omega), if_neg h, if_pos h2]
theorem wr_d (ht : t < 48) (h : ¬ kf t = -1) (h2 : ¬ wy.getD t 0 < 0) (h3 : wy.getD t 0 ≤ wy.getD c 0 + kf t) : wr1G kf c wy (nI t) = wy := by
  unfold wr1G
  rw [if_neg (nI_pos (by omega)), nI_clamp (by omega), if_neg h, if_neg h2, if_pos h3]
theorem wr_e (ht : t < 48) (h : ¬ kf t = -1) (h2 : ¬ wy.getD t 0 < 0) (h3 : ¬ wy.getD t 0 ≤ wy.getD c 0 + kf t) : wr1G kf c wy (nI t) = wy.set t (wy.getD c 0 + kf t) := by
  unfold wr1G
  rw [if_neg (nI_pos (by omega)), nI_clamp (by omega), if_neg h, if_neg h2, if_neg h3]
theorem wr1G_len {n : Int32} {m : Nat} (h : wy.length = m) : (wr1G kf c wy n).length = m := by
  unfold wr1G
  (repeat' split) <;> first | exact h | (rw [List.length_set]; exact h)
end SXW1
theorem wrG_len {kf : Nat → Int32} {c m : Nat} : ∀ (q j : Nat) (wy : List Int32), wy.length = m → (wrG kf c q j wy).length = m
  | 0, _, _, h => h
  | q + 1, j, wy, h => wrG_len q (j + 1) _ (wr1G_len h)
theorem wkG_n {kf : Nat → Int32} {f : Nat} {b : Int32} {wy su : List Int32} (h : b < 0) : wkG kf (f + 1) b wy su = (wy, su) := if_pos h
theorem wkG_s {kf : Nat → Int32} {f c : Nat} {wy su : List Int32} (hc : c < 48) : wkG kf (f + 1) (nI c) wy su = wkG kf f (nrF (wrG kf c 4 0 wy) (su.set c 1) 48 0 (-1)) (wrG kf c 4 0 wy) (su.set c 1) := by
  rw [wkG, if_neg (nI_pos (by omega)), nI_clamp (by omega)]
theorem rep_ge {B : Nat} {wy : List Int32} {D : Nat → Nat} {c : Nat} (h : rep B wy D) (hB : B < 1000000) (hc : c < 48) (hv : ¬ wy.getD c 0 < 0) : D c ≤ B ∧ wy.getD c 0 = nI (D c) := h.at hc ((h.fin hc hB).mp hv)
theorem rep_lt {B : Nat} {wy : List Int32} {D : Nat → Nat} {c : Nat} (h : rep B wy D) (hc : c < 48) (hB : B < 1000000) (hv : wy.getD c 0 < 0) : D c = 1000000 := by
  rcases h.2 c hc with ⟨q, _⟩ | ⟨q1, q2⟩
  · exact q
  · rw [q2] at hv
    exact absurd hv (nI_pos (by omega))
def comD (l : List Int32) (g : Nat) : Nat → Nat := dst (dgK l (iN (gF l g 0))) (iN (gF l g 2))
theorem comD_at {l : List Int32} {g k h : Nat} (hk : k < 6) (hh : h < 48) (ek : gF l g 0 = nI k) (eh : gF l g 2 = nI h) : comD l g = dst (dgK l k) h := by
  unfold comD
  rw [ek, eh, iN_n (by omega), iN_n (by omega)]
set_option maxRecDepth 20000 in
set_option maxHeartbeats 4000000 in
theorem x143t {xs : Option (List Int32)} {d : Nat} {w : List sx_C} (hI : WI w) {g c k s : Nat} (hg : g < 10) (hc : c < 48) (hk : k < 6) (ek : (ia w 112).getD (103 + 6 * g + 0) 0 = nI k) (hs : s < 4) (es : (ia w 112).getD (7 + c) 0 = nI s) (h3 : ¬ nI s = 3) (hf : fmB k s = true) : sx_RU xs (d + 2) 143 0 (lv_args 0 [.ref 111, .int (nI g), .int (nI c)]) [] w (some (.int (1))) w := by
  have h : sx_RP xs (d + 2) 143 0 (lv_args 0 [.ref 111, .int (nI g), .int (nI c)]) [] w (fun r9 w2 => r9 = some (.int (1)) ∧ w2 = w) := by
    refine sx_RP.step (pc2 := 1) (ls2 := [(0, .ref 111), (1, .int (nI g)), (2, .int (nI c))]) (st2 := [.ref 111]) (w3 := w) rfl rfl ?_
    refine sx_RP.gf (v := .ref 112) rfl rfl hI.1.o111 rfl rfl (show _ = 4 from rfl) ?_
    refine sx_RP.step (pc2 := 6) (ls2 := [(0, .ref 111), (1, .int (nI g)), (2, .int (nI c))]) (st2 := [.int 7, .ref 112]) (w3 := w) rfl rfl ?_
    refine sx_RP.step (pc2 := 7) (ls2 := [(0, .ref 111), (1, .int (nI g)), (2, .int (nI c))]) (st2 := [.int (nI c), .int 7, .ref 112]) (w3 := w) rfl rfl ?_
    refine sx_RP.step (pc2 := 8) (ls2 := [(0, .ref 111), (1, .int (nI g)), (2, .int (nI c))]) (st2 := [.int (7 + (nI c)), .ref 112]) (w3 := w) rfl rfl ?_
    rw [show (7 + (nI c) : Int32) = nI (7 + c) from nI_add 7 c]
    refine sx_RP.ild (c := (7 + c)) rfl hI.1.a112.1 hI.1.a112.2 (sx_in_nI (show (7 + c) < 172 by omega) (by decide)) (show (nI (7 + c)).toNatClampNeg = (7 + c) from nI_clamp (by omega)) (show _ = 9 from rfl) ?_
    rw [es]
    refine sx_RP.step (pc2 := 10) (ls2 := [(0, .ref 111), (1, .int (nI g)), (2, .int (nI c))]) (st2 := [.int 3, .int (nI s)]) (w3 := w) rfl rfl ?_
    refine sx_RP.br (p2 := 13) (l2 := [(0, .ref 111), (1, .int (nI g)), (2, .int (nI c))]) (s2 := []) (v2 := w) rfl rfl (fun q => absurd (of_decide_eq_true q) h3) (fun _ => ?_)
    refine sx_RP.step (pc2 := 14) (ls2 := [(0, .ref 111), (1, .int (nI g)), (2, .int (nI c))]) (st2 := [.ref 111]) (w3 := w) rfl rfl ?_
    refine sx_RP.step (pc2 := 15) (ls2 := [(0, .ref 111), (1, .int (nI g)), (2, .int (nI c))]) (st2 := [.int (nI g), .ref 111]) (w3 := w) rfl rfl ?_
    refine sx_RP.step (pc2 := 16) (ls2 := [(0, .ref 111), (1, .int (nI g)), (2, .int (nI c))]) (st2 := [.int (nI c), .int (nI g), .ref 111]) (w3 := w) rfl rfl ?_
    refine sx_RP.cu (as := [.ref 111, .int (nI g), .int (nI c)]) (rest2 := []) (st3 := [.int 1]) rfl rfl (sx_inv_v2 (mi := 143) (k := 107) (st := [.int (nI c), .int (nI g), .ref 111]) (w := w) rfl rfl hI.1.o111 rfl rfl rfl) rfl rfl ((by have z := x144 (xs := xs) (d := d) hI hg hc hk ek hs es; rw [hf] at z; exact z)) rfl ?_
    refine sx_RP.step (pc2 := 22) (ls2 := [(0, .ref 111), (1, .int (nI g)), (2, .int (nI c))]) (st2 := []) (w3 := w) rfl rfl ?_
    refine sx_RP.step (pc2 := 23) (ls2 := [(0, .ref 111), (1, .int (nI g)), (2, .int (nI c))]) (st2 := [.int 1]) (w3 := w) rfl rfl ?_
    refine sx_RP.step (pc2 := 27) (ls2 := [(0, .ref 111), (1, .int (nI g)), (2, .int (nI c))]) (st2 := [.int 1]) (w3 := w) rfl rfl ?_
    refine sx_RP.ret (r := (some (.int 1))) rfl rfl ?_
    exact ⟨rfl, rfl⟩
  obtain ⟨r9, w2, h1, rfl, rfl⟩ := h
  exact h1
set_option maxRecDepth 20000 in
set_option maxHeartbeats 4000000 in
theorem x143f {xs : Option (List Int32)} {d : Nat} {w : List sx_C} (hI : WI w) {g c k s : Nat} (hg : g < 10) (hc : c < 48) (hk : k < 6) (ek : (ia w 112).getD (103 + 6 * g + 0) 0 = nI k) (hs : s < 4) (es : (ia w 112).getD (7 + c) 0 = nI s) (h3 : ¬ nI s = 3) (hf : fmB k s = false) : sx_RU xs (d + 2) 143 0 (lv_args 0 [.ref 111, .int (nI g), .int (nI c)]) [] w (some (.int (0))) w := by
  have h : sx_RP xs (d + 2) 143 0 (lv_args 0 [.ref 111, .int (nI g), .int (nI c)]) [] w (fun r9 w2 => r9 = some (.int (0)) ∧ w2 = w) := by
    refine sx_RP.step (pc2 := 1) (ls2 := [(0, .ref 111), (1, .int (nI g)), (2, .int (nI c))]) (st2 := [.ref 111]) (w3 := w) rfl rfl ?_
    refine sx_RP.gf (v := .ref 112) rfl rfl hI.1.o111 rfl rfl (show _ = 4 from rfl) ?_
    refine sx_RP.step (pc2 := 6) (ls2 := [(0, .ref 111), (1, .int (nI g)), (2, .int (nI c))]) (st2 := [.int 7, .ref 112]) (w3 := w) rfl rfl ?_
    refine sx_RP.step (pc2 := 7) (ls2 := [(0, .ref 111), (1, .int (nI g)), (2, .int (nI c))]) (st2 := [.int (nI c), .int 7, .ref 112]) (w3 := w) rfl rfl ?_
    refine sx_RP.step (pc2 := 8) (ls2 := [(0, .ref 111), (1, .int (nI g)), (2, .int (nI c))]) (st2 := [.int (7 + (nI c)), .ref 112]) (w3 := w) rfl rfl ?_
    rw [show (7 + (nI c) : Int32) = nI (7 + c) from nI_add 7 c]
    refine sx_RP.ild (c := (7 + c)) rfl hI.1.a112.1 hI.1.a112.2 (sx_in_nI (show (7 + c) < 172 by omega) (by decide)) (show (nI (7 + c)).toNatClampNeg = (7 + c) from nI_clamp (by omega)) (show _ = 9 from rfl) ?_
    rw [es]
    refine sx_RP.step (pc2 := 10) (ls2 := [(0, .ref 111), (1, .int (nI g)), (2, .int (nI c))]) (st2 := [.int 3, .int (nI s)]) (w3 := w) rfl rfl ?_
    refine sx_RP.br (p2 := 13) (l2 := [(0, .ref 111), (1, .int (nI g)), (2, .int (nI c))]) (s2 := []) (v2 := w) rfl rfl (fun q => absurd (of_decide_eq_true q) h3) (fun _ => ?_)
    refine sx_RP.step (pc2 := 14) (ls2 := [(0, .ref 111), (1, .int (nI g)), (2, .int (nI c))]) (st2 := [.ref 111]) (w3 := w) rfl rfl ?_
    refine sx_RP.step (pc2 := 15) (ls2 := [(0, .ref 111), (1, .int (nI g)), (2, .int (nI c))]) (st2 := [.int (nI g), .ref 111]) (w3 := w) rfl rfl ?_
    refine sx_RP.step (pc2 := 16) (ls2 := [(0, .ref 111), (1, .int (nI g)), (2, .int (nI c))]) (st2 := [.int (nI c), .int (nI g), .ref 111]) (w3 := w) rfl rfl ?_
    refine sx_RP.cu (as := [.ref 111, .int (nI g), .int (nI c)]) (rest2 := []) (st3 := [.int 0]) rfl rfl (sx_inv_v2 (mi := 143) (k := 107) (st := [.int (nI c), .int (nI g), .ref 111]) (w := w) rfl rfl hI.1.o111 rfl rfl rfl) rfl rfl ((by have z := x144 (xs := xs) (d := d) hI hg hc hk ek hs es; rw [hf] at z; exact z)) rfl ?_
    refine sx_RP.step (pc2 := 26) (ls2 := [(0, .ref 111), (1, .int (nI g)), (2, .int (nI c))]) (st2 := []) (w3 := w) rfl rfl ?_
    refine sx_RP.step (pc2 := 27) (ls2 := [(0, .ref 111), (1, .int (nI g)), (2, .int (nI c))]) (st2 := [.int 0]) (w3 := w) rfl rfl ?_
    refine sx_RP.ret (r := (some (.int 0))) rfl rfl ?_
    exact ⟨rfl, rfl⟩
  obtain ⟨r9, w2, h1, rfl, rfl⟩ := h
  exact h1
set_option maxRecDepth 20000 in
set_option maxHeartbeats 4000000 in
theorem x143w {xs : Option (List Int32)} {d : Nat} {w : List sx_C} (hI : WI w) {g c k s : Nat} (hg : g < 10) (hc : c < 48) (hk : k < 6) (ek : (ia w 112).getD (103 + 6 * g + 0) 0 = nI k) (hs : s < 4) (es : (ia w 112).getD (7 + c) 0 = nI s) (h3 : nI s = 3) : sx_RU xs (d + 2) 143 0 (lv_args 0 [.ref 111, .int (nI g), .int (nI c)]) [] w (some (.int (0))) w := by
  have h : sx_RP xs (d + 2) 143 0 (lv_args 0 [.ref 111, .int (nI g), .int (nI c)]) [] w (fun r9 w2 => r9 = some (.int (0)) ∧ w2 = w) := by
    refine sx_RP.step (pc2 := 1) (ls2 := [(0, .ref 111), (1, .int (nI g)), (2, .int (nI c))]) (st2 := [.ref 111]) (w3 := w) rfl rfl ?_
    refine sx_RP.gf (v := .ref 112) rfl rfl hI.1.o111 rfl rfl (show _ = 4 from rfl) ?_
    refine sx_RP.step (pc2 := 6) (ls2 := [(0, .ref 111), (1, .int (nI g)), (2, .int (nI c))]) (st2 := [.int 7, .ref 112]) (w3 := w) rfl rfl ?_
    refine sx_RP.step (pc2 := 7) (ls2 := [(0, .ref 111), (1, .int (nI g)), (2, .int (nI c))]) (st2 := [.int (nI c), .int 7, .ref 112]) (w3 := w) rfl rfl ?_
    refine sx_RP.step (pc2 := 8) (ls2 := [(0, .ref 111), (1, .int (nI g)), (2, .int (nI c))]) (st2 := [.int (7 + (nI c)), .ref 112]) (w3 := w) rfl rfl ?_
    rw [show (7 + (nI c) : Int32) = nI (7 + c) from nI_add 7 c]
    refine sx_RP.ild (c := (7 + c)) rfl hI.1.a112.1 hI.1.a112.2 (sx_in_nI (show (7 + c) < 172 by omega) (by decide)) (show (nI (7 + c)).toNatClampNeg = (7 + c) from nI_clamp (by omega)) (show _ = 9 from rfl) ?_
    rw [es]
    refine sx_RP.step (pc2 := 10) (ls2 := [(0, .ref 111), (1, .int (nI g)), (2, .int (nI c))]) (st2 := [.int 3, .int (nI s)]) (w3 := w) rfl rfl ?_
    refine sx_RP.br (p1 := 26) (l1 := [(0, .ref 111), (1, .int (nI g)), (2, .int (nI c))]) (s1 := []) (v1 := w) rfl rfl (fun _ => ?_) (fun q => absurd h3 (of_decide_eq_false q))
    refine sx_RP.step (pc2 := 27) (ls2 := [(0, .ref 111), (1, .int (nI g)), (2, .int (nI c))]) (st2 := [.int 0]) (w3 := w) rfl rfl ?_
    refine sx_RP.ret (r := (some (.int 0))) rfl rfl ?_
    exact ⟨rfl, rfl⟩
  obtain ⟨r9, w2, h1, rfl, rfl⟩ := h
  exact h1
theorem x143y {xs : Option (List Int32)} {d : Nat} {w : List sx_C} (hI : WI w) {g c k : Nat} (hg : g < 10) (hc : c < 48) (hk : k < 6) (ek : (ia w 112).getD (103 + 6 * g + 0) 0 = nI k) (h : ¬ dgK (ia w 112) k c = -1) : sx_RU xs (d + 2) 143 0 (lv_args 0 [.ref 111, .int (nI g), .int (nI c)]) [] w (some (.int 1)) w := by
  obtain ⟨s, hs, es⟩ := GRo.of hI c hc
  obtain ⟨h1, h2, _⟩ := dgK_y hs es h
  exact x143t hI hg hc hk ek hs es (fun z => h1 ((nI_eq (b := 3) (by omega) (by decide)).mp z)) h2
theorem x143n {xs : Option (List Int32)} {d : Nat} {w : List sx_C} (hI : WI w) (hW : WB (ia w 112)) {g c k : Nat} (hg : g < 10) (hc : c < 48) (hk : k < 6) (ek : (ia w 112).getD (103 + 6 * g + 0) 0 = nI k) (h : dgK (ia w 112) k c = -1) : sx_RU xs (d + 2) 143 0 (lv_args 0 [.ref 111, .int (nI g), .int (nI c)]) [] w (some (.int 0)) w := by
  obtain ⟨s, hs, es⟩ := GRo.of hI c hc
  rcases dgK_n hk hs es hW hc h with rfl | ⟨h1, h2⟩
  · exact x143w hI hg hc hk ek hs es rfl
  · exact x143f hI hg hc hk ek hs es (fun z => h1 ((nI_eq (b := 3) (by omega) (by decide)).mp z)) h2
theorem x147y {xs : Option (List Int32)} {d : Nat} {w : List sx_C} (hI : WI w) {g c k : Nat} (hg : g < 10) (hc : c < 48) (hk : k < 6) (ek : (ia w 112).getD (103 + 6 * g + 0) 0 = nI k) (h : ¬ dgK (ia w 112) k c = -1) : sx_RU xs (d + 1) 147 0 (lv_args 0 [.ref 111, .int (nI g), .int (nI c)]) [] w (some (.int (dgK (ia w 112) k c))) w := by
  obtain ⟨s, hs, es⟩ := GRo.of hI c hc
  obtain ⟨h1, h2, h3⟩ := dgK_y hs es h
  have z := x147 (xs := xs) (d := d) hI hg hc hk ek hs es
  rw [if_neg h1, ← h3] at z
  exact z
set_option maxRecDepth 20000 in
set_option maxHeartbeats 4000000 in
theorem X141i {xs : Option (List Int32)} {d : Nat} {w0 : List sx_C} {P : Option Value → List sx_C → Prop} {src g : Nat} (hs : src < 48) : ∀ (q j : Nat) (w : List sx_C) (wy su : List Int32), j + q = 48 → WI w → Wk w0 w wy su → (∀ w2, WI w2 → Wk w0 w2 (wiF src q j wy) (flF 0 q j su) → sx_RP xs d 141 37 [(0, .ref 111), (1, .int (nI src)), (2, .int (nI g))] [] w2 P) → sx_RP xs d 141 2 [(0, .ref 111), (1, .int (nI src)), (2, .int (nI g)), (3, .int (nI j))] [] w P
  | 0, j, w, wy, su, hj, hI, hk0, kk => by
    obtain rfl : j = 48 := by omega
    refine sx_RP.step (pc2 := 3) (ls2 := [(0, .ref 111), (1, .int (nI src)), (2, .int (nI g)), (3, .int 48)]) (st2 := [.int 48]) (w3 := w) rfl rfl ?_
    refine sx_RP.step (pc2 := 5) (ls2 := [(0, .ref 111), (1, .int (nI src)), (2, .int (nI g)), (3, .int 48)]) (st2 := [.int 48, .int 48]) (w3 := w) rfl rfl ?_
    refine sx_RP.step (pc2 := 37) (ls2 := [(0, .ref 111), (1, .int (nI src)), (2, .int (nI g)), (3, .int 48)]) (st2 := []) (w3 := w) rfl rfl ?_
    exact sx_RP.ls (sx_lr.cons rfl (sx_lr.cons rfl (sx_lr.cons rfl sx_lr.nil))) (kk w hI hk0)
  | q + 1, j, w, wy, su, hj, hI, hk0, kk => by
    refine sx_RP.step (pc2 := 3) (ls2 := [(0, .ref 111), (1, .int (nI src)), (2, .int (nI g)), (3, .int (nI j))]) (st2 := [.int (nI j)]) (w3 := w) rfl rfl ?_
    refine sx_RP.step (pc2 := 5) (ls2 := [(0, .ref 111), (1, .int (nI src)), (2, .int (nI g)), (3, .int (nI j))]) (st2 := [.int 48, .int (nI j)]) (w3 := w) rfl rfl ?_
    refine sx_RP.br (p2 := 8) (l2 := [(0, .ref 111), (1, .int (nI src)), (2, .int (nI g)), (3, .int (nI j))]) (s2 := []) (v2 := w) rfl rfl (fun q => absurd (of_decide_eq_true q) (fun z => absurd ((nI_leI (a := 48) (b := j) (by omega) (by omega)).mp z) (by omega))) (fun _ => ?_)
    refine sx_RP.step (pc2 := 9) (ls2 := [(0, .ref 111), (1, .int (nI src)), (2, .int (nI g)), (3, .int (nI j))]) (st2 := [.ref 111]) (w3 := w) rfl rfl ?_
    refine sx_RP.gf (v := .ref 117) rfl rfl hI.1.o111 rfl rfl (show _ = 12 from rfl) ?_
    refine sx_RP.step (pc2 := 13) (ls2 := [(0, .ref 111), (1, .int (nI src)), (2, .int (nI g)), (3, .int (nI j))]) (st2 := [.int (nI j), .ref 117]) (w3 := w) rfl rfl ?_
    refine sx_RP.step (pc2 := 14) (ls2 := [(0, .ref 111), (1, .int (nI src)), (2, .int (nI g)), (3, .int (nI j))]) (st2 := [.int (nI j), .int (nI j), .ref 117]) (w3 := w) rfl rfl ?_
    refine sx_RP.step (pc2 := 15) (ls2 := [(0, .ref 111), (1, .int (nI src)), (2, .int (nI g)), (3, .int (nI j))]) (st2 := [.int (nI src), .int (nI j), .int (nI j), .ref 117]) (w3 := w) rfl rfl ?_
    refine sx_RP.br (p1 := 22) (l1 := [(0, .ref 111), (1, .int (nI src)), (2, .int (nI g)), (3, .int (nI j))]) (s1 := [.int (nI j), .ref 117]) (v1 := w) (p2 := 18) (l2 := [(0, .ref 111), (1, .int (nI src)), (2, .int (nI g)), (3, .int (nI j))]) (s2 := [.int (nI j), .ref 117]) (v2 := w) rfl rfl (fun q1 => ?_) (fun q1 => ?_)
    · replace q1 := of_decide_eq_true q1
      replace q1 := mt (nI_eq (a := j) (b := src) (by omega) (by omega)).mpr q1
      refine sx_RP.step (pc2 := 23) (ls2 := [(0, .ref 111), (1, .int (nI src)), (2, .int (nI g)), (3, .int (nI j))]) (st2 := [.int (-1), .int (nI j), .ref 117]) (w3 := w) rfl rfl ?_
      refine sx_RP.xF7 (k := j) hI rfl (show j < 48 by omega) (show _ = 24 from rfl) (fun w2 hI3 hs4 hv5 => ?_)
      have hk6 := hk0.f7 hs4 hv5
      refine sx_RP.step (pc2 := 25) (ls2 := [(0, .ref 111), (1, .int (nI src)), (2, .int (nI g)), (3, .int (nI j))]) (st2 := [.ref 111]) (w3 := w2) rfl rfl ?_
      refine sx_RP.gf (v := .ref 118) rfl rfl hI3.1.o111 rfl rfl (show _ = 28 from rfl) ?_
      refine sx_RP.step (pc2 := 29) (ls2 := [(0, .ref 111), (1, .int (nI src)), (2, .int (nI g)), (3, .int (nI j))]) (st2 := [.int (nI j), .ref 118]) (w3 := w2) rfl rfl ?_
      refine sx_RP.step (pc2 := 30) (ls2 := [(0, .ref 111), (1, .int (nI src)), (2, .int (nI g)), (3, .int (nI j))]) (st2 := [.int 0, .int (nI j), .ref 118]) (w3 := w2) rfl rfl ?_
      refine sx_RP.xB8 (k := j) hI3 rfl (show j < 48 by omega) (show _ = 31 from rfl) (fun w7 hI8 hs9 hv10 => ?_)
      rw [nar_0] at hv10
      have hk11 := hk6.b8 hs9 hv10
      refine sx_RP.step (pc2 := 34) (ls2 := [(3, .int ((nI j) + 1)), (0, .ref 111), (1, .int (nI src)), (2, .int (nI g))]) (st2 := []) (w3 := w7) rfl rfl ?_
      rw [nI_1 j]
      refine sx_RP.step (pc2 := 2) (ls2 := [(3, .int (nI (j + 1))), (0, .ref 111), (1, .int (nI src)), (2, .int (nI g))]) (st2 := []) (w3 := w7) rfl rfl ?_
      refine sx_RP.ls (sx_lr.cons rfl (sx_lr.cons rfl (sx_lr.cons rfl (sx_lr.cons rfl sx_lr.nil)))) (X141i hs q (j + 1) w7 _ _ (by omega) hI8 hk11 (fun w2 h1 h2 => kk w2 h1 ?_))
      rw [wiF, flF, if_neg (show ¬ nI j = nI src from fun z => q1 ((nI_eq (by omega) (by omega)).mp z))]
      exact h2
    · replace q1 := Decidable.not_not.mp (of_decide_eq_false q1)
      replace q1 := (nI_eq (a := j) (b := src) (by omega) (by omega)).mp q1
      refine sx_RP.step (pc2 := 19) (ls2 := [(0, .ref 111), (1, .int (nI src)), (2, .int (nI g)), (3, .int (nI j))]) (st2 := [.int 0, .int (nI j), .ref 117]) (w3 := w) rfl rfl ?_
      refine sx_RP.step (pc2 := 23) (ls2 := [(0, .ref 111), (1, .int (nI src)), (2, .int (nI g)), (3, .int (nI j))]) (st2 := [.int 0, .int (nI j), .ref 117]) (w3 := w) rfl rfl ?_
      refine sx_RP.xF7 (k := j) hI rfl (show j < 48 by omega) (show _ = 24 from rfl) (fun w12 hI13 hs14 hv15 => ?_)
      have hk16 := hk0.f7 hs14 hv15
      refine sx_RP.step (pc2 := 25) (ls2 := [(0, .ref 111), (1, .int (nI src)), (2, .int (nI g)), (3, .int (nI j))]) (st2 := [.ref 111]) (w3 := w12) rfl rfl ?_
      refine sx_RP.gf (v := .ref 118) rfl rfl hI13.1.o111 rfl rfl (show _ = 28 from rfl) ?_
      refine sx_RP.step (pc2 := 29) (ls2 := [(0, .ref 111), (1, .int (nI src)), (2, .int (nI g)), (3, .int (nI j))]) (st2 := [.int (nI j), .ref 118]) (w3 := w12) rfl rfl ?_
      refine sx_RP.step (pc2 := 30) (ls2 := [(0, .ref 111), (1, .int (nI src)), (2, .int (nI g)), (3, .int (nI j))]) (st2 := [.int 0, .int (nI j), .ref 118]) (w3 := w12) rfl rfl ?_
      refine sx_RP.xB8 (k := j) hI13 rfl (show j < 48 by omega) (show _ = 31 from rfl) (fun w17 hI18 hs19 hv20 => ?_)
      rw [nar_0] at hv20
      have hk21 := hk16.b8 hs19 hv20
      refine sx_RP.step (pc2 := 34) (ls2 := [(3, .int ((nI j) + 1)), (0, .ref 111), (1, .int (nI src)), (2, .int (nI g))]) (st2 := []) (w3 := w17) rfl rfl ?_
      rw [nI_1 j]
      refine sx_RP.step (pc2 := 2) (ls2 := [(3, .int (nI (j + 1))), (0, .ref 111), (1, .int (nI src)), (2, .int (nI g))]) (st2 := []) (w3 := w17) rfl rfl ?_
      refine sx_RP.ls (sx_lr.cons rfl (sx_lr.cons rfl (sx_lr.cons rfl (sx_lr.cons rfl sx_lr.nil)))) (X141i hs q (j + 1) w17 _ _ (by omega) hI18 hk21 (fun w2 h1 h2 => kk w2 h1 ?_))
      rw [wiF, flF, if_pos (show nI j = nI src by rw [q1])]
      exact h2
set_option maxRecDepth 20000 in
set_option maxHeartbeats 4000000 in
theorem X141w {xs : Option (List Int32)} {d : Nat} {w0 : List sx_C} {P : Option Value → List sx_C → Prop} {src g c k : Nat} {su : List Int32} (hs : src < 48) (hg : g < 10) (hc : c < 48) (hk : k < 6) (ek : (ia w0 112).getD (103 + 6 * g + 0) 0 = nI k) (hW : WB (ia w0 112)) : ∀ (q j : Nat) (w : List sx_C) (wy : List Int32), j + q = 4 → WI w → Wk w0 w wy su → (∀ w2, WI w2 → Wk w0 w2 (wrG (dgK (ia w0 112) k) c q j wy) su → sx_RP xs (d + 3) 141 173 [(0, .ref 111), (1, .int (nI src)), (2, .int (nI g)), (3, .int (nI c))] [] w2 P) → sx_RP xs (d + 3) 141 53 [(0, .ref 111), (1, .int (nI src)), (2, .int (nI g)), (3, .int (nI c)), (4, .int (nI j))] [] w P
  | 0, j, w, wy, hj, hI, hk0, kk => by
    obtain rfl : j = 4 := by omega
    refine sx_RP.step (pc2 := 55) (ls2 := [(0, .ref 111), (1, .int (nI src)), (2, .int (nI g)), (3, .int (nI c)), (4, .int 4)]) (st2 := [.int 4]) (w3 := w) rfl rfl ?_
    refine sx_RP.step (pc2 := 56) (ls2 := [(0, .ref 111), (1, .int (nI src)), (2, .int (nI g)), (3, .int (nI c)), (4, .int 4)]) (st2 := [.int 4, .int 4]) (w3 := w) rfl rfl ?_
    refine sx_RP.step (pc2 := 173) (ls2 := [(0, .ref 111), (1, .int (nI src)), (2, .int (nI g)), (3, .int (nI c)), (4, .int 4)]) (st2 := []) (w3 := w) rfl rfl ?_
    exact sx_RP.ls (sx_lr.cons rfl (sx_lr.cons rfl (sx_lr.cons rfl (sx_lr.cons rfl sx_lr.nil)))) (kk w hI hk0)
  | q + 1, j, w, wy, hj, hI, hk0, kk => by
    have ei := hk0.row
    have ek1 : (ia w 112).getD (103 + 6 * g + 0) 0 = nI k := by rw [ei]; exact ek
    have hW1 : WB (ia w 112) := by rw [ei]; exact hW
    refine sx_RP.step (pc2 := 55) (ls2 := [(0, .ref 111), (1, .int (nI src)), (2, .int (nI g)), (3, .int (nI c)), (4, .int (nI j))]) (st2 := [.int (nI j)]) (w3 := w) rfl rfl ?_
    refine sx_RP.step (pc2 := 56) (ls2 := [(0, .ref 111), (1, .int (nI src)), (2, .int (nI g)), (3, .int (nI c)), (4, .int (nI j))]) (st2 := [.int 4, .int (nI j)]) (w3 := w) rfl rfl ?_
    refine sx_RP.br (p2 := 59) (l2 := [(0, .ref 111), (1, .int (nI src)), (2, .int (nI g)), (3, .int (nI c)), (4, .int (nI j))]) (s2 := []) (v2 := w) rfl rfl (fun q => absurd (of_decide_eq_true q) (fun z => absurd ((nI_leI (a := 4) (b := j) (by omega) (by omega)).mp z) (by omega))) (fun _ => ?_)
    refine sx_RP.step (pc2 := 60) (ls2 := [(0, .ref 111), (1, .int (nI src)), (2, .int (nI g)), (3, .int (nI c)), (4, .int (nI j))]) (st2 := [.int (nI c)]) (w3 := w) rfl rfl ?_
    refine sx_RP.step (pc2 := 62) (ls2 := [(0, .ref 111), (1, .int (nI src)), (2, .int (nI g)), (3, .int (nI c)), (4, .int (nI j))]) (st2 := [.int (nI j), .int (nI c)]) (w3 := w) rfl rfl ?_
    rcases bsd_or hc (show j < 4 by omega) with hb | ⟨t, ht, hb⟩
    · refine sx_RP.cu (as := [.int (nI c), .int (nI j)]) (rest2 := []) (st3 := [.int (-1)]) rfl rfl rfl rfl rfl (cb142e hc (by omega) hb) rfl ?_
      refine sx_RP.step (pc2 := 67) (ls2 := [(5, .int (-1)), (0, .ref 111), (1, .int (nI src)), (2, .int (nI g)), (3, .int (nI c)), (4, .int (nI j))]) (st2 := []) (w3 := w) rfl rfl ?_
      refine sx_RP.step (pc2 := 69) (ls2 := [(5, .int (-1)), (0, .ref 111), (1, .int (nI src)), (2, .int (nI g)), (3, .int (nI c)), (4, .int (nI j))]) (st2 := [.int (-1)]) (w3 := w) rfl rfl ?_
      refine sx_RP.step (pc2 := 90) (ls2 := [(5, .int (-1)), (0, .ref 111), (1, .int (nI src)), (2, .int (nI g)), (3, .int (nI c)), (4, .int (nI j))]) (st2 := []) (w3 := w) rfl rfl ?_
      refine sx_RP.step (pc2 := 91) (ls2 := [(5, .int (-1)), (0, .ref 111), (1, .int (nI src)), (2, .int (nI g)), (3, .int (nI c)), (4, .int (nI j))]) (st2 := [.int 0]) (w3 := w) rfl rfl ?_
      refine sx_RP.step (pc2 := 93) (ls2 := [(6, .int 0), (5, .int (-1)), (0, .ref 111), (1, .int (nI src)), (2, .int (nI g)), (3, .int (nI c)), (4, .int (nI j))]) (st2 := []) (w3 := w) rfl rfl ?_
      refine sx_RP.step (pc2 := 95) (ls2 := [(6, .int 0), (5, .int (-1)), (0, .ref 111), (1, .int (nI src)), (2, .int (nI g)), (3, .int (nI c)), (4, .int (nI j))]) (st2 := [.int 0]) (w3 := w) rfl rfl ?_
      refine sx_RP.step (pc2 := 98) (ls2 := [(6, .int 0), (5, .int (-1)), (0, .ref 111), (1, .int (nI src)), (2, .int (nI g)), (3, .int (nI c)), (4, .int (nI j))]) (st2 := []) (w3 := w) rfl rfl ?_
      refine sx_RP.step (pc2 := 99) (ls2 := [(6, .int 0), (5, .int (-1)), (0, .ref 111), (1, .int (nI src)), (2, .int (nI g)), (3, .int (nI c)), (4, .int (nI j))]) (st2 := [.int 0]) (w3 := w) rfl rfl ?_
      refine sx_RP.step (pc2 := 129) (ls2 := [(6, .int 0), (5, .int (-1)), (0, .ref 111), (1, .int (nI src)), (2, .int (nI g)), (3, .int (nI c)), (4, .int (nI j))]) (st2 := [.int 0]) (w3 := w) rfl rfl ?_
      refine sx_RP.step (pc2 := 131) (ls2 := [(7, .int 0), (6, .int 0), (5, .int (-1)), (0, .ref 111), (1, .int (nI src)), (2, .int (nI g)), (3, .int (nI c)), (4, .int (nI j))]) (st2 := []) (w3 := w) rfl rfl ?_
      refine sx_RP.step (pc2 := 133) (ls2 := [(7, .int 0), (6, .int 0), (5, .int (-1)), (0, .ref 111), (1, .int (nI src)), (2, .int (nI g)), (3, .int (nI c)), (4, .int (nI j))]) (st2 := [.int 0]) (w3 := w) rfl rfl ?_
      refine sx_RP.step (pc2 := 167) (ls2 := [(7, .int 0), (6, .int 0), (5, .int (-1)), (0, .ref 111), (1, .int (nI src)), (2, .int (nI g)), (3, .int (nI c)), (4, .int (nI j))]) (st2 := []) (w3 := w) rfl rfl ?_
      refine sx_RP.step (pc2 := 170) (ls2 := [(4, .int ((nI j) + 1)), (7, .int 0), (6, .int 0), (5, .int (-1)), (0, .ref 111), (1, .int (nI src)), (2, .int (nI g)), (3, .int (nI c))]) (st2 := []) (w3 := w) rfl rfl ?_
      rw [nI_1 j]
      refine sx_RP.step (pc2 := 53) (ls2 := [(4, .int (nI (j + 1))), (7, .int 0), (6, .int 0), (5, .int (-1)), (0, .ref 111), (1, .int (nI src)), (2, .int (nI g)), (3, .int (nI c))]) (st2 := []) (w3 := w) rfl rfl ?_
      refine sx_RP.ls (sx_lr.cons rfl (sx_lr.cons rfl (sx_lr.cons rfl (sx_lr.cons rfl (sx_lr.cons rfl sx_lr.nil))))) (X141w hs hg hc hk ek hW q (j + 1) w _ (by omega) hI hk0 (fun w2 h1 h2 => kk w2 h1 ?_))
      rw [wrG, hb, ← ei, wr_a (by decide)]
      rw [← ei] at h2
      exact h2
    · refine sx_RP.cu (as := [.int (nI c), .int (nI j)]) (rest2 := []) (st3 := [.int (nI t)]) rfl rfl rfl rfl rfl (cb142e hc (by omega) hb) rfl ?_
      refine sx_RP.step (pc2 := 67) (ls2 := [(5, .int (nI t)), (0, .ref 111), (1, .int (nI src)), (2, .int (nI g)), (3, .int (nI c)), (4, .int (nI j))]) (st2 := []) (w3 := w) rfl rfl ?_
      refine sx_RP.step (pc2 := 69) (ls2 := [(5, .int (nI t)), (0, .ref 111), (1, .int (nI src)), (2, .int (nI g)), (3, .int (nI c)), (4, .int (nI j))]) (st2 := [.int (nI t)]) (w3 := w) rfl rfl ?_
      refine sx_RP.br (p2 := 72) (l2 := [(5, .int (nI t)), (0, .ref 111), (1, .int (nI src)), (2, .int (nI g)), (3, .int (nI c)), (4, .int (nI j))]) (s2 := []) (v2 := w) rfl rfl (fun q => absurd (of_decide_eq_true q) (nI_pos (by omega))) (fun _ => ?_)
      refine sx_RP.step (pc2 := 73) (ls2 := [(5, .int (nI t)), (0, .ref 111), (1, .int (nI src)), (2, .int (nI g)), (3, .int (nI c)), (4, .int (nI j))]) (st2 := [.int (nI g)]) (w3 := w) rfl rfl ?_
      refine sx_RP.br (p2 := 76) (l2 := [(5, .int (nI t)), (0, .ref 111), (1, .int (nI src)), (2, .int (nI g)), (3, .int (nI c)), (4, .int (nI j))]) (s2 := []) (v2 := w) rfl rfl (fun q => absurd (of_decide_eq_true q) (nI_pos (by omega))) (fun _ => ?_)
      refine sx_RP.step (pc2 := 77) (ls2 := [(5, .int (nI t)), (0, .ref 111), (1, .int (nI src)), (2, .int (nI g)), (3, .int (nI c)), (4, .int (nI j))]) (st2 := [.ref 111]) (w3 := w) rfl rfl ?_
      refine sx_RP.step (pc2 := 78) (ls2 := [(5, .int (nI t)), (0, .ref 111), (1, .int (nI src)), (2, .int (nI g)), (3, .int (nI c)), (4, .int (nI j))]) (st2 := [.int (nI g), .ref 111]) (w3 := w) rfl rfl ?_
      refine sx_RP.step (pc2 := 80) (ls2 := [(5, .int (nI t)), (0, .ref 111), (1, .int (nI src)), (2, .int (nI g)), (3, .int (nI c)), (4, .int (nI j))]) (st2 := [.int (nI t), .int (nI g), .ref 111]) (w3 := w) rfl rfl ?_
      rcases Decidable.em (dgK (ia w 112) k t = -1) with hm | hm
      · refine sx_RP.cu (as := [.ref 111, .int (nI g), .int (nI t)]) (rest2 := []) (st3 := [.int 0]) rfl rfl (sx_inv_v2 (mi := 141) (k := 80) (st := [.int (nI t), .int (nI g), .ref 111]) (w := w) rfl rfl hI.1.o111 rfl rfl rfl) rfl rfl (x143n (d := d) hI hW1 hg ht hk ek1 hm) rfl ?_
        refine sx_RP.step (pc2 := 90) (ls2 := [(5, .int (nI t)), (0, .ref 111), (1, .int (nI src)), (2, .int (nI g)), (3, .int (nI c)), (4, .int (nI j))]) (st2 := []) (w3 := w) rfl rfl ?_
        refine sx_RP.step (pc2 := 91) (ls2 := [(5, .int (nI t)), (0, .ref 111), (1, .int (nI src)), (2, .int (nI g)), (3, .int (nI c)), (4, .int (nI j))]) (st2 := [.int 0]) (w3 := w) rfl rfl ?_
        refine sx_RP.step (pc2 := 93) (ls2 := [(6, .int 0), (5, .int (nI t)), (0, .ref 111), (1, .int (nI src)), (2, .int (nI g)), (3, .int (nI c)), (4, .int (nI j))]) (st2 := []) (w3 := w) rfl rfl ?_
        refine sx_RP.step (pc2 := 95) (ls2 := [(6, .int 0), (5, .int (nI t)), (0, .ref 111), (1, .int (nI src)), (2, .int (nI g)), (3, .int (nI c)), (4, .int (nI j))]) (st2 := [.int 0]) (w3 := w) rfl rfl ?_
        refine sx_RP.step (pc2 := 98) (ls2 := [(6, .int 0), (5, .int (nI t)), (0, .ref 111), (1, .int (nI src)), (2, .int (nI g)), (3, .int (nI c)), (4, .int (nI j))]) (st2 := []) (w3 := w) rfl rfl ?_
        refine sx_RP.step (pc2 := 99) (ls2 := [(6, .int 0), (5, .int (nI t)), (0, .ref 111), (1, .int (nI src)), (2, .int (nI g)), (3, .int (nI c)), (4, .int (nI j))]) (st2 := [.int 0]) (w3 := w) rfl rfl ?_
        refine sx_RP.step (pc2 := 129) (ls2 := [(6, .int 0), (5, .int (nI t)), (0, .ref 111), (1, .int (nI src)), (2, .int (nI g)), (3, .int (nI c)), (4, .int (nI j))]) (st2 := [.int 0]) (w3 := w) rfl rfl ?_
        refine sx_RP.step (pc2 := 131) (ls2 := [(7, .int 0), (6, .int 0), (5, .int (nI t)), (0, .ref 111), (1, .int (nI src)), (2, .int (nI g)), (3, .int (nI c)), (4, .int (nI j))]) (st2 := []) (w3 := w) rfl rfl ?_
        refine sx_RP.step (pc2 := 133) (ls2 := [(7, .int 0), (6, .int 0), (5, .int (nI t)), (0, .ref 111), (1, .int (nI src)), (2, .int (nI g)), (3, .int (nI c)), (4, .int (nI j))]) (st2 := [.int 0]) (w3 := w) rfl rfl ?_
        refine sx_RP.step (pc2 := 167) (ls2 := [(7, .int 0), (6, .int 0), (5, .int (nI t)), (0, .ref 111), (1, .int (nI src)), (2, .int (nI g)), (3, .int (nI c)), (4, .int (nI j))]) (st2 := []) (w3 := w) rfl rfl ?_
        refine sx_RP.step (pc2 := 170) (ls2 := [(4, .int ((nI j) + 1)), (7, .int 0), (6, .int 0), (5, .int (nI t)), (0, .ref 111), (1, .int (nI src)), (2, .int (nI g)), (3, .int (nI c))]) (st2 := []) (w3 := w) rfl rfl ?_
        rw [nI_1 j]
        refine sx_RP.step (pc2 := 53) (ls2 := [(4, .int (nI (j + 1))), (7, .int 0), (6, .int 0), (5, .int (nI t)), (0, .ref 111), (1, .int (nI src)), (2, .int (nI g)), (3, .int (nI c))]) (st2 := []) (w3 := w) rfl rfl ?_
        refine sx_RP.ls (sx_lr.cons rfl (sx_lr.cons rfl (sx_lr.cons rfl (sx_lr.cons rfl (sx_lr.cons rfl sx_lr.nil))))) (X141w hs hg hc hk ek hW q (j + 1) w _ (by omega) hI hk0 (fun w2 h1 h2 => kk w2 h1 ?_))
        rw [wrG, hb, ← ei, wr_b ht hm]
        rw [← ei] at h2
        exact h2
      · refine sx_RP.cu (as := [.ref 111, .int (nI g), .int (nI t)]) (rest2 := []) (st3 := [.int 1]) rfl rfl (sx_inv_v2 (mi := 141) (k := 80) (st := [.int (nI t), .int (nI g), .ref 111]) (w := w) rfl rfl hI.1.o111 rfl rfl rfl) rfl rfl (x143y (d := d) hI hg ht hk ek1 hm) rfl ?_
        refine sx_RP.step (pc2 := 86) (ls2 := [(5, .int (nI t)), (0, .ref 111), (1, .int (nI src)), (2, .int (nI g)), (3, .int (nI c)), (4, .int (nI j))]) (st2 := []) (w3 := w) rfl rfl ?_
        refine sx_RP.step (pc2 := 87) (ls2 := [(5, .int (nI t)), (0, .ref 111), (1, .int (nI src)), (2, .int (nI g)), (3, .int (nI c)), (4, .int (nI j))]) (st2 := [.int 1]) (w3 := w) rfl rfl ?_
        refine sx_RP.step (pc2 := 91) (ls2 := [(5, .int (nI t)), (0, .ref 111), (1, .int (nI src)), (2, .int (nI g)), (3, .int (nI c)), (4, .int (nI j))]) (st2 := [.int 1]) (w3 := w) rfl rfl ?_
        refine sx_RP.step (pc2 := 93) (ls2 := [(6, .int 1), (5, .int (nI t)), (0, .ref 111), (1, .int (nI src)), (2, .int (nI g)), (3, .int (nI c)), (4, .int (nI j))]) (st2 := []) (w3 := w) rfl rfl ?_
        refine sx_RP.step (pc2 := 95) (ls2 := [(6, .int 1), (5, .int (nI t)), (0, .ref 111), (1, .int (nI src)), (2, .int (nI g)), (3, .int (nI c)), (4, .int (nI j))]) (st2 := [.int 1]) (w3 := w) rfl rfl ?_
        refine sx_RP.step (pc2 := 102) (ls2 := [(6, .int 1), (5, .int (nI t)), (0, .ref 111), (1, .int (nI src)), (2, .int (nI g)), (3, .int (nI c)), (4, .int (nI j))]) (st2 := []) (w3 := w) rfl rfl ?_
        refine sx_RP.step (pc2 := 103) (ls2 := [(6, .int 1), (5, .int (nI t)), (0, .ref 111), (1, .int (nI src)), (2, .int (nI g)), (3, .int (nI c)), (4, .int (nI j))]) (st2 := [.ref 111]) (w3 := w) rfl rfl ?_
        refine sx_RP.gf (v := .ref 117) rfl rfl hI.1.o111 rfl rfl (show _ = 106 from rfl) ?_
        refine sx_RP.step (pc2 := 107) (ls2 := [(6, .int 1), (5, .int (nI t)), (0, .ref 111), (1, .int (nI src)), (2, .int (nI g)), (3, .int (nI c)), (4, .int (nI j))]) (st2 := [.int (nI c), .ref 117]) (w3 := w) rfl rfl ?_
        refine sx_RP.ild (c := c) rfl hI.1.a117.1 hI.1.a117.2 (sx_in_nI (show c < 48 by omega) (by decide)) (show (nI c).toNatClampNeg = c from nI_clamp (by omega)) (show _ = 108 from rfl) ?_
        rw [hk0.2.1]
        refine sx_RP.step (pc2 := 109) (ls2 := [(6, .int 1), (5, .int (nI t)), (0, .ref 111), (1, .int (nI src)), (2, .int (nI g)), (3, .int (nI c)), (4, .int (nI j))]) (st2 := [.int (nI g), .int (wy.getD c 0)]) (w3 := w) rfl rfl ?_
        refine sx_RP.br (p1 := 121) (l1 := [(6, .int 1), (5, .int (nI t)), (0, .ref 111), (1, .int (nI src)), (2, .int (nI g)), (3, .int (nI c)), (4, .int (nI j))]) (s1 := [.int (wy.getD c 0)]) (v1 := w) rfl rfl (fun _ => ?_) (fun q => absurd (nI_pos' (by omega)) (of_decide_eq_false q))
        refine sx_RP.step (pc2 := 122) (ls2 := [(6, .int 1), (5, .int (nI t)), (0, .ref 111), (1, .int (nI src)), (2, .int (nI g)), (3, .int (nI c)), (4, .int (nI j))]) (st2 := [.ref 111, .int (wy.getD c 0)]) (w3 := w) rfl rfl ?_
        refine sx_RP.step (pc2 := 123) (ls2 := [(6, .int 1), (5, .int (nI t)), (0, .ref 111), (1, .int (nI src)), (2, .int (nI g)), (3, .int (nI c)), (4, .int (nI j))]) (st2 := [.int (nI g), .ref 111, .int (wy.getD c 0)]) (w3 := w) rfl rfl ?_
        refine sx_RP.step (pc2 := 125) (ls2 := [(6, .int 1), (5, .int (nI t)), (0, .ref 111), (1, .int (nI src)), (2, .int (nI g)), (3, .int (nI c)), (4, .int (nI j))]) (st2 := [.int (nI t), .int (nI g), .ref 111, .int (wy.getD c 0)]) (w3 := w) rfl rfl ?_
        refine sx_RP.cu (as := [.ref 111, .int (nI g), .int (nI t)]) (rest2 := [.int (wy.getD c 0)]) (st3 := [.int (dgK (ia w 112) k t), .int (wy.getD c 0)]) rfl rfl (sx_inv_v2 (mi := 141) (k := 87) (st := [.int (nI t), .int (nI g), .ref 111, .int (wy.getD c 0)]) (w := w) rfl rfl hI.1.o111 rfl rfl rfl) rfl rfl (x147y (d := d + 1) hI hg ht hk ek1 hm) rfl ?_
        refine sx_RP.step (pc2 := 129) (ls2 := [(6, .int 1), (5, .int (nI t)), (0, .ref 111), (1, .int (nI src)), (2, .int (nI g)), (3, .int (nI c)), (4, .int (nI j))]) (st2 := [.int ((wy.getD c 0) + (dgK (ia w 112) k t))]) (w3 := w) rfl rfl ?_
        refine sx_RP.step (pc2 := 131) (ls2 := [(7, .int ((wy.getD c 0) + (dgK (ia w 112) k t))), (6, .int 1), (5, .int (nI t)), (0, .ref 111), (1, .int (nI src)), (2, .int (nI g)), (3, .int (nI c)), (4, .int (nI j))]) (st2 := []) (w3 := w) rfl rfl ?_
        refine sx_RP.step (pc2 := 133) (ls2 := [(7, .int ((wy.getD c 0) + (dgK (ia w 112) k t))), (6, .int 1), (5, .int (nI t)), (0, .ref 111), (1, .int (nI src)), (2, .int (nI g)), (3, .int (nI c)), (4, .int (nI j))]) (st2 := [.int 1]) (w3 := w) rfl rfl ?_
        refine sx_RP.step (pc2 := 136) (ls2 := [(7, .int ((wy.getD c 0) + (dgK (ia w 112) k t))), (6, .int 1), (5, .int (nI t)), (0, .ref 111), (1, .int (nI src)), (2, .int (nI g)), (3, .int (nI c)), (4, .int (nI j))]) (st2 := []) (w3 := w) rfl rfl ?_
        refine sx_RP.step (pc2 := 137) (ls2 := [(7, .int ((wy.getD c 0) + (dgK (ia w 112) k t))), (6, .int 1), (5, .int (nI t)), (0, .ref 111), (1, .int (nI src)), (2, .int (nI g)), (3, .int (nI c)), (4, .int (nI j))]) (st2 := [.ref 111]) (w3 := w) rfl rfl ?_
        refine sx_RP.gf (v := .ref 117) rfl rfl hI.1.o111 rfl rfl (show _ = 140 from rfl) ?_
        refine sx_RP.step (pc2 := 142) (ls2 := [(7, .int ((wy.getD c 0) + (dgK (ia w 112) k t))), (6, .int 1), (5, .int (nI t)), (0, .ref 111), (1, .int (nI src)), (2, .int (nI g)), (3, .int (nI c)), (4, .int (nI j))]) (st2 := [.int (nI t), .ref 117]) (w3 := w) rfl rfl ?_
        refine sx_RP.ild (c := t) rfl hI.1.a117.1 hI.1.a117.2 (sx_in_nI (show t < 48 by omega) (by decide)) (show (nI t).toNatClampNeg = t from nI_clamp (by omega)) (show _ = 143 from rfl) ?_
        rw [hk0.2.1]
        refine sx_RP.br (p1 := 158) (l1 := [(7, .int ((wy.getD c 0) + (dgK (ia w 112) k t))), (6, .int 1), (5, .int (nI t)), (0, .ref 111), (1, .int (nI src)), (2, .int (nI g)), (3, .int (nI c)), (4, .int (nI j))]) (s1 := []) (v1 := w) (p2 := 146) (l2 := [(7, .int ((wy.getD c 0) + (dgK (ia w 112) k t))), (6, .int 1), (5, .int (nI t)), (0, .ref 111), (1, .int (nI src)), (2, .int (nI g)), (3, .int (nI c)), (4, .int (nI j))]) (s2 := []) (v2 := w) rfl rfl (fun q1 => ?_) (fun q1 => ?_)
        · replace q1 := of_decide_eq_true q1
          refine sx_RP.step (pc2 := 159) (ls2 := [(7, .int ((wy.getD c 0) + (dgK (ia w 112) k t))), (6, .int 1), (5, .int (nI t)), (0, .ref 111), (1, .int (nI src)), (2, .int (nI g)), (3, .int (nI c)), (4, .int (nI j))]) (st2 := [.ref 111]) (w3 := w) rfl rfl ?_
          refine sx_RP.gf (v := .ref 117) rfl rfl hI.1.o111 rfl rfl (show _ = 162 from rfl) ?_
          refine sx_RP.step (pc2 := 164) (ls2 := [(7, .int ((wy.getD c 0) + (dgK (ia w 112) k t))), (6, .int 1), (5, .int (nI t)), (0, .ref 111), (1, .int (nI src)), (2, .int (nI g)), (3, .int (nI c)), (4, .int (nI j))]) (st2 := [.int (nI t), .ref 117]) (w3 := w) rfl rfl ?_
          refine sx_RP.step (pc2 := 166) (ls2 := [(7, .int ((wy.getD c 0) + (dgK (ia w 112) k t))), (6, .int 1), (5, .int (nI t)), (0, .ref 111), (1, .int (nI src)), (2, .int (nI g)), (3, .int (nI c)), (4, .int (nI j))]) (st2 := [.int ((wy.getD c 0) + (dgK (ia w 112) k t)), .int (nI t), .ref 117]) (w3 := w) rfl rfl ?_
          refine sx_RP.xF7 (k := t) hI rfl (show t < 48 by omega) (show _ = 167 from rfl) (fun w2 hI3 hs4 hv5 => ?_)
          have hk6 := hk0.f7 hs4 hv5
          refine sx_RP.step (pc2 := 170) (ls2 := [(4, .int ((nI j) + 1)), (7, .int ((wy.getD c 0) + (dgK (ia w 112) k t))), (6, .int 1), (5, .int (nI t)), (0, .ref 111), (1, .int (nI src)), (2, .int (nI g)), (3, .int (nI c))]) (st2 := []) (w3 := w2) rfl rfl ?_
          rw [nI_1 j]
          refine sx_RP.step (pc2 := 53) (ls2 := [(4, .int (nI (j + 1))), (7, .int ((wy.getD c 0) + (dgK (ia w 112) k t))), (6, .int 1), (5, .int (nI t)), (0, .ref 111), (1, .int (nI src)), (2, .int (nI g)), (3, .int (nI c))]) (st2 := []) (w3 := w2) rfl rfl ?_
          refine sx_RP.ls (sx_lr.cons rfl (sx_lr.cons rfl (sx_lr.cons rfl (sx_lr.cons rfl (sx_lr.cons rfl sx_lr.nil))))) (X141w hs hg hc hk ek hW q (j + 1) w2 _ (by omega) hI3 hk6 (fun w2 h1 h2 => kk w2 h1 ?_))
          rw [wrG, hb, ← ei, wr_c ht hm q1]
          rw [← ei] at h2
          exact h2
        · replace q1 := of_decide_eq_false q1
          refine sx_RP.step (pc2 := 148) (ls2 := [(7, .int ((wy.getD c 0) + (dgK (ia w 112) k t))), (6, .int 1), (5, .int (nI t)), (0, .ref 111), (1, .int (nI src)), (2, .int (nI g)), (3, .int (nI c)), (4, .int (nI j))]) (st2 := [.int ((wy.getD c 0) + (dgK (ia w 112) k t))]) (w3 := w) rfl rfl ?_
          refine sx_RP.step (pc2 := 149) (ls2 := [(7, .int ((wy.getD c 0) + (dgK (ia w 112) k t))), (6, .int 1), (5, .int (nI t)), (0, .ref 111), (1, .int (nI src)), (2, .int (nI g)), (3, .int (nI c)), (4, .int (nI j))]) (st2 := [.ref 111, .int ((wy.getD c 0) + (dgK (ia w 112) k t))]) (w3 := w) rfl rfl ?_
          refine sx_RP.gf (v := .ref 117) rfl rfl hI.1.o111 rfl rfl (show _ = 152 from rfl) ?_
          refine sx_RP.step (pc2 := 154) (ls2 := [(7, .int ((wy.getD c 0) + (dgK (ia w 112) k t))), (6, .int 1), (5, .int (nI t)), (0, .ref 111), (1, .int (nI src)), (2, .int (nI g)), (3, .int (nI c)), (4, .int (nI j))]) (st2 := [.int (nI t), .ref 117, .int ((wy.getD c 0) + (dgK (ia w 112) k t))]) (w3 := w) rfl rfl ?_
          refine sx_RP.ild (c := t) rfl hI.1.a117.1 hI.1.a117.2 (sx_in_nI (show t < 48 by omega) (by decide)) (show (nI t).toNatClampNeg = t from nI_clamp (by omega)) (show _ = 155 from rfl) ?_
          rw [hk0.2.1]
          refine sx_RP.br (p1 := 167) (l1 := [(7, .int ((wy.getD c 0) + (dgK (ia w 112) k t))), (6, .int 1), (5, .int (nI t)), (0, .ref 111), (1, .int (nI src)), (2, .int (nI g)), (3, .int (nI c)), (4, .int (nI j))]) (s1 := []) (v1 := w) (p2 := 158) (l2 := [(7, .int ((wy.getD c 0) + (dgK (ia w 112) k t))), (6, .int 1), (5, .int (nI t)), (0, .ref 111), (1, .int (nI src)), (2, .int (nI g)), (3, .int (nI c)), (4, .int (nI j))]) (s2 := []) (v2 := w) rfl rfl (fun q7 => ?_) (fun q7 => ?_)
          · replace q7 := of_decide_eq_true q7
            refine sx_RP.step (pc2 := 170) (ls2 := [(4, .int ((nI j) + 1)), (7, .int ((wy.getD c 0) + (dgK (ia w 112) k t))), (6, .int 1), (5, .int (nI t)), (0, .ref 111), (1, .int (nI src)), (2, .int (nI g)), (3, .int (nI c))]) (st2 := []) (w3 := w) rfl rfl ?_
            rw [nI_1 j]
            refine sx_RP.step (pc2 := 53) (ls2 := [(4, .int (nI (j + 1))), (7, .int ((wy.getD c 0) + (dgK (ia w 112) k t))), (6, .int 1), (5, .int (nI t)), (0, .ref 111), (1, .int (nI src)), (2, .int (nI g)), (3, .int (nI c))]) (st2 := []) (w3 := w) rfl rfl ?_
            refine sx_RP.ls (sx_lr.cons rfl (sx_lr.cons rfl (sx_lr.cons rfl (sx_lr.cons rfl (sx_lr.cons rfl sx_lr.nil))))) (X141w hs hg hc hk ek hW q (j + 1) w _ (by omega) hI hk0 (fun w2 h1 h2 => kk w2 h1 ?_))
            rw [wrG, hb, ← ei, wr_d ht hm q1 q7]
            rw [← ei] at h2
            exact h2
          · replace q7 := of_decide_eq_false q7
            refine sx_RP.step (pc2 := 159) (ls2 := [(7, .int ((wy.getD c 0) + (dgK (ia w 112) k t))), (6, .int 1), (5, .int (nI t)), (0, .ref 111), (1, .int (nI src)), (2, .int (nI g)), (3, .int (nI c)), (4, .int (nI j))]) (st2 := [.ref 111]) (w3 := w) rfl rfl ?_
            refine sx_RP.gf (v := .ref 117) rfl rfl hI.1.o111 rfl rfl (show _ = 162 from rfl) ?_
            refine sx_RP.step (pc2 := 164) (ls2 := [(7, .int ((wy.getD c 0) + (dgK (ia w 112) k t))), (6, .int 1), (5, .int (nI t)), (0, .ref 111), (1, .int (nI src)), (2, .int (nI g)), (3, .int (nI c)), (4, .int (nI j))]) (st2 := [.int (nI t), .ref 117]) (w3 := w) rfl rfl ?_
            refine sx_RP.step (pc2 := 166) (ls2 := [(7, .int ((wy.getD c 0) + (dgK (ia w 112) k t))), (6, .int 1), (5, .int (nI t)), (0, .ref 111), (1, .int (nI src)), (2, .int (nI g)), (3, .int (nI c)), (4, .int (nI j))]) (st2 := [.int ((wy.getD c 0) + (dgK (ia w 112) k t)), .int (nI t), .ref 117]) (w3 := w) rfl rfl ?_
            refine sx_RP.xF7 (k := t) hI rfl (show t < 48 by omega) (show _ = 167 from rfl) (fun w8 hI9 hs10 hv11 => ?_)
            have hk12 := hk0.f7 hs10 hv11
            refine sx_RP.step (pc2 := 170) (ls2 := [(4, .int ((nI j) + 1)), (7, .int ((wy.getD c 0) + (dgK (ia w 112) k t))), (6, .int 1), (5, .int (nI t)), (0, .ref 111), (1, .int (nI src)), (2, .int (nI g)), (3, .int (nI c))]) (st2 := []) (w3 := w8) rfl rfl ?_
            rw [nI_1 j]
            refine sx_RP.step (pc2 := 53) (ls2 := [(4, .int (nI (j + 1))), (7, .int ((wy.getD c 0) + (dgK (ia w 112) k t))), (6, .int 1), (5, .int (nI t)), (0, .ref 111), (1, .int (nI src)), (2, .int (nI g)), (3, .int (nI c))]) (st2 := []) (w3 := w8) rfl rfl ?_
            refine sx_RP.ls (sx_lr.cons rfl (sx_lr.cons rfl (sx_lr.cons rfl (sx_lr.cons rfl (sx_lr.cons rfl sx_lr.nil))))) (X141w hs hg hc hk ek hW q (j + 1) w8 _ (by omega) hI9 hk12 (fun w2 h1 h2 => kk w2 h1 ?_))
            rw [wrG, hb, ← ei, wr_e ht hm q1 q7]
            rw [← ei] at h2
            exact h2
set_option maxRecDepth 20000 in
set_option maxHeartbeats 4000000 in
theorem X141m {xs : Option (List Int32)} {d : Nat} {w0 : List sx_C} {P : Option Value → List sx_C → Prop} {src g k : Nat} (hs : src < 48) (hg : g < 10) (hk : k < 6) (ek : (ia w0 112).getD (103 + 6 * g + 0) 0 = nI k) (hW : WB (ia w0 112)) : ∀ (f : Nat) (b : Int32) (w : List sx_C) (wy su : List Int32), su.count 0 ≤ f → nrOK su b → wy.length = 48 → su.length = 48 → WI w → Wk w0 w wy su → (∀ w2, Wk w0 w2 (wkG (dgK (ia w0 112) k) (f + 1) b wy su).1 (wkG (dgK (ia w0 112) k) (f + 1) b wy su).2 → WI w2 → P none w2) → sx_RP xs (d + 3) 141 39 [(0, .ref 111), (1, .int (nI src)), (2, .int (nI g)), (3, .int b)] [] w P
  | 0, b, w, wy, su, hf, hok, hl7, hl8, hI, hk0, kk => by
    rcases hok with hneg | ⟨c, hc, rfl, h0⟩
    · refine sx_RP.step (pc2 := 40) (ls2 := [(0, .ref 111), (1, .int (nI src)), (2, .int (nI g)), (3, .int b)]) (st2 := [.int b]) (w3 := w) rfl rfl ?_
      refine sx_RP.br (p1 := 181) (l1 := [(0, .ref 111), (1, .int (nI src)), (2, .int (nI g)), (3, .int b)]) (s1 := []) (v1 := w) rfl rfl (fun _ => ?_) (fun q => absurd hneg (of_decide_eq_false q))
      refine sx_RP.ret (r := none) rfl rfl ?_
      exact kk w (by rw [wkG_n hneg]; exact hk0) hI
    · exact absurd (cnt_pos (su := su) (c := c) (by omega) h0) (by omega)
  | f + 1, b, w, wy, su, hf, hok, hl7, hl8, hI, hk0, kk => by
    rcases hok with hneg | ⟨c, hc, rfl, h0⟩
    · refine sx_RP.step (pc2 := 40) (ls2 := [(0, .ref 111), (1, .int (nI src)), (2, .int (nI g)), (3, .int b)]) (st2 := [.int b]) (w3 := w) rfl rfl ?_
      refine sx_RP.br (p1 := 181) (l1 := [(0, .ref 111), (1, .int (nI src)), (2, .int (nI g)), (3, .int b)]) (s1 := []) (v1 := w) rfl rfl (fun _ => ?_) (fun q => absurd hneg (of_decide_eq_false q))
      refine sx_RP.ret (r := none) rfl rfl ?_
      exact kk w (by rw [wkG_n hneg]; exact hk0) hI
    · refine sx_RP.step (pc2 := 40) (ls2 := [(0, .ref 111), (1, .int (nI src)), (2, .int (nI g)), (3, .int (nI c))]) (st2 := [.int (nI c)]) (w3 := w) rfl rfl ?_
      refine sx_RP.br (p2 := 43) (l2 := [(0, .ref 111), (1, .int (nI src)), (2, .int (nI g)), (3, .int (nI c))]) (s2 := []) (v2 := w) rfl rfl (fun q => absurd (of_decide_eq_true q) (nI_pos (by omega))) (fun _ => ?_)
      refine sx_RP.step (pc2 := 44) (ls2 := [(0, .ref 111), (1, .int (nI src)), (2, .int (nI g)), (3, .int (nI c))]) (st2 := [.ref 111]) (w3 := w) rfl rfl ?_
      refine sx_RP.gf (v := .ref 118) rfl rfl hI.1.o111 rfl rfl (show _ = 47 from rfl) ?_
      refine sx_RP.step (pc2 := 48) (ls2 := [(0, .ref 111), (1, .int (nI src)), (2, .int (nI g)), (3, .int (nI c))]) (st2 := [.int (nI c), .ref 118]) (w3 := w) rfl rfl ?_
      refine sx_RP.step (pc2 := 49) (ls2 := [(0, .ref 111), (1, .int (nI src)), (2, .int (nI g)), (3, .int (nI c))]) (st2 := [.int 1, .int (nI c), .ref 118]) (w3 := w) rfl rfl ?_
      refine sx_RP.xB8 (k := c) hI rfl (show c < 48 by omega) (show _ = 50 from rfl) (fun w1 hI2 hs3 hv4 => ?_)
      rw [nar_1] at hv4
      have hk5 := hk0.b8 hs3 hv4
      refine sx_RP.step (pc2 := 51) (ls2 := [(0, .ref 111), (1, .int (nI src)), (2, .int (nI g)), (3, .int (nI c))]) (st2 := [.int 0]) (w3 := w1) rfl rfl ?_
      refine sx_RP.step (pc2 := 53) (ls2 := [(4, .int 0), (0, .ref 111), (1, .int (nI src)), (2, .int (nI g)), (3, .int (nI c))]) (st2 := []) (w3 := w1) rfl rfl ?_
      refine sx_RP.ls (sx_lr.cons rfl (sx_lr.cons rfl (sx_lr.cons rfl (sx_lr.cons rfl (sx_lr.cons rfl sx_lr.nil))))) (X141w (d := d) hs hg hc hk ek hW 4 0 w1 wy (by omega) hI2 hk5 (fun w3 h1 h2 => ?_))
      have l3 : (wrG (dgK (ia w0 112) k) c 4 0 wy).length = 48 := wrG_len 4 0 wy hl7
      have l4 : (su.set c 1).length = 48 := sx_ls hl8
      have n9 := cp_149 (xs := xs) (d := d + 2) h1.1.o111 h1.1.a117.1 h1.1.a118.1 h1.1.a117.2 h1.1.a118.2
      rw [h2.2.1, h2.2.2] at n9
      refine sx_RP.step (pc2 := 174) (ls2 := [(0, .ref 111), (1, .int (nI src)), (2, .int (nI g)), (3, .int (nI c))]) (st2 := [.ref 111]) (w3 := w3) rfl rfl ?_
      refine sx_RP.cu (as := [.ref 111]) (rest2 := []) (st3 := [.int (nrF (wrG (dgK (ia w0 112) k) c 4 0 wy) (su.set c 1) 48 0 (-1))]) rfl rfl (sx_inv_v2 (mi := 141) (k := 90) (st := [.ref 111]) (w := w3) rfl rfl h1.1.o111 rfl rfl rfl) rfl rfl n9 rfl ?_
      refine sx_RP.step (pc2 := 178) (ls2 := [(3, .int (nrF (wrG (dgK (ia w0 112) k) c 4 0 wy) (su.set c 1) 48 0 (-1))), (0, .ref 111), (1, .int (nI src)), (2, .int (nI g))]) (st2 := []) (w3 := w3) rfl rfl ?_
      refine sx_RP.step (pc2 := 39) (ls2 := [(3, .int (nrF (wrG (dgK (ia w0 112) k) c 4 0 wy) (su.set c 1) 48 0 (-1))), (0, .ref 111), (1, .int (nI src)), (2, .int (nI g))]) (st2 := []) (w3 := w3) rfl rfl ?_
      refine sx_RP.ls (sx_lr.cons rfl (sx_lr.cons rfl (sx_lr.cons rfl (sx_lr.cons rfl sx_lr.nil)))) (X141m hs hg hk ek hW f _ w3 _ _ (cnt_set (by omega) h0 hf) (nrF_ok 48 0 _ (by omega) (Or.inl (by decide))) l3 l4 h1 h2 (fun w5 g2 g3 => kk w5 ?_ g3))
      rw [wkG_s hc]
      exact g2
set_option maxRecDepth 20000 in
set_option maxHeartbeats 4000000 in
theorem X141d {xs : Option (List Int32)} {d : Nat} {w : List sx_C} (hI : WI w) {src g k : Nat} (hs : src < 48) (hg : g < 10) (hk : k < 6) (ek : (ia w 112).getD (103 + 6 * g + 0) 0 = nI k) (hW : WB (ia w 112)) : sx_RP xs (d + 3) 141 0 (lv_args 0 [.ref 111, .int (nI src), .int (nI g)]) [] w (fun r w2 => (r = none ∧ rep 3000 (ia w2 117) (dst (dgK (ia w 112) k) src)) ∧ WI w2 ∧ ∀ a, a ≠ 117 → a ≠ 118 → w2[a]? = w[a]?) := by
  refine sx_RP.step (pc2 := 1) (ls2 := [(0, .ref 111), (1, .int (nI src)), (2, .int (nI g))]) (st2 := [.int 0]) (w3 := w) rfl rfl ?_
  refine sx_RP.step (pc2 := 2) (ls2 := [(3, .int 0), (0, .ref 111), (1, .int (nI src)), (2, .int (nI g))]) (st2 := []) (w3 := w) rfl rfl ?_
  have h7 := hI.1.a117
  have h8 := hI.1.a118
  refine sx_RP.ls (sx_lr.cons rfl (sx_lr.cons rfl (sx_lr.cons rfl (sx_lr.cons rfl sx_lr.nil)))) (X141i (w0 := w) hs 48 0 w (ia w 117) (ia w 118) (by omega) hI ⟨fun _ _ _ => rfl, rfl, rfl⟩ (fun w3 h1 h2 => ?_))
  refine sx_RP.step (pc2 := 38) (ls2 := [(0, .ref 111), (1, .int (nI src)), (2, .int (nI g))]) (st2 := [.int (nI src)]) (w3 := w3) rfl rfl ?_
  refine sx_RP.step (pc2 := 39) (ls2 := [(3, .int (nI src)), (0, .ref 111), (1, .int (nI src)), (2, .int (nI g))]) (st2 := []) (w3 := w3) rfl rfl ?_
  have l8 : (flF 0 48 0 (ia w 118)).length = 48 := flF_len 48 0 _ h8.2
  refine sx_RP.ls (sx_lr.cons rfl (sx_lr.cons rfl (sx_lr.cons rfl (sx_lr.cons rfl sx_lr.nil)))) (X141m hs hg hk ek hW 48 (nI src) w3 _ _ (Nat.le_trans List.count_le_length (by rw [l8]; exact Nat.le_refl _)) (Or.inr ⟨src, hs, rfl, (flF_at 48 0 (ia w 118) (by rw [h8.2]) src (by rw [h8.2]; exact hs)).1 (Nat.zero_le _)⟩) (wiF_len 48 0 _ h7.2) l8 h1 h2 (fun w2 z hI2 => ⟨⟨rfl, ?_⟩, hI2, z.1⟩))
  have hd := wlG_dst (wy0 := ia w 117) (su0 := ia w 118) (dgK_kfr hk (GRo.of hI) hW) hs h7.2 h8.2
  rw [z.2.1]
  exact hd
set_option maxRecDepth 20000 in
set_option maxHeartbeats 4000000 in
theorem x57t {xs : Option (List Int32)} {d : Nat} {w : List sx_C} (hI : WI w) {c k s : Nat} (hk : k ≤ 5) (hc : c < 48) (hs : s < 4) (es : (ia w (1 + 1)).getD c 0 = nI s) (h3 : ¬ nI s = 3) (hf : fmB k s = true) : sx_RU xs (d + 3) 57 0 (lv_args 0 [.ref 1, .int (nI k), .int (nI c)]) [] w (some (.int (1))) w := by
  have es0 : (ia w 2).getD c 0 = nI s := es
  have h : sx_RP xs (d + 3) 57 0 (lv_args 0 [.ref 1, .int (nI k), .int (nI c)]) [] w (fun r9 w2 => r9 = some (.int (1)) ∧ w2 = w) := by
    refine sx_RP.step (pc2 := 1) (ls2 := [(0, .ref 1), (1, .int (nI k)), (2, .int (nI c))]) (st2 := [.ref 1]) (w3 := w) rfl rfl ?_
    refine sx_RP.gref (k := 0) (b := 2) hI (Or.inl rfl) rfl rfl (by omega) (show _ = 4 from rfl) ?_
    refine sx_RP.step (pc2 := 5) (ls2 := [(0, .ref 1), (1, .int (nI k)), (2, .int (nI c))]) (st2 := [.int (nI c), .ref 2]) (w3 := w) rfl rfl ?_
    refine sx_RP.ild (c := c) rfl (hI.1.aS (Or.inl rfl)).1 (hI.1.aS (Or.inl rfl)).2 (sx_in_nI (show c < 48 by omega) (by decide)) (show (nI c).toNatClampNeg = c from nI_clamp (by omega)) (show _ = 6 from rfl) ?_
    rw [es0]
    refine sx_RP.step (pc2 := 7) (ls2 := [(0, .ref 1), (1, .int (nI k)), (2, .int (nI c))]) (st2 := [.int 3, .int (nI s)]) (w3 := w) rfl rfl ?_
    refine sx_RP.br (p2 := 10) (l2 := [(0, .ref 1), (1, .int (nI k)), (2, .int (nI c))]) (s2 := []) (v2 := w) rfl rfl (fun q => absurd (of_decide_eq_true q) h3) (fun _ => ?_)
    refine sx_RP.step (pc2 := 11) (ls2 := [(0, .ref 1), (1, .int (nI k)), (2, .int (nI c))]) (st2 := [.ref 1]) (w3 := w) rfl rfl ?_
    refine sx_RP.step (pc2 := 12) (ls2 := [(0, .ref 1), (1, .int (nI k)), (2, .int (nI c))]) (st2 := [.int (nI k), .ref 1]) (w3 := w) rfl rfl ?_
    refine sx_RP.step (pc2 := 13) (ls2 := [(0, .ref 1), (1, .int (nI k)), (2, .int (nI c))]) (st2 := [.int (nI c), .int (nI k), .ref 1]) (w3 := w) rfl rfl ?_
    refine sx_RP.cu (as := [.ref 1, .int (nI k), .int (nI c)]) (rest2 := []) (st3 := [.int 1]) rfl rfl (sx_inv_v2 (mi := 57) (k := 103) (st := [.int (nI c), .int (nI k), .ref 1]) (w := w) rfl rfl (hI.1.oC (Or.inl rfl)) rfl rfl rfl) rfl rfl ((by have z := x37 (xs := xs) (d := d) hI (Or.inl rfl) hk hc; rw [es, iN_n (by omega), hf] at z; exact z)) rfl ?_
    refine sx_RP.step (pc2 := 19) (ls2 := [(0, .ref 1), (1, .int (nI k)), (2, .int (nI c))]) (st2 := []) (w3 := w) rfl rfl ?_
    refine sx_RP.step (pc2 := 20) (ls2 := [(0, .ref 1), (1, .int (nI k)), (2, .int (nI c))]) (st2 := [.int 1]) (w3 := w) rfl rfl ?_
    refine sx_RP.step (pc2 := 24) (ls2 := [(0, .ref 1), (1, .int (nI k)), (2, .int (nI c))]) (st2 := [.int 1]) (w3 := w) rfl rfl ?_
    refine sx_RP.ret (r := (some (.int 1))) rfl rfl ?_
    exact ⟨rfl, rfl⟩
  obtain ⟨r9, w2, h1, rfl, rfl⟩ := h
  exact h1
set_option maxRecDepth 20000 in
set_option maxHeartbeats 4000000 in
theorem x57f {xs : Option (List Int32)} {d : Nat} {w : List sx_C} (hI : WI w) {c k s : Nat} (hk : k ≤ 5) (hc : c < 48) (hs : s < 4) (es : (ia w (1 + 1)).getD c 0 = nI s) (h3 : ¬ nI s = 3) (hf : fmB k s = false) : sx_RU xs (d + 3) 57 0 (lv_args 0 [.ref 1, .int (nI k), .int (nI c)]) [] w (some (.int (0))) w := by
  have es0 : (ia w 2).getD c 0 = nI s := es
  have h : sx_RP xs (d + 3) 57 0 (lv_args 0 [.ref 1, .int (nI k), .int (nI c)]) [] w (fun r9 w2 => r9 = some (.int (0)) ∧ w2 = w) := by
    refine sx_RP.step (pc2 := 1) (ls2 := [(0, .ref 1), (1, .int (nI k)), (2, .int (nI c))]) (st2 := [.ref 1]) (w3 := w) rfl rfl ?_
    refine sx_RP.gref (k := 0) (b := 2) hI (Or.inl rfl) rfl rfl (by omega) (show _ = 4 from rfl) ?_
    refine sx_RP.step (pc2 := 5) (ls2 := [(0, .ref 1), (1, .int (nI k)), (2, .int (nI c))]) (st2 := [.int (nI c), .ref 2]) (w3 := w) rfl rfl ?_
    refine sx_RP.ild (c := c) rfl (hI.1.aS (Or.inl rfl)).1 (hI.1.aS (Or.inl rfl)).2 (sx_in_nI (show c < 48 by omega) (by decide)) (show (nI c).toNatClampNeg = c from nI_clamp (by omega)) (show _ = 6 from rfl) ?_
    rw [es0]
    refine sx_RP.step (pc2 := 7) (ls2 := [(0, .ref 1), (1, .int (nI k)), (2, .int (nI c))]) (st2 := [.int 3, .int (nI s)]) (w3 := w) rfl rfl ?_
    refine sx_RP.br (p2 := 10) (l2 := [(0, .ref 1), (1, .int (nI k)), (2, .int (nI c))]) (s2 := []) (v2 := w) rfl rfl (fun q => absurd (of_decide_eq_true q) h3) (fun _ => ?_)
    refine sx_RP.step (pc2 := 11) (ls2 := [(0, .ref 1), (1, .int (nI k)), (2, .int (nI c))]) (st2 := [.ref 1]) (w3 := w) rfl rfl ?_
    refine sx_RP.step (pc2 := 12) (ls2 := [(0, .ref 1), (1, .int (nI k)), (2, .int (nI c))]) (st2 := [.int (nI k), .ref 1]) (w3 := w) rfl rfl ?_
    refine sx_RP.step (pc2 := 13) (ls2 := [(0, .ref 1), (1, .int (nI k)), (2, .int (nI c))]) (st2 := [.int (nI c), .int (nI k), .ref 1]) (w3 := w) rfl rfl ?_
    refine sx_RP.cu (as := [.ref 1, .int (nI k), .int (nI c)]) (rest2 := []) (st3 := [.int 0]) rfl rfl (sx_inv_v2 (mi := 57) (k := 103) (st := [.int (nI c), .int (nI k), .ref 1]) (w := w) rfl rfl (hI.1.oC (Or.inl rfl)) rfl rfl rfl) rfl rfl ((by have z := x37 (xs := xs) (d := d) hI (Or.inl rfl) hk hc; rw [es, iN_n (by omega), hf] at z; exact z)) rfl ?_
    refine sx_RP.step (pc2 := 23) (ls2 := [(0, .ref 1), (1, .int (nI k)), (2, .int (nI c))]) (st2 := []) (w3 := w) rfl rfl ?_
    refine sx_RP.step (pc2 := 24) (ls2 := [(0, .ref 1), (1, .int (nI k)), (2, .int (nI c))]) (st2 := [.int 0]) (w3 := w) rfl rfl ?_
    refine sx_RP.ret (r := (some (.int 0))) rfl rfl ?_
    exact ⟨rfl, rfl⟩
  obtain ⟨r9, w2, h1, rfl, rfl⟩ := h
  exact h1
set_option maxRecDepth 20000 in
set_option maxHeartbeats 4000000 in
theorem x57w {xs : Option (List Int32)} {d : Nat} {w : List sx_C} (hI : WI w) {c k s : Nat} (hk : k ≤ 5) (hc : c < 48) (hs : s < 4) (es : (ia w (1 + 1)).getD c 0 = nI s) (h3 : nI s = 3) : sx_RU xs (d + 3) 57 0 (lv_args 0 [.ref 1, .int (nI k), .int (nI c)]) [] w (some (.int (0))) w := by
  have es0 : (ia w 2).getD c 0 = nI s := es
  have h : sx_RP xs (d + 3) 57 0 (lv_args 0 [.ref 1, .int (nI k), .int (nI c)]) [] w (fun r9 w2 => r9 = some (.int (0)) ∧ w2 = w) := by
    refine sx_RP.step (pc2 := 1) (ls2 := [(0, .ref 1), (1, .int (nI k)), (2, .int (nI c))]) (st2 := [.ref 1]) (w3 := w) rfl rfl ?_
    refine sx_RP.gref (k := 0) (b := 2) hI (Or.inl rfl) rfl rfl (by omega) (show _ = 4 from rfl) ?_
    refine sx_RP.step (pc2 := 5) (ls2 := [(0, .ref 1), (1, .int (nI k)), (2, .int (nI c))]) (st2 := [.int (nI c), .ref 2]) (w3 := w) rfl rfl ?_
    refine sx_RP.ild (c := c) rfl (hI.1.aS (Or.inl rfl)).1 (hI.1.aS (Or.inl rfl)).2 (sx_in_nI (show c < 48 by omega) (by decide)) (show (nI c).toNatClampNeg = c from nI_clamp (by omega)) (show _ = 6 from rfl) ?_
    rw [es0]
    refine sx_RP.step (pc2 := 7) (ls2 := [(0, .ref 1), (1, .int (nI k)), (2, .int (nI c))]) (st2 := [.int 3, .int (nI s)]) (w3 := w) rfl rfl ?_
    refine sx_RP.br (p1 := 23) (l1 := [(0, .ref 1), (1, .int (nI k)), (2, .int (nI c))]) (s1 := []) (v1 := w) rfl rfl (fun _ => ?_) (fun q => absurd h3 (of_decide_eq_false q))
    refine sx_RP.step (pc2 := 24) (ls2 := [(0, .ref 1), (1, .int (nI k)), (2, .int (nI c))]) (st2 := [.int 0]) (w3 := w) rfl rfl ?_
    refine sx_RP.ret (r := (some (.int 0))) rfl rfl ?_
    exact ⟨rfl, rfl⟩
  obtain ⟨r9, w2, h1, rfl, rfl⟩ := h
  exact h1
theorem x57y {xs : Option (List Int32)} {d : Nat} {w : List sx_C} (hI : WI w) {l : List Int32} (hR : rel w 1 l) {c k : Nat} (hk : k ≤ 5) (hc : c < 48) (h : ¬ dgK l k c = -1) : sx_RU xs (d + 3) 57 0 (lv_args 0 [.ref 1, .int (nI k), .int (nI c)]) [] w (some (.int 1)) w := by
  obtain ⟨s, hs, es⟩ := GRo.rel hI hR c hc
  obtain ⟨h1, h2, _⟩ := dgK_y hs es h
  exact x57t hI hk hc hs ((hR.gr hc).trans es) (fun z => h1 ((nI_eq (b := 3) (by omega) (by decide)).mp z)) h2
theorem x57n {xs : Option (List Int32)} {d : Nat} {w : List sx_C} (hI : WI w) {l : List Int32} (hR : rel w 1 l) {c k : Nat} (hk : k ≤ 5) (hc : c < 48) (h : dgK l k c = -1) : sx_RU xs (d + 3) 57 0 (lv_args 0 [.ref 1, .int (nI k), .int (nI c)]) [] w (some (.int 0)) w := by
  obtain ⟨s, hs, es⟩ := GRo.rel hI hR c hc
  rcases dgK_n (by omega) hs es hR.wb hc h with rfl | ⟨h1, h2⟩
  · exact x57w hI hk hc hs ((hR.gr hc).trans es) rfl
  · exact x57f hI hk hc hs ((hR.gr hc).trans es) (fun z => h1 ((nI_eq (b := 3) (by omega) (by decide)).mp z)) h2
theorem x33y {xs : Option (List Int32)} {d : Nat} {w : List sx_C} (hI : WI w) {l : List Int32} (hR : rel w 1 l) {c k : Nat} (hk : k ≤ 5) (hc : c < 48) (h : ¬ dgK l k c = -1) : sx_RU xs (d + 1) 33 0 (lv_args 0 [.ref 1, .int (nI k), .int (nI c)]) [] w (some (.int (dgK l k c))) w := by
  obtain ⟨s, hs, es⟩ := GRo.rel hI hR c hc
  obtain ⟨h1, h2, h3⟩ := dgK_y hs es h
  have z := x33 (xs := xs) (d := d) hI (Or.inl rfl) hk hc
  rw [show (ia w (1 + 1)).getD c 0 = nI s from (hR.gr hc).trans es, iN_n (by omega), hR.w48 hc, ← h3] at z
  exact z
set_option maxRecDepth 20000 in
set_option maxHeartbeats 4000000 in
theorem X56L {xs : Option (List Int32)} {d : Nat} {w0 : List sx_C} {P : Option Value → List sx_C → Prop} {g k : Nat} {l : List Int32} (hg : g < 10) (hk : k ≤ 5) (ek : fi w0 (1 + 4 + g) 0 = nI k) (hR0 : rel w0 1 l ∧ WI w0) : ∀ (q j : Nat) (w : List sx_C), j + q = 48 → WI w → (∀ a, a ≠ 100 → w[a]? = w0[a]?) → (∀ c, c < j → (ia w 100).getD c 0 = dgK l k c) → (∀ w2, WI w2 → (∀ a, a ≠ 100 → w2[a]? = w0[a]?) → (∀ c, c < 48 → (ia w2 100).getD c 0 = dgK l k c) → sx_RP xs (d + 4) 56 51 [(0, .ref 0), (1, .ref (1 + 4 + g))] [] w2 P) → sx_RP xs (d + 4) 56 2 [(0, .ref 0), (1, .ref (1 + 4 + g)), (2, .int (nI j))] [] w P
  | 0, j, w, hj, hI, hO, hD, kk => by
    obtain rfl : j = 48 := by omega
    refine sx_RP.step (pc2 := 3) (ls2 := [(0, .ref 0), (1, .ref (1 + 4 + g)), (2, .int 48)]) (st2 := [.int 48]) (w3 := w) rfl rfl ?_
    refine sx_RP.step (pc2 := 5) (ls2 := [(0, .ref 0), (1, .ref (1 + 4 + g)), (2, .int 48)]) (st2 := [.int 48, .int 48]) (w3 := w) rfl rfl ?_
    refine sx_RP.step (pc2 := 51) (ls2 := [(0, .ref 0), (1, .ref (1 + 4 + g)), (2, .int 48)]) (st2 := []) (w3 := w) rfl rfl ?_
    exact sx_RP.ls (sx_lr.cons rfl (sx_lr.cons rfl sx_lr.nil)) (kk w hI hO hD)
  | q + 1, j, w, hj, hI, hO, hD, kk => by
    have hR : rel w 1 l := hR0.1.same hR0.2 (Or.inl rfl) (fun a h1 h2 => hO a (by omega))
    have ek1 : fi w (1 + 4 + g) 0 = nI k := (fi_same 0 (hO _ (by omega))).trans ek
    refine sx_RP.step (pc2 := 3) (ls2 := [(0, .ref 0), (1, .ref (1 + 4 + g)), (2, .int (nI j))]) (st2 := [.int (nI j)]) (w3 := w) rfl rfl ?_
    refine sx_RP.step (pc2 := 5) (ls2 := [(0, .ref 0), (1, .ref (1 + 4 + g)), (2, .int (nI j))]) (st2 := [.int 48, .int (nI j)]) (w3 := w) rfl rfl ?_
    refine sx_RP.br (p2 := 8) (l2 := [(0, .ref 0), (1, .ref (1 + 4 + g)), (2, .int (nI j))]) (s2 := []) (v2 := w) rfl rfl (fun q => absurd (of_decide_eq_true q) (fun z => absurd ((nI_leI (a := 48) (b := j) (by omega) (by omega)).mp z) (by omega))) (fun _ => ?_)
    refine sx_RP.step (pc2 := 9) (ls2 := [(0, .ref 0), (1, .ref (1 + 4 + g)), (2, .int (nI j))]) (st2 := [.ref 0]) (w3 := w) rfl rfl ?_
    refine sx_RP.gf (v := .ref 100) rfl rfl hI.1.o0 rfl rfl (show _ = 12 from rfl) ?_
    refine sx_RP.step (pc2 := 13) (ls2 := [(0, .ref 0), (1, .ref (1 + 4 + g)), (2, .int (nI j))]) (st2 := [.int (nI j), .ref 100]) (w3 := w) rfl rfl ?_
    refine sx_RP.step (pc2 := 14) (ls2 := [(0, .ref 0), (1, .ref (1 + 4 + g)), (2, .int (nI j))]) (st2 := [.ref 0, .int (nI j), .ref 100]) (w3 := w) rfl rfl ?_
    refine sx_RP.gf (v := .ref 1) rfl rfl hI.1.o0 rfl rfl (show _ = 17 from rfl) ?_
    refine sx_RP.step (pc2 := 18) (ls2 := [(0, .ref 0), (1, .ref (1 + 4 + g)), (2, .int (nI j))]) (st2 := [.ref (1 + 4 + g), .ref 1, .int (nI j), .ref 100]) (w3 := w) rfl rfl ?_
    refine sx_RP.gg (k := 0) hI (gAd.of (Or.inl rfl) (show g < 10 by omega)) rfl rfl (by decide) (show _ = 21 from rfl) ?_
    rw [ek1]
    refine sx_RP.step (pc2 := 22) (ls2 := [(0, .ref 0), (1, .ref (1 + 4 + g)), (2, .int (nI j))]) (st2 := [.int (nI j), .int (nI k), .ref 1, .int (nI j), .ref 100]) (w3 := w) rfl rfl ?_
    rcases Decidable.em (dgK l k j = -1) with hm | hm
    · refine sx_RP.cu (as := [.ref 1, .int (nI k), .int (nI j)]) (rest2 := [.int (nI j), .ref 100]) (st3 := [.int 0, .int (nI j), .ref 100]) rfl rfl (sx_inv_v2 (mi := 56) (k := 201) (st := [.int (nI j), .int (nI k), .ref 1, .int (nI j), .ref 100]) (w := w) rfl rfl (hI.1.oC (Or.inl rfl)) rfl rfl rfl) rfl rfl (x57n (d := d) hI hR hk (by omega) hm) rfl ?_
      refine sx_RP.step (pc2 := 43) (ls2 := [(0, .ref 0), (1, .ref (1 + 4 + g)), (2, .int (nI j))]) (st2 := [.int (nI j), .ref 100]) (w3 := w) rfl rfl ?_
      refine sx_RP.step (pc2 := 44) (ls2 := [(0, .ref 0), (1, .ref (1 + 4 + g)), (2, .int (nI j))]) (st2 := [.int (-1), .int (nI j), .ref 100]) (w3 := w) rfl rfl ?_
      refine sx_RP.xF0 (k := j) hI rfl (show j < 48 by omega) (show _ = 45 from rfl) (fun w1 hI2 hs3 hv4 => ?_)
      refine sx_RP.step (pc2 := 48) (ls2 := [(2, .int ((nI j) + 1)), (0, .ref 0), (1, .ref (1 + 4 + g))]) (st2 := []) (w3 := w1) rfl rfl ?_
      rw [nI_1 j]
      refine sx_RP.step (pc2 := 2) (ls2 := [(2, .int (nI (j + 1))), (0, .ref 0), (1, .ref (1 + 4 + g))]) (st2 := []) (w3 := w1) rfl rfl ?_
      refine sx_RP.ls (sx_lr.cons rfl (sx_lr.cons rfl (sx_lr.cons rfl sx_lr.nil))) (X56L hg hk ek hR0 q (j + 1) w1 (by omega) hI2 (fun a ha => (hs3 a ha).trans (hO a ha)) (fun c hc => ?_) kk)
      rw [hv4, gd_set (by rw [hI.1.a100.2]; omega)]
      by_cases e : c = j
      · rw [if_pos e, e, hm]
      · rw [if_neg e]; exact hD c (by omega)
    · refine sx_RP.cu (as := [.ref 1, .int (nI k), .int (nI j)]) (rest2 := [.int (nI j), .ref 100]) (st3 := [.int 1, .int (nI j), .ref 100]) rfl rfl (sx_inv_v2 (mi := 56) (k := 201) (st := [.int (nI j), .int (nI k), .ref 1, .int (nI j), .ref 100]) (w := w) rfl rfl (hI.1.oC (Or.inl rfl)) rfl rfl rfl) rfl rfl (x57y (d := d) hI hR hk (by omega) hm) rfl ?_
      refine sx_RP.step (pc2 := 28) (ls2 := [(0, .ref 0), (1, .ref (1 + 4 + g)), (2, .int (nI j))]) (st2 := [.int (nI j), .ref 100]) (w3 := w) rfl rfl ?_
      refine sx_RP.step (pc2 := 29) (ls2 := [(0, .ref 0), (1, .ref (1 + 4 + g)), (2, .int (nI j))]) (st2 := [.ref 0, .int (nI j), .ref 100]) (w3 := w) rfl rfl ?_
      refine sx_RP.gf (v := .ref 1) rfl rfl hI.1.o0 rfl rfl (show _ = 32 from rfl) ?_
      refine sx_RP.step (pc2 := 33) (ls2 := [(0, .ref 0), (1, .ref (1 + 4 + g)), (2, .int (nI j))]) (st2 := [.ref (1 + 4 + g), .ref 1, .int (nI j), .ref 100]) (w3 := w) rfl rfl ?_
      refine sx_RP.gg (k := 0) hI (gAd.of (Or.inl rfl) (show g < 10 by omega)) rfl rfl (by decide) (show _ = 36 from rfl) ?_
      rw [ek1]
      refine sx_RP.step (pc2 := 37) (ls2 := [(0, .ref 0), (1, .ref (1 + 4 + g)), (2, .int (nI j))]) (st2 := [.int (nI j), .int (nI k), .ref 1, .int (nI j), .ref 100]) (w3 := w) rfl rfl ?_
      refine sx_RP.cu (as := [.ref 1, .int (nI k), .int (nI j)]) (rest2 := [.int (nI j), .ref 100]) (st3 := [.int (dgK l k j), .int (nI j), .ref 100]) rfl rfl (sx_inv_v2 (mi := 56) (k := 153) (st := [.int (nI j), .int (nI k), .ref 1, .int (nI j), .ref 100]) (w := w) rfl rfl (hI.1.oC (Or.inl rfl)) rfl rfl rfl) rfl rfl (x33y (d := d + 2) hI hR hk (by omega) hm) rfl ?_
      refine sx_RP.step (pc2 := 44) (ls2 := [(0, .ref 0), (1, .ref (1 + 4 + g)), (2, .int (nI j))]) (st2 := [.int (dgK l k j), .int (nI j), .ref 100]) (w3 := w) rfl rfl ?_
      refine sx_RP.xF0 (k := j) hI rfl (show j < 48 by omega) (show _ = 45 from rfl) (fun w5 hI6 hs7 hv8 => ?_)
      refine sx_RP.step (pc2 := 48) (ls2 := [(2, .int ((nI j) + 1)), (0, .ref 0), (1, .ref (1 + 4 + g))]) (st2 := []) (w3 := w5) rfl rfl ?_
      rw [nI_1 j]
      refine sx_RP.step (pc2 := 2) (ls2 := [(2, .int (nI (j + 1))), (0, .ref 0), (1, .ref (1 + 4 + g))]) (st2 := []) (w3 := w5) rfl rfl ?_
      refine sx_RP.ls (sx_lr.cons rfl (sx_lr.cons rfl (sx_lr.cons rfl sx_lr.nil))) (X56L hg hk ek hR0 q (j + 1) w5 (by omega) hI6 (fun a ha => (hs7 a ha).trans (hO a ha)) (fun c hc => ?_) kk)
      rw [hv8, gd_set (by rw [hI.1.a100.2]; omega)]
      by_cases e : c = j
      · rw [if_pos e, e]
      · rw [if_neg e]; exact hD c (by omega)
set_option maxRecDepth 20000 in
set_option maxHeartbeats 4000000 in
theorem X56 {xs : Option (List Int32)} {d : Nat} {w : List sx_C} (hI : WI w) (l : List Int32) (hR : rel w 1 l) {g k h : Nat} (hg : g < 10) (hk : k ≤ 5) (ek : fi w (1 + 4 + g) 0 = nI k) (hh : h < 48) (eh : fi w (1 + 4 + g) 2 = nI h) : sx_RP xs (d + 4) 56 0 (lv_args 0 [.ref 0, .ref (1 + 4 + g)]) [] w (fun r w2 => (r = none ∧ ∀ c, c < 48 → (ia w2 101).getD c 0 = nI (dst (dgK l k) h c)) ∧ WI w2 ∧ ∀ a, a ≠ 100 → a ≠ 101 → w2[a]? = w[a]?) := by
  refine sx_RP.step (pc2 := 1) (ls2 := [(0, .ref 0), (1, .ref (1 + 4 + g))]) (st2 := [.int 0]) (w3 := w) rfl rfl ?_
  refine sx_RP.step (pc2 := 2) (ls2 := [(2, .int 0), (0, .ref 0), (1, .ref (1 + 4 + g))]) (st2 := []) (w3 := w) rfl rfl ?_
  refine sx_RP.ls (sx_lr.cons rfl (sx_lr.cons rfl (sx_lr.cons rfl sx_lr.nil))) (X56L (w0 := w) hg hk ek ⟨hR, hI⟩ 48 0 w (by omega) hI (fun _ _ => rfl) (fun c hc => absurd hc (by omega)) (fun w3 hI3 hO3 hD3 => ?_))
  have eh3 : fi w3 (1 + 4 + g) 2 = nI h := (fi_same 2 (hO3 _ (by omega))).trans eh
  refine sx_RP.step (pc2 := 52) (ls2 := [(0, .ref 0), (1, .ref (1 + 4 + g))]) (st2 := [.ref (1 + 4 + g)]) (w3 := w3) rfl rfl ?_
  refine sx_RP.gg (k := 2) hI3 (gAd.of (Or.inl rfl) (show g < 10 by omega)) rfl rfl (by decide) (show _ = 55 from rfl) ?_
  rw [eh3]
  refine sx_RP.step (pc2 := 56) (ls2 := [(0, .ref 0), (1, .ref (1 + 4 + g))]) (st2 := [.ref 0, .int (nI h)]) (w3 := w3) rfl rfl ?_
  refine sx_RP.gf (v := .ref 100) rfl rfl hI3.1.o0 rfl rfl (show _ = 59 from rfl) ?_
  refine sx_RP.step (pc2 := 60) (ls2 := [(0, .ref 0), (1, .ref (1 + 4 + g))]) (st2 := [.ref 0, .ref 100, .int (nI h)]) (w3 := w3) rfl rfl ?_
  refine sx_RP.gf (v := .ref 101) rfl rfl hI3.1.o0 rfl rfl (show _ = 63 from rfl) ?_
  have c18 := cp_18 (xs := xs) (d := d + 1) hI3.1.a100.1 hI3.1.a101.1 (by decide) hI3.1.a100.2 hI3.1.a101.2 (show h < 48 by omega)
  refine sx_RP.callp (as2 := [.int (nI h), .ref 100, .ref 101]) (rest2 := []) rfl rfl rfl rfl rfl rfl (c18.rp (P := fun r9 w9 => r9 = none ∧ w9 = (w3.set 101 (.inl (0, spF (ia w3 100) h (ia w3 101))))) ⟨rfl, rfl⟩) (show _ = 66 from rfl) ?_
  rintro r4 w4 ⟨rfl, e4⟩
  show sx_RP _ _ _ _ _ [] _ _
  refine sx_RP.ret (r := none) rfl rfl ?_
  subst e4
  refine ⟨⟨rfl, fun c hc => ?_⟩, hI3.fr hI3.1.a101.1 (by rw [spF_len hI3.1.a101.2, hI3.1.a101.2]) (by decide), fun a h1 h2 => ?_⟩
  · rw [ia_set hI3.1.a101.1]
    exact spF_dst (dgK_kfr (by omega) (GRo.rel hI hR) hR.wb) hD3 (by omega) hI3.1.a101.2 c hc
  · rw [List.getElem?_set_ne (Ne.symm h2)]
    exact hO3 a h1
end
-- 89y44.meets.lean.txt
section
def cbF (D : Nat → Nat) (h n : Nat) : Nat → Nat → Bool
  | 0, _ => false
  | q + 1, j => (if bsd h j = -1 then false else decide (D (iN (bsd h j)) ≤ n)) || cbF D h n q (j + 1)
def cbB (D : Nat → Nat) (h n : Nat) : Bool := decide (D h ≤ n) || cbF D h n 4 0
def anB (D : Nat → Nat) (h n : Nat) : Nat → Bool
  | 0 => false
  | c + 1 => anB D h n c || (decide (D c ≤ n) && nearB h c)
section SXME
variable {D : Nat → Nat} {h n : Nat}
theorem anB_iff : ∀ m : Nat, anB D h n m = true ↔ ∃ c, c < m ∧ D c ≤ n ∧ nearB h c = true
  | 0 => ⟨fun z => absurd (show false = true from z) (by decide), fun ⟨c, hc, _⟩ => absurd hc (by omega)⟩
  | m + 1 => by
    show (anB D h n m || (decide (D m ≤ n) && nearB h m)) = true ↔ _
    rw [Bool.or_eq_true, Bool.and_eq_true, decide_eq_true_iff, anB_iff m]
    constructor
    · rintro (⟨c, hc, h1, h2⟩ | ⟨h1, h2⟩)
      · exact ⟨c, by omega, h1, h2⟩
      · exact ⟨m, by omega, h1, h2⟩
    · rintro ⟨c, hc, h1, h2⟩
      by_cases e : c = m
      · subst e
        exact Or.inr ⟨h1, h2⟩
      · exact Or.inl ⟨c, by omega, h1, h2⟩
theorem anB_up {a : Nat} (ha : anB D h n a = true) {m : Nat} (hm : a ≤ m) : anB D h n m = true := by
  obtain ⟨c, hc, h1, h2⟩ := (anB_iff a).mp ha
  exact (anB_iff m).mpr ⟨c, by omega, h1, h2⟩
theorem anB_s {j : Nat} (h0 : anB D h n j = false) (hn : ¬ (D j ≤ n ∧ nearB h j = true)) : anB D h n (j + 1) = false := by
  show (anB D h n j || (decide (D j ≤ n) && nearB h j)) = false
  rw [h0, Bool.false_or]
  by_cases h1 : D j ≤ n
  · rw [decide_eq_true h1, Bool.true_and]
    cases h2 : nearB h j with
    | false => rfl
    | true => exact absurd ⟨h1, h2⟩ hn
  · rw [decide_eq_false h1, Bool.false_and]
theorem anB_t {j : Nat} (h1 : D j ≤ n) (h2 : nearB h j = true) : anB D h n (j + 1) = true := (anB_iff _).mpr ⟨j, by omega, h1, h2⟩
theorem cbF_iff (hh : h < 48) : ∀ q j : Nat, j + q = 4 → (cbF D h n q j = true ↔ ∃ i x, j ≤ i ∧ i < 4 ∧ x < 48 ∧ bsd h i = nI x ∧ D x ≤ n)
  | 0, j, hj => ⟨fun z => absurd (show false = true from z) (by decide), fun ⟨i, x, h1, h2, _⟩ => absurd h1 (by omega)⟩
  | q + 1, j, hj => by
    show ((if bsd h j = -1 then false else decide (D (iN (bsd h j)) ≤ n)) || cbF D h n q (j + 1)) = true ↔ _
    rcases bsd_or hh (show j < 4 by omega) with hb | ⟨t, ht, hb⟩
    · rw [if_pos hb, Bool.false_or, cbF_iff hh q (j + 1) (by omega)]
      constructor
      · rintro ⟨i, x, h1, h2, h3⟩
        exact ⟨i, x, by omega, h2, h3⟩
      · rintro ⟨i, x, h1, h2, h3, h4, h5⟩
        by_cases e : i = j
        · subst e
          rw [hb] at h4
          exact absurd h4.symm (nI_ne1 (by omega))
        · exact ⟨i, x, by omega, h2, h3, h4, h5⟩
    · rw [hb, if_neg (nI_ne1 (by omega)), iN_n (by omega), Bool.or_eq_true, decide_eq_true_iff, cbF_iff hh q (j + 1) (by omega)]
      constructor
      · rintro (h1 | ⟨i, x, h1, h2, h3⟩)
        · exact ⟨j, t, by omega, by omega, ht, hb, h1⟩
        · exact ⟨i, x, by omega, h2, h3⟩
      · rintro ⟨i, x, h1, h2, h3, h4, h5⟩
        by_cases e : i = j
        · subst e
          have e2 : t = x := (nI_eq (by omega) (by omega)).mp (hb.symm.trans h4)
          rw [e2]
          exact Or.inl h5
        · exact Or.inr ⟨i, x, by omega, h2, h3, h4, h5⟩
theorem cb_an (hh : h < 48) : cbB D h n = anB D h n 48 := by
  have e : cbB D h n = true ↔ anB D h n 48 = true := by
    unfold cbB
    rw [Bool.or_eq_true, decide_eq_true_iff, cbF_iff hh 4 0 rfl, anB_iff]
    constructor
    · rintro (h1 | ⟨i, x, h1, h2, h3, h4, h5⟩)
      · exact ⟨h, hh, h1, by unfold nearB; rw [beq_self_eq_true]; rfl⟩
      · refine ⟨x, h3, h5, ?_⟩
        unfold nearB
        rw [nbb_iff.mpr ⟨i, h2, h4⟩, Bool.or_true]
    · rintro ⟨c, hc, h1, h2⟩
      unfold nearB at h2
      rw [Bool.or_eq_true] at h2
      rcases h2 with h2 | h2
      · have e2 : h = c := eq_of_beq h2
        rw [e2]
        exact Or.inl h1
      · obtain ⟨i, hi, hb⟩ := nbb_iff.mp h2
        exact Or.inr ⟨i, c, by omega, hi, hc, hb, h1⟩
  cases h1 : cbB D h n <;> cases h2 : anB D h n 48
  · rfl
  · exact absurd (e.mpr h2) (by rw [h1]; decide)
  · exact absurd (e.mp h1) (by rw [h2]; decide)
  · rfl
end SXME
def nmF (D : Nat → Nat) (gr wl : Nat → Int32) (k y : Nat) : Nat → Nat → Nat → Int32 → Int32 → Int32
  | 0, _, _, _, _ => -1
  | q + 1, n, h, dn, e => if e = 0 then (if cbB D h n = true then nI n else nmF D gr wl k y q (n + 1) (iN (dgT gr wl k h y dn e).1) (dgT gr wl k h y dn e).2.1 (dgT gr wl k h y dn e).2.2) else -1
section SXNM
variable {D : Nat → Nat} {gr wl : Nat → Int32} {k y q n h : Nat} {dn e : Int32}
theorem nm_l (he : ¬ e = 0) : nmF D gr wl k y (q + 1) n h dn e = -1 := if_neg he
theorem nm_y (he : e = 0) (hc : cbB D h n = true) : nmF D gr wl k y (q + 1) n h dn e = nI n := by
  rw [nmF, if_pos he, if_pos hc]
theorem nm_s (he : e = 0) (hc : cbB D h n = false) : nmF D gr wl k y (q + 1) n h dn e = nmF D gr wl k y q (n + 1) (iN (dgT gr wl k h y dn e).1) (dgT gr wl k h y dn e).2.1 (dgT gr wl k h y dn e).2.2 := by
  rw [nmF, if_pos he, if_neg (by rw [hc]; decide)]
end SXNM
theorem nmRng {D : Nat → Nat} {gr wl : Nat → Int32} {k y : Nat} : ∀ (q n h : Nat) (dn e : Int32), n + q = 61 → nmF D gr wl k y q n h dn e = -1 ∨ ∃ x, x ≤ 60 ∧ nmF D gr wl k y q n h dn e = nI x
  | 0, _, _, _, _, _ => Or.inl rfl
  | q + 1, n, h, dn, e, hn => by
    by_cases he : e = 0
    · cases hc : cbB D h n with
      | true => exact Or.inr ⟨n, by omega, nm_y he hc⟩
      | false =>
        rw [nm_s he hc]
        exact nmRng q (n + 1) _ _ _ (by omega)
    · exact Or.inl (nm_l he)
theorem dgT_hd {gr wl : Nat → Int32} {k h y : Nat} {dn e : Int32} (hh : h < 48) (hy : y < 4) : ∃ h2, h2 < 48 ∧ (dgT gr wl k h y dn e).1 = nI h2 := by
  unfold dgT
  rcases bsd_or hh hy with hb | ⟨t, ht, hb⟩
  · rw [if_pos hb]
    exact ⟨h, hh, rfl⟩
  · rw [if_neg (show ¬ bsd h y = -1 by rw [hb]; exact nI_ne1 (by omega))]
    split
    · exact ⟨h, hh, rfl⟩
    · split
      · exact ⟨t, ht, hb⟩
      · exact ⟨h, hh, rfl⟩
def NOo (l : List Int32) (N : Nat) : Prop := ∀ i, i < N → ¬ (gF l i 1 = 1 ∧ gF l i 5 = 0)
theorem meF_no {l : List Int32} {h : Nat} : ∀ j, NOo l j → meF l h j = false
  | 0, _ => rfl
  | j + 1, hn => by
    show (meF l h j || (decide (gF l j 1 = 1 ∧ gF l j 5 = 0) && nearB (iN (gF l j 2)) h)) = false
    rw [meF_no j (fun i hi => hn i (by omega)), decide_eq_false (hn j (by omega))]
    rfl
theorem metR_no {l : List Int32} {g : Nat} (hn : NOo l (maN l)) : metR l g = l := if_neg (fun z => by
  have z2 := z.2
  rw [meF_no _ hn] at z2
  exact absurd z2 (by decide))
theorem mtL_no {l : List Int32} (hn : NOo l (maN l)) : ∀ q j, mtL q j l = l
  | 0, _ => rfl
  | q + 1, j => by
    show mtL q (j + 1) (metR l j) = l
    rw [metR_no hn]
    exact mtL_no hn q (j + 1)
section SXDI
variable {l m : List Int32} {i j k c : Nat}
theorem gF_dig (hk : k < 6) (hij : i ≠ j) : gF (digR l j) i k = gF l i k := by
  unfold gF digR
  rw [gd_ne (by omega), gd_ne (by omega), gd_ne (by omega)]
theorem gF_digo (hk : k = 0 ∨ k = 1 ∨ k = 3) : gF (digR l j) j k = gF l j k := by
  unfold gF digR
  rw [gd_ne (by omega), gd_ne (by omega), gd_ne (by omega)]
theorem gF_dig2 (hl : l.length = 172) (hj : j < 10) : gF (digR l j) j 2 = (digT l j).1 := by
  unfold gF digR
  rw [gd_ne (by omega), gd_ne (by omega), gd_eq (by omega)]
theorem gF_dig4 (hl : l.length = 172) (hj : j < 10) : gF (digR l j) j 4 = (digT l j).2.1 := by
  unfold gF digR
  rw [gd_ne (by omega), gd_eq (by rw [List.length_set]; omega)]
theorem gF_dig5 (hl : l.length = 172) (hj : j < 10) : gF (digR l j) j 5 = (digT l j).2.2 := by
  unfold gF digR
  rw [gd_eq (by rw [List.length_set, List.length_set]; omega)]
theorem gd_dig (hc : c < 48) : gdL (digR l j) c = gdL l c := by
  unfold gdL digR
  rw [gd_ne (by omega), gd_ne (by omega), gd_ne (by omega)]
theorem wl_dig (hc : c < 48) : wlL (digR l j) c = wlL l c := by
  unfold wlL digR
  rw [gd_ne (by omega), gd_ne (by omega), gd_ne (by omega)]
theorem len_dig : (digR l j).length = l.length := by
  unfold digR
  rw [List.length_set, List.length_set, List.length_set]
theorem digT_cg (hg : ∀ c, c < 48 → gdL l c = gdL m c) (hw : ∀ c, c < 48 → wlL l c = wlL m c) (hf : ∀ k, k < 6 → gF l j k = gF m j k) (h2 : iN (gF m j 2) < 48) (h3 : iN (gF m j 3) < 4) : digT l j = digT m j := by
  unfold digT
  rw [hf 0 (by decide), hf 2 (by decide), hf 3 (by decide), hf 4 (by decide), hf 5 (by decide)]
  exact dgT_congr h2 h3 hg hw
end SXDI
def dg1 (l : List Int32) (j : Nat) : List Int32 := if gF l j 5 = 0 then digR l j else l
section SXD1
variable {l : List Int32} {i j k c : Nat}
theorem gF_dg1 (hk : k < 6) (hij : i ≠ j) : gF (dg1 l j) i k = gF l i k := by
  unfold dg1
  split
  · exact gF_dig hk hij
  · rfl
theorem gd_dg1 (hc : c < 48) : gdL (dg1 l j) c = gdL l c := by
  unfold dg1
  split
  · exact gd_dig hc
  · rfl
theorem wl_dg1 (hc : c < 48) : wlL (dg1 l j) c = wlL l c := by
  unfold dg1
  split
  · exact wl_dig hc
  · rfl
theorem len_dg1 : (dg1 l j).length = l.length := by
  unfold dg1
  split
  · exact len_dig
  · rfl
end SXD1
theorem dgL_s {q j : Nat} {l : List Int32} : dgL (q + 1) j l = dgL q (j + 1) (dg1 l j) := rfl
theorem dgL_lo : ∀ (q j : Nat) (l : List Int32) (i k : Nat), i < j → k < 6 → gF (dgL q j l) i k = gF l i k
  | 0, _, _, _, _, _, _ => rfl
  | q + 1, j, l, i, k, hi, hk => by rw [dgL_s, dgL_lo q (j + 1) _ i k (by omega) hk, gF_dg1 hk (by omega)]
theorem dgL_gd {c : Nat} (hc : c < 48) : ∀ (q j : Nat) (l : List Int32), gdL (dgL q j l) c = gdL l c
  | 0, _, _ => rfl
  | q + 1, j, l => by rw [dgL_s, dgL_gd hc q (j + 1), gd_dg1 hc]
theorem dgL_wl {c : Nat} (hc : c < 48) : ∀ (q j : Nat) (l : List Int32), wlL (dgL q j l) c = wlL l c
  | 0, _, _ => rfl
  | q + 1, j, l => by rw [dgL_s, dgL_wl hc q (j + 1), wl_dg1 hc]
theorem dgL_ln : ∀ (q j : Nat) (l : List Int32), (dgL q j l).length = l.length
  | 0, _, _ => rfl
  | q + 1, j, l => by rw [dgL_s, dgL_ln q (j + 1), len_dg1]
theorem dg1_cg {l m : List Int32} {i k : Nat} (hi : i < 10) (hk : k < 6) (hl : l.length = 172) (hm : m.length = 172) (hg : ∀ c, c < 48 → gdL l c = gdL m c) (hw : ∀ c, c < 48 → wlL l c = wlL m c) (hf : ∀ k, k < 6 → gF l i k = gF m i k) (h2 : iN (gF m i 2) < 48) (h3 : iN (gF m i 3) < 4) : gF (dg1 l i) i k = gF (dg1 m i) i k := by
  unfold dg1
  rw [hf 5 (by decide)]
  by_cases h5 : gF m i 5 = 0
  · rw [if_pos h5, if_pos h5]
    have et := digT_cg hg hw hf h2 h3
    rcases (show k = 0 ∨ k = 1 ∨ k = 2 ∨ k = 3 ∨ k = 4 ∨ k = 5 by omega) with rfl | rfl | rfl | rfl | rfl | rfl
    · rw [gF_digo (by omega), gF_digo (by omega), hf 0 (by decide)]
    · rw [gF_digo (by omega), gF_digo (by omega), hf 1 (by decide)]
    · rw [gF_dig2 hl hi, gF_dig2 hm hi, et]
    · rw [gF_digo (by omega), gF_digo (by omega), hf 3 (by decide)]
    · rw [gF_dig4 hl hi, gF_dig4 hm hi, et]
    · rw [gF_dig5 hl hi, gF_dig5 hm hi, et]
  · rw [if_neg h5, if_neg h5]
    exact hf k hk
theorem dgL_at : ∀ (q j : Nat) (l : List Int32) (i k : Nat), j ≤ i → i < j + q → i < 10 → k < 6 → l.length = 172 → iN (gF l i 2) < 48 → iN (gF l i 3) < 4 → gF (dgL q j l) i k = gF (dg1 l i) i k
  | 0, j, l, i, k, h1, h2, _, _, _, _, _ => absurd h1 (by omega)
  | q + 1, j, l, i, k, h1, h2, hi, hk, hl, a2, a3 => by
    rw [dgL_s]
    by_cases e : i = j
    · subst e
      exact dgL_lo q (i + 1) _ i k (by omega) hk
    · have e2 : gF (dg1 l j) i 2 = gF l i 2 := gF_dg1 (by decide) e
      have e3 : gF (dg1 l j) i 3 = gF l i 3 := gF_dg1 (by decide) e
      rw [dgL_at q (j + 1) _ i k (by omega) (by omega) hi hk (len_dg1.trans hl) (by rw [e2]; exact a2) (by rw [e3]; exact a3)]
      exact dg1_cg hi hk (len_dg1.trans hl) hl (fun c hc => gd_dg1 hc) (fun c hc => wl_dg1 hc) (fun k hk => gF_dg1 hk e) a2 a3
def Mi (gr wl : Nat → Int32) (N t k y : Nat) (m : List Int32) (h : Nat) (dn e : Int32) : Prop := m.length = 172 ∧ m.getD 1 0 = nI N ∧ (∀ c, c < 48 → gdL m c = gr c ∧ wlL m c = wl c) ∧ NOo m N ∧ (gF m t 0 = nI k ∧ gF m t 2 = nI h ∧ gF m t 3 = nI y ∧ gF m t 4 = dn ∧ gF m t 5 = e) ∧ ¬ gF m t 1 = 1
theorem gF_s0 {l : List Int32} {v : Int32} {i k : Nat} : gF (l.set 0 v) i k = gF l i k := by
  unfold gF
  rw [gd_ne (by omega)]
theorem Mi.night {gr wl : Nat → Int32} {N t k y hd : Nat} {m : List Int32} {dn e : Int32} (h : Mi gr wl N t k y m hd dn e) (hN : N ≤ 10) (ht : t < N) (hh : hd < 48) (hy : y < 4) (hk : k < 6) (he : e = 0) (hm : ∀ i, i < N → iN (gF m i 2) < 48 ∧ iN (gF m i 3) < 4) : ∃ h2, h2 < 48 ∧ (dgT gr wl k hd y dn e).1 = nI h2 ∧ Mi gr wl N t k y (nigR m) h2 (dgT gr wl k hd y dn e).2.1 (dgT gr wl k hd y dn e).2.2 := by
  obtain ⟨hl, h1, hg, hno, ⟨f0, f2, f3, f4, f5⟩, hs⟩ := h
  have eN : maN m = N := maN_n h1 hN
  have at1 : ∀ i, i < N → ∀ k, k < 6 → gF (dgL N 0 m) i k = gF (dg1 m i) i k := fun i hi k hk => dgL_at N 0 m i k (by omega) (by omega) (by omega) hk hl (hm i hi).1 (hm i hi).2
  have hno2 : NOo (dgL N 0 m) N := by
    intro i hi z
    rw [at1 i hi 1 (by decide), at1 i hi 5 (by decide)] at z
    unfold dg1 at z
    by_cases h5 : gF m i 5 = 0
    · rw [if_pos h5, gF_digo (by omega)] at z
      exact hno i hi ⟨z.1, h5⟩
    · rw [if_neg h5] at z
      exact h5 z.2
  have eN2 : maN (dgL N 0 m) = N := maN_n ((dgL_1 N 0 m).trans h1) hN
  have en : nigR m = (dgL N 0 m).set 0 ((dgL N 0 m).getD 0 0 + 1) := by
    unfold nigR
    rw [eN, mtL_no (by rw [eN2]; exact hno2)]
  have et : digT m t = dgT gr wl k hd y dn e := by
    unfold digT
    rw [f0, f2, f3, f4, f5, iN_n (by omega), iN_n (by omega), iN_n (by omega)]
    exact dgT_congr hh hy (fun c hc => (hg c hc).1) (fun c hc => (hg c hc).2)
  have atT : ∀ k, k < 6 → gF (nigR m) t k = gF (digR m t) t k := by
    intro k hk
    rw [en, gF_s0, at1 t ht k hk]
    unfold dg1
    rw [if_pos (by rw [f5]; exact he)]
  obtain ⟨h2, hh2, e2⟩ := dgT_hd (gr := gr) (wl := wl) (k := k) (dn := dn) (e := e) hh hy
  refine ⟨h2, hh2, e2, ?_, ?_, fun c hc => ?_, fun i hi => ?_, ⟨?_, ?_, ?_, ?_, ?_⟩, ?_⟩
  · rw [en, List.length_set, dgL_ln]
    exact hl
  · exact nigR_1.trans h1
  · rw [en]
    unfold gdL wlL
    rw [gd_ne (by omega), gd_ne (by omega)]
    exact ⟨(dgL_gd hc N 0 m).trans (hg c hc).1, (dgL_wl hc N 0 m).trans (hg c hc).2⟩
  · rw [en, gF_s0, gF_s0]
    exact hno2 i hi
  · rw [atT 0 (by decide), gF_digo (by omega)]
    exact f0
  · rw [atT 2 (by decide), gF_dig2 hl (by omega), et]
    exact e2
  · rw [atT 3 (by decide), gF_digo (by omega)]
    exact f3
  · rw [atT 4 (by decide), gF_dig4 hl (by omega), et]
  · rw [atT 5 (by decide), gF_dig5 hl (by omega), et]
  · rw [atT 1 (by decide), gF_digo (by omega)]
    exact hs
def os1 (l : List Int32) (j : Nat) : List Int32 := if gF l j 1 = 1 then l.set (103 + 6 * j + 5) 1 else l
def osL : Nat → Nat → List Int32 → List Int32
  | 0, _, l => l
  | q + 1, j, l => osL q (j + 1) (os1 l j)
section SXO1
variable {l : List Int32} {i j k p : Nat}
theorem gF_os1 (hk : k < 6) (hij : i ≠ j) : gF (os1 l j) i k = gF l i k := by
  unfold os1
  split
  · unfold gF
    rw [gd_ne (by omega)]
  · rfl
theorem gd_os1 (hp : p < 103) : (os1 l j).getD p 0 = l.getD p 0 := by
  unfold os1
  split
  · rw [gd_ne (by omega)]
  · rfl
theorem len_os1 : (os1 l j).length = l.length := by
  unfold os1
  split
  · rw [List.length_set]
  · rfl
end SXO1
theorem os_lo : ∀ (q j : Nat) (l : List Int32) (i k : Nat), i < j → k < 6 → gF (osL q j l) i k = gF l i k
  | 0, _, _, _, _, _, _ => rfl
  | q + 1, j, l, i, k, hi, hk => by
    show gF (osL q (j + 1) (os1 l j)) i k = _
    rw [os_lo q (j + 1) _ i k (by omega) hk, gF_os1 hk (by omega)]
theorem os_gd {p : Nat} (hp : p < 103) : ∀ (q j : Nat) (l : List Int32), (osL q j l).getD p 0 = l.getD p 0
  | 0, _, _ => rfl
  | q + 1, j, l => by
    show (osL q (j + 1) (os1 l j)).getD p 0 = _
    rw [os_gd hp q (j + 1), gd_os1 hp]
theorem os_ln : ∀ (q j : Nat) (l : List Int32), (osL q j l).length = l.length
  | 0, _, _ => rfl
  | q + 1, j, l => by
    show (osL q (j + 1) (os1 l j)).length = _
    rw [os_ln q (j + 1), len_os1]
theorem os_at : ∀ (q j : Nat) (l : List Int32) (i k : Nat), j ≤ i → i < j + q → k < 6 → gF (osL q j l) i k = gF (os1 l i) i k
  | 0, j, l, i, k, h1, h2, _ => absurd h1 (by omega)
  | q + 1, j, l, i, k, h1, h2, hk => by
    show gF (osL q (j + 1) (os1 l j)) i k = _
    by_cases e : i = j
    · subst e
      exact os_lo q (i + 1) _ i k (by omega) hk
    · rw [os_at q (j + 1) _ i k (by omega) (by omega) hk]
      unfold os1
      have e1 : ∀ k, k < 6 → gF (if gF l j 1 = 1 then l.set (103 + 6 * j + 5) 1 else l) i k = gF l i k := fun k hk => gF_os1 (l := l) (j := j) hk e
      by_cases h : gF l i 1 = 1
      · rw [if_pos (show gF (if gF l j 1 = 1 then l.set (103 + 6 * j + 5) 1 else l) i 1 = 1 from (e1 1 (by decide)).trans h), if_pos h]
        by_cases k5 : k = 5
        · subst k5
          unfold gF
          by_cases hlen : 103 + 6 * i + 5 < l.length
          · rw [gd_eq hlen, gd_eq (by split <;> (first | (rw [List.length_set]; exact hlen) | exact hlen))]
          · rw [List.getD_eq_getElem?_getD, List.getElem?_eq_none (by rw [List.length_set]; split <;> (first | (rw [List.length_set]; omega) | omega)), List.getD_eq_getElem?_getD, List.getElem?_eq_none (by rw [List.length_set]; omega)]
        · have h2 : ∀ x : List Int32, gF (x.set (103 + 6 * i + 5) 1) i k = gF x i k := fun x => by
            unfold gF
            rw [gd_ne (by omega)]
          rw [h2, h2]
          exact e1 k hk
      · rw [if_neg (show ¬ gF (if gF l j 1 = 1 then l.set (103 + 6 * j + 5) 1 else l) i 1 = 1 from fun z => h ((e1 1 (by decide)).symm.trans z)), if_neg h]
        exact e1 k hk
theorem Mi.os {l : List Int32} {N t k y h : Nat} (hl : l.length = 172) (h1 : l.getD 1 0 = nI N) (hN : N ≤ 10) (ht : t < N) (f0 : gF l t 0 = nI k) (f2 : gF l t 2 = nI h) (f3 : gF l t 3 = nI y) (hs : ¬ gF l t 1 = 1) : Mi (gdL l) (wlL l) N t k y (osL N 0 l) h (gF l t 4) (gF l t 5) := by
  have atT : ∀ k, k < 6 → gF (osL N 0 l) t k = gF l t k := by
    intro k hk
    rw [os_at N 0 l t k (by omega) (by omega) hk]
    unfold os1
    rw [if_neg hs]
  refine ⟨(os_ln N 0 l).trans hl, (os_gd (by omega) N 0 l).trans h1, fun c hc => ⟨os_gd (by omega) N 0 l, os_gd (by omega) N 0 l⟩, fun i hi z => ?_, ⟨(atT 0 (by decide)).trans f0, (atT 2 (by decide)).trans f2, (atT 3 (by decide)).trans f3, atT 4 (by decide), atT 5 (by decide)⟩, by rw [atT 1 (by decide)]; exact hs⟩
  rw [os_at N 0 l i 1 (by omega) (by omega) (by decide), os_at N 0 l i 5 (by omega) (by omega) (by decide)] at z
  unfold os1 at z
  by_cases h : gF l i 1 = 1
  · rw [if_pos h] at z
    have z2 := z.2
    unfold gF at z2
    rw [gd_eq (by omega)] at z2
    exact absurd z2 (by decide)
  · rw [if_neg h] at z
    exact h z.1
def nmV (l : List Int32) (g t : Nat) : Int32 := nmF (comD l g) (gdL l) (wlL l) (iN (gF l t 0)) (iN (gF l t 3)) 61 0 (iN (gF l t 2)) (gF l t 4) (gF l t 5)
theorem nmV_r (l : List Int32) (g t : Nat) : nmV l g t = -1 ∨ ∃ x, x ≤ 60 ∧ nmV l g t = nI x := nmRng 61 0 _ _ _ rfl
section SXMA
variable {l : List Int32} {a1 a2 : Int32} {n x t : Nat}
end SXMA
def whV (l : List Int32) (t i : Nat) : Int32 := if gF l i 1 = 1 ∧ gF l i 5 = 0 then nmV l i t else -1
def whF (f : Nat → Int32) : Nat → Nat → Int32 → Int32 → Int32
  | 0, _, _, b => b
  | q + 1, j, s, b => if ¬ f j = -1 ∧ f j < s then whF f q (j + 1) (f j) (nI j) else whF f q (j + 1) s b
section SXWF
variable {f : Nat → Int32} {q j : Nat} {s b : Int32}
theorem wh_y (h1 : ¬ f j = -1) (h2 : f j < s) : whF f (q + 1) j s b = whF f q (j + 1) (f j) (nI j) := if_pos ⟨h1, h2⟩
theorem wh_1 (h1 : f j = -1) : whF f (q + 1) j s b = whF f q (j + 1) s b := if_neg (fun z => z.1 h1)
theorem wh_2 (h2 : ¬ f j < s) : whF f (q + 1) j s b = whF f q (j + 1) s b := if_neg (fun z => h2 z.2)
end SXWF
def whoA (l : List Int32) (a1 : Int32) : Int32 := if 0 ≤ a1 ∧ a1 < l.getD 1 0 then (if (gF l (iN a1) 1 = 0 ∧ gF l (iN a1) 5 = 0) ∧ l.getD 0 0 + 60 ≤ 999 then mnA (whF (whV l (iN a1)) (iN (l.getD 1 0)) 0 61 (-1)) else -1000000005) else -1000000001
section SXWO
variable {l : List Int32} {a1 : Int32} {n x : Nat}
theorem whoA_1 (en : l.getD 1 0 = nI n) (h : ¬ (0 ≤ a1 ∧ a1 < nI n)) : whoA l a1 = -1000000001 := by
  unfold whoA
  rw [en, if_neg h]
theorem whoA_2 (en : l.getD 1 0 = nI n) (hx : x < 2 ^ 31) (h1 : 0 ≤ nI x ∧ nI x < nI n) (h : ¬ ((gF l x 1 = 0 ∧ gF l x 5 = 0) ∧ l.getD 0 0 + 60 ≤ 999)) : whoA l (nI x) = -1000000005 := by
  unfold whoA
  rw [en, if_pos h1, iN_n hx, if_neg h]
theorem whoA_y (en : l.getD 1 0 = nI n) (hn : n ≤ 10) (hx : x < 2 ^ 31) (h1 : 0 ≤ nI x ∧ nI x < nI n) (h : (gF l x 1 = 0 ∧ gF l x 5 = 0) ∧ l.getD 0 0 + 60 ≤ 999) : whoA l (nI x) = mnA (whF (whV l x) n 0 61 (-1)) := by
  unfold whoA
  rw [en, if_pos h1, iN_n hx, if_pos h, iN_n (by omega)]
end SXWO
end
