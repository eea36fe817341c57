-- 89y31.state.lean.txt
section
theorem sx_between {a : Int32} (h : 0 ≤ a ∧ a ≤ 3) : ∃ s, s < 4 ∧ a = nI s := by
  rw [Int32.le_iff_toInt_le, Int32.le_iff_toInt_le] at h
  have h1 : (0 : Int32).toInt = 0 := by decide
  have h2 : (3 : Int32).toInt = 3 := by decide
  refine ⟨a.toInt.toNat, by omega, ?_⟩
  rw [← Int32.toInt_inj, nI_toInt (by omega)]
  omega
abbrev ST := List Int32 × Int32 × List Int32 × List Int32 × (Nat → Int32 × Int32) × (Nat → Nat → Int64)
def CLS (w : List sx_C) (s : ST) : Prop := (rel w 1 s.1 ∧ fi w 0 3 = s.2.1 ∧ (s.2.1 = 1 → rel w 15 s.2.2.1)) ∧ (tapC w = s.2.2.2.1 ∧ FCs w = s.2.2.2.2.1 ∧ NCs w = s.2.2.2.2.2) ∧ SK w
def REF (w : List sx_C) (s : ST) : Prop := (ia w 112 = s.1 ∧ fi w 111 4 = s.2.1 ∧ (s.2.1 = 1 → ia w 113 = s.2.2.1)) ∧ (tapM w = s.2.2.2.1 ∧ FMs w = s.2.2.2.2.1 ∧ NMs w = s.2.2.2.2.2)
theorem tapC_eq {w w2 : List sx_C} (h1 : w2[96]? = w[96]?) (h2 : w2[97]? = w[97]?) : tapC w2 = tapC w := by
  unfold tapC
  rw [fi_same 1 h1, ia_of h2]
theorem tapM_eq {w w2 : List sx_C} (h1 : fi w2 111 11 = fi w 111 11) (h2 : w2[121]? = w[121]?) : tapM w2 = tapM w := by
  unfold tapM
  rw [h1, ia_of h2]
theorem isA15 : isA 15 := Or.inr (Or.inl rfl)
theorem isA1 : isA 1 := Or.inl rfl
section SXST
variable {w w2 : List sx_C} {s : ST}
theorem CLS.fr (h : CLS w s) (hI : WI w) (hE : ∀ a, (a < 29 ∨ a = 96 ∨ a = 97 ∨ (103 ≤ a ∧ a < 111)) → w2[a]? = w[a]?) (hK : SK w → SK w2) : CLS w2 s :=
  ⟨⟨h.1.1.same hI isA1 (fun a _ _ => hE a (by omega)), (fi_same 3 (hE 0 (by omega))).trans h.1.2.1, fun k => (h.1.2.2 k).same hI isA15 (fun a _ _ => hE a (by omega))⟩, ⟨(tapC_eq (hE 96 (by omega)) (hE 97 (by omega))).trans h.2.1.1, (FCs_eq (fun q hq => hE _ (by omega))).trans h.2.1.2.1, (NCs_eq (fun q hq => hE _ (by omega))).trans h.2.1.2.2⟩, hK h.2.2⟩
theorem CLS.lo (h : CLS w s) (hI : WI w) (hE : ∀ a, a < 111 → w2[a]? = w[a]?) : CLS w2 s := h.fr hI (fun a ha => hE a (by omega)) (fun z => z.same (fun a _ _ => hE a (by omega)))
theorem CLS.es (h : CLS w s) (hI : WI w) (hE : ES w w2) : CLS w2 s := h.fr hI (fun a ha => hE.1 a (by unfold qc; omega)) hE.2
theorem CLS.row {l2 : List Int32} (h : CLS w s) (hI : WI w) (hr : rel w2 1 l2) (hE : EO w w2) : CLS w2 (l2, s.2) :=
  ⟨⟨hr, (fi_same 3 (hE 0 (by unfold oc; omega))).trans h.1.2.1, fun k => (h.1.2.2 k).same hI isA15 (fun a _ _ => hE a (by unfold oc; omega))⟩, ⟨(tapC_eq (hE 96 (by unfold oc; omega)) (hE 97 (by unfold oc; omega))).trans h.2.1.1, (FCs_eq (fun q hq => hE _ (by unfold oc; omega))).trans h.2.1.2.1, (NCs_eq (fun q hq => hE _ (by unfold oc; omega))).trans h.2.1.2.2⟩, h.2.2.same (fun a _ _ => hE a (by unfold oc; omega))⟩
theorem CLS.sh {F2 : Nat → Int32 × Int32} {N2 : Nat → Nat → Int64} (h : CLS w s) (hI : WI w) (hF : FCs w2 = F2) (hN : NCs w2 = N2) (hK : SK w2) (hE : ∀ a, (a < 29 ∨ a = 96 ∨ a = 97) → w2[a]? = w[a]?) : CLS w2 (s.1, s.2.1, s.2.2.1, s.2.2.2.1, F2, N2) :=
  ⟨⟨h.1.1.same hI isA1 (fun a _ _ => hE a (by omega)), (fi_same 3 (hE 0 (by omega))).trans h.1.2.1, fun k => (h.1.2.2 k).same hI isA15 (fun a _ _ => hE a (by omega))⟩, ⟨(tapC_eq (hE 96 (by omega)) (hE 97 (by omega))).trans h.2.1.1, hF, hN⟩, hK⟩
theorem CLS.tp {l2 t2 : List Int32} (h : CLS w s) (hI : WI w) (hr : rel w2 1 l2) (ht : tapC w2 = t2) (hE : ∀ a, (a = 0 ∨ (15 ≤ a ∧ a < 29) ∨ (44 ≤ a ∧ a < 96) ∨ (103 ≤ a ∧ a < 111)) → w2[a]? = w[a]?) : CLS w2 (l2, s.2.1, s.2.2.1, t2, s.2.2.2.2) :=
  ⟨⟨hr, (fi_same 3 (hE 0 (by omega))).trans h.1.2.1, fun k => (h.1.2.2 k).same hI isA15 (fun a _ _ => hE a (by omega))⟩, ⟨ht, (FCs_eq (fun q hq => hE _ (by omega))).trans h.2.1.2.1, (NCs_eq (fun q hq => hE _ (by omega))).trans h.2.1.2.2⟩, h.2.2.same (fun a _ _ => hE a (by omega))⟩
theorem REF.fr (h : REF w s) (hi : ia w2 112 = ia w 112) (hE : ∀ a, (a = 111 ∨ a = 113 ∨ 121 ≤ a) → w2[a]? = w[a]?) : REF w2 s :=
  ⟨⟨hi.trans h.1.1, (fi_same 4 (hE 111 (by omega))).trans h.1.2.1, fun k => (ia_of (hE 113 (by omega))).trans (h.1.2.2 k)⟩, ⟨(tapM_eq (fi_same 11 (hE 111 (by omega))) (hE 121 (by omega))).trans h.2.1, (FMs_eq (hE 122 (by omega)) (hE 123 (by omega))).trans h.2.2.1, (NMs_eq (hE 124 (by omega))).trans h.2.2.2⟩⟩
theorem REF.hi (h : REF w s) (hE : ∀ a, 111 ≤ a → w2[a]? = w[a]?) : REF w2 s := h.fr (ia_of (hE 112 (by omega))) (fun a ha => hE a (by omega))
theorem REF.ez (h : REF w s) (hE : EZ w w2) : REF w2 s := h.fr (ia_of (hE 112 (by unfold zc; omega))) (fun a ha => hE a (by unfold zc; omega))
theorem REF.ezl (h : REF w s) (hE : EZL w w2) : REF w2 s := h.fr hE.2 (fun a ha => hE.1 a (by unfold yc; omega) (by omega))
theorem REF.row {l2 : List Int32} (h : REF w s) (hr : ia w2 112 = l2) (hE : EOm w w2) : REF w2 (l2, s.2) :=
  ⟨⟨hr, (fi_same 4 (hE 111 (by unfold ocm; omega))).trans h.1.2.1, fun k => (ia_of (hE 113 (by unfold ocm; omega))).trans (h.1.2.2 k)⟩, ⟨(tapM_eq (fi_same 11 (hE 111 (by unfold ocm; omega))) (hE 121 (by unfold ocm; omega))).trans h.2.1, (FMs_eq (hE 122 (by unfold ocm; omega)) (hE 123 (by unfold ocm; omega))).trans h.2.2.1, (NMs_eq (hE 124 (by unfold ocm; omega))).trans h.2.2.2⟩⟩
theorem REF.sh {F2 : Nat → Int32 × Int32} {N2 : Nat → Nat → Int64} (h : REF w s) (hF : FMs w2 = F2) (hN : NMs w2 = N2) (hE : ∀ a, (a = 111 ∨ a = 112 ∨ a = 113 ∨ a = 121) → w2[a]? = w[a]?) : REF w2 (s.1, s.2.1, s.2.2.1, s.2.2.2.1, F2, N2) :=
  ⟨⟨(ia_of (hE 112 (by omega))).trans h.1.1, (fi_same 4 (hE 111 (by omega))).trans h.1.2.1, fun k => (ia_of (hE 113 (by omega))).trans (h.1.2.2 k)⟩, ⟨(tapM_eq (fi_same 11 (hE 111 (by omega))) (hE 121 (by omega))).trans h.2.1, hF, hN⟩⟩
theorem REF.tp {l2 t2 : List Int32} (h : REF w s) (hr : ia w2 112 = l2) (ht : tapM w2 = t2) (h4 : fi w2 111 4 = fi w 111 4) (hE : ∀ a, (a = 113 ∨ 122 ≤ a) → w2[a]? = w[a]?) : REF w2 (l2, s.2.1, s.2.2.1, t2, s.2.2.2.2) :=
  ⟨⟨hr, h4.trans h.1.2.1, fun k => (ia_of (hE 113 (by omega))).trans (h.1.2.2 k)⟩, ⟨ht, (FMs_eq (hE 122 (by omega)) (hE 123 (by omega))).trans h.2.2.1, (NMs_eq (hE 124 (by omega))).trans h.2.2.2⟩⟩
end SXST
def TT (t : List Int32) : Prop := ∀ i, i < t.length → ∃ j, j < 256 ∧ t.getD i 0 = nI j
theorem TT_of {w : List sx_C} (hI : WI w) (hY : TBy w) : TT (tapC w) := by
  intro i hi
  obtain ⟨n, hn, en⟩ := hI.t.1
  have hl : (tapC w).length = n := tapC_len en hn
  rw [hl] at hi
  obtain ⟨j, hj, ej⟩ := hY i
  refine ⟨j, hj, ?_⟩
  unfold tapC
  rw [map_at (by rw [en, iN_n (by omega)]; exact hi), ej]
  exact sgn_and ⟨j, hj⟩
def feT (t : List Int32) (a1 a2 : Int32) : List Int32 := if 1 ≤ a2 ∧ a2 ≤ 4 then (if t.length + iN a2 ≤ 120 then t ++ bytesOf a1 (iN a2) else t) else t
theorem fe_T (t : BT) (a1 a2 : Int32) : (feeU t a1 a2).2.2.2 = feT t.2.2.2 a1 a2 := by
  unfold feeU feT
  split
  · split <;> rfl
  · rfl
theorem c6 {xs : Option (List Int32)} {d : Nat} {w : List sx_C} {s : ST} (hI : WI w) (hC : CLS w s) (a1 a2 : Int32) : sx_RP xs (d + 7) 6 0 (lv_args 0 [.ref 0, .int a1, .int a2]) [] w (fun r w2 => r = some (.int (gndA s.1 a1 a2)) ∧ WI w2 ∧ CLS w2 (gndR s.1 a1 a2, s.2) ∧ ∀ a, 111 ≤ a → w2[a]? = w[a]?) := by
  exact (Z6 hI s.1 hC.1.1 a1 a2).mono9 (fun r w2 z => ⟨z.1.1, z.2.1, hC.row hI z.1.2 z.2.2, fun a ha => z.2.2 a (by unfold oc; omega)⟩)
theorem r130 {xs : Option (List Int32)} {d : Nat} {w : List sx_C} {s : ST} (hI : WI w) (hR : REF w s) (a1 a2 : Int32) : sx_RP xs (d + 7) 130 0 (lv_args 0 [.ref 111, .int a1, .int a2]) [] w (fun r w2 => r = some (.int (gndA s.1 a1 a2)) ∧ WI w2 ∧ REF w2 (gndR s.1 a1 a2, s.2) ∧ ∀ a, a < 111 → w2[a]? = w[a]?) := by
  refine (Y130 hI a1 a2).mono9 (fun r w2 z => ⟨?_, z.2.1, hR.row ?_ z.2.2, fun a ha => z.2.2 a (by unfold ocm; omega)⟩)
  · rw [z.1.1, hR.1.1]
  · rw [z.1.2, hR.1.1]
theorem c28 {xs : Option (List Int32)} {d : Nat} {w : List sx_C} {s : ST} (hI : WI w) (hC : CLS w s) (a1 a2 : Int32) : sx_RP xs (d + 7) 28 0 (lv_args 0 [.ref 0, .int a1, .int a2]) [] w (fun r w2 => r = some (.int (turA s.1 a1 a2)) ∧ WI w2 ∧ CLS w2 (turR s.1 a1 a2, s.2) ∧ ∀ a, 111 ≤ a → w2[a]? = w[a]?) := by
  exact (Z28 hI s.1 hC.1.1 a1 a2).mono9 (fun r w2 z => ⟨z.1.1, z.2.1, hC.row hI z.1.2 z.2.2, fun a ha => z.2.2 a (by unfold oc; omega)⟩)
theorem r157 {xs : Option (List Int32)} {d : Nat} {w : List sx_C} {s : ST} (hI : WI w) (hR : REF w s) (a1 a2 : Int32) : sx_RP xs (d + 7) 157 0 (lv_args 0 [.ref 111, .int a1, .int a2]) [] w (fun r w2 => r = some (.int (turA s.1 a1 a2)) ∧ WI w2 ∧ REF w2 (turR s.1 a1 a2, s.2) ∧ ∀ a, a < 111 → w2[a]? = w[a]?) := by
  refine (Y157 hI a1 a2).mono9 (fun r w2 z => ⟨?_, z.2.1, hR.row ?_ z.2.2, fun a ha => z.2.2 a (by unfold ocm; omega)⟩)
  · rw [z.1.1, hR.1.1]
  · rw [z.1.2, hR.1.1]
theorem c29 {xs : Option (List Int32)} {d : Nat} {w : List sx_C} {s : ST} (hI : WI w) (hC : CLS w s) (a1 a2 : Int32) : sx_RP xs (d + 7) 29 0 (lv_args 0 [.ref 0, .int a1, .int a2]) [] w (fun r w2 => r = some (.int (bec2A s.1 a1 a2)) ∧ WI w2 ∧ CLS w2 (bec2R s.1 a1 a2, s.2) ∧ ∀ a, 111 ≤ a → w2[a]? = w[a]?) := by
  exact (Z29 hI s.1 hC.1.1 a1 a2).mono9 (fun r w2 z => ⟨z.1.1, z.2.1, hC.row hI z.1.2 z.2.2, fun a ha => z.2.2 a (by unfold oc; omega)⟩)
theorem r158 {xs : Option (List Int32)} {d : Nat} {w : List sx_C} {s : ST} (hI : WI w) (hR : REF w s) (a1 a2 : Int32) : sx_RP xs (d + 7) 158 0 (lv_args 0 [.ref 111, .int a1, .int a2]) [] w (fun r w2 => r = some (.int (bec2A s.1 a1 a2)) ∧ WI w2 ∧ REF w2 (bec2R s.1 a1 a2, s.2) ∧ ∀ a, a < 111 → w2[a]? = w[a]?) := by
  refine (Y158 hI a1 a2).mono9 (fun r w2 z => ⟨?_, z.2.1, hR.row ?_ z.2.2, fun a ha => z.2.2 a (by unfold ocm; omega)⟩)
  · rw [z.1.1, hR.1.1]
  · rw [z.1.2, hR.1.1]
theorem c21 {xs : Option (List Int32)} {d : Nat} {w : List sx_C} {s : ST} (hI : WI w) (hC : CLS w s) (a1 a2 a3 a4 : Int32) : sx_RP xs (d + 7) 21 0 (lv_args 0 [.ref 0, .int a1, .int a2, .int a3, .int a4]) [] w (fun r w2 => r = some (.int (gal2A s.1 a1 a2 a3 a4)) ∧ WI w2 ∧ CLS w2 (gal2R s.1 a1 a2 a3 a4, s.2) ∧ ∀ a, 111 ≤ a → w2[a]? = w[a]?) := by
  exact (Z21 hI s.1 hC.1.1 a1 a2 a3 a4).mono9 (fun r w2 z => ⟨z.1.1, z.2.1, hC.row hI z.1.2 z.2.2, fun a ha => z.2.2 a (by unfold oc; omega)⟩)
theorem r150 {xs : Option (List Int32)} {d : Nat} {w : List sx_C} {s : ST} (hI : WI w) (hR : REF w s) (a1 a2 a3 a4 : Int32) : sx_RP xs (d + 7) 150 0 (lv_args 0 [.ref 111, .int a1, .int a2, .int a3, .int a4]) [] w (fun r w2 => r = some (.int (gal2A s.1 a1 a2 a3 a4)) ∧ WI w2 ∧ REF w2 (gal2R s.1 a1 a2 a3 a4, s.2) ∧ ∀ a, a < 111 → w2[a]? = w[a]?) := by
  refine (Y150 hI a1 a2 a3 a4).mono9 (fun r w2 z => ⟨?_, z.2.1, hR.row ?_ z.2.2, fun a ha => z.2.2 a (by unfold ocm; omega)⟩)
  · rw [z.1.1, hR.1.1]
  · rw [z.1.2, hR.1.1]
theorem c62 {xs : Option (List Int32)} {d : Nat} {w : List sx_C} {s : ST} (hI : WI w) (hC : CLS w s) (a1 : Int32) : sx_RP xs (d + 7) 62 0 (lv_args 0 [.ref 0, .int a1]) [] w (fun r w2 => r = some (.int (dis2A s.1 a1)) ∧ WI w2 ∧ CLS w2 (dis2R s.1 a1, s.2) ∧ ∀ a, 111 ≤ a → w2[a]? = w[a]?) := by
  exact (Z62 hI s.1 hC.1.1 a1).mono9 (fun r w2 z => ⟨z.1.1, z.2.1, hC.row hI z.1.2 z.2.2, fun a ha => z.2.2 a (by unfold oc; omega)⟩)
theorem r184 {xs : Option (List Int32)} {d : Nat} {w : List sx_C} {s : ST} (hI : WI w) (hR : REF w s) (a1 : Int32) : sx_RP xs (d + 7) 184 0 (lv_args 0 [.ref 111, .int a1]) [] w (fun r w2 => r = some (.int (dis2A s.1 a1)) ∧ WI w2 ∧ REF w2 (dis2R s.1 a1, s.2) ∧ ∀ a, a < 111 → w2[a]? = w[a]?) := by
  refine (Y184 hI a1).mono9 (fun r w2 z => ⟨?_, z.2.1, hR.row ?_ z.2.2, fun a ha => z.2.2 a (by unfold ocm; omega)⟩)
  · rw [z.1.1, hR.1.1]
  · rw [z.1.2, hR.1.1]
theorem c65 {xs : Option (List Int32)} {d : Nat} {w : List sx_C} {s : ST} (hI : WI w) (hC : CLS w s) (a1 a2 : Int32) : sx_RP xs (d + 7) 65 0 (lv_args 0 [.ref 0, .int a1, .int a2]) [] w (fun r w2 => r = some (.int (mov2A s.1 a1 a2)) ∧ WI w2 ∧ CLS w2 (mov2R s.1 a1 a2, s.2) ∧ ∀ a, 111 ≤ a → w2[a]? = w[a]?) := by
  exact (Z65 hI s.1 hC.1.1 a1 a2).mono9 (fun r w2 z => ⟨z.1.1, z.2.1, hC.row hI z.1.2 z.2.2, fun a ha => z.2.2 a (by unfold oc; omega)⟩)
theorem r185 {xs : Option (List Int32)} {d : Nat} {w : List sx_C} {s : ST} (hI : WI w) (hR : REF w s) (a1 a2 : Int32) : sx_RP xs (d + 7) 185 0 (lv_args 0 [.ref 111, .int a1, .int a2]) [] w (fun r w2 => r = some (.int (mov2A s.1 a1 a2)) ∧ WI w2 ∧ REF w2 (mov2R s.1 a1 a2, s.2) ∧ ∀ a, a < 111 → w2[a]? = w[a]?) := by
  refine (Y185 hI a1 a2).mono9 (fun r w2 z => ⟨?_, z.2.1, hR.row ?_ z.2.2, fun a ha => z.2.2 a (by unfold ocm; omega)⟩)
  · rw [z.1.1, hR.1.1]
  · rw [z.1.2, hR.1.1]
theorem c82 {xs : Option (List Int32)} {d : Nat} {w : List sx_C} {s : ST} (hI : WI w) (hC : CLS w s) (a1 a2 : Int32) : sx_RP xs (d + 7) 82 0 (lv_args 0 [.ref 0, .int a1, .int a2]) [] w (fun r w2 => r = some (.int (bre2A s.1 a1 a2)) ∧ WI w2 ∧ CLS w2 (bre2R s.1 a1 a2, s.2) ∧ ∀ a, 111 ≤ a → w2[a]? = w[a]?) := by
  exact (Z82 hI s.1 hC.1.1 a1 a2).mono9 (fun r w2 z => ⟨z.1.1, z.2.1, hC.row hI z.1.2 z.2.2, fun a ha => z.2.2 a (by unfold oc; omega)⟩)
theorem r203 {xs : Option (List Int32)} {d : Nat} {w : List sx_C} {s : ST} (hI : WI w) (hR : REF w s) (a1 a2 : Int32) : sx_RP xs (d + 7) 203 0 (lv_args 0 [.ref 111, .int a1, .int a2]) [] w (fun r w2 => r = some (.int (bre2A s.1 a1 a2)) ∧ WI w2 ∧ REF w2 (bre2R s.1 a1 a2, s.2) ∧ ∀ a, a < 111 → w2[a]? = w[a]?) := by
  refine (Y203 hI a1 a2).mono9 (fun r w2 z => ⟨?_, z.2.1, hR.row ?_ z.2.2, fun a ha => z.2.2 a (by unfold ocm; omega)⟩)
  · rw [z.1.1, hR.1.1]
  · rw [z.1.2, hR.1.1]
theorem c39 {xs : Option (List Int32)} {d : Nat} {w : List sx_C} {s : ST} (hI : WI w) (hC : CLS w s) (a1 : Int32) : sx_RP xs (d + 7) 39 0 (lv_args 0 [.ref 0, .int a1]) [] w (fun r w2 => r = some (.int (ntsA s.1 a1)) ∧ WI w2 ∧ CLS w2 (ntsR s.1 a1, s.2) ∧ ∀ a, 111 ≤ a → w2[a]? = w[a]?) := by
  exact (Z39 hI s.1 hC.1.1 a1).mono9 (fun r w2 z => ⟨z.1.1, z.2.1, hC.row hI z.1.2 z.2.2, fun a ha => z.2.2 a (by unfold oc; omega)⟩)
theorem r164 {xs : Option (List Int32)} {d : Nat} {w : List sx_C} {s : ST} (hI : WI w) (hR : REF w s) (hW : WB s.1) (a1 : Int32) : sx_RP xs (d + 7) 164 0 (lv_args 0 [.ref 111, .int a1]) [] w (fun r w2 => r = some (.int (ntsA s.1 a1)) ∧ WI w2 ∧ REF w2 (ntsR s.1 a1, s.2) ∧ ∀ a, a < 111 → w2[a]? = w[a]?) := by
  refine (Y164 hI (by rw [hR.1.1]; exact hW) a1).mono9 (fun r w2 z => ⟨?_, z.2.1, hR.row ?_ z.2.2, fun a ha => z.2.2 a (by unfold ocm; omega)⟩)
  · rw [z.1.1, hR.1.1]
  · rw [z.1.2, hR.1.1]
theorem c79 {xs : Option (List Int32)} {d : Nat} {w : List sx_C} {s : ST} (hI : WI w) (hC : CLS w s) (a1 a2 : Int32) : sx_RP xs (d + 7) 79 0 (lv_args 0 [.ref 0, .int a1, .int a2]) [] w (fun r w2 => r = some (.int (blwA s.1 a1 a2)) ∧ WI w2 ∧ CLS w2 (blwR s.1 a1 a2, s.2) ∧ ∀ a, 111 ≤ a → w2[a]? = w[a]?) := by
  exact (Z79 hI s.1 hC.1.1 a1 a2).mono9 (fun r w2 z => ⟨z.1.1, z.2.1, hC.row hI z.1.2 z.2.2, fun a ha => z.2.2 a (by unfold oc; omega)⟩)
theorem r201 {xs : Option (List Int32)} {d : Nat} {w : List sx_C} {s : ST} (hI : WI w) (hR : REF w s) (a1 a2 : Int32) : sx_RP xs (d + 7) 201 0 (lv_args 0 [.ref 111, .int a1, .int a2]) [] w (fun r w2 => r = some (.int (blwA s.1 a1 a2)) ∧ WI w2 ∧ REF w2 (blwR s.1 a1 a2, s.2) ∧ ∀ a, a < 111 → w2[a]? = w[a]?) := by
  refine (Y201 hI a1 a2).mono9 (fun r w2 z => ⟨?_, z.2.1, hR.row ?_ z.2.2, fun a ha => z.2.2 a (by unfold ocm; omega)⟩)
  · rw [z.1.1, hR.1.1]
  · rw [z.1.2, hR.1.1]
theorem c10_0 {xs : Option (List Int32)} {d : Nat} {w : List sx_C} {s : ST} (hI : WI w) (hC : CLS w s) (a1 : Int32) : sx_RP xs (d + 7) 10 0 (lv_args 0 [.ref 0, .int a1, .int 0]) [] w (fun r w2 => r = some (.int (walA s.1 a1 0)) ∧ WI w2 ∧ CLS w2 (walR s.1 a1 0, s.2) ∧ ∀ a, 111 ≤ a → w2[a]? = w[a]?) := by
  exact (Z10_0 hI s.1 hC.1.1 a1).mono9 (fun r w2 z => ⟨z.1.1, z.2.1, hC.row hI z.1.2 z.2.2, fun a ha => z.2.2 a (by unfold oc; omega)⟩)
theorem r134_0 {xs : Option (List Int32)} {d : Nat} {w : List sx_C} {s : ST} (hI : WI w) (hR : REF w s) (a1 : Int32) : sx_RP xs (d + 7) 134 0 (lv_args 0 [.ref 111, .int a1, .int 0]) [] w (fun r w2 => r = some (.int (walA s.1 a1 0)) ∧ WI w2 ∧ REF w2 (walR s.1 a1 0, s.2) ∧ ∀ a, a < 111 → w2[a]? = w[a]?) := by
  refine (Y134_0 hI a1).mono9 (fun r w2 z => ⟨?_, z.2.1, hR.row ?_ z.2.2, fun a ha => z.2.2 a (by unfold ocm; omega)⟩)
  · rw [z.1.1, hR.1.1]
  · rw [z.1.2, hR.1.1]
theorem c10_1 {xs : Option (List Int32)} {d : Nat} {w : List sx_C} {s : ST} (hI : WI w) (hC : CLS w s) (a1 : Int32) : sx_RP xs (d + 7) 10 0 (lv_args 0 [.ref 0, .int a1, .int 1]) [] w (fun r w2 => r = some (.int (walA s.1 a1 1)) ∧ WI w2 ∧ CLS w2 (walR s.1 a1 1, s.2) ∧ ∀ a, 111 ≤ a → w2[a]? = w[a]?) := by
  exact (Z10_1 hI s.1 hC.1.1 a1).mono9 (fun r w2 z => ⟨z.1.1, z.2.1, hC.row hI z.1.2 z.2.2, fun a ha => z.2.2 a (by unfold oc; omega)⟩)
theorem r134_1 {xs : Option (List Int32)} {d : Nat} {w : List sx_C} {s : ST} (hI : WI w) (hR : REF w s) (a1 : Int32) : sx_RP xs (d + 7) 134 0 (lv_args 0 [.ref 111, .int a1, .int 1]) [] w (fun r w2 => r = some (.int (walA s.1 a1 1)) ∧ WI w2 ∧ REF w2 (walR s.1 a1 1, s.2) ∧ ∀ a, a < 111 → w2[a]? = w[a]?) := by
  refine (Y134_1 hI a1).mono9 (fun r w2 z => ⟨?_, z.2.1, hR.row ?_ z.2.2, fun a ha => z.2.2 a (by unfold ocm; omega)⟩)
  · rw [z.1.1, hR.1.1]
  · rw [z.1.2, hR.1.1]
theorem c120 {xs : Option (List Int32)} {d : Nat} {w : List sx_C} {s : ST} (hI : WI w) (hC : CLS w s) (a1 a2 : Int32) : sx_RP xs (d + 7) 120 0 (lv_args 0 [.ref 0, .int a1, .int a2]) [] w (fun r w2 => r = some (.int (lysA s.2.2.2.2.1 s.2.2.2.2.2 s.1 a1 a2)) ∧ WI w2 ∧ CLS w2 (lysR s.2.2.2.2.1 s.2.2.2.2.2 s.1 a1 a2, s.2) ∧ ∀ a, 111 ≤ a → w2[a]? = w[a]?) := by
  have z0 := Z120 (xs := xs) (d := d) hI s.1 hC.1.1 a1 a2
  rw [hC.2.1.2.1, hC.2.1.2.2] at z0
  exact z0.mono9 (fun r w2 z => ⟨z.1.1, z.2.1, hC.row hI z.1.2 z.2.2, fun a ha => z.2.2 a (by unfold oc; omega)⟩)
theorem r235 {xs : Option (List Int32)} {d : Nat} {w : List sx_C} {s : ST} (hI : WI w) (hR : REF w s) (a1 a2 : Int32) : sx_RP xs (d + 7) 235 0 (lv_args 0 [.ref 111, .int a1, .int a2]) [] w (fun r w2 => r = some (.int (lysA s.2.2.2.2.1 s.2.2.2.2.2 s.1 a1 a2)) ∧ WI w2 ∧ REF w2 (lysR s.2.2.2.2.1 s.2.2.2.2.2 s.1 a1 a2, s.2) ∧ ∀ a, a < 111 → w2[a]? = w[a]?) := by
  have z0 := Y235 (xs := xs) (d := d) hI a1 a2
  rw [hR.2.2.1, hR.2.2.2, hR.1.1] at z0
  exact z0.mono9 (fun r w2 z => ⟨z.1.1, z.2.1, hR.row z.1.2 z.2.2, fun a ha => z.2.2 a (by unfold ocm; omega)⟩)
theorem c115 {xs : Option (List Int32)} {d : Nat} {w : List sx_C} {s : ST} (hI : WI w) (hC : CLS w s) (a1 a2 : Int32) (v : Int64) : sx_RP xs (d + 7) 115 0 (lv_args 0 [.ref 0, .int a1, .int a2, .long v]) [] w (fun r w2 => r = some (.long (wrA s.2.2.2.2.1 s.2.2.2.2.2 a1 a2)) ∧ WI w2 ∧ CLS w2 (s.1, s.2.1, s.2.2.1, s.2.2.2.1, s.2.2.2.2.1, wrR s.2.2.2.2.1 s.2.2.2.2.2 a1 a2 v) ∧ ∀ a, 111 ≤ a → w2[a]? = w[a]?) := by
  have z0 := Z115 (xs := xs) (d := d) hI a1 a2 v
  rw [hC.2.1.2.1, hC.2.1.2.2] at z0
  exact z0.mono9 (fun r w2 z => ⟨z.1.1, z.2.1, hC.sh hI z.1.2.2 z.1.2.1 (hC.2.2.same (fun a _ _ => z.2.2 a (by omega) (by omega))) (fun a ha => z.2.2 a (by omega) (by omega)), fun a ha => z.2.2 a (by omega) (by omega)⟩)
theorem r232 {xs : Option (List Int32)} {d : Nat} {w : List sx_C} {s : ST} (hI : WI w) (hR : REF w s) (a1 a2 : Int32) (v : Int64) : sx_RP xs (d + 7) 232 0 (lv_args 0 [.ref 111, .int a1, .int a2, .long v]) [] w (fun r w2 => r = some (.long (wrA s.2.2.2.2.1 s.2.2.2.2.2 a1 a2)) ∧ WI w2 ∧ REF w2 (s.1, s.2.1, s.2.2.1, s.2.2.2.1, s.2.2.2.2.1, wrR s.2.2.2.2.1 s.2.2.2.2.2 a1 a2 v) ∧ ∀ a, a < 111 → w2[a]? = w[a]?) := by
  have z0 := Y232 (xs := xs) (d := d) hI a1 a2 v
  rw [hR.2.2.1, hR.2.2.2] at z0
  exact z0.mono9 (fun r w2 z => ⟨z.1.1, z.2.1, hR.sh z.1.2.2 z.1.2.1 (fun a ha => z.2.2 a (by omega) (by omega)), fun a ha => z.2.2 a (by omega) (by omega)⟩)
theorem c118 {xs : Option (List Int32)} {d : Nat} {w : List sx_C} {s : ST} (hI : WI w) (hC : CLS w s) (a1 a2 a3 a4 a5 : Int32) : sx_RP xs (d + 7) 118 0 (lv_args 0 [.ref 0, .int a1, .int a2, .int a3, .int a4, .int a5]) [] w (fun r w2 => r = some (.int (cpAns s.2.2.2.2.1 a1 a2 a3 a4 a5)) ∧ WI w2 ∧ CLS w2 (s.1, s.2.1, s.2.2.1, s.2.2.2.1, s.2.2.2.2.1, cpR s.2.2.2.2.1 s.2.2.2.2.2 a1 a2 a3 a4 a5) ∧ ∀ a, 111 ≤ a → w2[a]? = w[a]?) := by
  have z0 := Z118 (xs := xs) (d := d) hI a1 a2 a3 a4 a5
  rw [hC.2.1.2.1, hC.2.1.2.2] at z0
  exact z0.mono9 (fun r w2 z => ⟨z.1.1, z.2.1, hC.sh hI z.1.2.2 z.1.2.1 (hC.2.2.same (fun a _ _ => z.2.2 a (by omega) (by omega))) (fun a ha => z.2.2 a (by omega) (by omega)), fun a ha => z.2.2 a (by omega) (by omega)⟩)
theorem r234 {xs : Option (List Int32)} {d : Nat} {w : List sx_C} {s : ST} (hI : WI w) (hR : REF w s) (a1 a2 a3 a4 a5 : Int32) : sx_RP xs (d + 7) 234 0 (lv_args 0 [.ref 111, .int a1, .int a2, .int a3, .int a4, .int a5]) [] w (fun r w2 => r = some (.int (cpAns s.2.2.2.2.1 a1 a2 a3 a4 a5)) ∧ WI w2 ∧ REF w2 (s.1, s.2.1, s.2.2.1, s.2.2.2.1, s.2.2.2.2.1, cpR s.2.2.2.2.1 s.2.2.2.2.2 a1 a2 a3 a4 a5) ∧ ∀ a, a < 111 → w2[a]? = w[a]?) := by
  have z0 := Y234 (xs := xs) (d := d) hI a1 a2 a3 a4 a5
  rw [hR.2.2.1, hR.2.2.2] at z0
  exact z0.mono9 (fun r w2 z => ⟨z.1.1, z.2.1, hR.sh z.1.2.2 z.1.2.1 (fun a ha => z.2.2 a (by omega) (by omega) (by omega)), fun a ha => z.2.2 a (by omega) (by omega) (by omega)⟩)
theorem c121 {xs : Option (List Int32)} {d : Nat} {w : List sx_C} {s : ST} (hI : WI w) (hC : CLS w s) (a1 : Int32) : sx_RP xs (d + 7) 121 0 (lv_args 0 [.ref 0, .int a1]) [] w (fun r w2 => r = some (.int (bokA s.2.2.2.2.1 s.1 a1)) ∧ WI w2 ∧ CLS w2 (s.1, s.2.1, s.2.2.1, s.2.2.2.1, s.2.2.2.2.1, bokR s.2.2.2.2.1 s.2.2.2.2.2 s.1 a1) ∧ ∀ a, 111 ≤ a → w2[a]? = w[a]?) := by
  have z0 := Z121 (xs := xs) (d := d) hI s.1 hC.1.1 hC.2.2 a1
  rw [hC.2.1.2.1, hC.2.1.2.2] at z0
  exact z0.mono9 (fun r w2 z => ⟨z.1.1, z.2.1, hC.sh hI z.1.2.2 z.1.2.1 z.2.2.1 (fun a ha => z.2.2.2 a (by omega) (by omega)), fun a ha => z.2.2.2 a (by omega) (by omega)⟩)
theorem r236 {xs : Option (List Int32)} {d : Nat} {w : List sx_C} {s : ST} (hI : WI w) (hR : REF w s) (a1 : Int32) : sx_RP xs (d + 7) 236 0 (lv_args 0 [.ref 111, .int a1]) [] w (fun r w2 => r = some (.int (bokA s.2.2.2.2.1 s.1 a1)) ∧ WI w2 ∧ REF w2 (s.1, s.2.1, s.2.2.1, s.2.2.2.1, s.2.2.2.2.1, bokR s.2.2.2.2.1 s.2.2.2.2.2 s.1 a1) ∧ ∀ a, a < 111 → w2[a]? = w[a]?) := by
  have z0 := Y236 (xs := xs) (d := d) hI a1
  rw [hR.2.2.1, hR.2.2.2, hR.1.1] at z0
  exact z0.mono9 (fun r w2 z => ⟨z.1.1, z.2.1, hR.sh z.1.2.2 z.1.2.1 (fun a ha => z.2.2 a (by omega) (by omega) (by omega) (by omega)), fun a ha => z.2.2 a (by omega) (by omega) (by omega) (by omega)⟩)
theorem c92 {xs : Option (List Int32)} {d : Nat} {w : List sx_C} {s : ST} (hI : WI w) (hC : CLS w s) (hY : TBy w) : sx_RP xs (d + 7) 92 0 (lv_args 0 [.ref 0]) [] w (fun r w2 => r = some (.int (sieV s.2.2.2.1 s.1).1) ∧ WI w2 ∧ CLS w2 (sieR s.2.2.2.1 s.1, s.2.1, s.2.2.1, [], s.2.2.2.2) ∧ ∀ a, 111 ≤ a → w2[a]? = w[a]?) := by
  have z0 := Z92 (xs := xs) (d := d) hI s.1 hC.1.1 hY
  rw [hC.2.1.1] at z0
  exact z0.mono9 (fun r w2 z => ⟨z.1.1, z.2.1, hC.tp hI z.1.2.1 z.1.2.2 (fun a ha => z.2.2 a (by omega) (by omega)), fun a ha => z.2.2 a (by omega) (by omega)⟩)
theorem r210 {xs : Option (List Int32)} {d : Nat} {w : List sx_C} {s : ST} (hI : WI w) (hR : REF w s) (hT : TT s.2.2.2.1) : sx_RP xs (d + 8) 210 0 (lv_args 0 [.ref 111]) [] w (fun r w2 => r = some (.int (sieV s.2.2.2.1 s.1).1) ∧ WI w2 ∧ REF w2 (sieR s.2.2.2.1 s.1, s.2.1, s.2.2.1, [], s.2.2.2.2) ∧ ∀ a, a < 111 → w2[a]? = w[a]?) := by
  have z0 := Y210 (xs := xs) (d := d) hI (show TT (tapM w) by rw [hR.2.1]; exact hT)
  rw [hR.2.1, hR.1.1] at z0
  exact z0.mono9 (fun r w2 z => ⟨z.1.1, z.2.1, hR.tp z.1.2.1 z.1.2.2.1 (z.1.2.2.2 4 (by decide)) (fun a ha => z.2.2 a (by omega) (by omega) (by omega)), fun a ha => z.2.2 a (by omega) (by omega) (by omega)⟩)
theorem c90 {xs : Option (List Int32)} {d : Nat} {w : List sx_C} {s : ST} (hI : WI w) (hC : CLS w s) : sx_RP xs (d + 7) 90 0 (lv_args 0 [.ref 0]) [] w (fun r w2 => r = some (.int (nI s.2.2.2.1.length)) ∧ WI w2 ∧ CLS w2 (s.1, s.2.1, s.2.2.1, [], s.2.2.2.2) ∧ ∀ a, 111 ≤ a → w2[a]? = w[a]?) := by
  obtain ⟨n, hn, en⟩ := hI.t.1
  refine (Z90 (xs := xs) (d := d) hI).mono9 (fun r w2 z => ⟨?_, z.2.1, hC.tp hI (hC.1.1.same hI isA1 (fun a _ _ => z.2.2 a (by omega))) z.1.2 (fun a ha => z.2.2 a (by omega)), fun a ha => z.2.2 a (by omega)⟩)
  rw [z.1.1, ← hC.2.1.1, show (tapC w).length = n from tapC_len en hn, en]
theorem r209 {xs : Option (List Int32)} {d : Nat} {w : List sx_C} {s : ST} (hI : WI w) (hR : REF w s) : sx_RP xs (d + 7) 209 0 (lv_args 0 [.ref 111]) [] w (fun r w2 => r = some (.int (nI s.2.2.2.1.length)) ∧ WI w2 ∧ REF w2 (s.1, s.2.1, s.2.2.1, [], s.2.2.2.2) ∧ ∀ a, a < 111 → w2[a]? = w[a]?) := by
  obtain ⟨n, hn, en⟩ := hI.m.2.1
  refine (Y209 (xs := xs) (d := d) hI).mono9 (fun r w2 z => ⟨?_, z.2.1, hR.tp ((ia_of (z.2.2 112 (by omega))).trans hR.1.1) z.1.2.1 z.1.2.2 (fun a ha => z.2.2 a (by omega)), fun a ha => z.2.2 a (by omega)⟩)
  rw [z.1.1, ← hR.2.1, show (tapM w).length = n from tapM_len9 en hn, en]
theorem c87 {xs : Option (List Int32)} {d : Nat} {w : List sx_C} {s : ST} (hI : WI w) (hC : CLS w s) (a1 a2 : Int32) : sx_RP xs (d + 7) 87 0 (lv_args 0 [.ref 0, .int a1, .int a2]) [] w (fun r w2 => r = some (.int (feedA s.2.2.2.1.length a2)) ∧ WI w2 ∧ CLS w2 (s.1, s.2.1, s.2.2.1, feT s.2.2.2.1 a1 a2, s.2.2.2.2) ∧ ∀ a, 111 ≤ a → w2[a]? = w[a]?) := by
  refine ((B87 (xs := xs) (d := d) hI a1 a2).and (F87 hI a1 a2)).mono9 (fun r w2 z => ⟨?_, z.2.1, hC.tp hI (hC.1.1.same hI isA1 (fun a _ _ => z.2.2 a (by omega) (by omega) (by omega))) ?_ (fun a ha => z.2.2 a (by omega) (by omega) (by omega)), fun a ha => z.2.2 a (by omega) (by omega) (by omega)⟩)
  · rw [z.1.1.1, ← hC.2.1.1]
    rfl
  · rw [← hC.2.1.1]
    exact (congrArg (fun t : BT => t.2.2.2) z.1.1.2).trans (fe_T _ _ _)
theorem r208 {xs : Option (List Int32)} {d : Nat} {w : List sx_C} {s : ST} (hI : WI w) (hR : REF w s) (a1 a2 : Int32) : sx_RP xs (d + 7) 208 0 (lv_args 0 [.ref 111, .int a1, .int a2]) [] w (fun r w2 => r = some (.int (feedA s.2.2.2.1.length a2)) ∧ WI w2 ∧ REF w2 (s.1, s.2.1, s.2.2.1, feT s.2.2.2.1 a1 a2, s.2.2.2.2) ∧ ∀ a, a < 111 → w2[a]? = w[a]?) := by
  refine ((B208 (xs := xs) (d := d) hI a1 a2).and (F208 hI a1 a2)).mono9 (fun r w2 z => ⟨?_, z.2.1, hR.tp ((ia_of (z.2.2.2 112 (by omega) (by omega) (by omega))).trans hR.1.1) ?_ z.2.2.1 (fun a ha => z.2.2.2 a (by omega) (by omega) (by omega)), fun a ha => z.2.2.2 a (by omega) (by omega) (by omega)⟩)
  · rw [z.1.1.1, ← hR.2.1]
    rfl
  · rw [← hR.2.1]
    exact (congrArg (fun t : BT => t.2.2.2) z.1.1.2).trans (fe_T _ _ _)
theorem c124 {xs : Option (List Int32)} {d : Nat} {w : List sx_C} {s : ST} (hI : WI w) (hC : CLS w s) : sx_RP xs (d + 7) 124 0 (lv_args 0 [.ref 0]) [] w (fun r w2 => r = some (.int 1) ∧ WI w2 ∧ CLS w2 (s.1, 1, s.1, s.2.2.2) ∧ ∀ a, 111 ≤ a → w2[a]? = w[a]?) := by
  exact (Z124 (xs := xs) (d := d) hI).mono9 (fun r w2 z => ⟨z.1.1, z.2.1, ⟨⟨hC.1.1.same hI isA1 (fun a _ _ => z.2.2 a (by omega) (by omega)), z.1.2.1, fun _ => z.1.2.2 _ hC.1.1⟩, ⟨(tapC_eq (z.2.2 96 (by omega) (by omega)) (z.2.2 97 (by omega) (by omega))).trans hC.2.1.1, (FCs_eq (fun q hq => z.2.2 _ (by omega) (by omega))).trans hC.2.1.2.1, (NCs_eq (fun q hq => z.2.2 _ (by omega) (by omega))).trans hC.2.1.2.2⟩, hC.2.2.same (fun a _ _ => z.2.2 a (by omega) (by omega))⟩, fun a ha => z.2.2 a (by omega) (by omega)⟩)
theorem r240 {xs : Option (List Int32)} {d : Nat} {w : List sx_C} {s : ST} (hI : WI w) (hR : REF w s) : sx_RP xs (d + 7) 240 0 (lv_args 0 [.ref 111]) [] w (fun r w2 => r = some (.int 1) ∧ WI w2 ∧ REF w2 (s.1, 1, s.1, s.2.2.2) ∧ ∀ a, a < 111 → w2[a]? = w[a]?) := by
  exact (Y240 (xs := xs) (d := d) hI).mono9 (fun r w2 z => ⟨z.1.1, z.2.1, ⟨⟨(ia_of (z.2.2 112 (by omega) (by omega))).trans hR.1.1, z.1.2.1, fun _ => z.1.2.2.1.trans hR.1.1⟩, ⟨(tapM_eq z.1.2.2.2 (z.2.2 121 (by omega) (by omega))).trans hR.2.1, (FMs_eq (z.2.2 122 (by omega) (by omega)) (z.2.2 123 (by omega) (by omega))).trans hR.2.2.1, (NMs_eq (z.2.2 124 (by omega) (by omega))).trans hR.2.2.2⟩⟩, fun a ha => z.2.2 a (by omega) (by omega)⟩)
theorem c125 {xs : Option (List Int32)} {d : Nat} {w : List sx_C} {s : ST} (hI : WI w) (hC : CLS w s) : sx_RP xs (d + 7) 125 0 (lv_args 0 [.ref 0]) [] w (fun r w2 => r = some (.int (if s.2.1 = 1 then s.2.2.1.getD 1 0 else -1000000004)) ∧ WI w2 ∧ CLS w2 (if s.2.1 = 1 then s.2.2.1 else s.1, s.2) ∧ ∀ a, 111 ≤ a → w2[a]? = w[a]?) := by
  rcases keeps_01 hI with ek | ek
  · have e0 : ¬ s.2.1 = 1 := by rw [← hC.1.2.1, ek]; decide
    rw [if_neg e0, if_neg e0]
    exact (Z125_0 (xs := xs) (d := d) hI ek).mono9 (fun r w2 z => ⟨z.1, z.2.1, hC.fr hI (fun a ha => z.2.2 a (by omega)) (fun k => k.same (fun a _ _ => z.2.2 a (by omega))), fun a ha => z.2.2 a (by omega)⟩)
  · have e1 : s.2.1 = 1 := by rw [← hC.1.2.1, ek]
    rw [if_pos e1, if_pos e1]
    exact (Z125_1 (xs := xs) (d := d) hI ek).mono9 (fun r w2 z => ⟨by rw [z.1.1, (hC.1.2.2 e1).many], z.2.1, hC.row hI (z.1.2 _ (hC.1.2.2 e1)) z.2.2.eo, fun a ha => z.2.2 a (by omega)⟩)
theorem r241 {xs : Option (List Int32)} {d : Nat} {w : List sx_C} {s : ST} (hI : WI w) (hR : REF w s) : sx_RP xs (d + 7) 241 0 (lv_args 0 [.ref 111]) [] w (fun r w2 => r = some (.int (if s.2.1 = 1 then s.2.2.1.getD 1 0 else -1000000004)) ∧ WI w2 ∧ REF w2 (if s.2.1 = 1 then s.2.2.1 else s.1, s.2) ∧ ∀ a, a < 111 → w2[a]? = w[a]?) := by
  rcases kept_01 hI with ek | ek
  · have e0 : ¬ s.2.1 = 1 := by rw [← hR.1.2.1, ek]; decide
    rw [if_neg e0, if_neg e0]
    exact (Y241_0 (xs := xs) (d := d) hI ek).mono9 (fun r w2 z => ⟨z.1, z.2.1, hR.fr (ia_of (z.2.2 112 (by omega))) (fun a ha => z.2.2 a (by omega)), fun a ha => z.2.2 a (by omega)⟩)
  · have e1 : s.2.1 = 1 := by rw [← hR.1.2.1, ek]
    rw [if_pos e1, if_pos e1]
    exact (Y241_1 (xs := xs) (d := d) hI ek).mono9 (fun r w2 z => ⟨by rw [z.1.1, hR.1.2.2 e1], z.2.1, hR.row (z.1.2.trans (hR.1.2.2 e1)) (fun a ha => z.2.2 a (by unfold ocm at ha; omega)), fun a ha => z.2.2 a (by omega)⟩)
theorem c126 {xs : Option (List Int32)} {d : Nat} {w : List sx_C} {s : ST} (hI : WI w) (hC : CLS w s) : sx_RP xs (d + 7) 126 0 (lv_args 0 [.ref 0]) [] w (fun r w2 => r = some (.int s.2.1) ∧ WI w2 ∧ CLS w2 (s.1, 0, s.2.2) ∧ ∀ a, 111 ≤ a → w2[a]? = w[a]?) := by
  exact (Z126 (xs := xs) (d := d) hI).mono9 (fun r w2 z => ⟨by rw [z.1.1, hC.1.2.1], z.2.1, ⟨⟨hC.1.1.same hI isA1 (fun a _ _ => z.2.2 a (by omega)), z.1.2, fun k => absurd (show (0 : Int32) = 1 from k) (by decide)⟩, ⟨(tapC_eq (z.2.2 96 (by omega)) (z.2.2 97 (by omega))).trans hC.2.1.1, (FCs_eq (fun q hq => z.2.2 _ (by omega))).trans hC.2.1.2.1, (NCs_eq (fun q hq => z.2.2 _ (by omega))).trans hC.2.1.2.2⟩, hC.2.2.same (fun a _ _ => z.2.2 a (by omega))⟩, fun a ha => z.2.2 a (by omega)⟩)
theorem r242 {xs : Option (List Int32)} {d : Nat} {w : List sx_C} {s : ST} (hI : WI w) (hR : REF w s) : sx_RP xs (d + 7) 242 0 (lv_args 0 [.ref 111]) [] w (fun r w2 => r = some (.int s.2.1) ∧ WI w2 ∧ REF w2 (s.1, 0, s.2.2) ∧ ∀ a, a < 111 → w2[a]? = w[a]?) := by
  exact (Y242 (xs := xs) (d := d) hI).mono9 (fun r w2 z => ⟨by rw [z.1.1, hR.1.2.1], z.2.1, ⟨⟨(ia_of (z.2.2 112 (by omega))).trans hR.1.1, z.1.2.1, fun k => absurd (show (0 : Int32) = 1 from k) (by decide)⟩, ⟨(tapM_eq z.1.2.2 (z.2.2 121 (by omega))).trans hR.2.1, (FMs_eq (z.2.2 122 (by omega)) (z.2.2 123 (by omega))).trans hR.2.2.1, (NMs_eq (z.2.2 124 (by omega))).trans hR.2.2.2⟩⟩, fun a ha => z.2.2 a (by omega)⟩)
def shR (N : Nat → Nat → Int64) (a1 a2 a3 : Int32) : Nat → Nat → Int64 := if ((0 ≤ a1 ∧ a1 ≤ 3) ∧ (a2 = 0 ∨ a2 = 8 ∨ a2 = 16 ∨ a2 = 64)) ∧ (0 ≤ a3 ∧ a3 ≤ 40) then shN N (iN a1) else N
theorem shR_y {N : Nat → Nat → Int64} {s : Nat} {a2 a3 : Int32} (hs : s < 4) (h : shV (nI s) a2 a3) : shR N (nI s) a2 a3 = shN N s := by
  unfold shR
  unfold shV at h
  rw [if_pos h, iN_n (by omega)]
theorem shR_n {N : Nat → Nat → Int64} {a1 a2 a3 : Int32} (h : ¬ shV a1 a2 a3) : shR N a1 a2 a3 = N := if_neg h
theorem c111 {xs : Option (List Int32)} {d : Nat} {w : List sx_C} {s : ST} (hI : WI w) (hC : CLS w s) (a1 a2 a3 : Int32) : sx_RP xs (d + 7) 111 0 (lv_args 0 [.ref 0, .int a1, .int a2, .int a3]) [] w (fun r w2 => r = some (.int (shAns a1 a2 a3)) ∧ WI w2 ∧ CLS w2 (s.1, s.2.1, s.2.2.1, s.2.2.2.1, shF s.2.2.2.2.1 a1 a2 a3, shR s.2.2.2.2.2 a1 a2 a3) ∧ ∀ a, 111 ≤ a → w2[a]? = w[a]?) := by
  by_cases h : 0 ≤ a1 ∧ a1 ≤ 3
  · obtain ⟨k, hk, rfl⟩ := sx_between h
    refine ((s111S (xs := xs) (d := d) hI hk a2 a3).and (F111 hI hk a2 a3)).mono9 (fun r w2 z => ?_)
    obtain ⟨⟨⟨z1, z2⟩, z3, z4⟩, z5, z6⟩ := z
    rw [hC.2.1.2.1] at z2
    rcases z6 with ⟨hv, h0, hE⟩ | ⟨hv, hE⟩
    · exact ⟨z1, z5, hC.sh hI z2 (by rw [shR_y hk hv, NCs_sh hk h0 (fun q hq hn => hE _ (by omega) (by omega)), hC.2.1.2.2]) (hC.2.2.same (fun a _ _ => hE a (by omega) (by omega))) (fun a ha => hE a (by omega) (by omega)), fun a ha => hE a (by omega) (by omega)⟩
    · exact ⟨z1, z5, hC.sh hI z2 (by rw [shR_n hv, NCs_eq (fun q hq => hE _ (by omega)), hC.2.1.2.2]) (hC.2.2.same (fun a _ _ => hE a (by omega))) (fun a ha => hE a (by omega)), fun a ha => hE a (by omega)⟩
  · refine ((s111Sn (xs := xs) (d := d) hI a1 a2 a3 h).and (F111n hI a1 a2 a3 h)).mono9 (fun r w2 z => ?_)
    obtain ⟨⟨⟨z1, z2⟩, z3, z4⟩, z5, hv, hE⟩ := z
    rw [hC.2.1.2.1] at z2
    exact ⟨z1, z5, hC.sh hI z2 (by rw [shR_n hv, NCs_eq (fun q hq => hE _ (by omega)), hC.2.1.2.2]) (hC.2.2.same (fun a _ _ => hE a (by omega))) (fun a ha => hE a (by omega)), fun a ha => hE a (by omega)⟩
theorem r230 {xs : Option (List Int32)} {d : Nat} {w : List sx_C} {s : ST} (hI : WI w) (hR : REF w s) (a1 a2 a3 : Int32) : sx_RP xs (d + 7) 230 0 (lv_args 0 [.ref 111, .int a1, .int a2, .int a3]) [] w (fun r w2 => r = some (.int (shAns a1 a2 a3)) ∧ WI w2 ∧ REF w2 (s.1, s.2.1, s.2.2.1, s.2.2.2.1, shF s.2.2.2.2.1 a1 a2 a3, shR s.2.2.2.2.2 a1 a2 a3) ∧ ∀ a, a < 111 → w2[a]? = w[a]?) := by
  by_cases h : 0 ≤ a1 ∧ a1 ≤ 3
  · obtain ⟨k, hk, rfl⟩ := sx_between h
    refine ((s230S (xs := xs) (d := d) hI hk a2 a3).and (F230 hI hk a2 a3)).mono9 (fun r w2 z => ?_)
    obtain ⟨⟨⟨z1, z2⟩, z3, z4⟩, z5, z6⟩ := z
    rw [hR.2.2.1] at z2
    rcases z6 with ⟨hv, h0, hE⟩ | ⟨hv, hE⟩
    · exact ⟨z1, z5, hR.sh z2 (by rw [shR_y hk hv, NMs_sh hk h0, hR.2.2.2]) (fun a ha => hE a (by omega) (by omega) (by omega)), z4⟩
    · exact ⟨z1, z5, hR.sh z2 (by rw [shR_n hv, NMs_eq (hE 124 (by omega)), hR.2.2.2]) (fun a ha => hE a (by omega)), z4⟩
  · refine ((s230Sn (xs := xs) (d := d) hI a1 a2 a3 h).and (F230n hI a1 a2 a3 h)).mono9 (fun r w2 z => ?_)
    obtain ⟨⟨⟨z1, z2⟩, z3, z4⟩, z5, hv, hE⟩ := z
    rw [hR.2.2.1] at z2
    exact ⟨z1, z5, hR.sh z2 (by rw [shR_n hv, NMs_eq (hE 124 (by omega)), hR.2.2.2]) (fun a ha => hE a (by omega)), z4⟩
theorem c12 {xs : Option (List Int32)} {d : Nat} {w : List sx_C} {s : ST} (hI : WI w) (hC : CLS w s) (a1 a2 : Int32) : sx_RP xs (d + 7) 12 0 (lv_args 0 [.ref 0, .int a1, .int a2]) [] w (fun r w2 => (∃ v : Int32, r = some (.int v)) ∧ WI w2 ∧ CLS w2 (s) ∧ ∀ a, 111 ≤ a → w2[a]? = w[a]?) := by
  exact (G12 hI a1 a2).mono9 (fun r w2 z => ⟨z.1, z.2.1, hC.es hI z.2.2, fun a ha => z.2.2.1 a (by unfold qc; omega)⟩)
theorem c14 {xs : Option (List Int32)} {d : Nat} {w : List sx_C} {s : ST} (hI : WI w) (hC : CLS w s) : sx_RP xs (d + 7) 14 0 (lv_args 0 [.ref 0]) [] w (fun r w2 => (∃ v : Int64, r = some (.long v)) ∧ WI w2 ∧ CLS w2 (s) ∧ ∀ a, 111 ≤ a → w2[a]? = w[a]?) := by
  exact (G14 hI).mono9 (fun r w2 z => ⟨z.1, z.2.1, hC.es hI z.2.2, fun a ha => z.2.2.1 a (by unfold qc; omega)⟩)
theorem c15 {xs : Option (List Int32)} {d : Nat} {w : List sx_C} {s : ST} (hI : WI w) (hC : CLS w s) (a1 a2 : Int32) : sx_RP xs (d + 7) 15 0 (lv_args 0 [.ref 0, .int a1, .int a2]) [] w (fun r w2 => (∃ v : Int32, r = some (.int v)) ∧ WI w2 ∧ CLS w2 (s) ∧ ∀ a, 111 ≤ a → w2[a]? = w[a]?) := by
  exact (G15 hI a1 a2).mono9 (fun r w2 z => ⟨z.1, z.2.1, hC.es hI z.2.2, fun a ha => z.2.2.1 a (by unfold qc; omega)⟩)
theorem c26 {xs : Option (List Int32)} {d : Nat} {w : List sx_C} {s : ST} (hI : WI w) (hC : CLS w s) (a1 a2 : Int32) : sx_RP xs (d + 7) 26 0 (lv_args 0 [.ref 0, .int a1, .int a2]) [] w (fun r w2 => (∃ v : Int32, r = some (.int v)) ∧ WI w2 ∧ CLS w2 (s) ∧ ∀ a, 111 ≤ a → w2[a]? = w[a]?) := by
  exact (G26 hI a1 a2).mono9 (fun r w2 z => ⟨z.1, z.2.1, hC.es hI z.2.2, fun a ha => z.2.2.1 a (by unfold qc; omega)⟩)
theorem c30 {xs : Option (List Int32)} {d : Nat} {w : List sx_C} {s : ST} (hI : WI w) (hC : CLS w s) (a1 a2 : Int32) : sx_RP xs (d + 7) 30 0 (lv_args 0 [.ref 0, .int a1, .int a2]) [] w (fun r w2 => (∃ v : Int32, r = some (.int v)) ∧ WI w2 ∧ CLS w2 (s) ∧ ∀ a, 111 ≤ a → w2[a]? = w[a]?) := by
  exact (G30 hI a1 a2).mono9 (fun r w2 z => ⟨z.1, z.2.1, hC.es hI z.2.2, fun a ha => z.2.2.1 a (by unfold qc; omega)⟩)
theorem c32 {xs : Option (List Int32)} {d : Nat} {w : List sx_C} {s : ST} (hI : WI w) (hC : CLS w s) (a1 a2 a3 : Int32) : sx_RP xs (d + 7) 32 0 (lv_args 0 [.ref 0, .int a1, .int a2, .int a3]) [] w (fun r w2 => (∃ v : Int32, r = some (.int v)) ∧ WI w2 ∧ CLS w2 (s) ∧ ∀ a, 111 ≤ a → w2[a]? = w[a]?) := by
  exact (G32 hI a1 a2 a3).mono9 (fun r w2 z => ⟨z.1, z.2.1, hC.es hI z.2.2, fun a ha => z.2.2.1 a (by unfold qc; omega)⟩)
theorem c48 {xs : Option (List Int32)} {d : Nat} {w : List sx_C} {s : ST} (hI : WI w) (hC : CLS w s) (a1 : Int32) : sx_RP xs (d + 7) 48 0 (lv_args 0 [.ref 0, .int a1]) [] w (fun r w2 => (∃ v : Int32, r = some (.int v)) ∧ WI w2 ∧ CLS w2 (s) ∧ ∀ a, 111 ≤ a → w2[a]? = w[a]?) := by
  exact (G48 hI a1).mono9 (fun r w2 z => ⟨z.1, z.2.1, hC.es hI z.2.2, fun a ha => z.2.2.1 a (by unfold qc; omega)⟩)
theorem c55 {xs : Option (List Int32)} {d : Nat} {w : List sx_C} {s : ST} (hI : WI w) (hC : CLS w s) (a1 a2 : Int32) : sx_RP xs (d + 7) 55 0 (lv_args 0 [.ref 0, .int a1, .int a2]) [] w (fun r w2 => (∃ v : Int32, r = some (.int v)) ∧ WI w2 ∧ CLS w2 (s) ∧ ∀ a, 111 ≤ a → w2[a]? = w[a]?) := by
  exact (G55 hI a1 a2).mono9 (fun r w2 z => ⟨z.1, z.2.1, hC.es hI z.2.2, fun a ha => z.2.2.1 a (by unfold qc; omega)⟩)
theorem c58 {xs : Option (List Int32)} {d : Nat} {w : List sx_C} {s : ST} (hI : WI w) (hC : CLS w s) (a1 a2 : Int32) : sx_RP xs (d + 7) 58 0 (lv_args 0 [.ref 0, .int a1, .int a2]) [] w (fun r w2 => (∃ v : Int32, r = some (.int v)) ∧ WI w2 ∧ CLS w2 (s) ∧ ∀ a, 111 ≤ a → w2[a]? = w[a]?) := by
  exact (G58 hI a1 a2).mono9 (fun r w2 z => ⟨z.1, z.2.1, hC.es hI z.2.2, fun a ha => z.2.2.1 a (by unfold qc; omega)⟩)
theorem c67 {xs : Option (List Int32)} {d : Nat} {w : List sx_C} {s : ST} (hI : WI w) (hC : CLS w s) (a1 : Int32) : sx_RP xs (d + 7) 67 0 (lv_args 0 [.ref 0, .int a1]) [] w (fun r w2 => (∃ v : Int32, r = some (.int v)) ∧ WI w2 ∧ CLS w2 (s) ∧ ∀ a, 111 ≤ a → w2[a]? = w[a]?) := by
  exact (G67 hI a1).mono9 (fun r w2 z => ⟨z.1, z.2.1, hC.es hI z.2.2, fun a ha => z.2.2.1 a (by unfold qc; omega)⟩)
theorem c70 {xs : Option (List Int32)} {d : Nat} {w : List sx_C} {s : ST} (hI : WI w) (hC : CLS w s) (a1 a2 : Int32) : sx_RP xs (d + 7) 70 0 (lv_args 0 [.ref 0, .int a1, .int a2]) [] w (fun r w2 => (∃ v : Int32, r = some (.int v)) ∧ WI w2 ∧ CLS w2 (s) ∧ ∀ a, 111 ≤ a → w2[a]? = w[a]?) := by
  exact (G70 hI a1 a2).mono9 (fun r w2 z => ⟨z.1, z.2.1, hC.es hI z.2.2, fun a ha => z.2.2.1 a (by unfold qc; omega)⟩)
theorem c71 {xs : Option (List Int32)} {d : Nat} {w : List sx_C} {s : ST} (hI : WI w) (hC : CLS w s) (a1 : Int32) : sx_RP xs (d + 7) 71 0 (lv_args 0 [.ref 0, .int a1]) [] w (fun r w2 => (∃ v : Int64, r = some (.long v)) ∧ WI w2 ∧ CLS w2 (s) ∧ ∀ a, 111 ≤ a → w2[a]? = w[a]?) := by
  exact (G71 hI a1).mono9 (fun r w2 z => ⟨z.1, z.2.1, hC.es hI z.2.2, fun a ha => z.2.2.1 a (by unfold qc; omega)⟩)
theorem c76 {xs : Option (List Int32)} {d : Nat} {w : List sx_C} {s : ST} (hI : WI w) (hC : CLS w s) (a1 a2 : Int32) : sx_RP xs (d + 7) 76 0 (lv_args 0 [.ref 0, .int a1, .int a2]) [] w (fun r w2 => (∃ v : Int32, r = some (.int v)) ∧ WI w2 ∧ CLS w2 (s) ∧ ∀ a, 111 ≤ a → w2[a]? = w[a]?) := by
  exact (G76 hI a1 a2).mono9 (fun r w2 z => ⟨z.1, z.2.1, hC.es hI z.2.2, fun a ha => z.2.2.1 a (by unfold qc; omega)⟩)
theorem c83 {xs : Option (List Int32)} {d : Nat} {w : List sx_C} {s : ST} (hI : WI w) (hC : CLS w s) : sx_RP xs (d + 7) 83 0 (lv_args 0 [.ref 0]) [] w (fun r w2 => (∃ v : Int32, r = some (.int v)) ∧ WI w2 ∧ CLS w2 (s) ∧ ∀ a, 111 ≤ a → w2[a]? = w[a]?) := by
  exact (G83 hI).mono9 (fun r w2 z => ⟨z.1, z.2.1, hC.es hI z.2.2, fun a ha => z.2.2.1 a (by unfold qc; omega)⟩)
theorem c127 {xs : Option (List Int32)} {d : Nat} {w : List sx_C} {s : ST} (hI : WI w) (hC : CLS w s) (a1 : Int32) : sx_RP xs (d + 7) 127 0 (lv_args 0 [.ref 0, .int a1]) [] w (fun r w2 => (∃ v : Int32, r = some (.int v)) ∧ WI w2 ∧ CLS w2 (s) ∧ ∀ a, 111 ≤ a → w2[a]? = w[a]?) := by
  exact (G127 hI a1).mono9 (fun r w2 z => ⟨z.1, z.2.1, hC.es hI z.2.2, fun a ha => z.2.2.1 a (by unfold qc; omega)⟩)
theorem c49 {xs : Option (List Int32)} {d : Nat} {w : List sx_C} {s : ST} (hI : WI w) (hC : CLS w s) (a1 a2 : Int32) : sx_RP xs (d + 7) 49 0 (lv_args 0 [.ref 0, .int a1, .int a2]) [] w (fun r w2 => (∃ v : Int32, r = some (.int v)) ∧ WI w2 ∧ CLS w2 (s) ∧ ∀ a, 111 ≤ a → w2[a]? = w[a]?) := by
  exact (G49 hI a1 a2).mono9 (fun r w2 z => ⟨z.1, z.2.1, hC.es hI z.2.2, fun a ha => z.2.2.1 a (by unfold qc; omega)⟩)
theorem c52 {xs : Option (List Int32)} {d : Nat} {w : List sx_C} {s : ST} (hI : WI w) (hC : CLS w s) (a1 : Int32) : sx_RP xs (d + 7) 52 0 (lv_args 0 [.ref 0, .int a1]) [] w (fun r w2 => (∃ v : Int32, r = some (.int v)) ∧ WI w2 ∧ CLS w2 (s) ∧ ∀ a, 111 ≤ a → w2[a]? = w[a]?) := by
  exact (G52 hI a1).mono9 (fun r w2 z => ⟨z.1, z.2.1, hC.es hI z.2.2, fun a ha => z.2.2.1 a (by unfold qc; omega)⟩)
theorem c53 {xs : Option (List Int32)} {d : Nat} {w : List sx_C} {s : ST} (hI : WI w) (hC : CLS w s) : sx_RP xs (d + 7) 53 0 (lv_args 0 [.ref 0]) [] w (fun r w2 => (∃ v : Int32, r = some (.int v)) ∧ WI w2 ∧ CLS w2 (s) ∧ ∀ a, 111 ≤ a → w2[a]? = w[a]?) := by
  exact (G53 hI).mono9 (fun r w2 z => ⟨z.1, z.2.1, hC.es hI z.2.2, fun a ha => z.2.2.1 a (by unfold qc; omega)⟩)
theorem c61 {xs : Option (List Int32)} {d : Nat} {w : List sx_C} {s : ST} (hI : WI w) (hC : CLS w s) (a1 : Int32) : sx_RP xs (d + 7) 61 0 (lv_args 0 [.ref 0, .int a1]) [] w (fun r w2 => (∃ v : Int32, r = some (.int v)) ∧ WI w2 ∧ CLS w2 (s) ∧ ∀ a, 111 ≤ a → w2[a]? = w[a]?) := by
  exact (G61 hI a1).mono9 (fun r w2 z => ⟨z.1, z.2.1, hC.es hI z.2.2, fun a ha => z.2.2.1 a (by unfold qc; omega)⟩)
theorem c74 {xs : Option (List Int32)} {d : Nat} {w : List sx_C} {s : ST} (hI : WI w) (hC : CLS w s) (a1 : Int32) : sx_RP xs (d + 7) 74 0 (lv_args 0 [.ref 0, .int a1]) [] w (fun r w2 => (∃ v : Int32, r = some (.int v)) ∧ WI w2 ∧ CLS w2 (s) ∧ ∀ a, 111 ≤ a → w2[a]? = w[a]?) := by
  exact (G74 hI a1).mono9 (fun r w2 z => ⟨z.1, z.2.1, hC.es hI z.2.2, fun a ha => z.2.2.1 a (by unfold qc; omega)⟩)
theorem c81 {xs : Option (List Int32)} {d : Nat} {w : List sx_C} {s : ST} (hI : WI w) (hC : CLS w s) (a1 : Int32) : sx_RP xs (d + 7) 81 0 (lv_args 0 [.ref 0, .int a1]) [] w (fun r w2 => (∃ v : Int32, r = some (.int v)) ∧ WI w2 ∧ CLS w2 (s) ∧ ∀ a, 111 ≤ a → w2[a]? = w[a]?) := by
  exact (G81 hI a1).mono9 (fun r w2 z => ⟨z.1, z.2.1, hC.es hI z.2.2, fun a ha => z.2.2.1 a (by unfold qc; omega)⟩)
theorem c86 {xs : Option (List Int32)} {d : Nat} {w : List sx_C} {s : ST} (hI : WI w) (hC : CLS w s) (a1 : Int32) : sx_RP xs (d + 7) 86 0 (lv_args 0 [.ref 0, .int a1]) [] w (fun r w2 => (∃ v : Int32, r = some (.int v)) ∧ WI w2 ∧ CLS w2 (s) ∧ ∀ a, 111 ≤ a → w2[a]? = w[a]?) := by
  exact (G86 hI a1).mono9 (fun r w2 z => ⟨z.1, z.2.1, hC.es hI z.2.2, fun a ha => z.2.2.1 a (by unfold qc; omega)⟩)
theorem c122 {xs : Option (List Int32)} {d : Nat} {w : List sx_C} {s : ST} (hI : WI w) (hC : CLS w s) (a1 : Int32) : sx_RP xs (d + 7) 122 0 (lv_args 0 [.ref 0, .int a1]) [] w (fun r w2 => (∃ v : Int32, r = some (.int v)) ∧ WI w2 ∧ CLS w2 (s) ∧ ∀ a, 111 ≤ a → w2[a]? = w[a]?) := by
  exact (G122 hI a1).mono9 (fun r w2 z => ⟨z.1, z.2.1, hC.es hI z.2.2, fun a ha => z.2.2.1 a (by unfold qc; omega)⟩)
theorem c128 {xs : Option (List Int32)} {d : Nat} {w : List sx_C} {s : ST} (hI : WI w) (hC : CLS w s) (a1 : Int32) : sx_RP xs (d + 7) 128 0 (lv_args 0 [.ref 0, .int a1]) [] w (fun r w2 => (∃ v : Int32, r = some (.int v)) ∧ WI w2 ∧ CLS w2 (s) ∧ ∀ a, 111 ≤ a → w2[a]? = w[a]?) := by
  exact (G128 hI a1).mono9 (fun r w2 z => ⟨z.1, z.2.1, hC.es hI z.2.2, fun a ha => z.2.2.1 a (by unfold qc; omega)⟩)
theorem r135 {xs : Option (List Int32)} {d : Nat} {w : List sx_C} {s : ST} (hI : WI w) (hR : REF w s) (a1 a2 : Int32) : sx_RP xs (d + 7) 135 0 (lv_args 0 [.ref 111, .int a1, .int a2]) [] w (fun r w2 => (∃ v : Int32, r = some (.int v)) ∧ WI w2 ∧ REF w2 (s) ∧ ∀ a, a < 111 → w2[a]? = w[a]?) := by
  exact (H135 hI a1 a2).mono9 (fun r w2 z => ⟨z.1, z.2.1, hR.ez z.2.2, fun a ha => z.2.2 a (by unfold zc; omega)⟩)
theorem r155 {xs : Option (List Int32)} {d : Nat} {w : List sx_C} {s : ST} (hI : WI w) (hR : REF w s) (a1 a2 : Int32) : sx_RP xs (d + 7) 155 0 (lv_args 0 [.ref 111, .int a1, .int a2]) [] w (fun r w2 => (∃ v : Int32, r = some (.int v)) ∧ WI w2 ∧ REF w2 (s) ∧ ∀ a, a < 111 → w2[a]? = w[a]?) := by
  exact (H155 hI a1 a2).mono9 (fun r w2 z => ⟨z.1, z.2.1, hR.ez z.2.2, fun a ha => z.2.2 a (by unfold zc; omega)⟩)
theorem r159 {xs : Option (List Int32)} {d : Nat} {w : List sx_C} {s : ST} (hI : WI w) (hR : REF w s) (a1 a2 : Int32) : sx_RP xs (d + 7) 159 0 (lv_args 0 [.ref 111, .int a1, .int a2]) [] w (fun r w2 => (∃ v : Int32, r = some (.int v)) ∧ WI w2 ∧ REF w2 (s) ∧ ∀ a, a < 111 → w2[a]? = w[a]?) := by
  exact (H159 hI a1 a2).mono9 (fun r w2 z => ⟨z.1, z.2.1, hR.ez z.2.2, fun a ha => z.2.2 a (by unfold zc; omega)⟩)
theorem r161 {xs : Option (List Int32)} {d : Nat} {w : List sx_C} {s : ST} (hI : WI w) (hR : REF w s) (a1 a2 a3 : Int32) : sx_RP xs (d + 7) 161 0 (lv_args 0 [.ref 111, .int a1, .int a2, .int a3]) [] w (fun r w2 => (∃ v : Int32, r = some (.int v)) ∧ WI w2 ∧ REF w2 (s) ∧ ∀ a, a < 111 → w2[a]? = w[a]?) := by
  exact (H161 hI a1 a2 a3).mono9 (fun r w2 z => ⟨z.1, z.2.1, hR.ez z.2.2, fun a ha => z.2.2 a (by unfold zc; omega)⟩)
theorem r173 {xs : Option (List Int32)} {d : Nat} {w : List sx_C} {s : ST} (hI : WI w) (hR : REF w s) (a1 : Int32) : sx_RP xs (d + 7) 173 0 (lv_args 0 [.ref 111, .int a1]) [] w (fun r w2 => (∃ v : Int32, r = some (.int v)) ∧ WI w2 ∧ REF w2 (s) ∧ ∀ a, a < 111 → w2[a]? = w[a]?) := by
  exact (H173 hI a1).mono9 (fun r w2 z => ⟨z.1, z.2.1, hR.ez z.2.2, fun a ha => z.2.2 a (by unfold zc; omega)⟩)
theorem r196 {xs : Option (List Int32)} {d : Nat} {w : List sx_C} {s : ST} (hI : WI w) (hR : REF w s) (a1 a2 : Int32) : sx_RP xs (d + 7) 196 0 (lv_args 0 [.ref 111, .int a1, .int a2]) [] w (fun r w2 => (∃ v : Int32, r = some (.int v)) ∧ WI w2 ∧ REF w2 (s) ∧ ∀ a, a < 111 → w2[a]? = w[a]?) := by
  exact (H196 hI a1 a2).mono9 (fun r w2 z => ⟨z.1, z.2.1, hR.ez z.2.2, fun a ha => z.2.2 a (by unfold zc; omega)⟩)
theorem r205 {xs : Option (List Int32)} {d : Nat} {w : List sx_C} {s : ST} (hI : WI w) (hR : REF w s) : sx_RP xs (d + 7) 205 0 (lv_args 0 [.ref 111]) [] w (fun r w2 => (∃ v : Int32, r = some (.int v)) ∧ WI w2 ∧ REF w2 (s) ∧ ∀ a, a < 111 → w2[a]? = w[a]?) := by
  exact (H205 hI).mono9 (fun r w2 z => ⟨z.1, z.2.1, hR.ez z.2.2, fun a ha => z.2.2 a (by unfold zc; omega)⟩)
theorem r243 {xs : Option (List Int32)} {d : Nat} {w : List sx_C} {s : ST} (hI : WI w) (hR : REF w s) (a1 : Int32) : sx_RP xs (d + 7) 243 0 (lv_args 0 [.ref 111, .int a1]) [] w (fun r w2 => (∃ v : Int32, r = some (.int v)) ∧ WI w2 ∧ REF w2 (s) ∧ ∀ a, a < 111 → w2[a]? = w[a]?) := by
  exact (H243 hI a1).mono9 (fun r w2 z => ⟨z.1, z.2.1, hR.ez z.2.2, fun a ha => z.2.2 a (by unfold zc; omega)⟩)
theorem r202 {xs : Option (List Int32)} {d : Nat} {w : List sx_C} {s : ST} (hI : WI w) (hR : REF w s) (a1 : Int32) : sx_RP xs (d + 7) 202 0 (lv_args 0 [.ref 111, .int a1]) [] w (fun r w2 => (∃ v : Int32, r = some (.int v)) ∧ WI w2 ∧ REF w2 (s) ∧ ∀ a, a < 111 → w2[a]? = w[a]?) := by
  exact (H202 hI a1).mono9 (fun r w2 z => ⟨z.1, z.2.1, hR.ez z.2.2, fun a ha => z.2.2 a (by unfold zc; omega)⟩)
theorem r245 {xs : Option (List Int32)} {d : Nat} {w : List sx_C} {s : ST} (hI : WI w) (hR : REF w s) (a1 : Int32) : sx_RP xs (d + 7) 245 0 (lv_args 0 [.ref 111, .int a1]) [] w (fun r w2 => (∃ v : Int32, r = some (.int v)) ∧ WI w2 ∧ REF w2 (s) ∧ ∀ a, a < 111 → w2[a]? = w[a]?) := by
  exact (H245 hI a1).mono9 (fun r w2 z => ⟨z.1, z.2.1, hR.ez z.2.2, fun a ha => z.2.2 a (by unfold zc; omega)⟩)
theorem r207 {xs : Option (List Int32)} {d : Nat} {w : List sx_C} {s : ST} (hI : WI w) (hR : REF w s) (a1 : Int32) : sx_RP xs (d + 7) 207 0 (lv_args 0 [.ref 111, .int a1]) [] w (fun r w2 => (∃ v : Int32, r = some (.int v)) ∧ WI w2 ∧ REF w2 (s) ∧ ∀ a, a < 111 → w2[a]? = w[a]?) := by
  exact (H207 hI a1).mono9 (fun r w2 z => ⟨z.1, z.2.1, hR.ez z.2.2, fun a ha => z.2.2 a (by unfold zc; omega)⟩)
theorem r140 {xs : Option (List Int32)} {d : Nat} {w : List sx_C} {s : ST} (hI : WI w) (hR : REF w s) (a1 a2 : Int32) : sx_RP xs (d + 7) 140 0 (lv_args 0 [.ref 111, .int a1, .int a2]) [] w (fun r w2 => (∃ v : Int32, r = some (.int v)) ∧ WI w2 ∧ REF w2 (s) ∧ ∀ a, a < 111 → w2[a]? = w[a]?) := by
  exact (H140 hI a1 a2).mono9 (fun r w2 z => ⟨z.1, z.2.1, hR.ez z.2.2, fun a ha => z.2.2 a (by unfold zc; omega)⟩)
theorem r179 {xs : Option (List Int32)} {d : Nat} {w : List sx_C} {s : ST} (hI : WI w) (hR : REF w s) (a1 a2 : Int32) : sx_RP xs (d + 7) 179 0 (lv_args 0 [.ref 111, .int a1, .int a2]) [] w (fun r w2 => (∃ v : Int32, r = some (.int v)) ∧ WI w2 ∧ REF w2 (s) ∧ ∀ a, a < 111 → w2[a]? = w[a]?) := by
  exact (H179 hI a1 a2).mono9 (fun r w2 z => ⟨z.1, z.2.1, hR.ez z.2.2, fun a ha => z.2.2 a (by unfold zc; omega)⟩)
theorem r187 {xs : Option (List Int32)} {d : Nat} {w : List sx_C} {s : ST} (hI : WI w) (hR : REF w s) (a1 : Int32) : sx_RP xs (d + 7) 187 0 (lv_args 0 [.ref 111, .int a1]) [] w (fun r w2 => (∃ v : Int32, r = some (.int v)) ∧ WI w2 ∧ REF w2 (s) ∧ ∀ a, a < 111 → w2[a]? = w[a]?) := by
  exact (H187 hI a1).mono9 (fun r w2 z => ⟨z.1, z.2.1, hR.ez z.2.2, fun a ha => z.2.2 a (by unfold zc; omega)⟩)
theorem r191 {xs : Option (List Int32)} {d : Nat} {w : List sx_C} {s : ST} (hI : WI w) (hR : REF w s) (a1 a2 : Int32) : sx_RP xs (d + 7) 191 0 (lv_args 0 [.ref 111, .int a1, .int a2]) [] w (fun r w2 => (∃ v : Int32, r = some (.int v)) ∧ WI w2 ∧ REF w2 (s) ∧ ∀ a, a < 111 → w2[a]? = w[a]?) := by
  exact (H191 hI a1 a2).mono9 (fun r w2 z => ⟨z.1, z.2.1, hR.ez z.2.2, fun a ha => z.2.2 a (by unfold zc; omega)⟩)
theorem r192 {xs : Option (List Int32)} {d : Nat} {w : List sx_C} {s : ST} (hI : WI w) (hR : REF w s) (a1 : Int32) : sx_RP xs (d + 7) 192 0 (lv_args 0 [.ref 111, .int a1]) [] w (fun r w2 => (∃ v : Int64, r = some (.long v)) ∧ WI w2 ∧ REF w2 (s) ∧ ∀ a, a < 111 → w2[a]? = w[a]?) := by
  exact (H192 hI a1).mono9 (fun r w2 z => ⟨z.1, z.2.1, hR.ez z.2.2, fun a ha => z.2.2 a (by unfold zc; omega)⟩)
theorem r194 {xs : Option (List Int32)} {d : Nat} {w : List sx_C} {s : ST} (hI : WI w) (hR : REF w s) (a1 : Int32) : sx_RP xs (d + 7) 194 0 (lv_args 0 [.ref 111, .int a1]) [] w (fun r w2 => (∃ v : Int32, r = some (.int v)) ∧ WI w2 ∧ REF w2 (s) ∧ ∀ a, a < 111 → w2[a]? = w[a]?) := by
  exact (H194 hI a1).mono9 (fun r w2 z => ⟨z.1, z.2.1, hR.ez z.2.2, fun a ha => z.2.2 a (by unfold zc; omega)⟩)
theorem r174 {xs : Option (List Int32)} {d : Nat} {w : List sx_C} {s : ST} (hI : WI w) (hR : REF w s) (a1 a2 : Int32) : sx_RP xs (d + 7) 174 0 (lv_args 0 [.ref 111, .int a1, .int a2]) [] w (fun r w2 => (∃ v : Int32, r = some (.int v)) ∧ WI w2 ∧ REF w2 (s) ∧ ∀ a, a < 111 → w2[a]? = w[a]?) := by
  exact (H174 hI a1 a2).mono9 (fun r w2 z => ⟨z.1, z.2.1, hR.ezl z.2.2, fun a ha => z.2.2.1 a (by unfold yc; omega) (by omega)⟩)
theorem r176 {xs : Option (List Int32)} {d : Nat} {w : List sx_C} {s : ST} (hI : WI w) (hR : REF w s) (a1 : Int32) : sx_RP xs (d + 7) 176 0 (lv_args 0 [.ref 111, .int a1]) [] w (fun r w2 => (∃ v : Int32, r = some (.int v)) ∧ WI w2 ∧ REF w2 (s) ∧ ∀ a, a < 111 → w2[a]? = w[a]?) := by
  exact (H176 hI a1).mono9 (fun r w2 z => ⟨z.1, z.2.1, hR.ezl z.2.2, fun a ha => z.2.2.1 a (by unfold yc; omega) (by omega)⟩)
theorem r177 {xs : Option (List Int32)} {d : Nat} {w : List sx_C} {s : ST} (hI : WI w) (hR : REF w s) : sx_RP xs (d + 7) 177 0 (lv_args 0 [.ref 111]) [] w (fun r w2 => (∃ v : Int32, r = some (.int v)) ∧ WI w2 ∧ REF w2 (s) ∧ ∀ a, a < 111 → w2[a]? = w[a]?) := by
  exact (H177 hI).mono9 (fun r w2 z => ⟨z.1, z.2.1, hR.ezl z.2.2, fun a ha => z.2.2.1 a (by unfold yc; omega) (by omega)⟩)
theorem r180 {xs : Option (List Int32)} {d : Nat} {w : List sx_C} {s : ST} (hI : WI w) (hR : REF w s) (a1 a2 : Int32) : sx_RP xs (d + 7) 180 0 (lv_args 0 [.ref 111, .int a1, .int a2]) [] w (fun r w2 => (∃ v : Int32, r = some (.int v)) ∧ WI w2 ∧ REF w2 (s) ∧ ∀ a, a < 111 → w2[a]? = w[a]?) := by
  exact (H180 hI a1 a2).mono9 (fun r w2 z => ⟨z.1, z.2.1, hR.ezl z.2.2, fun a ha => z.2.2.1 a (by unfold yc; omega) (by omega)⟩)
theorem r183 {xs : Option (List Int32)} {d : Nat} {w : List sx_C} {s : ST} (hI : WI w) (hR : REF w s) (a1 : Int32) : sx_RP xs (d + 7) 183 0 (lv_args 0 [.ref 111, .int a1]) [] w (fun r w2 => (∃ v : Int32, r = some (.int v)) ∧ WI w2 ∧ REF w2 (s) ∧ ∀ a, a < 111 → w2[a]? = w[a]?) := by
  exact (H183 hI a1).mono9 (fun r w2 z => ⟨z.1, z.2.1, hR.ezl z.2.2, fun a ha => z.2.2.1 a (by unfold yc; omega) (by omega)⟩)
theorem r238 {xs : Option (List Int32)} {d : Nat} {w : List sx_C} {s : ST} (hI : WI w) (hR : REF w s) (a1 : Int32) : sx_RP xs (d + 7) 238 0 (lv_args 0 [.ref 111, .int a1]) [] w (fun r w2 => (∃ v : Int32, r = some (.int v)) ∧ WI w2 ∧ REF w2 (s) ∧ ∀ a, a < 111 → w2[a]? = w[a]?) := by
  exact (H238 hI a1).mono9 (fun r w2 z => ⟨z.1, z.2.1, hR.ezl z.2.2, fun a ha => z.2.2.1 a (by unfold yc; omega) (by omega)⟩)
end
-- 89y36.ans5.lean.txt
section
def wlN (l : List Int32) : Nat → Int64
  | 0 => 0
  | n + 1 => wlN l n ||| (if l.getD (55 + n) 0 = 1 then (1 : Int64) <<< ((nI n).toInt64 &&& 63) else 0)
theorem bit_or0 {v : Int64} {j : Nat} : bitL (v ||| 0) j = bitL v j := by
  unfold bitL
  rw [Int64.toBitVec_or, BitVec.getLsbD_or, show ((0 : Int64)).toBitVec = 0#64 from rfl, BitVec.getLsbD_zero, Bool.or_false]
theorem wlN_bit {l : List Int32} : ∀ (n : Nat), n ≤ 48 → ∀ j, j < 64 → bitL (wlN l n) j = (ltB n j && decide (l.getD (55 + j) 0 = 1))
  | 0, _, j, _ => by
    show bitL 0 j = _
    rw [bit_0, ltB_n (by omega)]
    rfl
  | n + 1, h, j, hj => by
    show bitL (wlN l n ||| _) j = _
    have ih := wlN_bit (l := l) n (by omega) j hj
    by_cases e : l.getD (55 + n) 0 = 1
    · rw [if_pos e, bit_or (by omega), ih]
      by_cases c : n = j
      · rw [decide_eq_true c, Bool.or_true, ← c, ltB_y (by omega), decide_eq_true e]
        rfl
      · rw [decide_eq_false c, Bool.or_false, ltB_ne (Ne.symm c)]
    · rw [if_neg e, bit_or0, ih]
      by_cases c : n = j
      · rw [← c, decide_eq_false e, Bool.and_false, Bool.and_false]
      · rw [ltB_ne (Ne.symm c)]
theorem i64_ext {a b : Int64} (h : ∀ c, c < 64 → bitL a c = bitL b c) : a = b := Int64.toBitVec_inj.mp (BitVec.eq_of_getLsbD_eq (fun i hi => h i hi))
theorem rel.walls {w : List sx_C} {l : List Int32} (hR : rel w 1 l) : fj w 1 1 = wlN l 48 := i64_ext (fun c hc => by
  have e := hR.wl hc
  unfold wbt wlr at e
  rw [wlN_bit 48 (by omega) c hc]
  by_cases h : c < 48
  · rw [if_pos h] at e
    rw [ltB_y h, ← e]
    cases bitL (fj w 1 1) c <;> decide
  · rw [if_neg h] at e
    rw [ltB_n h, Bool.false_and]
    cases hb : bitL (fj w 1 1) c with
    | false => rfl
    | true =>
      rw [hb] at e
      exact absurd e (by decide))
end
-- 89y37.ans6.lean.txt
section
def hsF (l : List Int32) (c : Nat) : Nat → Int32
  | 0 => 0
  | n + 1 => if gF l n 5 = 0 ∧ gF l n 2 = nI c then hsF l c n + 1 else hsF l c n
theorem hs_y {l : List Int32} {c j : Nat} (h : gF l j 5 = 0 ∧ gF l j 2 = nI c) : hsF l c j + 1 = hsF l c (j + 1) := (if_pos h).symm
theorem hs_n {l : List Int32} {c j : Nat} (h : ¬ (gF l j 5 = 0 ∧ gF l j 2 = nI c)) : hsF l c j = hsF l c (j + 1) := (if_neg h).symm
set_option maxRecDepth 20000 in
set_option maxHeartbeats 4000000 in
theorem x13L {xs : Option (List Int32)} {d c n : Nat} {w : List sx_C} {l : List Int32} (hI : WI w) (hR : rel w 1 l) (hc : c < 48) (hn : n ≤ 10) (en : l.getD 1 0 = nI n) : ∀ (q j : Nat), j + q = n → sx_RP xs d 13 4 [(0, .ref 1), (1, .int (nI c)), (2, .int (hsF l c j)), (3, .int (nI j))] [] w (fun r w2 => r = some (.int (hsF l c n)) ∧ w2 = w)
  | 0, j, hj => by
    obtain rfl : j = n := by omega
    refine sx_RP.step (pc2 := 5) (ls2 := [(0, .ref 1), (1, .int (nI c)), (2, .int (hsF l c j)), (3, .int (nI j))]) (st2 := [.int (nI j)]) (w3 := w) rfl rfl ?_
    refine sx_RP.step (pc2 := 6) (ls2 := [(0, .ref 1), (1, .int (nI c)), (2, .int (hsF l c j)), (3, .int (nI j))]) (st2 := [.ref 1, .int (nI j)]) (w3 := w) rfl rfl ?_
    refine sx_RP.gc (k := 3) hI (Or.inl rfl) rfl rfl (by omega) (show _ = 9 from rfl) ?_
    rw [(hR.many.trans en)]
    refine sx_RP.br (p1 := 46) (l1 := [(0, .ref 1), (1, .int (nI c)), (2, .int (hsF l c j)), (3, .int (nI j))]) (s1 := []) (v1 := w) rfl rfl (fun _ => ?_) (fun q => absurd (nI_le (a := j) (b := j) (by omega) (by omega)) (of_decide_eq_false q))
    refine sx_RP.step (pc2 := 47) (ls2 := [(0, .ref 1), (1, .int (nI c)), (2, .int (hsF l c j)), (3, .int (nI j))]) (st2 := [.int (hsF l c j)]) (w3 := w) rfl rfl ?_
    refine sx_RP.ret (r := (some (.int (hsF l c j)))) rfl rfl ?_
    exact ⟨rfl, rfl⟩
  | q + 1, j, hj => by
    refine sx_RP.step (pc2 := 5) (ls2 := [(0, .ref 1), (1, .int (nI c)), (2, .int (hsF l c j)), (3, .int (nI j))]) (st2 := [.int (nI j)]) (w3 := w) rfl rfl ?_
    refine sx_RP.step (pc2 := 6) (ls2 := [(0, .ref 1), (1, .int (nI c)), (2, .int (hsF l c j)), (3, .int (nI j))]) (st2 := [.ref 1, .int (nI j)]) (w3 := w) rfl rfl ?_
    refine sx_RP.gc (k := 3) hI (Or.inl rfl) rfl rfl (by omega) (show _ = 9 from rfl) ?_
    rw [(hR.many.trans en)]
    refine sx_RP.br (p2 := 12) (l2 := [(0, .ref 1), (1, .int (nI c)), (2, .int (hsF l c j)), (3, .int (nI j))]) (s2 := []) (v2 := w) rfl rfl (fun q => absurd (of_decide_eq_true q) (fun z => absurd ((nI_leI (a := n) (b := j) (by omega) (by omega)).mp z) (by omega))) (fun _ => ?_)
    refine sx_RP.step (pc2 := 13) (ls2 := [(0, .ref 1), (1, .int (nI c)), (2, .int (hsF l c j)), (3, .int (nI j))]) (st2 := [.ref 1]) (w3 := w) rfl rfl ?_
    refine sx_RP.gref (k := 2) (b := 3) hI (Or.inl rfl) rfl rfl (by omega) (show _ = 16 from rfl) ?_
    refine sx_RP.step (pc2 := 17) (ls2 := [(0, .ref 1), (1, .int (nI c)), (2, .int (hsF l c j)), (3, .int (nI j))]) (st2 := [.int (nI j), .ref 3]) (w3 := w) rfl rfl ?_
    refine sx_RP.ald (v := .ref (1 + 4 + j)) rfl (hI.1.aG (Or.inl rfl)) rfl (grA_at (show j < 10 by omega)) (show _ = 18 from rfl) ?_
    refine sx_RP.gg (k := 5) hI (gAd.of (Or.inl rfl) (show j < 10 by omega)) rfl rfl (by decide) (show _ = 21 from rfl) ?_
    obtain ⟨x1, hx2, ex3⟩ : inR (fi w (1 + 4 + j) 5) 1 := hI.gk (k := 5) (gAd.of (Or.inl rfl) (show j < 10 by omega)) (by decide)
    rw [ex3]
    refine sx_RP.br (p1 := 40) (l1 := [(0, .ref 1), (1, .int (nI c)), (2, .int (hsF l c j)), (3, .int (nI j))]) (s1 := []) (v1 := w) (p2 := 24) (l2 := [(0, .ref 1), (1, .int (nI c)), (2, .int (hsF l c j)), (3, .int (nI j))]) (s2 := []) (v2 := w) rfl rfl (fun q4 => ?_) (fun q4 => ?_)
    · replace q4 := of_decide_eq_true q4
      replace q4 := mt (nI_eq (a := x1) (b := 0) (by omega) (by omega)).mpr q4
      refine sx_RP.step (pc2 := 43) (ls2 := [(3, .int ((nI j) + 1)), (0, .ref 1), (1, .int (nI c)), (2, .int (hsF l c j))]) (st2 := []) (w3 := w) rfl rfl ?_
      rw [nI_1 j]
      refine sx_RP.step (pc2 := 4) (ls2 := [(3, .int (nI (j + 1))), (0, .ref 1), (1, .int (nI c)), (2, .int (hsF l c j))]) (st2 := []) (w3 := w) rfl rfl ?_
      have e9 := hs_n (l := l) (c := c) (j := j) (fun z => q4 ((nI_eq (a := x1) (b := 0) (by omega) (by decide)).mp (((hR.ga (i := j) (k := 5) (by rw [en, iN_n (by omega)]; omega) (by decide)).symm.trans ex3).symm.trans z.1)))
      rw [e9]
      exact sx_RP.ls (sx_lr.cons rfl (sx_lr.cons rfl (sx_lr.cons rfl (sx_lr.cons rfl sx_lr.nil)))) (x13L hI hR hc hn en q (j + 1) (by omega))
    · replace q4 := Decidable.not_not.mp (of_decide_eq_false q4)
      replace q4 := (nI_eq (a := x1) (b := 0) (by omega) (by omega)).mp q4
      refine sx_RP.step (pc2 := 25) (ls2 := [(0, .ref 1), (1, .int (nI c)), (2, .int (hsF l c j)), (3, .int (nI j))]) (st2 := [.ref 1]) (w3 := w) rfl rfl ?_
      refine sx_RP.gref (k := 2) (b := 3) hI (Or.inl rfl) rfl rfl (by omega) (show _ = 28 from rfl) ?_
      refine sx_RP.step (pc2 := 29) (ls2 := [(0, .ref 1), (1, .int (nI c)), (2, .int (hsF l c j)), (3, .int (nI j))]) (st2 := [.int (nI j), .ref 3]) (w3 := w) rfl rfl ?_
      refine sx_RP.ald (v := .ref (1 + 4 + j)) rfl (hI.1.aG (Or.inl rfl)) rfl (grA_at (show j < 10 by omega)) (show _ = 30 from rfl) ?_
      refine sx_RP.gg (k := 2) hI (gAd.of (Or.inl rfl) (show j < 10 by omega)) rfl rfl (by decide) (show _ = 33 from rfl) ?_
      obtain ⟨x5, hx6, ex7⟩ : inR (fi w (1 + 4 + j) 2) 47 := hI.gk (k := 2) (gAd.of (Or.inl rfl) (show j < 10 by omega)) (by decide)
      rw [ex7]
      refine sx_RP.step (pc2 := 34) (ls2 := [(0, .ref 1), (1, .int (nI c)), (2, .int (hsF l c j)), (3, .int (nI j))]) (st2 := [.int (nI c), .int (nI x5)]) (w3 := w) rfl rfl ?_
      refine sx_RP.br (p1 := 40) (l1 := [(0, .ref 1), (1, .int (nI c)), (2, .int (hsF l c j)), (3, .int (nI j))]) (s1 := []) (v1 := w) (p2 := 37) (l2 := [(0, .ref 1), (1, .int (nI c)), (2, .int (hsF l c j)), (3, .int (nI j))]) (s2 := []) (v2 := w) rfl rfl (fun q8 => ?_) (fun q8 => ?_)
      · replace q8 := of_decide_eq_true q8
        replace q8 := mt (nI_eq (a := x5) (b := c) (by omega) (by omega)).mpr q8
        refine sx_RP.step (pc2 := 43) (ls2 := [(3, .int ((nI j) + 1)), (0, .ref 1), (1, .int (nI c)), (2, .int (hsF l c j))]) (st2 := []) (w3 := w) rfl rfl ?_
        rw [nI_1 j]
        refine sx_RP.step (pc2 := 4) (ls2 := [(3, .int (nI (j + 1))), (0, .ref 1), (1, .int (nI c)), (2, .int (hsF l c j))]) (st2 := []) (w3 := w) rfl rfl ?_
        have e9 := hs_n (l := l) (c := c) (j := j) (fun z => q8 ((nI_eq (a := x5) (b := c) (by omega) (by omega)).mp (((hR.ga (i := j) (k := 2) (by rw [en, iN_n (by omega)]; omega) (by decide)).symm.trans ex7).symm.trans z.2)))
        rw [e9]
        exact sx_RP.ls (sx_lr.cons rfl (sx_lr.cons rfl (sx_lr.cons rfl (sx_lr.cons rfl sx_lr.nil)))) (x13L hI hR hc hn en q (j + 1) (by omega))
      · replace q8 := Decidable.not_not.mp (of_decide_eq_false q8)
        replace q8 := (nI_eq (a := x5) (b := c) (by omega) (by omega)).mp q8
        refine sx_RP.step (pc2 := 40) (ls2 := [(2, .int ((hsF l c j) + 1)), (0, .ref 1), (1, .int (nI c)), (3, .int (nI j))]) (st2 := []) (w3 := w) rfl rfl ?_
        refine sx_RP.step (pc2 := 43) (ls2 := [(3, .int ((nI j) + 1)), (2, .int ((hsF l c j) + 1)), (0, .ref 1), (1, .int (nI c))]) (st2 := []) (w3 := w) rfl rfl ?_
        rw [nI_1 j]
        refine sx_RP.step (pc2 := 4) (ls2 := [(3, .int (nI (j + 1))), (2, .int ((hsF l c j) + 1)), (0, .ref 1), (1, .int (nI c))]) (st2 := []) (w3 := w) rfl rfl ?_
        have e9 := hs_y (l := l) (c := c) (j := j) ⟨((hR.ga (i := j) (k := 5) (by rw [en, iN_n (by omega)]; omega) (by decide)).symm.trans ex3).trans (by rw [q4]; rfl), ((hR.ga (i := j) (k := 2) (by rw [en, iN_n (by omega)]; omega) (by decide)).symm.trans ex7).trans (by rw [q8])⟩
        rw [e9]
        exact sx_RP.ls (sx_lr.cons rfl (sx_lr.cons rfl (sx_lr.cons rfl (sx_lr.cons rfl sx_lr.nil)))) (x13L hI hR hc hn en q (j + 1) (by omega))
set_option maxRecDepth 20000 in
set_option maxHeartbeats 4000000 in
theorem x13 {xs : Option (List Int32)} {d : Nat} {w : List sx_C} (hI : WI w) {c n : Nat} {l : List Int32} (hR : rel w 1 l) (hc : c < 48) (hn : n ≤ 10) (en : l.getD 1 0 = nI n) : sx_RU xs d 13 0 (lv_args 0 [.ref 1, .int (nI c)]) [] w (some (.int (hsF l c n))) w := by
  have h : sx_RP xs d 13 0 (lv_args 0 [.ref 1, .int (nI c)]) [] w (fun r9 w2 => r9 = some (.int (hsF l c n)) ∧ w2 = w) := by
    refine sx_RP.step (pc2 := 1) (ls2 := [(0, .ref 1), (1, .int (nI c))]) (st2 := [.int 0]) (w3 := w) rfl rfl ?_
    refine sx_RP.step (pc2 := 2) (ls2 := [(2, .int 0), (0, .ref 1), (1, .int (nI c))]) (st2 := []) (w3 := w) rfl rfl ?_
    refine sx_RP.step (pc2 := 3) (ls2 := [(2, .int 0), (0, .ref 1), (1, .int (nI c))]) (st2 := [.int 0]) (w3 := w) rfl rfl ?_
    refine sx_RP.step (pc2 := 4) (ls2 := [(3, .int 0), (2, .int 0), (0, .ref 1), (1, .int (nI c))]) (st2 := []) (w3 := w) rfl rfl ?_
    exact sx_RP.ls (sx_lr.cons rfl (sx_lr.cons rfl (sx_lr.cons rfl (sx_lr.cons rfl sx_lr.nil)))) (x13L hI hR hc hn en n 0 (by omega))
  obtain ⟨r9, w2, h1, rfl, rfl⟩ := h
  exact h1
end
-- 89y41.bits.lean.txt
section
def cnN (f : Nat → Bool) : Nat → Nat
  | 0 => 0
  | n + 1 => cnN f n + (if f n = true then 1 else 0)
theorem ctP_cn {f : Nat → Bool} : ∀ n : Nat, ctP f n = nI (cnN f n)
  | 0 => rfl
  | n + 1 => by
    show ctP f n + (if f n = true then 1 else 0) = nI (cnN f n + (if f n = true then 1 else 0))
    rw [ctP_cn n]
    by_cases h : f n = true
    · rw [if_pos h, if_pos h]
      exact nI_add _ 1
    · rw [if_neg h, if_neg h]
      exact Int32.add_zero _
theorem cnN_le {f : Nat → Bool} : ∀ n : Nat, cnN f n ≤ n
  | 0 => Nat.le_refl 0
  | n + 1 => by
    have h := cnN_le (f := f) n
    show cnN f n + (if f n = true then 1 else 0) ≤ n + 1
    split <;> omega
end
-- 89y43.ansB.lean.txt
section
def GRo (l : List Int32) : Prop := ∀ c, c < 48 → ∃ s, s < 4 ∧ l.getD (7 + c) 0 = nI s
theorem GRo.of {w : List sx_C} (hI : WI w) : GRo (ia w 112) := fun c hc => by
  obtain ⟨s, hs, e⟩ := (hI.s (7 + c) (by omega)).2.2.1 (by omega)
  exact ⟨s, by omega, e⟩
theorem GRo.rel {w : List sx_C} {l : List Int32} (hI : WI w) (hR : rel w 1 l) : GRo l := fun c hc => by
  obtain ⟨s, hs, e⟩ : inR ((ia w (1 + 1)).getD c 0) 3 := hI.st (Or.inl rfl) hc
  exact ⟨s, by omega, (hR.gr hc).symm.trans e⟩
def Wk (w0 w : List sx_C) (wy su : List Int32) : Prop := (∀ a, a ≠ 117 → a ≠ 118 → w[a]? = w0[a]?) ∧ ia w 117 = wy ∧ ia w 118 = su
theorem Wk.f7 {w0 w w2 : List sx_C} {wy su : List Int32} {k : Nat} {v : Int32} (h : Wk w0 w wy su) (hs : Same 117 w w2) (hv : ia w2 117 = (ia w 117).set k v) : Wk w0 w2 (wy.set k v) su := ⟨fun a h1 h2 => (hs a h1).trans (h.1 a h1 h2), by rw [hv, h.2.1], (ia_of (hs 118 (by decide))).trans h.2.2⟩
theorem Wk.row {w0 w : List sx_C} {wy su : List Int32} (h : Wk w0 w wy su) : ia w 112 = ia w0 112 := ia_of (h.1 112 (by decide) (by decide))
section SXWK
variable {xs : Option (List Int32)} {d mi pc pc2 a idx p : Nat} {ls : sx_L} {r : List Value} {w w0 : List sx_C} {P : Option Value → List sx_C → Prop}
end SXWK
theorem nar_0 : vp_nar .boolean 0 = 0 := rfl
theorem nar_1 : vp_nar .boolean 1 = 1 := rfl
section SXW1
variable {kf : Nat → Int32} {c t : Nat} {wy : List Int32}
end SXW1
end
-- 89y44.meets.lean.txt
section
section SXME
variable {D : Nat → Nat} {h n : Nat}
end SXME
section SXNM
variable {D : Nat → Nat} {gr wl : Nat → Int32} {k y q n h : Nat} {dn e : Int32}
end SXNM
theorem dgT_hd {gr wl : Nat → Int32} {k h y : Nat} {dn e : Int32} (hh : h < 48) (hy : y < 4) : ∃ h2, h2 < 48 ∧ (dgT gr wl k h y dn e).1 = nI h2 := by
  unfold dgT
  rcases bsd_or hh hy with hb | ⟨t, ht, hb⟩
  · rw [if_pos hb]
    exact ⟨h, hh, rfl⟩
  · rw [if_neg (show ¬ bsd h y = -1 by rw [hb]; exact nI_ne1 (by omega))]
    split
    · exact ⟨h, hh, rfl⟩
    · split
      · exact ⟨t, ht, hb⟩
      · exact ⟨h, hh, rfl⟩
def NOo (l : List Int32) (N : Nat) : Prop := ∀ i, i < N → ¬ (gF l i 1 = 1 ∧ gF l i 5 = 0)
theorem meF_no {l : List Int32} {h : Nat} : ∀ j, NOo l j → meF l h j = false
  | 0, _ => rfl
  | j + 1, hn => by
    show (meF l h j || (decide (gF l j 1 = 1 ∧ gF l j 5 = 0) && nearB (iN (gF l j 2)) h)) = false
    rw [meF_no j (fun i hi => hn i (by omega)), decide_eq_false (hn j (by omega))]
    rfl
theorem metR_no {l : List Int32} {g : Nat} (hn : NOo l (maN l)) : metR l g = l := if_neg (fun z => by
  have z2 := z.2
  rw [meF_no _ hn] at z2
  exact absurd z2 (by decide))
theorem mtL_no {l : List Int32} (hn : NOo l (maN l)) : ∀ q j, mtL q j l = l
  | 0, _ => rfl
  | q + 1, j => by
    show mtL q (j + 1) (metR l j) = l
    rw [metR_no hn]
    exact mtL_no hn q (j + 1)
section SXDI
variable {l m : List Int32} {i j k c : Nat}
theorem gF_dig (hk : k < 6) (hij : i ≠ j) : gF (digR l j) i k = gF l i k := by
  unfold gF digR
  rw [gd_ne (by omega), gd_ne (by omega), gd_ne (by omega)]
theorem gF_digo (hk : k = 0 ∨ k = 1 ∨ k = 3) : gF (digR l j) j k = gF l j k := by
  unfold gF digR
  rw [gd_ne (by omega), gd_ne (by omega), gd_ne (by omega)]
theorem gF_dig2 (hl : l.length = 172) (hj : j < 10) : gF (digR l j) j 2 = (digT l j).1 := by
  unfold gF digR
  rw [gd_ne (by omega), gd_ne (by omega), gd_eq (by omega)]
theorem gF_dig4 (hl : l.length = 172) (hj : j < 10) : gF (digR l j) j 4 = (digT l j).2.1 := by
  unfold gF digR
  rw [gd_ne (by omega), gd_eq (by rw [List.length_set]; omega)]
theorem gF_dig5 (hl : l.length = 172) (hj : j < 10) : gF (digR l j) j 5 = (digT l j).2.2 := by
  unfold gF digR
  rw [gd_eq (by rw [List.length_set, List.length_set]; omega)]
theorem gd_dig (hc : c < 48) : gdL (digR l j) c = gdL l c := by
  unfold gdL digR
  rw [gd_ne (by omega), gd_ne (by omega), gd_ne (by omega)]
theorem wl_dig (hc : c < 48) : wlL (digR l j) c = wlL l c := by
  unfold wlL digR
  rw [gd_ne (by omega), gd_ne (by omega), gd_ne (by omega)]
theorem len_dig : (digR l j).length = l.length := by
  unfold digR
  rw [List.length_set, List.length_set, List.length_set]
theorem digT_cg (hg : ∀ c, c < 48 → gdL l c = gdL m c) (hw : ∀ c, c < 48 → wlL l c = wlL m c) (hf : ∀ k, k < 6 → gF l j k = gF m j k) (h2 : iN (gF m j 2) < 48) (h3 : iN (gF m j 3) < 4) : digT l j = digT m j := by
  unfold digT
  rw [hf 0 (by decide), hf 2 (by decide), hf 3 (by decide), hf 4 (by decide), hf 5 (by decide)]
  exact dgT_congr h2 h3 hg hw
end SXDI
def dg1 (l : List Int32) (j : Nat) : List Int32 := if gF l j 5 = 0 then digR l j else l
section SXD1
variable {l : List Int32} {i j k c : Nat}
theorem gF_dg1 (hk : k < 6) (hij : i ≠ j) : gF (dg1 l j) i k = gF l i k := by
  unfold dg1
  split
  · exact gF_dig hk hij
  · rfl
theorem gd_dg1 (hc : c < 48) : gdL (dg1 l j) c = gdL l c := by
  unfold dg1
  split
  · exact gd_dig hc
  · rfl
theorem wl_dg1 (hc : c < 48) : wlL (dg1 l j) c = wlL l c := by
  unfold dg1
  split
  · exact wl_dig hc
  · rfl
theorem len_dg1 : (dg1 l j).length = l.length := by
  unfold dg1
  split
  · exact len_dig
  · rfl
end SXD1
theorem dgL_s {q j : Nat} {l : List Int32} : dgL (q + 1) j l = dgL q (j + 1) (dg1 l j) := rfl
theorem dgL_lo : ∀ (q j : Nat) (l : List Int32) (i k : Nat), i < j → k < 6 → gF (dgL q j l) i k = gF l i k
  | 0, _, _, _, _, _, _ => rfl
  | q + 1, j, l, i, k, hi, hk => by rw [dgL_s, dgL_lo q (j + 1) _ i k (by omega) hk, gF_dg1 hk (by omega)]
theorem dgL_gd {c : Nat} (hc : c < 48) : ∀ (q j : Nat) (l : List Int32), gdL (dgL q j l) c = gdL l c
  | 0, _, _ => rfl
  | q + 1, j, l => by rw [dgL_s, dgL_gd hc q (j + 1), gd_dg1 hc]
theorem dgL_wl {c : Nat} (hc : c < 48) : ∀ (q j : Nat) (l : List Int32), wlL (dgL q j l) c = wlL l c
  | 0, _, _ => rfl
  | q + 1, j, l => by rw [dgL_s, dgL_wl hc q (j + 1), wl_dg1 hc]
theorem dgL_ln : ∀ (q j : Nat) (l : List Int32), (dgL q j l).length = l.length
  | 0, _, _ => rfl
  | q + 1, j, l => by rw [dgL_s, dgL_ln q (j + 1), len_dg1]
theorem dg1_cg {l m : List Int32} {i k : Nat} (hi : i < 10) (hk : k < 6) (hl : l.length = 172) (hm : m.length = 172) (hg : ∀ c, c < 48 → gdL l c = gdL m c) (hw : ∀ c, c < 48 → wlL l c = wlL m c) (hf : ∀ k, k < 6 → gF l i k = gF m i k) (h2 : iN (gF m i 2) < 48) (h3 : iN (gF m i 3) < 4) : gF (dg1 l i) i k = gF (dg1 m i) i k := by
  unfold dg1
  rw [hf 5 (by decide)]
  by_cases h5 : gF m i 5 = 0
  · rw [if_pos h5, if_pos h5]
    have et := digT_cg hg hw hf h2 h3
    rcases (show k = 0 ∨ k = 1 ∨ k = 2 ∨ k = 3 ∨ k = 4 ∨ k = 5 by omega) with rfl | rfl | rfl | rfl | rfl | rfl
    · rw [gF_digo (by omega), gF_digo (by omega), hf 0 (by decide)]
    · rw [gF_digo (by omega), gF_digo (by omega), hf 1 (by decide)]
    · rw [gF_dig2 hl hi, gF_dig2 hm hi, et]
    · rw [gF_digo (by omega), gF_digo (by omega), hf 3 (by decide)]
    · rw [gF_dig4 hl hi, gF_dig4 hm hi, et]
    · rw [gF_dig5 hl hi, gF_dig5 hm hi, et]
  · rw [if_neg h5, if_neg h5]
    exact hf k hk
theorem dgL_at : ∀ (q j : Nat) (l : List Int32) (i k : Nat), j ≤ i → i < j + q → i < 10 → k < 6 → l.length = 172 → iN (gF l i 2) < 48 → iN (gF l i 3) < 4 → gF (dgL q j l) i k = gF (dg1 l i) i k
  | 0, j, l, i, k, h1, h2, _, _, _, _, _ => absurd h1 (by omega)
  | q + 1, j, l, i, k, h1, h2, hi, hk, hl, a2, a3 => by
    rw [dgL_s]
    by_cases e : i = j
    · subst e
      exact dgL_lo q (i + 1) _ i k (by omega) hk
    · have e2 : gF (dg1 l j) i 2 = gF l i 2 := gF_dg1 (by decide) e
      have e3 : gF (dg1 l j) i 3 = gF l i 3 := gF_dg1 (by decide) e
      rw [dgL_at q (j + 1) _ i k (by omega) (by omega) hi hk (len_dg1.trans hl) (by rw [e2]; exact a2) (by rw [e3]; exact a3)]
      exact dg1_cg hi hk (len_dg1.trans hl) hl (fun c hc => gd_dg1 hc) (fun c hc => wl_dg1 hc) (fun k hk => gF_dg1 hk e) a2 a3
def Mi (gr wl : Nat → Int32) (N t k y : Nat) (m : List Int32) (h : Nat) (dn e : Int32) : Prop := m.length = 172 ∧ m.getD 1 0 = nI N ∧ (∀ c, c < 48 → gdL m c = gr c ∧ wlL m c = wl c) ∧ NOo m N ∧ (gF m t 0 = nI k ∧ gF m t 2 = nI h ∧ gF m t 3 = nI y ∧ gF m t 4 = dn ∧ gF m t 5 = e) ∧ ¬ gF m t 1 = 1
theorem gF_s0 {l : List Int32} {v : Int32} {i k : Nat} : gF (l.set 0 v) i k = gF l i k := by
  unfold gF
  rw [gd_ne (by omega)]
theorem Mi.night {gr wl : Nat → Int32} {N t k y hd : Nat} {m : List Int32} {dn e : Int32} (h : Mi gr wl N t k y m hd dn e) (hN : N ≤ 10) (ht : t < N) (hh : hd < 48) (hy : y < 4) (hk : k < 6) (he : e = 0) (hm : ∀ i, i < N → iN (gF m i 2) < 48 ∧ iN (gF m i 3) < 4) : ∃ h2, h2 < 48 ∧ (dgT gr wl k hd y dn e).1 = nI h2 ∧ Mi gr wl N t k y (nigR m) h2 (dgT gr wl k hd y dn e).2.1 (dgT gr wl k hd y dn e).2.2 := by
  obtain ⟨hl, h1, hg, hno, ⟨f0, f2, f3, f4, f5⟩, hs⟩ := h
  have eN : maN m = N := maN_n h1 hN
  have at1 : ∀ i, i < N → ∀ k, k < 6 → gF (dgL N 0 m) i k = gF (dg1 m i) i k := fun i hi k hk => dgL_at N 0 m i k (by omega) (by omega) (by omega) hk hl (hm i hi).1 (hm i hi).2
  have hno2 : NOo (dgL N 0 m) N := by
    intro i hi z
    rw [at1 i hi 1 (by decide), at1 i hi 5 (by decide)] at z
    unfold dg1 at z
    by_cases h5 : gF m i 5 = 0
    · rw [if_pos h5, gF_digo (by omega)] at z
      exact hno i hi ⟨z.1, h5⟩
    · rw [if_neg h5] at z
      exact h5 z.2
  have eN2 : maN (dgL N 0 m) = N := maN_n ((dgL_1 N 0 m).trans h1) hN
  have en : nigR m = (dgL N 0 m).set 0 ((dgL N 0 m).getD 0 0 + 1) := by
    unfold nigR
    rw [eN, mtL_no (by rw [eN2]; exact hno2)]
  have et : digT m t = dgT gr wl k hd y dn e := by
    unfold digT
    rw [f0, f2, f3, f4, f5, iN_n (by omega), iN_n (by omega), iN_n (by omega)]
    exact dgT_congr hh hy (fun c hc => (hg c hc).1) (fun c hc => (hg c hc).2)
  have atT : ∀ k, k < 6 → gF (nigR m) t k = gF (digR m t) t k := by
    intro k hk
    rw [en, gF_s0, at1 t ht k hk]
    unfold dg1
    rw [if_pos (by rw [f5]; exact he)]
  obtain ⟨h2, hh2, e2⟩ := dgT_hd (gr := gr) (wl := wl) (k := k) (dn := dn) (e := e) hh hy
  refine ⟨h2, hh2, e2, ?_, ?_, fun c hc => ?_, fun i hi => ?_, ⟨?_, ?_, ?_, ?_, ?_⟩, ?_⟩
  · rw [en, List.length_set, dgL_ln]
    exact hl
  · exact nigR_1.trans h1
  · rw [en]
    unfold gdL wlL
    rw [gd_ne (by omega), gd_ne (by omega)]
    exact ⟨(dgL_gd hc N 0 m).trans (hg c hc).1, (dgL_wl hc N 0 m).trans (hg c hc).2⟩
  · rw [en, gF_s0, gF_s0]
    exact hno2 i hi
  · rw [atT 0 (by decide), gF_digo (by omega)]
    exact f0
  · rw [atT 2 (by decide), gF_dig2 hl (by omega), et]
    exact e2
  · rw [atT 3 (by decide), gF_digo (by omega)]
    exact f3
  · rw [atT 4 (by decide), gF_dig4 hl (by omega), et]
  · rw [atT 5 (by decide), gF_dig5 hl (by omega), et]
  · rw [atT 1 (by decide), gF_digo (by omega)]
    exact hs
section SXO1
variable {l : List Int32} {i j k p : Nat}
end SXO1
section SXMA
variable {l : List Int32} {a1 a2 : Int32} {n x t : Nat}
end SXMA
section SXWF
variable {f : Nat → Int32} {q j : Nat} {s b : Int32}
end SXWF
section SXWO
variable {l : List Int32} {a1 : Int32} {n x : Nat}
end SXWO
end
-- 89y45.ansC.lean.txt
section
theorem Mi.wb {gr wl : Nat → Int32} {N t k y h : Nat} {m : List Int32} {dn e : Int32} (hm : Mi gr wl N t k y m h dn e) (hW : ∀ c, c < 48 → ∃ b, b < 2 ∧ wl c = nI b) : WB m := fun c hc => by
  obtain ⟨b, hb, eb⟩ := hW c hc
  exact ⟨b, hb, (hm.2.2.1 c hc).2.trans eb⟩
end
-- 89y46.where.lean.txt
section
def heV (l : List Int32) (k c t : Nat) : Int32 := ldV k (iN (l.getD (7 + c) 0)) / nI (1 + farN (gdR l) c t)
def dtN (l : List Int32) (d : Nat) : Nat := iN (l.getD (163 + d) 0)
def acB (l : List Int32) (k c : Nat) : Nat → Bool
  | 0 => true
  | j + 1 => acB l k c j && decide (heV l k c (dtN l j) = dpF l j)
def whB (l : List Int32) (k c : Nat) : Bool := acB l k c (iN (l.getD 2 0))
section SXAB
variable {l : List Int32} {k c j : Nat}
theorem acB_y (h : acB l k c j = true) (h2 : heV l k c (dtN l j) = dpF l j) : acB l k c (j + 1) = true := by
  show (acB l k c j && decide (heV l k c (dtN l j) = dpF l j)) = true
  rw [h, decide_eq_true h2]
  rfl
theorem acB_n (h2 : ¬ heV l k c (dtN l j) = dpF l j) : acB l k c (j + 1) = false := by
  show (acB l k c j && decide (heV l k c (dtN l j) = dpF l j)) = false
  rw [decide_eq_false h2, Bool.and_false]
theorem acB_0 (h : acB l k c j = false) : acB l k c (j + 1) = false := by
  show (acB l k c j && decide (heV l k c (dtN l j) = dpF l j)) = false
  rw [h, Bool.false_and]
theorem acB_dn (h : acB l k c j = false) : ∀ m : Nat, j ≤ m → acB l k c m = false
  | 0, hm => by
    obtain rfl : j = 0 := by omega
    exact h
  | m + 1, hm => by
    by_cases e : j = m + 1
    · rw [← e]
      exact h
    · exact acB_0 (acB_dn h m (by omega))
theorem whB_n {m : Nat} (em : l.getD 2 0 = nI m) (hm : m ≤ 9) : whB l k c = acB l k c m := by
  unfold whB
  rw [em, iN_n (by omega)]
theorem dtN_n {d t : Nat} (ht : t < 48) (e : l.getD (163 + d) 0 = nI t) : dtN l d = t := by
  unfold dtN
  rw [e, iN_n (by omega)]
theorem dpF_n {d t : Nat} (ht : t < 48) (e : l.getD (163 + d) 0 = nI t) : dpF l d = pesF l t := by
  unfold dpF
  rw [e, iN_n (by omega)]
theorem heV_n {t s : Nat} (hs : s < 4) (es : l.getD (7 + c) 0 = nI s) : heV l k c t = ldV k s / nI (1 + farN (gdR l) c t) := by
  unfold heV
  rw [es, iN_n (by omega)]
end SXAB
theorem bit_or0w {v : Int64} {j : Nat} : bitL (v ||| 0) j = bitL v j := by
  unfold bitL
  rw [Int64.toBitVec_or, BitVec.getLsbD_or, show ((0 : Int64)).toBitVec = 0#64 from rfl, BitVec.getLsbD_zero, Bool.or_false]
def wsN (f : Nat → Bool) : Nat → Int64
  | 0 => 0
  | n + 1 => wsN f n ||| (if f n = true then (1 : Int64) <<< ((nI n).toInt64 &&& 63) else 0)
theorem wsN_bit {f : Nat → Bool} : ∀ (n : Nat), n ≤ 48 → ∀ j, j < 64 → bitL (wsN f n) j = (ltB n j && f j)
  | 0, _, j, _ => by
    show bitL 0 j = _
    rw [bit_0, ltB_n (by omega)]
    rfl
  | n + 1, h, j, hj => by
    show bitL (wsN f n ||| _) j = _
    have ih := wsN_bit (f := f) n (by omega) j hj
    by_cases e : f n = true
    · rw [if_pos e, bit_or (by omega), ih]
      by_cases c : n = j
      · rw [decide_eq_true c, Bool.or_true, ← c, ltB_y (by omega), e]
        rfl
      · rw [decide_eq_false c, Bool.or_false, ltB_ne (Ne.symm c)]
    · have e2 : f n = false := by cases h2 : f n with | false => rfl | true => exact absurd h2 e
      rw [if_neg e, bit_or0w, ih]
      by_cases c : n = j
      · rw [← c, e2, Bool.and_false, Bool.and_false]
      · rw [ltB_ne (Ne.symm c)]
theorem i64_exw {a b : Int64} (h : ∀ c, c < 64 → bitL a c = bitL b c) : a = b := Int64.toBitVec_inj.mp (BitVec.eq_of_getLsbD_eq (fun i hi => h i hi))
theorem wsN_y {f : Nat → Bool} {n : Nat} (h : f n = true) : wsN f n ||| ((1 : Int64) <<< ((nI n).toInt64 &&& 63)) = wsN f (n + 1) := by
  show _ = wsN f n ||| (if f n = true then (1 : Int64) <<< ((nI n).toInt64 &&& 63) else 0)
  rw [if_pos h]
theorem wsN_n {f : Nat → Bool} {n : Nat} (h : f n = false) : wsN f n = wsN f (n + 1) := by
  show _ = wsN f n ||| (if f n = true then (1 : Int64) <<< ((nI n).toInt64 &&& 63) else 0)
  rw [if_neg (by rw [h]; decide)]
  exact i64_exw (fun c hc => bit_or0w.symm)
theorem cnN_0 {f : Nat → Bool} : ∀ n : Nat, cnN f n = 0 ↔ ∀ i, i < n → f i = false
  | 0 => ⟨fun _ i hi => absurd hi (by omega), fun _ => rfl⟩
  | n + 1 => by
    show cnN f n + (if f n = true then 1 else 0) = 0 ↔ _
    constructor
    · intro h i hi
      have h1 : cnN f n = 0 := by omega
      by_cases e : i = n
      · rw [e]
        cases h2 : f n with
        | false => rfl
        | true =>
          rw [if_pos h2] at h
          omega
      · exact (cnN_0 n).mp h1 i (by omega)
    · intro h
      rw [(cnN_0 n).mpr (fun i hi => h i (by omega)), if_neg (by rw [h n (by omega)]; decide)]
theorem ct_0 {f : Nat → Bool} : ctP f 48 = 0 ↔ ∀ i, i < 48 → f i = false := by
  have hl := cnN_le (f := f) 48
  rw [ctP_cn, ← cnN_0 48]
  exact nI_eq (b := 0) (by omega) (by decide)
theorem ws_0 {f : Nat → Bool} : wsN f 48 = 0 ↔ ctP f 48 = 0 := by
  rw [ct_0]
  constructor
  · intro h i hi
    have e := wsN_bit (f := f) 48 (by omega) i (by omega)
    rw [h, bit_0, ltB_y hi, Bool.true_and] at e
    exact e.symm
  · intro h
    refine i64_exw (fun c hc => ?_)
    rw [wsN_bit 48 (by omega) c hc, bit_0]
    by_cases h2 : c < 48
    · rw [h c h2, Bool.and_false]
    · rw [ltB_n h2, Bool.false_and]
def lfV (l : List Int32) (k c : Nat) : Int32 := ctP (fun h => whB l k h && decide (heV l k h c = pesF l c)) 48
def bsF (f : Nat → Int32) : Nat → Nat → Int32 → Int32 → Int32
  | 0, _, _, b => b
  | q + 1, j, s, b => if f j < s then bsF f q (j + 1) (f j) (nI j) else bsF f q (j + 1) s b
theorem bs_y {f : Nat → Int32} {q j : Nat} {s b : Int32} (h : f j < s) : bsF f (q + 1) j s b = bsF f q (j + 1) (f j) (nI j) := if_pos h
theorem bs_n {f : Nat → Int32} {q j : Nat} {s b : Int32} (h : ¬ f j < s) : bsF f (q + 1) j s b = bsF f q (j + 1) s b := if_neg h
theorem lfV_49 {l : List Int32} {k c : Nat} : lfV l k c < 49 := by
  unfold lfV
  have h := cnN_le (f := fun h => whB l k h && decide (heV l k h c = pesF l c)) 48
  rw [ctP_cn]
  exact (nI_ltI (b := 49) (by omega) (by decide)).mpr (by omega)
section SXLF
variable {l : List Int32} {k c j : Nat}
theorem lfz_y (h1 : whB l k j = true) (h2 : heV l k j c = pesF l c) : ctP (fun h => whB l k h && decide (heV l k h c = pesF l c)) j + 1 = ctP (fun h => whB l k h && decide (heV l k h c = pesF l c)) (j + 1) := by
  show _ = ctP (fun h => whB l k h && decide (heV l k h c = pesF l c)) j + (if (whB l k j && decide (heV l k j c = pesF l c)) = true then 1 else 0)
  rw [h1, decide_eq_true h2]
  rfl
theorem lfz_1 (h1 : whB l k j = false) : ctP (fun h => whB l k h && decide (heV l k h c = pesF l c)) j = ctP (fun h => whB l k h && decide (heV l k h c = pesF l c)) (j + 1) := by
  show _ = ctP (fun h => whB l k h && decide (heV l k h c = pesF l c)) j + (if (whB l k j && decide (heV l k j c = pesF l c)) = true then 1 else 0)
  rw [h1, Bool.false_and, if_neg (by decide), Int32.add_zero]
theorem lfz_2 (h2 : ¬ heV l k j c = pesF l c) : ctP (fun h => whB l k h && decide (heV l k h c = pesF l c)) j = ctP (fun h => whB l k h && decide (heV l k h c = pesF l c)) (j + 1) := by
  show _ = ctP (fun h => whB l k h && decide (heV l k h c = pesF l c)) j + (if (whB l k j && decide (heV l k j c = pesF l c)) = true then 1 else 0)
  rw [decide_eq_false h2, Bool.and_false, if_neg (by decide), Int32.add_zero]
end SXLF
theorem nI_bk2 {a b c d : Nat} (h : a + b = d + c) : nI a - nI c + nI b = nI d := by
  rw [Int32.sub_eq_add_neg, Int32.add_assoc, Int32.add_comm (-nI c), ← Int32.sub_eq_add_neg]
  exact nI_back h
def bstA (l : List Int32) (a1 : Int32) : Int32 := if 0 ≤ a1 ∧ a1 ≤ 5 then (if l.getD 2 0 = 0 ∨ ctP (whB l (iN a1)) 48 = 0 then -1000000004 else (if l.getD 2 0 = 9 then -1000000002 else bsF (lfV l (iN a1)) 48 0 49 0)) else -1000000001
section SXWB
variable {l : List Int32} {a1 : Int32} {k : Nat}
theorem kin5 (hk : k ≤ 5) : 0 ≤ nI k ∧ nI k ≤ 5 := ⟨nI_le (a := 0) (Nat.zero_le _) (by omega), nI_le (b := 5) (by omega) (by decide)⟩
theorem bstA_1 (h : ¬ (0 ≤ a1 ∧ a1 ≤ 5)) : bstA l a1 = -1000000001 := if_neg h
theorem bstA_2 (hk : k ≤ 5) (h : l.getD 2 0 = 0 ∨ ctP (whB l k) 48 = 0) : bstA l (nI k) = -1000000004 := by
  unfold bstA
  rw [if_pos (kin5 hk), iN_n (by omega), if_pos h]
theorem bstA_3 (hk : k ≤ 5) (h : ¬ (l.getD 2 0 = 0 ∨ ctP (whB l k) 48 = 0)) (h9 : l.getD 2 0 = 9) : bstA l (nI k) = -1000000002 := by
  unfold bstA
  rw [if_pos (kin5 hk), iN_n (by omega), if_neg h, if_pos h9]
theorem bstA_y (hk : k ≤ 5) (h : ¬ (l.getD 2 0 = 0 ∨ ctP (whB l k) 48 = 0)) (h9 : ¬ l.getD 2 0 = 9) : bstA l (nI k) = bsF (lfV l k) 48 0 49 0 := by
  unfold bstA
  rw [if_pos (kin5 hk), iN_n (by omega), if_neg h, if_neg h9]
end SXWB
end
-- 89y47.ansD.lean.txt
section
def Snd (l : List Int32) (w : List sx_C) : Prop := rel w 1 l ∧ FIT w 1 ∧ SK w
theorem Snd.same {l : List Int32} {w w2 : List sx_C} (h : Snd l w) (hI : WI w) (hs : ∀ a, (a < 29 ∨ (44 ≤ a ∧ a < 96)) → w2[a]? = w[a]?) : Snd l w2 := ⟨h.1.same hI (Or.inl rfl) (fun a h1 h2 => hs a (by omega)), fun c hc => by rw [ia_of (hs 45 (by omega)), ia_of (hs (1 + 1) (by omega))]; exact h.2.1 c hc, h.2.2.same (fun a h1 h2 => hs a (by omega))⟩
section SXWX
variable {xs : Option (List Int32)} {d mi pc pc2 a idx p : Nat} {ls : sx_L} {r : List Value} {w w0 : List sx_C} {P : Option Value → List sx_C → Prop}
theorem sx_RP.xF2 {k : Nat} {x : Int32} (hI : WI w) (hi : sx_ins mi pc = some (.iastore, 1)) (hk : k < 9) (hp : pc + 1 = pc2) (kk : ∀ w2, WI w2 → Same 102 w w2 → ia w2 102 = (ia w 102).set k x → sx_RP xs d mi pc2 ls r w2 P) : sx_RP xs d mi pc ls (.int x :: .int (nI k) :: .ref 102 :: r) w P := by
  have h := hI.1.a102
  exact sx_RP.ist hi h.1 h.2 (sx_in_nI hk (by decide)) (nI_clamp (by omega)) rfl hp (kk _ (hI.set h.1 sh_set (cOK.free (by omega))) Same.set (ia_set h.1))
theorem sx_RP.xF9 {k : Nat} {x : Int32} (hI : WI w) (hi : sx_ins mi pc = some (.iastore, 1)) (hk : k < 9) (hp : pc + 1 = pc2) (kk : ∀ w2, WI w2 → Same 119 w w2 → ia w2 119 = (ia w 119).set k x → sx_RP xs d mi pc2 ls r w2 P) : sx_RP xs d mi pc ls (.int x :: .int (nI k) :: .ref 119 :: r) w P := by
  have h := hI.1.a119
  exact sx_RP.ist hi h.1 h.2 (sx_in_nI hk (by decide)) (nI_clamp (by omega)) rfl hp (kk _ (hI.set h.1 sh_set (cOK.free (by omega))) Same.set (ia_set h.1))
theorem sx_RP.xB0 {k : Nat} {x : Int32} (hI : WI w) (hi : sx_ins mi pc = some (.bastore, 1)) (hk : k < 48) (hp : pc + 1 = pc2) (kk : ∀ w2, WI w2 → Same 120 w w2 → ia w2 120 = (ia w 120).set k (vp_nar .boolean x) → sx_RP xs d mi pc2 ls r w2 P) : sx_RP xs d mi pc ls (.int x :: .int (nI k) :: .ref 120 :: r) w P := by
  have h := hI.1.a120
  exact sx_RP.bst1 hi h.1 h.2 (sx_in_nI hk (by decide)) (nI_clamp (by omega)) rfl hp (kk _ (hI.set h.1 sh_set (cOK.free (by omega))) Same.set (ia_set h.1))
end SXWX
def FRm (w0 w : List sx_C) : Prop := ∀ a, a ≠ 117 → a ≠ 118 → a ≠ 119 → a ≠ 120 → w[a]? = w0[a]?
theorem heV_c {w : List sx_C} {l : List Int32} (hR : rel w 1 l) {k c t j : Nat} (hc : c < 48) (ht : dtN l j = t) : ldV k (iN ((ia w (1 + 1)).getD c 0)) / nI (1 + farN (gdR l) c t) = heV l k c (dtN l j) := by
  unfold heV
  rw [hR.gr hc, ht]
theorem x146n {xs : Option (List Int32)} {d : Nat} {w : List sx_C} (hI : WI w) {c : Nat} (hc : c < 48) : sx_RU xs d 146 0 (lv_args 0 [.ref 111, .int (nI c)]) [] w (some (.int (nI (iN (gk (gdR (ia w 112)) c))))) w := by
  obtain ⟨j, ⟨h1, h2, e⟩, h3⟩ := l146 (xs := xs) (d := d) hI hc
  have eg : gk (gdR (ia w 112)) c = nI j := by
    unfold gk
    rw [gdR_at hc]
    exact e
  rw [eg, iN_n (by omega)]
  exact h3
set_option maxRecDepth 20000 in
set_option maxHeartbeats 4000000 in
theorem X73L {xs : Option (List Int32)} {d m k c : Nat} {w0 : List sx_C} {l : List Int32} (hk : k ≤ 5) (hc : c < 48) (hm : m ≤ 9) (em : l.getD 2 0 = nI m) (hP : ∀ d, d < m → (ia w0 102).getD d 0 = dpF l d) : ∀ (q j : Nat) (w : List sx_C), j + q = m → WI w → Snd l w → (∀ a, (a < 44 ∨ 96 ≤ a) → w[a]? = w0[a]?) → acB l k c j = true → sx_RP xs (d + 4) 73 2 [(0, .ref 0), (1, .int (nI k)), (2, .int (nI c)), (3, .int (nI j))] [] w (fun r w2 => ((r = some (.int 1) ∧ acB l k c m = true) ∨ (r = some (.int 0) ∧ acB l k c m = false)) ∧ WI w2 ∧ Snd l w2 ∧ ∀ a, (a < 44 ∨ 96 ≤ a) → w2[a]? = w0[a]?)
  | 0, j, w, hj, hI, hS, hO, hA => by
    obtain rfl : j = m := by omega
    have em1 : fi w 1 5 = nI j := hS.1.dished.trans em
    refine sx_RP.step (pc2 := 3) (ls2 := [(0, .ref 0), (1, .int (nI k)), (2, .int (nI c)), (3, .int (nI j))]) (st2 := [.int (nI j)]) (w3 := w) rfl rfl ?_
    refine sx_RP.step (pc2 := 4) (ls2 := [(0, .ref 0), (1, .int (nI k)), (2, .int (nI c)), (3, .int (nI j))]) (st2 := [.ref 0, .int (nI j)]) (w3 := w) rfl rfl ?_
    refine sx_RP.gf (v := .ref 1) rfl rfl hI.1.o0 rfl rfl (show _ = 7 from rfl) ?_
    refine sx_RP.gc (k := 5) hI (Or.inl rfl) rfl rfl (by omega) (show _ = 10 from rfl) ?_
    rw [em1]
    refine sx_RP.br (p1 := 52) (l1 := [(0, .ref 0), (1, .int (nI k)), (2, .int (nI c)), (3, .int (nI j))]) (s1 := []) (v1 := w) rfl rfl (fun _ => ?_) (fun q => absurd (nI_le (a := j) (b := j) (by omega) (by omega)) (of_decide_eq_false q))
    refine sx_RP.step (pc2 := 53) (ls2 := [(0, .ref 0), (1, .int (nI k)), (2, .int (nI c)), (3, .int (nI j))]) (st2 := [.int 1]) (w3 := w) rfl rfl ?_
    refine sx_RP.ret (r := (some (.int 1))) rfl rfl ?_
    exact ⟨Or.inl ⟨rfl, hA⟩, hI, hS, hO⟩
  | q + 1, j, w, hj, hI, hS, hO, hA => by
    have em1 : fi w 1 5 = nI m := hS.1.dished.trans em
    refine sx_RP.step (pc2 := 3) (ls2 := [(0, .ref 0), (1, .int (nI k)), (2, .int (nI c)), (3, .int (nI j))]) (st2 := [.int (nI j)]) (w3 := w) rfl rfl ?_
    refine sx_RP.step (pc2 := 4) (ls2 := [(0, .ref 0), (1, .int (nI k)), (2, .int (nI c)), (3, .int (nI j))]) (st2 := [.ref 0, .int (nI j)]) (w3 := w) rfl rfl ?_
    refine sx_RP.gf (v := .ref 1) rfl rfl hI.1.o0 rfl rfl (show _ = 7 from rfl) ?_
    refine sx_RP.gc (k := 5) hI (Or.inl rfl) rfl rfl (by omega) (show _ = 10 from rfl) ?_
    rw [em1]
    refine sx_RP.br (p2 := 13) (l2 := [(0, .ref 0), (1, .int (nI k)), (2, .int (nI c)), (3, .int (nI j))]) (s2 := []) (v2 := w) rfl rfl (fun q => absurd (of_decide_eq_true q) (fun z => absurd ((nI_leI (a := m) (b := j) (by omega) (by omega)).mp z) (by omega))) (fun _ => ?_)
    refine sx_RP.step (pc2 := 14) (ls2 := [(0, .ref 0), (1, .int (nI k)), (2, .int (nI c)), (3, .int (nI j))]) (st2 := [.ref 0]) (w3 := w) rfl rfl ?_
    refine sx_RP.step (pc2 := 15) (ls2 := [(0, .ref 0), (1, .int (nI k)), (2, .int (nI c)), (3, .int (nI j))]) (st2 := [.int (nI k), .ref 0]) (w3 := w) rfl rfl ?_
    refine sx_RP.step (pc2 := 16) (ls2 := [(0, .ref 0), (1, .int (nI k)), (2, .int (nI c)), (3, .int (nI j))]) (st2 := [.int (nI c), .int (nI k), .ref 0]) (w3 := w) rfl rfl ?_
    refine sx_RP.step (pc2 := 17) (ls2 := [(0, .ref 0), (1, .int (nI k)), (2, .int (nI c)), (3, .int (nI j))]) (st2 := [.ref 0, .int (nI c), .int (nI k), .ref 0]) (w3 := w) rfl rfl ?_
    refine sx_RP.gf (v := .ref 44) rfl rfl hI.1.o0 rfl rfl (show _ = 20 from rfl) ?_
    refine sx_RP.step (pc2 := 21) (ls2 := [(0, .ref 0), (1, .int (nI k)), (2, .int (nI c)), (3, .int (nI j))]) (st2 := [.ref 0, .ref 44, .int (nI c), .int (nI k), .ref 0]) (w3 := w) rfl rfl ?_
    refine sx_RP.gf (v := .ref 1) rfl rfl hI.1.o0 rfl rfl (show _ = 24 from rfl) ?_
    refine sx_RP.gref (k := 4) (b := 4) hI (Or.inl rfl) rfl rfl (by omega) (show _ = 27 from rfl) ?_
    refine sx_RP.step (pc2 := 28) (ls2 := [(0, .ref 0), (1, .int (nI k)), (2, .int (nI c)), (3, .int (nI j))]) (st2 := [.int (nI j), .ref 4, .ref 44, .int (nI c), .int (nI k), .ref 0]) (w3 := w) rfl rfl ?_
    refine sx_RP.ild (c := j) rfl (hI.1.aD (Or.inl rfl)).1 (hI.1.aD (Or.inl rfl)).2 (sx_in_nI (show j < 9 by omega) (by decide)) (show (nI j).toNatClampNeg = j from nI_clamp (by omega)) (show _ = 29 from rfl) ?_
    obtain ⟨x1, hx2, ex3⟩ : inR ((ia w 4).getD j 0) 47 := hI.di (Or.inl rfl) (show j < 9 by omega)
    rw [ex3]
    have eT : l.getD (163 + j) 0 = nI x1 := (hS.1.di (by rw [em, iN_n (by omega)]; omega)).symm.trans ex3
    refine sx_RP.callp (as2 := [.ref 44, .int (nI x1)]) (rest2 := [.int (nI c), .int (nI k), .ref 0]) rfl rfl (sx_inv_v2 (mi := 73) (k := 99) (st := [.int (nI x1), .ref 44, .int (nI c), .int (nI k), .ref 0]) (w := w) rfl rfl hI.1.o44 rfl rfl rfl) rfl rfl rfl (G17 hI (show x1 < 48 by omega)) (show _ = 32 from rfl) ?_
    rintro r4 w7 ⟨rfl, hI8, hS4, hx5, hf6⟩
    show sx_RP _ _ _ _ _ [.ref (47 + x1), .int (nI c), .int (nI k), .ref 0] _ _
    have hR9 : rel w7 1 l := hS.1.same hI (Or.inl rfl) (fun a h1 h2 => hf6 a (by omega))
    have hF10 : FIT w7 1 := fun c hc => by rw [hx5.1, ia_of (hf6 (1 + 1) (by omega))]; exact hS.2.1 c hc
    have hK11 : SK w7 := hS4.2 hS.2.2
    have hw12 : ∀ f, f < 48 → (ia w7 (47 + x1)).getD f 0 = nI (farN (gdR l) f x1) := fun f hf => by rw [hx5.2 hS.2.2 hS.2.1.ls f hf, fit_far hS.2.1 hS.1 hf (by omega)]
    have hp9 : (ia w7 102).getD j 0 = dpF l j := by rw [ia_of (hf6 102 (by omega)), ia_of (hO 102 (by omega))]; exact hP j (by omega)
    have eH := heV_c (k := k) (c := c) (t := x1) (j := j) hR9 (show c < 48 by omega) (dtN_n (show x1 < 48 by omega) eT)
    refine sx_RP.cu (as := [.ref 0, .int (nI k), .int (nI c), .ref (47 + x1)]) (rest2 := []) (st3 := [.int (heV l k c (dtN l j))]) rfl rfl (sx_inv_v2 (mi := 73) (k := 235) (st := [.ref (47 + x1), .int (nI c), .int (nI k), .ref 0]) (w := w7) rfl rfl hI8.1.o0 rfl rfl rfl) rfl rfl ((by have z := x69 (xs := xs) (d := d + 1) hI8 (show k ≤ 5 by omega) (show c < 48 by omega) (show x1 < 48 by omega) (far_fin _ (show c < 48 by omega) (show x1 < 48 by omega)) (hw12 c (by omega)); rw [eH] at z; exact z)) rfl ?_
    refine sx_RP.step (pc2 := 36) (ls2 := [(0, .ref 0), (1, .int (nI k)), (2, .int (nI c)), (3, .int (nI j))]) (st2 := [.ref 0, .int (heV l k c (dtN l j))]) (w3 := w7) rfl rfl ?_
    refine sx_RP.gf (v := .ref 102) rfl rfl hI8.1.o0 rfl rfl (show _ = 39 from rfl) ?_
    refine sx_RP.step (pc2 := 40) (ls2 := [(0, .ref 0), (1, .int (nI k)), (2, .int (nI c)), (3, .int (nI j))]) (st2 := [.int (nI j), .ref 102, .int (heV l k c (dtN l j))]) (w3 := w7) rfl rfl ?_
    refine sx_RP.ild (c := j) rfl hI8.1.a102.1 hI8.1.a102.2 (sx_in_nI (show j < 9 by omega) (by decide)) (show (nI j).toNatClampNeg = j from nI_clamp (by omega)) (show _ = 41 from rfl) ?_
    rw [hp9]
    refine sx_RP.br (p1 := 46) (l1 := [(0, .ref 0), (1, .int (nI k)), (2, .int (nI c)), (3, .int (nI j))]) (s1 := []) (v1 := w7) (p2 := 44) (l2 := [(0, .ref 0), (1, .int (nI k)), (2, .int (nI c)), (3, .int (nI j))]) (s2 := []) (v2 := w7) rfl rfl (fun q13 => ?_) (fun q13 => ?_)
    · replace q13 := of_decide_eq_true q13
      refine sx_RP.step (pc2 := 49) (ls2 := [(3, .int ((nI j) + 1)), (0, .ref 0), (1, .int (nI k)), (2, .int (nI c))]) (st2 := []) (w3 := w7) rfl rfl ?_
      rw [nI_1 j]
      refine sx_RP.step (pc2 := 2) (ls2 := [(3, .int (nI (j + 1))), (0, .ref 0), (1, .int (nI k)), (2, .int (nI c))]) (st2 := []) (w3 := w7) rfl rfl ?_
      exact sx_RP.ls (sx_lr.cons rfl (sx_lr.cons rfl (sx_lr.cons rfl (sx_lr.cons rfl sx_lr.nil)))) (X73L hk hc hm em hP q (j + 1) w7 (by omega) hI8 ⟨hR9, hF10, hK11⟩ (fun a ha => (hf6 a ha).trans (hO a ha)) (acB_y hA q13))
    · replace q13 := of_decide_eq_false q13
      refine sx_RP.step (pc2 := 45) (ls2 := [(0, .ref 0), (1, .int (nI k)), (2, .int (nI c)), (3, .int (nI j))]) (st2 := [.int 0]) (w3 := w7) rfl rfl ?_
      refine sx_RP.ret (r := (some (.int 0))) rfl rfl ?_
      exact ⟨Or.inr ⟨rfl, acB_dn (acB_n q13) m (by omega)⟩, hI8, ⟨hR9, hF10, hK11⟩, (fun a ha => (hf6 a ha).trans (hO a ha))⟩
set_option maxRecDepth 20000 in
set_option maxHeartbeats 4000000 in
theorem X73 {xs : Option (List Int32)} {d : Nat} {w : List sx_C} (hI : WI w) {m k c : Nat} {l : List Int32} (hS : Snd l w) (hk : k ≤ 5) (hc : c < 48) (hm : m ≤ 9) (em : l.getD 2 0 = nI m) (hP : ∀ d, d < m → (ia w 102).getD d 0 = dpF l d) : sx_RP xs (d + 4) 73 0 (lv_args 0 [.ref 0, .int (nI k), .int (nI c)]) [] w (fun r w2 => ((r = some (.int 1) ∧ whB l k c = true) ∨ (r = some (.int 0) ∧ whB l k c = false)) ∧ WI w2 ∧ Snd l w2 ∧ ∀ a, (a < 44 ∨ 96 ≤ a) → w2[a]? = w[a]?) := by
  refine sx_RP.step (pc2 := 1) (ls2 := [(0, .ref 0), (1, .int (nI k)), (2, .int (nI c))]) (st2 := [.int 0]) (w3 := w) rfl rfl ?_
  refine sx_RP.step (pc2 := 2) (ls2 := [(3, .int 0), (0, .ref 0), (1, .int (nI k)), (2, .int (nI c))]) (st2 := []) (w3 := w) rfl rfl ?_
  exact (sx_RP.ls (sx_lr.cons rfl (sx_lr.cons rfl (sx_lr.cons rfl (sx_lr.cons rfl sx_lr.nil)))) (X73L (w0 := w) hk hc hm em hP m 0 w (by omega) hI hS (fun _ _ => rfl) rfl)).mono9 (fun r w2 z => by rw [← whB_n em hm] at z; exact z)
set_option maxRecDepth 20000 in
set_option maxHeartbeats 4000000 in
theorem X72a {xs : Option (List Int32)} {d m k : Nat} {w0 : List sx_C} {l : List Int32} {P : Option Value → List sx_C → Prop} (hm : m ≤ 9) (em : l.getD 2 0 = nI m) : ∀ (q j : Nat) (w : List sx_C), j + q = m → WI w → Snd l w → (∀ a, (a < 44 ∨ 96 ≤ a) → a ≠ 102 → w[a]? = w0[a]?) → (∀ d, d < j → (ia w 102).getD d 0 = dpF l d) → (∀ w2, WI w2 → Snd l w2 → (∀ a, (a < 44 ∨ 96 ≤ a) → a ≠ 102 → w2[a]? = w0[a]?) → (∀ d, d < m → (ia w2 102).getD d 0 = dpF l d) → sx_RP xs (d + 5) 72 42 [(0, .ref 0), (1, .int (nI k))] [] w2 P) → sx_RP xs (d + 5) 72 2 [(0, .ref 0), (1, .int (nI k)), (2, .int (nI j))] [] w P
  | 0, j, w, hj, hI, hS, hO, hP, kk => by
    obtain rfl : j = m := by omega
    have em1 : fi w 1 5 = nI j := hS.1.dished.trans em
    refine sx_RP.step (pc2 := 3) (ls2 := [(0, .ref 0), (1, .int (nI k)), (2, .int (nI j))]) (st2 := [.int (nI j)]) (w3 := w) rfl rfl ?_
    refine sx_RP.step (pc2 := 4) (ls2 := [(0, .ref 0), (1, .int (nI k)), (2, .int (nI j))]) (st2 := [.ref 0, .int (nI j)]) (w3 := w) rfl rfl ?_
    refine sx_RP.gf (v := .ref 1) rfl rfl hI.1.o0 rfl rfl (show _ = 7 from rfl) ?_
    refine sx_RP.gc (k := 5) hI (Or.inl rfl) rfl rfl (by omega) (show _ = 10 from rfl) ?_
    rw [em1]
    refine sx_RP.br (p1 := 42) (l1 := [(0, .ref 0), (1, .int (nI k)), (2, .int (nI j))]) (s1 := []) (v1 := w) rfl rfl (fun _ => ?_) (fun q => absurd (nI_le (a := j) (b := j) (by omega) (by omega)) (of_decide_eq_false q))
    exact sx_RP.ls (sx_lr.cons rfl (sx_lr.cons rfl sx_lr.nil)) (kk w hI hS hO hP)
  | q + 1, j, w, hj, hI, hS, hO, hP, kk => by
    have em1 : fi w 1 5 = nI m := hS.1.dished.trans em
    refine sx_RP.step (pc2 := 3) (ls2 := [(0, .ref 0), (1, .int (nI k)), (2, .int (nI j))]) (st2 := [.int (nI j)]) (w3 := w) rfl rfl ?_
    refine sx_RP.step (pc2 := 4) (ls2 := [(0, .ref 0), (1, .int (nI k)), (2, .int (nI j))]) (st2 := [.ref 0, .int (nI j)]) (w3 := w) rfl rfl ?_
    refine sx_RP.gf (v := .ref 1) rfl rfl hI.1.o0 rfl rfl (show _ = 7 from rfl) ?_
    refine sx_RP.gc (k := 5) hI (Or.inl rfl) rfl rfl (by omega) (show _ = 10 from rfl) ?_
    rw [em1]
    refine sx_RP.br (p2 := 13) (l2 := [(0, .ref 0), (1, .int (nI k)), (2, .int (nI j))]) (s2 := []) (v2 := w) rfl rfl (fun q => absurd (of_decide_eq_true q) (fun z => absurd ((nI_leI (a := m) (b := j) (by omega) (by omega)).mp z) (by omega))) (fun _ => ?_)
    refine sx_RP.step (pc2 := 14) (ls2 := [(0, .ref 0), (1, .int (nI k)), (2, .int (nI j))]) (st2 := [.ref 0]) (w3 := w) rfl rfl ?_
    refine sx_RP.gf (v := .ref 102) rfl rfl hI.1.o0 rfl rfl (show _ = 17 from rfl) ?_
    refine sx_RP.step (pc2 := 18) (ls2 := [(0, .ref 0), (1, .int (nI k)), (2, .int (nI j))]) (st2 := [.int (nI j), .ref 102]) (w3 := w) rfl rfl ?_
    refine sx_RP.step (pc2 := 19) (ls2 := [(0, .ref 0), (1, .int (nI k)), (2, .int (nI j))]) (st2 := [.ref 0, .int (nI j), .ref 102]) (w3 := w) rfl rfl ?_
    refine sx_RP.step (pc2 := 20) (ls2 := [(0, .ref 0), (1, .int (nI k)), (2, .int (nI j))]) (st2 := [.ref 0, .ref 0, .int (nI j), .ref 102]) (w3 := w) rfl rfl ?_
    refine sx_RP.gf (v := .ref 1) rfl rfl hI.1.o0 rfl rfl (show _ = 23 from rfl) ?_
    refine sx_RP.step (pc2 := 24) (ls2 := [(0, .ref 0), (1, .int (nI k)), (2, .int (nI j))]) (st2 := [.ref 0, .ref 1, .ref 0, .int (nI j), .ref 102]) (w3 := w) rfl rfl ?_
    refine sx_RP.gf (v := .ref 1) rfl rfl hI.1.o0 rfl rfl (show _ = 27 from rfl) ?_
    refine sx_RP.gref (k := 4) (b := 4) hI (Or.inl rfl) rfl rfl (by omega) (show _ = 30 from rfl) ?_
    refine sx_RP.step (pc2 := 31) (ls2 := [(0, .ref 0), (1, .int (nI k)), (2, .int (nI j))]) (st2 := [.int (nI j), .ref 4, .ref 1, .ref 0, .int (nI j), .ref 102]) (w3 := w) rfl rfl ?_
    refine sx_RP.ild (c := j) rfl (hI.1.aD (Or.inl rfl)).1 (hI.1.aD (Or.inl rfl)).2 (sx_in_nI (show j < 9 by omega) (by decide)) (show (nI j).toNatClampNeg = j from nI_clamp (by omega)) (show _ = 32 from rfl) ?_
    obtain ⟨x1, hx2, ex3⟩ : inR ((ia w 4).getD j 0) 47 := hI.di (Or.inl rfl) (show j < 9 by omega)
    rw [ex3]
    have eT : l.getD (163 + j) 0 = nI x1 := (hS.1.di (by rw [em, iN_n (by omega)]; omega)).symm.trans ex3
    refine sx_RP.callp (as2 := [.ref 0, .ref 1, .int (nI x1)]) (rest2 := [.int (nI j), .ref 102]) rfl rfl (sx_inv_v2 (mi := 72) (k := 231) (st := [.int (nI x1), .ref 1, .ref 0, .int (nI j), .ref 102]) (w := w) rfl rfl hI.1.o0 rfl rfl rfl) rfl rfl rfl (X68 (d := d) hI l hS.1 hS.2.1 hS.2.2 (show x1 < 48 by omega)) (show _ = 35 from rfl) ?_
    rintro r4 w6 ⟨rfl, hI7, hs4, hf5⟩
    show sx_RP _ _ _ _ _ [.int (pesF l x1), .int (nI j), .ref 102] _ _
    refine sx_RP.xF2 (k := j) hI7 rfl (show j < 9 by omega) (show _ = 36 from rfl) (fun w8 hI9 hs10 hv11 => ?_)
    refine sx_RP.step (pc2 := 39) (ls2 := [(2, .int ((nI j) + 1)), (0, .ref 0), (1, .int (nI k))]) (st2 := []) (w3 := w8) rfl rfl ?_
    rw [nI_1 j]
    refine sx_RP.step (pc2 := 2) (ls2 := [(2, .int (nI (j + 1))), (0, .ref 0), (1, .int (nI k))]) (st2 := []) (w3 := w8) rfl rfl ?_
    have hRA : rel w6 1 l := hS.1.same hI (Or.inl rfl) (fun a h1 h2 => hf5 a (by omega))
    have hSB : Snd l w8 := (show Snd l w6 from ⟨hRA, hs4.1, hs4.2⟩).same hI7 (fun a ha => hs10 a (by omega))
    refine sx_RP.ls (sx_lr.cons rfl (sx_lr.cons rfl (sx_lr.cons rfl sx_lr.nil))) (X72a hm em q (j + 1) w8 (by omega) hI9 hSB (fun a h1 h2 => (hs10 a h2).trans ((hf5 a h1).trans (hO a h1 h2))) (fun d hd => ?_) kk)
    rw [hv11, ia_of (hf5 102 (by omega)), gd_set (by rw [hI.1.a102.2]; omega)]
    by_cases e : d = j
    · rw [if_pos e, e, dpF_n (show x1 < 48 by omega) eT]
    · rw [if_neg e]; exact hP d (by omega)
set_option maxRecDepth 20000 in
set_option maxHeartbeats 4000000 in
theorem X72b {xs : Option (List Int32)} {d m k : Nat} {w0 : List sx_C} {l : List Int32} (hk : k ≤ 5) (hm : m ≤ 9) (em : l.getD 2 0 = nI m) (hP : ∀ d, d < m → (ia w0 102).getD d 0 = dpF l d) : ∀ (q j : Nat) (w : List sx_C), j + q = 48 → WI w → Snd l w → (∀ a, (a < 44 ∨ 96 ≤ a) → w[a]? = w0[a]?) → sx_RP xs (d + 5) 72 47 [(0, .ref 0), (1, .int (nI k)), (2, .long (wsN (whB l k) j)), (4, .int (nI j))] [] w (fun r w2 => r = some (.long (wsN (whB l k) 48)) ∧ WI w2 ∧ Snd l w2 ∧ ∀ a, (a < 44 ∨ 96 ≤ a) → w2[a]? = w0[a]?)
  | 0, j, w, hj, hI, hS, hO => by
    obtain rfl : j = 48 := by omega
    refine sx_RP.step (pc2 := 49) (ls2 := [(0, .ref 0), (1, .int (nI k)), (2, .long (wsN (whB l k) 48)), (4, .int 48)]) (st2 := [.int 48]) (w3 := w) rfl rfl ?_
    refine sx_RP.step (pc2 := 51) (ls2 := [(0, .ref 0), (1, .int (nI k)), (2, .long (wsN (whB l k) 48)), (4, .int 48)]) (st2 := [.int 48, .int 48]) (w3 := w) rfl rfl ?_
    refine sx_RP.step (pc2 := 77) (ls2 := [(0, .ref 0), (1, .int (nI k)), (2, .long (wsN (whB l k) 48)), (4, .int 48)]) (st2 := []) (w3 := w) rfl rfl ?_
    refine sx_RP.step (pc2 := 78) (ls2 := [(0, .ref 0), (1, .int (nI k)), (2, .long (wsN (whB l k) 48)), (4, .int 48)]) (st2 := [.long (wsN (whB l k) 48)]) (w3 := w) rfl rfl ?_
    refine sx_RP.ret (r := (some (.long (wsN (whB l k) 48)))) rfl rfl ?_
    exact ⟨rfl, hI, hS, hO⟩
  | q + 1, j, w, hj, hI, hS, hO => by
    refine sx_RP.step (pc2 := 49) (ls2 := [(0, .ref 0), (1, .int (nI k)), (2, .long (wsN (whB l k) j)), (4, .int (nI j))]) (st2 := [.int (nI j)]) (w3 := w) rfl rfl ?_
    refine sx_RP.step (pc2 := 51) (ls2 := [(0, .ref 0), (1, .int (nI k)), (2, .long (wsN (whB l k) j)), (4, .int (nI j))]) (st2 := [.int 48, .int (nI j)]) (w3 := w) rfl rfl ?_
    refine sx_RP.br (p2 := 54) (l2 := [(0, .ref 0), (1, .int (nI k)), (2, .long (wsN (whB l k) j)), (4, .int (nI j))]) (s2 := []) (v2 := w) rfl rfl (fun q => absurd (of_decide_eq_true q) (fun z => absurd ((nI_leI (a := 48) (b := j) (by omega) (by omega)).mp z) (by omega))) (fun _ => ?_)
    refine sx_RP.step (pc2 := 55) (ls2 := [(0, .ref 0), (1, .int (nI k)), (2, .long (wsN (whB l k) j)), (4, .int (nI j))]) (st2 := [.ref 0]) (w3 := w) rfl rfl ?_
    refine sx_RP.step (pc2 := 56) (ls2 := [(0, .ref 0), (1, .int (nI k)), (2, .long (wsN (whB l k) j)), (4, .int (nI j))]) (st2 := [.int (nI k), .ref 0]) (w3 := w) rfl rfl ?_
    refine sx_RP.step (pc2 := 58) (ls2 := [(0, .ref 0), (1, .int (nI k)), (2, .long (wsN (whB l k) j)), (4, .int (nI j))]) (st2 := [.int (nI j), .int (nI k), .ref 0]) (w3 := w) rfl rfl ?_
    refine sx_RP.callp (as2 := [.ref 0, .int (nI k), .int (nI j)]) (rest2 := []) rfl rfl (sx_inv_v2 (mi := 72) (k := 250) (st := [.int (nI j), .int (nI k), .ref 0]) (w := w) rfl rfl hI.1.o0 rfl rfl rfl) rfl rfl rfl (X73 (d := d) hI hS hk (show j < 48 by omega) hm em (fun d hd => by rw [ia_of (hO 102 (by omega))]; exact hP d hd)) (show _ = 61 from rfl) ?_
    rintro r4 w1 ⟨(⟨rfl, hB⟩ | ⟨rfl, hB⟩), hI2, hS9, hf9⟩
    · show sx_RP _ _ _ _ _ [.int 1] _ _
      refine sx_RP.step (pc2 := 64) (ls2 := [(0, .ref 0), (1, .int (nI k)), (2, .long (wsN (whB l k) j)), (4, .int (nI j))]) (st2 := []) (w3 := w1) rfl rfl ?_
      refine sx_RP.step (pc2 := 65) (ls2 := [(0, .ref 0), (1, .int (nI k)), (2, .long (wsN (whB l k) j)), (4, .int (nI j))]) (st2 := [.long (wsN (whB l k) j)]) (w3 := w1) rfl rfl ?_
      refine sx_RP.step (pc2 := 66) (ls2 := [(0, .ref 0), (1, .int (nI k)), (2, .long (wsN (whB l k) j)), (4, .int (nI j))]) (st2 := [.long 1, .long (wsN (whB l k) j)]) (w3 := w1) rfl rfl ?_
      refine sx_RP.step (pc2 := 68) (ls2 := [(0, .ref 0), (1, .int (nI k)), (2, .long (wsN (whB l k) j)), (4, .int (nI j))]) (st2 := [.int (nI j), .long 1, .long (wsN (whB l k) j)]) (w3 := w1) rfl rfl ?_
      refine sx_RP.step (pc2 := 69) (ls2 := [(0, .ref 0), (1, .int (nI k)), (2, .long (wsN (whB l k) j)), (4, .int (nI j))]) (st2 := [.long ((1 : Int64) <<< ((nI j).toInt64 &&& 63)), .long (wsN (whB l k) j)]) (w3 := w1) rfl rfl ?_
      refine sx_RP.step (pc2 := 70) (ls2 := [(0, .ref 0), (1, .int (nI k)), (2, .long (wsN (whB l k) j)), (4, .int (nI j))]) (st2 := [.long ((wsN (whB l k) j) ||| ((1 : Int64) <<< ((nI j).toInt64 &&& 63)))]) (w3 := w1) rfl rfl ?_
      refine sx_RP.step (pc2 := 71) (ls2 := [(2, .long ((wsN (whB l k) j) ||| ((1 : Int64) <<< ((nI j).toInt64 &&& 63)))), (0, .ref 0), (1, .int (nI k)), (4, .int (nI j))]) (st2 := []) (w3 := w1) rfl rfl ?_
      refine sx_RP.step (pc2 := 74) (ls2 := [(4, .int ((nI j) + 1)), (2, .long ((wsN (whB l k) j) ||| ((1 : Int64) <<< ((nI j).toInt64 &&& 63)))), (0, .ref 0), (1, .int (nI k))]) (st2 := []) (w3 := w1) rfl rfl ?_
      rw [nI_1 j]
      refine sx_RP.step (pc2 := 47) (ls2 := [(4, .int (nI (j + 1))), (2, .long ((wsN (whB l k) j) ||| ((1 : Int64) <<< ((nI j).toInt64 &&& 63)))), (0, .ref 0), (1, .int (nI k))]) (st2 := []) (w3 := w1) rfl rfl ?_
      rw [wsN_y hB]
      exact sx_RP.ls (sx_lr.cons rfl (sx_lr.cons rfl (sx_lr.cons rfl (sx_lr.cons rfl sx_lr.nil)))) (X72b hk hm em hP q (j + 1) w1 (by omega) hI2 hS9 (fun a ha => (hf9 a ha).trans (hO a ha)))
    · show sx_RP _ _ _ _ _ [.int 0] _ _
      refine sx_RP.step (pc2 := 71) (ls2 := [(0, .ref 0), (1, .int (nI k)), (2, .long (wsN (whB l k) j)), (4, .int (nI j))]) (st2 := []) (w3 := w1) rfl rfl ?_
      refine sx_RP.step (pc2 := 74) (ls2 := [(4, .int ((nI j) + 1)), (0, .ref 0), (1, .int (nI k)), (2, .long (wsN (whB l k) j))]) (st2 := []) (w3 := w1) rfl rfl ?_
      rw [nI_1 j]
      refine sx_RP.step (pc2 := 47) (ls2 := [(4, .int (nI (j + 1))), (0, .ref 0), (1, .int (nI k)), (2, .long (wsN (whB l k) j))]) (st2 := []) (w3 := w1) rfl rfl ?_
      rw [wsN_n hB]
      exact sx_RP.ls (sx_lr.cons rfl (sx_lr.cons rfl (sx_lr.cons rfl (sx_lr.cons rfl sx_lr.nil)))) (X72b hk hm em hP q (j + 1) w1 (by omega) hI2 hS9 (fun a ha => (hf9 a ha).trans (hO a ha)))
set_option maxRecDepth 20000 in
set_option maxHeartbeats 4000000 in
theorem X72 {xs : Option (List Int32)} {d : Nat} {w : List sx_C} (hI : WI w) {m k : Nat} {l : List Int32} (hS : Snd l w) (hk : k ≤ 5) (hm : m ≤ 9) (em : l.getD 2 0 = nI m) : sx_RP xs (d + 5) 72 0 (lv_args 0 [.ref 0, .int (nI k)]) [] w (fun r w2 => r = some (.long (wsN (whB l k) 48)) ∧ WI w2 ∧ Snd l w2 ∧ ∀ a, (a < 44 ∨ 96 ≤ a) → a ≠ 102 → w2[a]? = w[a]?) := by
  refine sx_RP.step (pc2 := 1) (ls2 := [(0, .ref 0), (1, .int (nI k))]) (st2 := [.int 0]) (w3 := w) rfl rfl ?_
  refine sx_RP.step (pc2 := 2) (ls2 := [(2, .int 0), (0, .ref 0), (1, .int (nI k))]) (st2 := []) (w3 := w) rfl rfl ?_
  refine sx_RP.ls (sx_lr.cons rfl (sx_lr.cons rfl (sx_lr.cons rfl sx_lr.nil))) (X72a (w0 := w) hm em m 0 w (by omega) hI hS (fun _ _ _ => rfl) (fun d hd => absurd hd (by omega)) (fun w3 h1 h2 h3 h4 => ?_))
  refine sx_RP.step (pc2 := 43) (ls2 := [(0, .ref 0), (1, .int (nI k))]) (st2 := [.long 0]) (w3 := w3) rfl rfl ?_
  refine sx_RP.step (pc2 := 44) (ls2 := [(2, .long 0), (0, .ref 0), (1, .int (nI k))]) (st2 := []) (w3 := w3) rfl rfl ?_
  refine sx_RP.step (pc2 := 45) (ls2 := [(2, .long 0), (0, .ref 0), (1, .int (nI k))]) (st2 := [.int 0]) (w3 := w3) rfl rfl ?_
  refine sx_RP.step (pc2 := 47) (ls2 := [(4, .int 0), (2, .long 0), (0, .ref 0), (1, .int (nI k))]) (st2 := []) (w3 := w3) rfl rfl ?_
  exact (sx_RP.ls (sx_lr.cons rfl (sx_lr.cons rfl (sx_lr.cons rfl (sx_lr.cons rfl sx_lr.nil)))) (X72b (w0 := w3) hk hm em h4 48 0 w3 (by omega) h1 h2 (fun _ _ => rfl))).mono9 (fun r w2 z => ⟨z.1, z.2.1, z.2.2.1, fun a ha hn => (z.2.2.2 a ha).trans (h3 a ha hn)⟩)
set_option maxRecDepth 20000 in
set_option maxHeartbeats 4000000 in
theorem x75L {xs : Option (List Int32)} {d k c : Nat} {w : List sx_C} {l : List Int32} (hI : WI w) (hS : Snd l w) (hk : k ≤ 5) (hc : c < 48) (hw : ∀ f, f < 48 → (ia w (47 + c)).getD f 0 = nI (farN (gdR l) f c)) : ∀ (q j : Nat), j + q = 48 → sx_RP xs (d + 5) 75 29 [(0, .ref 0), (1, .int (nI k)), (2, .long (wsN (whB l k) 48)), (4, .int (nI c)), (5, .int (pesF l c)), (6, .ref (47 + c)), (7, .int (ctP (fun h => whB l k h && decide (heV l k h c = pesF l c)) j)), (8, .int (nI j))] [] w (fun r w2 => r = some (.int (lfV l k c)) ∧ w2 = w)
  | 0, j, hj => by
    obtain rfl : j = 48 := by omega
    refine sx_RP.step (pc2 := 31) (ls2 := [(0, .ref 0), (1, .int (nI k)), (2, .long (wsN (whB l k) 48)), (4, .int (nI c)), (5, .int (pesF l c)), (6, .ref (47 + c)), (7, .int (ctP (fun h => whB l k h && decide (heV l k h c = pesF l c)) 48)), (8, .int 48)]) (st2 := [.int 48]) (w3 := w) rfl rfl ?_
    refine sx_RP.step (pc2 := 33) (ls2 := [(0, .ref 0), (1, .int (nI k)), (2, .long (wsN (whB l k) 48)), (4, .int (nI c)), (5, .int (pesF l c)), (6, .ref (47 + c)), (7, .int (ctP (fun h => whB l k h && decide (heV l k h c = pesF l c)) 48)), (8, .int 48)]) (st2 := [.int 48, .int 48]) (w3 := w) rfl rfl ?_
    refine sx_RP.step (pc2 := 70) (ls2 := [(0, .ref 0), (1, .int (nI k)), (2, .long (wsN (whB l k) 48)), (4, .int (nI c)), (5, .int (pesF l c)), (6, .ref (47 + c)), (7, .int (ctP (fun h => whB l k h && decide (heV l k h c = pesF l c)) 48)), (8, .int 48)]) (st2 := []) (w3 := w) rfl rfl ?_
    refine sx_RP.step (pc2 := 72) (ls2 := [(0, .ref 0), (1, .int (nI k)), (2, .long (wsN (whB l k) 48)), (4, .int (nI c)), (5, .int (pesF l c)), (6, .ref (47 + c)), (7, .int (ctP (fun h => whB l k h && decide (heV l k h c = pesF l c)) 48)), (8, .int 48)]) (st2 := [.int (ctP (fun h => whB l k h && decide (heV l k h c = pesF l c)) 48)]) (w3 := w) rfl rfl ?_
    refine sx_RP.ret (r := (some (.int (ctP (fun h => whB l k h && decide (heV l k h c = pesF l c)) 48)))) rfl rfl ?_
    exact ⟨rfl, rfl⟩
  | q + 1, j, hj => by
    refine sx_RP.step (pc2 := 31) (ls2 := [(0, .ref 0), (1, .int (nI k)), (2, .long (wsN (whB l k) 48)), (4, .int (nI c)), (5, .int (pesF l c)), (6, .ref (47 + c)), (7, .int (ctP (fun h => whB l k h && decide (heV l k h c = pesF l c)) j)), (8, .int (nI j))]) (st2 := [.int (nI j)]) (w3 := w) rfl rfl ?_
    refine sx_RP.step (pc2 := 33) (ls2 := [(0, .ref 0), (1, .int (nI k)), (2, .long (wsN (whB l k) 48)), (4, .int (nI c)), (5, .int (pesF l c)), (6, .ref (47 + c)), (7, .int (ctP (fun h => whB l k h && decide (heV l k h c = pesF l c)) j)), (8, .int (nI j))]) (st2 := [.int 48, .int (nI j)]) (w3 := w) rfl rfl ?_
    refine sx_RP.br (p2 := 36) (l2 := [(0, .ref 0), (1, .int (nI k)), (2, .long (wsN (whB l k) 48)), (4, .int (nI c)), (5, .int (pesF l c)), (6, .ref (47 + c)), (7, .int (ctP (fun h => whB l k h && decide (heV l k h c = pesF l c)) j)), (8, .int (nI j))]) (s2 := []) (v2 := w) rfl rfl (fun q => absurd (of_decide_eq_true q) (fun z => absurd ((nI_leI (a := 48) (b := j) (by omega) (by omega)).mp z) (by omega))) (fun _ => ?_)
    refine sx_RP.step (pc2 := 37) (ls2 := [(0, .ref 0), (1, .int (nI k)), (2, .long (wsN (whB l k) 48)), (4, .int (nI c)), (5, .int (pesF l c)), (6, .ref (47 + c)), (7, .int (ctP (fun h => whB l k h && decide (heV l k h c = pesF l c)) j)), (8, .int (nI j))]) (st2 := [.long (wsN (whB l k) 48)]) (w3 := w) rfl rfl ?_
    refine sx_RP.step (pc2 := 39) (ls2 := [(0, .ref 0), (1, .int (nI k)), (2, .long (wsN (whB l k) 48)), (4, .int (nI c)), (5, .int (pesF l c)), (6, .ref (47 + c)), (7, .int (ctP (fun h => whB l k h && decide (heV l k h c = pesF l c)) j)), (8, .int (nI j))]) (st2 := [.int (nI j), .long (wsN (whB l k) 48)]) (w3 := w) rfl rfl ?_
    refine sx_RP.step (pc2 := 40) (ls2 := [(0, .ref 0), (1, .int (nI k)), (2, .long (wsN (whB l k) 48)), (4, .int (nI c)), (5, .int (pesF l c)), (6, .ref (47 + c)), (7, .int (ctP (fun h => whB l k h && decide (heV l k h c = pesF l c)) j)), (8, .int (nI j))]) (st2 := [.long (((wsN (whB l k) 48).toUInt64 >>> ((nI j).toInt64.toUInt64 &&& Int64.toUInt64 63)).toInt64)]) (w3 := w) rfl rfl ?_
    refine sx_RP.step (pc2 := 41) (ls2 := [(0, .ref 0), (1, .int (nI k)), (2, .long (wsN (whB l k) 48)), (4, .int (nI c)), (5, .int (pesF l c)), (6, .ref (47 + c)), (7, .int (ctP (fun h => whB l k h && decide (heV l k h c = pesF l c)) j)), (8, .int (nI j))]) (st2 := [.long 1, .long (((wsN (whB l k) 48).toUInt64 >>> ((nI j).toInt64.toUInt64 &&& Int64.toUInt64 63)).toInt64)]) (w3 := w) rfl rfl ?_
    refine sx_RP.step (pc2 := 42) (ls2 := [(0, .ref 0), (1, .int (nI k)), (2, .long (wsN (whB l k) 48)), (4, .int (nI c)), (5, .int (pesF l c)), (6, .ref (47 + c)), (7, .int (ctP (fun h => whB l k h && decide (heV l k h c = pesF l c)) j)), (8, .int (nI j))]) (st2 := [.long ((((wsN (whB l k) 48).toUInt64 >>> ((nI j).toInt64.toUInt64 &&& Int64.toUInt64 63)).toInt64) &&& 1)]) (w3 := w) rfl rfl ?_
    refine sx_RP.step (pc2 := 43) (ls2 := [(0, .ref 0), (1, .int (nI k)), (2, .long (wsN (whB l k) 48)), (4, .int (nI c)), (5, .int (pesF l c)), (6, .ref (47 + c)), (7, .int (ctP (fun h => whB l k h && decide (heV l k h c = pesF l c)) j)), (8, .int (nI j))]) (st2 := [.long 1, .long ((((wsN (whB l k) 48).toUInt64 >>> ((nI j).toInt64.toUInt64 &&& Int64.toUInt64 63)).toInt64) &&& 1)]) (w3 := w) rfl rfl ?_
    refine sx_RP.step (pc2 := 44) (ls2 := [(0, .ref 0), (1, .int (nI k)), (2, .long (wsN (whB l k) 48)), (4, .int (nI c)), (5, .int (pesF l c)), (6, .ref (47 + c)), (7, .int (ctP (fun h => whB l k h && decide (heV l k h c = pesF l c)) j)), (8, .int (nI j))]) (st2 := [.int (lg_cmp ((((wsN (whB l k) 48).toUInt64 >>> ((nI j).toInt64.toUInt64 &&& Int64.toUInt64 63)).toInt64) &&& 1) 1)]) (w3 := w) rfl rfl ?_
    refine sx_RP.br (p1 := 64) (l1 := [(0, .ref 0), (1, .int (nI k)), (2, .long (wsN (whB l k) 48)), (4, .int (nI c)), (5, .int (pesF l c)), (6, .ref (47 + c)), (7, .int (ctP (fun h => whB l k h && decide (heV l k h c = pesF l c)) j)), (8, .int (nI j))]) (s1 := []) (v1 := w) (p2 := 47) (l2 := [(0, .ref 0), (1, .int (nI k)), (2, .long (wsN (whB l k) 48)), (4, .int (nI c)), (5, .int (pesF l c)), (6, .ref (47 + c)), (7, .int (ctP (fun h => whB l k h && decide (heV l k h c = pesF l c)) j)), (8, .int (nI j))]) (s2 := []) (v2 := w) rfl rfl (fun q1 => ?_) (fun q1 => ?_)
    · replace q1 := of_decide_eq_true q1
      refine sx_RP.step (pc2 := 67) (ls2 := [(8, .int ((nI j) + 1)), (0, .ref 0), (1, .int (nI k)), (2, .long (wsN (whB l k) 48)), (4, .int (nI c)), (5, .int (pesF l c)), (6, .ref (47 + c)), (7, .int (ctP (fun h => whB l k h && decide (heV l k h c = pesF l c)) j))]) (st2 := []) (w3 := w) rfl rfl ?_
      rw [nI_1 j]
      refine sx_RP.step (pc2 := 29) (ls2 := [(8, .int (nI (j + 1))), (0, .ref 0), (1, .int (nI k)), (2, .long (wsN (whB l k) 48)), (4, .int (nI c)), (5, .int (pesF l c)), (6, .ref (47 + c)), (7, .int (ctP (fun h => whB l k h && decide (heV l k h c = pesF l c)) j))]) (st2 := []) (w3 := w) rfl rfl ?_
      have hB : whB l k j = false := by cases hB : whB l k j with | false => rfl | true => exact absurd ((bit_1 (by omega)).mpr (by rw [wsN_bit 48 (by omega) j (by omega), ltB_y (by omega), hB]; rfl)) q1
      rw [lfz_1 (c := c) hB]
      exact sx_RP.ls (sx_lr.cons rfl (sx_lr.cons rfl (sx_lr.cons rfl (sx_lr.cons rfl (sx_lr.cons rfl (sx_lr.cons rfl (sx_lr.cons rfl (sx_lr.cons rfl sx_lr.nil)))))))) (x75L hI hS hk hc hw q (j + 1) (by omega))
    · replace q1 := Decidable.not_not.mp (of_decide_eq_false q1)
      refine sx_RP.step (pc2 := 48) (ls2 := [(0, .ref 0), (1, .int (nI k)), (2, .long (wsN (whB l k) 48)), (4, .int (nI c)), (5, .int (pesF l c)), (6, .ref (47 + c)), (7, .int (ctP (fun h => whB l k h && decide (heV l k h c = pesF l c)) j)), (8, .int (nI j))]) (st2 := [.ref 0]) (w3 := w) rfl rfl ?_
      refine sx_RP.step (pc2 := 49) (ls2 := [(0, .ref 0), (1, .int (nI k)), (2, .long (wsN (whB l k) 48)), (4, .int (nI c)), (5, .int (pesF l c)), (6, .ref (47 + c)), (7, .int (ctP (fun h => whB l k h && decide (heV l k h c = pesF l c)) j)), (8, .int (nI j))]) (st2 := [.int (nI k), .ref 0]) (w3 := w) rfl rfl ?_
      refine sx_RP.step (pc2 := 51) (ls2 := [(0, .ref 0), (1, .int (nI k)), (2, .long (wsN (whB l k) 48)), (4, .int (nI c)), (5, .int (pesF l c)), (6, .ref (47 + c)), (7, .int (ctP (fun h => whB l k h && decide (heV l k h c = pesF l c)) j)), (8, .int (nI j))]) (st2 := [.int (nI j), .int (nI k), .ref 0]) (w3 := w) rfl rfl ?_
      refine sx_RP.step (pc2 := 53) (ls2 := [(0, .ref 0), (1, .int (nI k)), (2, .long (wsN (whB l k) 48)), (4, .int (nI c)), (5, .int (pesF l c)), (6, .ref (47 + c)), (7, .int (ctP (fun h => whB l k h && decide (heV l k h c = pesF l c)) j)), (8, .int (nI j))]) (st2 := [.ref (47 + c), .int (nI j), .int (nI k), .ref 0]) (w3 := w) rfl rfl ?_
      have eH : ldV k (iN ((ia w (1 + 1)).getD j 0)) / nI (1 + farN (gdR l) j c) = heV l k j c := by unfold heV; rw [hS.1.gr (show j < 48 by omega)]
      refine sx_RP.cu (as := [.ref 0, .int (nI k), .int (nI j), .ref (47 + c)]) (rest2 := []) (st3 := [.int (heV l k j c)]) rfl rfl (sx_inv_v2 (mi := 75) (k := 235) (st := [.ref (47 + c), .int (nI j), .int (nI k), .ref 0]) (w := w) rfl rfl hI.1.o0 rfl rfl rfl) rfl rfl ((by have z := x69 (xs := xs) (d := d + 2) hI hk (show j < 48 by omega) hc (far_fin _ (show j < 48 by omega) hc) (hw j (by omega)); rw [eH] at z; exact z)) rfl ?_
      refine sx_RP.step (pc2 := 58) (ls2 := [(0, .ref 0), (1, .int (nI k)), (2, .long (wsN (whB l k) 48)), (4, .int (nI c)), (5, .int (pesF l c)), (6, .ref (47 + c)), (7, .int (ctP (fun h => whB l k h && decide (heV l k h c = pesF l c)) j)), (8, .int (nI j))]) (st2 := [.int (pesF l c), .int (heV l k j c)]) (w3 := w) rfl rfl ?_
      refine sx_RP.br (p1 := 64) (l1 := [(0, .ref 0), (1, .int (nI k)), (2, .long (wsN (whB l k) 48)), (4, .int (nI c)), (5, .int (pesF l c)), (6, .ref (47 + c)), (7, .int (ctP (fun h => whB l k h && decide (heV l k h c = pesF l c)) j)), (8, .int (nI j))]) (s1 := []) (v1 := w) (p2 := 61) (l2 := [(0, .ref 0), (1, .int (nI k)), (2, .long (wsN (whB l k) 48)), (4, .int (nI c)), (5, .int (pesF l c)), (6, .ref (47 + c)), (7, .int (ctP (fun h => whB l k h && decide (heV l k h c = pesF l c)) j)), (8, .int (nI j))]) (s2 := []) (v2 := w) rfl rfl (fun q2 => ?_) (fun q2 => ?_)
      · replace q2 := of_decide_eq_true q2
        refine sx_RP.step (pc2 := 67) (ls2 := [(8, .int ((nI j) + 1)), (0, .ref 0), (1, .int (nI k)), (2, .long (wsN (whB l k) 48)), (4, .int (nI c)), (5, .int (pesF l c)), (6, .ref (47 + c)), (7, .int (ctP (fun h => whB l k h && decide (heV l k h c = pesF l c)) j))]) (st2 := []) (w3 := w) rfl rfl ?_
        rw [nI_1 j]
        refine sx_RP.step (pc2 := 29) (ls2 := [(8, .int (nI (j + 1))), (0, .ref 0), (1, .int (nI k)), (2, .long (wsN (whB l k) 48)), (4, .int (nI c)), (5, .int (pesF l c)), (6, .ref (47 + c)), (7, .int (ctP (fun h => whB l k h && decide (heV l k h c = pesF l c)) j))]) (st2 := []) (w3 := w) rfl rfl ?_
        have hB : whB l k j = true := by have z := (bit_1 (by omega)).mp q1; rw [wsN_bit 48 (by omega) j (by omega), ltB_y (by omega), Bool.true_and] at z; exact z
        rw [lfz_2 q2]
        exact sx_RP.ls (sx_lr.cons rfl (sx_lr.cons rfl (sx_lr.cons rfl (sx_lr.cons rfl (sx_lr.cons rfl (sx_lr.cons rfl (sx_lr.cons rfl (sx_lr.cons rfl sx_lr.nil)))))))) (x75L hI hS hk hc hw q (j + 1) (by omega))
      · replace q2 := Decidable.not_not.mp (of_decide_eq_false q2)
        refine sx_RP.step (pc2 := 64) (ls2 := [(7, .int ((ctP (fun h => whB l k h && decide (heV l k h c = pesF l c)) j) + 1)), (0, .ref 0), (1, .int (nI k)), (2, .long (wsN (whB l k) 48)), (4, .int (nI c)), (5, .int (pesF l c)), (6, .ref (47 + c)), (8, .int (nI j))]) (st2 := []) (w3 := w) rfl rfl ?_
        refine sx_RP.step (pc2 := 67) (ls2 := [(8, .int ((nI j) + 1)), (7, .int ((ctP (fun h => whB l k h && decide (heV l k h c = pesF l c)) j) + 1)), (0, .ref 0), (1, .int (nI k)), (2, .long (wsN (whB l k) 48)), (4, .int (nI c)), (5, .int (pesF l c)), (6, .ref (47 + c))]) (st2 := []) (w3 := w) rfl rfl ?_
        rw [nI_1 j]
        refine sx_RP.step (pc2 := 29) (ls2 := [(8, .int (nI (j + 1))), (7, .int ((ctP (fun h => whB l k h && decide (heV l k h c = pesF l c)) j) + 1)), (0, .ref 0), (1, .int (nI k)), (2, .long (wsN (whB l k) 48)), (4, .int (nI c)), (5, .int (pesF l c)), (6, .ref (47 + c))]) (st2 := []) (w3 := w) rfl rfl ?_
        have hB : whB l k j = true := by have z := (bit_1 (by omega)).mp q1; rw [wsN_bit 48 (by omega) j (by omega), ltB_y (by omega), Bool.true_and] at z; exact z
        rw [lfz_y hB q2]
        exact sx_RP.ls (sx_lr.cons rfl (sx_lr.cons rfl (sx_lr.cons rfl (sx_lr.cons rfl (sx_lr.cons rfl (sx_lr.cons rfl (sx_lr.cons rfl (sx_lr.cons rfl sx_lr.nil)))))))) (x75L hI hS hk hc hw q (j + 1) (by omega))
set_option maxRecDepth 20000 in
set_option maxHeartbeats 4000000 in
theorem X75 {xs : Option (List Int32)} {d : Nat} {w : List sx_C} (hI : WI w) {k c : Nat} {l : List Int32} (hS : Snd l w) (hk : k ≤ 5) (hc : c < 48) : sx_RP xs (d + 5) 75 0 (lv_args 0 [.ref 0, .int (nI k), .long (wsN (whB l k) 48), .int (nI c)]) [] w (fun r w2 => r = some (.int (lfV l k c)) ∧ WI w2 ∧ Snd l w2 ∧ ∀ a, (a < 44 ∨ 96 ≤ a) → w2[a]? = w[a]?) := by
  refine sx_RP.step (pc2 := 1) (ls2 := [(0, .ref 0), (1, .int (nI k)), (2, .long (wsN (whB l k) 48)), (4, .int (nI c))]) (st2 := [.ref 0]) (w3 := w) rfl rfl ?_
  refine sx_RP.step (pc2 := 2) (ls2 := [(0, .ref 0), (1, .int (nI k)), (2, .long (wsN (whB l k) 48)), (4, .int (nI c))]) (st2 := [.ref 0, .ref 0]) (w3 := w) rfl rfl ?_
  refine sx_RP.gf (v := .ref 1) rfl rfl hI.1.o0 rfl rfl (show _ = 5 from rfl) ?_
  refine sx_RP.step (pc2 := 7) (ls2 := [(0, .ref 0), (1, .int (nI k)), (2, .long (wsN (whB l k) 48)), (4, .int (nI c))]) (st2 := [.int (nI c), .ref 1, .ref 0]) (w3 := w) rfl rfl ?_
  refine sx_RP.callp (as2 := [.ref 0, .ref 1, .int (nI c)]) (rest2 := []) rfl rfl (sx_inv_v2 (mi := 75) (k := 231) (st := [.int (nI c), .ref 1, .ref 0]) (w := w) rfl rfl hI.1.o0 rfl rfl rfl) rfl rfl rfl (X68 (d := d) hI l hS.1 hS.2.1 hS.2.2 hc) (show _ = 10 from rfl) ?_
  rintro r4 w4 ⟨rfl, hI5, hs1, hf2⟩
  show sx_RP _ _ _ _ _ [.int (pesF l c)] _ _
  have hR3 : rel w4 1 l := hS.1.same hI (Or.inl rfl) (fun a h1 h2 => hf2 a (by omega))
  refine sx_RP.step (pc2 := 12) (ls2 := [(5, .int (pesF l c)), (0, .ref 0), (1, .int (nI k)), (2, .long (wsN (whB l k) 48)), (4, .int (nI c))]) (st2 := []) (w3 := w4) rfl rfl ?_
  refine sx_RP.step (pc2 := 13) (ls2 := [(5, .int (pesF l c)), (0, .ref 0), (1, .int (nI k)), (2, .long (wsN (whB l k) 48)), (4, .int (nI c))]) (st2 := [.ref 0]) (w3 := w4) rfl rfl ?_
  refine sx_RP.gf (v := .ref 44) rfl rfl hI5.1.o0 rfl rfl (show _ = 16 from rfl) ?_
  refine sx_RP.step (pc2 := 18) (ls2 := [(5, .int (pesF l c)), (0, .ref 0), (1, .int (nI k)), (2, .long (wsN (whB l k) 48)), (4, .int (nI c))]) (st2 := [.int (nI c), .ref 44]) (w3 := w4) rfl rfl ?_
  refine sx_RP.callp (as2 := [.ref 44, .int (nI c)]) (rest2 := []) rfl rfl (sx_inv_v2 (mi := 75) (k := 99) (st := [.int (nI c), .ref 44]) (w := w4) rfl rfl hI5.1.o44 rfl rfl rfl) rfl rfl rfl (G17 hI5 (show c < 48 by omega)) (show _ = 21 from rfl) ?_
  rintro r4 w9 ⟨rfl, hI10, hS6, hx7, hf8⟩
  show sx_RP _ _ _ _ _ [.ref (47 + c)] _ _
  have hR11 : rel w9 1 l := hR3.same hI5 (Or.inl rfl) (fun a h1 h2 => hf8 a (by omega))
  have hF12 : FIT w9 1 := fun c hc => by rw [hx7.1, ia_of (hf8 (1 + 1) (by omega))]; exact hs1.1 c hc
  have hK13 : SK w9 := hS6.2 hs1.2
  have hw14 : ∀ f, f < 48 → (ia w9 (47 + c)).getD f 0 = nI (farN (gdR l) f c) := fun f hf => by rw [hx7.2 hs1.2 hs1.1.ls f hf, fit_far hs1.1 hR3 hf (by omega)]
  refine sx_RP.step (pc2 := 23) (ls2 := [(6, .ref (47 + c)), (5, .int (pesF l c)), (0, .ref 0), (1, .int (nI k)), (2, .long (wsN (whB l k) 48)), (4, .int (nI c))]) (st2 := []) (w3 := w9) rfl rfl ?_
  refine sx_RP.step (pc2 := 24) (ls2 := [(6, .ref (47 + c)), (5, .int (pesF l c)), (0, .ref 0), (1, .int (nI k)), (2, .long (wsN (whB l k) 48)), (4, .int (nI c))]) (st2 := [.int 0]) (w3 := w9) rfl rfl ?_
  refine sx_RP.step (pc2 := 26) (ls2 := [(7, .int 0), (6, .ref (47 + c)), (5, .int (pesF l c)), (0, .ref 0), (1, .int (nI k)), (2, .long (wsN (whB l k) 48)), (4, .int (nI c))]) (st2 := []) (w3 := w9) rfl rfl ?_
  refine sx_RP.step (pc2 := 27) (ls2 := [(7, .int 0), (6, .ref (47 + c)), (5, .int (pesF l c)), (0, .ref 0), (1, .int (nI k)), (2, .long (wsN (whB l k) 48)), (4, .int (nI c))]) (st2 := [.int 0]) (w3 := w9) rfl rfl ?_
  refine sx_RP.step (pc2 := 29) (ls2 := [(8, .int 0), (7, .int 0), (6, .ref (47 + c)), (5, .int (pesF l c)), (0, .ref 0), (1, .int (nI k)), (2, .long (wsN (whB l k) 48)), (4, .int (nI c))]) (st2 := []) (w3 := w9) rfl rfl ?_
  refine (sx_RP.ls (sx_lr.cons rfl (sx_lr.cons rfl (sx_lr.cons rfl (sx_lr.cons rfl (sx_lr.cons rfl (sx_lr.cons rfl (sx_lr.cons rfl (sx_lr.cons rfl sx_lr.nil)))))))) (x75L hI10 ⟨hR11, hF12, hK13⟩ hk hc hw14 48 0 (by omega))).mono9 (fun r w2 z => ?_)
  obtain ⟨z1, z2⟩ := z
  rw [z2]
  exact ⟨z1, hI10, ⟨hR11, hF12, hK13⟩, fun a ha => (hf8 a ha).trans (hf2 a ha)⟩
set_option maxRecDepth 20000 in
set_option maxHeartbeats 4000000 in
theorem X74L {xs : Option (List Int32)} {d k : Nat} {l : List Int32} (hk : k ≤ 5) : ∀ (q j : Nat) (w : List sx_C) (s b : Int32), j + q = 48 → WI w → Snd l w → sx_RP xs (d + 7) 74 91 [(0, .ref 0), (1, .int (nI k)), (2, .long (wsN (whB l k) 48)), (4, .int s), (5, .int b), (6, .int (nI j))] [] w (fun r w2 => r = some (.int (bsF (lfV l k) q j s b)) ∧ WI w2)
  | 0, j, w, s, b, hj, hI, hS => by
    obtain rfl : j = 48 := by omega
    refine sx_RP.step (pc2 := 93) (ls2 := [(0, .ref 0), (1, .int (nI k)), (2, .long (wsN (whB l k) 48)), (4, .int s), (5, .int b), (6, .int 48)]) (st2 := [.int 48]) (w3 := w) rfl rfl ?_
    refine sx_RP.step (pc2 := 95) (ls2 := [(0, .ref 0), (1, .int (nI k)), (2, .long (wsN (whB l k) 48)), (4, .int s), (5, .int b), (6, .int 48)]) (st2 := [.int 48, .int 48]) (w3 := w) rfl rfl ?_
    refine sx_RP.step (pc2 := 129) (ls2 := [(0, .ref 0), (1, .int (nI k)), (2, .long (wsN (whB l k) 48)), (4, .int s), (5, .int b), (6, .int 48)]) (st2 := []) (w3 := w) rfl rfl ?_
    refine sx_RP.step (pc2 := 131) (ls2 := [(0, .ref 0), (1, .int (nI k)), (2, .long (wsN (whB l k) 48)), (4, .int s), (5, .int b), (6, .int 48)]) (st2 := [.int b]) (w3 := w) rfl rfl ?_
    refine sx_RP.ret (r := (some (.int b))) rfl rfl ?_
    exact ⟨rfl, hI⟩
  | q + 1, j, w, s, b, hj, hI, hS => by
    refine sx_RP.step (pc2 := 93) (ls2 := [(0, .ref 0), (1, .int (nI k)), (2, .long (wsN (whB l k) 48)), (4, .int s), (5, .int b), (6, .int (nI j))]) (st2 := [.int (nI j)]) (w3 := w) rfl rfl ?_
    refine sx_RP.step (pc2 := 95) (ls2 := [(0, .ref 0), (1, .int (nI k)), (2, .long (wsN (whB l k) 48)), (4, .int s), (5, .int b), (6, .int (nI j))]) (st2 := [.int 48, .int (nI j)]) (w3 := w) rfl rfl ?_
    refine sx_RP.br (p2 := 98) (l2 := [(0, .ref 0), (1, .int (nI k)), (2, .long (wsN (whB l k) 48)), (4, .int s), (5, .int b), (6, .int (nI j))]) (s2 := []) (v2 := w) rfl rfl (fun q => absurd (of_decide_eq_true q) (fun z => absurd ((nI_leI (a := 48) (b := j) (by omega) (by omega)).mp z) (by omega))) (fun _ => ?_)
    refine sx_RP.step (pc2 := 99) (ls2 := [(0, .ref 0), (1, .int (nI k)), (2, .long (wsN (whB l k) 48)), (4, .int s), (5, .int b), (6, .int (nI j))]) (st2 := [.ref 0]) (w3 := w) rfl rfl ?_
    refine sx_RP.step (pc2 := 100) (ls2 := [(0, .ref 0), (1, .int (nI k)), (2, .long (wsN (whB l k) 48)), (4, .int s), (5, .int b), (6, .int (nI j))]) (st2 := [.int (nI k), .ref 0]) (w3 := w) rfl rfl ?_
    refine sx_RP.step (pc2 := 101) (ls2 := [(0, .ref 0), (1, .int (nI k)), (2, .long (wsN (whB l k) 48)), (4, .int s), (5, .int b), (6, .int (nI j))]) (st2 := [.long (wsN (whB l k) 48), .int (nI k), .ref 0]) (w3 := w) rfl rfl ?_
    refine sx_RP.step (pc2 := 103) (ls2 := [(0, .ref 0), (1, .int (nI k)), (2, .long (wsN (whB l k) 48)), (4, .int s), (5, .int b), (6, .int (nI j))]) (st2 := [.int (nI j), .long (wsN (whB l k) 48), .int (nI k), .ref 0]) (w3 := w) rfl rfl ?_
    refine sx_RP.callp (as2 := [.ref 0, .int (nI k), .long (wsN (whB l k) 48), .int (nI j)]) (rest2 := []) rfl rfl (sx_inv_v2 (mi := 74) (k := 246) (st := [.int (nI j), .long (wsN (whB l k) 48), .int (nI k), .ref 0]) (w := w) rfl rfl hI.1.o0 rfl rfl rfl) rfl rfl rfl (X75 (d := d + 1) hI hS hk (show j < 48 by omega)) (show _ = 106 from rfl) ?_
    rintro r4 w3 ⟨rfl, hI4, hS1, hf2⟩
    show sx_RP _ _ _ _ _ [.int (lfV l k j)] _ _
    refine sx_RP.step (pc2 := 108) (ls2 := [(7, .int (lfV l k j)), (0, .ref 0), (1, .int (nI k)), (2, .long (wsN (whB l k) 48)), (4, .int s), (5, .int b), (6, .int (nI j))]) (st2 := []) (w3 := w3) rfl rfl ?_
    refine sx_RP.step (pc2 := 110) (ls2 := [(7, .int (lfV l k j)), (0, .ref 0), (1, .int (nI k)), (2, .long (wsN (whB l k) 48)), (4, .int s), (5, .int b), (6, .int (nI j))]) (st2 := [.int (lfV l k j)]) (w3 := w3) rfl rfl ?_
    refine sx_RP.step (pc2 := 112) (ls2 := [(7, .int (lfV l k j)), (0, .ref 0), (1, .int (nI k)), (2, .long (wsN (whB l k) 48)), (4, .int s), (5, .int b), (6, .int (nI j))]) (st2 := [.int s, .int (lfV l k j)]) (w3 := w3) rfl rfl ?_
    refine sx_RP.br (p1 := 123) (l1 := [(7, .int (lfV l k j)), (0, .ref 0), (1, .int (nI k)), (2, .long (wsN (whB l k) 48)), (4, .int s), (5, .int b), (6, .int (nI j))]) (s1 := []) (v1 := w3) (p2 := 115) (l2 := [(7, .int (lfV l k j)), (0, .ref 0), (1, .int (nI k)), (2, .long (wsN (whB l k) 48)), (4, .int s), (5, .int b), (6, .int (nI j))]) (s2 := []) (v2 := w3) rfl rfl (fun q5 => ?_) (fun q5 => ?_)
    · replace q5 := of_decide_eq_true q5
      refine sx_RP.step (pc2 := 126) (ls2 := [(6, .int ((nI j) + 1)), (7, .int (lfV l k j)), (0, .ref 0), (1, .int (nI k)), (2, .long (wsN (whB l k) 48)), (4, .int s), (5, .int b)]) (st2 := []) (w3 := w3) rfl rfl ?_
      rw [nI_1 j]
      refine sx_RP.step (pc2 := 91) (ls2 := [(6, .int (nI (j + 1))), (7, .int (lfV l k j)), (0, .ref 0), (1, .int (nI k)), (2, .long (wsN (whB l k) 48)), (4, .int s), (5, .int b)]) (st2 := []) (w3 := w3) rfl rfl ?_
      rw [bs_n (f := lfV l k) (Int32.not_lt.mpr q5)]
      exact sx_RP.ls (sx_lr.cons rfl (sx_lr.cons rfl (sx_lr.cons rfl (sx_lr.cons rfl (sx_lr.cons rfl (sx_lr.cons rfl sx_lr.nil)))))) (X74L hk q (j + 1) w3 s b (by omega) hI4 hS1)
    · replace q5 := of_decide_eq_false q5
      refine sx_RP.step (pc2 := 117) (ls2 := [(7, .int (lfV l k j)), (0, .ref 0), (1, .int (nI k)), (2, .long (wsN (whB l k) 48)), (4, .int s), (5, .int b), (6, .int (nI j))]) (st2 := [.int (lfV l k j)]) (w3 := w3) rfl rfl ?_
      refine sx_RP.step (pc2 := 119) (ls2 := [(4, .int (lfV l k j)), (7, .int (lfV l k j)), (0, .ref 0), (1, .int (nI k)), (2, .long (wsN (whB l k) 48)), (5, .int b), (6, .int (nI j))]) (st2 := []) (w3 := w3) rfl rfl ?_
      refine sx_RP.step (pc2 := 121) (ls2 := [(4, .int (lfV l k j)), (7, .int (lfV l k j)), (0, .ref 0), (1, .int (nI k)), (2, .long (wsN (whB l k) 48)), (5, .int b), (6, .int (nI j))]) (st2 := [.int (nI j)]) (w3 := w3) rfl rfl ?_
      refine sx_RP.step (pc2 := 123) (ls2 := [(5, .int (nI j)), (4, .int (lfV l k j)), (7, .int (lfV l k j)), (0, .ref 0), (1, .int (nI k)), (2, .long (wsN (whB l k) 48)), (6, .int (nI j))]) (st2 := []) (w3 := w3) rfl rfl ?_
      refine sx_RP.step (pc2 := 126) (ls2 := [(6, .int ((nI j) + 1)), (5, .int (nI j)), (4, .int (lfV l k j)), (7, .int (lfV l k j)), (0, .ref 0), (1, .int (nI k)), (2, .long (wsN (whB l k) 48))]) (st2 := []) (w3 := w3) rfl rfl ?_
      rw [nI_1 j]
      refine sx_RP.step (pc2 := 91) (ls2 := [(6, .int (nI (j + 1))), (5, .int (nI j)), (4, .int (lfV l k j)), (7, .int (lfV l k j)), (0, .ref 0), (1, .int (nI k)), (2, .long (wsN (whB l k) 48))]) (st2 := []) (w3 := w3) rfl rfl ?_
      rw [bs_y (f := lfV l k) (Int32.not_le.mp q5)]
      exact sx_RP.ls (sx_lr.cons rfl (sx_lr.cons rfl (sx_lr.cons rfl (sx_lr.cons rfl (sx_lr.cons rfl (sx_lr.cons rfl sx_lr.nil)))))) (X74L hk q (j + 1) w3 _ _ (by omega) hI4 hS1)
set_option maxRecDepth 20000 in
set_option maxHeartbeats 4000000 in
theorem A74 {xs : Option (List Int32)} {d : Nat} {w : List sx_C} (hI : WI w) (l : List Int32) (hR : rel w 1 l) (hK : SK w) (a1 : Int32) : sx_RP xs (d + 7) 74 0 (lv_args 0 [.ref 0, .int a1]) [] w (fun r w2 => r = some (.int (bstA l a1)) ∧ WI w2) := by
  obtain ⟨m, hm, em⟩ := hR.m9 hI (Or.inl rfl)
  have em0 := hR.dished.trans em
  refine sx_RP.step (pc2 := 1) (ls2 := [(0, .ref 0), (1, .int a1)]) (st2 := [.int a1]) (w3 := w) rfl rfl ?_
  rcases in_cases a1 0 5 (m := 0) (n := 5) rfl rfl (by decide) (by decide) with q1 | ⟨x2, hx3, hx4, rfl⟩
  · refine sx_RP.cu (as := [.int a1]) (rest2 := []) (st3 := [.int 0]) rfl rfl rfl rfl rfl (cx_22n q1) rfl ?_
    refine sx_RP.step (pc2 := 7) (ls2 := [(0, .ref 0), (1, .int a1)]) (st2 := []) (w3 := w) rfl rfl ?_
    refine sx_RP.step (pc2 := 8) (ls2 := [(0, .ref 0), (1, .int a1)]) (st2 := [.ref 0]) (w3 := w) rfl rfl ?_
    refine sx_RP.step (pc2 := 10) (ls2 := [(0, .ref 0), (1, .int a1)]) (st2 := [.int (-1000000001), .ref 0]) (w3 := w) rfl rfl ?_
    refine sx_RP.callp (as2 := [.ref 0, .int (-1000000001)]) (rest2 := []) rfl rfl (sx_inv_v2 (mi := 74) (k := 78) (st := [.int (-1000000001), .ref 0]) (w := w) rfl rfl hI.1.o0 rfl rfl rfl) rfl rfl rfl (S9_0 hI) (show _ = 13 from rfl) ?_
    rintro r4 w7 ⟨rfl, hI8, hs6⟩
    show sx_RP _ _ _ _ _ [.int (-1000000001)] _ _
    refine sx_RP.ret (r := (some (.int (-1000000001)))) rfl rfl ?_
    exact ⟨by rw [bstA_1 q1], hI8⟩
  · refine sx_RP.cu (as := [.int (nI x2)]) (rest2 := []) (st3 := [.int 1]) rfl rfl rfl rfl rfl (cx_22p ⟨nI_le (a := 0) hx3 (by omega), nI_le (b := 5) hx4 (by decide)⟩) rfl ?_
    refine sx_RP.step (pc2 := 14) (ls2 := [(0, .ref 0), (1, .int (nI x2))]) (st2 := []) (w3 := w) rfl rfl ?_
    refine sx_RP.step (pc2 := 15) (ls2 := [(0, .ref 0), (1, .int (nI x2))]) (st2 := [.ref 0]) (w3 := w) rfl rfl ?_
    refine sx_RP.gf (v := .ref 1) rfl rfl hI.1.o0 rfl rfl (show _ = 18 from rfl) ?_
    refine sx_RP.gc (k := 5) hI (Or.inl rfl) rfl rfl (by omega) (show _ = 21 from rfl) ?_
    rw [em0]
    refine sx_RP.br (p1 := 31) (l1 := [(0, .ref 0), (1, .int (nI x2))]) (s1 := []) (v1 := w) (p2 := 24) (l2 := [(0, .ref 0), (1, .int (nI x2))]) (s2 := []) (v2 := w) rfl rfl (fun q9 => ?_) (fun q9 => ?_)
    · replace q9 := of_decide_eq_true q9
      replace q9 := mt (nI_eq (a := m) (b := 0) (by omega) (by omega)).mpr q9
      refine sx_RP.step (pc2 := 32) (ls2 := [(0, .ref 0), (1, .int (nI x2))]) (st2 := [.ref 0]) (w3 := w) rfl rfl ?_
      refine sx_RP.gf (v := .ref 44) rfl rfl hI.1.o0 rfl rfl (show _ = 35 from rfl) ?_
      refine sx_RP.step (pc2 := 36) (ls2 := [(0, .ref 0), (1, .int (nI x2))]) (st2 := [.ref 0, .ref 44]) (w3 := w) rfl rfl ?_
      refine sx_RP.gf (v := .ref 1) rfl rfl hI.1.o0 rfl rfl (show _ = 39 from rfl) ?_
      refine sx_RP.gref (k := 0) (b := 2) hI (Or.inl rfl) rfl rfl (by omega) (show _ = 42 from rfl) ?_
      refine sx_RP.callp (as2 := [.ref 44, .ref 2]) (rest2 := []) rfl rfl (sx_inv_v2 (mi := 74) (k := 95) (st := [.ref 2, .ref 44]) (w := w) rfl rfl hI.1.o44 rfl rfl rfl) rfl rfl rfl (G16 (A := 1) hI (Or.inl rfl)) (show _ = 45 from rfl) ?_
      rintro r4 w13 ⟨rfl, hI14, hS10, hF11, hf12⟩
      show sx_RP _ _ _ _ _ [] _ _
      have hR15 : rel w13 1 l := hR.same hI (Or.inl rfl) (fun a h1 h2 => hf12 a (by omega))
      have hK16 : SK w13 := hS10.2 hK
      refine sx_RP.step (pc2 := 46) (ls2 := [(0, .ref 0), (1, .int (nI x2))]) (st2 := [.ref 0]) (w3 := w13) rfl rfl ?_
      refine sx_RP.step (pc2 := 47) (ls2 := [(0, .ref 0), (1, .int (nI x2))]) (st2 := [.int (nI x2), .ref 0]) (w3 := w13) rfl rfl ?_
      refine sx_RP.callp (as2 := [.ref 0, .int (nI x2)]) (rest2 := []) rfl rfl (sx_inv_v2 (mi := 74) (k := 242) (st := [.int (nI x2), .ref 0]) (w := w13) rfl rfl hI14.1.o0 rfl rfl rfl) rfl rfl rfl (X72 (d := d + 1) hI14 ⟨hR15, hF11, hK16⟩ (show x2 ≤ 5 by omega) hm em) (show _ = 50 from rfl) ?_
      rintro r4 w19 ⟨rfl, hI20, hS17, hf18⟩
      show sx_RP _ _ _ _ _ [.long (wsN (whB l x2) 48)] _ _
      refine sx_RP.step (pc2 := 51) (ls2 := [(2, .long (wsN (whB l x2) 48)), (0, .ref 0), (1, .int (nI x2))]) (st2 := []) (w3 := w19) rfl rfl ?_
      refine sx_RP.step (pc2 := 52) (ls2 := [(2, .long (wsN (whB l x2) 48)), (0, .ref 0), (1, .int (nI x2))]) (st2 := [.long (wsN (whB l x2) 48)]) (w3 := w19) rfl rfl ?_
      refine sx_RP.step (pc2 := 53) (ls2 := [(2, .long (wsN (whB l x2) 48)), (0, .ref 0), (1, .int (nI x2))]) (st2 := [.long 0, .long (wsN (whB l x2) 48)]) (w3 := w19) rfl rfl ?_
      refine sx_RP.step (pc2 := 54) (ls2 := [(2, .long (wsN (whB l x2) 48)), (0, .ref 0), (1, .int (nI x2))]) (st2 := [.int (lg_cmp (wsN (whB l x2) 48) 0)]) (w3 := w19) rfl rfl ?_
      refine sx_RP.br (p1 := 64) (l1 := [(2, .long (wsN (whB l x2) 48)), (0, .ref 0), (1, .int (nI x2))]) (s1 := []) (v1 := w19) (p2 := 57) (l2 := [(2, .long (wsN (whB l x2) 48)), (0, .ref 0), (1, .int (nI x2))]) (s2 := []) (v2 := w19) rfl rfl (fun q21 => ?_) (fun q21 => ?_)
      · replace q21 := of_decide_eq_true q21
        refine sx_RP.step (pc2 := 65) (ls2 := [(2, .long (wsN (whB l x2) 48)), (0, .ref 0), (1, .int (nI x2))]) (st2 := [.ref 0]) (w3 := w19) rfl rfl ?_
        refine sx_RP.gf (v := .ref 1) rfl rfl hI20.1.o0 rfl rfl (show _ = 68 from rfl) ?_
        have em9 : fi w19 1 5 = nI m := hS17.1.dished.trans em
        rcases Decidable.em (m < 9) with h9 | h9
        · refine sx_RP.cu (as := [.ref 1]) (rest2 := []) (st3 := [.int 1]) rfl rfl (sx_inv_v2 (mi := 74) (k := 219) (st := [.ref 1]) (w := w19) rfl rfl (hI20.1.oC (Or.inl rfl)) rfl rfl rfl) rfl rfl (p63y hI20 (Or.inl rfl) em9 hm h9) rfl ?_
          refine sx_RP.step (pc2 := 81) (ls2 := [(2, .long (wsN (whB l x2) 48)), (0, .ref 0), (1, .int (nI x2))]) (st2 := []) (w3 := w19) rfl rfl ?_
          refine sx_RP.step (pc2 := 83) (ls2 := [(2, .long (wsN (whB l x2) 48)), (0, .ref 0), (1, .int (nI x2))]) (st2 := [.int 49]) (w3 := w19) rfl rfl ?_
          refine sx_RP.step (pc2 := 85) (ls2 := [(4, .int 49), (2, .long (wsN (whB l x2) 48)), (0, .ref 0), (1, .int (nI x2))]) (st2 := []) (w3 := w19) rfl rfl ?_
          refine sx_RP.step (pc2 := 86) (ls2 := [(4, .int 49), (2, .long (wsN (whB l x2) 48)), (0, .ref 0), (1, .int (nI x2))]) (st2 := [.int 0]) (w3 := w19) rfl rfl ?_
          refine sx_RP.step (pc2 := 88) (ls2 := [(5, .int 0), (4, .int 49), (2, .long (wsN (whB l x2) 48)), (0, .ref 0), (1, .int (nI x2))]) (st2 := []) (w3 := w19) rfl rfl ?_
          refine sx_RP.step (pc2 := 89) (ls2 := [(5, .int 0), (4, .int 49), (2, .long (wsN (whB l x2) 48)), (0, .ref 0), (1, .int (nI x2))]) (st2 := [.int 0]) (w3 := w19) rfl rfl ?_
          refine sx_RP.step (pc2 := 91) (ls2 := [(6, .int 0), (5, .int 0), (4, .int 49), (2, .long (wsN (whB l x2) 48)), (0, .ref 0), (1, .int (nI x2))]) (st2 := []) (w3 := w19) rfl rfl ?_
          have m0 : ¬ l.getD 2 0 = 0 := fun z => q9 ((nI_eq (a := m) (b := 0) (by omega) (by decide)).mp (em.symm.trans z))
          have m1 : ¬ (l.getD 2 0 = 0 ∨ ctP (whB l x2) 48 = 0) := fun z => z.elim m0 (fun y => q21 ((lg_cmp_eq _ _).mpr (ws_0.mpr y)))
          rw [bstA_y (show x2 ≤ 5 by omega) m1 (fun z => by have := (nI_eq (a := m) (b := 9) (by omega) (by decide)).mp (em.symm.trans z); omega)]
          exact sx_RP.ls (sx_lr.cons rfl (sx_lr.cons rfl (sx_lr.cons rfl (sx_lr.cons rfl (sx_lr.cons rfl (sx_lr.cons rfl sx_lr.nil)))))) (X74L (show x2 ≤ 5 by omega) 48 0 w19 49 0 (by omega) hI20 hS17)
        · refine sx_RP.cu (as := [.ref 1]) (rest2 := []) (st3 := [.int 0]) rfl rfl (sx_inv_v2 (mi := 74) (k := 219) (st := [.ref 1]) (w := w19) rfl rfl (hI20.1.oC (Or.inl rfl)) rfl rfl rfl) rfl rfl (p63n hI20 (Or.inl rfl) em9 hm h9) rfl ?_
          refine sx_RP.step (pc2 := 74) (ls2 := [(2, .long (wsN (whB l x2) 48)), (0, .ref 0), (1, .int (nI x2))]) (st2 := []) (w3 := w19) rfl rfl ?_
          refine sx_RP.step (pc2 := 75) (ls2 := [(2, .long (wsN (whB l x2) 48)), (0, .ref 0), (1, .int (nI x2))]) (st2 := [.ref 0]) (w3 := w19) rfl rfl ?_
          refine sx_RP.step (pc2 := 77) (ls2 := [(2, .long (wsN (whB l x2) 48)), (0, .ref 0), (1, .int (nI x2))]) (st2 := [.int (-1000000002), .ref 0]) (w3 := w19) rfl rfl ?_
          refine sx_RP.callp (as2 := [.ref 0, .int (-1000000002)]) (rest2 := []) rfl rfl (sx_inv_v2 (mi := 74) (k := 78) (st := [.int (-1000000002), .ref 0]) (w := w19) rfl rfl hI20.1.o0 rfl rfl rfl) rfl rfl rfl (S9_1 hI20) (show _ = 80 from rfl) ?_
          rintro r4 w23 ⟨rfl, hI24, hs22⟩
          show sx_RP _ _ _ _ _ [.int (-1000000002)] _ _
          refine sx_RP.ret (r := (some (.int (-1000000002)))) rfl rfl ?_
          have m0 : ¬ l.getD 2 0 = 0 := fun z => q9 ((nI_eq (a := m) (b := 0) (by omega) (by decide)).mp (em.symm.trans z))
          have m1 : ¬ (l.getD 2 0 = 0 ∨ ctP (whB l x2) 48 = 0) := fun z => z.elim m0 (fun y => q21 ((lg_cmp_eq _ _).mpr (ws_0.mpr y)))
          exact ⟨by rw [bstA_3 (show x2 ≤ 5 by omega) m1 (em.trans (by rw [show m = 9 by omega]; rfl))], hI24⟩
      · replace q21 := Decidable.not_not.mp (of_decide_eq_false q21)
        refine sx_RP.step (pc2 := 58) (ls2 := [(2, .long (wsN (whB l x2) 48)), (0, .ref 0), (1, .int (nI x2))]) (st2 := [.ref 0]) (w3 := w19) rfl rfl ?_
        refine sx_RP.step (pc2 := 60) (ls2 := [(2, .long (wsN (whB l x2) 48)), (0, .ref 0), (1, .int (nI x2))]) (st2 := [.int (-1000000004), .ref 0]) (w3 := w19) rfl rfl ?_
        refine sx_RP.callp (as2 := [.ref 0, .int (-1000000004)]) (rest2 := []) rfl rfl (sx_inv_v2 (mi := 74) (k := 78) (st := [.int (-1000000004), .ref 0]) (w := w19) rfl rfl hI20.1.o0 rfl rfl rfl) rfl rfl rfl (S9_3 hI20) (show _ = 63 from rfl) ?_
        rintro r4 w26 ⟨rfl, hI27, hs25⟩
        show sx_RP _ _ _ _ _ [.int (-1000000004)] _ _
        refine sx_RP.ret (r := (some (.int (-1000000004)))) rfl rfl ?_
        have m0 : ¬ l.getD 2 0 = 0 := fun z => q9 ((nI_eq (a := m) (b := 0) (by omega) (by decide)).mp (em.symm.trans z))
        exact ⟨by rw [bstA_2 (show x2 ≤ 5 by omega) (Or.inr (ws_0.mp ((lg_cmp_eq _ _).mp q21)))], hI27⟩
    · replace q9 := Decidable.not_not.mp (of_decide_eq_false q9)
      replace q9 := (nI_eq (a := m) (b := 0) (by omega) (by omega)).mp q9
      refine sx_RP.step (pc2 := 25) (ls2 := [(0, .ref 0), (1, .int (nI x2))]) (st2 := [.ref 0]) (w3 := w) rfl rfl ?_
      refine sx_RP.step (pc2 := 27) (ls2 := [(0, .ref 0), (1, .int (nI x2))]) (st2 := [.int (-1000000004), .ref 0]) (w3 := w) rfl rfl ?_
      refine sx_RP.callp (as2 := [.ref 0, .int (-1000000004)]) (rest2 := []) rfl rfl (sx_inv_v2 (mi := 74) (k := 78) (st := [.int (-1000000004), .ref 0]) (w := w) rfl rfl hI.1.o0 rfl rfl rfl) rfl rfl rfl (S9_3 hI) (show _ = 30 from rfl) ?_
      rintro r4 w29 ⟨rfl, hI30, hs28⟩
      show sx_RP _ _ _ _ _ [.int (-1000000004)] _ _
      refine sx_RP.ret (r := (some (.int (-1000000004)))) rfl rfl ?_
      exact ⟨by rw [bstA_2 (show x2 ≤ 5 by omega) (Or.inl (em.trans (by rw [q9]; rfl)))], hI30⟩
set_option maxRecDepth 20000 in
set_option maxHeartbeats 4000000 in
theorem X193a {xs : Option (List Int32)} {d m k : Nat} {w0 : List sx_C} {l : List Int32} {P : Option Value → List sx_C → Prop} (hm : m ≤ 9) (em : l.getD 2 0 = nI m) : ∀ (q j : Nat) (w : List sx_C), j + q = m → WI w → ia w 112 = l → FRm w0 w → (∀ d, d < j → (ia w 119).getD d 0 = dpF l d) → (∀ w2, WI w2 → ia w2 112 = l → FRm w0 w2 → (∀ d, d < m → (ia w2 119).getD d 0 = dpF l d) → sx_RP xs (d + 6) 193 29 [(0, .ref 111), (1, .int (nI k))] [] w2 P) → sx_RP xs (d + 6) 193 2 [(0, .ref 111), (1, .int (nI k)), (2, .int (nI j))] [] w P
  | 0, j, w, hj, hI, el, hO, hP, kk => by
    obtain rfl : j = m := by omega
    have em1 : (ia w 112).getD 2 0 = nI j := by rw [el]; exact em
    refine sx_RP.step (pc2 := 3) (ls2 := [(0, .ref 111), (1, .int (nI k)), (2, .int (nI j))]) (st2 := [.int (nI j)]) (w3 := w) rfl rfl ?_
    refine sx_RP.step (pc2 := 4) (ls2 := [(0, .ref 111), (1, .int (nI k)), (2, .int (nI j))]) (st2 := [.ref 111, .int (nI j)]) (w3 := w) rfl rfl ?_
    refine sx_RP.gf (v := .ref 112) rfl rfl hI.1.o111 rfl rfl (show _ = 7 from rfl) ?_
    refine sx_RP.step (pc2 := 8) (ls2 := [(0, .ref 111), (1, .int (nI k)), (2, .int (nI j))]) (st2 := [.int 2, .ref 112, .int (nI j)]) (w3 := w) rfl rfl ?_
    refine sx_RP.ild (c := 2) rfl hI.1.a112.1 hI.1.a112.2 (sx_in_nI (show 2 < 172 by omega) (by decide)) (show (nI 2).toNatClampNeg = 2 from nI_clamp (by omega)) (show _ = 9 from rfl) ?_
    rw [em1]
    refine sx_RP.br (p1 := 29) (l1 := [(0, .ref 111), (1, .int (nI k)), (2, .int (nI j))]) (s1 := []) (v1 := w) rfl rfl (fun _ => ?_) (fun q => absurd (nI_le (a := j) (b := j) (by omega) (by omega)) (of_decide_eq_false q))
    exact sx_RP.ls (sx_lr.cons rfl (sx_lr.cons rfl sx_lr.nil)) (kk w hI el hO hP)
  | q + 1, j, w, hj, hI, el, hO, hP, kk => by
    have em1 : (ia w 112).getD 2 0 = nI m := by rw [el]; exact em
    refine sx_RP.step (pc2 := 3) (ls2 := [(0, .ref 111), (1, .int (nI k)), (2, .int (nI j))]) (st2 := [.int (nI j)]) (w3 := w) rfl rfl ?_
    refine sx_RP.step (pc2 := 4) (ls2 := [(0, .ref 111), (1, .int (nI k)), (2, .int (nI j))]) (st2 := [.ref 111, .int (nI j)]) (w3 := w) rfl rfl ?_
    refine sx_RP.gf (v := .ref 112) rfl rfl hI.1.o111 rfl rfl (show _ = 7 from rfl) ?_
    refine sx_RP.step (pc2 := 8) (ls2 := [(0, .ref 111), (1, .int (nI k)), (2, .int (nI j))]) (st2 := [.int 2, .ref 112, .int (nI j)]) (w3 := w) rfl rfl ?_
    refine sx_RP.ild (c := 2) rfl hI.1.a112.1 hI.1.a112.2 (sx_in_nI (show 2 < 172 by omega) (by decide)) (show (nI 2).toNatClampNeg = 2 from nI_clamp (by omega)) (show _ = 9 from rfl) ?_
    rw [em1]
    refine sx_RP.br (p2 := 12) (l2 := [(0, .ref 111), (1, .int (nI k)), (2, .int (nI j))]) (s2 := []) (v2 := w) rfl rfl (fun q => absurd (of_decide_eq_true q) (fun z => absurd ((nI_leI (a := m) (b := j) (by omega) (by omega)).mp z) (by omega))) (fun _ => ?_)
    refine sx_RP.step (pc2 := 13) (ls2 := [(0, .ref 111), (1, .int (nI k)), (2, .int (nI j))]) (st2 := [.ref 111]) (w3 := w) rfl rfl ?_
    refine sx_RP.gf (v := .ref 119) rfl rfl hI.1.o111 rfl rfl (show _ = 16 from rfl) ?_
    refine sx_RP.step (pc2 := 17) (ls2 := [(0, .ref 111), (1, .int (nI k)), (2, .int (nI j))]) (st2 := [.int (nI j), .ref 119]) (w3 := w) rfl rfl ?_
    refine sx_RP.step (pc2 := 18) (ls2 := [(0, .ref 111), (1, .int (nI k)), (2, .int (nI j))]) (st2 := [.ref 111, .int (nI j), .ref 119]) (w3 := w) rfl rfl ?_
    refine sx_RP.step (pc2 := 19) (ls2 := [(0, .ref 111), (1, .int (nI k)), (2, .int (nI j))]) (st2 := [.int (nI j), .ref 111, .int (nI j), .ref 119]) (w3 := w) rfl rfl ?_
    refine sx_RP.callp (as2 := [.ref 111, .int (nI j)]) (rest2 := [.int (nI j), .ref 119]) rfl rfl (sx_inv_v2 (mi := 193) (k := 180) (st := [.int (nI j), .ref 111, .int (nI j), .ref 119]) (w := w) rfl rfl hI.1.o111 rfl rfl rfl) rfl rfl rfl (X188 (d := d) hI (show j < 9 by omega)) (show _ = 22 from rfl) ?_
    rintro r4 w2 ⟨rfl, hI3, hf1⟩
    show sx_RP _ _ _ _ _ [.int (dpF (ia w 112) j), .int (nI j), .ref 119] _ _
    refine sx_RP.xF9 (k := j) hI3 rfl (show j < 9 by omega) (show _ = 23 from rfl) (fun w4 hI5 hs6 hv7 => ?_)
    refine sx_RP.step (pc2 := 26) (ls2 := [(2, .int ((nI j) + 1)), (0, .ref 111), (1, .int (nI k))]) (st2 := []) (w3 := w4) rfl rfl ?_
    rw [nI_1 j]
    refine sx_RP.step (pc2 := 2) (ls2 := [(2, .int (nI (j + 1))), (0, .ref 111), (1, .int (nI k))]) (st2 := []) (w3 := w4) rfl rfl ?_
    refine sx_RP.ls (sx_lr.cons rfl (sx_lr.cons rfl (sx_lr.cons rfl sx_lr.nil))) (X193a hm em q (j + 1) w4 (by omega) hI5 ((ia_of (hs6 112 (by decide))).trans ((ia_of (hf1 112 (by decide) (by decide))).trans el)) (fun a h1 h2 h3 h4 => (hs6 a h3).trans ((hf1 a h1 h2).trans (hO a h1 h2 h3 h4))) (fun d hd => ?_) kk)
    rw [hv7, ia_of (hf1 119 (by decide) (by decide)), gd_set (by rw [hI.1.a119.2]; omega)]
    by_cases e : d = j
    · rw [if_pos e, e, el]
    · rw [if_neg e]; exact hP d (by omega)
set_option maxRecDepth 20000 in
set_option maxHeartbeats 4000000 in
theorem X193d {xs : Option (List Int32)} {d m k c s : Nat} {w1 : List sx_C} {l : List Int32} {n : Int32} {P : Option Value → List sx_C → Prop} (hk : k ≤ 5) (hc : c < 48) (hm : m ≤ 9) (em : l.getD 2 0 = nI m) (hs : s < 4) (es : l.getD (7 + c) 0 = nI s) (hw : ∀ f, f < 48 → (ia w1 117).getD f 0 = nI (farN (gdR l) c f)) (hP : ∀ d, d < m → (ia w1 119).getD d 0 = dpF l d) (el1 : ia w1 112 = l) : ∀ (q j : Nat) (w : List sx_C), j + q = m → WI w → Same 120 w1 w → ia w 120 = (ia w1 120).set c (b01 (acB l k c j)) → (∀ w2, WI w2 → Same 120 w1 w2 → ia w2 120 = (ia w1 120).set c (b01 (acB l k c m)) → sx_RP xs (d + 6) 193 131 [(0, .ref 111), (1, .int (nI k)), (2, .int n), (3, .int (nI c))] [] w2 P) → sx_RP xs (d + 6) 193 63 [(0, .ref 111), (1, .int (nI k)), (2, .int n), (3, .int (nI c)), (4, .int (ldV k s)), (5, .int (nI j))] [] w P
  | 0, j, w, hj, hI, hO, h0, kk => by
    obtain rfl : j = m := by omega
    have el : ia w 112 = l := (ia_of (hO 112 (by decide))).trans el1
    have em1 : (ia w 112).getD 2 0 = nI j := by rw [el]; exact em
    refine sx_RP.step (pc2 := 65) (ls2 := [(0, .ref 111), (1, .int (nI k)), (2, .int n), (3, .int (nI c)), (4, .int (ldV k s)), (5, .int (nI j))]) (st2 := [.int (nI j)]) (w3 := w) rfl rfl ?_
    refine sx_RP.step (pc2 := 66) (ls2 := [(0, .ref 111), (1, .int (nI k)), (2, .int n), (3, .int (nI c)), (4, .int (ldV k s)), (5, .int (nI j))]) (st2 := [.ref 111, .int (nI j)]) (w3 := w) rfl rfl ?_
    refine sx_RP.gf (v := .ref 112) rfl rfl hI.1.o111 rfl rfl (show _ = 69 from rfl) ?_
    refine sx_RP.step (pc2 := 70) (ls2 := [(0, .ref 111), (1, .int (nI k)), (2, .int n), (3, .int (nI c)), (4, .int (ldV k s)), (5, .int (nI j))]) (st2 := [.int 2, .ref 112, .int (nI j)]) (w3 := w) rfl rfl ?_
    refine sx_RP.ild (c := 2) rfl hI.1.a112.1 hI.1.a112.2 (sx_in_nI (show 2 < 172 by omega) (by decide)) (show (nI 2).toNatClampNeg = 2 from nI_clamp (by omega)) (show _ = 71 from rfl) ?_
    rw [em1]
    refine sx_RP.br (p1 := 131) (l1 := [(0, .ref 111), (1, .int (nI k)), (2, .int n), (3, .int (nI c)), (4, .int (ldV k s)), (5, .int (nI j))]) (s1 := []) (v1 := w) rfl rfl (fun _ => ?_) (fun q => absurd (nI_le (a := j) (b := j) (by omega) (by omega)) (of_decide_eq_false q))
    exact sx_RP.ls (sx_lr.cons rfl (sx_lr.cons rfl (sx_lr.cons rfl (sx_lr.cons rfl sx_lr.nil)))) (kk w hI hO h0)
  | q + 1, j, w, hj, hI, hO, h0, kk => by
    have el : ia w 112 = l := (ia_of (hO 112 (by decide))).trans el1
    have em1 : (ia w 112).getD 2 0 = nI m := by rw [el]; exact em
    have hw1 : ∀ f, f < 48 → (ia w 117).getD f 0 = nI (farN (gdR l) c f) := fun f hf => by rw [ia_of (hO 117 (by decide))]; exact hw f hf
    have hp9 : (ia w 119).getD j 0 = dpF l j := by rw [ia_of (hO 119 (by decide))]; exact hP j (by omega)
    have l120 : (ia w1 120).length = 48 := by have z := hI.1.a120.2; rw [h0, List.length_set] at z; exact z
    rcases Bool.eq_false_or_eq_true (acB l k c j) with hA | hA
    · have e120 : (ia w 120).getD c 0 = 1 := by rw [h0, gd_eq (by rw [l120]; omega), hA]; rfl
      refine sx_RP.step (pc2 := 65) (ls2 := [(0, .ref 111), (1, .int (nI k)), (2, .int n), (3, .int (nI c)), (4, .int (ldV k s)), (5, .int (nI j))]) (st2 := [.int (nI j)]) (w3 := w) rfl rfl ?_
      refine sx_RP.step (pc2 := 66) (ls2 := [(0, .ref 111), (1, .int (nI k)), (2, .int n), (3, .int (nI c)), (4, .int (ldV k s)), (5, .int (nI j))]) (st2 := [.ref 111, .int (nI j)]) (w3 := w) rfl rfl ?_
      refine sx_RP.gf (v := .ref 112) rfl rfl hI.1.o111 rfl rfl (show _ = 69 from rfl) ?_
      refine sx_RP.step (pc2 := 70) (ls2 := [(0, .ref 111), (1, .int (nI k)), (2, .int n), (3, .int (nI c)), (4, .int (ldV k s)), (5, .int (nI j))]) (st2 := [.int 2, .ref 112, .int (nI j)]) (w3 := w) rfl rfl ?_
      refine sx_RP.ild (c := 2) rfl hI.1.a112.1 hI.1.a112.2 (sx_in_nI (show 2 < 172 by omega) (by decide)) (show (nI 2).toNatClampNeg = 2 from nI_clamp (by omega)) (show _ = 71 from rfl) ?_
      rw [em1]
      refine sx_RP.br (p2 := 74) (l2 := [(0, .ref 111), (1, .int (nI k)), (2, .int n), (3, .int (nI c)), (4, .int (ldV k s)), (5, .int (nI j))]) (s2 := []) (v2 := w) rfl rfl (fun q => absurd (of_decide_eq_true q) (fun z => absurd ((nI_leI (a := m) (b := j) (by omega) (by omega)).mp z) (by omega))) (fun _ => ?_)
      refine sx_RP.step (pc2 := 75) (ls2 := [(0, .ref 111), (1, .int (nI k)), (2, .int n), (3, .int (nI c)), (4, .int (ldV k s)), (5, .int (nI j))]) (st2 := [.ref 111]) (w3 := w) rfl rfl ?_
      refine sx_RP.gf (v := .ref 120) rfl rfl hI.1.o111 rfl rfl (show _ = 78 from rfl) ?_
      refine sx_RP.step (pc2 := 79) (ls2 := [(0, .ref 111), (1, .int (nI k)), (2, .int n), (3, .int (nI c)), (4, .int (ldV k s)), (5, .int (nI j))]) (st2 := [.int (nI c), .ref 120]) (w3 := w) rfl rfl ?_
      refine sx_RP.step (pc2 := 80) (ls2 := [(0, .ref 111), (1, .int (nI k)), (2, .int n), (3, .int (nI c)), (4, .int (ldV k s)), (5, .int (nI j))]) (st2 := [.ref 111, .int (nI c), .ref 120]) (w3 := w) rfl rfl ?_
      refine sx_RP.gf (v := .ref 120) rfl rfl hI.1.o111 rfl rfl (show _ = 83 from rfl) ?_
      refine sx_RP.step (pc2 := 84) (ls2 := [(0, .ref 111), (1, .int (nI k)), (2, .int n), (3, .int (nI c)), (4, .int (ldV k s)), (5, .int (nI j))]) (st2 := [.int (nI c), .ref 120, .int (nI c), .ref 120]) (w3 := w) rfl rfl ?_
      refine sx_RP.bld1 (c := c) rfl hI.1.a120.1 hI.1.a120.2 (sx_in_nI (show c < 48 by omega) (by decide)) (show (nI c).toNatClampNeg = c from nI_clamp (by omega)) (show _ = 85 from rfl) ?_
      rw [e120]
      refine sx_RP.step (pc2 := 88) (ls2 := [(0, .ref 111), (1, .int (nI k)), (2, .int n), (3, .int (nI c)), (4, .int (ldV k s)), (5, .int (nI j))]) (st2 := [.int (nI c), .ref 120]) (w3 := w) rfl rfl ?_
      refine sx_RP.step (pc2 := 90) (ls2 := [(0, .ref 111), (1, .int (nI k)), (2, .int n), (3, .int (nI c)), (4, .int (ldV k s)), (5, .int (nI j))]) (st2 := [.int (ldV k s), .int (nI c), .ref 120]) (w3 := w) rfl rfl ?_
      refine sx_RP.step (pc2 := 91) (ls2 := [(0, .ref 111), (1, .int (nI k)), (2, .int n), (3, .int (nI c)), (4, .int (ldV k s)), (5, .int (nI j))]) (st2 := [.int 1, .int (ldV k s), .int (nI c), .ref 120]) (w3 := w) rfl rfl ?_
      refine sx_RP.step (pc2 := 92) (ls2 := [(0, .ref 111), (1, .int (nI k)), (2, .int n), (3, .int (nI c)), (4, .int (ldV k s)), (5, .int (nI j))]) (st2 := [.ref 111, .int 1, .int (ldV k s), .int (nI c), .ref 120]) (w3 := w) rfl rfl ?_
      refine sx_RP.gf (v := .ref 117) rfl rfl hI.1.o111 rfl rfl (show _ = 95 from rfl) ?_
      refine sx_RP.step (pc2 := 96) (ls2 := [(0, .ref 111), (1, .int (nI k)), (2, .int n), (3, .int (nI c)), (4, .int (ldV k s)), (5, .int (nI j))]) (st2 := [.ref 111, .ref 117, .int 1, .int (ldV k s), .int (nI c), .ref 120]) (w3 := w) rfl rfl ?_
      refine sx_RP.gf (v := .ref 112) rfl rfl hI.1.o111 rfl rfl (show _ = 99 from rfl) ?_
      refine sx_RP.step (pc2 := 102) (ls2 := [(0, .ref 111), (1, .int (nI k)), (2, .int n), (3, .int (nI c)), (4, .int (ldV k s)), (5, .int (nI j))]) (st2 := [.int 163, .ref 112, .ref 117, .int 1, .int (ldV k s), .int (nI c), .ref 120]) (w3 := w) rfl rfl ?_
      refine sx_RP.step (pc2 := 104) (ls2 := [(0, .ref 111), (1, .int (nI k)), (2, .int n), (3, .int (nI c)), (4, .int (ldV k s)), (5, .int (nI j))]) (st2 := [.int (nI j), .int 163, .ref 112, .ref 117, .int 1, .int (ldV k s), .int (nI c), .ref 120]) (w3 := w) rfl rfl ?_
      refine sx_RP.step (pc2 := 105) (ls2 := [(0, .ref 111), (1, .int (nI k)), (2, .int n), (3, .int (nI c)), (4, .int (ldV k s)), (5, .int (nI j))]) (st2 := [.int (163 + (nI j)), .ref 112, .ref 117, .int 1, .int (ldV k s), .int (nI c), .ref 120]) (w3 := w) rfl rfl ?_
      rw [show (163 + (nI j) : Int32) = nI (163 + j) from nI_add 163 j]
      refine sx_RP.ild (c := (163 + j)) rfl hI.1.a112.1 hI.1.a112.2 (sx_in_nI (show (163 + j) < 172 by omega) (by decide)) (show (nI (163 + j)).toNatClampNeg = (163 + j) from nI_clamp (by omega)) (show _ = 106 from rfl) ?_
      obtain ⟨x101, hx102, ex103⟩ : inR ((ia w 112).getD (163 + j) 0) 47 := (hI.s ((163 + j)) (by omega)).2.2.2.2.2.2.2.2 (by omega)
      rw [ex103]
      refine sx_RP.ild (c := x101) rfl hI.1.a117.1 hI.1.a117.2 (sx_in_nI (show x101 < 48 by omega) (by decide)) (show (nI x101).toNatClampNeg = x101 from nI_clamp (by omega)) (show _ = 107 from rfl) ?_
      rw [hw1 x101 (by omega)]
      refine sx_RP.step (pc2 := 108) (ls2 := [(0, .ref 111), (1, .int (nI k)), (2, .int n), (3, .int (nI c)), (4, .int (ldV k s)), (5, .int (nI j))]) (st2 := [.int (1 + (nI (farN (gdR l) c x101))), .int (ldV k s), .int (nI c), .ref 120]) (w3 := w) rfl rfl ?_
      rw [show (1 + (nI (farN (gdR l) c x101)) : Int32) = nI (1 + (farN (gdR l) c x101)) from nI_add 1 (farN (gdR l) c x101)]
      refine sx_RP.idiv (pc2 := 109) rfl (fun z => absurd ((nI_eq (a := 1 + (farN (gdR l) c x101)) (b := 0) (by have := far_fin (gdR l) hc (show x101 < 48 by omega); omega) (by decide)).mp z) (by omega)) rfl ?_
      refine sx_RP.step (pc2 := 110) (ls2 := [(0, .ref 111), (1, .int (nI k)), (2, .int n), (3, .int (nI c)), (4, .int (ldV k s)), (5, .int (nI j))]) (st2 := [.ref 111, .int ((ldV k s) / (nI (1 + (farN (gdR l) c x101)))), .int (nI c), .ref 120]) (w3 := w) rfl rfl ?_
      refine sx_RP.gf (v := .ref 119) rfl rfl hI.1.o111 rfl rfl (show _ = 113 from rfl) ?_
      refine sx_RP.step (pc2 := 115) (ls2 := [(0, .ref 111), (1, .int (nI k)), (2, .int n), (3, .int (nI c)), (4, .int (ldV k s)), (5, .int (nI j))]) (st2 := [.int (nI j), .ref 119, .int ((ldV k s) / (nI (1 + (farN (gdR l) c x101)))), .int (nI c), .ref 120]) (w3 := w) rfl rfl ?_
      refine sx_RP.ild (c := j) rfl hI.1.a119.1 hI.1.a119.2 (sx_in_nI (show j < 9 by omega) (by decide)) (show (nI j).toNatClampNeg = j from nI_clamp (by omega)) (show _ = 116 from rfl) ?_
      rw [hp9]
      refine sx_RP.br (p1 := 123) (l1 := [(0, .ref 111), (1, .int (nI k)), (2, .int n), (3, .int (nI c)), (4, .int (ldV k s)), (5, .int (nI j))]) (s1 := [.int (nI c), .ref 120]) (v1 := w) (p2 := 119) (l2 := [(0, .ref 111), (1, .int (nI k)), (2, .int n), (3, .int (nI c)), (4, .int (ldV k s)), (5, .int (nI j))]) (s2 := [.int (nI c), .ref 120]) (v2 := w) rfl rfl (fun q104 => ?_) (fun q104 => ?_)
      · replace q104 := of_decide_eq_true q104
        refine sx_RP.step (pc2 := 124) (ls2 := [(0, .ref 111), (1, .int (nI k)), (2, .int n), (3, .int (nI c)), (4, .int (ldV k s)), (5, .int (nI j))]) (st2 := [.int 0, .int (nI c), .ref 120]) (w3 := w) rfl rfl ?_
        refine sx_RP.xB0 (k := c) hI rfl (show c < 48 by omega) (show _ = 125 from rfl) (fun w105 hI106 hs107 hv108 => ?_)
        rw [nar_0] at hv108
        refine sx_RP.step (pc2 := 128) (ls2 := [(5, .int ((nI j) + 1)), (0, .ref 111), (1, .int (nI k)), (2, .int n), (3, .int (nI c)), (4, .int (ldV k s))]) (st2 := []) (w3 := w105) rfl rfl ?_
        rw [nI_1 j]
        refine sx_RP.step (pc2 := 63) (ls2 := [(5, .int (nI (j + 1))), (0, .ref 111), (1, .int (nI k)), (2, .int n), (3, .int (nI c)), (4, .int (ldV k s))]) (st2 := []) (w3 := w105) rfl rfl ?_
        have eT : l.getD (163 + j) 0 = nI x101 := by rw [← el]; exact ex103
        have eH : heV l k c (dtN l j) = ldV k s / nI (1 + (farN (gdR l) c x101)) := by rw [dtN_n (show x101 < 48 by omega) eT]; exact heV_n hs es
        have eb : acB l k c (j + 1) = false := (acB_n (fun z => q104 (eH.symm.trans z)))
        exact sx_RP.ls (sx_lr.cons rfl (sx_lr.cons rfl (sx_lr.cons rfl (sx_lr.cons rfl (sx_lr.cons rfl (sx_lr.cons rfl sx_lr.nil)))))) (X193d hk hc hm em hs es hw hP el1 q (j + 1) w105 (by omega) hI106 (hO.tr hs107) (by rw [hv108, h0, List.set_set, eb]; rfl) kk)
      · replace q104 := Decidable.not_not.mp (of_decide_eq_false q104)
        refine sx_RP.step (pc2 := 120) (ls2 := [(0, .ref 111), (1, .int (nI k)), (2, .int n), (3, .int (nI c)), (4, .int (ldV k s)), (5, .int (nI j))]) (st2 := [.int 1, .int (nI c), .ref 120]) (w3 := w) rfl rfl ?_
        refine sx_RP.step (pc2 := 124) (ls2 := [(0, .ref 111), (1, .int (nI k)), (2, .int n), (3, .int (nI c)), (4, .int (ldV k s)), (5, .int (nI j))]) (st2 := [.int 1, .int (nI c), .ref 120]) (w3 := w) rfl rfl ?_
        refine sx_RP.xB0 (k := c) hI rfl (show c < 48 by omega) (show _ = 125 from rfl) (fun w109 hI110 hs111 hv112 => ?_)
        rw [nar_1] at hv112
        refine sx_RP.step (pc2 := 128) (ls2 := [(5, .int ((nI j) + 1)), (0, .ref 111), (1, .int (nI k)), (2, .int n), (3, .int (nI c)), (4, .int (ldV k s))]) (st2 := []) (w3 := w109) rfl rfl ?_
        rw [nI_1 j]
        refine sx_RP.step (pc2 := 63) (ls2 := [(5, .int (nI (j + 1))), (0, .ref 111), (1, .int (nI k)), (2, .int n), (3, .int (nI c)), (4, .int (ldV k s))]) (st2 := []) (w3 := w109) rfl rfl ?_
        have eT : l.getD (163 + j) 0 = nI x101 := by rw [← el]; exact ex103
        have eH : heV l k c (dtN l j) = ldV k s / nI (1 + (farN (gdR l) c x101)) := by rw [dtN_n (show x101 < 48 by omega) eT]; exact heV_n hs es
        have eb : acB l k c (j + 1) = true := (acB_y hA (eH.trans q104))
        exact sx_RP.ls (sx_lr.cons rfl (sx_lr.cons rfl (sx_lr.cons rfl (sx_lr.cons rfl (sx_lr.cons rfl (sx_lr.cons rfl sx_lr.nil)))))) (X193d hk hc hm em hs es hw hP el1 q (j + 1) w109 (by omega) hI110 (hO.tr hs111) (by rw [hv112, h0, List.set_set, eb]; rfl) kk)
    · have e120 : (ia w 120).getD c 0 = 0 := by rw [h0, gd_eq (by rw [l120]; omega), hA]; rfl
      refine sx_RP.step (pc2 := 65) (ls2 := [(0, .ref 111), (1, .int (nI k)), (2, .int n), (3, .int (nI c)), (4, .int (ldV k s)), (5, .int (nI j))]) (st2 := [.int (nI j)]) (w3 := w) rfl rfl ?_
      refine sx_RP.step (pc2 := 66) (ls2 := [(0, .ref 111), (1, .int (nI k)), (2, .int n), (3, .int (nI c)), (4, .int (ldV k s)), (5, .int (nI j))]) (st2 := [.ref 111, .int (nI j)]) (w3 := w) rfl rfl ?_
      refine sx_RP.gf (v := .ref 112) rfl rfl hI.1.o111 rfl rfl (show _ = 69 from rfl) ?_
      refine sx_RP.step (pc2 := 70) (ls2 := [(0, .ref 111), (1, .int (nI k)), (2, .int n), (3, .int (nI c)), (4, .int (ldV k s)), (5, .int (nI j))]) (st2 := [.int 2, .ref 112, .int (nI j)]) (w3 := w) rfl rfl ?_
      refine sx_RP.ild (c := 2) rfl hI.1.a112.1 hI.1.a112.2 (sx_in_nI (show 2 < 172 by omega) (by decide)) (show (nI 2).toNatClampNeg = 2 from nI_clamp (by omega)) (show _ = 71 from rfl) ?_
      rw [em1]
      refine sx_RP.br (p2 := 74) (l2 := [(0, .ref 111), (1, .int (nI k)), (2, .int n), (3, .int (nI c)), (4, .int (ldV k s)), (5, .int (nI j))]) (s2 := []) (v2 := w) rfl rfl (fun q => absurd (of_decide_eq_true q) (fun z => absurd ((nI_leI (a := m) (b := j) (by omega) (by omega)).mp z) (by omega))) (fun _ => ?_)
      refine sx_RP.step (pc2 := 75) (ls2 := [(0, .ref 111), (1, .int (nI k)), (2, .int n), (3, .int (nI c)), (4, .int (ldV k s)), (5, .int (nI j))]) (st2 := [.ref 111]) (w3 := w) rfl rfl ?_
      refine sx_RP.gf (v := .ref 120) rfl rfl hI.1.o111 rfl rfl (show _ = 78 from rfl) ?_
      refine sx_RP.step (pc2 := 79) (ls2 := [(0, .ref 111), (1, .int (nI k)), (2, .int n), (3, .int (nI c)), (4, .int (ldV k s)), (5, .int (nI j))]) (st2 := [.int (nI c), .ref 120]) (w3 := w) rfl rfl ?_
      refine sx_RP.step (pc2 := 80) (ls2 := [(0, .ref 111), (1, .int (nI k)), (2, .int n), (3, .int (nI c)), (4, .int (ldV k s)), (5, .int (nI j))]) (st2 := [.ref 111, .int (nI c), .ref 120]) (w3 := w) rfl rfl ?_
      refine sx_RP.gf (v := .ref 120) rfl rfl hI.1.o111 rfl rfl (show _ = 83 from rfl) ?_
      refine sx_RP.step (pc2 := 84) (ls2 := [(0, .ref 111), (1, .int (nI k)), (2, .int n), (3, .int (nI c)), (4, .int (ldV k s)), (5, .int (nI j))]) (st2 := [.int (nI c), .ref 120, .int (nI c), .ref 120]) (w3 := w) rfl rfl ?_
      refine sx_RP.bld1 (c := c) rfl hI.1.a120.1 hI.1.a120.2 (sx_in_nI (show c < 48 by omega) (by decide)) (show (nI c).toNatClampNeg = c from nI_clamp (by omega)) (show _ = 85 from rfl) ?_
      rw [e120]
      refine sx_RP.step (pc2 := 123) (ls2 := [(0, .ref 111), (1, .int (nI k)), (2, .int n), (3, .int (nI c)), (4, .int (ldV k s)), (5, .int (nI j))]) (st2 := [.int (nI c), .ref 120]) (w3 := w) rfl rfl ?_
      refine sx_RP.step (pc2 := 124) (ls2 := [(0, .ref 111), (1, .int (nI k)), (2, .int n), (3, .int (nI c)), (4, .int (ldV k s)), (5, .int (nI j))]) (st2 := [.int 0, .int (nI c), .ref 120]) (w3 := w) rfl rfl ?_
      refine sx_RP.xB0 (k := c) hI rfl (show c < 48 by omega) (show _ = 125 from rfl) (fun w1 hI2 hs3 hv4 => ?_)
      rw [nar_0] at hv4
      refine sx_RP.step (pc2 := 128) (ls2 := [(5, .int ((nI j) + 1)), (0, .ref 111), (1, .int (nI k)), (2, .int n), (3, .int (nI c)), (4, .int (ldV k s))]) (st2 := []) (w3 := w1) rfl rfl ?_
      rw [nI_1 j]
      refine sx_RP.step (pc2 := 63) (ls2 := [(5, .int (nI (j + 1))), (0, .ref 111), (1, .int (nI k)), (2, .int n), (3, .int (nI c)), (4, .int (ldV k s))]) (st2 := []) (w3 := w1) rfl rfl ?_
      have eb : acB l k c (j + 1) = false := (acB_0 hA)
      exact sx_RP.ls (sx_lr.cons rfl (sx_lr.cons rfl (sx_lr.cons rfl (sx_lr.cons rfl (sx_lr.cons rfl (sx_lr.cons rfl sx_lr.nil)))))) (X193d hk hc hm em hs es hw hP el1 q (j + 1) w1 (by omega) hI2 (hO.tr hs3) (by rw [hv4, h0, List.set_set, eb]; rfl) kk)
set_option maxRecDepth 20000 in
set_option maxHeartbeats 4000000 in
theorem X193b {xs : Option (List Int32)} {d m k : Nat} {w0 : List sx_C} {l : List Int32} (hk : k ≤ 5) (hm : m ≤ 9) (em : l.getD 2 0 = nI m) : ∀ (q c : Nat) (w : List sx_C), c + q = 48 → WI w → ia w 112 = l → FRm w0 w → (∀ d, d < m → (ia w 119).getD d 0 = dpF l d) → (∀ x, x < c → (ia w 120).getD x 0 = b01 (whB l k x)) → sx_RP xs (d + 6) 193 33 [(0, .ref 111), (1, .int (nI k)), (2, .int (ctP (whB l k) c)), (3, .int (nI c))] [] w (fun r w2 => r = some (.int (ctP (whB l k) 48)) ∧ WI w2 ∧ (ia w2 112 = l ∧ ∀ x, x < 48 → (ia w2 120).getD x 0 = b01 (whB l k x)) ∧ FRm w0 w2)
  | 0, c, w, hj, hI, el, hO, hP, hM => by
    obtain rfl : c = 48 := by omega
    refine sx_RP.step (pc2 := 34) (ls2 := [(0, .ref 111), (1, .int (nI k)), (2, .int (ctP (whB l k) 48)), (3, .int 48)]) (st2 := [.int 48]) (w3 := w) rfl rfl ?_
    refine sx_RP.step (pc2 := 36) (ls2 := [(0, .ref 111), (1, .int (nI k)), (2, .int (ctP (whB l k) 48)), (3, .int 48)]) (st2 := [.int 48, .int 48]) (w3 := w) rfl rfl ?_
    refine sx_RP.step (pc2 := 154) (ls2 := [(0, .ref 111), (1, .int (nI k)), (2, .int (ctP (whB l k) 48)), (3, .int 48)]) (st2 := []) (w3 := w) rfl rfl ?_
    refine sx_RP.step (pc2 := 155) (ls2 := [(0, .ref 111), (1, .int (nI k)), (2, .int (ctP (whB l k) 48)), (3, .int 48)]) (st2 := [.int (ctP (whB l k) 48)]) (w3 := w) rfl rfl ?_
    refine sx_RP.ret (r := (some (.int (ctP (whB l k) 48)))) rfl rfl ?_
    exact ⟨rfl, hI, ⟨el, hM⟩, hO⟩
  | q + 1, c, w, hj, hI, el, hO, hP, hM => by
    refine sx_RP.step (pc2 := 34) (ls2 := [(0, .ref 111), (1, .int (nI k)), (2, .int (ctP (whB l k) c)), (3, .int (nI c))]) (st2 := [.int (nI c)]) (w3 := w) rfl rfl ?_
    refine sx_RP.step (pc2 := 36) (ls2 := [(0, .ref 111), (1, .int (nI k)), (2, .int (ctP (whB l k) c)), (3, .int (nI c))]) (st2 := [.int 48, .int (nI c)]) (w3 := w) rfl rfl ?_
    refine sx_RP.br (p2 := 39) (l2 := [(0, .ref 111), (1, .int (nI k)), (2, .int (ctP (whB l k) c)), (3, .int (nI c))]) (s2 := []) (v2 := w) rfl rfl (fun q => absurd (of_decide_eq_true q) (fun z => absurd ((nI_leI (a := 48) (b := c) (by omega) (by omega)).mp z) (by omega))) (fun _ => ?_)
    refine sx_RP.step (pc2 := 40) (ls2 := [(0, .ref 111), (1, .int (nI k)), (2, .int (ctP (whB l k) c)), (3, .int (nI c))]) (st2 := [.ref 111]) (w3 := w) rfl rfl ?_
    refine sx_RP.step (pc2 := 41) (ls2 := [(0, .ref 111), (1, .int (nI k)), (2, .int (ctP (whB l k) c)), (3, .int (nI c))]) (st2 := [.int (nI c), .ref 111]) (w3 := w) rfl rfl ?_
    refine sx_RP.step (pc2 := 42) (ls2 := [(0, .ref 111), (1, .int (nI k)), (2, .int (ctP (whB l k) c)), (3, .int (nI c))]) (st2 := [.int (-1), .int (nI c), .ref 111]) (w3 := w) rfl rfl ?_
    refine sx_RP.callp (as2 := [.ref 111, .int (nI c), .int (-1)]) (rest2 := []) rfl rfl (sx_inv_v2 (mi := 193) (k := 94) (st := [.int (-1), .int (nI c), .ref 111]) (w := w) rfl rfl hI.1.o111 rfl rfl rfl) rfl rfl rfl (X141s (d := d + 4) hI (show c < 48 by omega)) (show _ = 45 from rfl) ?_
    rintro r4 w3 ⟨⟨rfl, hw1⟩, hI4, hf2⟩
    show sx_RP _ _ _ _ _ [] _ _
    refine sx_RP.step (pc2 := 46) (ls2 := [(0, .ref 111), (1, .int (nI k)), (2, .int (ctP (whB l k) c)), (3, .int (nI c))]) (st2 := [.ref 111]) (w3 := w3) rfl rfl ?_
    refine sx_RP.step (pc2 := 47) (ls2 := [(0, .ref 111), (1, .int (nI k)), (2, .int (ctP (whB l k) c)), (3, .int (nI c))]) (st2 := [.int (nI k), .ref 111]) (w3 := w3) rfl rfl ?_
    refine sx_RP.step (pc2 := 48) (ls2 := [(0, .ref 111), (1, .int (nI k)), (2, .int (ctP (whB l k) c)), (3, .int (nI c))]) (st2 := [.int (nI c), .int (nI k), .ref 111]) (w3 := w3) rfl rfl ?_
    have ei : ia w3 112 = l := (ia_of (hf2 112 (by decide) (by decide))).trans el
    obtain ⟨s, hs, es⟩ : inR ((ia w3 112).getD (7 + c) 0) 3 := (hI4.s (7 + c) (by omega)).2.2.1 (by omega)
    refine sx_RP.cu (as := [.ref 111, .int (nI k), .int (nI c)]) (rest2 := []) (st3 := [.int (ldV k s)]) rfl rfl (sx_inv_v2 (mi := 193) (k := 130) (st := [.int (nI c), .int (nI k), .ref 111]) (w := w3) rfl rfl hI4.1.o111 rfl rfl rfl) rfl rfl (x162 hI4 (show c < 48 by omega) (show k < 6 by omega) (show s < 4 by omega) es) rfl ?_
    refine sx_RP.step (pc2 := 53) (ls2 := [(4, .int (ldV k s)), (0, .ref 111), (1, .int (nI k)), (2, .int (ctP (whB l k) c)), (3, .int (nI c))]) (st2 := []) (w3 := w3) rfl rfl ?_
    refine sx_RP.step (pc2 := 54) (ls2 := [(4, .int (ldV k s)), (0, .ref 111), (1, .int (nI k)), (2, .int (ctP (whB l k) c)), (3, .int (nI c))]) (st2 := [.ref 111]) (w3 := w3) rfl rfl ?_
    refine sx_RP.gf (v := .ref 120) rfl rfl hI4.1.o111 rfl rfl (show _ = 57 from rfl) ?_
    refine sx_RP.step (pc2 := 58) (ls2 := [(4, .int (ldV k s)), (0, .ref 111), (1, .int (nI k)), (2, .int (ctP (whB l k) c)), (3, .int (nI c))]) (st2 := [.int (nI c), .ref 120]) (w3 := w3) rfl rfl ?_
    refine sx_RP.step (pc2 := 59) (ls2 := [(4, .int (ldV k s)), (0, .ref 111), (1, .int (nI k)), (2, .int (ctP (whB l k) c)), (3, .int (nI c))]) (st2 := [.int 1, .int (nI c), .ref 120]) (w3 := w3) rfl rfl ?_
    refine sx_RP.xB0 (k := c) hI4 rfl (show c < 48 by omega) (show _ = 60 from rfl) (fun w5 hI6 hs7 hv8 => ?_)
    rw [nar_1] at hv8
    refine sx_RP.step (pc2 := 61) (ls2 := [(4, .int (ldV k s)), (0, .ref 111), (1, .int (nI k)), (2, .int (ctP (whB l k) c)), (3, .int (nI c))]) (st2 := [.int 0]) (w3 := w5) rfl rfl ?_
    refine sx_RP.step (pc2 := 63) (ls2 := [(5, .int 0), (4, .int (ldV k s)), (0, .ref 111), (1, .int (nI k)), (2, .int (ctP (whB l k) c)), (3, .int (nI c))]) (st2 := []) (w3 := w5) rfl rfl ?_
    have es2 : l.getD (7 + c) 0 = nI s := by rw [← ei]; exact es
    refine sx_RP.ls (sx_lr.cons rfl (sx_lr.cons rfl (sx_lr.cons rfl (sx_lr.cons rfl (sx_lr.cons rfl (sx_lr.cons rfl sx_lr.nil)))))) (X193d (d := d) (w1 := w3) (l := l) (m := m) (s := s) hk (show c < 48 by omega) hm em (by omega) es2 (fun f hf9 => by rw [hw1 f hf9, el]) (fun d hd => by rw [ia_of (hf2 119 (by decide) (by decide))]; exact hP d hd) ei m 0 w5 (by omega) hI6 hs7 (by rw [hv8]; rfl) (fun w5 h5 h6 h7 => ?_))
    rw [← whB_n em hm] at h7
    have l12 : (ia w3 120).length = 48 := hI4.1.a120.2
    have hM5 : ∀ x, x < c + 1 → (ia w5 120).getD x 0 = b01 (whB l k x) := fun x hx => by
      rw [h7, gd_set (by omega)]
      by_cases e : x = c
      · rw [if_pos e, e]
      · rw [if_neg e, ia_of (hf2 120 (by decide) (by decide))]; exact hM x (by omega)
    have e5 : ia w5 112 = l := (ia_of (h6 112 (by decide))).trans ei
    have hO5 : FRm w0 w5 := fun a h1 h2 h3 h4 => (h6 a h4).trans ((hf2 a h1 h2).trans (hO a h1 h2 h3 h4))
    have hP5 : ∀ d, d < m → (ia w5 119).getD d 0 = dpF l d := fun d hd => by rw [ia_of (h6 119 (by decide)), ia_of (hf2 119 (by decide) (by decide))]; exact hP d hd
    rcases Bool.eq_false_or_eq_true (whB l k c) with hB | hB
    · have e120 : (ia w5 120).getD c 0 = 1 := (hM5 c (by omega)).trans (by rw [hB]; rfl)
      refine sx_RP.step (pc2 := 132) (ls2 := [(0, .ref 111), (1, .int (nI k)), (2, .int (ctP (whB l k) c)), (3, .int (nI c))]) (st2 := [.int (ctP (whB l k) c)]) (w3 := w5) rfl rfl ?_
      refine sx_RP.step (pc2 := 133) (ls2 := [(0, .ref 111), (1, .int (nI k)), (2, .int (ctP (whB l k) c)), (3, .int (nI c))]) (st2 := [.ref 111, .int (ctP (whB l k) c)]) (w3 := w5) rfl rfl ?_
      refine sx_RP.gf (v := .ref 120) rfl rfl h5.1.o111 rfl rfl (show _ = 136 from rfl) ?_
      refine sx_RP.step (pc2 := 137) (ls2 := [(0, .ref 111), (1, .int (nI k)), (2, .int (ctP (whB l k) c)), (3, .int (nI c))]) (st2 := [.int (nI c), .ref 120, .int (ctP (whB l k) c)]) (w3 := w5) rfl rfl ?_
      refine sx_RP.bld1 (c := c) rfl h5.1.a120.1 h5.1.a120.2 (sx_in_nI (show c < 48 by omega) (by decide)) (show (nI c).toNatClampNeg = c from nI_clamp (by omega)) (show _ = 138 from rfl) ?_
      rw [e120]
      refine sx_RP.step (pc2 := 141) (ls2 := [(0, .ref 111), (1, .int (nI k)), (2, .int (ctP (whB l k) c)), (3, .int (nI c))]) (st2 := [.int (ctP (whB l k) c)]) (w3 := w5) rfl rfl ?_
      refine sx_RP.step (pc2 := 142) (ls2 := [(0, .ref 111), (1, .int (nI k)), (2, .int (ctP (whB l k) c)), (3, .int (nI c))]) (st2 := [.int 1, .int (ctP (whB l k) c)]) (w3 := w5) rfl rfl ?_
      refine sx_RP.step (pc2 := 146) (ls2 := [(0, .ref 111), (1, .int (nI k)), (2, .int (ctP (whB l k) c)), (3, .int (nI c))]) (st2 := [.int 1, .int (ctP (whB l k) c)]) (w3 := w5) rfl rfl ?_
      refine sx_RP.step (pc2 := 147) (ls2 := [(0, .ref 111), (1, .int (nI k)), (2, .int (ctP (whB l k) c)), (3, .int (nI c))]) (st2 := [.int ((ctP (whB l k) c) + 1)]) (w3 := w5) rfl rfl ?_
      refine sx_RP.step (pc2 := 148) (ls2 := [(2, .int ((ctP (whB l k) c) + 1)), (0, .ref 111), (1, .int (nI k)), (3, .int (nI c))]) (st2 := []) (w3 := w5) rfl rfl ?_
      refine sx_RP.step (pc2 := 151) (ls2 := [(3, .int ((nI c) + 1)), (2, .int ((ctP (whB l k) c) + 1)), (0, .ref 111), (1, .int (nI k))]) (st2 := []) (w3 := w5) rfl rfl ?_
      rw [nI_1 c]
      refine sx_RP.step (pc2 := 33) (ls2 := [(3, .int (nI (c + 1))), (2, .int ((ctP (whB l k) c) + 1)), (0, .ref 111), (1, .int (nI k))]) (st2 := []) (w3 := w5) rfl rfl ?_
      have ec : ctP (whB l k) c + 1 = ctP (whB l k) (c + 1) := by show _ = ctP (whB l k) c + (if whB l k c = true then 1 else 0); rw [hB]; rfl
      rw [ec]
      exact sx_RP.ls (sx_lr.cons rfl (sx_lr.cons rfl (sx_lr.cons rfl (sx_lr.cons rfl sx_lr.nil)))) (X193b hk hm em q (c + 1) w5 (by omega) h5 e5 hO5 hP5 hM5)
    · have e120 : (ia w5 120).getD c 0 = 0 := (hM5 c (by omega)).trans (by rw [hB]; rfl)
      refine sx_RP.step (pc2 := 132) (ls2 := [(0, .ref 111), (1, .int (nI k)), (2, .int (ctP (whB l k) c)), (3, .int (nI c))]) (st2 := [.int (ctP (whB l k) c)]) (w3 := w5) rfl rfl ?_
      refine sx_RP.step (pc2 := 133) (ls2 := [(0, .ref 111), (1, .int (nI k)), (2, .int (ctP (whB l k) c)), (3, .int (nI c))]) (st2 := [.ref 111, .int (ctP (whB l k) c)]) (w3 := w5) rfl rfl ?_
      refine sx_RP.gf (v := .ref 120) rfl rfl h5.1.o111 rfl rfl (show _ = 136 from rfl) ?_
      refine sx_RP.step (pc2 := 137) (ls2 := [(0, .ref 111), (1, .int (nI k)), (2, .int (ctP (whB l k) c)), (3, .int (nI c))]) (st2 := [.int (nI c), .ref 120, .int (ctP (whB l k) c)]) (w3 := w5) rfl rfl ?_
      refine sx_RP.bld1 (c := c) rfl h5.1.a120.1 h5.1.a120.2 (sx_in_nI (show c < 48 by omega) (by decide)) (show (nI c).toNatClampNeg = c from nI_clamp (by omega)) (show _ = 138 from rfl) ?_
      rw [e120]
      refine sx_RP.step (pc2 := 145) (ls2 := [(0, .ref 111), (1, .int (nI k)), (2, .int (ctP (whB l k) c)), (3, .int (nI c))]) (st2 := [.int (ctP (whB l k) c)]) (w3 := w5) rfl rfl ?_
      refine sx_RP.step (pc2 := 146) (ls2 := [(0, .ref 111), (1, .int (nI k)), (2, .int (ctP (whB l k) c)), (3, .int (nI c))]) (st2 := [.int 0, .int (ctP (whB l k) c)]) (w3 := w5) rfl rfl ?_
      refine sx_RP.step (pc2 := 147) (ls2 := [(0, .ref 111), (1, .int (nI k)), (2, .int (ctP (whB l k) c)), (3, .int (nI c))]) (st2 := [.int ((ctP (whB l k) c) + 0)]) (w3 := w5) rfl rfl ?_
      refine sx_RP.step (pc2 := 148) (ls2 := [(2, .int ((ctP (whB l k) c) + 0)), (0, .ref 111), (1, .int (nI k)), (3, .int (nI c))]) (st2 := []) (w3 := w5) rfl rfl ?_
      refine sx_RP.step (pc2 := 151) (ls2 := [(3, .int ((nI c) + 1)), (2, .int ((ctP (whB l k) c) + 0)), (0, .ref 111), (1, .int (nI k))]) (st2 := []) (w3 := w5) rfl rfl ?_
      rw [nI_1 c]
      refine sx_RP.step (pc2 := 33) (ls2 := [(3, .int (nI (c + 1))), (2, .int ((ctP (whB l k) c) + 0)), (0, .ref 111), (1, .int (nI k))]) (st2 := []) (w3 := w5) rfl rfl ?_
      have ec : ctP (whB l k) c + 0 = ctP (whB l k) (c + 1) := by show _ = ctP (whB l k) c + (if whB l k c = true then 1 else 0); rw [hB]; rfl
      rw [ec]
      exact sx_RP.ls (sx_lr.cons rfl (sx_lr.cons rfl (sx_lr.cons rfl (sx_lr.cons rfl sx_lr.nil)))) (X193b hk hm em q (c + 1) w5 (by omega) h5 e5 hO5 hP5 hM5)
set_option maxRecDepth 20000 in
set_option maxHeartbeats 4000000 in
theorem X193 {xs : Option (List Int32)} {d : Nat} {w : List sx_C} (hI : WI w) {m k : Nat} (hk : k ≤ 5) (hm : m ≤ 9) (em : (ia w 112).getD 2 0 = nI m) : sx_RP xs (d + 6) 193 0 (lv_args 0 [.ref 111, .int (nI k)]) [] w (fun r w2 => r = some (.int (ctP (whB (ia w 112) k) 48)) ∧ WI w2 ∧ (ia w2 112 = ia w 112 ∧ ∀ x, x < 48 → (ia w2 120).getD x 0 = b01 (whB (ia w 112) k x)) ∧ FRm w w2) := by
  refine sx_RP.step (pc2 := 1) (ls2 := [(0, .ref 111), (1, .int (nI k))]) (st2 := [.int 0]) (w3 := w) rfl rfl ?_
  refine sx_RP.step (pc2 := 2) (ls2 := [(2, .int 0), (0, .ref 111), (1, .int (nI k))]) (st2 := []) (w3 := w) rfl rfl ?_
  refine sx_RP.ls (sx_lr.cons rfl (sx_lr.cons rfl (sx_lr.cons rfl sx_lr.nil))) (X193a (w0 := w) hm em m 0 w (by omega) hI rfl (fun _ _ _ _ _ => rfl) (fun d hd => absurd hd (by omega)) (fun w3 h1 h2 h3 h4 => ?_))
  refine sx_RP.step (pc2 := 30) (ls2 := [(0, .ref 111), (1, .int (nI k))]) (st2 := [.int 0]) (w3 := w3) rfl rfl ?_
  refine sx_RP.step (pc2 := 31) (ls2 := [(2, .int 0), (0, .ref 111), (1, .int (nI k))]) (st2 := []) (w3 := w3) rfl rfl ?_
  refine sx_RP.step (pc2 := 32) (ls2 := [(2, .int 0), (0, .ref 111), (1, .int (nI k))]) (st2 := [.int 0]) (w3 := w3) rfl rfl ?_
  refine sx_RP.step (pc2 := 33) (ls2 := [(3, .int 0), (2, .int 0), (0, .ref 111), (1, .int (nI k))]) (st2 := []) (w3 := w3) rfl rfl ?_
  exact sx_RP.ls (sx_lr.cons rfl (sx_lr.cons rfl (sx_lr.cons rfl (sx_lr.cons rfl sx_lr.nil)))) (X193b (w0 := w) hk hm em 48 0 w3 (by omega) h1 h2 h3 h4 (fun x hx => absurd hx (by omega)))
set_option maxRecDepth 20000 in
set_option maxHeartbeats 4000000 in
theorem x195L {xs : Option (List Int32)} {d k c : Nat} {w : List sx_C} (hI : WI w) (hk : k ≤ 5) (hc : c < 48) (hw : ∀ f, f < 48 → (ia w 117).getD f 0 = nI (farN (gdR (ia w 112)) c f)) (hM : ∀ x, x < 48 → (ia w 120).getD x 0 = b01 (whB (ia w 112) k x)) : ∀ (q j : Nat), j + q = 48 → sx_RP xs (d + 5) 195 18 [(0, .ref 111), (1, .int (nI c)), (2, .int (nI k)), (3, .int (pesF (ia w 112) c)), (4, .int (ctP (fun h => whB (ia w 112) k h && decide (heV (ia w 112) k h c = pesF (ia w 112) c)) j)), (5, .int (nI j))] [] w (fun r w2 => r = some (.int (lfV (ia w 112) k c)) ∧ w2 = w)
  | 0, j, hj => by
    obtain rfl : j = 48 := by omega
    refine sx_RP.step (pc2 := 20) (ls2 := [(0, .ref 111), (1, .int (nI c)), (2, .int (nI k)), (3, .int (pesF (ia w 112) c)), (4, .int (ctP (fun h => whB (ia w 112) k h && decide (heV (ia w 112) k h c = pesF (ia w 112) c)) 48)), (5, .int 48)]) (st2 := [.int 48]) (w3 := w) rfl rfl ?_
    refine sx_RP.step (pc2 := 22) (ls2 := [(0, .ref 111), (1, .int (nI c)), (2, .int (nI k)), (3, .int (pesF (ia w 112) c)), (4, .int (ctP (fun h => whB (ia w 112) k h && decide (heV (ia w 112) k h c = pesF (ia w 112) c)) 48)), (5, .int 48)]) (st2 := [.int 48, .int 48]) (w3 := w) rfl rfl ?_
    refine sx_RP.step (pc2 := 103) (ls2 := [(0, .ref 111), (1, .int (nI c)), (2, .int (nI k)), (3, .int (pesF (ia w 112) c)), (4, .int (ctP (fun h => whB (ia w 112) k h && decide (heV (ia w 112) k h c = pesF (ia w 112) c)) 48)), (5, .int 48)]) (st2 := []) (w3 := w) rfl rfl ?_
    refine sx_RP.step (pc2 := 105) (ls2 := [(0, .ref 111), (1, .int (nI c)), (2, .int (nI k)), (3, .int (pesF (ia w 112) c)), (4, .int (ctP (fun h => whB (ia w 112) k h && decide (heV (ia w 112) k h c = pesF (ia w 112) c)) 48)), (5, .int 48)]) (st2 := [.int (ctP (fun h => whB (ia w 112) k h && decide (heV (ia w 112) k h c = pesF (ia w 112) c)) 48)]) (w3 := w) rfl rfl ?_
    refine sx_RP.ret (r := (some (.int (ctP (fun h => whB (ia w 112) k h && decide (heV (ia w 112) k h c = pesF (ia w 112) c)) 48)))) rfl rfl ?_
    exact ⟨rfl, rfl⟩
  | q + 1, j, hj => by
    rcases Bool.eq_false_or_eq_true (whB (ia w 112) k j) with hB | hB
    · have e120 : (ia w 120).getD j 0 = 1 := (hM j (by omega)).trans (by rw [hB]; rfl)
      refine sx_RP.step (pc2 := 20) (ls2 := [(0, .ref 111), (1, .int (nI c)), (2, .int (nI k)), (3, .int (pesF (ia w 112) c)), (4, .int (ctP (fun h => whB (ia w 112) k h && decide (heV (ia w 112) k h c = pesF (ia w 112) c)) j)), (5, .int (nI j))]) (st2 := [.int (nI j)]) (w3 := w) rfl rfl ?_
      refine sx_RP.step (pc2 := 22) (ls2 := [(0, .ref 111), (1, .int (nI c)), (2, .int (nI k)), (3, .int (pesF (ia w 112) c)), (4, .int (ctP (fun h => whB (ia w 112) k h && decide (heV (ia w 112) k h c = pesF (ia w 112) c)) j)), (5, .int (nI j))]) (st2 := [.int 48, .int (nI j)]) (w3 := w) rfl rfl ?_
      refine sx_RP.br (p2 := 25) (l2 := [(0, .ref 111), (1, .int (nI c)), (2, .int (nI k)), (3, .int (pesF (ia w 112) c)), (4, .int (ctP (fun h => whB (ia w 112) k h && decide (heV (ia w 112) k h c = pesF (ia w 112) c)) j)), (5, .int (nI j))]) (s2 := []) (v2 := w) rfl rfl (fun q => absurd (of_decide_eq_true q) (fun z => absurd ((nI_leI (a := 48) (b := j) (by omega) (by omega)).mp z) (by omega))) (fun _ => ?_)
      refine sx_RP.step (pc2 := 26) (ls2 := [(0, .ref 111), (1, .int (nI c)), (2, .int (nI k)), (3, .int (pesF (ia w 112) c)), (4, .int (ctP (fun h => whB (ia w 112) k h && decide (heV (ia w 112) k h c = pesF (ia w 112) c)) j)), (5, .int (nI j))]) (st2 := [.ref 111]) (w3 := w) rfl rfl ?_
      refine sx_RP.gf (v := .ref 120) rfl rfl hI.1.o111 rfl rfl (show _ = 29 from rfl) ?_
      refine sx_RP.step (pc2 := 31) (ls2 := [(0, .ref 111), (1, .int (nI c)), (2, .int (nI k)), (3, .int (pesF (ia w 112) c)), (4, .int (ctP (fun h => whB (ia w 112) k h && decide (heV (ia w 112) k h c = pesF (ia w 112) c)) j)), (5, .int (nI j))]) (st2 := [.int (nI j), .ref 120]) (w3 := w) rfl rfl ?_
      refine sx_RP.bld1 (c := j) rfl hI.1.a120.1 hI.1.a120.2 (sx_in_nI (show j < 48 by omega) (by decide)) (show (nI j).toNatClampNeg = j from nI_clamp (by omega)) (show _ = 32 from rfl) ?_
      rw [e120]
      refine sx_RP.step (pc2 := 35) (ls2 := [(0, .ref 111), (1, .int (nI c)), (2, .int (nI k)), (3, .int (pesF (ia w 112) c)), (4, .int (ctP (fun h => whB (ia w 112) k h && decide (heV (ia w 112) k h c = pesF (ia w 112) c)) j)), (5, .int (nI j))]) (st2 := []) (w3 := w) rfl rfl ?_
      refine sx_RP.step (pc2 := 36) (ls2 := [(0, .ref 111), (1, .int (nI c)), (2, .int (nI k)), (3, .int (pesF (ia w 112) c)), (4, .int (ctP (fun h => whB (ia w 112) k h && decide (heV (ia w 112) k h c = pesF (ia w 112) c)) j)), (5, .int (nI j))]) (st2 := [.ref 111]) (w3 := w) rfl rfl ?_
      refine sx_RP.gf (v := .ref 117) rfl rfl hI.1.o111 rfl rfl (show _ = 39 from rfl) ?_
      refine sx_RP.step (pc2 := 41) (ls2 := [(0, .ref 111), (1, .int (nI c)), (2, .int (nI k)), (3, .int (pesF (ia w 112) c)), (4, .int (ctP (fun h => whB (ia w 112) k h && decide (heV (ia w 112) k h c = pesF (ia w 112) c)) j)), (5, .int (nI j))]) (st2 := [.int (nI j), .ref 117]) (w3 := w) rfl rfl ?_
      refine sx_RP.ild (c := j) rfl hI.1.a117.1 hI.1.a117.2 (sx_in_nI (show j < 48 by omega) (by decide)) (show (nI j).toNatClampNeg = j from nI_clamp (by omega)) (show _ = 42 from rfl) ?_
      rw [(hw j (by omega))]
      refine sx_RP.step (pc2 := 43) (ls2 := [(0, .ref 111), (1, .int (nI c)), (2, .int (nI k)), (3, .int (pesF (ia w 112) c)), (4, .int (ctP (fun h => whB (ia w 112) k h && decide (heV (ia w 112) k h c = pesF (ia w 112) c)) j)), (5, .int (nI j))]) (st2 := [.ref 111, .int (nI (farN (gdR (ia w 112)) c j))]) (w3 := w) rfl rfl ?_
      refine sx_RP.step (pc2 := 45) (ls2 := [(0, .ref 111), (1, .int (nI c)), (2, .int (nI k)), (3, .int (pesF (ia w 112) c)), (4, .int (ctP (fun h => whB (ia w 112) k h && decide (heV (ia w 112) k h c = pesF (ia w 112) c)) j)), (5, .int (nI j))]) (st2 := [.int (nI j), .ref 111, .int (nI (farN (gdR (ia w 112)) c j))]) (w3 := w) rfl rfl ?_
      refine sx_RP.cu (as := [.ref 111, .int (nI j)]) (rest2 := [.int (nI (farN (gdR (ia w 112)) c j))]) (st3 := [.int (nI (iN (gk (gdR (ia w 112)) j))), .int (nI (farN (gdR (ia w 112)) c j))]) rfl rfl (sx_inv_v2 (mi := 195) (k := 84) (st := [.int (nI j), .ref 111, .int (nI (farN (gdR (ia w 112)) c j))]) (w := w) rfl rfl hI.1.o111 rfl rfl rfl) rfl rfl (x146n hI (show j < 48 by omega)) rfl ?_
      refine sx_RP.step (pc2 := 49) (ls2 := [(0, .ref 111), (1, .int (nI c)), (2, .int (nI k)), (3, .int (pesF (ia w 112) c)), (4, .int (ctP (fun h => whB (ia w 112) k h && decide (heV (ia w 112) k h c = pesF (ia w 112) c)) j)), (5, .int (nI j))]) (st2 := [.int ((nI (farN (gdR (ia w 112)) c j)) - (nI (iN (gk (gdR (ia w 112)) j))))]) (w3 := w) rfl rfl ?_
      refine sx_RP.step (pc2 := 50) (ls2 := [(0, .ref 111), (1, .int (nI c)), (2, .int (nI k)), (3, .int (pesF (ia w 112) c)), (4, .int (ctP (fun h => whB (ia w 112) k h && decide (heV (ia w 112) k h c = pesF (ia w 112) c)) j)), (5, .int (nI j))]) (st2 := [.ref 111, .int ((nI (farN (gdR (ia w 112)) c j)) - (nI (iN (gk (gdR (ia w 112)) j))))]) (w3 := w) rfl rfl ?_
      refine sx_RP.step (pc2 := 51) (ls2 := [(0, .ref 111), (1, .int (nI c)), (2, .int (nI k)), (3, .int (pesF (ia w 112) c)), (4, .int (ctP (fun h => whB (ia w 112) k h && decide (heV (ia w 112) k h c = pesF (ia w 112) c)) j)), (5, .int (nI j))]) (st2 := [.int (nI c), .ref 111, .int ((nI (farN (gdR (ia w 112)) c j)) - (nI (iN (gk (gdR (ia w 112)) j))))]) (w3 := w) rfl rfl ?_
      refine sx_RP.cu (as := [.ref 111, .int (nI c)]) (rest2 := [.int ((nI (farN (gdR (ia w 112)) c j)) - (nI (iN (gk (gdR (ia w 112)) j))))]) (st3 := [.int (nI (iN (gk (gdR (ia w 112)) c))), .int ((nI (farN (gdR (ia w 112)) c j)) - (nI (iN (gk (gdR (ia w 112)) j))))]) rfl rfl (sx_inv_v2 (mi := 195) (k := 84) (st := [.int (nI c), .ref 111, .int ((nI (farN (gdR (ia w 112)) c j)) - (nI (iN (gk (gdR (ia w 112)) j))))]) (w := w) rfl rfl hI.1.o111 rfl rfl rfl) rfl rfl (x146n hI (show c < 48 by omega)) rfl ?_
      refine sx_RP.step (pc2 := 55) (ls2 := [(0, .ref 111), (1, .int (nI c)), (2, .int (nI k)), (3, .int (pesF (ia w 112) c)), (4, .int (ctP (fun h => whB (ia w 112) k h && decide (heV (ia w 112) k h c = pesF (ia w 112) c)) j)), (5, .int (nI j))]) (st2 := [.int (((nI (farN (gdR (ia w 112)) c j)) - (nI (iN (gk (gdR (ia w 112)) j)))) + (nI (iN (gk (gdR (ia w 112)) c))))]) (w3 := w) rfl rfl ?_
      rw [show (((nI (farN (gdR (ia w 112)) c j)) - (nI (iN (gk (gdR (ia w 112)) j)))) + (nI (iN (gk (gdR (ia w 112)) c))) : Int32) = nI (farN (gdR (ia w 112)) j c) from nI_bk2 (far_rev (gdR (ia w 112)) (show j < 48 by omega) hc)]
      refine sx_RP.step (pc2 := 57) (ls2 := [(6, .int (nI (farN (gdR (ia w 112)) j c))), (0, .ref 111), (1, .int (nI c)), (2, .int (nI k)), (3, .int (pesF (ia w 112) c)), (4, .int (ctP (fun h => whB (ia w 112) k h && decide (heV (ia w 112) k h c = pesF (ia w 112) c)) j)), (5, .int (nI j))]) (st2 := []) (w3 := w) rfl rfl ?_
      refine sx_RP.step (pc2 := 59) (ls2 := [(6, .int (nI (farN (gdR (ia w 112)) j c))), (0, .ref 111), (1, .int (nI c)), (2, .int (nI k)), (3, .int (pesF (ia w 112) c)), (4, .int (ctP (fun h => whB (ia w 112) k h && decide (heV (ia w 112) k h c = pesF (ia w 112) c)) j)), (5, .int (nI j))]) (st2 := [.int (nI j)]) (w3 := w) rfl rfl ?_
      refine sx_RP.step (pc2 := 60) (ls2 := [(6, .int (nI (farN (gdR (ia w 112)) j c))), (0, .ref 111), (1, .int (nI c)), (2, .int (nI k)), (3, .int (pesF (ia w 112) c)), (4, .int (ctP (fun h => whB (ia w 112) k h && decide (heV (ia w 112) k h c = pesF (ia w 112) c)) j)), (5, .int (nI j))]) (st2 := [.int (nI c), .int (nI j)]) (w3 := w) rfl rfl ?_
      refine sx_RP.br (p1 := 67) (l1 := [(6, .int (nI (farN (gdR (ia w 112)) j c))), (0, .ref 111), (1, .int (nI c)), (2, .int (nI k)), (3, .int (pesF (ia w 112) c)), (4, .int (ctP (fun h => whB (ia w 112) k h && decide (heV (ia w 112) k h c = pesF (ia w 112) c)) j)), (5, .int (nI j))]) (s1 := []) (v1 := w) (p2 := 63) (l2 := [(6, .int (nI (farN (gdR (ia w 112)) j c))), (0, .ref 111), (1, .int (nI c)), (2, .int (nI k)), (3, .int (pesF (ia w 112) c)), (4, .int (ctP (fun h => whB (ia w 112) k h && decide (heV (ia w 112) k h c = pesF (ia w 112) c)) j)), (5, .int (nI j))]) (s2 := []) (v2 := w) rfl rfl (fun q201 => ?_) (fun q201 => ?_)
      · replace q201 := of_decide_eq_true q201
        replace q201 := mt (nI_eq (a := j) (b := c) (by omega) (by omega)).mpr q201
        refine sx_RP.step (pc2 := 69) (ls2 := [(6, .int (nI (farN (gdR (ia w 112)) j c))), (0, .ref 111), (1, .int (nI c)), (2, .int (nI k)), (3, .int (pesF (ia w 112) c)), (4, .int (ctP (fun h => whB (ia w 112) k h && decide (heV (ia w 112) k h c = pesF (ia w 112) c)) j)), (5, .int (nI j))]) (st2 := [.int (nI (farN (gdR (ia w 112)) j c))]) (w3 := w) rfl rfl ?_
        refine sx_RP.step (pc2 := 71) (ls2 := [(7, .int (nI (farN (gdR (ia w 112)) j c))), (6, .int (nI (farN (gdR (ia w 112)) j c))), (0, .ref 111), (1, .int (nI c)), (2, .int (nI k)), (3, .int (pesF (ia w 112) c)), (4, .int (ctP (fun h => whB (ia w 112) k h && decide (heV (ia w 112) k h c = pesF (ia w 112) c)) j)), (5, .int (nI j))]) (st2 := []) (w3 := w) rfl rfl ?_
        refine sx_RP.step (pc2 := 73) (ls2 := [(7, .int (nI (farN (gdR (ia w 112)) j c))), (6, .int (nI (farN (gdR (ia w 112)) j c))), (0, .ref 111), (1, .int (nI c)), (2, .int (nI k)), (3, .int (pesF (ia w 112) c)), (4, .int (ctP (fun h => whB (ia w 112) k h && decide (heV (ia w 112) k h c = pesF (ia w 112) c)) j)), (5, .int (nI j))]) (st2 := [.int (ctP (fun h => whB (ia w 112) k h && decide (heV (ia w 112) k h c = pesF (ia w 112) c)) j)]) (w3 := w) rfl rfl ?_
        refine sx_RP.step (pc2 := 74) (ls2 := [(7, .int (nI (farN (gdR (ia w 112)) j c))), (6, .int (nI (farN (gdR (ia w 112)) j c))), (0, .ref 111), (1, .int (nI c)), (2, .int (nI k)), (3, .int (pesF (ia w 112) c)), (4, .int (ctP (fun h => whB (ia w 112) k h && decide (heV (ia w 112) k h c = pesF (ia w 112) c)) j)), (5, .int (nI j))]) (st2 := [.ref 111, .int (ctP (fun h => whB (ia w 112) k h && decide (heV (ia w 112) k h c = pesF (ia w 112) c)) j)]) (w3 := w) rfl rfl ?_
        refine sx_RP.step (pc2 := 75) (ls2 := [(7, .int (nI (farN (gdR (ia w 112)) j c))), (6, .int (nI (farN (gdR (ia w 112)) j c))), (0, .ref 111), (1, .int (nI c)), (2, .int (nI k)), (3, .int (pesF (ia w 112) c)), (4, .int (ctP (fun h => whB (ia w 112) k h && decide (heV (ia w 112) k h c = pesF (ia w 112) c)) j)), (5, .int (nI j))]) (st2 := [.int (nI k), .ref 111, .int (ctP (fun h => whB (ia w 112) k h && decide (heV (ia w 112) k h c = pesF (ia w 112) c)) j)]) (w3 := w) rfl rfl ?_
        refine sx_RP.step (pc2 := 77) (ls2 := [(7, .int (nI (farN (gdR (ia w 112)) j c))), (6, .int (nI (farN (gdR (ia w 112)) j c))), (0, .ref 111), (1, .int (nI c)), (2, .int (nI k)), (3, .int (pesF (ia w 112) c)), (4, .int (ctP (fun h => whB (ia w 112) k h && decide (heV (ia w 112) k h c = pesF (ia w 112) c)) j)), (5, .int (nI j))]) (st2 := [.int (nI j), .int (nI k), .ref 111, .int (ctP (fun h => whB (ia w 112) k h && decide (heV (ia w 112) k h c = pesF (ia w 112) c)) j)]) (w3 := w) rfl rfl ?_
        obtain ⟨s, hs, es⟩ : inR ((ia w 112).getD (7 + j) 0) 3 := (hI.s (7 + j) (by omega)).2.2.1 (by omega)
        refine sx_RP.cu (as := [.ref 111, .int (nI k), .int (nI j)]) (rest2 := [.int (ctP (fun h => whB (ia w 112) k h && decide (heV (ia w 112) k h c = pesF (ia w 112) c)) j)]) (st3 := [.int (ldV k s), .int (ctP (fun h => whB (ia w 112) k h && decide (heV (ia w 112) k h c = pesF (ia w 112) c)) j)]) rfl rfl (sx_inv_v2 (mi := 195) (k := 130) (st := [.int (nI j), .int (nI k), .ref 111, .int (ctP (fun h => whB (ia w 112) k h && decide (heV (ia w 112) k h c = pesF (ia w 112) c)) j)]) (w := w) rfl rfl hI.1.o111 rfl rfl rfl) rfl rfl (x162 hI (show j < 48 by omega) (show k < 6 by omega) (show s < 4 by omega) es) rfl ?_
        refine sx_RP.step (pc2 := 81) (ls2 := [(7, .int (nI (farN (gdR (ia w 112)) j c))), (6, .int (nI (farN (gdR (ia w 112)) j c))), (0, .ref 111), (1, .int (nI c)), (2, .int (nI k)), (3, .int (pesF (ia w 112) c)), (4, .int (ctP (fun h => whB (ia w 112) k h && decide (heV (ia w 112) k h c = pesF (ia w 112) c)) j)), (5, .int (nI j))]) (st2 := [.int 1, .int (ldV k s), .int (ctP (fun h => whB (ia w 112) k h && decide (heV (ia w 112) k h c = pesF (ia w 112) c)) j)]) (w3 := w) rfl rfl ?_
        refine sx_RP.step (pc2 := 83) (ls2 := [(7, .int (nI (farN (gdR (ia w 112)) j c))), (6, .int (nI (farN (gdR (ia w 112)) j c))), (0, .ref 111), (1, .int (nI c)), (2, .int (nI k)), (3, .int (pesF (ia w 112) c)), (4, .int (ctP (fun h => whB (ia w 112) k h && decide (heV (ia w 112) k h c = pesF (ia w 112) c)) j)), (5, .int (nI j))]) (st2 := [.int (nI (farN (gdR (ia w 112)) j c)), .int 1, .int (ldV k s), .int (ctP (fun h => whB (ia w 112) k h && decide (heV (ia w 112) k h c = pesF (ia w 112) c)) j)]) (w3 := w) rfl rfl ?_
        refine sx_RP.step (pc2 := 84) (ls2 := [(7, .int (nI (farN (gdR (ia w 112)) j c))), (6, .int (nI (farN (gdR (ia w 112)) j c))), (0, .ref 111), (1, .int (nI c)), (2, .int (nI k)), (3, .int (pesF (ia w 112) c)), (4, .int (ctP (fun h => whB (ia w 112) k h && decide (heV (ia w 112) k h c = pesF (ia w 112) c)) j)), (5, .int (nI j))]) (st2 := [.int (1 + (nI (farN (gdR (ia w 112)) j c))), .int (ldV k s), .int (ctP (fun h => whB (ia w 112) k h && decide (heV (ia w 112) k h c = pesF (ia w 112) c)) j)]) (w3 := w) rfl rfl ?_
        rw [show (1 + (nI (farN (gdR (ia w 112)) j c)) : Int32) = nI (1 + (farN (gdR (ia w 112)) j c)) from nI_add 1 (farN (gdR (ia w 112)) j c)]
        refine sx_RP.idiv (pc2 := 85) rfl (fun z => absurd ((nI_eq (a := 1 + (farN (gdR (ia w 112)) j c)) (b := 0) (by have := far_fin (gdR (ia w 112)) (show j < 48 by omega) hc; omega) (by decide)).mp z) (by omega)) rfl ?_
        refine sx_RP.step (pc2 := 86) (ls2 := [(7, .int (nI (farN (gdR (ia w 112)) j c))), (6, .int (nI (farN (gdR (ia w 112)) j c))), (0, .ref 111), (1, .int (nI c)), (2, .int (nI k)), (3, .int (pesF (ia w 112) c)), (4, .int (ctP (fun h => whB (ia w 112) k h && decide (heV (ia w 112) k h c = pesF (ia w 112) c)) j)), (5, .int (nI j))]) (st2 := [.int (pesF (ia w 112) c), .int ((ldV k s) / (nI (1 + (farN (gdR (ia w 112)) j c)))), .int (ctP (fun h => whB (ia w 112) k h && decide (heV (ia w 112) k h c = pesF (ia w 112) c)) j)]) (w3 := w) rfl rfl ?_
        refine sx_RP.br (p1 := 93) (l1 := [(7, .int (nI (farN (gdR (ia w 112)) j c))), (6, .int (nI (farN (gdR (ia w 112)) j c))), (0, .ref 111), (1, .int (nI c)), (2, .int (nI k)), (3, .int (pesF (ia w 112) c)), (4, .int (ctP (fun h => whB (ia w 112) k h && decide (heV (ia w 112) k h c = pesF (ia w 112) c)) j)), (5, .int (nI j))]) (s1 := [.int (ctP (fun h => whB (ia w 112) k h && decide (heV (ia w 112) k h c = pesF (ia w 112) c)) j)]) (v1 := w) (p2 := 89) (l2 := [(7, .int (nI (farN (gdR (ia w 112)) j c))), (6, .int (nI (farN (gdR (ia w 112)) j c))), (0, .ref 111), (1, .int (nI c)), (2, .int (nI k)), (3, .int (pesF (ia w 112) c)), (4, .int (ctP (fun h => whB (ia w 112) k h && decide (heV (ia w 112) k h c = pesF (ia w 112) c)) j)), (5, .int (nI j))]) (s2 := [.int (ctP (fun h => whB (ia w 112) k h && decide (heV (ia w 112) k h c = pesF (ia w 112) c)) j)]) (v2 := w) rfl rfl (fun q202 => ?_) (fun q202 => ?_)
        · replace q202 := of_decide_eq_true q202
          refine sx_RP.step (pc2 := 94) (ls2 := [(7, .int (nI (farN (gdR (ia w 112)) j c))), (6, .int (nI (farN (gdR (ia w 112)) j c))), (0, .ref 111), (1, .int (nI c)), (2, .int (nI k)), (3, .int (pesF (ia w 112) c)), (4, .int (ctP (fun h => whB (ia w 112) k h && decide (heV (ia w 112) k h c = pesF (ia w 112) c)) j)), (5, .int (nI j))]) (st2 := [.int 0, .int (ctP (fun h => whB (ia w 112) k h && decide (heV (ia w 112) k h c = pesF (ia w 112) c)) j)]) (w3 := w) rfl rfl ?_
          refine sx_RP.step (pc2 := 95) (ls2 := [(7, .int (nI (farN (gdR (ia w 112)) j c))), (6, .int (nI (farN (gdR (ia w 112)) j c))), (0, .ref 111), (1, .int (nI c)), (2, .int (nI k)), (3, .int (pesF (ia w 112) c)), (4, .int (ctP (fun h => whB (ia w 112) k h && decide (heV (ia w 112) k h c = pesF (ia w 112) c)) j)), (5, .int (nI j))]) (st2 := [.int ((ctP (fun h => whB (ia w 112) k h && decide (heV (ia w 112) k h c = pesF (ia w 112) c)) j) + 0)]) (w3 := w) rfl rfl ?_
          refine sx_RP.step (pc2 := 97) (ls2 := [(4, .int ((ctP (fun h => whB (ia w 112) k h && decide (heV (ia w 112) k h c = pesF (ia w 112) c)) j) + 0)), (7, .int (nI (farN (gdR (ia w 112)) j c))), (6, .int (nI (farN (gdR (ia w 112)) j c))), (0, .ref 111), (1, .int (nI c)), (2, .int (nI k)), (3, .int (pesF (ia w 112) c)), (5, .int (nI j))]) (st2 := []) (w3 := w) rfl rfl ?_
          refine sx_RP.step (pc2 := 100) (ls2 := [(5, .int ((nI j) + 1)), (4, .int ((ctP (fun h => whB (ia w 112) k h && decide (heV (ia w 112) k h c = pesF (ia w 112) c)) j) + 0)), (7, .int (nI (farN (gdR (ia w 112)) j c))), (6, .int (nI (farN (gdR (ia w 112)) j c))), (0, .ref 111), (1, .int (nI c)), (2, .int (nI k)), (3, .int (pesF (ia w 112) c))]) (st2 := []) (w3 := w) rfl rfl ?_
          rw [nI_1 j]
          refine sx_RP.step (pc2 := 18) (ls2 := [(5, .int (nI (j + 1))), (4, .int ((ctP (fun h => whB (ia w 112) k h && decide (heV (ia w 112) k h c = pesF (ia w 112) c)) j) + 0)), (7, .int (nI (farN (gdR (ia w 112)) j c))), (6, .int (nI (farN (gdR (ia w 112)) j c))), (0, .ref 111), (1, .int (nI c)), (2, .int (nI k)), (3, .int (pesF (ia w 112) c))]) (st2 := []) (w3 := w) rfl rfl ?_
          have eH : heV (ia w 112) k j c = ldV k s / nI (1 + (farN (gdR (ia w 112)) j c)) := heV_n (show s < 4 by omega) es
          rw [Int32.add_zero, lfz_2 (l := ia w 112) (fun z => q202 (eH.symm.trans z))]
          exact sx_RP.ls (sx_lr.cons rfl (sx_lr.cons rfl (sx_lr.cons rfl (sx_lr.cons rfl (sx_lr.cons rfl (sx_lr.cons rfl sx_lr.nil)))))) (x195L hI hk hc hw hM q (j + 1) (by omega))
        · replace q202 := Decidable.not_not.mp (of_decide_eq_false q202)
          refine sx_RP.step (pc2 := 90) (ls2 := [(7, .int (nI (farN (gdR (ia w 112)) j c))), (6, .int (nI (farN (gdR (ia w 112)) j c))), (0, .ref 111), (1, .int (nI c)), (2, .int (nI k)), (3, .int (pesF (ia w 112) c)), (4, .int (ctP (fun h => whB (ia w 112) k h && decide (heV (ia w 112) k h c = pesF (ia w 112) c)) j)), (5, .int (nI j))]) (st2 := [.int 1, .int (ctP (fun h => whB (ia w 112) k h && decide (heV (ia w 112) k h c = pesF (ia w 112) c)) j)]) (w3 := w) rfl rfl ?_
          refine sx_RP.step (pc2 := 94) (ls2 := [(7, .int (nI (farN (gdR (ia w 112)) j c))), (6, .int (nI (farN (gdR (ia w 112)) j c))), (0, .ref 111), (1, .int (nI c)), (2, .int (nI k)), (3, .int (pesF (ia w 112) c)), (4, .int (ctP (fun h => whB (ia w 112) k h && decide (heV (ia w 112) k h c = pesF (ia w 112) c)) j)), (5, .int (nI j))]) (st2 := [.int 1, .int (ctP (fun h => whB (ia w 112) k h && decide (heV (ia w 112) k h c = pesF (ia w 112) c)) j)]) (w3 := w) rfl rfl ?_
          refine sx_RP.step (pc2 := 95) (ls2 := [(7, .int (nI (farN (gdR (ia w 112)) j c))), (6, .int (nI (farN (gdR (ia w 112)) j c))), (0, .ref 111), (1, .int (nI c)), (2, .int (nI k)), (3, .int (pesF (ia w 112) c)), (4, .int (ctP (fun h => whB (ia w 112) k h && decide (heV (ia w 112) k h c = pesF (ia w 112) c)) j)), (5, .int (nI j))]) (st2 := [.int ((ctP (fun h => whB (ia w 112) k h && decide (heV (ia w 112) k h c = pesF (ia w 112) c)) j) + 1)]) (w3 := w) rfl rfl ?_
          refine sx_RP.step (pc2 := 97) (ls2 := [(4, .int ((ctP (fun h => whB (ia w 112) k h && decide (heV (ia w 112) k h c = pesF (ia w 112) c)) j) + 1)), (7, .int (nI (farN (gdR (ia w 112)) j c))), (6, .int (nI (farN (gdR (ia w 112)) j c))), (0, .ref 111), (1, .int (nI c)), (2, .int (nI k)), (3, .int (pesF (ia w 112) c)), (5, .int (nI j))]) (st2 := []) (w3 := w) rfl rfl ?_
          refine sx_RP.step (pc2 := 100) (ls2 := [(5, .int ((nI j) + 1)), (4, .int ((ctP (fun h => whB (ia w 112) k h && decide (heV (ia w 112) k h c = pesF (ia w 112) c)) j) + 1)), (7, .int (nI (farN (gdR (ia w 112)) j c))), (6, .int (nI (farN (gdR (ia w 112)) j c))), (0, .ref 111), (1, .int (nI c)), (2, .int (nI k)), (3, .int (pesF (ia w 112) c))]) (st2 := []) (w3 := w) rfl rfl ?_
          rw [nI_1 j]
          refine sx_RP.step (pc2 := 18) (ls2 := [(5, .int (nI (j + 1))), (4, .int ((ctP (fun h => whB (ia w 112) k h && decide (heV (ia w 112) k h c = pesF (ia w 112) c)) j) + 1)), (7, .int (nI (farN (gdR (ia w 112)) j c))), (6, .int (nI (farN (gdR (ia w 112)) j c))), (0, .ref 111), (1, .int (nI c)), (2, .int (nI k)), (3, .int (pesF (ia w 112) c))]) (st2 := []) (w3 := w) rfl rfl ?_
          have eH : heV (ia w 112) k j c = ldV k s / nI (1 + (farN (gdR (ia w 112)) j c)) := heV_n (show s < 4 by omega) es
          rw [lfz_y (l := ia w 112) hB (eH.trans q202)]
          exact sx_RP.ls (sx_lr.cons rfl (sx_lr.cons rfl (sx_lr.cons rfl (sx_lr.cons rfl (sx_lr.cons rfl (sx_lr.cons rfl sx_lr.nil)))))) (x195L hI hk hc hw hM q (j + 1) (by omega))
      · replace q201 := Decidable.not_not.mp (of_decide_eq_false q201)
        replace q201 := (nI_eq (a := j) (b := c) (by omega) (by omega)).mp q201
        refine sx_RP.step (pc2 := 64) (ls2 := [(6, .int (nI (farN (gdR (ia w 112)) j c))), (0, .ref 111), (1, .int (nI c)), (2, .int (nI k)), (3, .int (pesF (ia w 112) c)), (4, .int (ctP (fun h => whB (ia w 112) k h && decide (heV (ia w 112) k h c = pesF (ia w 112) c)) j)), (5, .int (nI j))]) (st2 := [.int 0]) (w3 := w) rfl rfl ?_
        refine sx_RP.step (pc2 := 69) (ls2 := [(6, .int (nI (farN (gdR (ia w 112)) j c))), (0, .ref 111), (1, .int (nI c)), (2, .int (nI k)), (3, .int (pesF (ia w 112) c)), (4, .int (ctP (fun h => whB (ia w 112) k h && decide (heV (ia w 112) k h c = pesF (ia w 112) c)) j)), (5, .int (nI j))]) (st2 := [.int 0]) (w3 := w) rfl rfl ?_
        refine sx_RP.step (pc2 := 71) (ls2 := [(7, .int 0), (6, .int (nI (farN (gdR (ia w 112)) j c))), (0, .ref 111), (1, .int (nI c)), (2, .int (nI k)), (3, .int (pesF (ia w 112) c)), (4, .int (ctP (fun h => whB (ia w 112) k h && decide (heV (ia w 112) k h c = pesF (ia w 112) c)) j)), (5, .int (nI j))]) (st2 := []) (w3 := w) rfl rfl ?_
        refine sx_RP.step (pc2 := 73) (ls2 := [(7, .int 0), (6, .int (nI (farN (gdR (ia w 112)) j c))), (0, .ref 111), (1, .int (nI c)), (2, .int (nI k)), (3, .int (pesF (ia w 112) c)), (4, .int (ctP (fun h => whB (ia w 112) k h && decide (heV (ia w 112) k h c = pesF (ia w 112) c)) j)), (5, .int (nI j))]) (st2 := [.int (ctP (fun h => whB (ia w 112) k h && decide (heV (ia w 112) k h c = pesF (ia w 112) c)) j)]) (w3 := w) rfl rfl ?_
        refine sx_RP.step (pc2 := 74) (ls2 := [(7, .int 0), (6, .int (nI (farN (gdR (ia w 112)) j c))), (0, .ref 111), (1, .int (nI c)), (2, .int (nI k)), (3, .int (pesF (ia w 112) c)), (4, .int (ctP (fun h => whB (ia w 112) k h && decide (heV (ia w 112) k h c = pesF (ia w 112) c)) j)), (5, .int (nI j))]) (st2 := [.ref 111, .int (ctP (fun h => whB (ia w 112) k h && decide (heV (ia w 112) k h c = pesF (ia w 112) c)) j)]) (w3 := w) rfl rfl ?_
        refine sx_RP.step (pc2 := 75) (ls2 := [(7, .int 0), (6, .int (nI (farN (gdR (ia w 112)) j c))), (0, .ref 111), (1, .int (nI c)), (2, .int (nI k)), (3, .int (pesF (ia w 112) c)), (4, .int (ctP (fun h => whB (ia w 112) k h && decide (heV (ia w 112) k h c = pesF (ia w 112) c)) j)), (5, .int (nI j))]) (st2 := [.int (nI k), .ref 111, .int (ctP (fun h => whB (ia w 112) k h && decide (heV (ia w 112) k h c = pesF (ia w 112) c)) j)]) (w3 := w) rfl rfl ?_
        refine sx_RP.step (pc2 := 77) (ls2 := [(7, .int 0), (6, .int (nI (farN (gdR (ia w 112)) j c))), (0, .ref 111), (1, .int (nI c)), (2, .int (nI k)), (3, .int (pesF (ia w 112) c)), (4, .int (ctP (fun h => whB (ia w 112) k h && decide (heV (ia w 112) k h c = pesF (ia w 112) c)) j)), (5, .int (nI j))]) (st2 := [.int (nI j), .int (nI k), .ref 111, .int (ctP (fun h => whB (ia w 112) k h && decide (heV (ia w 112) k h c = pesF (ia w 112) c)) j)]) (w3 := w) rfl rfl ?_
        obtain ⟨s, hs, es⟩ : inR ((ia w 112).getD (7 + j) 0) 3 := (hI.s (7 + j) (by omega)).2.2.1 (by omega)
        refine sx_RP.cu (as := [.ref 111, .int (nI k), .int (nI j)]) (rest2 := [.int (ctP (fun h => whB (ia w 112) k h && decide (heV (ia w 112) k h c = pesF (ia w 112) c)) j)]) (st3 := [.int (ldV k s), .int (ctP (fun h => whB (ia w 112) k h && decide (heV (ia w 112) k h c = pesF (ia w 112) c)) j)]) rfl rfl (sx_inv_v2 (mi := 195) (k := 130) (st := [.int (nI j), .int (nI k), .ref 111, .int (ctP (fun h => whB (ia w 112) k h && decide (heV (ia w 112) k h c = pesF (ia w 112) c)) j)]) (w := w) rfl rfl hI.1.o111 rfl rfl rfl) rfl rfl (x162 hI (show j < 48 by omega) (show k < 6 by omega) (show s < 4 by omega) es) rfl ?_
        refine sx_RP.step (pc2 := 81) (ls2 := [(7, .int 0), (6, .int (nI (farN (gdR (ia w 112)) j c))), (0, .ref 111), (1, .int (nI c)), (2, .int (nI k)), (3, .int (pesF (ia w 112) c)), (4, .int (ctP (fun h => whB (ia w 112) k h && decide (heV (ia w 112) k h c = pesF (ia w 112) c)) j)), (5, .int (nI j))]) (st2 := [.int 1, .int (ldV k s), .int (ctP (fun h => whB (ia w 112) k h && decide (heV (ia w 112) k h c = pesF (ia w 112) c)) j)]) (w3 := w) rfl rfl ?_
        refine sx_RP.step (pc2 := 83) (ls2 := [(7, .int 0), (6, .int (nI (farN (gdR (ia w 112)) j c))), (0, .ref 111), (1, .int (nI c)), (2, .int (nI k)), (3, .int (pesF (ia w 112) c)), (4, .int (ctP (fun h => whB (ia w 112) k h && decide (heV (ia w 112) k h c = pesF (ia w 112) c)) j)), (5, .int (nI j))]) (st2 := [.int 0, .int 1, .int (ldV k s), .int (ctP (fun h => whB (ia w 112) k h && decide (heV (ia w 112) k h c = pesF (ia w 112) c)) j)]) (w3 := w) rfl rfl ?_
        refine sx_RP.step (pc2 := 84) (ls2 := [(7, .int 0), (6, .int (nI (farN (gdR (ia w 112)) j c))), (0, .ref 111), (1, .int (nI c)), (2, .int (nI k)), (3, .int (pesF (ia w 112) c)), (4, .int (ctP (fun h => whB (ia w 112) k h && decide (heV (ia w 112) k h c = pesF (ia w 112) c)) j)), (5, .int (nI j))]) (st2 := [.int 1, .int (ldV k s), .int (ctP (fun h => whB (ia w 112) k h && decide (heV (ia w 112) k h c = pesF (ia w 112) c)) j)]) (w3 := w) rfl rfl ?_
        refine sx_RP.step (pc2 := 85) (ls2 := [(7, .int 0), (6, .int (nI (farN (gdR (ia w 112)) j c))), (0, .ref 111), (1, .int (nI c)), (2, .int (nI k)), (3, .int (pesF (ia w 112) c)), (4, .int (ctP (fun h => whB (ia w 112) k h && decide (heV (ia w 112) k h c = pesF (ia w 112) c)) j)), (5, .int (nI j))]) (st2 := [.int ((ldV k s) / 1), .int (ctP (fun h => whB (ia w 112) k h && decide (heV (ia w 112) k h c = pesF (ia w 112) c)) j)]) (w3 := w) rfl rfl ?_
        refine sx_RP.step (pc2 := 86) (ls2 := [(7, .int 0), (6, .int (nI (farN (gdR (ia w 112)) j c))), (0, .ref 111), (1, .int (nI c)), (2, .int (nI k)), (3, .int (pesF (ia w 112) c)), (4, .int (ctP (fun h => whB (ia w 112) k h && decide (heV (ia w 112) k h c = pesF (ia w 112) c)) j)), (5, .int (nI j))]) (st2 := [.int (pesF (ia w 112) c), .int ((ldV k s) / 1), .int (ctP (fun h => whB (ia w 112) k h && decide (heV (ia w 112) k h c = pesF (ia w 112) c)) j)]) (w3 := w) rfl rfl ?_
        refine sx_RP.br (p1 := 93) (l1 := [(7, .int 0), (6, .int (nI (farN (gdR (ia w 112)) j c))), (0, .ref 111), (1, .int (nI c)), (2, .int (nI k)), (3, .int (pesF (ia w 112) c)), (4, .int (ctP (fun h => whB (ia w 112) k h && decide (heV (ia w 112) k h c = pesF (ia w 112) c)) j)), (5, .int (nI j))]) (s1 := [.int (ctP (fun h => whB (ia w 112) k h && decide (heV (ia w 112) k h c = pesF (ia w 112) c)) j)]) (v1 := w) (p2 := 89) (l2 := [(7, .int 0), (6, .int (nI (farN (gdR (ia w 112)) j c))), (0, .ref 111), (1, .int (nI c)), (2, .int (nI k)), (3, .int (pesF (ia w 112) c)), (4, .int (ctP (fun h => whB (ia w 112) k h && decide (heV (ia w 112) k h c = pesF (ia w 112) c)) j)), (5, .int (nI j))]) (s2 := [.int (ctP (fun h => whB (ia w 112) k h && decide (heV (ia w 112) k h c = pesF (ia w 112) c)) j)]) (v2 := w) rfl rfl (fun q203 => ?_) (fun q203 => ?_)
        · replace q203 := of_decide_eq_true q203
          refine sx_RP.step (pc2 := 94) (ls2 := [(7, .int 0), (6, .int (nI (farN (gdR (ia w 112)) j c))), (0, .ref 111), (1, .int (nI c)), (2, .int (nI k)), (3, .int (pesF (ia w 112) c)), (4, .int (ctP (fun h => whB (ia w 112) k h && decide (heV (ia w 112) k h c = pesF (ia w 112) c)) j)), (5, .int (nI j))]) (st2 := [.int 0, .int (ctP (fun h => whB (ia w 112) k h && decide (heV (ia w 112) k h c = pesF (ia w 112) c)) j)]) (w3 := w) rfl rfl ?_
          refine sx_RP.step (pc2 := 95) (ls2 := [(7, .int 0), (6, .int (nI (farN (gdR (ia w 112)) j c))), (0, .ref 111), (1, .int (nI c)), (2, .int (nI k)), (3, .int (pesF (ia w 112) c)), (4, .int (ctP (fun h => whB (ia w 112) k h && decide (heV (ia w 112) k h c = pesF (ia w 112) c)) j)), (5, .int (nI j))]) (st2 := [.int ((ctP (fun h => whB (ia w 112) k h && decide (heV (ia w 112) k h c = pesF (ia w 112) c)) j) + 0)]) (w3 := w) rfl rfl ?_
          refine sx_RP.step (pc2 := 97) (ls2 := [(4, .int ((ctP (fun h => whB (ia w 112) k h && decide (heV (ia w 112) k h c = pesF (ia w 112) c)) j) + 0)), (7, .int 0), (6, .int (nI (farN (gdR (ia w 112)) j c))), (0, .ref 111), (1, .int (nI c)), (2, .int (nI k)), (3, .int (pesF (ia w 112) c)), (5, .int (nI j))]) (st2 := []) (w3 := w) rfl rfl ?_
          refine sx_RP.step (pc2 := 100) (ls2 := [(5, .int ((nI j) + 1)), (4, .int ((ctP (fun h => whB (ia w 112) k h && decide (heV (ia w 112) k h c = pesF (ia w 112) c)) j) + 0)), (7, .int 0), (6, .int (nI (farN (gdR (ia w 112)) j c))), (0, .ref 111), (1, .int (nI c)), (2, .int (nI k)), (3, .int (pesF (ia w 112) c))]) (st2 := []) (w3 := w) rfl rfl ?_
          rw [nI_1 j]
          refine sx_RP.step (pc2 := 18) (ls2 := [(5, .int (nI (j + 1))), (4, .int ((ctP (fun h => whB (ia w 112) k h && decide (heV (ia w 112) k h c = pesF (ia w 112) c)) j) + 0)), (7, .int 0), (6, .int (nI (farN (gdR (ia w 112)) j c))), (0, .ref 111), (1, .int (nI c)), (2, .int (nI k)), (3, .int (pesF (ia w 112) c))]) (st2 := []) (w3 := w) rfl rfl ?_
          have eH : heV (ia w 112) k j c = ldV k s / 1 := by rw [heV_n (show s < 4 by omega) es, q201, far_0 _ hc]; rfl
          rw [Int32.add_zero, lfz_2 (l := ia w 112) (fun z => q203 (eH.symm.trans z))]
          exact sx_RP.ls (sx_lr.cons rfl (sx_lr.cons rfl (sx_lr.cons rfl (sx_lr.cons rfl (sx_lr.cons rfl (sx_lr.cons rfl sx_lr.nil)))))) (x195L hI hk hc hw hM q (j + 1) (by omega))
        · replace q203 := Decidable.not_not.mp (of_decide_eq_false q203)
          refine sx_RP.step (pc2 := 90) (ls2 := [(7, .int 0), (6, .int (nI (farN (gdR (ia w 112)) j c))), (0, .ref 111), (1, .int (nI c)), (2, .int (nI k)), (3, .int (pesF (ia w 112) c)), (4, .int (ctP (fun h => whB (ia w 112) k h && decide (heV (ia w 112) k h c = pesF (ia w 112) c)) j)), (5, .int (nI j))]) (st2 := [.int 1, .int (ctP (fun h => whB (ia w 112) k h && decide (heV (ia w 112) k h c = pesF (ia w 112) c)) j)]) (w3 := w) rfl rfl ?_
          refine sx_RP.step (pc2 := 94) (ls2 := [(7, .int 0), (6, .int (nI (farN (gdR (ia w 112)) j c))), (0, .ref 111), (1, .int (nI c)), (2, .int (nI k)), (3, .int (pesF (ia w 112) c)), (4, .int (ctP (fun h => whB (ia w 112) k h && decide (heV (ia w 112) k h c = pesF (ia w 112) c)) j)), (5, .int (nI j))]) (st2 := [.int 1, .int (ctP (fun h => whB (ia w 112) k h && decide (heV (ia w 112) k h c = pesF (ia w 112) c)) j)]) (w3 := w) rfl rfl ?_
          refine sx_RP.step (pc2 := 95) (ls2 := [(7, .int 0), (6, .int (nI (farN (gdR (ia w 112)) j c))), (0, .ref 111), (1, .int (nI c)), (2, .int (nI k)), (3, .int (pesF (ia w 112) c)), (4, .int (ctP (fun h => whB (ia w 112) k h && decide (heV (ia w 112) k h c = pesF (ia w 112) c)) j)), (5, .int (nI j))]) (st2 := [.int ((ctP (fun h => whB (ia w 112) k h && decide (heV (ia w 112) k h c = pesF (ia w 112) c)) j) + 1)]) (w3 := w) rfl rfl ?_
          refine sx_RP.step (pc2 := 97) (ls2 := [(4, .int ((ctP (fun h => whB (ia w 112) k h && decide (heV (ia w 112) k h c = pesF (ia w 112) c)) j) + 1)), (7, .int 0), (6, .int (nI (farN (gdR (ia w 112)) j c))), (0, .ref 111), (1, .int (nI c)), (2, .int (nI k)), (3, .int (pesF (ia w 112) c)), (5, .int (nI j))]) (st2 := []) (w3 := w) rfl rfl ?_
          refine sx_RP.step (pc2 := 100) (ls2 := [(5, .int ((nI j) + 1)), (4, .int ((ctP (fun h => whB (ia w 112) k h && decide (heV (ia w 112) k h c = pesF (ia w 112) c)) j) + 1)), (7, .int 0), (6, .int (nI (farN (gdR (ia w 112)) j c))), (0, .ref 111), (1, .int (nI c)), (2, .int (nI k)), (3, .int (pesF (ia w 112) c))]) (st2 := []) (w3 := w) rfl rfl ?_
          rw [nI_1 j]
          refine sx_RP.step (pc2 := 18) (ls2 := [(5, .int (nI (j + 1))), (4, .int ((ctP (fun h => whB (ia w 112) k h && decide (heV (ia w 112) k h c = pesF (ia w 112) c)) j) + 1)), (7, .int 0), (6, .int (nI (farN (gdR (ia w 112)) j c))), (0, .ref 111), (1, .int (nI c)), (2, .int (nI k)), (3, .int (pesF (ia w 112) c))]) (st2 := []) (w3 := w) rfl rfl ?_
          have eH : heV (ia w 112) k j c = ldV k s / 1 := by rw [heV_n (show s < 4 by omega) es, q201, far_0 _ hc]; rfl
          rw [lfz_y (l := ia w 112) hB (eH.trans q203)]
          exact sx_RP.ls (sx_lr.cons rfl (sx_lr.cons rfl (sx_lr.cons rfl (sx_lr.cons rfl (sx_lr.cons rfl (sx_lr.cons rfl sx_lr.nil)))))) (x195L hI hk hc hw hM q (j + 1) (by omega))
    · have e120 : (ia w 120).getD j 0 = 0 := (hM j (by omega)).trans (by rw [hB]; rfl)
      refine sx_RP.step (pc2 := 20) (ls2 := [(0, .ref 111), (1, .int (nI c)), (2, .int (nI k)), (3, .int (pesF (ia w 112) c)), (4, .int (ctP (fun h => whB (ia w 112) k h && decide (heV (ia w 112) k h c = pesF (ia w 112) c)) j)), (5, .int (nI j))]) (st2 := [.int (nI j)]) (w3 := w) rfl rfl ?_
      refine sx_RP.step (pc2 := 22) (ls2 := [(0, .ref 111), (1, .int (nI c)), (2, .int (nI k)), (3, .int (pesF (ia w 112) c)), (4, .int (ctP (fun h => whB (ia w 112) k h && decide (heV (ia w 112) k h c = pesF (ia w 112) c)) j)), (5, .int (nI j))]) (st2 := [.int 48, .int (nI j)]) (w3 := w) rfl rfl ?_
      refine sx_RP.br (p2 := 25) (l2 := [(0, .ref 111), (1, .int (nI c)), (2, .int (nI k)), (3, .int (pesF (ia w 112) c)), (4, .int (ctP (fun h => whB (ia w 112) k h && decide (heV (ia w 112) k h c = pesF (ia w 112) c)) j)), (5, .int (nI j))]) (s2 := []) (v2 := w) rfl rfl (fun q => absurd (of_decide_eq_true q) (fun z => absurd ((nI_leI (a := 48) (b := j) (by omega) (by omega)).mp z) (by omega))) (fun _ => ?_)
      refine sx_RP.step (pc2 := 26) (ls2 := [(0, .ref 111), (1, .int (nI c)), (2, .int (nI k)), (3, .int (pesF (ia w 112) c)), (4, .int (ctP (fun h => whB (ia w 112) k h && decide (heV (ia w 112) k h c = pesF (ia w 112) c)) j)), (5, .int (nI j))]) (st2 := [.ref 111]) (w3 := w) rfl rfl ?_
      refine sx_RP.gf (v := .ref 120) rfl rfl hI.1.o111 rfl rfl (show _ = 29 from rfl) ?_
      refine sx_RP.step (pc2 := 31) (ls2 := [(0, .ref 111), (1, .int (nI c)), (2, .int (nI k)), (3, .int (pesF (ia w 112) c)), (4, .int (ctP (fun h => whB (ia w 112) k h && decide (heV (ia w 112) k h c = pesF (ia w 112) c)) j)), (5, .int (nI j))]) (st2 := [.int (nI j), .ref 120]) (w3 := w) rfl rfl ?_
      refine sx_RP.bld1 (c := j) rfl hI.1.a120.1 hI.1.a120.2 (sx_in_nI (show j < 48 by omega) (by decide)) (show (nI j).toNatClampNeg = j from nI_clamp (by omega)) (show _ = 32 from rfl) ?_
      rw [e120]
      refine sx_RP.step (pc2 := 97) (ls2 := [(0, .ref 111), (1, .int (nI c)), (2, .int (nI k)), (3, .int (pesF (ia w 112) c)), (4, .int (ctP (fun h => whB (ia w 112) k h && decide (heV (ia w 112) k h c = pesF (ia w 112) c)) j)), (5, .int (nI j))]) (st2 := []) (w3 := w) rfl rfl ?_
      refine sx_RP.step (pc2 := 100) (ls2 := [(5, .int ((nI j) + 1)), (0, .ref 111), (1, .int (nI c)), (2, .int (nI k)), (3, .int (pesF (ia w 112) c)), (4, .int (ctP (fun h => whB (ia w 112) k h && decide (heV (ia w 112) k h c = pesF (ia w 112) c)) j))]) (st2 := []) (w3 := w) rfl rfl ?_
      rw [nI_1 j]
      refine sx_RP.step (pc2 := 18) (ls2 := [(5, .int (nI (j + 1))), (0, .ref 111), (1, .int (nI c)), (2, .int (nI k)), (3, .int (pesF (ia w 112) c)), (4, .int (ctP (fun h => whB (ia w 112) k h && decide (heV (ia w 112) k h c = pesF (ia w 112) c)) j))]) (st2 := []) (w3 := w) rfl rfl ?_
      rw [lfz_1 (l := ia w 112) (c := c) hB]
      exact sx_RP.ls (sx_lr.cons rfl (sx_lr.cons rfl (sx_lr.cons rfl (sx_lr.cons rfl (sx_lr.cons rfl (sx_lr.cons rfl sx_lr.nil)))))) (x195L hI hk hc hw hM q (j + 1) (by omega))
set_option maxRecDepth 20000 in
set_option maxHeartbeats 4000000 in
theorem X195 {xs : Option (List Int32)} {d : Nat} {w : List sx_C} (hI : WI w) {k c : Nat} (hk : k ≤ 5) (hc : c < 48) (hM : ∀ x, x < 48 → (ia w 120).getD x 0 = b01 (whB (ia w 112) k x)) : sx_RP xs (d + 5) 195 0 (lv_args 0 [.ref 111, .int (nI c), .int (nI k)]) [] w (fun r w2 => r = some (.int (lfV (ia w 112) k c)) ∧ WI w2 ∧ ∀ a, a ≠ 117 → a ≠ 118 → w2[a]? = w[a]?) := by
  refine sx_RP.step (pc2 := 1) (ls2 := [(0, .ref 111), (1, .int (nI c)), (2, .int (nI k))]) (st2 := [.ref 111]) (w3 := w) rfl rfl ?_
  refine sx_RP.step (pc2 := 2) (ls2 := [(0, .ref 111), (1, .int (nI c)), (2, .int (nI k))]) (st2 := [.int (nI c), .ref 111]) (w3 := w) rfl rfl ?_
  refine sx_RP.callp (as2 := [.ref 111, .int (nI c)]) (rest2 := []) rfl rfl (sx_inv_v2 (mi := 195) (k := 177) (st := [.int (nI c), .ref 111]) (w := w) rfl rfl hI.1.o111 rfl rfl rfl) rfl rfl rfl (X189 (d := d) hI hc) (show _ = 5 from rfl) ?_
  rintro r4 w2 ⟨rfl, hI3, hf1⟩
  show sx_RP _ _ _ _ _ [.int (pesF (ia w 112) c)] _ _
  refine sx_RP.step (pc2 := 6) (ls2 := [(3, .int (pesF (ia w 112) c)), (0, .ref 111), (1, .int (nI c)), (2, .int (nI k))]) (st2 := []) (w3 := w2) rfl rfl ?_
  refine sx_RP.step (pc2 := 7) (ls2 := [(3, .int (pesF (ia w 112) c)), (0, .ref 111), (1, .int (nI c)), (2, .int (nI k))]) (st2 := [.int 0]) (w3 := w2) rfl rfl ?_
  refine sx_RP.step (pc2 := 9) (ls2 := [(4, .int 0), (3, .int (pesF (ia w 112) c)), (0, .ref 111), (1, .int (nI c)), (2, .int (nI k))]) (st2 := []) (w3 := w2) rfl rfl ?_
  refine sx_RP.step (pc2 := 10) (ls2 := [(4, .int 0), (3, .int (pesF (ia w 112) c)), (0, .ref 111), (1, .int (nI c)), (2, .int (nI k))]) (st2 := [.ref 111]) (w3 := w2) rfl rfl ?_
  refine sx_RP.step (pc2 := 11) (ls2 := [(4, .int 0), (3, .int (pesF (ia w 112) c)), (0, .ref 111), (1, .int (nI c)), (2, .int (nI k))]) (st2 := [.int (nI c), .ref 111]) (w3 := w2) rfl rfl ?_
  refine sx_RP.step (pc2 := 12) (ls2 := [(4, .int 0), (3, .int (pesF (ia w 112) c)), (0, .ref 111), (1, .int (nI c)), (2, .int (nI k))]) (st2 := [.int (-1), .int (nI c), .ref 111]) (w3 := w2) rfl rfl ?_
  refine sx_RP.callp (as2 := [.ref 111, .int (nI c), .int (-1)]) (rest2 := []) rfl rfl (sx_inv_v2 (mi := 195) (k := 94) (st := [.int (-1), .int (nI c), .ref 111]) (w := w2) rfl rfl hI3.1.o111 rfl rfl rfl) rfl rfl rfl (X141s (d := d + 3) hI3 hc) (show _ = 15 from rfl) ?_
  rintro r4 w6 ⟨⟨rfl, hw4⟩, hI7, hf5⟩
  show sx_RP _ _ _ _ _ [] _ _
  refine sx_RP.step (pc2 := 16) (ls2 := [(4, .int 0), (3, .int (pesF (ia w 112) c)), (0, .ref 111), (1, .int (nI c)), (2, .int (nI k))]) (st2 := [.int 0]) (w3 := w6) rfl rfl ?_
  refine sx_RP.step (pc2 := 18) (ls2 := [(5, .int 0), (4, .int 0), (3, .int (pesF (ia w 112) c)), (0, .ref 111), (1, .int (nI c)), (2, .int (nI k))]) (st2 := []) (w3 := w6) rfl rfl ?_
  have eA : ia w2 112 = ia w 112 := ia_of (hf1 112 (by decide) (by decide))
  have eB : ia w6 112 = ia w 112 := (ia_of (hf5 112 (by decide) (by decide))).trans eA
  have c9 := x195L (xs := xs) (d := d) (k := k) (c := c) hI7 hk hc (fun f hf9 => by rw [eB, hw4 f hf9, eA]) (fun x hx => by rw [eB, ia_of (hf5 120 (by decide) (by decide)), ia_of (hf1 120 (by decide) (by decide))]; exact hM x hx) 48 0 (by omega)
  rw [eB] at c9
  refine (sx_RP.ls (sx_lr.cons rfl (sx_lr.cons rfl (sx_lr.cons rfl (sx_lr.cons rfl (sx_lr.cons rfl (sx_lr.cons rfl sx_lr.nil)))))) c9).mono9 (fun r w2 z => ?_)
  obtain ⟨z1, z2⟩ := z
  rw [z2]
  exact ⟨z1, hI7, fun a h1 h2 => (hf5 a h1 h2).trans (hf1 a h1 h2)⟩
set_option maxRecDepth 20000 in
set_option maxHeartbeats 4000000 in
theorem X194L {xs : Option (List Int32)} {d k : Nat} {l : List Int32} (hk : k ≤ 5) : ∀ (q j : Nat) (w : List sx_C) (s b : Int32), j + q = 48 → WI w → ia w 112 = l → (∀ x, x < 48 → (ia w 120).getD x 0 = b01 (whB l k x)) → sx_RP xs (d + 7) 194 65 [(0, .ref 111), (1, .int (nI k)), (2, .int b), (3, .int s), (4, .int (nI j))] [] w (fun r w2 => r = some (.int (bsF (lfV l k) q j s b)) ∧ WI w2)
  | 0, j, w, s, b, hj, hI, el, hM => by
    obtain rfl : j = 48 := by omega
    refine sx_RP.step (pc2 := 67) (ls2 := [(0, .ref 111), (1, .int (nI k)), (2, .int b), (3, .int s), (4, .int 48)]) (st2 := [.int 48]) (w3 := w) rfl rfl ?_
    refine sx_RP.step (pc2 := 69) (ls2 := [(0, .ref 111), (1, .int (nI k)), (2, .int b), (3, .int s), (4, .int 48)]) (st2 := [.int 48, .int 48]) (w3 := w) rfl rfl ?_
    refine sx_RP.step (pc2 := 113) (ls2 := [(0, .ref 111), (1, .int (nI k)), (2, .int b), (3, .int s), (4, .int 48)]) (st2 := []) (w3 := w) rfl rfl ?_
    refine sx_RP.step (pc2 := 114) (ls2 := [(0, .ref 111), (1, .int (nI k)), (2, .int b), (3, .int s), (4, .int 48)]) (st2 := [.int b]) (w3 := w) rfl rfl ?_
    refine sx_RP.ret (r := (some (.int b))) rfl rfl ?_
    exact ⟨rfl, hI⟩
  | q + 1, j, w, s, b, hj, hI, el, hM => by
    have hM1 : ∀ x, x < 48 → (ia w 120).getD x 0 = b01 (whB (ia w 112) k x) := fun x hx => by rw [el]; exact hM x hx
    refine sx_RP.step (pc2 := 67) (ls2 := [(0, .ref 111), (1, .int (nI k)), (2, .int b), (3, .int s), (4, .int (nI j))]) (st2 := [.int (nI j)]) (w3 := w) rfl rfl ?_
    refine sx_RP.step (pc2 := 69) (ls2 := [(0, .ref 111), (1, .int (nI k)), (2, .int b), (3, .int s), (4, .int (nI j))]) (st2 := [.int 48, .int (nI j)]) (w3 := w) rfl rfl ?_
    refine sx_RP.br (p2 := 72) (l2 := [(0, .ref 111), (1, .int (nI k)), (2, .int b), (3, .int s), (4, .int (nI j))]) (s2 := []) (v2 := w) rfl rfl (fun q => absurd (of_decide_eq_true q) (fun z => absurd ((nI_leI (a := 48) (b := j) (by omega) (by omega)).mp z) (by omega))) (fun _ => ?_)
    refine sx_RP.step (pc2 := 73) (ls2 := [(0, .ref 111), (1, .int (nI k)), (2, .int b), (3, .int s), (4, .int (nI j))]) (st2 := [.ref 111]) (w3 := w) rfl rfl ?_
    refine sx_RP.step (pc2 := 75) (ls2 := [(0, .ref 111), (1, .int (nI k)), (2, .int b), (3, .int s), (4, .int (nI j))]) (st2 := [.int (nI j), .ref 111]) (w3 := w) rfl rfl ?_
    refine sx_RP.step (pc2 := 76) (ls2 := [(0, .ref 111), (1, .int (nI k)), (2, .int b), (3, .int s), (4, .int (nI j))]) (st2 := [.int (nI k), .int (nI j), .ref 111]) (w3 := w) rfl rfl ?_
    refine sx_RP.callp (as2 := [.ref 111, .int (nI j), .int (nI k)]) (rest2 := []) rfl rfl (sx_inv_v2 (mi := 194) (k := 186) (st := [.int (nI k), .int (nI j), .ref 111]) (w := w) rfl rfl hI.1.o111 rfl rfl rfl) rfl rfl rfl (X195 (d := d + 1) hI hk (show j < 48 by omega) hM1) (show _ = 79 from rfl) ?_
    rintro r4 w2 ⟨rfl, hI3, hf1⟩
    show sx_RP _ _ _ _ _ [.int (lfV (ia w 112) k j)] _ _
    rw [el]
    refine sx_RP.step (pc2 := 81) (ls2 := [(5, .int (lfV l k j)), (0, .ref 111), (1, .int (nI k)), (2, .int b), (3, .int s), (4, .int (nI j))]) (st2 := []) (w3 := w2) rfl rfl ?_
    refine sx_RP.step (pc2 := 83) (ls2 := [(5, .int (lfV l k j)), (0, .ref 111), (1, .int (nI k)), (2, .int b), (3, .int s), (4, .int (nI j))]) (st2 := [.int (lfV l k j)]) (w3 := w2) rfl rfl ?_
    refine sx_RP.step (pc2 := 84) (ls2 := [(5, .int (lfV l k j)), (0, .ref 111), (1, .int (nI k)), (2, .int b), (3, .int s), (4, .int (nI j))]) (st2 := [.int s, .int (lfV l k j)]) (w3 := w2) rfl rfl ?_
    refine sx_RP.br (p1 := 92) (l1 := [(5, .int (lfV l k j)), (0, .ref 111), (1, .int (nI k)), (2, .int b), (3, .int s), (4, .int (nI j))]) (s1 := []) (v1 := w2) (p2 := 87) (l2 := [(5, .int (lfV l k j)), (0, .ref 111), (1, .int (nI k)), (2, .int b), (3, .int s), (4, .int (nI j))]) (s2 := []) (v2 := w2) rfl rfl (fun q4 => ?_) (fun q4 => ?_)
    · replace q4 := of_decide_eq_true q4
      refine sx_RP.step (pc2 := 93) (ls2 := [(5, .int (lfV l k j)), (0, .ref 111), (1, .int (nI k)), (2, .int b), (3, .int s), (4, .int (nI j))]) (st2 := [.int b]) (w3 := w2) rfl rfl ?_
      refine sx_RP.step (pc2 := 94) (ls2 := [(2, .int b), (5, .int (lfV l k j)), (0, .ref 111), (1, .int (nI k)), (3, .int s), (4, .int (nI j))]) (st2 := []) (w3 := w2) rfl rfl ?_
      refine sx_RP.step (pc2 := 96) (ls2 := [(2, .int b), (5, .int (lfV l k j)), (0, .ref 111), (1, .int (nI k)), (3, .int s), (4, .int (nI j))]) (st2 := [.int (lfV l k j)]) (w3 := w2) rfl rfl ?_
      refine sx_RP.step (pc2 := 97) (ls2 := [(2, .int b), (5, .int (lfV l k j)), (0, .ref 111), (1, .int (nI k)), (3, .int s), (4, .int (nI j))]) (st2 := [.int s, .int (lfV l k j)]) (w3 := w2) rfl rfl ?_
      refine sx_RP.br (p1 := 105) (l1 := [(2, .int b), (5, .int (lfV l k j)), (0, .ref 111), (1, .int (nI k)), (3, .int s), (4, .int (nI j))]) (s1 := []) (v1 := w2) rfl rfl (fun _ => ?_) (fun q => absurd q4 (of_decide_eq_false q))
      refine sx_RP.step (pc2 := 106) (ls2 := [(2, .int b), (5, .int (lfV l k j)), (0, .ref 111), (1, .int (nI k)), (3, .int s), (4, .int (nI j))]) (st2 := [.int s]) (w3 := w2) rfl rfl ?_
      refine sx_RP.step (pc2 := 107) (ls2 := [(3, .int s), (2, .int b), (5, .int (lfV l k j)), (0, .ref 111), (1, .int (nI k)), (4, .int (nI j))]) (st2 := []) (w3 := w2) rfl rfl ?_
      refine sx_RP.step (pc2 := 110) (ls2 := [(4, .int ((nI j) + 1)), (3, .int s), (2, .int b), (5, .int (lfV l k j)), (0, .ref 111), (1, .int (nI k))]) (st2 := []) (w3 := w2) rfl rfl ?_
      rw [nI_1 j]
      refine sx_RP.step (pc2 := 65) (ls2 := [(4, .int (nI (j + 1))), (3, .int s), (2, .int b), (5, .int (lfV l k j)), (0, .ref 111), (1, .int (nI k))]) (st2 := []) (w3 := w2) rfl rfl ?_
      have eW : ia w2 112 = l := (ia_of (hf1 112 (by decide) (by decide))).trans el
      have hM2 : ∀ x, x < 48 → (ia w2 120).getD x 0 = b01 (whB l k x) := fun x hx => by rw [ia_of (hf1 120 (by decide) (by decide))]; exact hM x hx
      rw [bs_n (f := lfV l k) (Int32.not_lt.mpr q4)]
      exact sx_RP.ls (sx_lr.cons rfl (sx_lr.cons rfl (sx_lr.cons rfl (sx_lr.cons rfl (sx_lr.cons rfl sx_lr.nil))))) (X194L hk q (j + 1) w2 s b (by omega) hI3 eW hM2)
    · replace q4 := of_decide_eq_false q4
      refine sx_RP.step (pc2 := 89) (ls2 := [(5, .int (lfV l k j)), (0, .ref 111), (1, .int (nI k)), (2, .int b), (3, .int s), (4, .int (nI j))]) (st2 := [.int (nI j)]) (w3 := w2) rfl rfl ?_
      refine sx_RP.step (pc2 := 93) (ls2 := [(5, .int (lfV l k j)), (0, .ref 111), (1, .int (nI k)), (2, .int b), (3, .int s), (4, .int (nI j))]) (st2 := [.int (nI j)]) (w3 := w2) rfl rfl ?_
      refine sx_RP.step (pc2 := 94) (ls2 := [(2, .int (nI j)), (5, .int (lfV l k j)), (0, .ref 111), (1, .int (nI k)), (3, .int s), (4, .int (nI j))]) (st2 := []) (w3 := w2) rfl rfl ?_
      refine sx_RP.step (pc2 := 96) (ls2 := [(2, .int (nI j)), (5, .int (lfV l k j)), (0, .ref 111), (1, .int (nI k)), (3, .int s), (4, .int (nI j))]) (st2 := [.int (lfV l k j)]) (w3 := w2) rfl rfl ?_
      refine sx_RP.step (pc2 := 97) (ls2 := [(2, .int (nI j)), (5, .int (lfV l k j)), (0, .ref 111), (1, .int (nI k)), (3, .int s), (4, .int (nI j))]) (st2 := [.int s, .int (lfV l k j)]) (w3 := w2) rfl rfl ?_
      refine sx_RP.br (p2 := 100) (l2 := [(2, .int (nI j)), (5, .int (lfV l k j)), (0, .ref 111), (1, .int (nI k)), (3, .int s), (4, .int (nI j))]) (s2 := []) (v2 := w2) rfl rfl (fun q => absurd (of_decide_eq_true q) q4) (fun _ => ?_)
      refine sx_RP.step (pc2 := 102) (ls2 := [(2, .int (nI j)), (5, .int (lfV l k j)), (0, .ref 111), (1, .int (nI k)), (3, .int s), (4, .int (nI j))]) (st2 := [.int (lfV l k j)]) (w3 := w2) rfl rfl ?_
      refine sx_RP.step (pc2 := 106) (ls2 := [(2, .int (nI j)), (5, .int (lfV l k j)), (0, .ref 111), (1, .int (nI k)), (3, .int s), (4, .int (nI j))]) (st2 := [.int (lfV l k j)]) (w3 := w2) rfl rfl ?_
      refine sx_RP.step (pc2 := 107) (ls2 := [(3, .int (lfV l k j)), (2, .int (nI j)), (5, .int (lfV l k j)), (0, .ref 111), (1, .int (nI k)), (4, .int (nI j))]) (st2 := []) (w3 := w2) rfl rfl ?_
      refine sx_RP.step (pc2 := 110) (ls2 := [(4, .int ((nI j) + 1)), (3, .int (lfV l k j)), (2, .int (nI j)), (5, .int (lfV l k j)), (0, .ref 111), (1, .int (nI k))]) (st2 := []) (w3 := w2) rfl rfl ?_
      rw [nI_1 j]
      refine sx_RP.step (pc2 := 65) (ls2 := [(4, .int (nI (j + 1))), (3, .int (lfV l k j)), (2, .int (nI j)), (5, .int (lfV l k j)), (0, .ref 111), (1, .int (nI k))]) (st2 := []) (w3 := w2) rfl rfl ?_
      have eW : ia w2 112 = l := (ia_of (hf1 112 (by decide) (by decide))).trans el
      have hM2 : ∀ x, x < 48 → (ia w2 120).getD x 0 = b01 (whB l k x) := fun x hx => by rw [ia_of (hf1 120 (by decide) (by decide))]; exact hM x hx
      rw [bs_y (f := lfV l k) (Int32.not_le.mp q4)]
      exact sx_RP.ls (sx_lr.cons rfl (sx_lr.cons rfl (sx_lr.cons rfl (sx_lr.cons rfl (sx_lr.cons rfl sx_lr.nil))))) (X194L hk q (j + 1) w2 _ _ (by omega) hI3 eW hM2)
set_option maxRecDepth 20000 in
set_option maxHeartbeats 4000000 in
theorem A194 {xs : Option (List Int32)} {d : Nat} {w : List sx_C} (hI : WI w) (a1 : Int32) : sx_RP xs (d + 7) 194 0 (lv_args 0 [.ref 111, .int a1]) [] w (fun r w2 => r = some (.int (bstA (ia w 112) a1)) ∧ WI w2) := by
  obtain ⟨m, hm, em⟩ := (hI.sA (a := 112) (by decide) 2 (by decide)).2.1 rfl
  refine sx_RP.step (pc2 := 1) (ls2 := [(0, .ref 111), (1, .int a1)]) (st2 := [.int a1]) (w3 := w) rfl rfl ?_
  rcases in_cases a1 0 5 (m := 0) (n := 5) rfl rfl (by decide) (by decide) with q1 | ⟨x2, hx3, hx4, rfl⟩
  · refine sx_RP.cu (as := [.int a1]) (rest2 := []) (st3 := [.int 0]) rfl rfl rfl rfl rfl (cx_151n q1) rfl ?_
    refine sx_RP.step (pc2 := 7) (ls2 := [(0, .ref 111), (1, .int a1)]) (st2 := []) (w3 := w) rfl rfl ?_
    refine sx_RP.step (pc2 := 8) (ls2 := [(0, .ref 111), (1, .int a1)]) (st2 := [.ref 111]) (w3 := w) rfl rfl ?_
    refine sx_RP.step (pc2 := 9) (ls2 := [(0, .ref 111), (1, .int a1)]) (st2 := [.int 0, .ref 111]) (w3 := w) rfl rfl ?_
    refine sx_RP.callp (as2 := [.ref 111, .int 0]) (rest2 := []) rfl rfl (sx_inv_v2 (mi := 194) (k := 70) (st := [.int 0, .ref 111]) (w := w) rfl rfl hI.1.o111 rfl rfl rfl) rfl rfl rfl (S133_0 hI) (show _ = 12 from rfl) ?_
    rintro r4 w7 ⟨rfl, hI8, hs6⟩
    show sx_RP _ _ _ _ _ [.int (-1000000001)] _ _
    refine sx_RP.ret (r := (some (.int (-1000000001)))) rfl rfl ?_
    exact ⟨by rw [bstA_1 q1], hI8⟩
  · refine sx_RP.cu (as := [.int (nI x2)]) (rest2 := []) (st3 := [.int 1]) rfl rfl rfl rfl rfl (cx_151p ⟨nI_le (a := 0) hx3 (by omega), nI_le (b := 5) hx4 (by decide)⟩) rfl ?_
    refine sx_RP.step (pc2 := 13) (ls2 := [(0, .ref 111), (1, .int (nI x2))]) (st2 := []) (w3 := w) rfl rfl ?_
    refine sx_RP.step (pc2 := 14) (ls2 := [(0, .ref 111), (1, .int (nI x2))]) (st2 := [.ref 111]) (w3 := w) rfl rfl ?_
    refine sx_RP.gf (v := .ref 112) rfl rfl hI.1.o111 rfl rfl (show _ = 17 from rfl) ?_
    refine sx_RP.step (pc2 := 18) (ls2 := [(0, .ref 111), (1, .int (nI x2))]) (st2 := [.int 2, .ref 112]) (w3 := w) rfl rfl ?_
    refine sx_RP.ild (c := 2) rfl hI.1.a112.1 hI.1.a112.2 (sx_in_nI (show 2 < 172 by omega) (by decide)) (show (nI 2).toNatClampNeg = 2 from nI_clamp (by omega)) (show _ = 19 from rfl) ?_
    rw [em]
    refine sx_RP.br (p1 := 30) (l1 := [(0, .ref 111), (1, .int (nI x2))]) (s1 := []) (v1 := w) (p2 := 22) (l2 := [(0, .ref 111), (1, .int (nI x2))]) (s2 := []) (v2 := w) rfl rfl (fun q9 => ?_) (fun q9 => ?_)
    · replace q9 := of_decide_eq_true q9
      replace q9 := (nI_eq (a := m) (b := 0) (by omega) (by omega)).mp q9
      refine sx_RP.step (pc2 := 31) (ls2 := [(0, .ref 111), (1, .int (nI x2))]) (st2 := [.ref 111]) (w3 := w) rfl rfl ?_
      refine sx_RP.step (pc2 := 32) (ls2 := [(0, .ref 111), (1, .int (nI x2))]) (st2 := [.int 3, .ref 111]) (w3 := w) rfl rfl ?_
      refine sx_RP.callp (as2 := [.ref 111, .int 3]) (rest2 := []) rfl rfl (sx_inv_v2 (mi := 194) (k := 70) (st := [.int 3, .ref 111]) (w := w) rfl rfl hI.1.o111 rfl rfl rfl) rfl rfl rfl (S133_3 hI) (show _ = 35 from rfl) ?_
      rintro r4 w11 ⟨rfl, hI12, hs10⟩
      show sx_RP _ _ _ _ _ [.int (-1000000004)] _ _
      refine sx_RP.ret (r := (some (.int (-1000000004)))) rfl rfl ?_
      exact ⟨by rw [bstA_2 (show x2 ≤ 5 by omega) (Or.inl (em.trans (by rw [q9]; rfl)))], hI12⟩
    · replace q9 := of_decide_eq_false q9
      replace q9 := mt (nI_eq (a := m) (b := 0) (by omega) (by omega)).mpr q9
      refine sx_RP.step (pc2 := 23) (ls2 := [(0, .ref 111), (1, .int (nI x2))]) (st2 := [.ref 111]) (w3 := w) rfl rfl ?_
      refine sx_RP.step (pc2 := 24) (ls2 := [(0, .ref 111), (1, .int (nI x2))]) (st2 := [.int (nI x2), .ref 111]) (w3 := w) rfl rfl ?_
      refine sx_RP.callp (as2 := [.ref 111, .int (nI x2)]) (rest2 := []) rfl rfl (sx_inv_v2 (mi := 194) (k := 183) (st := [.int (nI x2), .ref 111]) (w := w) rfl rfl hI.1.o111 rfl rfl rfl) rfl rfl rfl (X193 (d := d) hI (show x2 ≤ 5 by omega) hm em) (show _ = 27 from rfl) ?_
      rintro r4 w15 ⟨rfl, hI16, hM13, hf14⟩
      show sx_RP _ _ _ _ _ [.int (ctP (whB (ia w 112) x2) 48)] _ _
      refine sx_RP.br (p1 := 36) (l1 := [(0, .ref 111), (1, .int (nI x2))]) (s1 := []) (v1 := w15) (p2 := 30) (l2 := [(0, .ref 111), (1, .int (nI x2))]) (s2 := []) (v2 := w15) rfl rfl (fun q17 => ?_) (fun q17 => ?_)
      · replace q17 := of_decide_eq_true q17
        refine sx_RP.step (pc2 := 37) (ls2 := [(0, .ref 111), (1, .int (nI x2))]) (st2 := [.ref 111]) (w3 := w15) rfl rfl ?_
        refine sx_RP.gf (v := .ref 112) rfl rfl hI16.1.o111 rfl rfl (show _ = 40 from rfl) ?_
        refine sx_RP.step (pc2 := 41) (ls2 := [(0, .ref 111), (1, .int (nI x2))]) (st2 := [.int 2, .ref 112]) (w3 := w15) rfl rfl ?_
        have em8 : (ia w15 112).getD 2 0 = nI m := by rw [hM13.1]; exact em
        refine sx_RP.ild (c := 2) rfl hI16.1.a112.1 hI16.1.a112.2 (sx_in_nI (show 2 < 172 by omega) (by decide)) (show (nI 2).toNatClampNeg = 2 from nI_clamp (by omega)) (show _ = 42 from rfl) ?_
        rw [em8]
        refine sx_RP.step (pc2 := 44) (ls2 := [(0, .ref 111), (1, .int (nI x2))]) (st2 := [.int 9, .int (nI m)]) (w3 := w15) rfl rfl ?_
        refine sx_RP.br (p1 := 53) (l1 := [(0, .ref 111), (1, .int (nI x2))]) (s1 := []) (v1 := w15) (p2 := 47) (l2 := [(0, .ref 111), (1, .int (nI x2))]) (s2 := []) (v2 := w15) rfl rfl (fun q18 => ?_) (fun q18 => ?_)
        · replace q18 := of_decide_eq_true q18
          replace q18 := mt (nI_eq (a := m) (b := 9) (by omega) (by omega)).mpr q18
          refine sx_RP.step (pc2 := 54) (ls2 := [(0, .ref 111), (1, .int (nI x2))]) (st2 := [.int 0]) (w3 := w15) rfl rfl ?_
          refine sx_RP.step (pc2 := 55) (ls2 := [(2, .int 0), (0, .ref 111), (1, .int (nI x2))]) (st2 := []) (w3 := w15) rfl rfl ?_
          refine sx_RP.step (pc2 := 56) (ls2 := [(2, .int 0), (0, .ref 111), (1, .int (nI x2))]) (st2 := [.ref 111]) (w3 := w15) rfl rfl ?_
          refine sx_RP.step (pc2 := 57) (ls2 := [(2, .int 0), (0, .ref 111), (1, .int (nI x2))]) (st2 := [.int 0, .ref 111]) (w3 := w15) rfl rfl ?_
          refine sx_RP.step (pc2 := 58) (ls2 := [(2, .int 0), (0, .ref 111), (1, .int (nI x2))]) (st2 := [.int (nI x2), .int 0, .ref 111]) (w3 := w15) rfl rfl ?_
          have hM1 : ∀ x, x < 48 → (ia w15 120).getD x 0 = b01 (whB (ia w15 112) x2 x) := fun x hx => by rw [hM13.1]; exact hM13.2 x hx
          refine sx_RP.callp (as2 := [.ref 111, .int 0, .int (nI x2)]) (rest2 := []) rfl rfl (sx_inv_v2 (mi := 194) (k := 186) (st := [.int (nI x2), .int 0, .ref 111]) (w := w15) rfl rfl hI16.1.o111 rfl rfl rfl) rfl rfl rfl (X195 (d := d + 1) (c := 0) hI16 (show x2 ≤ 5 by omega) (by decide) hM1) (show _ = 61 from rfl) ?_
          rintro r4 w20 ⟨rfl, hI21, hf19⟩
          show sx_RP _ _ _ _ _ [.int (lfV (ia w15 112) x2 0)] _ _
          rw [hM13.1]
          refine sx_RP.step (pc2 := 62) (ls2 := [(3, .int (lfV (ia w 112) x2 0)), (2, .int 0), (0, .ref 111), (1, .int (nI x2))]) (st2 := []) (w3 := w20) rfl rfl ?_
          refine sx_RP.step (pc2 := 63) (ls2 := [(3, .int (lfV (ia w 112) x2 0)), (2, .int 0), (0, .ref 111), (1, .int (nI x2))]) (st2 := [.int 1]) (w3 := w20) rfl rfl ?_
          refine sx_RP.step (pc2 := 65) (ls2 := [(4, .int 1), (3, .int (lfV (ia w 112) x2 0)), (2, .int 0), (0, .ref 111), (1, .int (nI x2))]) (st2 := []) (w3 := w20) rfl rfl ?_
          have m0 : ¬ (ia w 112).getD 2 0 = 0 := fun z => q9 ((nI_eq (a := m) (b := 0) (by omega) (by decide)).mp (em.symm.trans z))
          have m1 : ¬ ((ia w 112).getD 2 0 = 0 ∨ ctP (whB (ia w 112) x2) 48 = 0) := fun z => z.elim m0 q17
          rw [bstA_y (show x2 ≤ 5 by omega) m1 (fun z => q18 ((nI_eq (a := m) (b := 9) (by omega) (by decide)).mp (em.symm.trans z))), bs_y (f := lfV (ia w 112) x2) lfV_49]
          exact sx_RP.ls (sx_lr.cons rfl (sx_lr.cons rfl (sx_lr.cons rfl (sx_lr.cons rfl (sx_lr.cons rfl sx_lr.nil))))) (X194L (l := ia w 112) (show x2 ≤ 5 by omega) 47 1 w20 _ _ (by omega) hI21 ((ia_of (hf19 112 (by decide) (by decide))).trans hM13.1) (fun x hx => by rw [ia_of (hf19 120 (by decide) (by decide))]; exact hM13.2 x hx))
        · replace q18 := Decidable.not_not.mp (of_decide_eq_false q18)
          replace q18 := (nI_eq (a := m) (b := 9) (by omega) (by omega)).mp q18
          refine sx_RP.step (pc2 := 48) (ls2 := [(0, .ref 111), (1, .int (nI x2))]) (st2 := [.ref 111]) (w3 := w15) rfl rfl ?_
          refine sx_RP.step (pc2 := 49) (ls2 := [(0, .ref 111), (1, .int (nI x2))]) (st2 := [.int 1, .ref 111]) (w3 := w15) rfl rfl ?_
          refine sx_RP.callp (as2 := [.ref 111, .int 1]) (rest2 := []) rfl rfl (sx_inv_v2 (mi := 194) (k := 70) (st := [.int 1, .ref 111]) (w := w15) rfl rfl hI16.1.o111 rfl rfl rfl) rfl rfl rfl (S133_1 hI16) (show _ = 52 from rfl) ?_
          rintro r4 w23 ⟨rfl, hI24, hs22⟩
          show sx_RP _ _ _ _ _ [.int (-1000000002)] _ _
          refine sx_RP.ret (r := (some (.int (-1000000002)))) rfl rfl ?_
          have m0 : ¬ (ia w 112).getD 2 0 = 0 := fun z => q9 ((nI_eq (a := m) (b := 0) (by omega) (by decide)).mp (em.symm.trans z))
          have m1 : ¬ ((ia w 112).getD 2 0 = 0 ∨ ctP (whB (ia w 112) x2) 48 = 0) := fun z => z.elim m0 q17
          exact ⟨by rw [bstA_3 (show x2 ≤ 5 by omega) m1 (em.trans (by rw [q18]; rfl))], hI24⟩
      · replace q17 := Decidable.not_not.mp (of_decide_eq_false q17)
        refine sx_RP.step (pc2 := 31) (ls2 := [(0, .ref 111), (1, .int (nI x2))]) (st2 := [.ref 111]) (w3 := w15) rfl rfl ?_
        refine sx_RP.step (pc2 := 32) (ls2 := [(0, .ref 111), (1, .int (nI x2))]) (st2 := [.int 3, .ref 111]) (w3 := w15) rfl rfl ?_
        refine sx_RP.callp (as2 := [.ref 111, .int 3]) (rest2 := []) rfl rfl (sx_inv_v2 (mi := 194) (k := 70) (st := [.int 3, .ref 111]) (w := w15) rfl rfl hI16.1.o111 rfl rfl rfl) rfl rfl rfl (S133_3 hI16) (show _ = 35 from rfl) ?_
        rintro r4 w26 ⟨rfl, hI27, hs25⟩
        show sx_RP _ _ _ _ _ [.int (-1000000004)] _ _
        refine sx_RP.ret (r := (some (.int (-1000000004)))) rfl rfl ?_
        have m0 : ¬ (ia w 112).getD 2 0 = 0 := fun z => q9 ((nI_eq (a := m) (b := 0) (by omega) (by decide)).mp (em.symm.trans z))
        exact ⟨by rw [bstA_2 (show x2 ≤ 5 by omega) (Or.inr q17)], hI27⟩
theorem a74 {xs : Option (List Int32)} {d : Nat} {w : List sx_C} {s : ST} (hI : WI w) (hC : CLS w s) (a1 : Int32) : sx_RP xs (d + 7) 74 0 (lv_args 0 [.ref 0, .int a1]) [] w (fun r w2 => r = some (.int (bstA s.1 a1)) ∧ WI w2 ∧ CLS w2 (s) ∧ ∀ a, 111 ≤ a → w2[a]? = w[a]?) :=
  ((c74 (xs := xs) (d := d) hI hC a1).and (A74 hI s.1 hC.1.1 hC.2.2 a1)).mono9 (fun r w2 z => ⟨z.2.1, z.1.2.1, z.1.2.2.1, z.1.2.2.2⟩)
theorem a194 {xs : Option (List Int32)} {d : Nat} {w : List sx_C} {s : ST} (hI : WI w) (hR : REF w s) (a1 : Int32) : sx_RP xs (d + 7) 194 0 (lv_args 0 [.ref 111, .int a1]) [] w (fun r w2 => r = some (.int (bstA s.1 a1)) ∧ WI w2 ∧ REF w2 (s) ∧ ∀ a, a < 111 → w2[a]? = w[a]?) := by
  refine ((r194 (xs := xs) (d := d) hI hR a1).and (A194 hI a1)).mono9 (fun r w2 z => ⟨?_, z.1.2.1, z.1.2.2.1, z.1.2.2.2⟩)
  rw [z.2.1, hR.1.1]
end
-- 89y48.read.lean.txt
section
def rdB (N : Nat → Int64) (m : List Int32) : Nat → Bool
  | 0 => true
  | j + 1 => rdB N m j && decide (N j = (dpF m j).toInt64)
def rnF (N : Nat → Int64) (n : Nat) : Nat → Nat → List Int32 → Int32
  | 0, _, _ => -1000000004
  | q + 1, j, m => if rdB N m n = true then nI j else rnF N n q (j + 1) (nigR m)
section SXRD
variable {N : Nat → Int64} {m : List Int32} {n q j : Nat}
theorem rdB_y (h : rdB N m j = true) (h2 : N j = (dpF m j).toInt64) : rdB N m (j + 1) = true := by
  show (rdB N m j && decide (N j = (dpF m j).toInt64)) = true
  rw [h, decide_eq_true h2]
  rfl
theorem rdB_n (h2 : ¬ N j = (dpF m j).toInt64) : rdB N m (j + 1) = false := by
  show (rdB N m j && decide (N j = (dpF m j).toInt64)) = false
  rw [decide_eq_false h2, Bool.and_false]
theorem rdB_dn (h : rdB N m j = false) : ∀ k : Nat, j ≤ k → rdB N m k = false
  | 0, hk => by
    obtain rfl : j = 0 := by omega
    exact h
  | k + 1, hk => by
    by_cases e : j = k + 1
    · rw [← e]
      exact h
    · show (rdB N m k && decide (N k = (dpF m k).toInt64)) = false
      rw [rdB_dn h k (by omega), Bool.false_and]
theorem rnF_y (h : rdB N m n = true) : rnF N n (q + 1) j m = nI j := by rw [rnF, if_pos h]
theorem rnF_n (h : rdB N m n = false) : rnF N n (q + 1) j m = rnF N n q (j + 1) (nigR m) := by rw [rnF, if_neg (by rw [h]; decide)]
end SXRD
theorem metR_o {l : List Int32} {g k : Nat} (hg : g < 10) (hk : k = 2 ∨ (4 ≤ k ∧ k < 103) ∨ 163 ≤ k) : (metR l g).getD k 0 = l.getD k 0 := by
  unfold metR
  split
  · rw [gd_ne (by omega), gd_ne (by omega)]
  · rfl
theorem digR_o {l : List Int32} {g k : Nat} (hg : g < 10) (hk : k = 2 ∨ (4 ≤ k ∧ k < 103) ∨ 163 ≤ k) : (digR l g).getD k 0 = l.getD k 0 := by
  unfold digR
  rw [gd_ne (by omega), gd_ne (by omega), gd_ne (by omega)]
theorem dgL_o {k : Nat} (hk : k = 2 ∨ (4 ≤ k ∧ k < 103) ∨ 163 ≤ k) : ∀ (q j : Nat) (l : List Int32), j + q ≤ 10 → (dgL q j l).getD k 0 = l.getD k 0
  | 0, _, _, _ => rfl
  | q + 1, j, l, h => by
    show (dgL q (j + 1) (if gF l j 5 = 0 then digR l j else l)).getD k 0 = _
    rw [dgL_o hk q (j + 1) _ (by omega)]
    split
    · exact digR_o (by omega) hk
    · rfl
theorem mtL_o {k : Nat} (hk : k = 2 ∨ (4 ≤ k ∧ k < 103) ∨ 163 ≤ k) : ∀ (q j : Nat) (l : List Int32), j + q ≤ 10 → (mtL q j l).getD k 0 = l.getD k 0
  | 0, _, _, _ => rfl
  | q + 1, j, l, h => by
    show (mtL q (j + 1) (metR l j)).getD k 0 = _
    rw [mtL_o hk q (j + 1) _ (by omega), metR_o (by omega) hk]
theorem nig_o {l : List Int32} {n k : Nat} (en : l.getD 1 0 = nI n) (hn : n ≤ 10) (hk : k = 2 ∨ (4 ≤ k ∧ k < 103) ∨ 163 ≤ k) : (nigR l).getD k 0 = l.getD k 0 := by
  unfold nigR
  rw [gd_ne (by omega), maN_n en hn, mtL_o hk n 0 _ (by omega), dgL_o hk n 0 _ (by omega)]
def SGr (l p : List Int32) : Prop := p.getD 1 0 = l.getD 1 0 ∧ p.getD 2 0 = l.getD 2 0 ∧ (∀ c, c < 48 → p.getD (7 + c) 0 = l.getD (7 + c) 0) ∧ ∀ d, p.getD (163 + d) 0 = l.getD (163 + d) 0
theorem SGr.rf {l : List Int32} : SGr l l := ⟨rfl, rfl, fun _ _ => rfl, fun _ => rfl⟩
theorem SGr.night {l p : List Int32} {n : Nat} (h : SGr l p) (en : l.getD 1 0 = nI n) (hn : n ≤ 10) : SGr l (nigR p) := by
  have en2 : p.getD 1 0 = nI n := h.1.trans en
  exact ⟨nigR_1.trans h.1, (nig_o en2 hn (by omega)).trans h.2.1, fun c hc => (nig_o en2 hn (by omega)).trans (h.2.2.1 c hc), fun d => (nig_o en2 hn (by omega)).trans (h.2.2.2 d)⟩
theorem SGr.far {l p : List Int32} (h : SGr l p) {f t : Nat} (hf : f < 48) (ht : t < 48) : farN (gdR p) f t = farN (gdR l) f t := farN_congr (fun c hc => by rw [gdR_at hc, gdR_at hc]; exact h.2.2.1 c hc) hf ht
def redA (F : Nat → Int32 × Int32) (N : Nat → Nat → Int64) (l : List Int32) (a1 : Int32) : Int32 := if 0 ≤ a1 ∧ a1 ≤ 3 then (if (F (iN a1)).1 = 0 then -1000000006 else (if l.getD 0 0 + 60 ≤ 999 then rnF (N (iN a1)) (min (iN (F (iN a1)).2) (iN (l.getD 2 0))) 61 0 l else -1000000005)) else -1000000001
section SXRA
variable {F : Nat → Int32 × Int32} {N : Nat → Nat → Int64} {l : List Int32} {a1 b : Int32} {s z m : Nat}
theorem red_1 (h : ¬ (0 ≤ a1 ∧ a1 ≤ 3)) : redA F N l a1 = -1000000001 := if_neg h
theorem red_2 {y : Int32} (hs : s < 4) (e : F s = (b, y)) (h : b = 0) : redA F N l (nI s) = -1000000006 := by
  unfold redA
  rw [iN_n (by omega), e, if_pos (cp_r hs), if_pos h]
theorem red_3 {y : Int32} (hs : s < 4) (e : F s = (b, y)) (h : ¬ b = 0) (h2 : ¬ l.getD 0 0 + 60 ≤ 999) : redA F N l (nI s) = -1000000005 := by
  unfold redA
  rw [iN_n (by omega), e, if_pos (cp_r hs), if_neg h, if_neg h2]
theorem red_y (hs : s < 4) (hz : z ≤ 40) (hm : m ≤ 9) (e : F s = (b, nI z)) (h : ¬ b = 0) (em : l.getD 2 0 = nI m) (h2 : l.getD 0 0 + 60 ≤ 999) : redA F N l (nI s) = rnF (N s) (min z m) 61 0 l := by
  unfold redA
  rw [iN_n (by omega), e, if_pos (cp_r hs), if_neg h, if_pos h2, em, iN_n (by omega)]
  show rnF (N s) (min z (iN (nI m))) 61 0 l = _
  rw [iN_n (by omega)]
end SXRA
end
