-- 89y31.state.lean.txt
section
theorem sx_between {a : Int32} (h : 0 ≤ a ∧ a ≤ 3) : ∃ s, s < 4 ∧ a = nI s := by
  rw [Int32.le_iff_toInt_le, Int32.le_iff_toInt_le] at h
  have h1 : (0 : Int32).toInt = 0 := by decide
  have h2 : (3 : Int32).toInt = 3 := by decide
  refine ⟨a.toInt.toNat, by omega, ?_⟩
  rw [← Int32.toInt_inj, nI_toInt (by omega)]
  omega
abbrev ST := List Int32 × Int32 × List Int32 × List Int32 × (Nat → Int32 × Int32) × (Nat → Nat → Int64)
def CLS (w : List sx_C) (s : ST) : Prop := (rel w 1 s.1 ∧ fi w 0 3 = s.2.1 ∧ (s.2.1 = 1 → rel w 15 s.2.2.1)) ∧ (tapC w = s.2.2.2.1 ∧ FCs w = s.2.2.2.2.1 ∧ NCs w = s.2.2.2.2.2) ∧ SK w
def REF (w : List sx_C) (s : ST) : Prop := (ia w 112 = s.1 ∧ fi w 111 4 = s.2.1 ∧ (s.2.1 = 1 → ia w 113 = s.2.2.1)) ∧ (tapM w = s.2.2.2.1 ∧ FMs w = s.2.2.2.2.1 ∧ NMs w = s.2.2.2.2.2)
theorem tapC_eq {w w2 : List sx_C} (h1 : w2[96]? = w[96]?) (h2 : w2[97]? = w[97]?) : tapC w2 = tapC w := by
  unfold tapC
  rw [fi_same 1 h1, ia_of h2]
theorem tapM_eq {w w2 : List sx_C} (h1 : fi w2 111 11 = fi w 111 11) (h2 : w2[121]? = w[121]?) : tapM w2 = tapM w := by
  unfold tapM
  rw [h1, ia_of h2]
theorem isA15 : isA 15 := Or.inr (Or.inl rfl)
theorem isA1 : isA 1 := Or.inl rfl
section SXST
variable {w w2 : List sx_C} {s : ST}
theorem CLS.fr (h : CLS w s) (hI : WI w) (hE : ∀ a, (a < 29 ∨ a = 96 ∨ a = 97 ∨ (103 ≤ a ∧ a < 111)) → w2[a]? = w[a]?) (hK : SK w → SK w2) : CLS w2 s :=
  ⟨⟨h.1.1.same hI isA1 (fun a _ _ => hE a (by omega)), (fi_same 3 (hE 0 (by omega))).trans h.1.2.1, fun k => (h.1.2.2 k).same hI isA15 (fun a _ _ => hE a (by omega))⟩, ⟨(tapC_eq (hE 96 (by omega)) (hE 97 (by omega))).trans h.2.1.1, (FCs_eq (fun q hq => hE _ (by omega))).trans h.2.1.2.1, (NCs_eq (fun q hq => hE _ (by omega))).trans h.2.1.2.2⟩, hK h.2.2⟩
theorem CLS.lo (h : CLS w s) (hI : WI w) (hE : ∀ a, a < 111 → w2[a]? = w[a]?) : CLS w2 s := h.fr hI (fun a ha => hE a (by omega)) (fun z => z.same (fun a _ _ => hE a (by omega)))
theorem CLS.es (h : CLS w s) (hI : WI w) (hE : ES w w2) : CLS w2 s := h.fr hI (fun a ha => hE.1 a (by unfold qc; omega)) hE.2
theorem CLS.row {l2 : List Int32} (h : CLS w s) (hI : WI w) (hr : rel w2 1 l2) (hE : EO w w2) : CLS w2 (l2, s.2) :=
  ⟨⟨hr, (fi_same 3 (hE 0 (by unfold oc; omega))).trans h.1.2.1, fun k => (h.1.2.2 k).same hI isA15 (fun a _ _ => hE a (by unfold oc; omega))⟩, ⟨(tapC_eq (hE 96 (by unfold oc; omega)) (hE 97 (by unfold oc; omega))).trans h.2.1.1, (FCs_eq (fun q hq => hE _ (by unfold oc; omega))).trans h.2.1.2.1, (NCs_eq (fun q hq => hE _ (by unfold oc; omega))).trans h.2.1.2.2⟩, h.2.2.same (fun a _ _ => hE a (by unfold oc; omega))⟩
theorem CLS.sh {F2 : Nat → Int32 × Int32} {N2 : Nat → Nat → Int64} (h : CLS w s) (hI : WI w) (hF : FCs w2 = F2) (hN : NCs w2 = N2) (hK : SK w2) (hE : ∀ a, (a < 29 ∨ a = 96 ∨ a = 97) → w2[a]? = w[a]?) : CLS w2 (s.1, s.2.1, s.2.2.1, s.2.2.2.1, F2, N2) :=
  ⟨⟨h.1.1.same hI isA1 (fun a _ _ => hE a (by omega)), (fi_same 3 (hE 0 (by omega))).trans h.1.2.1, fun k => (h.1.2.2 k).same hI isA15 (fun a _ _ => hE a (by omega))⟩, ⟨(tapC_eq (hE 96 (by omega)) (hE 97 (by omega))).trans h.2.1.1, hF, hN⟩, hK⟩
theorem CLS.tp {l2 t2 : List Int32} (h : CLS w s) (hI : WI w) (hr : rel w2 1 l2) (ht : tapC w2 = t2) (hE : ∀ a, (a = 0 ∨ (15 ≤ a ∧ a < 29) ∨ (44 ≤ a ∧ a < 96) ∨ (103 ≤ a ∧ a < 111)) → w2[a]? = w[a]?) : CLS w2 (l2, s.2.1, s.2.2.1, t2, s.2.2.2.2) :=
  ⟨⟨hr, (fi_same 3 (hE 0 (by omega))).trans h.1.2.1, fun k => (h.1.2.2 k).same hI isA15 (fun a _ _ => hE a (by omega))⟩, ⟨ht, (FCs_eq (fun q hq => hE _ (by omega))).trans h.2.1.2.1, (NCs_eq (fun q hq => hE _ (by omega))).trans h.2.1.2.2⟩, h.2.2.same (fun a _ _ => hE a (by omega))⟩
theorem REF.fr (h : REF w s) (hi : ia w2 112 = ia w 112) (hE : ∀ a, (a = 111 ∨ a = 113 ∨ 121 ≤ a) → w2[a]? = w[a]?) : REF w2 s :=
  ⟨⟨hi.trans h.1.1, (fi_same 4 (hE 111 (by omega))).trans h.1.2.1, fun k => (ia_of (hE 113 (by omega))).trans (h.1.2.2 k)⟩, ⟨(tapM_eq (fi_same 11 (hE 111 (by omega))) (hE 121 (by omega))).trans h.2.1, (FMs_eq (hE 122 (by omega)) (hE 123 (by omega))).trans h.2.2.1, (NMs_eq (hE 124 (by omega))).trans h.2.2.2⟩⟩
theorem REF.hi (h : REF w s) (hE : ∀ a, 111 ≤ a → w2[a]? = w[a]?) : REF w2 s := h.fr (ia_of (hE 112 (by omega))) (fun a ha => hE a (by omega))
theorem REF.ez (h : REF w s) (hE : EZ w w2) : REF w2 s := h.fr (ia_of (hE 112 (by unfold zc; omega))) (fun a ha => hE a (by unfold zc; omega))
theorem REF.ezl (h : REF w s) (hE : EZL w w2) : REF w2 s := h.fr hE.2 (fun a ha => hE.1 a (by unfold yc; omega) (by omega))
theorem REF.row {l2 : List Int32} (h : REF w s) (hr : ia w2 112 = l2) (hE : EOm w w2) : REF w2 (l2, s.2) :=
  ⟨⟨hr, (fi_same 4 (hE 111 (by unfold ocm; omega))).trans h.1.2.1, fun k => (ia_of (hE 113 (by unfold ocm; omega))).trans (h.1.2.2 k)⟩, ⟨(tapM_eq (fi_same 11 (hE 111 (by unfold ocm; omega))) (hE 121 (by unfold ocm; omega))).trans h.2.1, (FMs_eq (hE 122 (by unfold ocm; omega)) (hE 123 (by unfold ocm; omega))).trans h.2.2.1, (NMs_eq (hE 124 (by unfold ocm; omega))).trans h.2.2.2⟩⟩
theorem REF.sh {F2 : Nat → Int32 × Int32} {N2 : Nat → Nat → Int64} (h : REF w s) (hF : FMs w2 = F2) (hN : NMs w2 = N2) (hE : ∀ a, (a = 111 ∨ a = 112 ∨ a = 113 ∨ a = 121) → w2[a]? = w[a]?) : REF w2 (s.1, s.2.1, s.2.2.1, s.2.2.2.1, F2, N2) :=
  ⟨⟨(ia_of (hE 112 (by omega))).trans h.1.1, (fi_same 4 (hE 111 (by omega))).trans h.1.2.1, fun k => (ia_of (hE 113 (by omega))).trans (h.1.2.2 k)⟩, ⟨(tapM_eq (fi_same 11 (hE 111 (by omega))) (hE 121 (by omega))).trans h.2.1, hF, hN⟩⟩
theorem REF.tp {l2 t2 : List Int32} (h : REF w s) (hr : ia w2 112 = l2) (ht : tapM w2 = t2) (h4 : fi w2 111 4 = fi w 111 4) (hE : ∀ a, (a = 113 ∨ 122 ≤ a) → w2[a]? = w[a]?) : REF w2 (l2, s.2.1, s.2.2.1, t2, s.2.2.2.2) :=
  ⟨⟨hr, h4.trans h.1.2.1, fun k => (ia_of (hE 113 (by omega))).trans (h.1.2.2 k)⟩, ⟨ht, (FMs_eq (hE 122 (by omega)) (hE 123 (by omega))).trans h.2.2.1, (NMs_eq (hE 124 (by omega))).trans h.2.2.2⟩⟩
end SXST
def TT (t : List Int32) : Prop := ∀ i, i < t.length → ∃ j, j < 256 ∧ t.getD i 0 = nI j
theorem TT_of {w : List sx_C} (hI : WI w) (hY : TBy w) : TT (tapC w) := by
  intro i hi
  obtain ⟨n, hn, en⟩ := hI.t.1
  have hl : (tapC w).length = n := tapC_len en hn
  rw [hl] at hi
  obtain ⟨j, hj, ej⟩ := hY i
  refine ⟨j, hj, ?_⟩
  unfold tapC
  rw [map_at (by rw [en, iN_n (by omega)]; exact hi), ej]
  exact sgn_and ⟨j, hj⟩
def feT (t : List Int32) (a1 a2 : Int32) : List Int32 := if 1 ≤ a2 ∧ a2 ≤ 4 then (if t.length + iN a2 ≤ 120 then t ++ bytesOf a1 (iN a2) else t) else t
theorem fe_T (t : BT) (a1 a2 : Int32) : (feeU t a1 a2).2.2.2 = feT t.2.2.2 a1 a2 := by
  unfold feeU feT
  split
  · split <;> rfl
  · rfl
theorem c6 {xs : Option (List Int32)} {d : Nat} {w : List sx_C} {s : ST} (hI : WI w) (hC : CLS w s) (a1 a2 : Int32) : sx_RP xs (d + 7) 6 0 (lv_args 0 [.ref 0, .int a1, .int a2]) [] w (fun r w2 => r = some (.int (gndA s.1 a1 a2)) ∧ WI w2 ∧ CLS w2 (gndR s.1 a1 a2, s.2) ∧ ∀ a, 111 ≤ a → w2[a]? = w[a]?) := by
  exact (Z6 hI s.1 hC.1.1 a1 a2).mono9 (fun r w2 z => ⟨z.1.1, z.2.1, hC.row hI z.1.2 z.2.2, fun a ha => z.2.2 a (by unfold oc; omega)⟩)
theorem r130 {xs : Option (List Int32)} {d : Nat} {w : List sx_C} {s : ST} (hI : WI w) (hR : REF w s) (a1 a2 : Int32) : sx_RP xs (d + 7) 130 0 (lv_args 0 [.ref 111, .int a1, .int a2]) [] w (fun r w2 => r = some (.int (gndA s.1 a1 a2)) ∧ WI w2 ∧ REF w2 (gndR s.1 a1 a2, s.2) ∧ ∀ a, a < 111 → w2[a]? = w[a]?) := by
  refine (Y130 hI a1 a2).mono9 (fun r w2 z => ⟨?_, z.2.1, hR.row ?_ z.2.2, fun a ha => z.2.2 a (by unfold ocm; omega)⟩)
  · rw [z.1.1, hR.1.1]
  · rw [z.1.2, hR.1.1]
theorem c28 {xs : Option (List Int32)} {d : Nat} {w : List sx_C} {s : ST} (hI : WI w) (hC : CLS w s) (a1 a2 : Int32) : sx_RP xs (d + 7) 28 0 (lv_args 0 [.ref 0, .int a1, .int a2]) [] w (fun r w2 => r = some (.int (turA s.1 a1 a2)) ∧ WI w2 ∧ CLS w2 (turR s.1 a1 a2, s.2) ∧ ∀ a, 111 ≤ a → w2[a]? = w[a]?) := by
  exact (Z28 hI s.1 hC.1.1 a1 a2).mono9 (fun r w2 z => ⟨z.1.1, z.2.1, hC.row hI z.1.2 z.2.2, fun a ha => z.2.2 a (by unfold oc; omega)⟩)
theorem r157 {xs : Option (List Int32)} {d : Nat} {w : List sx_C} {s : ST} (hI : WI w) (hR : REF w s) (a1 a2 : Int32) : sx_RP xs (d + 7) 157 0 (lv_args 0 [.ref 111, .int a1, .int a2]) [] w (fun r w2 => r = some (.int (turA s.1 a1 a2)) ∧ WI w2 ∧ REF w2 (turR s.1 a1 a2, s.2) ∧ ∀ a, a < 111 → w2[a]? = w[a]?) := by
  refine (Y157 hI a1 a2).mono9 (fun r w2 z => ⟨?_, z.2.1, hR.row ?_ z.2.2, fun a ha => z.2.2 a (by unfold ocm; omega)⟩)
  · rw [z.1.1, hR.1.1]
  · rw [z.1.2, hR.1.1]
theorem c29 {xs : Option (List Int32)} {d : Nat} {w : List sx_C} {s : ST} (hI : WI w) (hC : CLS w s) (a1 a2 : Int32) : sx_RP xs (d + 7) 29 0 (lv_args 0 [.ref 0, .int a1, .int a2]) [] w (fun r w2 => r = some (.int (bec2A s.1 a1 a2)) ∧ WI w2 ∧ CLS w2 (bec2R s.1 a1 a2, s.2) ∧ ∀ a, 111 ≤ a → w2[a]? = w[a]?) := by
  exact (Z29 hI s.1 hC.1.1 a1 a2).mono9 (fun r w2 z => ⟨z.1.1, z.2.1, hC.row hI z.1.2 z.2.2, fun a ha => z.2.2 a (by unfold oc; omega)⟩)
theorem r158 {xs : Option (List Int32)} {d : Nat} {w : List sx_C} {s : ST} (hI : WI w) (hR : REF w s) (a1 a2 : Int32) : sx_RP xs (d + 7) 158 0 (lv_args 0 [.ref 111, .int a1, .int a2]) [] w (fun r w2 => r = some (.int (bec2A s.1 a1 a2)) ∧ WI w2 ∧ REF w2 (bec2R s.1 a1 a2, s.2) ∧ ∀ a, a < 111 → w2[a]? = w[a]?) := by
  refine (Y158 hI a1 a2).mono9 (fun r w2 z => ⟨?_, z.2.1, hR.row ?_ z.2.2, fun a ha => z.2.2 a (by unfold ocm; omega)⟩)
  · rw [z.1.1, hR.1.1]
  · rw [z.1.2, hR.1.1]
theorem c21 {xs : Option (List Int32)} {d : Nat} {w : List sx_C} {s : ST} (hI : WI w) (hC : CLS w s) (a1 a2 a3 a4 : Int32) : sx_RP xs (d + 7) 21 0 (lv_args 0 [.ref 0, .int a1, .int a2, .int a3, .int a4]) [] w (fun r w2 => r = some (.int (gal2A s.1 a1 a2 a3 a4)) ∧ WI w2 ∧ CLS w2 (gal2R s.1 a1 a2 a3 a4, s.2) ∧ ∀ a, 111 ≤ a → w2[a]? = w[a]?) := by
  exact (Z21 hI s.1 hC.1.1 a1 a2 a3 a4).mono9 (fun r w2 z => ⟨z.1.1, z.2.1, hC.row hI z.1.2 z.2.2, fun a ha => z.2.2 a (by unfold oc; omega)⟩)
theorem r150 {xs : Option (List Int32)} {d : Nat} {w : List sx_C} {s : ST} (hI : WI w) (hR : REF w s) (a1 a2 a3 a4 : Int32) : sx_RP xs (d + 7) 150 0 (lv_args 0 [.ref 111, .int a1, .int a2, .int a3, .int a4]) [] w (fun r w2 => r = some (.int (gal2A s.1 a1 a2 a3 a4)) ∧ WI w2 ∧ REF w2 (gal2R s.1 a1 a2 a3 a4, s.2) ∧ ∀ a, a < 111 → w2[a]? = w[a]?) := by
  refine (Y150 hI a1 a2 a3 a4).mono9 (fun r w2 z => ⟨?_, z.2.1, hR.row ?_ z.2.2, fun a ha => z.2.2 a (by unfold ocm; omega)⟩)
  · rw [z.1.1, hR.1.1]
  · rw [z.1.2, hR.1.1]
theorem c62 {xs : Option (List Int32)} {d : Nat} {w : List sx_C} {s : ST} (hI : WI w) (hC : CLS w s) (a1 : Int32) : sx_RP xs (d + 7) 62 0 (lv_args 0 [.ref 0, .int a1]) [] w (fun r w2 => r = some (.int (dis2A s.1 a1)) ∧ WI w2 ∧ CLS w2 (dis2R s.1 a1, s.2) ∧ ∀ a, 111 ≤ a → w2[a]? = w[a]?) := by
  exact (Z62 hI s.1 hC.1.1 a1).mono9 (fun r w2 z => ⟨z.1.1, z.2.1, hC.row hI z.1.2 z.2.2, fun a ha => z.2.2 a (by unfold oc; omega)⟩)
theorem r184 {xs : Option (List Int32)} {d : Nat} {w : List sx_C} {s : ST} (hI : WI w) (hR : REF w s) (a1 : Int32) : sx_RP xs (d + 7) 184 0 (lv_args 0 [.ref 111, .int a1]) [] w (fun r w2 => r = some (.int (dis2A s.1 a1)) ∧ WI w2 ∧ REF w2 (dis2R s.1 a1, s.2) ∧ ∀ a, a < 111 → w2[a]? = w[a]?) := by
  refine (Y184 hI a1).mono9 (fun r w2 z => ⟨?_, z.2.1, hR.row ?_ z.2.2, fun a ha => z.2.2 a (by unfold ocm; omega)⟩)
  · rw [z.1.1, hR.1.1]
  · rw [z.1.2, hR.1.1]
theorem c65 {xs : Option (List Int32)} {d : Nat} {w : List sx_C} {s : ST} (hI : WI w) (hC : CLS w s) (a1 a2 : Int32) : sx_RP xs (d + 7) 65 0 (lv_args 0 [.ref 0, .int a1, .int a2]) [] w (fun r w2 => r = some (.int (mov2A s.1 a1 a2)) ∧ WI w2 ∧ CLS w2 (mov2R s.1 a1 a2, s.2) ∧ ∀ a, 111 ≤ a → w2[a]? = w[a]?) := by
  exact (Z65 hI s.1 hC.1.1 a1 a2).mono9 (fun r w2 z => ⟨z.1.1, z.2.1, hC.row hI z.1.2 z.2.2, fun a ha => z.2.2 a (by unfold oc; omega)⟩)
theorem r185 {xs : Option (List Int32)} {d : Nat} {w : List sx_C} {s : ST} (hI : WI w) (hR : REF w s) (a1 a2 : Int32) : sx_RP xs (d + 7) 185 0 (lv_args 0 [.ref 111, .int a1, .int a2]) [] w (fun r w2 => r = some (.int (mov2A s.1 a1 a2)) ∧ WI w2 ∧ REF w2 (mov2R s.1 a1 a2, s.2) ∧ ∀ a, a < 111 → w2[a]? = w[a]?) := by
  refine (Y185 hI a1 a2).mono9 (fun r w2 z => ⟨?_, z.2.1, hR.row ?_ z.2.2, fun a ha => z.2.2 a (by unfold ocm; omega)⟩)
  · rw [z.1.1, hR.1.1]
  · rw [z.1.2, hR.1.1]
theorem c82 {xs : Option (List Int32)} {d : Nat} {w : List sx_C} {s : ST} (hI : WI w) (hC : CLS w s) (a1 a2 : Int32) : sx_RP xs (d + 7) 82 0 (lv_args 0 [.ref 0, .int a1, .int a2]) [] w (fun r w2 => r = some (.int (bre2A s.1 a1 a2)) ∧ WI w2 ∧ CLS w2 (bre2R s.1 a1 a2, s.2) ∧ ∀ a, 111 ≤ a → w2[a]? = w[a]?) := by
  exact (Z82 hI s.1 hC.1.1 a1 a2).mono9 (fun r w2 z => ⟨z.1.1, z.2.1, hC.row hI z.1.2 z.2.2, fun a ha => z.2.2 a (by unfold oc; omega)⟩)
theorem r203 {xs : Option (List Int32)} {d : Nat} {w : List sx_C} {s : ST} (hI : WI w) (hR : REF w s) (a1 a2 : Int32) : sx_RP xs (d + 7) 203 0 (lv_args 0 [.ref 111, .int a1, .int a2]) [] w (fun r w2 => r = some (.int (bre2A s.1 a1 a2)) ∧ WI w2 ∧ REF w2 (bre2R s.1 a1 a2, s.2) ∧ ∀ a, a < 111 → w2[a]? = w[a]?) := by
  refine (Y203 hI a1 a2).mono9 (fun r w2 z => ⟨?_, z.2.1, hR.row ?_ z.2.2, fun a ha => z.2.2 a (by unfold ocm; omega)⟩)
  · rw [z.1.1, hR.1.1]
  · rw [z.1.2, hR.1.1]
theorem c39 {xs : Option (List Int32)} {d : Nat} {w : List sx_C} {s : ST} (hI : WI w) (hC : CLS w s) (a1 : Int32) : sx_RP xs (d + 7) 39 0 (lv_args 0 [.ref 0, .int a1]) [] w (fun r w2 => r = some (.int (ntsA s.1 a1)) ∧ WI w2 ∧ CLS w2 (ntsR s.1 a1, s.2) ∧ ∀ a, 111 ≤ a → w2[a]? = w[a]?) := by
  exact (Z39 hI s.1 hC.1.1 a1).mono9 (fun r w2 z => ⟨z.1.1, z.2.1, hC.row hI z.1.2 z.2.2, fun a ha => z.2.2 a (by unfold oc; omega)⟩)
theorem r164 {xs : Option (List Int32)} {d : Nat} {w : List sx_C} {s : ST} (hI : WI w) (hR : REF w s) (hW : WB s.1) (a1 : Int32) : sx_RP xs (d + 7) 164 0 (lv_args 0 [.ref 111, .int a1]) [] w (fun r w2 => r = some (.int (ntsA s.1 a1)) ∧ WI w2 ∧ REF w2 (ntsR s.1 a1, s.2) ∧ ∀ a, a < 111 → w2[a]? = w[a]?) := by
  refine (Y164 hI (by rw [hR.1.1]; exact hW) a1).mono9 (fun r w2 z => ⟨?_, z.2.1, hR.row ?_ z.2.2, fun a ha => z.2.2 a (by unfold ocm; omega)⟩)
  · rw [z.1.1, hR.1.1]
  · rw [z.1.2, hR.1.1]
theorem c79 {xs : Option (List Int32)} {d : Nat} {w : List sx_C} {s : ST} (hI : WI w) (hC : CLS w s) (a1 a2 : Int32) : sx_RP xs (d + 7) 79 0 (lv_args 0 [.ref 0, .int a1, .int a2]) [] w (fun r w2 => r = some (.int (blwA s.1 a1 a2)) ∧ WI w2 ∧ CLS w2 (blwR s.1 a1 a2, s.2) ∧ ∀ a, 111 ≤ a → w2[a]? = w[a]?) := by
  exact (Z79 hI s.1 hC.1.1 a1 a2).mono9 (fun r w2 z => ⟨z.1.1, z.2.1, hC.row hI z.1.2 z.2.2, fun a ha => z.2.2 a (by unfold oc; omega)⟩)
theorem r201 {xs : Option (List Int32)} {d : Nat} {w : List sx_C} {s : ST} (hI : WI w) (hR : REF w s) (a1 a2 : Int32) : sx_RP xs (d + 7) 201 0 (lv_args 0 [.ref 111, .int a1, .int a2]) [] w (fun r w2 => r = some (.int (blwA s.1 a1 a2)) ∧ WI w2 ∧ REF w2 (blwR s.1 a1 a2, s.2) ∧ ∀ a, a < 111 → w2[a]? = w[a]?) := by
  refine (Y201 hI a1 a2).mono9 (fun r w2 z => ⟨?_, z.2.1, hR.row ?_ z.2.2, fun a ha => z.2.2 a (by unfold ocm; omega)⟩)
  · rw [z.1.1, hR.1.1]
  · rw [z.1.2, hR.1.1]
theorem c10_0 {xs : Option (List Int32)} {d : Nat} {w : List sx_C} {s : ST} (hI : WI w) (hC : CLS w s) (a1 : Int32) : sx_RP xs (d + 7) 10 0 (lv_args 0 [.ref 0, .int a1, .int 0]) [] w (fun r w2 => r = some (.int (walA s.1 a1 0)) ∧ WI w2 ∧ CLS w2 (walR s.1 a1 0, s.2) ∧ ∀ a, 111 ≤ a → w2[a]? = w[a]?) := by
  exact (Z10_0 hI s.1 hC.1.1 a1).mono9 (fun r w2 z => ⟨z.1.1, z.2.1, hC.row hI z.1.2 z.2.2, fun a ha => z.2.2 a (by unfold oc; omega)⟩)
theorem r134_0 {xs : Option (List Int32)} {d : Nat} {w : List sx_C} {s : ST} (hI : WI w) (hR : REF w s) (a1 : Int32) : sx_RP xs (d + 7) 134 0 (lv_args 0 [.ref 111, .int a1, .int 0]) [] w (fun r w2 => r = some (.int (walA s.1 a1 0)) ∧ WI w2 ∧ REF w2 (walR s.1 a1 0, s.2) ∧ ∀ a, a < 111 → w2[a]? = w[a]?) := by
  refine (Y134_0 hI a1).mono9 (fun r w2 z => ⟨?_, z.2.1, hR.row ?_ z.2.2, fun a ha => z.2.2 a (by unfold ocm; omega)⟩)
  · rw [z.1.1, hR.1.1]
  · rw [z.1.2, hR.1.1]
theorem c10_1 {xs : Option (List Int32)} {d : Nat} {w : List sx_C} {s : ST} (hI : WI w) (hC : CLS w s) (a1 : Int32) : sx_RP xs (d + 7) 10 0 (lv_args 0 [.ref 0, .int a1, .int 1]) [] w (fun r w2 => r = some (.int (walA s.1 a1 1)) ∧ WI w2 ∧ CLS w2 (walR s.1 a1 1, s.2) ∧ ∀ a, 111 ≤ a → w2[a]? = w[a]?) := by
  exact (Z10_1 hI s.1 hC.1.1 a1).mono9 (fun r w2 z => ⟨z.1.1, z.2.1, hC.row hI z.1.2 z.2.2, fun a ha => z.2.2 a (by unfold oc; omega)⟩)
theorem r134_1 {xs : Option (List Int32)} {d : Nat} {w : List sx_C} {s : ST} (hI : WI w) (hR : REF w s) (a1 : Int32) : sx_RP xs (d + 7) 134 0 (lv_args 0 [.ref 111, .int a1, .int 1]) [] w (fun r w2 => r = some (.int (walA s.1 a1 1)) ∧ WI w2 ∧ REF w2 (walR s.1 a1 1, s.2) ∧ ∀ a, a < 111 → w2[a]? = w[a]?) := by
  refine (Y134_1 hI a1).mono9 (fun r w2 z => ⟨?_, z.2.1, hR.row ?_ z.2.2, fun a ha => z.2.2 a (by unfold ocm; omega)⟩)
  · rw [z.1.1, hR.1.1]
  · rw [z.1.2, hR.1.1]
theorem c120 {xs : Option (List Int32)} {d : Nat} {w : List sx_C} {s : ST} (hI : WI w) (hC : CLS w s) (a1 a2 : Int32) : sx_RP xs (d + 7) 120 0 (lv_args 0 [.ref 0, .int a1, .int a2]) [] w (fun r w2 => r = some (.int (lysA s.2.2.2.2.1 s.2.2.2.2.2 s.1 a1 a2)) ∧ WI w2 ∧ CLS w2 (lysR s.2.2.2.2.1 s.2.2.2.2.2 s.1 a1 a2, s.2) ∧ ∀ a, 111 ≤ a → w2[a]? = w[a]?) := by
  have z0 := Z120 (xs := xs) (d := d) hI s.1 hC.1.1 a1 a2
  rw [hC.2.1.2.1, hC.2.1.2.2] at z0
  exact z0.mono9 (fun r w2 z => ⟨z.1.1, z.2.1, hC.row hI z.1.2 z.2.2, fun a ha => z.2.2 a (by unfold oc; omega)⟩)
theorem r235 {xs : Option (List Int32)} {d : Nat} {w : List sx_C} {s : ST} (hI : WI w) (hR : REF w s) (a1 a2 : Int32) : sx_RP xs (d + 7) 235 0 (lv_args 0 [.ref 111, .int a1, .int a2]) [] w (fun r w2 => r = some (.int (lysA s.2.2.2.2.1 s.2.2.2.2.2 s.1 a1 a2)) ∧ WI w2 ∧ REF w2 (lysR s.2.2.2.2.1 s.2.2.2.2.2 s.1 a1 a2, s.2) ∧ ∀ a, a < 111 → w2[a]? = w[a]?) := by
  have z0 := Y235 (xs := xs) (d := d) hI a1 a2
  rw [hR.2.2.1, hR.2.2.2, hR.1.1] at z0
  exact z0.mono9 (fun r w2 z => ⟨z.1.1, z.2.1, hR.row z.1.2 z.2.2, fun a ha => z.2.2 a (by unfold ocm; omega)⟩)
theorem c115 {xs : Option (List Int32)} {d : Nat} {w : List sx_C} {s : ST} (hI : WI w) (hC : CLS w s) (a1 a2 : Int32) (v : Int64) : sx_RP xs (d + 7) 115 0 (lv_args 0 [.ref 0, .int a1, .int a2, .long v]) [] w (fun r w2 => r = some (.long (wrA s.2.2.2.2.1 s.2.2.2.2.2 a1 a2)) ∧ WI w2 ∧ CLS w2 (s.1, s.2.1, s.2.2.1, s.2.2.2.1, s.2.2.2.2.1, wrR s.2.2.2.2.1 s.2.2.2.2.2 a1 a2 v) ∧ ∀ a, 111 ≤ a → w2[a]? = w[a]?) := by
  have z0 := Z115 (xs := xs) (d := d) hI a1 a2 v
  rw [hC.2.1.2.1, hC.2.1.2.2] at z0
  exact z0.mono9 (fun r w2 z => ⟨z.1.1, z.2.1, hC.sh hI z.1.2.2 z.1.2.1 (hC.2.2.same (fun a _ _ => z.2.2 a (by omega) (by omega))) (fun a ha => z.2.2 a (by omega) (by omega)), fun a ha => z.2.2 a (by omega) (by omega)⟩)
theorem r232 {xs : Option (List Int32)} {d : Nat} {w : List sx_C} {s : ST} (hI : WI w) (hR : REF w s) (a1 a2 : Int32) (v : Int64) : sx_RP xs (d + 7) 232 0 (lv_args 0 [.ref 111, .int a1, .int a2, .long v]) [] w (fun r w2 => r = some (.long (wrA s.2.2.2.2.1 s.2.2.2.2.2 a1 a2)) ∧ WI w2 ∧ REF w2 (s.1, s.2.1, s.2.2.1, s.2.2.2.1, s.2.2.2.2.1, wrR s.2.2.2.2.1 s.2.2.2.2.2 a1 a2 v) ∧ ∀ a, a < 111 → w2[a]? = w[a]?) := by
  have z0 := Y232 (xs := xs) (d := d) hI a1 a2 v
  rw [hR.2.2.1, hR.2.2.2] at z0
  exact z0.mono9 (fun r w2 z => ⟨z.1.1, z.2.1, hR.sh z.1.2.2 z.1.2.1 (fun a ha => z.2.2 a (by omega) (by omega)), fun a ha => z.2.2 a (by omega) (by omega)⟩)
theorem c118 {xs : Option (List Int32)} {d : Nat} {w : List sx_C} {s : ST} (hI : WI w) (hC : CLS w s) (a1 a2 a3 a4 a5 : Int32) : sx_RP xs (d + 7) 118 0 (lv_args 0 [.ref 0, .int a1, .int a2, .int a3, .int a4, .int a5]) [] w (fun r w2 => r = some (.int (cpAns s.2.2.2.2.1 a1 a2 a3 a4 a5)) ∧ WI w2 ∧ CLS w2 (s.1, s.2.1, s.2.2.1, s.2.2.2.1, s.2.2.2.2.1, cpR s.2.2.2.2.1 s.2.2.2.2.2 a1 a2 a3 a4 a5) ∧ ∀ a, 111 ≤ a → w2[a]? = w[a]?) := by
  have z0 := Z118 (xs := xs) (d := d) hI a1 a2 a3 a4 a5
  rw [hC.2.1.2.1, hC.2.1.2.2] at z0
  exact z0.mono9 (fun r w2 z => ⟨z.1.1, z.2.1, hC.sh hI z.1.2.2 z.1.2.1 (hC.2.2.same (fun a _ _ => z.2.2 a (by omega) (by omega))) (fun a ha => z.2.2 a (by omega) (by omega)), fun a ha => z.2.2 a (by omega) (by omega)⟩)
theorem r234 {xs : Option (List Int32)} {d : Nat} {w : List sx_C} {s : ST} (hI : WI w) (hR : REF w s) (a1 a2 a3 a4 a5 : Int32) : sx_RP xs (d + 7) 234 0 (lv_args 0 [.ref 111, .int a1, .int a2, .int a3, .int a4, .int a5]) [] w (fun r w2 => r = some (.int (cpAns s.2.2.2.2.1 a1 a2 a3 a4 a5)) ∧ WI w2 ∧ REF w2 (s.1, s.2.1, s.2.2.1, s.2.2.2.1, s.2.2.2.2.1, cpR s.2.2.2.2.1 s.2.2.2.2.2 a1 a2 a3 a4 a5) ∧ ∀ a, a < 111 → w2[a]? = w[a]?) := by
  have z0 := Y234 (xs := xs) (d := d) hI a1 a2 a3 a4 a5
  rw [hR.2.2.1, hR.2.2.2] at z0
  exact z0.mono9 (fun r w2 z => ⟨z.1.1, z.2.1, hR.sh z.1.2.2 z.1.2.1 (fun a ha => z.2.2 a (by omega) (by omega) (by omega)), fun a ha => z.2.2 a (by omega) (by omega) (by omega)⟩)
theorem c121 {xs : Option (List Int32)} {d : Nat} {w : List sx_C} {s : ST} (hI : WI w) (hC : CLS w s) (a1 : Int32) : sx_RP xs (d + 7) 121 0 (lv_args 0 [.ref 0, .int a1]) [] w (fun r w2 => r = some (.int (bokA s.2.2.2.2.1 s.1 a1)) ∧ WI w2 ∧ CLS w2 (s.1, s.2.1, s.2.2.1, s.2.2.2.1, s.2.2.2.2.1, bokR s.2.2.2.2.1 s.2.2.2.2.2 s.1 a1) ∧ ∀ a, 111 ≤ a → w2[a]? = w[a]?) := by
  have z0 := Z121 (xs := xs) (d := d) hI s.1 hC.1.1 hC.2.2 a1
  rw [hC.2.1.2.1, hC.2.1.2.2] at z0
  exact z0.mono9 (fun r w2 z => ⟨z.1.1, z.2.1, hC.sh hI z.1.2.2 z.1.2.1 z.2.2.1 (fun a ha => z.2.2.2 a (by omega) (by omega)), fun a ha => z.2.2.2 a (by omega) (by omega)⟩)
theorem r236 {xs : Option (List Int32)} {d : Nat} {w : List sx_C} {s : ST} (hI : WI w) (hR : REF w s) (a1 : Int32) : sx_RP xs (d + 7) 236 0 (lv_args 0 [.ref 111, .int a1]) [] w (fun r w2 => r = some (.int (bokA s.2.2.2.2.1 s.1 a1)) ∧ WI w2 ∧ REF w2 (s.1, s.2.1, s.2.2.1, s.2.2.2.1, s.2.2.2.2.1, bokR s.2.2.2.2.1 s.2.2.2.2.2 s.1 a1) ∧ ∀ a, a < 111 → w2[a]? = w[a]?) := by
  have z0 := Y236 (xs := xs) (d := d) hI a1
  rw [hR.2.2.1, hR.2.2.2, hR.1.1] at z0
  exact z0.mono9 (fun r w2 z => ⟨z.1.1, z.2.1, hR.sh z.1.2.2 z.1.2.1 (fun a ha => z.2.2 a (by omega) (by omega) (by omega) (by omega)), fun a ha => z.2.2 a (by omega) (by omega) (by omega) (by omega)⟩)
theorem c92 {xs : Option (List Int32)} {d : Nat} {w : List sx_C} {s : ST} (hI : WI w) (hC : CLS w s) (hY : TBy w) : sx_RP xs (d + 7) 92 0 (lv_args 0 [.ref 0]) [] w (fun r w2 => r = some (.int (sieV s.2.2.2.1 s.1).1) ∧ WI w2 ∧ CLS w2 (sieR s.2.2.2.1 s.1, s.2.1, s.2.2.1, [], s.2.2.2.2) ∧ ∀ a, 111 ≤ a → w2[a]? = w[a]?) := by
  have z0 := Z92 (xs := xs) (d := d) hI s.1 hC.1.1 hY
  rw [hC.2.1.1] at z0
  exact z0.mono9 (fun r w2 z => ⟨z.1.1, z.2.1, hC.tp hI z.1.2.1 z.1.2.2 (fun a ha => z.2.2 a (by omega) (by omega)), fun a ha => z.2.2 a (by omega) (by omega)⟩)
theorem r210 {xs : Option (List Int32)} {d : Nat} {w : List sx_C} {s : ST} (hI : WI w) (hR : REF w s) (hT : TT s.2.2.2.1) : sx_RP xs (d + 8) 210 0 (lv_args 0 [.ref 111]) [] w (fun r w2 => r = some (.int (sieV s.2.2.2.1 s.1).1) ∧ WI w2 ∧ REF w2 (sieR s.2.2.2.1 s.1, s.2.1, s.2.2.1, [], s.2.2.2.2) ∧ ∀ a, a < 111 → w2[a]? = w[a]?) := by
  have z0 := Y210 (xs := xs) (d := d) hI (show TT (tapM w) by rw [hR.2.1]; exact hT)
  rw [hR.2.1, hR.1.1] at z0
  exact z0.mono9 (fun r w2 z => ⟨z.1.1, z.2.1, hR.tp z.1.2.1 z.1.2.2.1 (z.1.2.2.2 4 (by decide)) (fun a ha => z.2.2 a (by omega) (by omega) (by omega)), fun a ha => z.2.2 a (by omega) (by omega) (by omega)⟩)
theorem c90 {xs : Option (List Int32)} {d : Nat} {w : List sx_C} {s : ST} (hI : WI w) (hC : CLS w s) : sx_RP xs (d + 7) 90 0 (lv_args 0 [.ref 0]) [] w (fun r w2 => r = some (.int (nI s.2.2.2.1.length)) ∧ WI w2 ∧ CLS w2 (s.1, s.2.1, s.2.2.1, [], s.2.2.2.2) ∧ ∀ a, 111 ≤ a → w2[a]? = w[a]?) := by
  obtain ⟨n, hn, en⟩ := hI.t.1
  refine (Z90 (xs := xs) (d := d) hI).mono9 (fun r w2 z => ⟨?_, z.2.1, hC.tp hI (hC.1.1.same hI isA1 (fun a _ _ => z.2.2 a (by omega))) z.1.2 (fun a ha => z.2.2 a (by omega)), fun a ha => z.2.2 a (by omega)⟩)
  rw [z.1.1, ← hC.2.1.1, show (tapC w).length = n from tapC_len en hn, en]
theorem r209 {xs : Option (List Int32)} {d : Nat} {w : List sx_C} {s : ST} (hI : WI w) (hR : REF w s) : sx_RP xs (d + 7) 209 0 (lv_args 0 [.ref 111]) [] w (fun r w2 => r = some (.int (nI s.2.2.2.1.length)) ∧ WI w2 ∧ REF w2 (s.1, s.2.1, s.2.2.1, [], s.2.2.2.2) ∧ ∀ a, a < 111 → w2[a]? = w[a]?) := by
  obtain ⟨n, hn, en⟩ := hI.m.2.1
  refine (Y209 (xs := xs) (d := d) hI).mono9 (fun r w2 z => ⟨?_, z.2.1, hR.tp ((ia_of (z.2.2 112 (by omega))).trans hR.1.1) z.1.2.1 z.1.2.2 (fun a ha => z.2.2 a (by omega)), fun a ha => z.2.2 a (by omega)⟩)
  rw [z.1.1, ← hR.2.1, show (tapM w).length = n from tapM_len9 en hn, en]
theorem c87 {xs : Option (List Int32)} {d : Nat} {w : List sx_C} {s : ST} (hI : WI w) (hC : CLS w s) (a1 a2 : Int32) : sx_RP xs (d + 7) 87 0 (lv_args 0 [.ref 0, .int a1, .int a2]) [] w (fun r w2 => r = some (.int (feedA s.2.2.2.1.length a2)) ∧ WI w2 ∧ CLS w2 (s.1, s.2.1, s.2.2.1, feT s.2.2.2.1 a1 a2, s.2.2.2.2) ∧ ∀ a, 111 ≤ a → w2[a]? = w[a]?) := by
  refine ((B87 (xs := xs) (d := d) hI a1 a2).and (F87 hI a1 a2)).mono9 (fun r w2 z => ⟨?_, z.2.1, hC.tp hI (hC.1.1.same hI isA1 (fun a _ _ => z.2.2 a (by omega) (by omega) (by omega))) ?_ (fun a ha => z.2.2 a (by omega) (by omega) (by omega)), fun a ha => z.2.2 a (by omega) (by omega) (by omega)⟩)
  · rw [z.1.1.1, ← hC.2.1.1]
    rfl
  · rw [← hC.2.1.1]
    exact (congrArg (fun t : BT => t.2.2.2) z.1.1.2).trans (fe_T _ _ _)
theorem r208 {xs : Option (List Int32)} {d : Nat} {w : List sx_C} {s : ST} (hI : WI w) (hR : REF w s) (a1 a2 : Int32) : sx_RP xs (d + 7) 208 0 (lv_args 0 [.ref 111, .int a1, .int a2]) [] w (fun r w2 => r = some (.int (feedA s.2.2.2.1.length a2)) ∧ WI w2 ∧ REF w2 (s.1, s.2.1, s.2.2.1, feT s.2.2.2.1 a1 a2, s.2.2.2.2) ∧ ∀ a, a < 111 → w2[a]? = w[a]?) := by
  refine ((B208 (xs := xs) (d := d) hI a1 a2).and (F208 hI a1 a2)).mono9 (fun r w2 z => ⟨?_, z.2.1, hR.tp ((ia_of (z.2.2.2 112 (by omega) (by omega) (by omega))).trans hR.1.1) ?_ z.2.2.1 (fun a ha => z.2.2.2 a (by omega) (by omega) (by omega)), fun a ha => z.2.2.2 a (by omega) (by omega) (by omega)⟩)
  · rw [z.1.1.1, ← hR.2.1]
    rfl
  · rw [← hR.2.1]
    exact (congrArg (fun t : BT => t.2.2.2) z.1.1.2).trans (fe_T _ _ _)
theorem c124 {xs : Option (List Int32)} {d : Nat} {w : List sx_C} {s : ST} (hI : WI w) (hC : CLS w s) : sx_RP xs (d + 7) 124 0 (lv_args 0 [.ref 0]) [] w (fun r w2 => r = some (.int 1) ∧ WI w2 ∧ CLS w2 (s.1, 1, s.1, s.2.2.2) ∧ ∀ a, 111 ≤ a → w2[a]? = w[a]?) := by
  exact (Z124 (xs := xs) (d := d) hI).mono9 (fun r w2 z => ⟨z.1.1, z.2.1, ⟨⟨hC.1.1.same hI isA1 (fun a _ _ => z.2.2 a (by omega) (by omega)), z.1.2.1, fun _ => z.1.2.2 _ hC.1.1⟩, ⟨(tapC_eq (z.2.2 96 (by omega) (by omega)) (z.2.2 97 (by omega) (by omega))).trans hC.2.1.1, (FCs_eq (fun q hq => z.2.2 _ (by omega) (by omega))).trans hC.2.1.2.1, (NCs_eq (fun q hq => z.2.2 _ (by omega) (by omega))).trans hC.2.1.2.2⟩, hC.2.2.same (fun a _ _ => z.2.2 a (by omega) (by omega))⟩, fun a ha => z.2.2 a (by omega) (by omega)⟩)
theorem r240 {xs : Option (List Int32)} {d : Nat} {w : List sx_C} {s : ST} (hI : WI w) (hR : REF w s) : sx_RP xs (d + 7) 240 0 (lv_args 0 [.ref 111]) [] w (fun r w2 => r = some (.int 1) ∧ WI w2 ∧ REF w2 (s.1, 1, s.1, s.2.2.2) ∧ ∀ a, a < 111 → w2[a]? = w[a]?) := by
  exact (Y240 (xs := xs) (d := d) hI).mono9 (fun r w2 z => ⟨z.1.1, z.2.1, ⟨⟨(ia_of (z.2.2 112 (by omega) (by omega))).trans hR.1.1, z.1.2.1, fun _ => z.1.2.2.1.trans hR.1.1⟩, ⟨(tapM_eq z.1.2.2.2 (z.2.2 121 (by omega) (by omega))).trans hR.2.1, (FMs_eq (z.2.2 122 (by omega) (by omega)) (z.2.2 123 (by omega) (by omega))).trans hR.2.2.1, (NMs_eq (z.2.2 124 (by omega) (by omega))).trans hR.2.2.2⟩⟩, fun a ha => z.2.2 a (by omega) (by omega)⟩)
theorem c125 {xs : Option (List Int32)} {d : Nat} {w : List sx_C} {s : ST} (hI : WI w) (hC : CLS w s) : sx_RP xs (d + 7) 125 0 (lv_args 0 [.ref 0]) [] w (fun r w2 => r = some (.int (if s.2.1 = 1 then s.2.2.1.getD 1 0 else -1000000004)) ∧ WI w2 ∧ CLS w2 (if s.2.1 = 1 then s.2.2.1 else s.1, s.2) ∧ ∀ a, 111 ≤ a → w2[a]? = w[a]?) := by
  rcases keeps_01 hI with ek | ek
  · have e0 : ¬ s.2.1 = 1 := by rw [← hC.1.2.1, ek]; decide
    rw [if_neg e0, if_neg e0]
    exact (Z125_0 (xs := xs) (d := d) hI ek).mono9 (fun r w2 z => ⟨z.1, z.2.1, hC.fr hI (fun a ha => z.2.2 a (by omega)) (fun k => k.same (fun a _ _ => z.2.2 a (by omega))), fun a ha => z.2.2 a (by omega)⟩)
  · have e1 : s.2.1 = 1 := by rw [← hC.1.2.1, ek]
    rw [if_pos e1, if_pos e1]
    exact (Z125_1 (xs := xs) (d := d) hI ek).mono9 (fun r w2 z => ⟨by rw [z.1.1, (hC.1.2.2 e1).many], z.2.1, hC.row hI (z.1.2 _ (hC.1.2.2 e1)) z.2.2.eo, fun a ha => z.2.2 a (by omega)⟩)
theorem r241 {xs : Option (List Int32)} {d : Nat} {w : List sx_C} {s : ST} (hI : WI w) (hR : REF w s) : sx_RP xs (d + 7) 241 0 (lv_args 0 [.ref 111]) [] w (fun r w2 => r = some (.int (if s.2.1 = 1 then s.2.2.1.getD 1 0 else -1000000004)) ∧ WI w2 ∧ REF w2 (if s.2.1 = 1 then s.2.2.1 else s.1, s.2) ∧ ∀ a, a < 111 → w2[a]? = w[a]?) := by
  rcases kept_01 hI with ek | ek
  · have e0 : ¬ s.2.1 = 1 := by rw [← hR.1.2.1, ek]; decide
    rw [if_neg e0, if_neg e0]
    exact (Y241_0 (xs := xs) (d := d) hI ek).mono9 (fun r w2 z => ⟨z.1, z.2.1, hR.fr (ia_of (z.2.2 112 (by omega))) (fun a ha => z.2.2 a (by omega)), fun a ha => z.2.2 a (by omega)⟩)
  · have e1 : s.2.1 = 1 := by rw [← hR.1.2.1, ek]
    rw [if_pos e1, if_pos e1]
    exact (Y241_1 (xs := xs) (d := d) hI ek).mono9 (fun r w2 z => ⟨by rw [z.1.1, hR.1.2.2 e1], z.2.1, hR.row (z.1.2.trans (hR.1.2.2 e1)) (fun a ha => z.2.2 a (by unfold ocm at ha; omega)), fun a ha => z.2.2 a (by omega)⟩)
theorem c126 {xs : Option (List Int32)} {d : Nat} {w : List sx_C} {s : ST} (hI : WI w) (hC : CLS w s) : sx_RP xs (d + 7) 126 0 (lv_args 0 [.ref 0]) [] w (fun r w2 => r = some (.int s.2.1) ∧ WI w2 ∧ CLS w2 (s.1, 0, s.2.2) ∧ ∀ a, 111 ≤ a → w2[a]? = w[a]?) := by
  exact (Z126 (xs := xs) (d := d) hI).mono9 (fun r w2 z => ⟨by rw [z.1.1, hC.1.2.1], z.2.1, ⟨⟨hC.1.1.same hI isA1 (fun a _ _ => z.2.2 a (by omega)), z.1.2, fun k => absurd (show (0 : Int32) = 1 from k) (by decide)⟩, ⟨(tapC_eq (z.2.2 96 (by omega)) (z.2.2 97 (by omega))).trans hC.2.1.1, (FCs_eq (fun q hq => z.2.2 _ (by omega))).trans hC.2.1.2.1, (NCs_eq (fun q hq => z.2.2 _ (by omega))).trans hC.2.1.2.2⟩, hC.2.2.same (fun a _ _ => z.2.2 a (by omega))⟩, fun a ha => z.2.2 a (by omega)⟩)
theorem r242 {xs : Option (List Int32)} {d : Nat} {w : List sx_C} {s : ST} (hI : WI w) (hR : REF w s) : sx_RP xs (d + 7) 242 0 (lv_args 0 [.ref 111]) [] w (fun r w2 => r = some (.int s.2.1) ∧ WI w2 ∧ REF w2 (s.1, 0, s.2.2) ∧ ∀ a, a < 111 → w2[a]? = w[a]?) := by
  exact (Y242 (xs := xs) (d := d) hI).mono9 (fun r w2 z => ⟨by rw [z.1.1, hR.1.2.1], z.2.1, ⟨⟨(ia_of (z.2.2 112 (by omega))).trans hR.1.1, z.1.2.1, fun k => absurd (show (0 : Int32) = 1 from k) (by decide)⟩, ⟨(tapM_eq z.1.2.2 (z.2.2 121 (by omega))).trans hR.2.1, (FMs_eq (z.2.2 122 (by omega)) (z.2.2 123 (by omega))).trans hR.2.2.1, (NMs_eq (z.2.2 124 (by omega))).trans hR.2.2.2⟩⟩, fun a ha => z.2.2 a (by omega)⟩)
def shR (N : Nat → Nat → Int64) (a1 a2 a3 : Int32) : Nat → Nat → Int64 := if ((0 ≤ a1 ∧ a1 ≤ 3) ∧ (a2 = 0 ∨ a2 = 8 ∨ a2 = 16 ∨ a2 = 64)) ∧ (0 ≤ a3 ∧ a3 ≤ 40) then shN N (iN a1) else N
theorem shR_y {N : Nat → Nat → Int64} {s : Nat} {a2 a3 : Int32} (hs : s < 4) (h : shV (nI s) a2 a3) : shR N (nI s) a2 a3 = shN N s := by
  unfold shR
  unfold shV at h
  rw [if_pos h, iN_n (by omega)]
theorem shR_n {N : Nat → Nat → Int64} {a1 a2 a3 : Int32} (h : ¬ shV a1 a2 a3) : shR N a1 a2 a3 = N := if_neg h
theorem c111 {xs : Option (List Int32)} {d : Nat} {w : List sx_C} {s : ST} (hI : WI w) (hC : CLS w s) (a1 a2 a3 : Int32) : sx_RP xs (d + 7) 111 0 (lv_args 0 [.ref 0, .int a1, .int a2, .int a3]) [] w (fun r w2 => r = some (.int (shAns a1 a2 a3)) ∧ WI w2 ∧ CLS w2 (s.1, s.2.1, s.2.2.1, s.2.2.2.1, shF s.2.2.2.2.1 a1 a2 a3, shR s.2.2.2.2.2 a1 a2 a3) ∧ ∀ a, 111 ≤ a → w2[a]? = w[a]?) := by
  by_cases h : 0 ≤ a1 ∧ a1 ≤ 3
  · obtain ⟨k, hk, rfl⟩ := sx_between h
    refine ((s111S (xs := xs) (d := d) hI hk a2 a3).and (F111 hI hk a2 a3)).mono9 (fun r w2 z => ?_)
    obtain ⟨⟨⟨z1, z2⟩, z3, z4⟩, z5, z6⟩ := z
    rw [hC.2.1.2.1] at z2
    rcases z6 with ⟨hv, h0, hE⟩ | ⟨hv, hE⟩
    · exact ⟨z1, z5, hC.sh hI z2 (by rw [shR_y hk hv, NCs_sh hk h0 (fun q hq hn => hE _ (by omega) (by omega)), hC.2.1.2.2]) (hC.2.2.same (fun a _ _ => hE a (by omega) (by omega))) (fun a ha => hE a (by omega) (by omega)), fun a ha => hE a (by omega) (by omega)⟩
    · exact ⟨z1, z5, hC.sh hI z2 (by rw [shR_n hv, NCs_eq (fun q hq => hE _ (by omega)), hC.2.1.2.2]) (hC.2.2.same (fun a _ _ => hE a (by omega))) (fun a ha => hE a (by omega)), fun a ha => hE a (by omega)⟩
  · refine ((s111Sn (xs := xs) (d := d) hI a1 a2 a3 h).and (F111n hI a1 a2 a3 h)).mono9 (fun r w2 z => ?_)
    obtain ⟨⟨⟨z1, z2⟩, z3, z4⟩, z5, hv, hE⟩ := z
    rw [hC.2.1.2.1] at z2
    exact ⟨z1, z5, hC.sh hI z2 (by rw [shR_n hv, NCs_eq (fun q hq => hE _ (by omega)), hC.2.1.2.2]) (hC.2.2.same (fun a _ _ => hE a (by omega))) (fun a ha => hE a (by omega)), fun a ha => hE a (by omega)⟩
theorem r230 {xs : Option (List Int32)} {d : Nat} {w : List sx_C} {s : ST} (hI : WI w) (hR : REF w s) (a1 a2 a3 : Int32) : sx_RP xs (d + 7) 230 0 (lv_args 0 [.ref 111, .int a1, .int a2, .int a3]) [] w (fun r w2 => r = some (.int (shAns a1 a2 a3)) ∧ WI w2 ∧ REF w2 (s.1, s.2.1, s.2.2.1, s.2.2.2.1, shF s.2.2.2.2.1 a1 a2 a3, shR s.2.2.2.2.2 a1 a2 a3) ∧ ∀ a, a < 111 → w2[a]? = w[a]?) := by
  by_cases h : 0 ≤ a1 ∧ a1 ≤ 3
  · obtain ⟨k, hk, rfl⟩ := sx_between h
    refine ((s230S (xs := xs) (d := d) hI hk a2 a3).and (F230 hI hk a2 a3)).mono9 (fun r w2 z => ?_)
    obtain ⟨⟨⟨z1, z2⟩, z3, z4⟩, z5, z6⟩ := z
    rw [hR.2.2.1] at z2
    rcases z6 with ⟨hv, h0, hE⟩ | ⟨hv, hE⟩
    · exact ⟨z1, z5, hR.sh z2 (by rw [shR_y hk hv, NMs_sh hk h0, hR.2.2.2]) (fun a ha => hE a (by omega) (by omega) (by omega)), z4⟩
    · exact ⟨z1, z5, hR.sh z2 (by rw [shR_n hv, NMs_eq (hE 124 (by omega)), hR.2.2.2]) (fun a ha => hE a (by omega)), z4⟩
  · refine ((s230Sn (xs := xs) (d := d) hI a1 a2 a3 h).and (F230n hI a1 a2 a3 h)).mono9 (fun r w2 z => ?_)
    obtain ⟨⟨⟨z1, z2⟩, z3, z4⟩, z5, hv, hE⟩ := z
    rw [hR.2.2.1] at z2
    exact ⟨z1, z5, hR.sh z2 (by rw [shR_n hv, NMs_eq (hE 124 (by omega)), hR.2.2.2]) (fun a ha => hE a (by omega)), z4⟩
theorem c12 {xs : Option (List Int32)} {d : Nat} {w : List sx_C} {s : ST} (hI : WI w) (hC : CLS w s) (a1 a2 : Int32) : sx_RP xs (d + 7) 12 0 (lv_args 0 [.ref 0, .int a1, .int a2]) [] w (fun r w2 => (∃ v : Int32, r = some (.int v)) ∧ WI w2 ∧ CLS w2 (s) ∧ ∀ a, 111 ≤ a → w2[a]? = w[a]?) := by
  exact (G12 hI a1 a2).mono9 (fun r w2 z => ⟨z.1, z.2.1, hC.es hI z.2.2, fun a ha => z.2.2.1 a (by unfold qc; omega)⟩)
theorem c14 {xs : Option (List Int32)} {d : Nat} {w : List sx_C} {s : ST} (hI : WI w) (hC : CLS w s) : sx_RP xs (d + 7) 14 0 (lv_args 0 [.ref 0]) [] w (fun r w2 => (∃ v : Int64, r = some (.long v)) ∧ WI w2 ∧ CLS w2 (s) ∧ ∀ a, 111 ≤ a → w2[a]? = w[a]?) := by
  exact (G14 hI).mono9 (fun r w2 z => ⟨z.1, z.2.1, hC.es hI z.2.2, fun a ha => z.2.2.1 a (by unfold qc; omega)⟩)
theorem c15 {xs : Option (List Int32)} {d : Nat} {w : List sx_C} {s : ST} (hI : WI w) (hC : CLS w s) (a1 a2 : Int32) : sx_RP xs (d + 7) 15 0 (lv_args 0 [.ref 0, .int a1, .int a2]) [] w (fun r w2 => (∃ v : Int32, r = some (.int v)) ∧ WI w2 ∧ CLS w2 (s) ∧ ∀ a, 111 ≤ a → w2[a]? = w[a]?) := by
  exact (G15 hI a1 a2).mono9 (fun r w2 z => ⟨z.1, z.2.1, hC.es hI z.2.2, fun a ha => z.2.2.1 a (by unfold qc; omega)⟩)
theorem c26 {xs : Option (List Int32)} {d : Nat} {w : List sx_C} {s : ST} (hI : WI w) (hC : CLS w s) (a1 a2 : Int32) : sx_RP xs (d + 7) 26 0 (lv_args 0 [.ref 0, .int a1, .int a2]) [] w (fun r w2 => (∃ v : Int32, r = some (.int v)) ∧ WI w2 ∧ CLS w2 (s) ∧ ∀ a, 111 ≤ a → w2[a]? = w[a]?) := by
  exact (G26 hI a1 a2).mono9 (fun r w2 z => ⟨z.1, z.2.1, hC.es hI z.2.2, fun a ha => z.2.2.1 a (by unfold qc; omega)⟩)
theorem c30 {xs : Option (List Int32)} {d : Nat} {w : List sx_C} {s : ST} (hI : WI w) (hC : CLS w s) (a1 a2 : Int32) : sx_RP xs (d + 7) 30 0 (lv_args 0 [.ref 0, .int a1, .int a2]) [] w (fun r w2 => (∃ v : Int32, r = some (.int v)) ∧ WI w2 ∧ CLS w2 (s) ∧ ∀ a, 111 ≤ a → w2[a]? = w[a]?) := by
  exact (G30 hI a1 a2).mono9 (fun r w2 z => ⟨z.1, z.2.1, hC.es hI z.2.2, fun a ha => z.2.2.1 a (by unfold qc; omega)⟩)
theorem c32 {xs : Option (List Int32)} {d : Nat} {w : List sx_C} {s : ST} (hI : WI w) (hC : CLS w s) (a1 a2 a3 : Int32) : sx_RP xs (d + 7) 32 0 (lv_args 0 [.ref 0, .int a1, .int a2, .int a3]) [] w (fun r w2 => (∃ v : Int32, r = some (.int v)) ∧ WI w2 ∧ CLS w2 (s) ∧ ∀ a, 111 ≤ a → w2[a]? = w[a]?) := by
  exact (G32 hI a1 a2 a3).mono9 (fun r w2 z => ⟨z.1, z.2.1, hC.es hI z.2.2, fun a ha => z.2.2.1 a (by unfold qc; omega)⟩)
theorem c48 {xs : Option (List Int32)} {d : Nat} {w : List sx_C} {s : ST} (hI : WI w) (hC : CLS w s) (a1 : Int32) : sx_RP xs (d + 7) 48 0 (lv_args 0 [.ref 0, .int a1]) [] w (fun r w2 => (∃ v : Int32, r = some (.int v)) ∧ WI w2 ∧ CLS w2 (s) ∧ ∀ a, 111 ≤ a → w2[a]? = w[a]?) := by
  exact (G48 hI a1).mono9 (fun r w2 z => ⟨z.1, z.2.1, hC.es hI z.2.2, fun a ha => z.2.2.1 a (by unfold qc; omega)⟩)
theorem c55 {xs : Option (List Int32)} {d : Nat} {w : List sx_C} {s : ST} (hI : WI w) (hC : CLS w s) (a1 a2 : Int32) : sx_RP xs (d + 7) 55 0 (lv_args 0 [.ref 0, .int a1, .int a2]) [] w (fun r w2 => (∃ v : Int32, r = some (.int v)) ∧ WI w2 ∧ CLS w2 (s) ∧ ∀ a, 111 ≤ a → w2[a]? = w[a]?) := by
  exact (G55 hI a1 a2).mono9 (fun r w2 z => ⟨z.1, z.2.1, hC.es hI z.2.2, fun a ha => z.2.2.1 a (by unfold qc; omega)⟩)
theorem c58 {xs : Option (List Int32)} {d : Nat} {w : List sx_C} {s : ST} (hI : WI w) (hC : CLS w s) (a1 a2 : Int32) : sx_RP xs (d + 7) 58 0 (lv_args 0 [.ref 0, .int a1, .int a2]) [] w (fun r w2 => (∃ v : Int32, r = some (.int v)) ∧ WI w2 ∧ CLS w2 (s) ∧ ∀ a, 111 ≤ a → w2[a]? = w[a]?) := by
  exact (G58 hI a1 a2).mono9 (fun r w2 z => ⟨z.1, z.2.1, hC.es hI z.2.2, fun a ha => z.2.2.1 a (by unfold qc; omega)⟩)
theorem c67 {xs : Option (List Int32)} {d : Nat} {w : List sx_C} {s : ST} (hI : WI w) (hC : CLS w s) (a1 : Int32) : sx_RP xs (d + 7) 67 0 (lv_args 0 [.ref 0, .int a1]) [] w (fun r w2 => (∃ v : Int32, r = some (.int v)) ∧ WI w2 ∧ CLS w2 (s) ∧ ∀ a, 111 ≤ a → w2[a]? = w[a]?) := by
  exact (G67 hI a1).mono9 (fun r w2 z => ⟨z.1, z.2.1, hC.es hI z.2.2, fun a ha => z.2.2.1 a (by unfold qc; omega)⟩)
theorem c70 {xs : Option (List Int32)} {d : Nat} {w : List sx_C} {s : ST} (hI : WI w) (hC : CLS w s) (a1 a2 : Int32) : sx_RP xs (d + 7) 70 0 (lv_args 0 [.ref 0, .int a1, .int a2]) [] w (fun r w2 => (∃ v : Int32, r = some (.int v)) ∧ WI w2 ∧ CLS w2 (s) ∧ ∀ a, 111 ≤ a → w2[a]? = w[a]?) := by
  exact (G70 hI a1 a2).mono9 (fun r w2 z => ⟨z.1, z.2.1, hC.es hI z.2.2, fun a ha => z.2.2.1 a (by unfold qc; omega)⟩)
theorem c71 {xs : Option (List Int32)} {d : Nat} {w : List sx_C} {s : ST} (hI : WI w) (hC : CLS w s) (a1 : Int32) : sx_RP xs (d + 7) 71 0 (lv_args 0 [.ref 0, .int a1]) [] w (fun r w2 => (∃ v : Int64, r = some (.long v)) ∧ WI w2 ∧ CLS w2 (s) ∧ ∀ a, 111 ≤ a → w2[a]? = w[a]?) := by
  exact (G71 hI a1).mono9 (fun r w2 z => ⟨z.1, z.2.1, hC.es hI z.2.2, fun a ha => z.2.2.1 a (by unfold qc; omega)⟩)
theorem c76 {xs : Option (List Int32)} {d : Nat} {w : List sx_C} {s : ST} (hI : WI w) (hC : CLS w s) (a1 a2 : Int32) : sx_RP xs (d + 7) 76 0 (lv_args 0 [.ref 0, .int a1, .int a2]) [] w (fun r w2 => (∃ v : Int32, r = some (.int v)) ∧ WI w2 ∧ CLS w2 (s) ∧ ∀ a, 111 ≤ a → w2[a]? = w[a]?) := by
  exact (G76 hI a1 a2).mono9 (fun r w2 z => ⟨z.1, z.2.1, hC.es hI z.2.2, fun a ha => z.2.2.1 a (by unfold qc; omega)⟩)
theorem c83 {xs : Option (List Int32)} {d : Nat} {w : List sx_C} {s : ST} (hI : WI w) (hC : CLS w s) : sx_RP xs (d + 7) 83 0 (lv_args 0 [.ref 0]) [] w (fun r w2 => (∃ v : Int32, r = some (.int v)) ∧ WI w2 ∧ CLS w2 (s) ∧ ∀ a, 111 ≤ a → w2[a]? = w[a]?) := by
  exact (G83 hI).mono9 (fun r w2 z => ⟨z.1, z.2.1, hC.es hI z.2.2, fun a ha => z.2.2.1 a (by unfold qc; omega)⟩)
theorem c127 {xs : Option (List Int32)} {d : Nat} {w : List sx_C} {s : ST} (hI : WI w) (hC : CLS w s) (a1 : Int32) : sx_RP xs (d + 7) 127 0 (lv_args 0 [.ref 0, .int a1]) [] w (fun r w2 => (∃ v : Int32, r = some (.int v)) ∧ WI w2 ∧ CLS w2 (s) ∧ ∀ a, 111 ≤ a → w2[a]? = w[a]?) := by
  exact (G127 hI a1).mono9 (fun r w2 z => ⟨z.1, z.2.1, hC.es hI z.2.2, fun a ha => z.2.2.1 a (by unfold qc; omega)⟩)
theorem c49 {xs : Option (List Int32)} {d : Nat} {w : List sx_C} {s : ST} (hI : WI w) (hC : CLS w s) (a1 a2 : Int32) : sx_RP xs (d + 7) 49 0 (lv_args 0 [.ref 0, .int a1, .int a2]) [] w (fun r w2 => (∃ v : Int32, r = some (.int v)) ∧ WI w2 ∧ CLS w2 (s) ∧ ∀ a, 111 ≤ a → w2[a]? = w[a]?) := by
  exact (G49 hI a1 a2).mono9 (fun r w2 z => ⟨z.1, z.2.1, hC.es hI z.2.2, fun a ha => z.2.2.1 a (by unfold qc; omega)⟩)
theorem c52 {xs : Option (List Int32)} {d : Nat} {w : List sx_C} {s : ST} (hI : WI w) (hC : CLS w s) (a1 : Int32) : sx_RP xs (d + 7) 52 0 (lv_args 0 [.ref 0, .int a1]) [] w (fun r w2 => (∃ v : Int32, r = some (.int v)) ∧ WI w2 ∧ CLS w2 (s) ∧ ∀ a, 111 ≤ a → w2[a]? = w[a]?) := by
  exact (G52 hI a1).mono9 (fun r w2 z => ⟨z.1, z.2.1, hC.es hI z.2.2, fun a ha => z.2.2.1 a (by unfold qc; omega)⟩)
theorem c53 {xs : Option (List Int32)} {d : Nat} {w : List sx_C} {s : ST} (hI : WI w) (hC : CLS w s) : sx_RP xs (d + 7) 53 0 (lv_args 0 [.ref 0]) [] w (fun r w2 => (∃ v : Int32, r = some (.int v)) ∧ WI w2 ∧ CLS w2 (s) ∧ ∀ a, 111 ≤ a → w2[a]? = w[a]?) := by
  exact (G53 hI).mono9 (fun r w2 z => ⟨z.1, z.2.1, hC.es hI z.2.2, fun a ha => z.2.2.1 a (by unfold qc; omega)⟩)
theorem c61 {xs : Option (List Int32)} {d : Nat} {w : List sx_C} {s : ST} (hI : WI w) (hC : CLS w s) (a1 : Int32) : sx_RP xs (d + 7) 61 0 (lv_args 0 [.ref 0, .int a1]) [] w (fun r w2 => (∃ v : Int32, r = some (.int v)) ∧ WI w2 ∧ CLS w2 (s) ∧ ∀ a, 111 ≤ a → w2[a]? = w[a]?) := by
  exact (G61 hI a1).mono9 (fun r w2 z => ⟨z.1, z.2.1, hC.es hI z.2.2, fun a ha => z.2.2.1 a (by unfold qc; omega)⟩)
theorem c74 {xs : Option (List Int32)} {d : Nat} {w : List sx_C} {s : ST} (hI : WI w) (hC : CLS w s) (a1 : Int32) : sx_RP xs (d + 7) 74 0 (lv_args 0 [.ref 0, .int a1]) [] w (fun r w2 => (∃ v : Int32, r = some (.int v)) ∧ WI w2 ∧ CLS w2 (s) ∧ ∀ a, 111 ≤ a → w2[a]? = w[a]?) := by
  exact (G74 hI a1).mono9 (fun r w2 z => ⟨z.1, z.2.1, hC.es hI z.2.2, fun a ha => z.2.2.1 a (by unfold qc; omega)⟩)
theorem c81 {xs : Option (List Int32)} {d : Nat} {w : List sx_C} {s : ST} (hI : WI w) (hC : CLS w s) (a1 : Int32) : sx_RP xs (d + 7) 81 0 (lv_args 0 [.ref 0, .int a1]) [] w (fun r w2 => (∃ v : Int32, r = some (.int v)) ∧ WI w2 ∧ CLS w2 (s) ∧ ∀ a, 111 ≤ a → w2[a]? = w[a]?) := by
  exact (G81 hI a1).mono9 (fun r w2 z => ⟨z.1, z.2.1, hC.es hI z.2.2, fun a ha => z.2.2.1 a (by unfold qc; omega)⟩)
theorem c86 {xs : Option (List Int32)} {d : Nat} {w : List sx_C} {s : ST} (hI : WI w) (hC : CLS w s) (a1 : Int32) : sx_RP xs (d + 7) 86 0 (lv_args 0 [.ref 0, .int a1]) [] w (fun r w2 => (∃ v : Int32, r = some (.int v)) ∧ WI w2 ∧ CLS w2 (s) ∧ ∀ a, 111 ≤ a → w2[a]? = w[a]?) := by
  exact (G86 hI a1).mono9 (fun r w2 z => ⟨z.1, z.2.1, hC.es hI z.2.2, fun a ha => z.2.2.1 a (by unfold qc; omega)⟩)
theorem c122 {xs : Option (List Int32)} {d : Nat} {w : List sx_C} {s : ST} (hI : WI w) (hC : CLS w s) (a1 : Int32) : sx_RP xs (d + 7) 122 0 (lv_args 0 [.ref 0, .int a1]) [] w (fun r w2 => (∃ v : Int32, r = some (.int v)) ∧ WI w2 ∧ CLS w2 (s) ∧ ∀ a, 111 ≤ a → w2[a]? = w[a]?) := by
  exact (G122 hI a1).mono9 (fun r w2 z => ⟨z.1, z.2.1, hC.es hI z.2.2, fun a ha => z.2.2.1 a (by unfold qc; omega)⟩)
theorem c128 {xs : Option (List Int32)} {d : Nat} {w : List sx_C} {s : ST} (hI : WI w) (hC : CLS w s) (a1 : Int32) : sx_RP xs (d + 7) 128 0 (lv_args 0 [.ref 0, .int a1]) [] w (fun r w2 => (∃ v : Int32, r = some (.int v)) ∧ WI w2 ∧ CLS w2 (s) ∧ ∀ a, 111 ≤ a → w2[a]? = w[a]?) := by
  exact (G128 hI a1).mono9 (fun r w2 z => ⟨z.1, z.2.1, hC.es hI z.2.2, fun a ha => z.2.2.1 a (by unfold qc; omega)⟩)
theorem r135 {xs : Option (List Int32)} {d : Nat} {w : List sx_C} {s : ST} (hI : WI w) (hR : REF w s) (a1 a2 : Int32) : sx_RP xs (d + 7) 135 0 (lv_args 0 [.ref 111, .int a1, .int a2]) [] w (fun r w2 => (∃ v : Int32, r = some (.int v)) ∧ WI w2 ∧ REF w2 (s) ∧ ∀ a, a < 111 → w2[a]? = w[a]?) := by
  exact (H135 hI a1 a2).mono9 (fun r w2 z => ⟨z.1, z.2.1, hR.ez z.2.2, fun a ha => z.2.2 a (by unfold zc; omega)⟩)
theorem r155 {xs : Option (List Int32)} {d : Nat} {w : List sx_C} {s : ST} (hI : WI w) (hR : REF w s) (a1 a2 : Int32) : sx_RP xs (d + 7) 155 0 (lv_args 0 [.ref 111, .int a1, .int a2]) [] w (fun r w2 => (∃ v : Int32, r = some (.int v)) ∧ WI w2 ∧ REF w2 (s) ∧ ∀ a, a < 111 → w2[a]? = w[a]?) := by
  exact (H155 hI a1 a2).mono9 (fun r w2 z => ⟨z.1, z.2.1, hR.ez z.2.2, fun a ha => z.2.2 a (by unfold zc; omega)⟩)
theorem r159 {xs : Option (List Int32)} {d : Nat} {w : List sx_C} {s : ST} (hI : WI w) (hR : REF w s) (a1 a2 : Int32) : sx_RP xs (d + 7) 159 0 (lv_args 0 [.ref 111, .int a1, .int a2]) [] w (fun r w2 => (∃ v : Int32, r = some (.int v)) ∧ WI w2 ∧ REF w2 (s) ∧ ∀ a, a < 111 → w2[a]? = w[a]?) := by
  exact (H159 hI a1 a2).mono9 (fun r w2 z => ⟨z.1, z.2.1, hR.ez z.2.2, fun a ha => z.2.2 a (by unfold zc; omega)⟩)
theorem r161 {xs : Option (List Int32)} {d : Nat} {w : List sx_C} {s : ST} (hI : WI w) (hR : REF w s) (a1 a2 a3 : Int32) : sx_RP xs (d + 7) 161 0 (lv_args 0 [.ref 111, .int a1, .int a2, .int a3]) [] w (fun r w2 => (∃ v : Int32, r = some (.int v)) ∧ WI w2 ∧ REF w2 (s) ∧ ∀ a, a < 111 → w2[a]? = w[a]?) := by
  exact (H161 hI a1 a2 a3).mono9 (fun r w2 z => ⟨z.1, z.2.1, hR.ez z.2.2, fun a ha => z.2.2 a (by unfold zc; omega)⟩)
theorem r173 {xs : Option (List Int32)} {d : Nat} {w : List sx_C} {s : ST} (hI : WI w) (hR : REF w s) (a1 : Int32) : sx_RP xs (d + 7) 173 0 (lv_args 0 [.ref 111, .int a1]) [] w (fun r w2 => (∃ v : Int32, r = some (.int v)) ∧ WI w2 ∧ REF w2 (s) ∧ ∀ a, a < 111 → w2[a]? = w[a]?) := by
  exact (H173 hI a1).mono9 (fun r w2 z => ⟨z.1, z.2.1, hR.ez z.2.2, fun a ha => z.2.2 a (by unfold zc; omega)⟩)
theorem r196 {xs : Option (List Int32)} {d : Nat} {w : List sx_C} {s : ST} (hI : WI w) (hR : REF w s) (a1 a2 : Int32) : sx_RP xs (d + 7) 196 0 (lv_args 0 [.ref 111, .int a1, .int a2]) [] w (fun r w2 => (∃ v : Int32, r = some (.int v)) ∧ WI w2 ∧ REF w2 (s) ∧ ∀ a, a < 111 → w2[a]? = w[a]?) := by
  exact (H196 hI a1 a2).mono9 (fun r w2 z => ⟨z.1, z.2.1, hR.ez z.2.2, fun a ha => z.2.2 a (by unfold zc; omega)⟩)
theorem r205 {xs : Option (List Int32)} {d : Nat} {w : List sx_C} {s : ST} (hI : WI w) (hR : REF w s) : sx_RP xs (d + 7) 205 0 (lv_args 0 [.ref 111]) [] w (fun r w2 => (∃ v : Int32, r = some (.int v)) ∧ WI w2 ∧ REF w2 (s) ∧ ∀ a, a < 111 → w2[a]? = w[a]?) := by
  exact (H205 hI).mono9 (fun r w2 z => ⟨z.1, z.2.1, hR.ez z.2.2, fun a ha => z.2.2 a (by unfold zc; omega)⟩)
theorem r243 {xs : Option (List Int32)} {d : Nat} {w : List sx_C} {s : ST} (hI : WI w) (hR : REF w s) (a1 : Int32) : sx_RP xs (d + 7) 243 0 (lv_args 0 [.ref 111, .int a1]) [] w (fun r w2 => (∃ v : Int32, r = some (.int v)) ∧ WI w2 ∧ REF w2 (s) ∧ ∀ a, a < 111 → w2[a]? = w[a]?) := by
  exact (H243 hI a1).mono9 (fun r w2 z => ⟨z.1, z.2.1, hR.ez z.2.2, fun a ha => z.2.2 a (by unfold zc; omega)⟩)
theorem r202 {xs : Option (List Int32)} {d : Nat} {w : List sx_C} {s : ST} (hI : WI w) (hR : REF w s) (a1 : Int32) : sx_RP xs (d + 7) 202 0 (lv_args 0 [.ref 111, .int a1]) [] w (fun r w2 => (∃ v : Int32, r = some (.int v)) ∧ WI w2 ∧ REF w2 (s) ∧ ∀ a, a < 111 → w2[a]? = w[a]?) := by
  exact (H202 hI a1).mono9 (fun r w2 z => ⟨z.1, z.2.1, hR.ez z.2.2, fun a ha => z.2.2 a (by unfold zc; omega)⟩)
theorem r245 {xs : Option (List Int32)} {d : Nat} {w : List sx_C} {s : ST} (hI : WI w) (hR : REF w s) (a1 : Int32) : sx_RP xs (d + 7) 245 0 (lv_args 0 [.ref 111, .int a1]) [] w (fun r w2 => (∃ v : Int32, r = some (.int v)) ∧ WI w2 ∧ REF w2 (s) ∧ ∀ a, a < 111 → w2[a]? = w[a]?) := by
  exact (H245 hI a1).mono9 (fun r w2 z => ⟨z.1, z.2.1, hR.ez z.2.2, fun a ha => z.2.2 a (by unfold zc; omega)⟩)
theorem r207 {xs : Option (List Int32)} {d : Nat} {w : List sx_C} {s : ST} (hI : WI w) (hR : REF w s) (a1 : Int32) : sx_RP xs (d + 7) 207 0 (lv_args 0 [.ref 111, .int a1]) [] w (fun r w2 => (∃ v : Int32, r = some (.int v)) ∧ WI w2 ∧ REF w2 (s) ∧ ∀ a, a < 111 → w2[a]? = w[a]?) := by
  exact (H207 hI a1).mono9 (fun r w2 z => ⟨z.1, z.2.1, hR.ez z.2.2, fun a ha => z.2.2 a (by unfold zc; omega)⟩)
theorem r140 {xs : Option (List Int32)} {d : Nat} {w : List sx_C} {s : ST} (hI : WI w) (hR : REF w s) (a1 a2 : Int32) : sx_RP xs (d + 7) 140 0 (lv_args 0 [.ref 111, .int a1, .int a2]) [] w (fun r w2 => (∃ v : Int32, r = some (.int v)) ∧ WI w2 ∧ REF w2 (s) ∧ ∀ a, a < 111 → w2[a]? = w[a]?) := by
  exact (H140 hI a1 a2).mono9 (fun r w2 z => ⟨z.1, z.2.1, hR.ez z.2.2, fun a ha => z.2.2 a (by unfold zc; omega)⟩)
theorem r179 {xs : Option (List Int32)} {d : Nat} {w : List sx_C} {s : ST} (hI : WI w) (hR : REF w s) (a1 a2 : Int32) : sx_RP xs (d + 7) 179 0 (lv_args 0 [.ref 111, .int a1, .int a2]) [] w (fun r w2 => (∃ v : Int32, r = some (.int v)) ∧ WI w2 ∧ REF w2 (s) ∧ ∀ a, a < 111 → w2[a]? = w[a]?) := by
  exact (H179 hI a1 a2).mono9 (fun r w2 z => ⟨z.1, z.2.1, hR.ez z.2.2, fun a ha => z.2.2 a (by unfold zc; omega)⟩)
theorem r187 {xs : Option (List Int32)} {d : Nat} {w : List sx_C} {s : ST} (hI : WI w) (hR : REF w s) (a1 : Int32) : sx_RP xs (d + 7) 187 0 (lv_args 0 [.ref 111, .int a1]) [] w (fun r w2 => (∃ v : Int32, r = some (.int v)) ∧ WI w2 ∧ REF w2 (s) ∧ ∀ a, a < 111 → w2[a]? = w[a]?) := by
  exact (H187 hI a1).mono9 (fun r w2 z => ⟨z.1, z.2.1, hR.ez z.2.2, fun a ha => z.2.2 a (by unfold zc; omega)⟩)
theorem r191 {xs : Option (List Int32)} {d : Nat} {w : List sx_C} {s : ST} (hI : WI w) (hR : REF w s) (a1 a2 : Int32) : sx_RP xs (d + 7) 191 0 (lv_args 0 [.ref 111, .int a1, .int a2]) [] w (fun r w2 => (∃ v : Int32, r = some (.int v)) ∧ WI w2 ∧ REF w2 (s) ∧ ∀ a, a < 111 → w2[a]? = w[a]?) := by
  exact (H191 hI a1 a2).mono9 (fun r w2 z => ⟨z.1, z.2.1, hR.ez z.2.2, fun a ha => z.2.2 a (by unfold zc; omega)⟩)
theorem r192 {xs : Option (List Int32)} {d : Nat} {w : List sx_C} {s : ST} (hI : WI w) (hR : REF w s) (a1 : Int32) : sx_RP xs (d + 7) 192 0 (lv_args 0 [.ref 111, .int a1]) [] w (fun r w2 => (∃ v : Int64, r = some (.long v)) ∧ WI w2 ∧ REF w2 (s) ∧ ∀ a, a < 111 → w2[a]? = w[a]?) := by
  exact (H192 hI a1).mono9 (fun r w2 z => ⟨z.1, z.2.1, hR.ez z.2.2, fun a ha => z.2.2 a (by unfold zc; omega)⟩)
theorem r194 {xs : Option (List Int32)} {d : Nat} {w : List sx_C} {s : ST} (hI : WI w) (hR : REF w s) (a1 : Int32) : sx_RP xs (d + 7) 194 0 (lv_args 0 [.ref 111, .int a1]) [] w (fun r w2 => (∃ v : Int32, r = some (.int v)) ∧ WI w2 ∧ REF w2 (s) ∧ ∀ a, a < 111 → w2[a]? = w[a]?) := by
  exact (H194 hI a1).mono9 (fun r w2 z => ⟨z.1, z.2.1, hR.ez z.2.2, fun a ha => z.2.2 a (by unfold zc; omega)⟩)
theorem r174 {xs : Option (List Int32)} {d : Nat} {w : List sx_C} {s : ST} (hI : WI w) (hR : REF w s) (a1 a2 : Int32) : sx_RP xs (d + 7) 174 0 (lv_args 0 [.ref 111, .int a1, .int a2]) [] w (fun r w2 => (∃ v : Int32, r = some (.int v)) ∧ WI w2 ∧ REF w2 (s) ∧ ∀ a, a < 111 → w2[a]? = w[a]?) := by
  exact (H174 hI a1 a2).mono9 (fun r w2 z => ⟨z.1, z.2.1, hR.ezl z.2.2, fun a ha => z.2.2.1 a (by unfold yc; omega) (by omega)⟩)
theorem r176 {xs : Option (List Int32)} {d : Nat} {w : List sx_C} {s : ST} (hI : WI w) (hR : REF w s) (a1 : Int32) : sx_RP xs (d + 7) 176 0 (lv_args 0 [.ref 111, .int a1]) [] w (fun r w2 => (∃ v : Int32, r = some (.int v)) ∧ WI w2 ∧ REF w2 (s) ∧ ∀ a, a < 111 → w2[a]? = w[a]?) := by
  exact (H176 hI a1).mono9 (fun r w2 z => ⟨z.1, z.2.1, hR.ezl z.2.2, fun a ha => z.2.2.1 a (by unfold yc; omega) (by omega)⟩)
theorem r177 {xs : Option (List Int32)} {d : Nat} {w : List sx_C} {s : ST} (hI : WI w) (hR : REF w s) : sx_RP xs (d + 7) 177 0 (lv_args 0 [.ref 111]) [] w (fun r w2 => (∃ v : Int32, r = some (.int v)) ∧ WI w2 ∧ REF w2 (s) ∧ ∀ a, a < 111 → w2[a]? = w[a]?) := by
  exact (H177 hI).mono9 (fun r w2 z => ⟨z.1, z.2.1, hR.ezl z.2.2, fun a ha => z.2.2.1 a (by unfold yc; omega) (by omega)⟩)
theorem r180 {xs : Option (List Int32)} {d : Nat} {w : List sx_C} {s : ST} (hI : WI w) (hR : REF w s) (a1 a2 : Int32) : sx_RP xs (d + 7) 180 0 (lv_args 0 [.ref 111, .int a1, .int a2]) [] w (fun r w2 => (∃ v : Int32, r = some (.int v)) ∧ WI w2 ∧ REF w2 (s) ∧ ∀ a, a < 111 → w2[a]? = w[a]?) := by
  exact (H180 hI a1 a2).mono9 (fun r w2 z => ⟨z.1, z.2.1, hR.ezl z.2.2, fun a ha => z.2.2.1 a (by unfold yc; omega) (by omega)⟩)
theorem r183 {xs : Option (List Int32)} {d : Nat} {w : List sx_C} {s : ST} (hI : WI w) (hR : REF w s) (a1 : Int32) : sx_RP xs (d + 7) 183 0 (lv_args 0 [.ref 111, .int a1]) [] w (fun r w2 => (∃ v : Int32, r = some (.int v)) ∧ WI w2 ∧ REF w2 (s) ∧ ∀ a, a < 111 → w2[a]? = w[a]?) := by
  exact (H183 hI a1).mono9 (fun r w2 z => ⟨z.1, z.2.1, hR.ezl z.2.2, fun a ha => z.2.2.1 a (by unfold yc; omega) (by omega)⟩)
theorem r238 {xs : Option (List Int32)} {d : Nat} {w : List sx_C} {s : ST} (hI : WI w) (hR : REF w s) (a1 : Int32) : sx_RP xs (d + 7) 238 0 (lv_args 0 [.ref 111, .int a1]) [] w (fun r w2 => (∃ v : Int32, r = some (.int v)) ∧ WI w2 ∧ REF w2 (s) ∧ ∀ a, a < 111 → w2[a]? = w[a]?) := by
  exact (H238 hI a1).mono9 (fun r w2 z => ⟨z.1, z.2.1, hR.ezl z.2.2, fun a ha => z.2.2.1 a (by unfold yc; omega) (by omega)⟩)
end
-- 89y36.ans5.lean.txt
section
def wlN (l : List Int32) : Nat → Int64
  | 0 => 0
  | n + 1 => wlN l n ||| (if l.getD (55 + n) 0 = 1 then (1 : Int64) <<< ((nI n).toInt64 &&& 63) else 0)
theorem bit_or0 {v : Int64} {j : Nat} : bitL (v ||| 0) j = bitL v j := by
  unfold bitL
  rw [Int64.toBitVec_or, BitVec.getLsbD_or, show ((0 : Int64)).toBitVec = 0#64 from rfl, BitVec.getLsbD_zero, Bool.or_false]
theorem wlN_bit {l : List Int32} : ∀ (n : Nat), n ≤ 48 → ∀ j, j < 64 → bitL (wlN l n) j = (ltB n j && decide (l.getD (55 + j) 0 = 1))
  | 0, _, j, _ => by
    show bitL 0 j = _
    rw [bit_0, ltB_n (by omega)]
    rfl
  | n + 1, h, j, hj => by
    show bitL (wlN l n ||| _) j = _
    have ih := wlN_bit (l := l) n (by omega) j hj
    by_cases e : l.getD (55 + n) 0 = 1
    · rw [if_pos e, bit_or (by omega), ih]
      by_cases c : n = j
      · rw [decide_eq_true c, Bool.or_true, ← c, ltB_y (by omega), decide_eq_true e]
        rfl
      · rw [decide_eq_false c, Bool.or_false, ltB_ne (Ne.symm c)]
    · rw [if_neg e, bit_or0, ih]
      by_cases c : n = j
      · rw [← c, decide_eq_false e, Bool.and_false, Bool.and_false]
      · rw [ltB_ne (Ne.symm c)]
theorem i64_ext {a b : Int64} (h : ∀ c, c < 64 → bitL a c = bitL b c) : a = b := Int64.toBitVec_inj.mp (BitVec.eq_of_getLsbD_eq (fun i hi => h i hi))
theorem rel.walls {w : List sx_C} {l : List Int32} (hR : rel w 1 l) : fj w 1 1 = wlN l 48 := i64_ext (fun c hc => by
  have e := hR.wl hc
  unfold wbt wlr at e
  rw [wlN_bit 48 (by omega) c hc]
  by_cases h : c < 48
  · rw [if_pos h] at e
    rw [ltB_y h, ← e]
    cases bitL (fj w 1 1) c <;> decide
  · rw [if_neg h] at e
    rw [ltB_n h, Bool.false_and]
    cases hb : bitL (fj w 1 1) c with
    | false => rfl
    | true =>
      rw [hb] at e
      exact absurd e (by decide))
end
-- 89y37.ans6.lean.txt
section
def hsF (l : List Int32) (c : Nat) : Nat → Int32
  | 0 => 0
  | n + 1 => if gF l n 5 = 0 ∧ gF l n 2 = nI c then hsF l c n + 1 else hsF l c n
theorem hs_y {l : List Int32} {c j : Nat} (h : gF l j 5 = 0 ∧ gF l j 2 = nI c) : hsF l c j + 1 = hsF l c (j + 1) := (if_pos h).symm
theorem hs_n {l : List Int32} {c j : Nat} (h : ¬ (gF l j 5 = 0 ∧ gF l j 2 = nI c)) : hsF l c j = hsF l c (j + 1) := (if_neg h).symm
set_option maxRecDepth 20000 in
set_option maxHeartbeats 4000000 in
theorem x13L {xs : Option (List Int32)} {d c n : Nat} {w : List sx_C} {l : List Int32} (hI : WI w) (hR : rel w 1 l) (hc : c < 48) (hn : n ≤ 10) (en : l.getD 1 0 = nI n) : ∀ (q j : Nat), j + q = n → sx_RP xs d 13 4 [(0, .ref 1), (1, .int (nI c)), (2, .int (hsF l c j)), (3, .int (nI j))] [] w (fun r w2 => r = some (.int (hsF l c n)) ∧ w2 = w)
  | 0, j, hj => by
    obtain rfl : j = n := by omega
    refine sx_RP.step (pc2 := 5) (ls2 := [(0, .ref 1), (1, .int (nI c)), (2, .int (hsF l c j)), (3, .int (nI j))]) (st2 := [.int (nI j)]) (w3 := w) rfl rfl ?_
    refine sx_RP.step (pc2 := 6) (ls2 := [(0, .ref 1), (1, .int (nI c)), (2, .int (hsF l c j)), (3, .int (nI j))]) (st2 := [.ref 1, .int (nI j)]) (w3 := w) rfl rfl ?_
    refine sx_RP.gc (k := 3) hI (Or.inl rfl) rfl rfl (by omega) (show _ = 9 from rfl) ?_
    rw [(hR.many.trans en)]
    refine sx_RP.br (p1 := 46) (l1 := [(0, .ref 1), (1, .int (nI c)), (2, .int (hsF l c j)), (3, .int (nI j))]) (s1 := []) (v1 := w) rfl rfl (fun _ => ?_) (fun q => absurd (nI_le (a := j) (b := j) (by omega) (by omega)) (of_decide_eq_false q))
    refine sx_RP.step (pc2 := 47) (ls2 := [(0, .ref 1), (1, .int (nI c)), (2, .int (hsF l c j)), (3, .int (nI j))]) (st2 := [.int (hsF l c j)]) (w3 := w) rfl rfl ?_
    refine sx_RP.ret (r := (some (.int (hsF l c j)))) rfl rfl ?_
    exact ⟨rfl, rfl⟩
  | q + 1, j, hj => by
    refine sx_RP.step (pc2 := 5) (ls2 := [(0, .ref 1), (1, .int (nI c)), (2, .int (hsF l c j)), (3, .int (nI j))]) (st2 := [.int (nI j)]) (w3 := w) rfl rfl ?_
    refine sx_RP.step (pc2 := 6) (ls2 := [(0, .ref 1), (1, .int (nI c)), (2, .int (hsF l c j)), (3, .int (nI j))]) (st2 := [.ref 1, .int (nI j)]) (w3 := w) rfl rfl ?_
    refine sx_RP.gc (k := 3) hI (Or.inl rfl) rfl rfl (by omega) (show _ = 9 from rfl) ?_
    rw [(hR.many.trans en)]
    refine sx_RP.br (p2 := 12) (l2 := [(0, .ref 1), (1, .int (nI c)), (2, .int (hsF l c j)), (3, .int (nI j))]) (s2 := []) (v2 := w) rfl rfl (fun q => absurd (of_decide_eq_true q) (fun z => absurd ((nI_leI (a := n) (b := j) (by omega) (by omega)).mp z) (by omega))) (fun _ => ?_)
    refine sx_RP.step (pc2 := 13) (ls2 := [(0, .ref 1), (1, .int (nI c)), (2, .int (hsF l c j)), (3, .int (nI j))]) (st2 := [.ref 1]) (w3 := w) rfl rfl ?_
    refine sx_RP.gref (k := 2) (b := 3) hI (Or.inl rfl) rfl rfl (by omega) (show _ = 16 from rfl) ?_
    refine sx_RP.step (pc2 := 17) (ls2 := [(0, .ref 1), (1, .int (nI c)), (2, .int (hsF l c j)), (3, .int (nI j))]) (st2 := [.int (nI j), .ref 3]) (w3 := w) rfl rfl ?_
    refine sx_RP.ald (v := .ref (1 + 4 + j)) rfl (hI.1.aG (Or.inl rfl)) rfl (grA_at (show j < 10 by omega)) (show _ = 18 from rfl) ?_
    refine sx_RP.gg (k := 5) hI (gAd.of (Or.inl rfl) (show j < 10 by omega)) rfl rfl (by decide) (show _ = 21 from rfl) ?_
    obtain ⟨x1, hx2, ex3⟩ : inR (fi w (1 + 4 + j) 5) 1 := hI.gk (k := 5) (gAd.of (Or.inl rfl) (show j < 10 by omega)) (by decide)
    rw [ex3]
    refine sx_RP.br (p1 := 40) (l1 := [(0, .ref 1), (1, .int (nI c)), (2, .int (hsF l c j)), (3, .int (nI j))]) (s1 := []) (v1 := w) (p2 := 24) (l2 := [(0, .ref 1), (1, .int (nI c)), (2, .int (hsF l c j)), (3, .int (nI j))]) (s2 := []) (v2 := w) rfl rfl (fun q4 => ?_) (fun q4 => ?_)
    · replace q4 := of_decide_eq_true q4
      replace q4 := mt (nI_eq (a := x1) (b := 0) (by omega) (by omega)).mpr q4
      refine sx_RP.step (pc2 := 43) (ls2 := [(3, .int ((nI j) + 1)), (0, .ref 1), (1, .int (nI c)), (2, .int (hsF l c j))]) (st2 := []) (w3 := w) rfl rfl ?_
      rw [nI_1 j]
      refine sx_RP.step (pc2 := 4) (ls2 := [(3, .int (nI (j + 1))), (0, .ref 1), (1, .int (nI c)), (2, .int (hsF l c j))]) (st2 := []) (w3 := w) rfl rfl ?_
      have e9 := hs_n (l := l) (c := c) (j := j) (fun z => q4 ((nI_eq (a := x1) (b := 0) (by omega) (by decide)).mp (((hR.ga (i := j) (k := 5) (by rw [en, iN_n (by omega)]; omega) (by decide)).symm.trans ex3).symm.trans z.1)))
      rw [e9]
      exact sx_RP.ls (sx_lr.cons rfl (sx_lr.cons rfl (sx_lr.cons rfl (sx_lr.cons rfl sx_lr.nil)))) (x13L hI hR hc hn en q (j + 1) (by omega))
    · replace q4 := Decidable.not_not.mp (of_decide_eq_false q4)
      replace q4 := (nI_eq (a := x1) (b := 0) (by omega) (by omega)).mp q4
      refine sx_RP.step (pc2 := 25) (ls2 := [(0, .ref 1), (1, .int (nI c)), (2, .int (hsF l c j)), (3, .int (nI j))]) (st2 := [.ref 1]) (w3 := w) rfl rfl ?_
      refine sx_RP.gref (k := 2) (b := 3) hI (Or.inl rfl) rfl rfl (by omega) (show _ = 28 from rfl) ?_
      refine sx_RP.step (pc2 := 29) (ls2 := [(0, .ref 1), (1, .int (nI c)), (2, .int (hsF l c j)), (3, .int (nI j))]) (st2 := [.int (nI j), .ref 3]) (w3 := w) rfl rfl ?_
      refine sx_RP.ald (v := .ref (1 + 4 + j)) rfl (hI.1.aG (Or.inl rfl)) rfl (grA_at (show j < 10 by omega)) (show _ = 30 from rfl) ?_
      refine sx_RP.gg (k := 2) hI (gAd.of (Or.inl rfl) (show j < 10 by omega)) rfl rfl (by decide) (show _ = 33 from rfl) ?_
      obtain ⟨x5, hx6, ex7⟩ : inR (fi w (1 + 4 + j) 2) 47 := hI.gk (k := 2) (gAd.of (Or.inl rfl) (show j < 10 by omega)) (by decide)
      rw [ex7]
      refine sx_RP.step (pc2 := 34) (ls2 := [(0, .ref 1), (1, .int (nI c)), (2, .int (hsF l c j)), (3, .int (nI j))]) (st2 := [.int (nI c), .int (nI x5)]) (w3 := w) rfl rfl ?_
      refine sx_RP.br (p1 := 40) (l1 := [(0, .ref 1), (1, .int (nI c)), (2, .int (hsF l c j)), (3, .int (nI j))]) (s1 := []) (v1 := w) (p2 := 37) (l2 := [(0, .ref 1), (1, .int (nI c)), (2, .int (hsF l c j)), (3, .int (nI j))]) (s2 := []) (v2 := w) rfl rfl (fun q8 => ?_) (fun q8 => ?_)
      · replace q8 := of_decide_eq_true q8
        replace q8 := mt (nI_eq (a := x5) (b := c) (by omega) (by omega)).mpr q8
        refine sx_RP.step (pc2 := 43) (ls2 := [(3, .int ((nI j) + 1)), (0, .ref 1), (1, .int (nI c)), (2, .int (hsF l c j))]) (st2 := []) (w3 := w) rfl rfl ?_
        rw [nI_1 j]
        refine sx_RP.step (pc2 := 4) (ls2 := [(3, .int (nI (j + 1))), (0, .ref 1), (1, .int (nI c)), (2, .int (hsF l c j))]) (st2 := []) (w3 := w) rfl rfl ?_
        have e9 := hs_n (l := l) (c := c) (j := j) (fun z => q8 ((nI_eq (a := x5) (b := c) (by omega) (by omega)).mp (((hR.ga (i := j) (k := 2) (by rw [en, iN_n (by omega)]; omega) (by decide)).symm.trans ex7).symm.trans z.2)))
        rw [e9]
        exact sx_RP.ls (sx_lr.cons rfl (sx_lr.cons rfl (sx_lr.cons rfl (sx_lr.cons rfl sx_lr.nil)))) (x13L hI hR hc hn en q (j + 1) (by omega))
      · replace q8 := Decidable.not_not.mp (of_decide_eq_false q8)
        replace q8 := (nI_eq (a := x5) (b := c) (by omega) (by omega)).mp q8
        refine sx_RP.step (pc2 := 40) (ls2 := [(2, .int ((hsF l c j) + 1)), (0, .ref 1), (1, .int (nI c)), (3, .int (nI j))]) (st2 := []) (w3 := w) rfl rfl ?_
        refine sx_RP.step (pc2 := 43) (ls2 := [(3, .int ((nI j) + 1)), (2, .int ((hsF l c j) + 1)), (0, .ref 1), (1, .int (nI c))]) (st2 := []) (w3 := w) rfl rfl ?_
        rw [nI_1 j]
        refine sx_RP.step (pc2 := 4) (ls2 := [(3, .int (nI (j + 1))), (2, .int ((hsF l c j) + 1)), (0, .ref 1), (1, .int (nI c))]) (st2 := []) (w3 := w) rfl rfl ?_
        have e9 := hs_y (l := l) (c := c) (j := j) ⟨((hR.ga (i := j) (k := 5) (by rw [en, iN_n (by omega)]; omega) (by decide)).symm.trans ex3).trans (by rw [q4]; rfl), ((hR.ga (i := j) (k := 2) (by rw [en, iN_n (by omega)]; omega) (by decide)).symm.trans ex7).trans (by rw [q8])⟩
        rw [e9]
        exact sx_RP.ls (sx_lr.cons rfl (sx_lr.cons rfl (sx_lr.cons rfl (sx_lr.cons rfl sx_lr.nil)))) (x13L hI hR hc hn en q (j + 1) (by omega))
set_option maxRecDepth 20000 in
set_option maxHeartbeats 4000000 in
theorem x13 {xs : Option (List Int32)} {d : Nat} {w : List sx_C} (hI : WI w) {c n : Nat} {l : List Int32} (hR : rel w 1 l) (hc : c < 48) (hn : n ≤ 10) (en : l.getD 1 0 = nI n) : sx_RU xs d 13 0 (lv_args 0 [.ref 1, .int (nI c)]) [] w (some (.int (hsF l c n))) w := by
  have h : sx_RP xs d 13 0 (lv_args 0 [.ref 1, .int (nI c)]) [] w (fun r9 w2 => r9 = some (.int (hsF l c n)) ∧ w2 = w) := by
    refine sx_RP.step (pc2 := 1) (ls2 := [(0, .ref 1), (1, .int (nI c))]) (st2 := [.int 0]) (w3 := w) rfl rfl ?_
    refine sx_RP.step (pc2 := 2) (ls2 := [(2, .int 0), (0, .ref 1), (1, .int (nI c))]) (st2 := []) (w3 := w) rfl rfl ?_
    refine sx_RP.step (pc2 := 3) (ls2 := [(2, .int 0), (0, .ref 1), (1, .int (nI c))]) (st2 := [.int 0]) (w3 := w) rfl rfl ?_
    refine sx_RP.step (pc2 := 4) (ls2 := [(3, .int 0), (2, .int 0), (0, .ref 1), (1, .int (nI c))]) (st2 := []) (w3 := w) rfl rfl ?_
    exact sx_RP.ls (sx_lr.cons rfl (sx_lr.cons rfl (sx_lr.cons rfl (sx_lr.cons rfl sx_lr.nil)))) (x13L hI hR hc hn en n 0 (by omega))
  obtain ⟨r9, w2, h1, rfl, rfl⟩ := h
  exact h1
end
-- 89y43.ansB.lean.txt
section
def GRo (l : List Int32) : Prop := ∀ c, c < 48 → ∃ s, s < 4 ∧ l.getD (7 + c) 0 = nI s
theorem GRo.of {w : List sx_C} (hI : WI w) : GRo (ia w 112) := fun c hc => by
  obtain ⟨s, hs, e⟩ := (hI.s (7 + c) (by omega)).2.2.1 (by omega)
  exact ⟨s, by omega, e⟩
theorem GRo.rel {w : List sx_C} {l : List Int32} (hI : WI w) (hR : rel w 1 l) : GRo l := fun c hc => by
  obtain ⟨s, hs, e⟩ : inR ((ia w (1 + 1)).getD c 0) 3 := hI.st (Or.inl rfl) hc
  exact ⟨s, by omega, (hR.gr hc).symm.trans e⟩
def Wk (w0 w : List sx_C) (wy su : List Int32) : Prop := (∀ a, a ≠ 117 → a ≠ 118 → w[a]? = w0[a]?) ∧ ia w 117 = wy ∧ ia w 118 = su
theorem Wk.f7 {w0 w w2 : List sx_C} {wy su : List Int32} {k : Nat} {v : Int32} (h : Wk w0 w wy su) (hs : Same 117 w w2) (hv : ia w2 117 = (ia w 117).set k v) : Wk w0 w2 (wy.set k v) su := ⟨fun a h1 h2 => (hs a h1).trans (h.1 a h1 h2), by rw [hv, h.2.1], (ia_of (hs 118 (by decide))).trans h.2.2⟩
theorem Wk.row {w0 w : List sx_C} {wy su : List Int32} (h : Wk w0 w wy su) : ia w 112 = ia w0 112 := ia_of (h.1 112 (by decide) (by decide))
section SXWK
variable {xs : Option (List Int32)} {d mi pc pc2 a idx p : Nat} {ls : sx_L} {r : List Value} {w w0 : List sx_C} {P : Option Value → List sx_C → Prop}
end SXWK
section SXW1
variable {kf : Nat → Int32} {c t : Nat} {wy : List Int32}
end SXW1
end
-- 89y44.meets.lean.txt
section
section SXME
variable {D : Nat → Nat} {h n : Nat}
end SXME
section SXNM
variable {D : Nat → Nat} {gr wl : Nat → Int32} {k y q n h : Nat} {dn e : Int32}
end SXNM
theorem dgT_hd {gr wl : Nat → Int32} {k h y : Nat} {dn e : Int32} (hh : h < 48) (hy : y < 4) : ∃ h2, h2 < 48 ∧ (dgT gr wl k h y dn e).1 = nI h2 := by
  unfold dgT
  rcases bsd_or hh hy with hb | ⟨t, ht, hb⟩
  · rw [if_pos hb]
    exact ⟨h, hh, rfl⟩
  · rw [if_neg (show ¬ bsd h y = -1 by rw [hb]; exact nI_ne1 (by omega))]
    split
    · exact ⟨h, hh, rfl⟩
    · split
      · exact ⟨t, ht, hb⟩
      · exact ⟨h, hh, rfl⟩
def NOo (l : List Int32) (N : Nat) : Prop := ∀ i, i < N → ¬ (gF l i 1 = 1 ∧ gF l i 5 = 0)
theorem meF_no {l : List Int32} {h : Nat} : ∀ j, NOo l j → meF l h j = false
  | 0, _ => rfl
  | j + 1, hn => by
    show (meF l h j || (decide (gF l j 1 = 1 ∧ gF l j 5 = 0) && nearB (iN (gF l j 2)) h)) = false
    rw [meF_no j (fun i hi => hn i (by omega)), decide_eq_false (hn j (by omega))]
    rfl
theorem metR_no {l : List Int32} {g : Nat} (hn : NOo l (maN l)) : metR l g = l := if_neg (fun z => by
  have z2 := z.2
  rw [meF_no _ hn] at z2
  exact absurd z2 (by decide))
theorem mtL_no {l : List Int32} (hn : NOo l (maN l)) : ∀ q j, mtL q j l = l
  | 0, _ => rfl
  | q + 1, j => by
    show mtL q (j + 1) (metR l j) = l
    rw [metR_no hn]
    exact mtL_no hn q (j + 1)
section SXDI
variable {l m : List Int32} {i j k c : Nat}
theorem gF_dig (hk : k < 6) (hij : i ≠ j) : gF (digR l j) i k = gF l i k := by
  unfold gF digR
  rw [gd_ne (by omega), gd_ne (by omega), gd_ne (by omega)]
theorem gF_digo (hk : k = 0 ∨ k = 1 ∨ k = 3) : gF (digR l j) j k = gF l j k := by
  unfold gF digR
  rw [gd_ne (by omega), gd_ne (by omega), gd_ne (by omega)]
theorem gF_dig2 (hl : l.length = 172) (hj : j < 10) : gF (digR l j) j 2 = (digT l j).1 := by
  unfold gF digR
  rw [gd_ne (by omega), gd_ne (by omega), gd_eq (by omega)]
theorem gF_dig4 (hl : l.length = 172) (hj : j < 10) : gF (digR l j) j 4 = (digT l j).2.1 := by
  unfold gF digR
  rw [gd_ne (by omega), gd_eq (by rw [List.length_set]; omega)]
theorem gF_dig5 (hl : l.length = 172) (hj : j < 10) : gF (digR l j) j 5 = (digT l j).2.2 := by
  unfold gF digR
  rw [gd_eq (by rw [List.length_set, List.length_set]; omega)]
theorem gd_dig (hc : c < 48) : gdL (digR l j) c = gdL l c := by
  unfold gdL digR
  rw [gd_ne (by omega), gd_ne (by omega), gd_ne (by omega)]
theorem wl_dig (hc : c < 48) : wlL (digR l j) c = wlL l c := by
  unfold wlL digR
  rw [gd_ne (by omega), gd_ne (by omega), gd_ne (by omega)]
theorem len_dig : (digR l j).length = l.length := by
  unfold digR
  rw [List.length_set, List.length_set, List.length_set]
theorem digT_cg (hg : ∀ c, c < 48 → gdL l c = gdL m c) (hw : ∀ c, c < 48 → wlL l c = wlL m c) (hf : ∀ k, k < 6 → gF l j k = gF m j k) (h2 : iN (gF m j 2) < 48) (h3 : iN (gF m j 3) < 4) : digT l j = digT m j := by
  unfold digT
  rw [hf 0 (by decide), hf 2 (by decide), hf 3 (by decide), hf 4 (by decide), hf 5 (by decide)]
  exact dgT_congr h2 h3 hg hw
end SXDI
def dg1 (l : List Int32) (j : Nat) : List Int32 := if gF l j 5 = 0 then digR l j else l
section SXD1
variable {l : List Int32} {i j k c : Nat}
theorem gF_dg1 (hk : k < 6) (hij : i ≠ j) : gF (dg1 l j) i k = gF l i k := by
  unfold dg1
  split
  · exact gF_dig hk hij
  · rfl
theorem gd_dg1 (hc : c < 48) : gdL (dg1 l j) c = gdL l c := by
  unfold dg1
  split
  · exact gd_dig hc
  · rfl
theorem wl_dg1 (hc : c < 48) : wlL (dg1 l j) c = wlL l c := by
  unfold dg1
  split
  · exact wl_dig hc
  · rfl
theorem len_dg1 : (dg1 l j).length = l.length := by
  unfold dg1
  split
  · exact len_dig
  · rfl
end SXD1
theorem dgL_s {q j : Nat} {l : List Int32} : dgL (q + 1) j l = dgL q (j + 1) (dg1 l j) := rfl
theorem dgL_lo : ∀ (q j : Nat) (l : List Int32) (i k : Nat), i < j → k < 6 → gF (dgL q j l) i k = gF l i k
  | 0, _, _, _, _, _, _ => rfl
  | q + 1, j, l, i, k, hi, hk => by rw [dgL_s, dgL_lo q (j + 1) _ i k (by omega) hk, gF_dg1 hk (by omega)]
theorem dgL_gd {c : Nat} (hc : c < 48) : ∀ (q j : Nat) (l : List Int32), gdL (dgL q j l) c = gdL l c
  | 0, _, _ => rfl
  | q + 1, j, l => by rw [dgL_s, dgL_gd hc q (j + 1), gd_dg1 hc]
theorem dgL_wl {c : Nat} (hc : c < 48) : ∀ (q j : Nat) (l : List Int32), wlL (dgL q j l) c = wlL l c
  | 0, _, _ => rfl
  | q + 1, j, l => by rw [dgL_s, dgL_wl hc q (j + 1), wl_dg1 hc]
theorem dgL_ln : ∀ (q j : Nat) (l : List Int32), (dgL q j l).length = l.length
  | 0, _, _ => rfl
  | q + 1, j, l => by rw [dgL_s, dgL_ln q (j + 1), len_dg1]
theorem dg1_cg {l m : List Int32} {i k : Nat} (hi : i < 10) (hk : k < 6) (hl : l.length = 172) (hm : m.length = 172) (hg : ∀ c, c < 48 → gdL l c = gdL m c) (hw : ∀ c, c < 48 → wlL l c = wlL m c) (hf : ∀ k, k < 6 → gF l i k = gF m i k) (h2 : iN (gF m i 2) < 48) (h3 : iN (gF m i 3) < 4) : gF (dg1 l i) i k = gF (dg1 m i) i k := by
  unfold dg1
  rw [hf 5 (by decide)]
  by_cases h5 : gF m i 5 = 0
  · rw [if_pos h5, if_pos h5]
    have et := digT_cg hg hw hf h2 h3
    rcases (show k = 0 ∨ k = 1 ∨ k = 2 ∨ k = 3 ∨ k = 4 ∨ k = 5 by omega) with rfl | rfl | rfl | rfl | rfl | rfl
    · rw [gF_digo (by omega), gF_digo (by omega), hf 0 (by decide)]
    · rw [gF_digo (by omega), gF_digo (by omega), hf 1 (by decide)]
    · rw [gF_dig2 hl hi, gF_dig2 hm hi, et]
    · rw [gF_digo (by omega), gF_digo (by omega), hf 3 (by decide)]
    · rw [gF_dig4 hl hi, gF_dig4 hm hi, et]
    · rw [gF_dig5 hl hi, gF_dig5 hm hi, et]
  · rw [if_neg h5, if_neg h5]
    exact hf k hk
theorem dgL_at : ∀ (q j : Nat) (l : List Int32) (i k : Nat), j ≤ i → i < j + q → i < 10 → k < 6 → l.length = 172 → iN (gF l i 2) < 48 → iN (gF l i 3) < 4 → gF (dgL q j l) i k = gF (dg1 l i) i k
  | 0, j, l, i, k, h1, h2, _, _, _, _, _ => absurd h1 (by omega)
  | q + 1, j, l, i, k, h1, h2, hi, hk, hl, a2, a3 => by
    rw [dgL_s]
    by_cases e : i = j
    · subst e
      exact dgL_lo q (i + 1) _ i k (by omega) hk
    · have e2 : gF (dg1 l j) i 2 = gF l i 2 := gF_dg1 (by decide) e
      have e3 : gF (dg1 l j) i 3 = gF l i 3 := gF_dg1 (by decide) e
      rw [dgL_at q (j + 1) _ i k (by omega) (by omega) hi hk (len_dg1.trans hl) (by rw [e2]; exact a2) (by rw [e3]; exact a3)]
      exact dg1_cg hi hk (len_dg1.trans hl) hl (fun c hc => gd_dg1 hc) (fun c hc => wl_dg1 hc) (fun k hk => gF_dg1 hk e) a2 a3
def Mi (gr wl : Nat → Int32) (N t k y : Nat) (m : List Int32) (h : Nat) (dn e : Int32) : Prop := m.length = 172 ∧ m.getD 1 0 = nI N ∧ (∀ c, c < 48 → gdL m c = gr c ∧ wlL m c = wl c) ∧ NOo m N ∧ (gF m t 0 = nI k ∧ gF m t 2 = nI h ∧ gF m t 3 = nI y ∧ gF m t 4 = dn ∧ gF m t 5 = e) ∧ ¬ gF m t 1 = 1
theorem gF_s0 {l : List Int32} {v : Int32} {i k : Nat} : gF (l.set 0 v) i k = gF l i k := by
  unfold gF
  rw [gd_ne (by omega)]
theorem Mi.night {gr wl : Nat → Int32} {N t k y hd : Nat} {m : List Int32} {dn e : Int32} (h : Mi gr wl N t k y m hd dn e) (hN : N ≤ 10) (ht : t < N) (hh : hd < 48) (hy : y < 4) (hk : k < 6) (he : e = 0) (hm : ∀ i, i < N → iN (gF m i 2) < 48 ∧ iN (gF m i 3) < 4) : ∃ h2, h2 < 48 ∧ (dgT gr wl k hd y dn e).1 = nI h2 ∧ Mi gr wl N t k y (nigR m) h2 (dgT gr wl k hd y dn e).2.1 (dgT gr wl k hd y dn e).2.2 := by
  obtain ⟨hl, h1, hg, hno, ⟨f0, f2, f3, f4, f5⟩, hs⟩ := h
  have eN : maN m = N := maN_n h1 hN
  have at1 : ∀ i, i < N → ∀ k, k < 6 → gF (dgL N 0 m) i k = gF (dg1 m i) i k := fun i hi k hk => dgL_at N 0 m i k (by omega) (by omega) (by omega) hk hl (hm i hi).1 (hm i hi).2
  have hno2 : NOo (dgL N 0 m) N := by
    intro i hi z
    rw [at1 i hi 1 (by decide), at1 i hi 5 (by decide)] at z
    unfold dg1 at z
    by_cases h5 : gF m i 5 = 0
    · rw [if_pos h5, gF_digo (by omega)] at z
      exact hno i hi ⟨z.1, h5⟩
    · rw [if_neg h5] at z
      exact h5 z.2
  have eN2 : maN (dgL N 0 m) = N := maN_n ((dgL_1 N 0 m).trans h1) hN
  have en : nigR m = (dgL N 0 m).set 0 ((dgL N 0 m).getD 0 0 + 1) := by
    unfold nigR
    rw [eN, mtL_no (by rw [eN2]; exact hno2)]
  have et : digT m t = dgT gr wl k hd y dn e := by
    unfold digT
    rw [f0, f2, f3, f4, f5, iN_n (by omega), iN_n (by omega), iN_n (by omega)]
    exact dgT_congr hh hy (fun c hc => (hg c hc).1) (fun c hc => (hg c hc).2)
  have atT : ∀ k, k < 6 → gF (nigR m) t k = gF (digR m t) t k := by
    intro k hk
    rw [en, gF_s0, at1 t ht k hk]
    unfold dg1
    rw [if_pos (by rw [f5]; exact he)]
  obtain ⟨h2, hh2, e2⟩ := dgT_hd (gr := gr) (wl := wl) (k := k) (dn := dn) (e := e) hh hy
  refine ⟨h2, hh2, e2, ?_, ?_, fun c hc => ?_, fun i hi => ?_, ⟨?_, ?_, ?_, ?_, ?_⟩, ?_⟩
  · rw [en, List.length_set, dgL_ln]
    exact hl
  · exact nigR_1.trans h1
  · rw [en]
    unfold gdL wlL
    rw [gd_ne (by omega), gd_ne (by omega)]
    exact ⟨(dgL_gd hc N 0 m).trans (hg c hc).1, (dgL_wl hc N 0 m).trans (hg c hc).2⟩
  · rw [en, gF_s0, gF_s0]
    exact hno2 i hi
  · rw [atT 0 (by decide), gF_digo (by omega)]
    exact f0
  · rw [atT 2 (by decide), gF_dig2 hl (by omega), et]
    exact e2
  · rw [atT 3 (by decide), gF_digo (by omega)]
    exact f3
  · rw [atT 4 (by decide), gF_dig4 hl (by omega), et]
  · rw [atT 5 (by decide), gF_dig5 hl (by omega), et]
  · rw [atT 1 (by decide), gF_digo (by omega)]
    exact hs
section SXO1
variable {l : List Int32} {i j k p : Nat}
end SXO1
section SXMA
variable {l : List Int32} {a1 a2 : Int32} {n x t : Nat}
end SXMA
section SXWF
variable {f : Nat → Int32} {q j : Nat} {s b : Int32}
end SXWF
section SXWO
variable {l : List Int32} {a1 : Int32} {n x : Nat}
end SXWO
end
-- 89y45.ansC.lean.txt
section
theorem Mi.wb {gr wl : Nat → Int32} {N t k y h : Nat} {m : List Int32} {dn e : Int32} (hm : Mi gr wl N t k y m h dn e) (hW : ∀ c, c < 48 → ∃ b, b < 2 ∧ wl c = nI b) : WB m := fun c hc => by
  obtain ⟨b, hb, eb⟩ := hW c hc
  exact ⟨b, hb, (hm.2.2.1 c hc).2.trans eb⟩
end
-- 89y46.where.lean.txt
section
section SXAB
variable {l : List Int32} {k c j : Nat}
theorem dpF_n {d t : Nat} (ht : t < 48) (e : l.getD (163 + d) 0 = nI t) : dpF l d = pesF l t := by
  unfold dpF
  rw [e, iN_n (by omega)]
end SXAB
section SXLF
variable {l : List Int32} {k c j : Nat}
end SXLF
section SXWB
variable {l : List Int32} {a1 : Int32} {k : Nat}
end SXWB
end
-- 89y47.ansD.lean.txt
section
def Snd (l : List Int32) (w : List sx_C) : Prop := rel w 1 l ∧ FIT w 1 ∧ SK w
theorem Snd.same {l : List Int32} {w w2 : List sx_C} (h : Snd l w) (hI : WI w) (hs : ∀ a, (a < 29 ∨ (44 ≤ a ∧ a < 96)) → w2[a]? = w[a]?) : Snd l w2 := ⟨h.1.same hI (Or.inl rfl) (fun a h1 h2 => hs a (by omega)), fun c hc => by rw [ia_of (hs 45 (by omega)), ia_of (hs (1 + 1) (by omega))]; exact h.2.1 c hc, h.2.2.same (fun a h1 h2 => hs a (by omega))⟩
section SXWX
variable {xs : Option (List Int32)} {d mi pc pc2 a idx p : Nat} {ls : sx_L} {r : List Value} {w w0 : List sx_C} {P : Option Value → List sx_C → Prop}
end SXWX
end
-- 89y48.read.lean.txt
section
def rdB (N : Nat → Int64) (m : List Int32) : Nat → Bool
  | 0 => true
  | j + 1 => rdB N m j && decide (N j = (dpF m j).toInt64)
def rnF (N : Nat → Int64) (n : Nat) : Nat → Nat → List Int32 → Int32
  | 0, _, _ => -1000000004
  | q + 1, j, m => if rdB N m n = true then nI j else rnF N n q (j + 1) (nigR m)
section SXRD
variable {N : Nat → Int64} {m : List Int32} {n q j : Nat}
theorem rdB_y (h : rdB N m j = true) (h2 : N j = (dpF m j).toInt64) : rdB N m (j + 1) = true := by
  show (rdB N m j && decide (N j = (dpF m j).toInt64)) = true
  rw [h, decide_eq_true h2]
  rfl
theorem rdB_n (h2 : ¬ N j = (dpF m j).toInt64) : rdB N m (j + 1) = false := by
  show (rdB N m j && decide (N j = (dpF m j).toInt64)) = false
  rw [decide_eq_false h2, Bool.and_false]
theorem rdB_dn (h : rdB N m j = false) : ∀ k : Nat, j ≤ k → rdB N m k = false
  | 0, hk => by
    obtain rfl : j = 0 := by omega
    exact h
  | k + 1, hk => by
    by_cases e : j = k + 1
    · rw [← e]
      exact h
    · show (rdB N m k && decide (N k = (dpF m k).toInt64)) = false
      rw [rdB_dn h k (by omega), Bool.false_and]
theorem rnF_y (h : rdB N m n = true) : rnF N n (q + 1) j m = nI j := by rw [rnF, if_pos h]
theorem rnF_n (h : rdB N m n = false) : rnF N n (q + 1) j m = rnF N n q (j + 1) (nigR m) := by rw [rnF, if_neg (by rw [h]; decide)]
end SXRD
theorem metR_o {l : List Int32} {g k : Nat} (hg : g < 10) (hk : k = 2 ∨ (4 ≤ k ∧ k < 103) ∨ 163 ≤ k) : (metR l g).getD k 0 = l.getD k 0 := by
  unfold metR
  split
  · rw [gd_ne (by omega), gd_ne (by omega)]
  · rfl
theorem digR_o {l : List Int32} {g k : Nat} (hg : g < 10) (hk : k = 2 ∨ (4 ≤ k ∧ k < 103) ∨ 163 ≤ k) : (digR l g).getD k 0 = l.getD k 0 := by
  unfold digR
  rw [gd_ne (by omega), gd_ne (by omega), gd_ne (by omega)]
theorem dgL_o {k : Nat} (hk : k = 2 ∨ (4 ≤ k ∧ k < 103) ∨ 163 ≤ k) : ∀ (q j : Nat) (l : List Int32), j + q ≤ 10 → (dgL q j l).getD k 0 = l.getD k 0
  | 0, _, _, _ => rfl
  | q + 1, j, l, h => by
    show (dgL q (j + 1) (if gF l j 5 = 0 then digR l j else l)).getD k 0 = _
    rw [dgL_o hk q (j + 1) _ (by omega)]
    split
    · exact digR_o (by omega) hk
    · rfl
theorem mtL_o {k : Nat} (hk : k = 2 ∨ (4 ≤ k ∧ k < 103) ∨ 163 ≤ k) : ∀ (q j : Nat) (l : List Int32), j + q ≤ 10 → (mtL q j l).getD k 0 = l.getD k 0
  | 0, _, _, _ => rfl
  | q + 1, j, l, h => by
    show (mtL q (j + 1) (metR l j)).getD k 0 = _
    rw [mtL_o hk q (j + 1) _ (by omega), metR_o (by omega) hk]
theorem nig_o {l : List Int32} {n k : Nat} (en : l.getD 1 0 = nI n) (hn : n ≤ 10) (hk : k = 2 ∨ (4 ≤ k ∧ k < 103) ∨ 163 ≤ k) : (nigR l).getD k 0 = l.getD k 0 := by
  unfold nigR
  rw [gd_ne (by omega), maN_n en hn, mtL_o hk n 0 _ (by omega), dgL_o hk n 0 _ (by omega)]
def SGr (l p : List Int32) : Prop := p.getD 1 0 = l.getD 1 0 ∧ p.getD 2 0 = l.getD 2 0 ∧ (∀ c, c < 48 → p.getD (7 + c) 0 = l.getD (7 + c) 0) ∧ ∀ d, p.getD (163 + d) 0 = l.getD (163 + d) 0
theorem SGr.rf {l : List Int32} : SGr l l := ⟨rfl, rfl, fun _ _ => rfl, fun _ => rfl⟩
theorem SGr.night {l p : List Int32} {n : Nat} (h : SGr l p) (en : l.getD 1 0 = nI n) (hn : n ≤ 10) : SGr l (nigR p) := by
  have en2 : p.getD 1 0 = nI n := h.1.trans en
  exact ⟨nigR_1.trans h.1, (nig_o en2 hn (by omega)).trans h.2.1, fun c hc => (nig_o en2 hn (by omega)).trans (h.2.2.1 c hc), fun d => (nig_o en2 hn (by omega)).trans (h.2.2.2 d)⟩
theorem SGr.far {l p : List Int32} (h : SGr l p) {f t : Nat} (hf : f < 48) (ht : t < 48) : farN (gdR p) f t = farN (gdR l) f t := farN_congr (fun c hc => by rw [gdR_at hc, gdR_at hc]; exact h.2.2.1 c hc) hf ht
def redA (F : Nat → Int32 × Int32) (N : Nat → Nat → Int64) (l : List Int32) (a1 : Int32) : Int32 := if 0 ≤ a1 ∧ a1 ≤ 3 then (if (F (iN a1)).1 = 0 then -1000000006 else (if l.getD 0 0 + 60 ≤ 999 then rnF (N (iN a1)) (min (iN (F (iN a1)).2) (iN (l.getD 2 0))) 61 0 l else -1000000005)) else -1000000001
section SXRA
variable {F : Nat → Int32 × Int32} {N : Nat → Nat → Int64} {l : List Int32} {a1 b : Int32} {s z m : Nat}
theorem red_1 (h : ¬ (0 ≤ a1 ∧ a1 ≤ 3)) : redA F N l a1 = -1000000001 := if_neg h
theorem red_2 {y : Int32} (hs : s < 4) (e : F s = (b, y)) (h : b = 0) : redA F N l (nI s) = -1000000006 := by
  unfold redA
  rw [iN_n (by omega), e, if_pos (cp_r hs), if_pos h]
theorem red_3 {y : Int32} (hs : s < 4) (e : F s = (b, y)) (h : ¬ b = 0) (h2 : ¬ l.getD 0 0 + 60 ≤ 999) : redA F N l (nI s) = -1000000005 := by
  unfold redA
  rw [iN_n (by omega), e, if_pos (cp_r hs), if_neg h, if_neg h2]
theorem red_y (hs : s < 4) (hz : z ≤ 40) (hm : m ≤ 9) (e : F s = (b, nI z)) (h : ¬ b = 0) (em : l.getD 2 0 = nI m) (h2 : l.getD 0 0 + 60 ≤ 999) : redA F N l (nI s) = rnF (N s) (min z m) 61 0 l := by
  unfold redA
  rw [iN_n (by omega), e, if_pos (cp_r hs), if_neg h, if_pos h2, em, iN_n (by omega)]
  show rnF (N s) (min z (iN (nI m))) 61 0 l = _
  rw [iN_n (by omega)]
end SXRA
end
-- 89y49.ansE.lean.txt
section
def Snt (l p : List Int32) (w : List sx_C) : Prop := Snd l w ∧ rel w 29 p
set_option maxRecDepth 20000 in
set_option maxHeartbeats 4000000 in
theorem x68t {xs : Option (List Int32)} {d c n : Nat} {w : List sx_C} {l p : List Int32} (hI : WI w) (hR : rel w 29 p) (hR1 : rel w 1 l) (hG : SGr l p) (hc : c < 48) (hn : n ≤ 10) (en : p.getD 1 0 = nI n) (hw : ∀ f, f < 48 → (ia w (47 + c)).getD f 0 = nI (farN (gdR l) f c)) : ∀ (q j : Nat), j + q = n → sx_RP xs (d + 4) 68 15 [(0, .ref 0), (1, .ref 29), (2, .int (nI c)), (3, .ref (47 + c)), (4, .int (peF p c j)), (5, .int (nI j))] [] w (fun r w2 => r = some (.int (peF p c n)) ∧ w2 = w)
  | 0, j, hj => by
    obtain rfl : j = n := by omega
    refine sx_RP.step (pc2 := 17) (ls2 := [(0, .ref 0), (1, .ref 29), (2, .int (nI c)), (3, .ref (47 + c)), (4, .int (peF p c j)), (5, .int (nI j))]) (st2 := [.int (nI j)]) (w3 := w) rfl rfl ?_
    refine sx_RP.step (pc2 := 18) (ls2 := [(0, .ref 0), (1, .ref 29), (2, .int (nI c)), (3, .ref (47 + c)), (4, .int (peF p c j)), (5, .int (nI j))]) (st2 := [.ref 29, .int (nI j)]) (w3 := w) rfl rfl ?_
    refine sx_RP.gc (k := 3) hI (Or.inr (Or.inr rfl)) rfl rfl (by omega) (show _ = 21 from rfl) ?_
    rw [(hR.many.trans en)]
    refine sx_RP.br (p1 := 68) (l1 := [(0, .ref 0), (1, .ref 29), (2, .int (nI c)), (3, .ref (47 + c)), (4, .int (peF p c j)), (5, .int (nI j))]) (s1 := []) (v1 := w) rfl rfl (fun _ => ?_) (fun q => absurd (nI_le (a := j) (b := j) (by omega) (by omega)) (of_decide_eq_false q))
    refine sx_RP.step (pc2 := 70) (ls2 := [(0, .ref 0), (1, .ref 29), (2, .int (nI c)), (3, .ref (47 + c)), (4, .int (peF p c j)), (5, .int (nI j))]) (st2 := [.int (peF p c j)]) (w3 := w) rfl rfl ?_
    refine sx_RP.ret (r := (some (.int (peF p c j)))) rfl rfl ?_
    exact ⟨rfl, rfl⟩
  | q + 1, j, hj => by
    refine sx_RP.step (pc2 := 17) (ls2 := [(0, .ref 0), (1, .ref 29), (2, .int (nI c)), (3, .ref (47 + c)), (4, .int (peF p c j)), (5, .int (nI j))]) (st2 := [.int (nI j)]) (w3 := w) rfl rfl ?_
    refine sx_RP.step (pc2 := 18) (ls2 := [(0, .ref 0), (1, .ref 29), (2, .int (nI c)), (3, .ref (47 + c)), (4, .int (peF p c j)), (5, .int (nI j))]) (st2 := [.ref 29, .int (nI j)]) (w3 := w) rfl rfl ?_
    refine sx_RP.gc (k := 3) hI (Or.inr (Or.inr rfl)) rfl rfl (by omega) (show _ = 21 from rfl) ?_
    rw [(hR.many.trans en)]
    refine sx_RP.br (p2 := 24) (l2 := [(0, .ref 0), (1, .ref 29), (2, .int (nI c)), (3, .ref (47 + c)), (4, .int (peF p c j)), (5, .int (nI j))]) (s2 := []) (v2 := w) rfl rfl (fun q => absurd (of_decide_eq_true q) (fun z => absurd ((nI_leI (a := n) (b := j) (by omega) (by omega)).mp z) (by omega))) (fun _ => ?_)
    refine sx_RP.step (pc2 := 25) (ls2 := [(0, .ref 0), (1, .ref 29), (2, .int (nI c)), (3, .ref (47 + c)), (4, .int (peF p c j)), (5, .int (nI j))]) (st2 := [.ref 29]) (w3 := w) rfl rfl ?_
    refine sx_RP.gref (k := 2) (b := 31) hI (Or.inr (Or.inr rfl)) rfl rfl (by omega) (show _ = 28 from rfl) ?_
    refine sx_RP.step (pc2 := 30) (ls2 := [(0, .ref 0), (1, .ref 29), (2, .int (nI c)), (3, .ref (47 + c)), (4, .int (peF p c j)), (5, .int (nI j))]) (st2 := [.int (nI j), .ref 31]) (w3 := w) rfl rfl ?_
    refine sx_RP.ald (v := .ref (29 + 4 + j)) rfl (hI.1.aG (Or.inr (Or.inr rfl))) rfl (grA_at (show j < 10 by omega)) (show _ = 31 from rfl) ?_
    refine sx_RP.step (pc2 := 33) (ls2 := [(6, .ref (29 + 4 + j)), (0, .ref 0), (1, .ref 29), (2, .int (nI c)), (3, .ref (47 + c)), (4, .int (peF p c j)), (5, .int (nI j))]) (st2 := []) (w3 := w) rfl rfl ?_
    refine sx_RP.step (pc2 := 35) (ls2 := [(6, .ref (29 + 4 + j)), (0, .ref 0), (1, .ref 29), (2, .int (nI c)), (3, .ref (47 + c)), (4, .int (peF p c j)), (5, .int (nI j))]) (st2 := [.ref (29 + 4 + j)]) (w3 := w) rfl rfl ?_
    refine sx_RP.step (pc2 := 36) (ls2 := [(6, .ref (29 + 4 + j)), (0, .ref 0), (1, .ref 29), (2, .int (nI c)), (3, .ref (47 + c)), (4, .int (peF p c j)), (5, .int (nI j))]) (st2 := [.int 0, .ref (29 + 4 + j)]) (w3 := w) rfl rfl ?_
    rcases Decidable.em (gF p j 1 = 0 ∧ gF p j 5 = 0) with hc2 | hc2
    · refine sx_RP.cu (as := [.ref (29 + 4 + j), .int 0]) (rest2 := []) (st3 := [.int 1]) rfl rfl (sx_inv_v2 (mi := 68) (k := 186) (st := [.int 0, .ref (29 + 4 + j)]) (w := w) rfl rfl (hI.1.oG (gAd.of (Or.inr (Or.inr rfl)) (show j < 10 by omega))) rfl rfl rfl) rfl rfl (x43y hI (gAd.of (Or.inr (Or.inr rfl)) (show j < 10 by omega)) ⟨(hR.ga (by rw [en, iN_n (by omega)]; omega) (by decide)).trans hc2.1, (hR.ga (by rw [en, iN_n (by omega)]; omega) (by decide)).trans hc2.2⟩) rfl ?_
      refine sx_RP.step (pc2 := 42) (ls2 := [(6, .ref (29 + 4 + j)), (0, .ref 0), (1, .ref 29), (2, .int (nI c)), (3, .ref (47 + c)), (4, .int (peF p c j)), (5, .int (nI j))]) (st2 := []) (w3 := w) rfl rfl ?_
      refine sx_RP.step (pc2 := 44) (ls2 := [(6, .ref (29 + 4 + j)), (0, .ref 0), (1, .ref 29), (2, .int (nI c)), (3, .ref (47 + c)), (4, .int (peF p c j)), (5, .int (nI j))]) (st2 := [.int (peF p c j)]) (w3 := w) rfl rfl ?_
      refine sx_RP.step (pc2 := 45) (ls2 := [(6, .ref (29 + 4 + j)), (0, .ref 0), (1, .ref 29), (2, .int (nI c)), (3, .ref (47 + c)), (4, .int (peF p c j)), (5, .int (nI j))]) (st2 := [.ref 0, .int (peF p c j)]) (w3 := w) rfl rfl ?_
      refine sx_RP.step (pc2 := 47) (ls2 := [(6, .ref (29 + 4 + j)), (0, .ref 0), (1, .ref 29), (2, .int (nI c)), (3, .ref (47 + c)), (4, .int (peF p c j)), (5, .int (nI j))]) (st2 := [.ref (29 + 4 + j), .ref 0, .int (peF p c j)]) (w3 := w) rfl rfl ?_
      refine sx_RP.gg (k := 0) hI (gAd.of (Or.inr (Or.inr rfl)) (show j < 10 by omega)) rfl rfl (by decide) (show _ = 50 from rfl) ?_
      obtain ⟨x1, hx2, ex3⟩ : inR (fi w (29 + 4 + j) 0) 5 := hI.gk (k := 0) (gAd.of (Or.inr (Or.inr rfl)) (show j < 10 by omega)) (by decide)
      rw [ex3]
      refine sx_RP.step (pc2 := 52) (ls2 := [(6, .ref (29 + 4 + j)), (0, .ref 0), (1, .ref 29), (2, .int (nI c)), (3, .ref (47 + c)), (4, .int (peF p c j)), (5, .int (nI j))]) (st2 := [.ref (29 + 4 + j), .int (nI x1), .ref 0, .int (peF p c j)]) (w3 := w) rfl rfl ?_
      refine sx_RP.gg (k := 2) hI (gAd.of (Or.inr (Or.inr rfl)) (show j < 10 by omega)) rfl rfl (by decide) (show _ = 55 from rfl) ?_
      obtain ⟨x4, hx5, ex6⟩ : inR (fi w (29 + 4 + j) 2) 47 := hI.gk (k := 2) (gAd.of (Or.inr (Or.inr rfl)) (show j < 10 by omega)) (by decide)
      rw [ex6]
      refine sx_RP.step (pc2 := 56) (ls2 := [(6, .ref (29 + 4 + j)), (0, .ref 0), (1, .ref 29), (2, .int (nI c)), (3, .ref (47 + c)), (4, .int (peF p c j)), (5, .int (nI j))]) (st2 := [.ref (47 + c), .int (nI x4), .int (nI x1), .ref 0, .int (peF p c j)]) (w3 := w) rfl rfl ?_
      refine sx_RP.cu (as := [.ref 0, .int (nI x1), .int (nI x4), .ref (47 + c)]) (rest2 := [.int (peF p c j)]) (st3 := [.int (ldV x1 (iN ((ia w (1 + 1)).getD x4 0)) / nI (1 + farN (gdR l) x4 c)), .int (peF p c j)]) rfl rfl (sx_inv_v2 (mi := 68) (k := 235) (st := [.ref (47 + c), .int (nI x4), .int (nI x1), .ref 0, .int (peF p c j)]) (w := w) rfl rfl hI.1.o0 rfl rfl rfl) rfl rfl (x69 hI (show x1 ≤ 5 by omega) (show x4 < 48 by omega) hc (far_fin _ (show x4 < 48 by omega) hc) (hw x4 (by omega))) rfl ?_
      refine sx_RP.step (pc2 := 60) (ls2 := [(6, .ref (29 + 4 + j)), (0, .ref 0), (1, .ref 29), (2, .int (nI c)), (3, .ref (47 + c)), (4, .int (peF p c j)), (5, .int (nI j))]) (st2 := [.int ((peF p c j) + (ldV x1 (iN ((ia w (1 + 1)).getD x4 0)) / nI (1 + farN (gdR l) x4 c)))]) (w3 := w) rfl rfl ?_
      refine sx_RP.step (pc2 := 62) (ls2 := [(4, .int ((peF p c j) + (ldV x1 (iN ((ia w (1 + 1)).getD x4 0)) / nI (1 + farN (gdR l) x4 c)))), (6, .ref (29 + 4 + j)), (0, .ref 0), (1, .ref 29), (2, .int (nI c)), (3, .ref (47 + c)), (5, .int (nI j))]) (st2 := []) (w3 := w) rfl rfl ?_
      refine sx_RP.step (pc2 := 65) (ls2 := [(5, .int ((nI j) + 1)), (4, .int ((peF p c j) + (ldV x1 (iN ((ia w (1 + 1)).getD x4 0)) / nI (1 + farN (gdR l) x4 c)))), (6, .ref (29 + 4 + j)), (0, .ref 0), (1, .ref 29), (2, .int (nI c)), (3, .ref (47 + c))]) (st2 := []) (w3 := w) rfl rfl ?_
      rw [nI_1 j]
      refine sx_RP.step (pc2 := 15) (ls2 := [(5, .int (nI (j + 1))), (4, .int ((peF p c j) + (ldV x1 (iN ((ia w (1 + 1)).getD x4 0)) / nI (1 + farN (gdR l) x4 c)))), (6, .ref (29 + 4 + j)), (0, .ref 0), (1, .ref 29), (2, .int (nI c)), (3, .ref (47 + c))]) (st2 := []) (w3 := w) rfl rfl ?_
      obtain ⟨s9, hs9, es9⟩ : inR ((ia w (1 + 1)).getD x4 0) 3 := hI.st (Or.inl rfl) (show x4 < 48 by omega)
      have es : p.getD (7 + x4) 0 = nI s9 := (hG.2.2.1 x4 (by omega)).trans ((hR1.gr (by omega)).symm.trans es9)
      have e9 : peF p c j + ldV x1 (iN ((ia w (1 + 1)).getD x4 0)) / nI (1 + farN (gdR l) x4 c) = peF p c (j + 1) := by
        show _ = peF p c j + heF p c j
        rw [he_y (k := x1) (h := x4) (s := s9) hc2 (by omega) (by omega) (by omega) ((hR.ga (by rw [en, iN_n (by omega)]; omega) (by decide)).symm.trans ex3) ((hR.ga (by rw [en, iN_n (by omega)]; omega) (by decide)).symm.trans ex6) es, es9, iN_n (by omega), hG.far (by omega) hc]
      rw [e9]
      exact sx_RP.ls (sx_lr.cons rfl (sx_lr.cons rfl (sx_lr.cons rfl (sx_lr.cons rfl (sx_lr.cons rfl (sx_lr.cons rfl sx_lr.nil)))))) (x68t hI hR hR1 hG hc hn en hw q (j + 1) (by omega))
    · refine sx_RP.cu (as := [.ref (29 + 4 + j), .int 0]) (rest2 := []) (st3 := [.int 0]) rfl rfl (sx_inv_v2 (mi := 68) (k := 186) (st := [.int 0, .ref (29 + 4 + j)]) (w := w) rfl rfl (hI.1.oG (gAd.of (Or.inr (Or.inr rfl)) (show j < 10 by omega))) rfl rfl rfl) rfl rfl (x43n hI (gAd.of (Or.inr (Or.inr rfl)) (show j < 10 by omega)) (fun z => hc2 ⟨(hR.ga (by rw [en, iN_n (by omega)]; omega) (by decide)).symm.trans z.1, (hR.ga (by rw [en, iN_n (by omega)]; omega) (by decide)).symm.trans z.2⟩)) rfl ?_
      refine sx_RP.step (pc2 := 62) (ls2 := [(6, .ref (29 + 4 + j)), (0, .ref 0), (1, .ref 29), (2, .int (nI c)), (3, .ref (47 + c)), (4, .int (peF p c j)), (5, .int (nI j))]) (st2 := []) (w3 := w) rfl rfl ?_
      refine sx_RP.step (pc2 := 65) (ls2 := [(5, .int ((nI j) + 1)), (6, .ref (29 + 4 + j)), (0, .ref 0), (1, .ref 29), (2, .int (nI c)), (3, .ref (47 + c)), (4, .int (peF p c j))]) (st2 := []) (w3 := w) rfl rfl ?_
      rw [nI_1 j]
      refine sx_RP.step (pc2 := 15) (ls2 := [(5, .int (nI (j + 1))), (6, .ref (29 + 4 + j)), (0, .ref 0), (1, .ref 29), (2, .int (nI c)), (3, .ref (47 + c)), (4, .int (peF p c j))]) (st2 := []) (w3 := w) rfl rfl ?_
      have e9 : peF p c j = peF p c (j + 1) := by show _ = peF p c j + heF p c j; rw [he_n hc2, Int32.add_zero]
      rw [e9]
      exact sx_RP.ls (sx_lr.cons rfl (sx_lr.cons rfl (sx_lr.cons rfl (sx_lr.cons rfl (sx_lr.cons rfl (sx_lr.cons rfl sx_lr.nil)))))) (x68t hI hR hR1 hG hc hn en hw q (j + 1) (by omega))
set_option maxRecDepth 20000 in
set_option maxHeartbeats 4000000 in
theorem X68t {xs : Option (List Int32)} {d : Nat} {w : List sx_C} (hI : WI w) {l p : List Int32} (hS : Snt l p w) (hG : SGr l p) {c : Nat} (hc : c < 48) : sx_RP xs (d + 4) 68 0 (lv_args 0 [.ref 0, .ref 29, .int (nI c)]) [] w (fun r w2 => r = some (.int (pesF p c)) ∧ WI w2 ∧ Snt l p w2 ∧ ∀ a, (a < 44 ∨ 96 ≤ a) → w2[a]? = w[a]?) := by
  obtain ⟨n, hn, en⟩ := hS.2.n10 hI (Or.inr (Or.inr rfl))
  refine sx_RP.step (pc2 := 1) (ls2 := [(0, .ref 0), (1, .ref 29), (2, .int (nI c))]) (st2 := [.ref 0]) (w3 := w) rfl rfl ?_
  refine sx_RP.gf (v := .ref 44) rfl rfl hI.1.o0 rfl rfl (show _ = 4 from rfl) ?_
  refine sx_RP.step (pc2 := 5) (ls2 := [(0, .ref 0), (1, .ref 29), (2, .int (nI c))]) (st2 := [.int (nI c), .ref 44]) (w3 := w) rfl rfl ?_
  refine sx_RP.callp (as2 := [.ref 44, .int (nI c)]) (rest2 := []) rfl rfl (sx_inv_v2 (mi := 68) (k := 99) (st := [.int (nI c), .ref 44]) (w := w) rfl rfl hI.1.o44 rfl rfl rfl) rfl rfl rfl (G17 hI (show c < 48 by omega)) (show _ = 8 from rfl) ?_
  rintro r4 w4 ⟨rfl, hI5, hS1, hx2, hf3⟩
  show sx_RP _ _ _ _ _ [.ref (47 + c)] _ _
  have hR6 : rel w4 1 l := hS.1.1.same hI (Or.inl rfl) (fun a h1 h2 => hf3 a (by omega))
  have hF7 : FIT w4 1 := fun c hc => by rw [hx2.1, ia_of (hf3 (1 + 1) (by omega))]; exact hS.1.2.1 c hc
  have hK8 : SK w4 := hS1.2 hS.1.2.2
  have hw9 : ∀ f, f < 48 → (ia w4 (47 + c)).getD f 0 = nI (farN (gdR l) f c) := fun f hf => by rw [hx2.2 hS.1.2.2 hS.1.2.1.ls f hf, fit_far hS.1.2.1 hS.1.1 hf (by omega)]
  refine sx_RP.step (pc2 := 9) (ls2 := [(3, .ref (47 + c)), (0, .ref 0), (1, .ref 29), (2, .int (nI c))]) (st2 := []) (w3 := w4) rfl rfl ?_
  refine sx_RP.step (pc2 := 10) (ls2 := [(3, .ref (47 + c)), (0, .ref 0), (1, .ref 29), (2, .int (nI c))]) (st2 := [.int 0]) (w3 := w4) rfl rfl ?_
  refine sx_RP.step (pc2 := 12) (ls2 := [(4, .int 0), (3, .ref (47 + c)), (0, .ref 0), (1, .ref 29), (2, .int (nI c))]) (st2 := []) (w3 := w4) rfl rfl ?_
  refine sx_RP.step (pc2 := 13) (ls2 := [(4, .int 0), (3, .ref (47 + c)), (0, .ref 0), (1, .ref 29), (2, .int (nI c))]) (st2 := [.int 0]) (w3 := w4) rfl rfl ?_
  refine sx_RP.step (pc2 := 15) (ls2 := [(5, .int 0), (4, .int 0), (3, .ref (47 + c)), (0, .ref 0), (1, .ref 29), (2, .int (nI c))]) (st2 := []) (w3 := w4) rfl rfl ?_
  have hRt : rel w4 29 p := hS.2.same hI (Or.inr (Or.inr rfl)) (fun a h1 h2 => hf3 a (by omega))
  refine (sx_RP.ls (sx_lr.cons rfl (sx_lr.cons rfl (sx_lr.cons rfl (sx_lr.cons rfl (sx_lr.cons rfl (sx_lr.cons rfl sx_lr.nil)))))) (x68t hI5 hRt hR6 hG hc hn en hw9 n 0 (by omega))).mono9 (fun r w2 z => ?_)
  obtain ⟨z1, z2⟩ := z
  rw [z2]
  exact ⟨by rw [z1]; unfold pesF; rw [en, iN_n (by omega)], hI5, ⟨⟨hR6, hF7, hK8⟩, hRt⟩, hf3⟩
set_option maxRecDepth 20000 in
set_option maxHeartbeats 4000000 in
theorem X123L {xs : Option (List Int32)} {d s n m : Nat} {w0 : List sx_C} {l p : List Int32} (hs : s < 4) (hn40 : n ≤ 40) (hnm : n ≤ m) (hm : m ≤ 9) (em : p.getD 2 0 = nI m) (hG : SGr l p) : ∀ (q j : Nat) (w : List sx_C), j + q = n → WI w → Snt l p w → (∀ a, (a < 44 ∨ 96 ≤ a) → w[a]? = w0[a]?) → rdB (NCs w0 s) p j = true → sx_RP xs (d + 5) 123 15 [(0, .ref 0), (1, .ref 29), (2, .ref (103 + 2 * s)), (3, .int (nI n)), (4, .int (nI j))] [] w (fun r w2 => ((r = some (.int 1) ∧ rdB (NCs w0 s) p n = true) ∨ (r = some (.int 0) ∧ rdB (NCs w0 s) p n = false)) ∧ WI w2 ∧ Snt l p w2 ∧ ∀ a, (a < 44 ∨ 96 ≤ a) → w2[a]? = w0[a]?)
  | 0, j, w, hj, hI, hS, hO, hA => by
    obtain rfl : j = n := by omega
    refine sx_RP.step (pc2 := 17) (ls2 := [(0, .ref 0), (1, .ref 29), (2, .ref (103 + 2 * s)), (3, .int (nI j)), (4, .int (nI j))]) (st2 := [.int (nI j)]) (w3 := w) rfl rfl ?_
    refine sx_RP.step (pc2 := 18) (ls2 := [(0, .ref 0), (1, .ref 29), (2, .ref (103 + 2 * s)), (3, .int (nI j)), (4, .int (nI j))]) (st2 := [.int (nI j), .int (nI j)]) (w3 := w) rfl rfl ?_
    refine sx_RP.br (p1 := 53) (l1 := [(0, .ref 0), (1, .ref 29), (2, .ref (103 + 2 * s)), (3, .int (nI j)), (4, .int (nI j))]) (s1 := []) (v1 := w) rfl rfl (fun _ => ?_) (fun q => absurd (nI_le (a := j) (b := j) (by omega) (by omega)) (of_decide_eq_false q))
    refine sx_RP.step (pc2 := 54) (ls2 := [(0, .ref 0), (1, .ref 29), (2, .ref (103 + 2 * s)), (3, .int (nI j)), (4, .int (nI j))]) (st2 := [.int 1]) (w3 := w) rfl rfl ?_
    refine sx_RP.ret (r := (some (.int 1))) rfl rfl ?_
    exact ⟨Or.inl ⟨rfl, hA⟩, hI, hS, hO⟩
  | q + 1, j, w, hj, hI, hS, hO, hA => by
    refine sx_RP.step (pc2 := 17) (ls2 := [(0, .ref 0), (1, .ref 29), (2, .ref (103 + 2 * s)), (3, .int (nI n)), (4, .int (nI j))]) (st2 := [.int (nI j)]) (w3 := w) rfl rfl ?_
    refine sx_RP.step (pc2 := 18) (ls2 := [(0, .ref 0), (1, .ref 29), (2, .ref (103 + 2 * s)), (3, .int (nI n)), (4, .int (nI j))]) (st2 := [.int (nI n), .int (nI j)]) (w3 := w) rfl rfl ?_
    refine sx_RP.br (p2 := 21) (l2 := [(0, .ref 0), (1, .ref 29), (2, .ref (103 + 2 * s)), (3, .int (nI n)), (4, .int (nI j))]) (s2 := []) (v2 := w) rfl rfl (fun q => absurd (of_decide_eq_true q) (fun z => absurd ((nI_leI (a := n) (b := j) (by omega) (by omega)).mp z) (by omega))) (fun _ => ?_)
    refine sx_RP.step (pc2 := 22) (ls2 := [(0, .ref 0), (1, .ref 29), (2, .ref (103 + 2 * s)), (3, .int (nI n)), (4, .int (nI j))]) (st2 := [.ref (103 + 2 * s)]) (w3 := w) rfl rfl ?_
    refine sx_RP.gf (v := .ref (104 + 2 * s)) rfl rfl (hI.1.oS (show s < 4 by omega)) rfl rfl (show _ = 25 from rfl) ?_
    refine sx_RP.step (pc2 := 27) (ls2 := [(0, .ref 0), (1, .ref 29), (2, .ref (103 + 2 * s)), (3, .int (nI n)), (4, .int (nI j))]) (st2 := [.int (nI j), .ref (104 + 2 * s)]) (w3 := w) rfl rfl ?_
    refine sx_RP.lld (c := j) rfl (hI.1.aN (show s < 4 by omega)).1 (hI.1.aN (show s < 4 by omega)).2 (sx_in_nI (show j < 40 by omega) (by decide)) (show (nI j).toNatClampNeg = j from nI_clamp (by omega)) (show _ = 28 from rfl) ?_
    refine sx_RP.step (pc2 := 29) (ls2 := [(0, .ref 0), (1, .ref 29), (2, .ref (103 + 2 * s)), (3, .int (nI n)), (4, .int (nI j))]) (st2 := [.ref 0, .long ((ja w (104 + 2 * s)).getD j 0)]) (w3 := w) rfl rfl ?_
    refine sx_RP.step (pc2 := 30) (ls2 := [(0, .ref 0), (1, .ref 29), (2, .ref (103 + 2 * s)), (3, .int (nI n)), (4, .int (nI j))]) (st2 := [.ref 29, .ref 0, .long ((ja w (104 + 2 * s)).getD j 0)]) (w3 := w) rfl rfl ?_
    refine sx_RP.step (pc2 := 31) (ls2 := [(0, .ref 0), (1, .ref 29), (2, .ref (103 + 2 * s)), (3, .int (nI n)), (4, .int (nI j))]) (st2 := [.ref 29, .ref 29, .ref 0, .long ((ja w (104 + 2 * s)).getD j 0)]) (w3 := w) rfl rfl ?_
    refine sx_RP.gref (k := 4) (b := 32) hI (Or.inr (Or.inr rfl)) rfl rfl (by omega) (show _ = 34 from rfl) ?_
    refine sx_RP.step (pc2 := 36) (ls2 := [(0, .ref 0), (1, .ref 29), (2, .ref (103 + 2 * s)), (3, .int (nI n)), (4, .int (nI j))]) (st2 := [.int (nI j), .ref 32, .ref 29, .ref 0, .long ((ja w (104 + 2 * s)).getD j 0)]) (w3 := w) rfl rfl ?_
    refine sx_RP.ild (c := j) rfl (hI.1.aD (Or.inr (Or.inr rfl))).1 (hI.1.aD (Or.inr (Or.inr rfl))).2 (sx_in_nI (show j < 9 by omega) (by decide)) (show (nI j).toNatClampNeg = j from nI_clamp (by omega)) (show _ = 37 from rfl) ?_
    obtain ⟨x1, hx2, ex3⟩ : inR ((ia w 32).getD j 0) 47 := hI.di (Or.inr (Or.inr rfl)) (show j < 9 by omega)
    rw [ex3]
    have eT : p.getD (163 + j) 0 = nI x1 := (hS.2.di (by rw [em, iN_n (by omega)]; omega)).symm.trans ex3
    refine sx_RP.callp (as2 := [.ref 0, .ref 29, .int (nI x1)]) (rest2 := [.long ((ja w (104 + 2 * s)).getD j 0)]) rfl rfl (sx_inv_v2 (mi := 123) (k := 231) (st := [.int (nI x1), .ref 29, .ref 0, .long ((ja w (104 + 2 * s)).getD j 0)]) (w := w) rfl rfl hI.1.o0 rfl rfl rfl) rfl rfl rfl (X68t (d := d) hI hS hG (show x1 < 48 by omega)) (show _ = 40 from rfl) ?_
    rintro r4 w6 ⟨rfl, hI7, hS4, hf5⟩
    show sx_RP _ _ _ _ _ [.int (pesF p x1), .long ((ja w (104 + 2 * s)).getD j 0)] _ _
    refine sx_RP.step (pc2 := 41) (ls2 := [(0, .ref 0), (1, .ref 29), (2, .ref (103 + 2 * s)), (3, .int (nI n)), (4, .int (nI j))]) (st2 := [.long ((pesF p x1).toInt64), .long ((ja w (104 + 2 * s)).getD j 0)]) (w3 := w6) rfl rfl ?_
    refine sx_RP.step (pc2 := 42) (ls2 := [(0, .ref 0), (1, .ref 29), (2, .ref (103 + 2 * s)), (3, .int (nI n)), (4, .int (nI j))]) (st2 := [.int (lg_cmp ((ja w (104 + 2 * s)).getD j 0) ((pesF p x1).toInt64))]) (w3 := w6) rfl rfl ?_
    refine sx_RP.br (p1 := 47) (l1 := [(0, .ref 0), (1, .ref 29), (2, .ref (103 + 2 * s)), (3, .int (nI n)), (4, .int (nI j))]) (s1 := []) (v1 := w6) (p2 := 45) (l2 := [(0, .ref 0), (1, .ref 29), (2, .ref (103 + 2 * s)), (3, .int (nI n)), (4, .int (nI j))]) (s2 := []) (v2 := w6) rfl rfl (fun q8 => ?_) (fun q8 => ?_)
    · replace q8 := of_decide_eq_true q8
      refine sx_RP.step (pc2 := 50) (ls2 := [(4, .int ((nI j) + 1)), (0, .ref 0), (1, .ref 29), (2, .ref (103 + 2 * s)), (3, .int (nI n))]) (st2 := []) (w3 := w6) rfl rfl ?_
      rw [nI_1 j]
      refine sx_RP.step (pc2 := 15) (ls2 := [(4, .int (nI (j + 1))), (0, .ref 0), (1, .ref 29), (2, .ref (103 + 2 * s)), (3, .int (nI n))]) (st2 := []) (w3 := w6) rfl rfl ?_
      have eN : NCs w0 s j = (ja w (104 + 2 * s)).getD j 0 := by rw [NCs_at hs (by omega), ja_of (hO (104 + 2 * s) (by omega))]
      have eD : dpF p j = pesF p x1 := dpF_n (show x1 < 48 by omega) eT
      exact sx_RP.ls (sx_lr.cons rfl (sx_lr.cons rfl (sx_lr.cons rfl (sx_lr.cons rfl (sx_lr.cons rfl sx_lr.nil))))) (X123L hs hn40 hnm hm em hG q (j + 1) w6 (by omega) hI7 hS4 (fun a ha => (hf5 a ha).trans (hO a ha)) (rdB_y hA (by rw [eN, eD]; exact (lg_cmp_eq _ _).mp q8)))
    · replace q8 := of_decide_eq_false q8
      refine sx_RP.step (pc2 := 46) (ls2 := [(0, .ref 0), (1, .ref 29), (2, .ref (103 + 2 * s)), (3, .int (nI n)), (4, .int (nI j))]) (st2 := [.int 0]) (w3 := w6) rfl rfl ?_
      refine sx_RP.ret (r := (some (.int 0))) rfl rfl ?_
      have eN : NCs w0 s j = (ja w (104 + 2 * s)).getD j 0 := by rw [NCs_at hs (by omega), ja_of (hO (104 + 2 * s) (by omega))]
      have eD : dpF p j = pesF p x1 := dpF_n (show x1 < 48 by omega) eT
      exact ⟨Or.inr ⟨rfl, rdB_dn (rdB_n (by rw [eN, eD]; exact fun z => q8 ((lg_cmp_eq _ _).mpr z))) n (by omega)⟩, hI7, hS4, fun a ha => (hf5 a ha).trans (hO a ha)⟩
set_option maxRecDepth 20000 in
set_option maxHeartbeats 4000000 in
theorem X123 {xs : Option (List Int32)} {d : Nat} {w : List sx_C} (hI : WI w) {s z m : Nat} {l p : List Int32} (hs : s < 4) (hz : z ≤ 40) (ez : fi w (103 + 2 * s) 2 = nI z) (hm : m ≤ 9) (em : p.getD 2 0 = nI m) (hG : SGr l p) (hS : Snt l p w) : sx_RP xs (d + 5) 123 0 (lv_args 0 [.ref 0, .ref 29, .ref (103 + 2 * s)]) [] w (fun r w2 => ((r = some (.int 1) ∧ rdB (NCs w s) p (min z m) = true) ∨ (r = some (.int 0) ∧ rdB (NCs w s) p (min z m) = false)) ∧ WI w2 ∧ Snt l p w2 ∧ ∀ a, (a < 44 ∨ 96 ≤ a) → w2[a]? = w[a]?) := by
  refine sx_RP.step (pc2 := 1) (ls2 := [(0, .ref 0), (1, .ref 29), (2, .ref (103 + 2 * s))]) (st2 := [.ref (103 + 2 * s)]) (w3 := w) rfl rfl ?_
  refine sx_RP.gf (v := .int (fi w (103 + 2 * s) 2)) rfl rfl (hI.1.oS (show s < 4 by omega)) rfl rfl (show _ = 4 from rfl) ?_
  rw [ez]
  refine sx_RP.step (pc2 := 5) (ls2 := [(0, .ref 0), (1, .ref 29), (2, .ref (103 + 2 * s))]) (st2 := [.ref 29, .int (nI z)]) (w3 := w) rfl rfl ?_
  refine sx_RP.gc (k := 5) hI (Or.inr (Or.inr rfl)) rfl rfl (by omega) (show _ = 8 from rfl) ?_
  rw [(hS.2.dished.trans em)]
  refine sx_RP.cu (as := [.int (nI z), .int (nI m)]) (rest2 := []) (st3 := [.int (nI (min z m))]) rfl rfl rfl rfl rfl (x97m hI (by omega) (by omega)) rfl ?_
  refine sx_RP.step (pc2 := 12) (ls2 := [(3, .int (nI (min z m))), (0, .ref 0), (1, .ref 29), (2, .ref (103 + 2 * s))]) (st2 := []) (w3 := w) rfl rfl ?_
  refine sx_RP.step (pc2 := 13) (ls2 := [(3, .int (nI (min z m))), (0, .ref 0), (1, .ref 29), (2, .ref (103 + 2 * s))]) (st2 := [.int 0]) (w3 := w) rfl rfl ?_
  refine sx_RP.step (pc2 := 15) (ls2 := [(4, .int 0), (3, .int (nI (min z m))), (0, .ref 0), (1, .ref 29), (2, .ref (103 + 2 * s))]) (st2 := []) (w3 := w) rfl rfl ?_
  exact sx_RP.ls (sx_lr.cons rfl (sx_lr.cons rfl (sx_lr.cons rfl (sx_lr.cons rfl (sx_lr.cons rfl sx_lr.nil))))) (X123L (w0 := w) (n := min z m) hs (by omega) (by omega) hm em hG (min z m) 0 w (by omega) hI hS (fun _ _ => rfl) rfl)
set_option maxRecDepth 20000 in
set_option maxHeartbeats 4000000 in
theorem X122L {xs : Option (List Int32)} {d s z n m : Nat} {w0 : List sx_C} {l : List Int32} (hs : s < 4) (hz : z ≤ 40) (ez : fi w0 (103 + 2 * s) 2 = nI z) (hn : n ≤ 10) (en : l.getD 1 0 = nI n) (hm : m ≤ 9) (em : l.getD 2 0 = nI m) : ∀ (q j : Nat) (w : List sx_C) (p : List Int32), j + q = 61 → 1 ≤ j → WI w → Snt l p w → SGr l p → (∀ a, (a < 29 ∨ 43 ≤ a) → (a < 44 ∨ 96 ≤ a) → w[a]? = w0[a]?) → sx_RP xs (d + 7) 122 82 [(0, .ref 0), (1, .int (nI s)), (2, .ref (103 + 2 * s)), (3, .int (nI j))] [] w (fun r w2 => r = some (.int (rnF (NCs w0 s) (min z m) q j (nigR p))) ∧ WI w2)
  | 0, j, w, p, hj, h1, hI, hS, hG, hO => by
    obtain rfl : j = 61 := by omega
    refine sx_RP.step (pc2 := 83) (ls2 := [(0, .ref 0), (1, .int (nI s)), (2, .ref (103 + 2 * s)), (3, .int 61)]) (st2 := [.int 61]) (w3 := w) rfl rfl ?_
    refine sx_RP.step (pc2 := 85) (ls2 := [(0, .ref 0), (1, .int (nI s)), (2, .ref (103 + 2 * s)), (3, .int 61)]) (st2 := [.int 60, .int 61]) (w3 := w) rfl rfl ?_
    refine sx_RP.step (pc2 := 120) (ls2 := [(0, .ref 0), (1, .int (nI s)), (2, .ref (103 + 2 * s)), (3, .int 61)]) (st2 := []) (w3 := w) rfl rfl ?_
    refine sx_RP.step (pc2 := 121) (ls2 := [(0, .ref 0), (1, .int (nI s)), (2, .ref (103 + 2 * s)), (3, .int 61)]) (st2 := [.ref 0]) (w3 := w) rfl rfl ?_
    refine sx_RP.step (pc2 := 123) (ls2 := [(0, .ref 0), (1, .int (nI s)), (2, .ref (103 + 2 * s)), (3, .int 61)]) (st2 := [.int (-1000000004), .ref 0]) (w3 := w) rfl rfl ?_
    refine sx_RP.callp (as2 := [.ref 0, .int (-1000000004)]) (rest2 := []) rfl rfl (sx_inv_v2 (mi := 122) (k := 78) (st := [.int (-1000000004), .ref 0]) (w := w) rfl rfl hI.1.o0 rfl rfl rfl) rfl rfl rfl (S9_3 hI) (show _ = 126 from rfl) ?_
    rintro r4 w2 ⟨rfl, hI3, hs1⟩
    show sx_RP _ _ _ _ _ [.int (-1000000004)] _ _
    refine sx_RP.ret (r := (some (.int (-1000000004)))) rfl rfl ?_
    exact ⟨rfl, hI3⟩
  | q + 1, j, w, p, hj, h1, hI, hS, hG, hO => by
    refine sx_RP.step (pc2 := 83) (ls2 := [(0, .ref 0), (1, .int (nI s)), (2, .ref (103 + 2 * s)), (3, .int (nI j))]) (st2 := [.int (nI j)]) (w3 := w) rfl rfl ?_
    refine sx_RP.step (pc2 := 85) (ls2 := [(0, .ref 0), (1, .int (nI s)), (2, .ref (103 + 2 * s)), (3, .int (nI j))]) (st2 := [.int 60, .int (nI j)]) (w3 := w) rfl rfl ?_
    refine sx_RP.br (p2 := 88) (l2 := [(0, .ref 0), (1, .int (nI s)), (2, .ref (103 + 2 * s)), (3, .int (nI j))]) (s2 := []) (v2 := w) rfl rfl (fun q => absurd (of_decide_eq_true q) (fun z => absurd ((nI_ltI (a := 60) (b := j) (by omega) (by omega)).mp z) (by omega))) (fun _ => ?_)
    refine sx_RP.step (pc2 := 89) (ls2 := [(0, .ref 0), (1, .int (nI s)), (2, .ref (103 + 2 * s)), (3, .int (nI j))]) (st2 := [.int (nI j)]) (w3 := w) rfl rfl ?_
    refine sx_RP.br (p2 := 92) (l2 := [(0, .ref 0), (1, .int (nI s)), (2, .ref (103 + 2 * s)), (3, .int (nI j))]) (s2 := []) (v2 := w) rfl rfl (fun q => absurd (of_decide_eq_true q) (fun z => absurd ((nI_leI (a := j) (b := 0) (by omega) (by decide)).mp z) (by omega))) (fun _ => ?_)
    refine sx_RP.step (pc2 := 93) (ls2 := [(0, .ref 0), (1, .int (nI s)), (2, .ref (103 + 2 * s)), (3, .int (nI j))]) (st2 := [.ref 0]) (w3 := w) rfl rfl ?_
    refine sx_RP.gf (v := .ref 29) rfl rfl hI.1.o0 rfl rfl (show _ = 96 from rfl) ?_
    refine sx_RP.callp (as2 := [.ref 29]) (rest2 := []) rfl rfl (sx_inv_v2 (mi := 122) (k := 166) (st := [.ref 29]) (w := w) rfl rfl (hI.1.oC (Or.inr (Or.inr rfl))) rfl rfl rfl) rfl rfl rfl (X41 (d := d + 2) hI (Or.inr (Or.inr rfl)) hS.2 hn (hG.1.trans en)) (show _ = 99 from rfl) ?_
    rintro r4 w2 ⟨⟨rfl, hR1⟩, hI3, ho⟩
    show sx_RP _ _ _ _ _ [.int (lfF p 0 n + lfF p 1 n - lfF (nigR p) 0 n - lfF (nigR p) 1 n)] _ _
    refine sx_RP.step (pc2 := 100) (ls2 := [(0, .ref 0), (1, .int (nI s)), (2, .ref (103 + 2 * s)), (3, .int (nI j))]) (st2 := []) (w3 := w2) rfl rfl ?_
    refine sx_RP.step (pc2 := 101) (ls2 := [(0, .ref 0), (1, .int (nI s)), (2, .ref (103 + 2 * s)), (3, .int (nI j))]) (st2 := [.ref 0]) (w3 := w2) rfl rfl ?_
    refine sx_RP.step (pc2 := 102) (ls2 := [(0, .ref 0), (1, .int (nI s)), (2, .ref (103 + 2 * s)), (3, .int (nI j))]) (st2 := [.ref 0, .ref 0]) (w3 := w2) rfl rfl ?_
    refine sx_RP.gf (v := .ref 29) rfl rfl hI3.1.o0 rfl rfl (show _ = 105 from rfl) ?_
    refine sx_RP.step (pc2 := 106) (ls2 := [(0, .ref 0), (1, .int (nI s)), (2, .ref (103 + 2 * s)), (3, .int (nI j))]) (st2 := [.ref (103 + 2 * s), .ref 29, .ref 0]) (w3 := w2) rfl rfl ?_
    have hSn : Snt l (nigR p) w2 := ⟨hS.1.same hI (fun a ha => ho a (by omega)), hR1⟩
    have eN : NCs w2 s = NCs w0 s := congrFun (NCs_eq (fun q hq => (ho _ (by omega)).trans (hO _ (by omega) (by omega)))) s
    refine sx_RP.callp (as2 := [.ref 0, .ref 29, .ref (103 + 2 * s)]) (rest2 := []) rfl rfl (sx_inv_v2 (mi := 122) (k := 341) (st := [.ref (103 + 2 * s), .ref 29, .ref 0]) (w := w2) rfl rfl hI3.1.o0 rfl rfl rfl) rfl rfl rfl (X123 (d := d + 1) hI3 hs hz ((fi_same 2 ((ho _ (by omega)).trans (hO _ (by omega) (by omega)))).trans ez) hm ((hG.night en hn).2.1.trans em) (hG.night en hn) hSn) (show _ = 109 from rfl) ?_
    rintro r4 w4 ⟨(⟨rfl, hB⟩ | ⟨rfl, hB⟩), hI5, hS9, hf9⟩
    · show sx_RP _ _ _ _ _ [.int 1] _ _
      refine sx_RP.step (pc2 := 112) (ls2 := [(0, .ref 0), (1, .int (nI s)), (2, .ref (103 + 2 * s)), (3, .int (nI j))]) (st2 := []) (w3 := w4) rfl rfl ?_
      refine sx_RP.step (pc2 := 113) (ls2 := [(0, .ref 0), (1, .int (nI s)), (2, .ref (103 + 2 * s)), (3, .int (nI j))]) (st2 := [.int (nI j)]) (w3 := w4) rfl rfl ?_
      refine sx_RP.ret (r := (some (.int (nI j)))) rfl rfl ?_
      exact ⟨by rw [rnF_y (by rw [← eN]; exact hB)], hI5⟩
    · show sx_RP _ _ _ _ _ [.int 0] _ _
      refine sx_RP.step (pc2 := 114) (ls2 := [(0, .ref 0), (1, .int (nI s)), (2, .ref (103 + 2 * s)), (3, .int (nI j))]) (st2 := []) (w3 := w4) rfl rfl ?_
      refine sx_RP.step (pc2 := 117) (ls2 := [(3, .int ((nI j) + 1)), (0, .ref 0), (1, .int (nI s)), (2, .ref (103 + 2 * s))]) (st2 := []) (w3 := w4) rfl rfl ?_
      rw [nI_1 j]
      refine sx_RP.step (pc2 := 82) (ls2 := [(3, .int (nI (j + 1))), (0, .ref 0), (1, .int (nI s)), (2, .ref (103 + 2 * s))]) (st2 := []) (w3 := w4) rfl rfl ?_
      rw [rnF_n (by rw [← eN]; exact hB)]
      exact sx_RP.ls (sx_lr.cons rfl (sx_lr.cons rfl (sx_lr.cons rfl (sx_lr.cons rfl sx_lr.nil)))) (X122L hs hz ez hn en hm em q (j + 1) w4 _ (by omega) (by omega) hI5 hS9 (hG.night en hn) (fun a h1 h2 => (hf9 a (by omega)).trans ((ho a (by omega)).trans (hO a h1 h2))))
set_option maxRecDepth 20000 in
set_option maxHeartbeats 4000000 in
theorem A122 {xs : Option (List Int32)} {d : Nat} {w : List sx_C} (hI : WI w) (l : List Int32) (hR : rel w 1 l) (hK : SK w) (a1 : Int32) : sx_RP xs (d + 7) 122 0 (lv_args 0 [.ref 0, .int a1]) [] w (fun r w2 => r = some (.int (redA (FCs w) (NCs w) l a1)) ∧ WI w2) := by
  obtain ⟨n, hn, en⟩ := hR.n10 hI (Or.inl rfl)
  obtain ⟨m, hm, em⟩ := hR.m9 hI (Or.inl rfl)
  refine sx_RP.step (pc2 := 1) (ls2 := [(0, .ref 0), (1, .int a1)]) (st2 := [.int a1]) (w3 := w) rfl rfl ?_
  rcases in_cases a1 0 3 (m := 0) (n := 3) rfl rfl (by decide) (by decide) with q1 | ⟨x2, hx3, hx4, rfl⟩
  · refine sx_RP.cu (as := [.int a1]) (rest2 := []) (st3 := [.int 0]) rfl rfl rfl rfl rfl (cx_112n q1) rfl ?_
    refine sx_RP.step (pc2 := 7) (ls2 := [(0, .ref 0), (1, .int a1)]) (st2 := []) (w3 := w) rfl rfl ?_
    refine sx_RP.step (pc2 := 8) (ls2 := [(0, .ref 0), (1, .int a1)]) (st2 := [.ref 0]) (w3 := w) rfl rfl ?_
    refine sx_RP.step (pc2 := 10) (ls2 := [(0, .ref 0), (1, .int a1)]) (st2 := [.int (-1000000001), .ref 0]) (w3 := w) rfl rfl ?_
    refine sx_RP.callp (as2 := [.ref 0, .int (-1000000001)]) (rest2 := []) rfl rfl (sx_inv_v2 (mi := 122) (k := 78) (st := [.int (-1000000001), .ref 0]) (w := w) rfl rfl hI.1.o0 rfl rfl rfl) rfl rfl rfl (S9_0 hI) (show _ = 13 from rfl) ?_
    rintro r4 w7 ⟨rfl, hI8, hs6⟩
    show sx_RP _ _ _ _ _ [.int (-1000000001)] _ _
    refine sx_RP.ret (r := (some (.int (-1000000001)))) rfl rfl ?_
    exact ⟨by rw [red_1 q1], hI8⟩
  · refine sx_RP.cu (as := [.int (nI x2)]) (rest2 := []) (st3 := [.int 1]) rfl rfl rfl rfl rfl (cx_112p ⟨nI_le (a := 0) hx3 (by omega), nI_le (b := 3) hx4 (by decide)⟩) rfl ?_
    refine sx_RP.step (pc2 := 14) (ls2 := [(0, .ref 0), (1, .int (nI x2))]) (st2 := []) (w3 := w) rfl rfl ?_
    refine sx_RP.step (pc2 := 15) (ls2 := [(0, .ref 0), (1, .int (nI x2))]) (st2 := [.ref 0]) (w3 := w) rfl rfl ?_
    refine sx_RP.gf (v := .ref 98) rfl rfl hI.1.o0 rfl rfl (show _ = 18 from rfl) ?_
    refine sx_RP.step (pc2 := 19) (ls2 := [(0, .ref 0), (1, .int (nI x2))]) (st2 := [.int (nI x2), .ref 98]) (w3 := w) rfl rfl ?_
    refine sx_RP.ald (v := .ref (103 + 2 * x2)) rfl hI.1.a98 rfl (shA_at (show x2 < 4 by omega)) (show _ = 20 from rfl) ?_
    refine sx_RP.step (pc2 := 21) (ls2 := [(2, .ref (103 + 2 * x2)), (0, .ref 0), (1, .int (nI x2))]) (st2 := []) (w3 := w) rfl rfl ?_
    refine sx_RP.step (pc2 := 22) (ls2 := [(2, .ref (103 + 2 * x2)), (0, .ref 0), (1, .int (nI x2))]) (st2 := [.ref (103 + 2 * x2)]) (w3 := w) rfl rfl ?_
    rcases Decidable.em (fi w (103 + 2 * x2) 1 = 0) with c9 | c9
    · refine sx_RP.cu (as := [.ref (103 + 2 * x2)]) (rest2 := []) (st3 := [.int 1]) rfl rfl (sx_inv_v2 (mi := 122) (k := 310) (st := [.ref (103 + 2 * x2)]) (w := w) rfl rfl (hI.1.oS (show x2 < 4 by omega)) rfl rfl rfl) rfl rfl (p116y hI (show x2 < 4 by omega) c9) rfl ?_
      refine sx_RP.step (pc2 := 28) (ls2 := [(2, .ref (103 + 2 * x2)), (0, .ref 0), (1, .int (nI x2))]) (st2 := []) (w3 := w) rfl rfl ?_
      refine sx_RP.step (pc2 := 29) (ls2 := [(2, .ref (103 + 2 * x2)), (0, .ref 0), (1, .int (nI x2))]) (st2 := [.ref 0]) (w3 := w) rfl rfl ?_
      refine sx_RP.step (pc2 := 32) (ls2 := [(2, .ref (103 + 2 * x2)), (0, .ref 0), (1, .int (nI x2))]) (st2 := [.int (-1000000006), .ref 0]) (w3 := w) rfl rfl ?_
      refine sx_RP.callp (as2 := [.ref 0, .int (-1000000006)]) (rest2 := []) rfl rfl (sx_inv_v2 (mi := 122) (k := 78) (st := [.int (-1000000006), .ref 0]) (w := w) rfl rfl hI.1.o0 rfl rfl rfl) rfl rfl rfl (S9_5 hI) (show _ = 35 from rfl) ?_
      rintro r4 w11 ⟨rfl, hI12, hs10⟩
      show sx_RP _ _ _ _ _ [.int (-1000000006)] _ _
      refine sx_RP.ret (r := (some (.int (-1000000006)))) rfl rfl ?_
      exact ⟨by rw [red_2 (F := FCs w) (show x2 < 4 by omega) (FCs_at (by omega)) c9], hI12⟩
    · refine sx_RP.cu (as := [.ref (103 + 2 * x2)]) (rest2 := []) (st3 := [.int 0]) rfl rfl (sx_inv_v2 (mi := 122) (k := 310) (st := [.ref (103 + 2 * x2)]) (w := w) rfl rfl (hI.1.oS (show x2 < 4 by omega)) rfl rfl rfl) rfl rfl (p116n hI (show x2 < 4 by omega) c9) rfl ?_
      refine sx_RP.step (pc2 := 36) (ls2 := [(2, .ref (103 + 2 * x2)), (0, .ref 0), (1, .int (nI x2))]) (st2 := []) (w3 := w) rfl rfl ?_
      refine sx_RP.step (pc2 := 37) (ls2 := [(2, .ref (103 + 2 * x2)), (0, .ref 0), (1, .int (nI x2))]) (st2 := [.ref 0]) (w3 := w) rfl rfl ?_
      refine sx_RP.gf (v := .ref 1) rfl rfl hI.1.o0 rfl rfl (show _ = 40 from rfl) ?_
      refine sx_RP.step (pc2 := 42) (ls2 := [(2, .ref (103 + 2 * x2)), (0, .ref 0), (1, .int (nI x2))]) (st2 := [.int 60, .ref 1]) (w3 := w) rfl rfl ?_
      rcases Decidable.em (l.getD 0 0 + 60 ≤ 999) with hc | hc
      · refine sx_RP.cu (as := [.ref 1, .int 60]) (rest2 := []) (st3 := [.int 1]) rfl rfl (sx_inv_v2 (mi := 122) (k := 163) (st := [.int 60, .ref 1]) (w := w) rfl rfl (hI.1.oC (Or.inl rfl)) rfl rfl rfl) rfl rfl (x40y hI (Or.inl rfl) (by rw [hR.night]; exact hc)) rfl ?_
        refine sx_RP.step (pc2 := 55) (ls2 := [(2, .ref (103 + 2 * x2)), (0, .ref 0), (1, .int (nI x2))]) (st2 := []) (w3 := w) rfl rfl ?_
        refine sx_RP.step (pc2 := 56) (ls2 := [(2, .ref (103 + 2 * x2)), (0, .ref 0), (1, .int (nI x2))]) (st2 := [.ref 0]) (w3 := w) rfl rfl ?_
        refine sx_RP.gf (v := .ref 44) rfl rfl hI.1.o0 rfl rfl (show _ = 59 from rfl) ?_
        refine sx_RP.step (pc2 := 60) (ls2 := [(2, .ref (103 + 2 * x2)), (0, .ref 0), (1, .int (nI x2))]) (st2 := [.ref 0, .ref 44]) (w3 := w) rfl rfl ?_
        refine sx_RP.gf (v := .ref 1) rfl rfl hI.1.o0 rfl rfl (show _ = 63 from rfl) ?_
        refine sx_RP.gref (k := 0) (b := 2) hI (Or.inl rfl) rfl rfl (by omega) (show _ = 66 from rfl) ?_
        obtain ⟨z, hz, ez⟩ := hI.sh (show x2 < 4 by omega)
        refine sx_RP.callp (as2 := [.ref 44, .ref 2]) (rest2 := []) rfl rfl (sx_inv_v2 (mi := 122) (k := 95) (st := [.ref 2, .ref 44]) (w := w) rfl rfl hI.1.o44 rfl rfl rfl) rfl rfl rfl (G16 (A := 1) hI (Or.inl rfl)) (show _ = 69 from rfl) ?_
        rintro r4 w16 ⟨rfl, hI17, hS13, hF14, hf15⟩
        show sx_RP _ _ _ _ _ [] _ _
        have hR18 : rel w16 1 l := hR.same hI (Or.inl rfl) (fun a h1 h2 => hf15 a (by omega))
        have hK19 : SK w16 := hS13.2 hK
        refine sx_RP.step (pc2 := 70) (ls2 := [(2, .ref (103 + 2 * x2)), (0, .ref 0), (1, .int (nI x2))]) (st2 := [.ref 0]) (w3 := w16) rfl rfl ?_
        refine sx_RP.gf (v := .ref 29) rfl rfl hI17.1.o0 rfl rfl (show _ = 73 from rfl) ?_
        refine sx_RP.step (pc2 := 74) (ls2 := [(2, .ref (103 + 2 * x2)), (0, .ref 0), (1, .int (nI x2))]) (st2 := [.ref 0, .ref 29]) (w3 := w16) rfl rfl ?_
        refine sx_RP.gf (v := .ref 1) rfl rfl hI17.1.o0 rfl rfl (show _ = 77 from rfl) ?_
        refine sx_RP.callp (as2 := [.ref 29, .ref 1]) (rest2 := []) rfl rfl (sx_inv_v2 (mi := 122) (k := 179) (st := [.ref 1, .ref 29]) (w := w16) rfl rfl (hI17.1.oC (Or.inr (Or.inr rfl))) rfl rfl rfl) rfl rfl rfl (X50 hI17 (Or.inr (Or.inr rfl)) (Or.inl rfl) (by omega)) (show _ = 80 from rfl) ?_
        rintro r4 w21 ⟨rfl, hI22, ht20⟩
        show sx_RP _ _ _ _ _ [] _ _
        refine sx_RP.step (pc2 := 81) (ls2 := [(2, .ref (103 + 2 * x2)), (0, .ref 0), (1, .int (nI x2))]) (st2 := [.int 0]) (w3 := w21) rfl rfl ?_
        refine sx_RP.step (pc2 := 82) (ls2 := [(3, .int 0), (2, .ref (103 + 2 * x2)), (0, .ref 0), (1, .int (nI x2))]) (st2 := []) (w3 := w21) rfl rfl ?_
        refine sx_RP.step (pc2 := 83) (ls2 := [(3, .int 0), (2, .ref (103 + 2 * x2)), (0, .ref 0), (1, .int (nI x2))]) (st2 := [.int 0]) (w3 := w21) rfl rfl ?_
        refine sx_RP.step (pc2 := 85) (ls2 := [(3, .int 0), (2, .ref (103 + 2 * x2)), (0, .ref 0), (1, .int (nI x2))]) (st2 := [.int 60, .int 0]) (w3 := w21) rfl rfl ?_
        refine sx_RP.step (pc2 := 88) (ls2 := [(3, .int 0), (2, .ref (103 + 2 * x2)), (0, .ref 0), (1, .int (nI x2))]) (st2 := []) (w3 := w21) rfl rfl ?_
        refine sx_RP.step (pc2 := 89) (ls2 := [(3, .int 0), (2, .ref (103 + 2 * x2)), (0, .ref 0), (1, .int (nI x2))]) (st2 := [.int 0]) (w3 := w21) rfl rfl ?_
        refine sx_RP.step (pc2 := 100) (ls2 := [(3, .int 0), (2, .ref (103 + 2 * x2)), (0, .ref 0), (1, .int (nI x2))]) (st2 := []) (w3 := w21) rfl rfl ?_
        refine sx_RP.step (pc2 := 101) (ls2 := [(3, .int 0), (2, .ref (103 + 2 * x2)), (0, .ref 0), (1, .int (nI x2))]) (st2 := [.ref 0]) (w3 := w21) rfl rfl ?_
        refine sx_RP.step (pc2 := 102) (ls2 := [(3, .int 0), (2, .ref (103 + 2 * x2)), (0, .ref 0), (1, .int (nI x2))]) (st2 := [.ref 0, .ref 0]) (w3 := w21) rfl rfl ?_
        refine sx_RP.gf (v := .ref 29) rfl rfl hI22.1.o0 rfl rfl (show _ = 105 from rfl) ?_
        refine sx_RP.step (pc2 := 106) (ls2 := [(3, .int 0), (2, .ref (103 + 2 * x2)), (0, .ref 0), (1, .int (nI x2))]) (st2 := [.ref (103 + 2 * x2), .ref 29, .ref 0]) (w3 := w21) rfl rfl ?_
        have hSt : Snt l l w21 := ⟨(show Snd l _ from ⟨hR18, hF14, hK19⟩).same hI17 (fun a ha => ht20.1 a (by omega)), hR18.took ht20⟩
        have eN : NCs w21 x2 = NCs w x2 := congrFun (NCs_eq (fun q hq => (ht20.1 _ (by omega)).trans (hf15 _ (by omega)))) x2
        refine sx_RP.callp (as2 := [.ref 0, .ref 29, .ref (103 + 2 * x2)]) (rest2 := []) rfl rfl (sx_inv_v2 (mi := 122) (k := 341) (st := [.ref (103 + 2 * x2), .ref 29, .ref 0]) (w := w21) rfl rfl hI22.1.o0 rfl rfl rfl) rfl rfl rfl (X123 (d := d + 1) hI22 (show x2 < 4 by omega) hz ((fi_same 2 ((ht20.1 _ (by omega)).trans (hf15 _ (by omega)))).trans ez) hm em SGr.rf hSt) (show _ = 109 from rfl) ?_
        rintro r4 w23 ⟨(⟨rfl, hB⟩ | ⟨rfl, hB⟩), hI24, hS9, hf9⟩
        · show sx_RP _ _ _ _ _ [.int 1] _ _
          refine sx_RP.step (pc2 := 112) (ls2 := [(3, .int 0), (2, .ref (103 + 2 * x2)), (0, .ref 0), (1, .int (nI x2))]) (st2 := []) (w3 := w23) rfl rfl ?_
          refine sx_RP.step (pc2 := 113) (ls2 := [(3, .int 0), (2, .ref (103 + 2 * x2)), (0, .ref 0), (1, .int (nI x2))]) (st2 := [.int 0]) (w3 := w23) rfl rfl ?_
          refine sx_RP.ret (r := (some (.int 0))) rfl rfl ?_
          rw [red_y (F := FCs w) (N := NCs w) (b := fi w (103 + 2 * x2) 1) (show x2 < 4 by omega) hz hm ((FCs_at (by omega)).trans (by rw [ez])) c9 em hc]
          exact ⟨by rw [rnF_y (by rw [← eN]; exact hB)]; rfl, hI24⟩
        · show sx_RP _ _ _ _ _ [.int 0] _ _
          refine sx_RP.step (pc2 := 114) (ls2 := [(3, .int 0), (2, .ref (103 + 2 * x2)), (0, .ref 0), (1, .int (nI x2))]) (st2 := []) (w3 := w23) rfl rfl ?_
          refine sx_RP.step (pc2 := 117) (ls2 := [(3, .int 1), (2, .ref (103 + 2 * x2)), (0, .ref 0), (1, .int (nI x2))]) (st2 := []) (w3 := w23) rfl rfl ?_
          refine sx_RP.step (pc2 := 82) (ls2 := [(3, .int 1), (2, .ref (103 + 2 * x2)), (0, .ref 0), (1, .int (nI x2))]) (st2 := []) (w3 := w23) rfl rfl ?_
          rw [red_y (F := FCs w) (N := NCs w) (b := fi w (103 + 2 * x2) 1) (show x2 < 4 by omega) hz hm ((FCs_at (by omega)).trans (by rw [ez])) c9 em hc]
          rw [rnF_n (by rw [← eN]; exact hB)]
          exact sx_RP.ls (sx_lr.cons rfl (sx_lr.cons rfl (sx_lr.cons rfl (sx_lr.cons rfl sx_lr.nil)))) (X122L (w0 := w) (show x2 < 4 by omega) hz ez hn en hm em 60 1 w23 l (by omega) (by omega) hI24 hS9 SGr.rf (fun a h1 h2 => (hf9 a h2).trans ((ht20.1 a (by omega)).trans (hf15 a (by omega)))))
      · refine sx_RP.cu (as := [.ref 1, .int 60]) (rest2 := []) (st3 := [.int 0]) rfl rfl (sx_inv_v2 (mi := 122) (k := 163) (st := [.int 60, .ref 1]) (w := w) rfl rfl (hI.1.oC (Or.inl rfl)) rfl rfl rfl) rfl rfl (x40n hI (Or.inl rfl) (by rw [hR.night]; exact hc)) rfl ?_
        refine sx_RP.step (pc2 := 48) (ls2 := [(2, .ref (103 + 2 * x2)), (0, .ref 0), (1, .int (nI x2))]) (st2 := []) (w3 := w) rfl rfl ?_
        refine sx_RP.step (pc2 := 49) (ls2 := [(2, .ref (103 + 2 * x2)), (0, .ref 0), (1, .int (nI x2))]) (st2 := [.ref 0]) (w3 := w) rfl rfl ?_
        refine sx_RP.step (pc2 := 51) (ls2 := [(2, .ref (103 + 2 * x2)), (0, .ref 0), (1, .int (nI x2))]) (st2 := [.int (-1000000005), .ref 0]) (w3 := w) rfl rfl ?_
        refine sx_RP.callp (as2 := [.ref 0, .int (-1000000005)]) (rest2 := []) rfl rfl (sx_inv_v2 (mi := 122) (k := 78) (st := [.int (-1000000005), .ref 0]) (w := w) rfl rfl hI.1.o0 rfl rfl rfl) rfl rfl rfl (S9_4 hI) (show _ = 54 from rfl) ?_
        rintro r4 w26 ⟨rfl, hI27, hs25⟩
        show sx_RP _ _ _ _ _ [.int (-1000000005)] _ _
        refine sx_RP.ret (r := (some (.int (-1000000005)))) rfl rfl ?_
        exact ⟨by rw [red_3 (F := FCs w) (show x2 < 4 by omega) (FCs_at (by omega)) c9 hc], hI27⟩
theorem a122 {xs : Option (List Int32)} {d : Nat} {w : List sx_C} {s : ST} (hI : WI w) (hC : CLS w s) (a1 : Int32) : sx_RP xs (d + 7) 122 0 (lv_args 0 [.ref 0, .int a1]) [] w (fun r w2 => r = some (.int (redA s.2.2.2.2.1 s.2.2.2.2.2 s.1 a1)) ∧ WI w2 ∧ CLS w2 (s) ∧ ∀ a, 111 ≤ a → w2[a]? = w[a]?) := by
  refine ((c122 (xs := xs) (d := d) hI hC a1).and (A122 hI s.1 hC.1.1 hC.2.2 a1)).mono9 (fun r w2 z => ⟨?_, z.1.2.1, z.1.2.2.1, z.1.2.2.2⟩)
  rw [z.2.1, hC.2.1.2.1, hC.2.1.2.2]
end
-- 90.law.lean.txt
section
section SXLAW
variable {ys : List Int32} {d mi pc pc2 : Nat} {ls : sx_L} {r : List Value} {w : List sx_C} {P : Option Value → List sx_C → Prop}
theorem sx_RP.scr {x : Nat} (hi : sx_ins mi pc = some (.iaload, 1)) (hx : x < ys.length) (hl : ys.length ≤ 3072) (hp : pc + 1 = pc2) (kk : sx_RP (some ys) d mi pc2 ls (.int (ys.getD x 0) :: r) w P) : sx_RP (some ys) d mi pc ls (.int (nI x) :: .float 4 :: r) w P :=
  sx_RP.stat (k := 4) hi rfl ⟨sx_in_nI (n := ys.length) hx (by omega), by rw [nI_clamp (by omega)]; rfl⟩ hp kk
end SXLAW
theorem law_le {len i : Nat} (hlen : len ≤ 3072) (hi : i ≤ 3072) (h : ¬ (nI len - 6 < nI i)) : i + 6 ≤ len := by
  by_cases h6 : 6 ≤ len
  · rw [show (6 : Int32) = nI 6 from rfl, nI_sub h6] at h
    have := mt (nI_ltI (a := len - 6) (b := i) (by omega) (by omega)).mpr h
    omega
  · exfalso
    apply h
    have e : (nI len - 6).toInt < 0 := by
      rcases (show len = 0 ∨ len = 1 ∨ len = 2 ∨ len = 3 ∨ len = 4 ∨ len = 5 by omega) with rfl | rfl | rfl | rfl | rfl | rfl <;> decide
    rw [Int32.lt_iff_toInt_lt, nI_toInt (by omega)]
    omega
def inRb (v : Int32) (n : Nat) : Bool := (List.range (n + 1)).any (fun j => decide (v = nI j))
theorem inRb_ok {v : Int32} {n : Nat} (h : inRb v n = true) : inR v n := by
  unfold inRb at h
  obtain ⟨j, hj, e⟩ := List.any_eq_true.mp h
  exact ⟨j, by have := List.mem_range.mp hj; omega, of_decide_eq_true e⟩
def impb (p : Prop) [Decidable p] (b : Bool) : Bool := !(decide p) || b
theorem impb_ok {p : Prop} [Decidable p] {b : Bool} (h : impb p b = true) (hp : p) : b = true := by
  unfold impb at h
  rw [decide_eq_true hp] at h
  exact h
def eOKb (k : Nat) (v : Int32) : Bool :=
  impb (k = 1) (inRb v 10) && (impb (k = 2) (inRb v 9) && (impb (7 ≤ k ∧ k < 55) (inRb v 3) && (impb (103 ≤ k ∧ k < 163 ∧ (k - 103) % 6 = 0) (inRb v 5) && (impb (103 ≤ k ∧ k < 163 ∧ (k - 103) % 6 = 1) (inRb v 1) && (impb (103 ≤ k ∧ k < 163 ∧ (k - 103) % 6 = 2) (inRb v 47) && (impb (103 ≤ k ∧ k < 163 ∧ (k - 103) % 6 = 3) (inRb v 3) && (impb (103 ≤ k ∧ k < 163 ∧ (k - 103) % 6 = 5) (inRb v 1) && impb (163 ≤ k) (inRb v 47))))))))
theorem eOKb_ok {k : Nat} {v : Int32} (h : eOKb k v = true) : eOK k v := by
  unfold eOKb at h
  simp only [Bool.and_eq_true] at h
  obtain ⟨h1, h2, h3, h4, h5, h6, h7, h8, h9⟩ := h
  exact ⟨fun z => inRb_ok (impb_ok h1 z), fun z => inRb_ok (impb_ok h2 z), fun z => inRb_ok (impb_ok h3 z), fun z => inRb_ok (impb_ok h4 z), fun z => inRb_ok (impb_ok h5 z), fun z => inRb_ok (impb_ok h6 z), fun z => inRb_ok (impb_ok h7 z), fun z => inRb_ok (impb_ok h8 z), fun z => inRb_ok (impb_ok h9 z)⟩
def allb (n : Nat) (f : Nat → Bool) : Bool := (List.range n).all f
theorem allb_ok {n : Nat} {f : Nat → Bool} (h : allb n f = true) {k : Nat} (hk : k < n) : f k = true := List.all_eq_true.mp h k (List.mem_range.mpr hk)
def cOKb (a : Nat) (c : sx_C) : Bool :=
  impb ((5 ≤ a ∧ a < 15) ∨ (19 ≤ a ∧ a < 29) ∨ (33 ≤ a ∧ a < 44)) (inRb (vi (cf c)[0]?) 5 && (inRb (vi (cf c)[1]?) 1 && (inRb (vi (cf c)[2]?) 47 && (inRb (vi (cf c)[3]?) 3 && inRb (vi (cf c)[5]?) 1)))) && (impb (a = 1 ∨ a = 15 ∨ a = 29) (inRb (vi (cf c)[3]?) 10 && inRb (vi (cf c)[5]?) 9) && (impb (a = 2 ∨ a = 16 ∨ a = 30) (allb 48 (fun k => inRb ((cI c).getD k 0) 3)) && (impb (a = 4 ∨ a = 18 ∨ a = 32) (allb 9 (fun k => inRb ((cI c).getD k 0) 47)) && (impb (a = 0) (inRb (vi (cf c)[3]?) 1) && (impb (a = 96) (inRb (vi (cf c)[1]?) 120 && (inRb (vi (cf c)[3]?) 120 && inRb (vi (cf c)[4]?) 120)) && (impb (a = 103 ∨ a = 105 ∨ a = 107 ∨ a = 109) (inRb (vi (cf c)[2]?) 40) && (impb (a = 111) (inRb (vi (cf c)[4]?) 1 && (inRb (vi (cf c)[11]?) 120 && inRb (vi (cf c)[12]?) 120)) && (impb (a = 112 ∨ a = 113 ∨ a = 114 ∨ a = 115) (allb 172 (fun k => eOKb k ((cI c).getD k 0))) && impb (a = 123) (allb 4 (fun k => inRb ((cI c).getD k 0) 40))))))))))
theorem cOKb_ok {a : Nat} {c : sx_C} (h : cOKb a c = true) : cOK a c := by
  unfold cOKb at h
  simp only [Bool.and_eq_true] at h
  obtain ⟨h1, h2, h3, h4, h5, h6, h7, h8, h9, h10⟩ := h
  refine ⟨fun z => ?_, fun z => ?_, fun z k hk => inRb_ok (allb_ok (impb_ok h3 z) hk), fun z k hk => inRb_ok (allb_ok (impb_ok h4 z) hk), fun z => inRb_ok (impb_ok h5 z), fun z => ?_, fun z => inRb_ok (impb_ok h7 z), fun z => ?_, fun z k hk => eOKb_ok (allb_ok (impb_ok h9 z) hk), fun z k hk => inRb_ok (allb_ok (impb_ok h10 z) hk)⟩
  · have := impb_ok h1 z
    simp only [Bool.and_eq_true] at this
    exact ⟨inRb_ok this.1, inRb_ok this.2.1, inRb_ok this.2.2.1, inRb_ok this.2.2.2.1, inRb_ok this.2.2.2.2⟩
  · have := impb_ok h2 z
    simp only [Bool.and_eq_true] at this
    exact ⟨inRb_ok this.1, inRb_ok this.2⟩
  · have := impb_ok h6 z
    simp only [Bool.and_eq_true] at this
    exact ⟨inRb_ok this.1, inRb_ok this.2.1, inRb_ok this.2.2⟩
  · have := impb_ok h8 z
    simp only [Bool.and_eq_true] at this
    exact ⟨inRb_ok this.1, inRb_ok this.2.1, inRb_ok this.2.2⟩
theorem w0_ok : allb 126 (fun a => match (sx_w0[a]? : Option sx_C) with
  | some c => cOKb a c
  | none => true) = true := by decide +kernel
theorem w0_WI : WI sx_w0 := by
  refine ⟨rfl, ?_⟩
  intro a c hc
  have ha : a < 126 := by
    have := (List.getElem?_eq_some_iff.mp hc).1
    rw [sx_w0_len] at this
    exact this
  have h := allb_ok w0_ok ha
  rw [hc] at h
  exact cOKb_ok h
def LI (w : List sx_C) : Prop := ∃ s : ST, CLS w s ∧ REF w s ∧ bOK w
theorem r139 {xs : Option (List Int32)} {d : Nat} {w : List sx_C} {s : ST} (hI : WI w) (hR : REF w s) : sx_RP xs (d + 7) 139 0 (lv_args 0 [.ref 111]) [] w (fun r w2 => (∃ v : Int64, r = some (.long v)) ∧ WI w2 ∧ REF w2 s ∧ ∀ a, a < 111 → w2[a]? = w[a]?) := by
  obtain ⟨v, h⟩ := p139 (xs := xs) (d := d) hI
  exact ⟨_, _, h, ⟨v, rfl⟩, hI, hR, fun _ _ => rfl⟩
end
-- 91a.cases.lean.txt
section
set_option maxRecDepth 20000 in
set_option maxHeartbeats 4000000 in
theorem lc0 {ys : List Int32} {i : Nat} {w : List sx_C} {P : Option Value → List sx_C → Prop} (hl : ys.length ≤ 3072) (hn : i + 6 ≤ ys.length) (hI : WI w) (hL : LI w) (kk : ∀ w2, WI w2 → LI w2 → sx_RP (some ys) 9 246 1539 [(3, .int (nI i)), (2, .ref 111), (1, .ref 0), (0, .float 4)] [] w2 P) : sx_RP (some ys) 9 246 228 [(3, .int (nI i)), (2, .ref 111), (1, .ref 0), (0, .float 4)] [] w P := by
  obtain ⟨s, hC, hR, hb⟩ := hL
  refine sx_RP.step (pc2 := 229) (ls2 := [(3, .int (nI i)), (2, .ref 111), (1, .ref 0), (0, .float 4)]) (st2 := [.ref 0]) (w3 := w) rfl rfl ?_
  refine sx_RP.step (pc2 := 230) (ls2 := [(3, .int (nI i)), (2, .ref 111), (1, .ref 0), (0, .float 4)]) (st2 := [.float 4, .ref 0]) (w3 := w) rfl rfl ?_
  refine sx_RP.step (pc2 := 231) (ls2 := [(3, .int (nI i)), (2, .ref 111), (1, .ref 0), (0, .float 4)]) (st2 := [.int (nI i), .float 4, .ref 0]) (w3 := w) rfl rfl ?_
  refine sx_RP.step (pc2 := 232) (ls2 := [(3, .int (nI i)), (2, .ref 111), (1, .ref 0), (0, .float 4)]) (st2 := [.int 1, .int (nI i), .float 4, .ref 0]) (w3 := w) rfl rfl ?_
  refine sx_RP.step (pc2 := 233) (ls2 := [(3, .int (nI i)), (2, .ref 111), (1, .ref 0), (0, .float 4)]) (st2 := [.int ((nI i) + 1), .float 4, .ref 0]) (w3 := w) rfl rfl ?_
  rw [show ((nI i) + 1 : Int32) = nI (i + 1) from nI_add i 1]
  refine sx_RP.scr (x := (i + 1)) rfl (by omega) hl (show _ = 234 from rfl) ?_
  refine sx_RP.step (pc2 := 235) (ls2 := [(3, .int (nI i)), (2, .ref 111), (1, .ref 0), (0, .float 4)]) (st2 := [.float 4, .int (ys.getD ((i + 1)) 0), .ref 0]) (w3 := w) rfl rfl ?_
  refine sx_RP.step (pc2 := 236) (ls2 := [(3, .int (nI i)), (2, .ref 111), (1, .ref 0), (0, .float 4)]) (st2 := [.int (nI i), .float 4, .int (ys.getD ((i + 1)) 0), .ref 0]) (w3 := w) rfl rfl ?_
  refine sx_RP.step (pc2 := 237) (ls2 := [(3, .int (nI i)), (2, .ref 111), (1, .ref 0), (0, .float 4)]) (st2 := [.int 2, .int (nI i), .float 4, .int (ys.getD ((i + 1)) 0), .ref 0]) (w3 := w) rfl rfl ?_
  refine sx_RP.step (pc2 := 238) (ls2 := [(3, .int (nI i)), (2, .ref 111), (1, .ref 0), (0, .float 4)]) (st2 := [.int ((nI i) + 2), .float 4, .int (ys.getD ((i + 1)) 0), .ref 0]) (w3 := w) rfl rfl ?_
  rw [show ((nI i) + 2 : Int32) = nI (i + 2) from nI_add i 2]
  refine sx_RP.scr (x := (i + 2)) rfl (by omega) hl (show _ = 239 from rfl) ?_
  refine sx_RP.callp (as2 := [.ref 0, .int (ys.getD ((i + 1)) 0), .int (ys.getD ((i + 2)) 0)]) (rest2 := []) rfl rfl (sx_inv_v2 (mi := 246) (k := 13) (st := [.int (ys.getD ((i + 2)) 0), .int (ys.getD ((i + 1)) 0), .ref 0]) (w := w) rfl rfl hI.1.o0 rfl rfl rfl) rfl rfl rfl (sx_RP.byk (c6 (d := 1) hI hC (ys.getD ((i + 1)) 0) (ys.getD ((i + 2)) 0))) (show _ = 242 from rfl) ?_
  rintro r4 w1 ⟨⟨rfl, hI2, ⟨hC3, hi4⟩⟩, hbk5⟩
  have hR6 := hR.hi hi4
  have hb7 := hbk5 hb
  show sx_RP _ _ _ _ _ [.int (gndA s.1 (ys.getD ((i + 1)) 0) (ys.getD ((i + 2)) 0))] _ _
  refine sx_RP.step (pc2 := 243) (ls2 := [(3, .int (nI i)), (2, .ref 111), (1, .ref 0), (0, .float 4)]) (st2 := []) (w3 := w1) rfl rfl ?_
  refine sx_RP.step (pc2 := 244) (ls2 := [(3, .int (nI i)), (2, .ref 111), (1, .ref 0), (0, .float 4)]) (st2 := [.ref 111]) (w3 := w1) rfl rfl ?_
  refine sx_RP.step (pc2 := 245) (ls2 := [(3, .int (nI i)), (2, .ref 111), (1, .ref 0), (0, .float 4)]) (st2 := [.float 4, .ref 111]) (w3 := w1) rfl rfl ?_
  refine sx_RP.step (pc2 := 246) (ls2 := [(3, .int (nI i)), (2, .ref 111), (1, .ref 0), (0, .float 4)]) (st2 := [.int (nI i), .float 4, .ref 111]) (w3 := w1) rfl rfl ?_
  refine sx_RP.step (pc2 := 247) (ls2 := [(3, .int (nI i)), (2, .ref 111), (1, .ref 0), (0, .float 4)]) (st2 := [.int 1, .int (nI i), .float 4, .ref 111]) (w3 := w1) rfl rfl ?_
  refine sx_RP.step (pc2 := 248) (ls2 := [(3, .int (nI i)), (2, .ref 111), (1, .ref 0), (0, .float 4)]) (st2 := [.int ((nI i) + 1), .float 4, .ref 111]) (w3 := w1) rfl rfl ?_
  rw [show ((nI i) + 1 : Int32) = nI (i + 1) from nI_add i 1]
  refine sx_RP.scr (x := (i + 1)) rfl (by omega) hl (show _ = 249 from rfl) ?_
  refine sx_RP.step (pc2 := 250) (ls2 := [(3, .int (nI i)), (2, .ref 111), (1, .ref 0), (0, .float 4)]) (st2 := [.float 4, .int (ys.getD ((i + 1)) 0), .ref 111]) (w3 := w1) rfl rfl ?_
  refine sx_RP.step (pc2 := 251) (ls2 := [(3, .int (nI i)), (2, .ref 111), (1, .ref 0), (0, .float 4)]) (st2 := [.int (nI i), .float 4, .int (ys.getD ((i + 1)) 0), .ref 111]) (w3 := w1) rfl rfl ?_
  refine sx_RP.step (pc2 := 252) (ls2 := [(3, .int (nI i)), (2, .ref 111), (1, .ref 0), (0, .float 4)]) (st2 := [.int 2, .int (nI i), .float 4, .int (ys.getD ((i + 1)) 0), .ref 111]) (w3 := w1) rfl rfl ?_
  refine sx_RP.step (pc2 := 253) (ls2 := [(3, .int (nI i)), (2, .ref 111), (1, .ref 0), (0, .float 4)]) (st2 := [.int ((nI i) + 2), .float 4, .int (ys.getD ((i + 1)) 0), .ref 111]) (w3 := w1) rfl rfl ?_
  rw [show ((nI i) + 2 : Int32) = nI (i + 2) from nI_add i 2]
  refine sx_RP.scr (x := (i + 2)) rfl (by omega) hl (show _ = 254 from rfl) ?_
  refine sx_RP.callp (as2 := [.ref 111, .int (ys.getD ((i + 1)) 0), .int (ys.getD ((i + 2)) 0)]) (rest2 := []) rfl rfl (sx_inv_v2 (mi := 246) (k := 17) (st := [.int (ys.getD ((i + 2)) 0), .int (ys.getD ((i + 1)) 0), .ref 111]) (w := w1) rfl rfl hI2.1.o111 rfl rfl rfl) rfl rfl rfl (sx_RP.byk (r130 (d := 1) hI2 hR6 (ys.getD ((i + 1)) 0) (ys.getD ((i + 2)) 0))) (show _ = 257 from rfl) ?_
  rintro r4 w8 ⟨⟨rfl, hI9, ⟨hR10, lo11⟩⟩, hbk12⟩
  have hL13 : LI w8 := ⟨_, hC3.lo hI2 lo11, hR10, hbk12 hb7⟩
  show sx_RP _ _ _ _ _ [.int (gndA s.1 (ys.getD ((i + 1)) 0) (ys.getD ((i + 2)) 0))] _ _
  refine sx_RP.step (pc2 := 258) (ls2 := [(3, .int (nI i)), (2, .ref 111), (1, .ref 0), (0, .float 4)]) (st2 := []) (w3 := w8) rfl rfl ?_
  refine sx_RP.step (pc2 := 1539) (ls2 := [(3, .int (nI i)), (2, .ref 111), (1, .ref 0), (0, .float 4)]) (st2 := []) (w3 := w8) rfl rfl ?_
  exact kk w8 hI9 hL13
set_option maxRecDepth 20000 in
set_option maxHeartbeats 4000000 in
theorem lc1 {ys : List Int32} {i : Nat} {w : List sx_C} {P : Option Value → List sx_C → Prop} (hl : ys.length ≤ 3072) (hn : i + 6 ≤ ys.length) (hI : WI w) (hL : LI w) (kk : ∀ w2, WI w2 → LI w2 → sx_RP (some ys) 9 246 1539 [(3, .int (nI i)), (2, .ref 111), (1, .ref 0), (0, .float 4)] [] w2 P) : sx_RP (some ys) 9 246 261 [(3, .int (nI i)), (2, .ref 111), (1, .ref 0), (0, .float 4)] [] w P := by
  obtain ⟨s, hC, hR, hb⟩ := hL
  refine sx_RP.step (pc2 := 262) (ls2 := [(3, .int (nI i)), (2, .ref 111), (1, .ref 0), (0, .float 4)]) (st2 := [.ref 0]) (w3 := w) rfl rfl ?_
  refine sx_RP.step (pc2 := 263) (ls2 := [(3, .int (nI i)), (2, .ref 111), (1, .ref 0), (0, .float 4)]) (st2 := [.float 4, .ref 0]) (w3 := w) rfl rfl ?_
  refine sx_RP.step (pc2 := 264) (ls2 := [(3, .int (nI i)), (2, .ref 111), (1, .ref 0), (0, .float 4)]) (st2 := [.int (nI i), .float 4, .ref 0]) (w3 := w) rfl rfl ?_
  refine sx_RP.step (pc2 := 265) (ls2 := [(3, .int (nI i)), (2, .ref 111), (1, .ref 0), (0, .float 4)]) (st2 := [.int 1, .int (nI i), .float 4, .ref 0]) (w3 := w) rfl rfl ?_
  refine sx_RP.step (pc2 := 266) (ls2 := [(3, .int (nI i)), (2, .ref 111), (1, .ref 0), (0, .float 4)]) (st2 := [.int ((nI i) + 1), .float 4, .ref 0]) (w3 := w) rfl rfl ?_
  rw [show ((nI i) + 1 : Int32) = nI (i + 1) from nI_add i 1]
  refine sx_RP.scr (x := (i + 1)) rfl (by omega) hl (show _ = 267 from rfl) ?_
  refine sx_RP.step (pc2 := 268) (ls2 := [(3, .int (nI i)), (2, .ref 111), (1, .ref 0), (0, .float 4)]) (st2 := [.float 4, .int (ys.getD ((i + 1)) 0), .ref 0]) (w3 := w) rfl rfl ?_
  refine sx_RP.step (pc2 := 269) (ls2 := [(3, .int (nI i)), (2, .ref 111), (1, .ref 0), (0, .float 4)]) (st2 := [.int (nI i), .float 4, .int (ys.getD ((i + 1)) 0), .ref 0]) (w3 := w) rfl rfl ?_
  refine sx_RP.step (pc2 := 270) (ls2 := [(3, .int (nI i)), (2, .ref 111), (1, .ref 0), (0, .float 4)]) (st2 := [.int 2, .int (nI i), .float 4, .int (ys.getD ((i + 1)) 0), .ref 0]) (w3 := w) rfl rfl ?_
  refine sx_RP.step (pc2 := 271) (ls2 := [(3, .int (nI i)), (2, .ref 111), (1, .ref 0), (0, .float 4)]) (st2 := [.int ((nI i) + 2), .float 4, .int (ys.getD ((i + 1)) 0), .ref 0]) (w3 := w) rfl rfl ?_
  rw [show ((nI i) + 2 : Int32) = nI (i + 2) from nI_add i 2]
  refine sx_RP.scr (x := (i + 2)) rfl (by omega) hl (show _ = 272 from rfl) ?_
  refine sx_RP.br (p1 := 279) (l1 := [(3, .int (nI i)), (2, .ref 111), (1, .ref 0), (0, .float 4)]) (s1 := [.int (ys.getD ((i + 1)) 0), .ref 0]) (v1 := w) (p2 := 275) (l2 := [(3, .int (nI i)), (2, .ref 111), (1, .ref 0), (0, .float 4)]) (s2 := [.int (ys.getD ((i + 1)) 0), .ref 0]) (v2 := w) rfl rfl (fun q1 => ?_) (fun q1 => ?_)
  · replace q1 := of_decide_eq_true q1
    refine sx_RP.step (pc2 := 280) (ls2 := [(3, .int (nI i)), (2, .ref 111), (1, .ref 0), (0, .float 4)]) (st2 := [.int 0, .int (ys.getD ((i + 1)) 0), .ref 0]) (w3 := w) rfl rfl ?_
    refine sx_RP.callp (as2 := [.ref 0, .int (ys.getD ((i + 1)) 0), .int 0]) (rest2 := []) rfl rfl (sx_inv_v2 (mi := 246) (k := 18) (st := [.int 0, .int (ys.getD ((i + 1)) 0), .ref 0]) (w := w) rfl rfl hI.1.o0 rfl rfl rfl) rfl rfl rfl (sx_RP.byk (c10_0 (d := 1) hI hC (ys.getD ((i + 1)) 0))) (show _ = 283 from rfl) ?_
    rintro r4 w2 ⟨⟨rfl, hI3, ⟨hC4, hi5⟩⟩, hbk6⟩
    have hR7 := hR.hi hi5
    have hb8 := hbk6 hb
    show sx_RP _ _ _ _ _ [.int (walA s.1 (ys.getD ((i + 1)) 0) 0)] _ _
    refine sx_RP.step (pc2 := 284) (ls2 := [(3, .int (nI i)), (2, .ref 111), (1, .ref 0), (0, .float 4)]) (st2 := []) (w3 := w2) rfl rfl ?_
    refine sx_RP.step (pc2 := 285) (ls2 := [(3, .int (nI i)), (2, .ref 111), (1, .ref 0), (0, .float 4)]) (st2 := [.ref 111]) (w3 := w2) rfl rfl ?_
    refine sx_RP.step (pc2 := 286) (ls2 := [(3, .int (nI i)), (2, .ref 111), (1, .ref 0), (0, .float 4)]) (st2 := [.float 4, .ref 111]) (w3 := w2) rfl rfl ?_
    refine sx_RP.step (pc2 := 287) (ls2 := [(3, .int (nI i)), (2, .ref 111), (1, .ref 0), (0, .float 4)]) (st2 := [.int (nI i), .float 4, .ref 111]) (w3 := w2) rfl rfl ?_
    refine sx_RP.step (pc2 := 288) (ls2 := [(3, .int (nI i)), (2, .ref 111), (1, .ref 0), (0, .float 4)]) (st2 := [.int 1, .int (nI i), .float 4, .ref 111]) (w3 := w2) rfl rfl ?_
    refine sx_RP.step (pc2 := 289) (ls2 := [(3, .int (nI i)), (2, .ref 111), (1, .ref 0), (0, .float 4)]) (st2 := [.int ((nI i) + 1), .float 4, .ref 111]) (w3 := w2) rfl rfl ?_
    rw [show ((nI i) + 1 : Int32) = nI (i + 1) from nI_add i 1]
    refine sx_RP.scr (x := (i + 1)) rfl (by omega) hl (show _ = 290 from rfl) ?_
    refine sx_RP.step (pc2 := 291) (ls2 := [(3, .int (nI i)), (2, .ref 111), (1, .ref 0), (0, .float 4)]) (st2 := [.float 4, .int (ys.getD ((i + 1)) 0), .ref 111]) (w3 := w2) rfl rfl ?_
    refine sx_RP.step (pc2 := 292) (ls2 := [(3, .int (nI i)), (2, .ref 111), (1, .ref 0), (0, .float 4)]) (st2 := [.int (nI i), .float 4, .int (ys.getD ((i + 1)) 0), .ref 111]) (w3 := w2) rfl rfl ?_
    refine sx_RP.step (pc2 := 293) (ls2 := [(3, .int (nI i)), (2, .ref 111), (1, .ref 0), (0, .float 4)]) (st2 := [.int 2, .int (nI i), .float 4, .int (ys.getD ((i + 1)) 0), .ref 111]) (w3 := w2) rfl rfl ?_
    refine sx_RP.step (pc2 := 294) (ls2 := [(3, .int (nI i)), (2, .ref 111), (1, .ref 0), (0, .float 4)]) (st2 := [.int ((nI i) + 2), .float 4, .int (ys.getD ((i + 1)) 0), .ref 111]) (w3 := w2) rfl rfl ?_
    rw [show ((nI i) + 2 : Int32) = nI (i + 2) from nI_add i 2]
    refine sx_RP.scr (x := (i + 2)) rfl (by omega) hl (show _ = 295 from rfl) ?_
    refine sx_RP.br (p1 := 302) (l1 := [(3, .int (nI i)), (2, .ref 111), (1, .ref 0), (0, .float 4)]) (s1 := [.int (ys.getD ((i + 1)) 0), .ref 111]) (v1 := w2) rfl rfl (fun _ => ?_) (fun q => absurd q1 (of_decide_eq_false q))
    refine sx_RP.step (pc2 := 303) (ls2 := [(3, .int (nI i)), (2, .ref 111), (1, .ref 0), (0, .float 4)]) (st2 := [.int 0, .int (ys.getD ((i + 1)) 0), .ref 111]) (w3 := w2) rfl rfl ?_
    refine sx_RP.callp (as2 := [.ref 111, .int (ys.getD ((i + 1)) 0), .int 0]) (rest2 := []) rfl rfl (sx_inv_v2 (mi := 246) (k := 22) (st := [.int 0, .int (ys.getD ((i + 1)) 0), .ref 111]) (w := w2) rfl rfl hI3.1.o111 rfl rfl rfl) rfl rfl rfl (sx_RP.byk (r134_0 (d := 1) hI3 hR7 (ys.getD ((i + 1)) 0))) (show _ = 306 from rfl) ?_
    rintro r4 w9 ⟨⟨rfl, hI10, ⟨hR11, lo12⟩⟩, hbk13⟩
    have hL14 : LI w9 := ⟨_, hC4.lo hI3 lo12, hR11, hbk13 hb8⟩
    show sx_RP _ _ _ _ _ [.int (walA s.1 (ys.getD ((i + 1)) 0) 0)] _ _
    refine sx_RP.step (pc2 := 307) (ls2 := [(3, .int (nI i)), (2, .ref 111), (1, .ref 0), (0, .float 4)]) (st2 := []) (w3 := w9) rfl rfl ?_
    refine sx_RP.step (pc2 := 1539) (ls2 := [(3, .int (nI i)), (2, .ref 111), (1, .ref 0), (0, .float 4)]) (st2 := []) (w3 := w9) rfl rfl ?_
    exact kk w9 hI10 hL14
  · replace q1 := of_decide_eq_false q1
    refine sx_RP.step (pc2 := 276) (ls2 := [(3, .int (nI i)), (2, .ref 111), (1, .ref 0), (0, .float 4)]) (st2 := [.int 1, .int (ys.getD ((i + 1)) 0), .ref 0]) (w3 := w) rfl rfl ?_
    refine sx_RP.step (pc2 := 280) (ls2 := [(3, .int (nI i)), (2, .ref 111), (1, .ref 0), (0, .float 4)]) (st2 := [.int 1, .int (ys.getD ((i + 1)) 0), .ref 0]) (w3 := w) rfl rfl ?_
    refine sx_RP.callp (as2 := [.ref 0, .int (ys.getD ((i + 1)) 0), .int 1]) (rest2 := []) rfl rfl (sx_inv_v2 (mi := 246) (k := 18) (st := [.int 1, .int (ys.getD ((i + 1)) 0), .ref 0]) (w := w) rfl rfl hI.1.o0 rfl rfl rfl) rfl rfl rfl (sx_RP.byk (c10_1 (d := 1) hI hC (ys.getD ((i + 1)) 0))) (show _ = 283 from rfl) ?_
    rintro r4 w15 ⟨⟨rfl, hI16, ⟨hC17, hi18⟩⟩, hbk19⟩
    have hR20 := hR.hi hi18
    have hb21 := hbk19 hb
    show sx_RP _ _ _ _ _ [.int (walA s.1 (ys.getD ((i + 1)) 0) 1)] _ _
    refine sx_RP.step (pc2 := 284) (ls2 := [(3, .int (nI i)), (2, .ref 111), (1, .ref 0), (0, .float 4)]) (st2 := []) (w3 := w15) rfl rfl ?_
    refine sx_RP.step (pc2 := 285) (ls2 := [(3, .int (nI i)), (2, .ref 111), (1, .ref 0), (0, .float 4)]) (st2 := [.ref 111]) (w3 := w15) rfl rfl ?_
    refine sx_RP.step (pc2 := 286) (ls2 := [(3, .int (nI i)), (2, .ref 111), (1, .ref 0), (0, .float 4)]) (st2 := [.float 4, .ref 111]) (w3 := w15) rfl rfl ?_
    refine sx_RP.step (pc2 := 287) (ls2 := [(3, .int (nI i)), (2, .ref 111), (1, .ref 0), (0, .float 4)]) (st2 := [.int (nI i), .float 4, .ref 111]) (w3 := w15) rfl rfl ?_
    refine sx_RP.step (pc2 := 288) (ls2 := [(3, .int (nI i)), (2, .ref 111), (1, .ref 0), (0, .float 4)]) (st2 := [.int 1, .int (nI i), .float 4, .ref 111]) (w3 := w15) rfl rfl ?_
    refine sx_RP.step (pc2 := 289) (ls2 := [(3, .int (nI i)), (2, .ref 111), (1, .ref 0), (0, .float 4)]) (st2 := [.int ((nI i) + 1), .float 4, .ref 111]) (w3 := w15) rfl rfl ?_
    rw [show ((nI i) + 1 : Int32) = nI (i + 1) from nI_add i 1]
    refine sx_RP.scr (x := (i + 1)) rfl (by omega) hl (show _ = 290 from rfl) ?_
    refine sx_RP.step (pc2 := 291) (ls2 := [(3, .int (nI i)), (2, .ref 111), (1, .ref 0), (0, .float 4)]) (st2 := [.float 4, .int (ys.getD ((i + 1)) 0), .ref 111]) (w3 := w15) rfl rfl ?_
    refine sx_RP.step (pc2 := 292) (ls2 := [(3, .int (nI i)), (2, .ref 111), (1, .ref 0), (0, .float 4)]) (st2 := [.int (nI i), .float 4, .int (ys.getD ((i + 1)) 0), .ref 111]) (w3 := w15) rfl rfl ?_
    refine sx_RP.step (pc2 := 293) (ls2 := [(3, .int (nI i)), (2, .ref 111), (1, .ref 0), (0, .float 4)]) (st2 := [.int 2, .int (nI i), .float 4, .int (ys.getD ((i + 1)) 0), .ref 111]) (w3 := w15) rfl rfl ?_
    refine sx_RP.step (pc2 := 294) (ls2 := [(3, .int (nI i)), (2, .ref 111), (1, .ref 0), (0, .float 4)]) (st2 := [.int ((nI i) + 2), .float 4, .int (ys.getD ((i + 1)) 0), .ref 111]) (w3 := w15) rfl rfl ?_
    rw [show ((nI i) + 2 : Int32) = nI (i + 2) from nI_add i 2]
    refine sx_RP.scr (x := (i + 2)) rfl (by omega) hl (show _ = 295 from rfl) ?_
    refine sx_RP.br (p2 := 298) (l2 := [(3, .int (nI i)), (2, .ref 111), (1, .ref 0), (0, .float 4)]) (s2 := [.int (ys.getD ((i + 1)) 0), .ref 111]) (v2 := w15) rfl rfl (fun q => absurd (of_decide_eq_true q) q1) (fun _ => ?_)
    refine sx_RP.step (pc2 := 299) (ls2 := [(3, .int (nI i)), (2, .ref 111), (1, .ref 0), (0, .float 4)]) (st2 := [.int 1, .int (ys.getD ((i + 1)) 0), .ref 111]) (w3 := w15) rfl rfl ?_
    refine sx_RP.step (pc2 := 303) (ls2 := [(3, .int (nI i)), (2, .ref 111), (1, .ref 0), (0, .float 4)]) (st2 := [.int 1, .int (ys.getD ((i + 1)) 0), .ref 111]) (w3 := w15) rfl rfl ?_
    refine sx_RP.callp (as2 := [.ref 111, .int (ys.getD ((i + 1)) 0), .int 1]) (rest2 := []) rfl rfl (sx_inv_v2 (mi := 246) (k := 22) (st := [.int 1, .int (ys.getD ((i + 1)) 0), .ref 111]) (w := w15) rfl rfl hI16.1.o111 rfl rfl rfl) rfl rfl rfl (sx_RP.byk (r134_1 (d := 1) hI16 hR20 (ys.getD ((i + 1)) 0))) (show _ = 306 from rfl) ?_
    rintro r4 w22 ⟨⟨rfl, hI23, ⟨hR24, lo25⟩⟩, hbk26⟩
    have hL27 : LI w22 := ⟨_, hC17.lo hI16 lo25, hR24, hbk26 hb21⟩
    show sx_RP _ _ _ _ _ [.int (walA s.1 (ys.getD ((i + 1)) 0) 1)] _ _
    refine sx_RP.step (pc2 := 307) (ls2 := [(3, .int (nI i)), (2, .ref 111), (1, .ref 0), (0, .float 4)]) (st2 := []) (w3 := w22) rfl rfl ?_
    refine sx_RP.step (pc2 := 1539) (ls2 := [(3, .int (nI i)), (2, .ref 111), (1, .ref 0), (0, .float 4)]) (st2 := []) (w3 := w22) rfl rfl ?_
    exact kk w22 hI23 hL27
set_option maxRecDepth 20000 in
set_option maxHeartbeats 4000000 in
theorem lc2 {ys : List Int32} {i : Nat} {w : List sx_C} {P : Option Value → List sx_C → Prop} (hl : ys.length ≤ 3072) (hn : i + 6 ≤ ys.length) (hI : WI w) (hL : LI w) (kk : ∀ w2, WI w2 → LI w2 → sx_RP (some ys) 9 246 1539 [(3, .int (nI i)), (2, .ref 111), (1, .ref 0), (0, .float 4)] [] w2 P) : sx_RP (some ys) 9 246 310 [(3, .int (nI i)), (2, .ref 111), (1, .ref 0), (0, .float 4)] [] w P := by
  obtain ⟨s, hC, hR, hb⟩ := hL
  refine sx_RP.step (pc2 := 311) (ls2 := [(3, .int (nI i)), (2, .ref 111), (1, .ref 0), (0, .float 4)]) (st2 := [.ref 0]) (w3 := w) rfl rfl ?_
  refine sx_RP.step (pc2 := 312) (ls2 := [(3, .int (nI i)), (2, .ref 111), (1, .ref 0), (0, .float 4)]) (st2 := [.float 4, .ref 0]) (w3 := w) rfl rfl ?_
  refine sx_RP.step (pc2 := 313) (ls2 := [(3, .int (nI i)), (2, .ref 111), (1, .ref 0), (0, .float 4)]) (st2 := [.int (nI i), .float 4, .ref 0]) (w3 := w) rfl rfl ?_
  refine sx_RP.step (pc2 := 314) (ls2 := [(3, .int (nI i)), (2, .ref 111), (1, .ref 0), (0, .float 4)]) (st2 := [.int 1, .int (nI i), .float 4, .ref 0]) (w3 := w) rfl rfl ?_
  refine sx_RP.step (pc2 := 315) (ls2 := [(3, .int (nI i)), (2, .ref 111), (1, .ref 0), (0, .float 4)]) (st2 := [.int ((nI i) + 1), .float 4, .ref 0]) (w3 := w) rfl rfl ?_
  rw [show ((nI i) + 1 : Int32) = nI (i + 1) from nI_add i 1]
  refine sx_RP.scr (x := (i + 1)) rfl (by omega) hl (show _ = 316 from rfl) ?_
  refine sx_RP.step (pc2 := 317) (ls2 := [(3, .int (nI i)), (2, .ref 111), (1, .ref 0), (0, .float 4)]) (st2 := [.float 4, .int (ys.getD ((i + 1)) 0), .ref 0]) (w3 := w) rfl rfl ?_
  refine sx_RP.step (pc2 := 318) (ls2 := [(3, .int (nI i)), (2, .ref 111), (1, .ref 0), (0, .float 4)]) (st2 := [.int (nI i), .float 4, .int (ys.getD ((i + 1)) 0), .ref 0]) (w3 := w) rfl rfl ?_
  refine sx_RP.step (pc2 := 319) (ls2 := [(3, .int (nI i)), (2, .ref 111), (1, .ref 0), (0, .float 4)]) (st2 := [.int 2, .int (nI i), .float 4, .int (ys.getD ((i + 1)) 0), .ref 0]) (w3 := w) rfl rfl ?_
  refine sx_RP.step (pc2 := 320) (ls2 := [(3, .int (nI i)), (2, .ref 111), (1, .ref 0), (0, .float 4)]) (st2 := [.int ((nI i) + 2), .float 4, .int (ys.getD ((i + 1)) 0), .ref 0]) (w3 := w) rfl rfl ?_
  rw [show ((nI i) + 2 : Int32) = nI (i + 2) from nI_add i 2]
  refine sx_RP.scr (x := (i + 2)) rfl (by omega) hl (show _ = 321 from rfl) ?_
  refine sx_RP.callp (as2 := [.ref 0, .int (ys.getD ((i + 1)) 0), .int (ys.getD ((i + 2)) 0)]) (rest2 := []) rfl rfl (sx_inv_v2 (mi := 246) (k := 23) (st := [.int (ys.getD ((i + 2)) 0), .int (ys.getD ((i + 1)) 0), .ref 0]) (w := w) rfl rfl hI.1.o0 rfl rfl rfl) rfl rfl rfl (sx_RP.byk (c12 (d := 1) hI hC (ys.getD ((i + 1)) 0) (ys.getD ((i + 2)) 0))) (show _ = 324 from rfl) ?_
  rintro r4 w1 ⟨⟨⟨v3, rfl⟩, hI2, ⟨hC4, hi5⟩⟩, hbk6⟩
  have hR7 := hR.hi hi5
  have hb8 := hbk6 hb
  show sx_RP _ _ _ _ _ [.int v3] _ _
  refine sx_RP.step (pc2 := 325) (ls2 := [(3, .int (nI i)), (2, .ref 111), (1, .ref 0), (0, .float 4)]) (st2 := []) (w3 := w1) rfl rfl ?_
  refine sx_RP.step (pc2 := 326) (ls2 := [(3, .int (nI i)), (2, .ref 111), (1, .ref 0), (0, .float 4)]) (st2 := [.ref 111]) (w3 := w1) rfl rfl ?_
  refine sx_RP.step (pc2 := 327) (ls2 := [(3, .int (nI i)), (2, .ref 111), (1, .ref 0), (0, .float 4)]) (st2 := [.float 4, .ref 111]) (w3 := w1) rfl rfl ?_
  refine sx_RP.step (pc2 := 328) (ls2 := [(3, .int (nI i)), (2, .ref 111), (1, .ref 0), (0, .float 4)]) (st2 := [.int (nI i), .float 4, .ref 111]) (w3 := w1) rfl rfl ?_
  refine sx_RP.step (pc2 := 329) (ls2 := [(3, .int (nI i)), (2, .ref 111), (1, .ref 0), (0, .float 4)]) (st2 := [.int 1, .int (nI i), .float 4, .ref 111]) (w3 := w1) rfl rfl ?_
  refine sx_RP.step (pc2 := 330) (ls2 := [(3, .int (nI i)), (2, .ref 111), (1, .ref 0), (0, .float 4)]) (st2 := [.int ((nI i) + 1), .float 4, .ref 111]) (w3 := w1) rfl rfl ?_
  rw [show ((nI i) + 1 : Int32) = nI (i + 1) from nI_add i 1]
  refine sx_RP.scr (x := (i + 1)) rfl (by omega) hl (show _ = 331 from rfl) ?_
  refine sx_RP.step (pc2 := 332) (ls2 := [(3, .int (nI i)), (2, .ref 111), (1, .ref 0), (0, .float 4)]) (st2 := [.float 4, .int (ys.getD ((i + 1)) 0), .ref 111]) (w3 := w1) rfl rfl ?_
  refine sx_RP.step (pc2 := 333) (ls2 := [(3, .int (nI i)), (2, .ref 111), (1, .ref 0), (0, .float 4)]) (st2 := [.int (nI i), .float 4, .int (ys.getD ((i + 1)) 0), .ref 111]) (w3 := w1) rfl rfl ?_
  refine sx_RP.step (pc2 := 334) (ls2 := [(3, .int (nI i)), (2, .ref 111), (1, .ref 0), (0, .float 4)]) (st2 := [.int 2, .int (nI i), .float 4, .int (ys.getD ((i + 1)) 0), .ref 111]) (w3 := w1) rfl rfl ?_
  refine sx_RP.step (pc2 := 335) (ls2 := [(3, .int (nI i)), (2, .ref 111), (1, .ref 0), (0, .float 4)]) (st2 := [.int ((nI i) + 2), .float 4, .int (ys.getD ((i + 1)) 0), .ref 111]) (w3 := w1) rfl rfl ?_
  rw [show ((nI i) + 2 : Int32) = nI (i + 2) from nI_add i 2]
  refine sx_RP.scr (x := (i + 2)) rfl (by omega) hl (show _ = 336 from rfl) ?_
  refine sx_RP.callp (as2 := [.ref 111, .int (ys.getD ((i + 1)) 0), .int (ys.getD ((i + 2)) 0)]) (rest2 := []) rfl rfl (sx_inv_v2 (mi := 246) (k := 26) (st := [.int (ys.getD ((i + 2)) 0), .int (ys.getD ((i + 1)) 0), .ref 111]) (w := w1) rfl rfl hI2.1.o111 rfl rfl rfl) rfl rfl rfl (sx_RP.byk (r135 (d := 1) hI2 hR7 (ys.getD ((i + 1)) 0) (ys.getD ((i + 2)) 0))) (show _ = 339 from rfl) ?_
  rintro r4 w9 ⟨⟨⟨v11, rfl⟩, hI10, ⟨hR12, lo13⟩⟩, hbk14⟩
  have hL15 : LI w9 := ⟨_, hC4.lo hI2 lo13, hR12, hbk14 hb8⟩
  show sx_RP _ _ _ _ _ [.int v11] _ _
  refine sx_RP.step (pc2 := 340) (ls2 := [(3, .int (nI i)), (2, .ref 111), (1, .ref 0), (0, .float 4)]) (st2 := []) (w3 := w9) rfl rfl ?_
  refine sx_RP.step (pc2 := 1539) (ls2 := [(3, .int (nI i)), (2, .ref 111), (1, .ref 0), (0, .float 4)]) (st2 := []) (w3 := w9) rfl rfl ?_
  exact kk w9 hI10 hL15
set_option maxRecDepth 20000 in
set_option maxHeartbeats 4000000 in
theorem lc3 {ys : List Int32} {i : Nat} {w : List sx_C} {P : Option Value → List sx_C → Prop} (hl : ys.length ≤ 3072) (hn : i + 6 ≤ ys.length) (hI : WI w) (hL : LI w) (kk : ∀ w2, WI w2 → LI w2 → sx_RP (some ys) 9 246 1539 [(3, .int (nI i)), (2, .ref 111), (1, .ref 0), (0, .float 4)] [] w2 P) : sx_RP (some ys) 9 246 343 [(3, .int (nI i)), (2, .ref 111), (1, .ref 0), (0, .float 4)] [] w P := by
  obtain ⟨s, hC, hR, hb⟩ := hL
  refine sx_RP.step (pc2 := 344) (ls2 := [(3, .int (nI i)), (2, .ref 111), (1, .ref 0), (0, .float 4)]) (st2 := [.ref 0]) (w3 := w) rfl rfl ?_
  refine sx_RP.callp (as2 := [.ref 0]) (rest2 := []) rfl rfl (sx_inv_v2 (mi := 246) (k := 27) (st := [.ref 0]) (w := w) rfl rfl hI.1.o0 rfl rfl rfl) rfl rfl rfl (sx_RP.byk (c14 (d := 1) hI hC)) (show _ = 347 from rfl) ?_
  rintro r4 w1 ⟨⟨⟨v3, rfl⟩, hI2, ⟨hC4, hi5⟩⟩, hbk6⟩
  have hR7 := hR.hi hi5
  have hb8 := hbk6 hb
  show sx_RP _ _ _ _ _ [.long v3] _ _
  refine sx_RP.step (pc2 := 348) (ls2 := [(3, .int (nI i)), (2, .ref 111), (1, .ref 0), (0, .float 4)]) (st2 := []) (w3 := w1) rfl rfl ?_
  refine sx_RP.step (pc2 := 349) (ls2 := [(3, .int (nI i)), (2, .ref 111), (1, .ref 0), (0, .float 4)]) (st2 := [.ref 111]) (w3 := w1) rfl rfl ?_
  refine sx_RP.callp (as2 := [.ref 111]) (rest2 := []) rfl rfl (sx_inv_v2 (mi := 246) (k := 31) (st := [.ref 111]) (w := w1) rfl rfl hI2.1.o111 rfl rfl rfl) rfl rfl rfl (sx_RP.byk (r139 (d := 1) hI2 hR7)) (show _ = 352 from rfl) ?_
  rintro r4 w9 ⟨⟨⟨v11, rfl⟩, hI10, ⟨hR12, lo13⟩⟩, hbk14⟩
  have hL15 : LI w9 := ⟨_, hC4.lo hI2 lo13, hR12, hbk14 hb8⟩
  show sx_RP _ _ _ _ _ [.long v11] _ _
  refine sx_RP.step (pc2 := 353) (ls2 := [(3, .int (nI i)), (2, .ref 111), (1, .ref 0), (0, .float 4)]) (st2 := []) (w3 := w9) rfl rfl ?_
  refine sx_RP.step (pc2 := 1539) (ls2 := [(3, .int (nI i)), (2, .ref 111), (1, .ref 0), (0, .float 4)]) (st2 := []) (w3 := w9) rfl rfl ?_
  exact kk w9 hI10 hL15
set_option maxRecDepth 20000 in
set_option maxHeartbeats 4000000 in
theorem lc4 {ys : List Int32} {i : Nat} {w : List sx_C} {P : Option Value → List sx_C → Prop} (hl : ys.length ≤ 3072) (hn : i + 6 ≤ ys.length) (hI : WI w) (hL : LI w) (kk : ∀ w2, WI w2 → LI w2 → sx_RP (some ys) 9 246 1539 [(3, .int (nI i)), (2, .ref 111), (1, .ref 0), (0, .float 4)] [] w2 P) : sx_RP (some ys) 9 246 356 [(3, .int (nI i)), (2, .ref 111), (1, .ref 0), (0, .float 4)] [] w P := by
  obtain ⟨s, hC, hR, hb⟩ := hL
  refine sx_RP.step (pc2 := 357) (ls2 := [(3, .int (nI i)), (2, .ref 111), (1, .ref 0), (0, .float 4)]) (st2 := [.ref 0]) (w3 := w) rfl rfl ?_
  refine sx_RP.step (pc2 := 358) (ls2 := [(3, .int (nI i)), (2, .ref 111), (1, .ref 0), (0, .float 4)]) (st2 := [.float 4, .ref 0]) (w3 := w) rfl rfl ?_
  refine sx_RP.step (pc2 := 359) (ls2 := [(3, .int (nI i)), (2, .ref 111), (1, .ref 0), (0, .float 4)]) (st2 := [.int (nI i), .float 4, .ref 0]) (w3 := w) rfl rfl ?_
  refine sx_RP.step (pc2 := 360) (ls2 := [(3, .int (nI i)), (2, .ref 111), (1, .ref 0), (0, .float 4)]) (st2 := [.int 1, .int (nI i), .float 4, .ref 0]) (w3 := w) rfl rfl ?_
  refine sx_RP.step (pc2 := 361) (ls2 := [(3, .int (nI i)), (2, .ref 111), (1, .ref 0), (0, .float 4)]) (st2 := [.int ((nI i) + 1), .float 4, .ref 0]) (w3 := w) rfl rfl ?_
  rw [show ((nI i) + 1 : Int32) = nI (i + 1) from nI_add i 1]
  refine sx_RP.scr (x := (i + 1)) rfl (by omega) hl (show _ = 362 from rfl) ?_
  refine sx_RP.step (pc2 := 363) (ls2 := [(3, .int (nI i)), (2, .ref 111), (1, .ref 0), (0, .float 4)]) (st2 := [.float 4, .int (ys.getD ((i + 1)) 0), .ref 0]) (w3 := w) rfl rfl ?_
  refine sx_RP.step (pc2 := 364) (ls2 := [(3, .int (nI i)), (2, .ref 111), (1, .ref 0), (0, .float 4)]) (st2 := [.int (nI i), .float 4, .int (ys.getD ((i + 1)) 0), .ref 0]) (w3 := w) rfl rfl ?_
  refine sx_RP.step (pc2 := 365) (ls2 := [(3, .int (nI i)), (2, .ref 111), (1, .ref 0), (0, .float 4)]) (st2 := [.int 2, .int (nI i), .float 4, .int (ys.getD ((i + 1)) 0), .ref 0]) (w3 := w) rfl rfl ?_
  refine sx_RP.step (pc2 := 366) (ls2 := [(3, .int (nI i)), (2, .ref 111), (1, .ref 0), (0, .float 4)]) (st2 := [.int ((nI i) + 2), .float 4, .int (ys.getD ((i + 1)) 0), .ref 0]) (w3 := w) rfl rfl ?_
  rw [show ((nI i) + 2 : Int32) = nI (i + 2) from nI_add i 2]
  refine sx_RP.scr (x := (i + 2)) rfl (by omega) hl (show _ = 367 from rfl) ?_
  refine sx_RP.callp (as2 := [.ref 0, .int (ys.getD ((i + 1)) 0), .int (ys.getD ((i + 2)) 0)]) (rest2 := []) rfl rfl (sx_inv_v2 (mi := 246) (k := 32) (st := [.int (ys.getD ((i + 2)) 0), .int (ys.getD ((i + 1)) 0), .ref 0]) (w := w) rfl rfl hI.1.o0 rfl rfl rfl) rfl rfl rfl (sx_RP.byk (c15 (d := 1) hI hC (ys.getD ((i + 1)) 0) (ys.getD ((i + 2)) 0))) (show _ = 370 from rfl) ?_
  rintro r4 w1 ⟨⟨⟨v3, rfl⟩, hI2, ⟨hC4, hi5⟩⟩, hbk6⟩
  have hR7 := hR.hi hi5
  have hb8 := hbk6 hb
  show sx_RP _ _ _ _ _ [.int v3] _ _
  refine sx_RP.step (pc2 := 371) (ls2 := [(3, .int (nI i)), (2, .ref 111), (1, .ref 0), (0, .float 4)]) (st2 := []) (w3 := w1) rfl rfl ?_
  refine sx_RP.step (pc2 := 372) (ls2 := [(3, .int (nI i)), (2, .ref 111), (1, .ref 0), (0, .float 4)]) (st2 := [.ref 111]) (w3 := w1) rfl rfl ?_
  refine sx_RP.step (pc2 := 373) (ls2 := [(3, .int (nI i)), (2, .ref 111), (1, .ref 0), (0, .float 4)]) (st2 := [.float 4, .ref 111]) (w3 := w1) rfl rfl ?_
  refine sx_RP.step (pc2 := 374) (ls2 := [(3, .int (nI i)), (2, .ref 111), (1, .ref 0), (0, .float 4)]) (st2 := [.int (nI i), .float 4, .ref 111]) (w3 := w1) rfl rfl ?_
  refine sx_RP.step (pc2 := 375) (ls2 := [(3, .int (nI i)), (2, .ref 111), (1, .ref 0), (0, .float 4)]) (st2 := [.int 1, .int (nI i), .float 4, .ref 111]) (w3 := w1) rfl rfl ?_
  refine sx_RP.step (pc2 := 376) (ls2 := [(3, .int (nI i)), (2, .ref 111), (1, .ref 0), (0, .float 4)]) (st2 := [.int ((nI i) + 1), .float 4, .ref 111]) (w3 := w1) rfl rfl ?_
  rw [show ((nI i) + 1 : Int32) = nI (i + 1) from nI_add i 1]
  refine sx_RP.scr (x := (i + 1)) rfl (by omega) hl (show _ = 377 from rfl) ?_
  refine sx_RP.step (pc2 := 378) (ls2 := [(3, .int (nI i)), (2, .ref 111), (1, .ref 0), (0, .float 4)]) (st2 := [.float 4, .int (ys.getD ((i + 1)) 0), .ref 111]) (w3 := w1) rfl rfl ?_
  refine sx_RP.step (pc2 := 379) (ls2 := [(3, .int (nI i)), (2, .ref 111), (1, .ref 0), (0, .float 4)]) (st2 := [.int (nI i), .float 4, .int (ys.getD ((i + 1)) 0), .ref 111]) (w3 := w1) rfl rfl ?_
  refine sx_RP.step (pc2 := 380) (ls2 := [(3, .int (nI i)), (2, .ref 111), (1, .ref 0), (0, .float 4)]) (st2 := [.int 2, .int (nI i), .float 4, .int (ys.getD ((i + 1)) 0), .ref 111]) (w3 := w1) rfl rfl ?_
  refine sx_RP.step (pc2 := 381) (ls2 := [(3, .int (nI i)), (2, .ref 111), (1, .ref 0), (0, .float 4)]) (st2 := [.int ((nI i) + 2), .float 4, .int (ys.getD ((i + 1)) 0), .ref 111]) (w3 := w1) rfl rfl ?_
  rw [show ((nI i) + 2 : Int32) = nI (i + 2) from nI_add i 2]
  refine sx_RP.scr (x := (i + 2)) rfl (by omega) hl (show _ = 382 from rfl) ?_
  refine sx_RP.callp (as2 := [.ref 111, .int (ys.getD ((i + 1)) 0), .int (ys.getD ((i + 2)) 0)]) (rest2 := []) rfl rfl (sx_inv_v2 (mi := 246) (k := 35) (st := [.int (ys.getD ((i + 2)) 0), .int (ys.getD ((i + 1)) 0), .ref 111]) (w := w1) rfl rfl hI2.1.o111 rfl rfl rfl) rfl rfl rfl (sx_RP.byk (r140 (d := 1) hI2 hR7 (ys.getD ((i + 1)) 0) (ys.getD ((i + 2)) 0))) (show _ = 385 from rfl) ?_
  rintro r4 w9 ⟨⟨⟨v11, rfl⟩, hI10, ⟨hR12, lo13⟩⟩, hbk14⟩
  have hL15 : LI w9 := ⟨_, hC4.lo hI2 lo13, hR12, hbk14 hb8⟩
  show sx_RP _ _ _ _ _ [.int v11] _ _
  refine sx_RP.step (pc2 := 386) (ls2 := [(3, .int (nI i)), (2, .ref 111), (1, .ref 0), (0, .float 4)]) (st2 := []) (w3 := w9) rfl rfl ?_
  refine sx_RP.step (pc2 := 1539) (ls2 := [(3, .int (nI i)), (2, .ref 111), (1, .ref 0), (0, .float 4)]) (st2 := []) (w3 := w9) rfl rfl ?_
  exact kk w9 hI10 hL15
set_option maxRecDepth 20000 in
set_option maxHeartbeats 4000000 in
theorem lc5 {ys : List Int32} {i : Nat} {w : List sx_C} {P : Option Value → List sx_C → Prop} (hl : ys.length ≤ 3072) (hn : i + 6 ≤ ys.length) (hI : WI w) (hL : LI w) (kk : ∀ w2, WI w2 → LI w2 → sx_RP (some ys) 9 246 1539 [(3, .int (nI i)), (2, .ref 111), (1, .ref 0), (0, .float 4)] [] w2 P) : sx_RP (some ys) 9 246 389 [(3, .int (nI i)), (2, .ref 111), (1, .ref 0), (0, .float 4)] [] w P := by
  obtain ⟨s, hC, hR, hb⟩ := hL
  refine sx_RP.step (pc2 := 390) (ls2 := [(3, .int (nI i)), (2, .ref 111), (1, .ref 0), (0, .float 4)]) (st2 := [.ref 0]) (w3 := w) rfl rfl ?_
  refine sx_RP.step (pc2 := 391) (ls2 := [(3, .int (nI i)), (2, .ref 111), (1, .ref 0), (0, .float 4)]) (st2 := [.float 4, .ref 0]) (w3 := w) rfl rfl ?_
  refine sx_RP.step (pc2 := 392) (ls2 := [(3, .int (nI i)), (2, .ref 111), (1, .ref 0), (0, .float 4)]) (st2 := [.int (nI i), .float 4, .ref 0]) (w3 := w) rfl rfl ?_
  refine sx_RP.step (pc2 := 393) (ls2 := [(3, .int (nI i)), (2, .ref 111), (1, .ref 0), (0, .float 4)]) (st2 := [.int 1, .int (nI i), .float 4, .ref 0]) (w3 := w) rfl rfl ?_
  refine sx_RP.step (pc2 := 394) (ls2 := [(3, .int (nI i)), (2, .ref 111), (1, .ref 0), (0, .float 4)]) (st2 := [.int ((nI i) + 1), .float 4, .ref 0]) (w3 := w) rfl rfl ?_
  rw [show ((nI i) + 1 : Int32) = nI (i + 1) from nI_add i 1]
  refine sx_RP.scr (x := (i + 1)) rfl (by omega) hl (show _ = 395 from rfl) ?_
  refine sx_RP.step (pc2 := 396) (ls2 := [(3, .int (nI i)), (2, .ref 111), (1, .ref 0), (0, .float 4)]) (st2 := [.float 4, .int (ys.getD ((i + 1)) 0), .ref 0]) (w3 := w) rfl rfl ?_
  refine sx_RP.step (pc2 := 397) (ls2 := [(3, .int (nI i)), (2, .ref 111), (1, .ref 0), (0, .float 4)]) (st2 := [.int (nI i), .float 4, .int (ys.getD ((i + 1)) 0), .ref 0]) (w3 := w) rfl rfl ?_
  refine sx_RP.step (pc2 := 398) (ls2 := [(3, .int (nI i)), (2, .ref 111), (1, .ref 0), (0, .float 4)]) (st2 := [.int 2, .int (nI i), .float 4, .int (ys.getD ((i + 1)) 0), .ref 0]) (w3 := w) rfl rfl ?_
  refine sx_RP.step (pc2 := 399) (ls2 := [(3, .int (nI i)), (2, .ref 111), (1, .ref 0), (0, .float 4)]) (st2 := [.int ((nI i) + 2), .float 4, .int (ys.getD ((i + 1)) 0), .ref 0]) (w3 := w) rfl rfl ?_
  rw [show ((nI i) + 2 : Int32) = nI (i + 2) from nI_add i 2]
  refine sx_RP.scr (x := (i + 2)) rfl (by omega) hl (show _ = 400 from rfl) ?_
  refine sx_RP.step (pc2 := 401) (ls2 := [(3, .int (nI i)), (2, .ref 111), (1, .ref 0), (0, .float 4)]) (st2 := [.float 4, .int (ys.getD ((i + 2)) 0), .int (ys.getD ((i + 1)) 0), .ref 0]) (w3 := w) rfl rfl ?_
  refine sx_RP.step (pc2 := 402) (ls2 := [(3, .int (nI i)), (2, .ref 111), (1, .ref 0), (0, .float 4)]) (st2 := [.int (nI i), .float 4, .int (ys.getD ((i + 2)) 0), .int (ys.getD ((i + 1)) 0), .ref 0]) (w3 := w) rfl rfl ?_
  refine sx_RP.step (pc2 := 403) (ls2 := [(3, .int (nI i)), (2, .ref 111), (1, .ref 0), (0, .float 4)]) (st2 := [.int 3, .int (nI i), .float 4, .int (ys.getD ((i + 2)) 0), .int (ys.getD ((i + 1)) 0), .ref 0]) (w3 := w) rfl rfl ?_
  refine sx_RP.step (pc2 := 404) (ls2 := [(3, .int (nI i)), (2, .ref 111), (1, .ref 0), (0, .float 4)]) (st2 := [.int ((nI i) + 3), .float 4, .int (ys.getD ((i + 2)) 0), .int (ys.getD ((i + 1)) 0), .ref 0]) (w3 := w) rfl rfl ?_
  rw [show ((nI i) + 3 : Int32) = nI (i + 3) from nI_add i 3]
  refine sx_RP.scr (x := (i + 3)) rfl (by omega) hl (show _ = 405 from rfl) ?_
  refine sx_RP.step (pc2 := 406) (ls2 := [(3, .int (nI i)), (2, .ref 111), (1, .ref 0), (0, .float 4)]) (st2 := [.float 4, .int (ys.getD ((i + 3)) 0), .int (ys.getD ((i + 2)) 0), .int (ys.getD ((i + 1)) 0), .ref 0]) (w3 := w) rfl rfl ?_
  refine sx_RP.step (pc2 := 407) (ls2 := [(3, .int (nI i)), (2, .ref 111), (1, .ref 0), (0, .float 4)]) (st2 := [.int (nI i), .float 4, .int (ys.getD ((i + 3)) 0), .int (ys.getD ((i + 2)) 0), .int (ys.getD ((i + 1)) 0), .ref 0]) (w3 := w) rfl rfl ?_
  refine sx_RP.step (pc2 := 408) (ls2 := [(3, .int (nI i)), (2, .ref 111), (1, .ref 0), (0, .float 4)]) (st2 := [.int 4, .int (nI i), .float 4, .int (ys.getD ((i + 3)) 0), .int (ys.getD ((i + 2)) 0), .int (ys.getD ((i + 1)) 0), .ref 0]) (w3 := w) rfl rfl ?_
  refine sx_RP.step (pc2 := 409) (ls2 := [(3, .int (nI i)), (2, .ref 111), (1, .ref 0), (0, .float 4)]) (st2 := [.int ((nI i) + 4), .float 4, .int (ys.getD ((i + 3)) 0), .int (ys.getD ((i + 2)) 0), .int (ys.getD ((i + 1)) 0), .ref 0]) (w3 := w) rfl rfl ?_
  rw [show ((nI i) + 4 : Int32) = nI (i + 4) from nI_add i 4]
  refine sx_RP.scr (x := (i + 4)) rfl (by omega) hl (show _ = 410 from rfl) ?_
  refine sx_RP.callp (as2 := [.ref 0, .int (ys.getD ((i + 1)) 0), .int (ys.getD ((i + 2)) 0), .int (ys.getD ((i + 3)) 0), .int (ys.getD ((i + 4)) 0)]) (rest2 := []) rfl rfl (sx_inv_v2 (mi := 246) (k := 36) (st := [.int (ys.getD ((i + 4)) 0), .int (ys.getD ((i + 3)) 0), .int (ys.getD ((i + 2)) 0), .int (ys.getD ((i + 1)) 0), .ref 0]) (w := w) rfl rfl hI.1.o0 rfl rfl rfl) rfl rfl rfl (sx_RP.byk (c21 (d := 1) hI hC (ys.getD ((i + 1)) 0) (ys.getD ((i + 2)) 0) (ys.getD ((i + 3)) 0) (ys.getD ((i + 4)) 0))) (show _ = 413 from rfl) ?_
  rintro r4 w1 ⟨⟨rfl, hI2, ⟨hC3, hi4⟩⟩, hbk5⟩
  have hR6 := hR.hi hi4
  have hb7 := hbk5 hb
  show sx_RP _ _ _ _ _ [.int (gal2A s.1 (ys.getD ((i + 1)) 0) (ys.getD ((i + 2)) 0) (ys.getD ((i + 3)) 0) (ys.getD ((i + 4)) 0))] _ _
  refine sx_RP.step (pc2 := 414) (ls2 := [(3, .int (nI i)), (2, .ref 111), (1, .ref 0), (0, .float 4)]) (st2 := []) (w3 := w1) rfl rfl ?_
  refine sx_RP.step (pc2 := 415) (ls2 := [(3, .int (nI i)), (2, .ref 111), (1, .ref 0), (0, .float 4)]) (st2 := [.ref 111]) (w3 := w1) rfl rfl ?_
  refine sx_RP.step (pc2 := 416) (ls2 := [(3, .int (nI i)), (2, .ref 111), (1, .ref 0), (0, .float 4)]) (st2 := [.float 4, .ref 111]) (w3 := w1) rfl rfl ?_
  refine sx_RP.step (pc2 := 417) (ls2 := [(3, .int (nI i)), (2, .ref 111), (1, .ref 0), (0, .float 4)]) (st2 := [.int (nI i), .float 4, .ref 111]) (w3 := w1) rfl rfl ?_
  refine sx_RP.step (pc2 := 418) (ls2 := [(3, .int (nI i)), (2, .ref 111), (1, .ref 0), (0, .float 4)]) (st2 := [.int 1, .int (nI i), .float 4, .ref 111]) (w3 := w1) rfl rfl ?_
  refine sx_RP.step (pc2 := 419) (ls2 := [(3, .int (nI i)), (2, .ref 111), (1, .ref 0), (0, .float 4)]) (st2 := [.int ((nI i) + 1), .float 4, .ref 111]) (w3 := w1) rfl rfl ?_
  rw [show ((nI i) + 1 : Int32) = nI (i + 1) from nI_add i 1]
  refine sx_RP.scr (x := (i + 1)) rfl (by omega) hl (show _ = 420 from rfl) ?_
  refine sx_RP.step (pc2 := 421) (ls2 := [(3, .int (nI i)), (2, .ref 111), (1, .ref 0), (0, .float 4)]) (st2 := [.float 4, .int (ys.getD ((i + 1)) 0), .ref 111]) (w3 := w1) rfl rfl ?_
  refine sx_RP.step (pc2 := 422) (ls2 := [(3, .int (nI i)), (2, .ref 111), (1, .ref 0), (0, .float 4)]) (st2 := [.int (nI i), .float 4, .int (ys.getD ((i + 1)) 0), .ref 111]) (w3 := w1) rfl rfl ?_
  refine sx_RP.step (pc2 := 423) (ls2 := [(3, .int (nI i)), (2, .ref 111), (1, .ref 0), (0, .float 4)]) (st2 := [.int 2, .int (nI i), .float 4, .int (ys.getD ((i + 1)) 0), .ref 111]) (w3 := w1) rfl rfl ?_
  refine sx_RP.step (pc2 := 424) (ls2 := [(3, .int (nI i)), (2, .ref 111), (1, .ref 0), (0, .float 4)]) (st2 := [.int ((nI i) + 2), .float 4, .int (ys.getD ((i + 1)) 0), .ref 111]) (w3 := w1) rfl rfl ?_
  rw [show ((nI i) + 2 : Int32) = nI (i + 2) from nI_add i 2]
  refine sx_RP.scr (x := (i + 2)) rfl (by omega) hl (show _ = 425 from rfl) ?_
  refine sx_RP.step (pc2 := 426) (ls2 := [(3, .int (nI i)), (2, .ref 111), (1, .ref 0), (0, .float 4)]) (st2 := [.float 4, .int (ys.getD ((i + 2)) 0), .int (ys.getD ((i + 1)) 0), .ref 111]) (w3 := w1) rfl rfl ?_
  refine sx_RP.step (pc2 := 427) (ls2 := [(3, .int (nI i)), (2, .ref 111), (1, .ref 0), (0, .float 4)]) (st2 := [.int (nI i), .float 4, .int (ys.getD ((i + 2)) 0), .int (ys.getD ((i + 1)) 0), .ref 111]) (w3 := w1) rfl rfl ?_
  refine sx_RP.step (pc2 := 428) (ls2 := [(3, .int (nI i)), (2, .ref 111), (1, .ref 0), (0, .float 4)]) (st2 := [.int 3, .int (nI i), .float 4, .int (ys.getD ((i + 2)) 0), .int (ys.getD ((i + 1)) 0), .ref 111]) (w3 := w1) rfl rfl ?_
  refine sx_RP.step (pc2 := 429) (ls2 := [(3, .int (nI i)), (2, .ref 111), (1, .ref 0), (0, .float 4)]) (st2 := [.int ((nI i) + 3), .float 4, .int (ys.getD ((i + 2)) 0), .int (ys.getD ((i + 1)) 0), .ref 111]) (w3 := w1) rfl rfl ?_
  rw [show ((nI i) + 3 : Int32) = nI (i + 3) from nI_add i 3]
  refine sx_RP.scr (x := (i + 3)) rfl (by omega) hl (show _ = 430 from rfl) ?_
  refine sx_RP.step (pc2 := 431) (ls2 := [(3, .int (nI i)), (2, .ref 111), (1, .ref 0), (0, .float 4)]) (st2 := [.float 4, .int (ys.getD ((i + 3)) 0), .int (ys.getD ((i + 2)) 0), .int (ys.getD ((i + 1)) 0), .ref 111]) (w3 := w1) rfl rfl ?_
  refine sx_RP.step (pc2 := 432) (ls2 := [(3, .int (nI i)), (2, .ref 111), (1, .ref 0), (0, .float 4)]) (st2 := [.int (nI i), .float 4, .int (ys.getD ((i + 3)) 0), .int (ys.getD ((i + 2)) 0), .int (ys.getD ((i + 1)) 0), .ref 111]) (w3 := w1) rfl rfl ?_
  refine sx_RP.step (pc2 := 433) (ls2 := [(3, .int (nI i)), (2, .ref 111), (1, .ref 0), (0, .float 4)]) (st2 := [.int 4, .int (nI i), .float 4, .int (ys.getD ((i + 3)) 0), .int (ys.getD ((i + 2)) 0), .int (ys.getD ((i + 1)) 0), .ref 111]) (w3 := w1) rfl rfl ?_
  refine sx_RP.step (pc2 := 434) (ls2 := [(3, .int (nI i)), (2, .ref 111), (1, .ref 0), (0, .float 4)]) (st2 := [.int ((nI i) + 4), .float 4, .int (ys.getD ((i + 3)) 0), .int (ys.getD ((i + 2)) 0), .int (ys.getD ((i + 1)) 0), .ref 111]) (w3 := w1) rfl rfl ?_
  rw [show ((nI i) + 4 : Int32) = nI (i + 4) from nI_add i 4]
  refine sx_RP.scr (x := (i + 4)) rfl (by omega) hl (show _ = 435 from rfl) ?_
  refine sx_RP.callp (as2 := [.ref 111, .int (ys.getD ((i + 1)) 0), .int (ys.getD ((i + 2)) 0), .int (ys.getD ((i + 3)) 0), .int (ys.getD ((i + 4)) 0)]) (rest2 := []) rfl rfl (sx_inv_v2 (mi := 246) (k := 40) (st := [.int (ys.getD ((i + 4)) 0), .int (ys.getD ((i + 3)) 0), .int (ys.getD ((i + 2)) 0), .int (ys.getD ((i + 1)) 0), .ref 111]) (w := w1) rfl rfl hI2.1.o111 rfl rfl rfl) rfl rfl rfl (sx_RP.byk (r150 (d := 1) hI2 hR6 (ys.getD ((i + 1)) 0) (ys.getD ((i + 2)) 0) (ys.getD ((i + 3)) 0) (ys.getD ((i + 4)) 0))) (show _ = 438 from rfl) ?_
  rintro r4 w8 ⟨⟨rfl, hI9, ⟨hR10, lo11⟩⟩, hbk12⟩
  have hL13 : LI w8 := ⟨_, hC3.lo hI2 lo11, hR10, hbk12 hb7⟩
  show sx_RP _ _ _ _ _ [.int (gal2A s.1 (ys.getD ((i + 1)) 0) (ys.getD ((i + 2)) 0) (ys.getD ((i + 3)) 0) (ys.getD ((i + 4)) 0))] _ _
  refine sx_RP.step (pc2 := 439) (ls2 := [(3, .int (nI i)), (2, .ref 111), (1, .ref 0), (0, .float 4)]) (st2 := []) (w3 := w8) rfl rfl ?_
  refine sx_RP.step (pc2 := 1539) (ls2 := [(3, .int (nI i)), (2, .ref 111), (1, .ref 0), (0, .float 4)]) (st2 := []) (w3 := w8) rfl rfl ?_
  exact kk w8 hI9 hL13
set_option maxRecDepth 20000 in
set_option maxHeartbeats 4000000 in
theorem lc6 {ys : List Int32} {i : Nat} {w : List sx_C} {P : Option Value → List sx_C → Prop} (hl : ys.length ≤ 3072) (hn : i + 6 ≤ ys.length) (hI : WI w) (hL : LI w) (kk : ∀ w2, WI w2 → LI w2 → sx_RP (some ys) 9 246 1539 [(3, .int (nI i)), (2, .ref 111), (1, .ref 0), (0, .float 4)] [] w2 P) : sx_RP (some ys) 9 246 442 [(3, .int (nI i)), (2, .ref 111), (1, .ref 0), (0, .float 4)] [] w P := by
  obtain ⟨s, hC, hR, hb⟩ := hL
  refine sx_RP.step (pc2 := 443) (ls2 := [(3, .int (nI i)), (2, .ref 111), (1, .ref 0), (0, .float 4)]) (st2 := [.ref 0]) (w3 := w) rfl rfl ?_
  refine sx_RP.step (pc2 := 444) (ls2 := [(3, .int (nI i)), (2, .ref 111), (1, .ref 0), (0, .float 4)]) (st2 := [.float 4, .ref 0]) (w3 := w) rfl rfl ?_
  refine sx_RP.step (pc2 := 445) (ls2 := [(3, .int (nI i)), (2, .ref 111), (1, .ref 0), (0, .float 4)]) (st2 := [.int (nI i), .float 4, .ref 0]) (w3 := w) rfl rfl ?_
  refine sx_RP.step (pc2 := 446) (ls2 := [(3, .int (nI i)), (2, .ref 111), (1, .ref 0), (0, .float 4)]) (st2 := [.int 1, .int (nI i), .float 4, .ref 0]) (w3 := w) rfl rfl ?_
  refine sx_RP.step (pc2 := 447) (ls2 := [(3, .int (nI i)), (2, .ref 111), (1, .ref 0), (0, .float 4)]) (st2 := [.int ((nI i) + 1), .float 4, .ref 0]) (w3 := w) rfl rfl ?_
  rw [show ((nI i) + 1 : Int32) = nI (i + 1) from nI_add i 1]
  refine sx_RP.scr (x := (i + 1)) rfl (by omega) hl (show _ = 448 from rfl) ?_
  refine sx_RP.step (pc2 := 449) (ls2 := [(3, .int (nI i)), (2, .ref 111), (1, .ref 0), (0, .float 4)]) (st2 := [.float 4, .int (ys.getD ((i + 1)) 0), .ref 0]) (w3 := w) rfl rfl ?_
  refine sx_RP.step (pc2 := 450) (ls2 := [(3, .int (nI i)), (2, .ref 111), (1, .ref 0), (0, .float 4)]) (st2 := [.int (nI i), .float 4, .int (ys.getD ((i + 1)) 0), .ref 0]) (w3 := w) rfl rfl ?_
  refine sx_RP.step (pc2 := 451) (ls2 := [(3, .int (nI i)), (2, .ref 111), (1, .ref 0), (0, .float 4)]) (st2 := [.int 2, .int (nI i), .float 4, .int (ys.getD ((i + 1)) 0), .ref 0]) (w3 := w) rfl rfl ?_
  refine sx_RP.step (pc2 := 452) (ls2 := [(3, .int (nI i)), (2, .ref 111), (1, .ref 0), (0, .float 4)]) (st2 := [.int ((nI i) + 2), .float 4, .int (ys.getD ((i + 1)) 0), .ref 0]) (w3 := w) rfl rfl ?_
  rw [show ((nI i) + 2 : Int32) = nI (i + 2) from nI_add i 2]
  refine sx_RP.scr (x := (i + 2)) rfl (by omega) hl (show _ = 453 from rfl) ?_
  refine sx_RP.callp (as2 := [.ref 0, .int (ys.getD ((i + 1)) 0), .int (ys.getD ((i + 2)) 0)]) (rest2 := []) rfl rfl (sx_inv_v2 (mi := 246) (k := 41) (st := [.int (ys.getD ((i + 2)) 0), .int (ys.getD ((i + 1)) 0), .ref 0]) (w := w) rfl rfl hI.1.o0 rfl rfl rfl) rfl rfl rfl (sx_RP.byk (c26 (d := 1) hI hC (ys.getD ((i + 1)) 0) (ys.getD ((i + 2)) 0))) (show _ = 456 from rfl) ?_
  rintro r4 w1 ⟨⟨⟨v3, rfl⟩, hI2, ⟨hC4, hi5⟩⟩, hbk6⟩
  have hR7 := hR.hi hi5
  have hb8 := hbk6 hb
  show sx_RP _ _ _ _ _ [.int v3] _ _
  refine sx_RP.step (pc2 := 457) (ls2 := [(3, .int (nI i)), (2, .ref 111), (1, .ref 0), (0, .float 4)]) (st2 := []) (w3 := w1) rfl rfl ?_
  refine sx_RP.step (pc2 := 458) (ls2 := [(3, .int (nI i)), (2, .ref 111), (1, .ref 0), (0, .float 4)]) (st2 := [.ref 111]) (w3 := w1) rfl rfl ?_
  refine sx_RP.step (pc2 := 459) (ls2 := [(3, .int (nI i)), (2, .ref 111), (1, .ref 0), (0, .float 4)]) (st2 := [.float 4, .ref 111]) (w3 := w1) rfl rfl ?_
  refine sx_RP.step (pc2 := 460) (ls2 := [(3, .int (nI i)), (2, .ref 111), (1, .ref 0), (0, .float 4)]) (st2 := [.int (nI i), .float 4, .ref 111]) (w3 := w1) rfl rfl ?_
  refine sx_RP.step (pc2 := 461) (ls2 := [(3, .int (nI i)), (2, .ref 111), (1, .ref 0), (0, .float 4)]) (st2 := [.int 1, .int (nI i), .float 4, .ref 111]) (w3 := w1) rfl rfl ?_
  refine sx_RP.step (pc2 := 462) (ls2 := [(3, .int (nI i)), (2, .ref 111), (1, .ref 0), (0, .float 4)]) (st2 := [.int ((nI i) + 1), .float 4, .ref 111]) (w3 := w1) rfl rfl ?_
  rw [show ((nI i) + 1 : Int32) = nI (i + 1) from nI_add i 1]
  refine sx_RP.scr (x := (i + 1)) rfl (by omega) hl (show _ = 463 from rfl) ?_
  refine sx_RP.step (pc2 := 464) (ls2 := [(3, .int (nI i)), (2, .ref 111), (1, .ref 0), (0, .float 4)]) (st2 := [.float 4, .int (ys.getD ((i + 1)) 0), .ref 111]) (w3 := w1) rfl rfl ?_
  refine sx_RP.step (pc2 := 465) (ls2 := [(3, .int (nI i)), (2, .ref 111), (1, .ref 0), (0, .float 4)]) (st2 := [.int (nI i), .float 4, .int (ys.getD ((i + 1)) 0), .ref 111]) (w3 := w1) rfl rfl ?_
  refine sx_RP.step (pc2 := 466) (ls2 := [(3, .int (nI i)), (2, .ref 111), (1, .ref 0), (0, .float 4)]) (st2 := [.int 2, .int (nI i), .float 4, .int (ys.getD ((i + 1)) 0), .ref 111]) (w3 := w1) rfl rfl ?_
  refine sx_RP.step (pc2 := 467) (ls2 := [(3, .int (nI i)), (2, .ref 111), (1, .ref 0), (0, .float 4)]) (st2 := [.int ((nI i) + 2), .float 4, .int (ys.getD ((i + 1)) 0), .ref 111]) (w3 := w1) rfl rfl ?_
  rw [show ((nI i) + 2 : Int32) = nI (i + 2) from nI_add i 2]
  refine sx_RP.scr (x := (i + 2)) rfl (by omega) hl (show _ = 468 from rfl) ?_
  refine sx_RP.callp (as2 := [.ref 111, .int (ys.getD ((i + 1)) 0), .int (ys.getD ((i + 2)) 0)]) (rest2 := []) rfl rfl (sx_inv_v2 (mi := 246) (k := 44) (st := [.int (ys.getD ((i + 2)) 0), .int (ys.getD ((i + 1)) 0), .ref 111]) (w := w1) rfl rfl hI2.1.o111 rfl rfl rfl) rfl rfl rfl (sx_RP.byk (r155 (d := 1) hI2 hR7 (ys.getD ((i + 1)) 0) (ys.getD ((i + 2)) 0))) (show _ = 471 from rfl) ?_
  rintro r4 w9 ⟨⟨⟨v11, rfl⟩, hI10, ⟨hR12, lo13⟩⟩, hbk14⟩
  have hL15 : LI w9 := ⟨_, hC4.lo hI2 lo13, hR12, hbk14 hb8⟩
  show sx_RP _ _ _ _ _ [.int v11] _ _
  refine sx_RP.step (pc2 := 472) (ls2 := [(3, .int (nI i)), (2, .ref 111), (1, .ref 0), (0, .float 4)]) (st2 := []) (w3 := w9) rfl rfl ?_
  refine sx_RP.step (pc2 := 1539) (ls2 := [(3, .int (nI i)), (2, .ref 111), (1, .ref 0), (0, .float 4)]) (st2 := []) (w3 := w9) rfl rfl ?_
  exact kk w9 hI10 hL15
set_option maxRecDepth 20000 in
set_option maxHeartbeats 4000000 in
theorem lc7 {ys : List Int32} {i : Nat} {w : List sx_C} {P : Option Value → List sx_C → Prop} (hl : ys.length ≤ 3072) (hn : i + 6 ≤ ys.length) (hI : WI w) (hL : LI w) (kk : ∀ w2, WI w2 → LI w2 → sx_RP (some ys) 9 246 1539 [(3, .int (nI i)), (2, .ref 111), (1, .ref 0), (0, .float 4)] [] w2 P) : sx_RP (some ys) 9 246 475 [(3, .int (nI i)), (2, .ref 111), (1, .ref 0), (0, .float 4)] [] w P := by
  obtain ⟨s, hC, hR, hb⟩ := hL
  refine sx_RP.step (pc2 := 476) (ls2 := [(3, .int (nI i)), (2, .ref 111), (1, .ref 0), (0, .float 4)]) (st2 := [.ref 0]) (w3 := w) rfl rfl ?_
  refine sx_RP.step (pc2 := 477) (ls2 := [(3, .int (nI i)), (2, .ref 111), (1, .ref 0), (0, .float 4)]) (st2 := [.float 4, .ref 0]) (w3 := w) rfl rfl ?_
  refine sx_RP.step (pc2 := 478) (ls2 := [(3, .int (nI i)), (2, .ref 111), (1, .ref 0), (0, .float 4)]) (st2 := [.int (nI i), .float 4, .ref 0]) (w3 := w) rfl rfl ?_
  refine sx_RP.step (pc2 := 479) (ls2 := [(3, .int (nI i)), (2, .ref 111), (1, .ref 0), (0, .float 4)]) (st2 := [.int 1, .int (nI i), .float 4, .ref 0]) (w3 := w) rfl rfl ?_
  refine sx_RP.step (pc2 := 480) (ls2 := [(3, .int (nI i)), (2, .ref 111), (1, .ref 0), (0, .float 4)]) (st2 := [.int ((nI i) + 1), .float 4, .ref 0]) (w3 := w) rfl rfl ?_
  rw [show ((nI i) + 1 : Int32) = nI (i + 1) from nI_add i 1]
  refine sx_RP.scr (x := (i + 1)) rfl (by omega) hl (show _ = 481 from rfl) ?_
  refine sx_RP.step (pc2 := 482) (ls2 := [(3, .int (nI i)), (2, .ref 111), (1, .ref 0), (0, .float 4)]) (st2 := [.float 4, .int (ys.getD ((i + 1)) 0), .ref 0]) (w3 := w) rfl rfl ?_
  refine sx_RP.step (pc2 := 483) (ls2 := [(3, .int (nI i)), (2, .ref 111), (1, .ref 0), (0, .float 4)]) (st2 := [.int (nI i), .float 4, .int (ys.getD ((i + 1)) 0), .ref 0]) (w3 := w) rfl rfl ?_
  refine sx_RP.step (pc2 := 484) (ls2 := [(3, .int (nI i)), (2, .ref 111), (1, .ref 0), (0, .float 4)]) (st2 := [.int 2, .int (nI i), .float 4, .int (ys.getD ((i + 1)) 0), .ref 0]) (w3 := w) rfl rfl ?_
  refine sx_RP.step (pc2 := 485) (ls2 := [(3, .int (nI i)), (2, .ref 111), (1, .ref 0), (0, .float 4)]) (st2 := [.int ((nI i) + 2), .float 4, .int (ys.getD ((i + 1)) 0), .ref 0]) (w3 := w) rfl rfl ?_
  rw [show ((nI i) + 2 : Int32) = nI (i + 2) from nI_add i 2]
  refine sx_RP.scr (x := (i + 2)) rfl (by omega) hl (show _ = 486 from rfl) ?_
  refine sx_RP.callp (as2 := [.ref 0, .int (ys.getD ((i + 1)) 0), .int (ys.getD ((i + 2)) 0)]) (rest2 := []) rfl rfl (sx_inv_v2 (mi := 246) (k := 45) (st := [.int (ys.getD ((i + 2)) 0), .int (ys.getD ((i + 1)) 0), .ref 0]) (w := w) rfl rfl hI.1.o0 rfl rfl rfl) rfl rfl rfl (sx_RP.byk (c28 (d := 1) hI hC (ys.getD ((i + 1)) 0) (ys.getD ((i + 2)) 0))) (show _ = 489 from rfl) ?_
  rintro r4 w1 ⟨⟨rfl, hI2, ⟨hC3, hi4⟩⟩, hbk5⟩
  have hR6 := hR.hi hi4
  have hb7 := hbk5 hb
  show sx_RP _ _ _ _ _ [.int (turA s.1 (ys.getD ((i + 1)) 0) (ys.getD ((i + 2)) 0))] _ _
  refine sx_RP.step (pc2 := 490) (ls2 := [(3, .int (nI i)), (2, .ref 111), (1, .ref 0), (0, .float 4)]) (st2 := []) (w3 := w1) rfl rfl ?_
  refine sx_RP.step (pc2 := 491) (ls2 := [(3, .int (nI i)), (2, .ref 111), (1, .ref 0), (0, .float 4)]) (st2 := [.ref 111]) (w3 := w1) rfl rfl ?_
  refine sx_RP.step (pc2 := 492) (ls2 := [(3, .int (nI i)), (2, .ref 111), (1, .ref 0), (0, .float 4)]) (st2 := [.float 4, .ref 111]) (w3 := w1) rfl rfl ?_
  refine sx_RP.step (pc2 := 493) (ls2 := [(3, .int (nI i)), (2, .ref 111), (1, .ref 0), (0, .float 4)]) (st2 := [.int (nI i), .float 4, .ref 111]) (w3 := w1) rfl rfl ?_
  refine sx_RP.step (pc2 := 494) (ls2 := [(3, .int (nI i)), (2, .ref 111), (1, .ref 0), (0, .float 4)]) (st2 := [.int 1, .int (nI i), .float 4, .ref 111]) (w3 := w1) rfl rfl ?_
  refine sx_RP.step (pc2 := 495) (ls2 := [(3, .int (nI i)), (2, .ref 111), (1, .ref 0), (0, .float 4)]) (st2 := [.int ((nI i) + 1), .float 4, .ref 111]) (w3 := w1) rfl rfl ?_
  rw [show ((nI i) + 1 : Int32) = nI (i + 1) from nI_add i 1]
  refine sx_RP.scr (x := (i + 1)) rfl (by omega) hl (show _ = 496 from rfl) ?_
  refine sx_RP.step (pc2 := 497) (ls2 := [(3, .int (nI i)), (2, .ref 111), (1, .ref 0), (0, .float 4)]) (st2 := [.float 4, .int (ys.getD ((i + 1)) 0), .ref 111]) (w3 := w1) rfl rfl ?_
  refine sx_RP.step (pc2 := 498) (ls2 := [(3, .int (nI i)), (2, .ref 111), (1, .ref 0), (0, .float 4)]) (st2 := [.int (nI i), .float 4, .int (ys.getD ((i + 1)) 0), .ref 111]) (w3 := w1) rfl rfl ?_
  refine sx_RP.step (pc2 := 499) (ls2 := [(3, .int (nI i)), (2, .ref 111), (1, .ref 0), (0, .float 4)]) (st2 := [.int 2, .int (nI i), .float 4, .int (ys.getD ((i + 1)) 0), .ref 111]) (w3 := w1) rfl rfl ?_
  refine sx_RP.step (pc2 := 500) (ls2 := [(3, .int (nI i)), (2, .ref 111), (1, .ref 0), (0, .float 4)]) (st2 := [.int ((nI i) + 2), .float 4, .int (ys.getD ((i + 1)) 0), .ref 111]) (w3 := w1) rfl rfl ?_
  rw [show ((nI i) + 2 : Int32) = nI (i + 2) from nI_add i 2]
  refine sx_RP.scr (x := (i + 2)) rfl (by omega) hl (show _ = 501 from rfl) ?_
  refine sx_RP.callp (as2 := [.ref 111, .int (ys.getD ((i + 1)) 0), .int (ys.getD ((i + 2)) 0)]) (rest2 := []) rfl rfl (sx_inv_v2 (mi := 246) (k := 48) (st := [.int (ys.getD ((i + 2)) 0), .int (ys.getD ((i + 1)) 0), .ref 111]) (w := w1) rfl rfl hI2.1.o111 rfl rfl rfl) rfl rfl rfl (sx_RP.byk (r157 (d := 1) hI2 hR6 (ys.getD ((i + 1)) 0) (ys.getD ((i + 2)) 0))) (show _ = 504 from rfl) ?_
  rintro r4 w8 ⟨⟨rfl, hI9, ⟨hR10, lo11⟩⟩, hbk12⟩
  have hL13 : LI w8 := ⟨_, hC3.lo hI2 lo11, hR10, hbk12 hb7⟩
  show sx_RP _ _ _ _ _ [.int (turA s.1 (ys.getD ((i + 1)) 0) (ys.getD ((i + 2)) 0))] _ _
  refine sx_RP.step (pc2 := 505) (ls2 := [(3, .int (nI i)), (2, .ref 111), (1, .ref 0), (0, .float 4)]) (st2 := []) (w3 := w8) rfl rfl ?_
  refine sx_RP.step (pc2 := 1539) (ls2 := [(3, .int (nI i)), (2, .ref 111), (1, .ref 0), (0, .float 4)]) (st2 := []) (w3 := w8) rfl rfl ?_
  exact kk w8 hI9 hL13
set_option maxRecDepth 20000 in
set_option maxHeartbeats 4000000 in
theorem lc8 {ys : List Int32} {i : Nat} {w : List sx_C} {P : Option Value → List sx_C → Prop} (hl : ys.length ≤ 3072) (hn : i + 6 ≤ ys.length) (hI : WI w) (hL : LI w) (kk : ∀ w2, WI w2 → LI w2 → sx_RP (some ys) 9 246 1539 [(3, .int (nI i)), (2, .ref 111), (1, .ref 0), (0, .float 4)] [] w2 P) : sx_RP (some ys) 9 246 508 [(3, .int (nI i)), (2, .ref 111), (1, .ref 0), (0, .float 4)] [] w P := by
  obtain ⟨s, hC, hR, hb⟩ := hL
  refine sx_RP.step (pc2 := 509) (ls2 := [(3, .int (nI i)), (2, .ref 111), (1, .ref 0), (0, .float 4)]) (st2 := [.ref 0]) (w3 := w) rfl rfl ?_
  refine sx_RP.step (pc2 := 510) (ls2 := [(3, .int (nI i)), (2, .ref 111), (1, .ref 0), (0, .float 4)]) (st2 := [.float 4, .ref 0]) (w3 := w) rfl rfl ?_
  refine sx_RP.step (pc2 := 511) (ls2 := [(3, .int (nI i)), (2, .ref 111), (1, .ref 0), (0, .float 4)]) (st2 := [.int (nI i), .float 4, .ref 0]) (w3 := w) rfl rfl ?_
  refine sx_RP.step (pc2 := 512) (ls2 := [(3, .int (nI i)), (2, .ref 111), (1, .ref 0), (0, .float 4)]) (st2 := [.int 1, .int (nI i), .float 4, .ref 0]) (w3 := w) rfl rfl ?_
  refine sx_RP.step (pc2 := 513) (ls2 := [(3, .int (nI i)), (2, .ref 111), (1, .ref 0), (0, .float 4)]) (st2 := [.int ((nI i) + 1), .float 4, .ref 0]) (w3 := w) rfl rfl ?_
  rw [show ((nI i) + 1 : Int32) = nI (i + 1) from nI_add i 1]
  refine sx_RP.scr (x := (i + 1)) rfl (by omega) hl (show _ = 514 from rfl) ?_
  refine sx_RP.step (pc2 := 515) (ls2 := [(3, .int (nI i)), (2, .ref 111), (1, .ref 0), (0, .float 4)]) (st2 := [.float 4, .int (ys.getD ((i + 1)) 0), .ref 0]) (w3 := w) rfl rfl ?_
  refine sx_RP.step (pc2 := 516) (ls2 := [(3, .int (nI i)), (2, .ref 111), (1, .ref 0), (0, .float 4)]) (st2 := [.int (nI i), .float 4, .int (ys.getD ((i + 1)) 0), .ref 0]) (w3 := w) rfl rfl ?_
  refine sx_RP.step (pc2 := 517) (ls2 := [(3, .int (nI i)), (2, .ref 111), (1, .ref 0), (0, .float 4)]) (st2 := [.int 2, .int (nI i), .float 4, .int (ys.getD ((i + 1)) 0), .ref 0]) (w3 := w) rfl rfl ?_
  refine sx_RP.step (pc2 := 518) (ls2 := [(3, .int (nI i)), (2, .ref 111), (1, .ref 0), (0, .float 4)]) (st2 := [.int ((nI i) + 2), .float 4, .int (ys.getD ((i + 1)) 0), .ref 0]) (w3 := w) rfl rfl ?_
  rw [show ((nI i) + 2 : Int32) = nI (i + 2) from nI_add i 2]
  refine sx_RP.scr (x := (i + 2)) rfl (by omega) hl (show _ = 519 from rfl) ?_
  refine sx_RP.callp (as2 := [.ref 0, .int (ys.getD ((i + 1)) 0), .int (ys.getD ((i + 2)) 0)]) (rest2 := []) rfl rfl (sx_inv_v2 (mi := 246) (k := 49) (st := [.int (ys.getD ((i + 2)) 0), .int (ys.getD ((i + 1)) 0), .ref 0]) (w := w) rfl rfl hI.1.o0 rfl rfl rfl) rfl rfl rfl (sx_RP.byk (c29 (d := 1) hI hC (ys.getD ((i + 1)) 0) (ys.getD ((i + 2)) 0))) (show _ = 522 from rfl) ?_
  rintro r4 w1 ⟨⟨rfl, hI2, ⟨hC3, hi4⟩⟩, hbk5⟩
  have hR6 := hR.hi hi4
  have hb7 := hbk5 hb
  show sx_RP _ _ _ _ _ [.int (bec2A s.1 (ys.getD ((i + 1)) 0) (ys.getD ((i + 2)) 0))] _ _
  refine sx_RP.step (pc2 := 523) (ls2 := [(3, .int (nI i)), (2, .ref 111), (1, .ref 0), (0, .float 4)]) (st2 := []) (w3 := w1) rfl rfl ?_
  refine sx_RP.step (pc2 := 524) (ls2 := [(3, .int (nI i)), (2, .ref 111), (1, .ref 0), (0, .float 4)]) (st2 := [.ref 111]) (w3 := w1) rfl rfl ?_
  refine sx_RP.step (pc2 := 525) (ls2 := [(3, .int (nI i)), (2, .ref 111), (1, .ref 0), (0, .float 4)]) (st2 := [.float 4, .ref 111]) (w3 := w1) rfl rfl ?_
  refine sx_RP.step (pc2 := 526) (ls2 := [(3, .int (nI i)), (2, .ref 111), (1, .ref 0), (0, .float 4)]) (st2 := [.int (nI i), .float 4, .ref 111]) (w3 := w1) rfl rfl ?_
  refine sx_RP.step (pc2 := 527) (ls2 := [(3, .int (nI i)), (2, .ref 111), (1, .ref 0), (0, .float 4)]) (st2 := [.int 1, .int (nI i), .float 4, .ref 111]) (w3 := w1) rfl rfl ?_
  refine sx_RP.step (pc2 := 528) (ls2 := [(3, .int (nI i)), (2, .ref 111), (1, .ref 0), (0, .float 4)]) (st2 := [.int ((nI i) + 1), .float 4, .ref 111]) (w3 := w1) rfl rfl ?_
  rw [show ((nI i) + 1 : Int32) = nI (i + 1) from nI_add i 1]
  refine sx_RP.scr (x := (i + 1)) rfl (by omega) hl (show _ = 529 from rfl) ?_
  refine sx_RP.step (pc2 := 530) (ls2 := [(3, .int (nI i)), (2, .ref 111), (1, .ref 0), (0, .float 4)]) (st2 := [.float 4, .int (ys.getD ((i + 1)) 0), .ref 111]) (w3 := w1) rfl rfl ?_
  refine sx_RP.step (pc2 := 531) (ls2 := [(3, .int (nI i)), (2, .ref 111), (1, .ref 0), (0, .float 4)]) (st2 := [.int (nI i), .float 4, .int (ys.getD ((i + 1)) 0), .ref 111]) (w3 := w1) rfl rfl ?_
  refine sx_RP.step (pc2 := 532) (ls2 := [(3, .int (nI i)), (2, .ref 111), (1, .ref 0), (0, .float 4)]) (st2 := [.int 2, .int (nI i), .float 4, .int (ys.getD ((i + 1)) 0), .ref 111]) (w3 := w1) rfl rfl ?_
  refine sx_RP.step (pc2 := 533) (ls2 := [(3, .int (nI i)), (2, .ref 111), (1, .ref 0), (0, .float 4)]) (st2 := [.int ((nI i) + 2), .float 4, .int (ys.getD ((i + 1)) 0), .ref 111]) (w3 := w1) rfl rfl ?_
  rw [show ((nI i) + 2 : Int32) = nI (i + 2) from nI_add i 2]
  refine sx_RP.scr (x := (i + 2)) rfl (by omega) hl (show _ = 534 from rfl) ?_
  refine sx_RP.callp (as2 := [.ref 111, .int (ys.getD ((i + 1)) 0), .int (ys.getD ((i + 2)) 0)]) (rest2 := []) rfl rfl (sx_inv_v2 (mi := 246) (k := 52) (st := [.int (ys.getD ((i + 2)) 0), .int (ys.getD ((i + 1)) 0), .ref 111]) (w := w1) rfl rfl hI2.1.o111 rfl rfl rfl) rfl rfl rfl (sx_RP.byk (r158 (d := 1) hI2 hR6 (ys.getD ((i + 1)) 0) (ys.getD ((i + 2)) 0))) (show _ = 537 from rfl) ?_
  rintro r4 w8 ⟨⟨rfl, hI9, ⟨hR10, lo11⟩⟩, hbk12⟩
  have hL13 : LI w8 := ⟨_, hC3.lo hI2 lo11, hR10, hbk12 hb7⟩
  show sx_RP _ _ _ _ _ [.int (bec2A s.1 (ys.getD ((i + 1)) 0) (ys.getD ((i + 2)) 0))] _ _
  refine sx_RP.step (pc2 := 538) (ls2 := [(3, .int (nI i)), (2, .ref 111), (1, .ref 0), (0, .float 4)]) (st2 := []) (w3 := w8) rfl rfl ?_
  refine sx_RP.step (pc2 := 1539) (ls2 := [(3, .int (nI i)), (2, .ref 111), (1, .ref 0), (0, .float 4)]) (st2 := []) (w3 := w8) rfl rfl ?_
  exact kk w8 hI9 hL13
set_option maxRecDepth 20000 in
set_option maxHeartbeats 4000000 in
theorem lc9 {ys : List Int32} {i : Nat} {w : List sx_C} {P : Option Value → List sx_C → Prop} (hl : ys.length ≤ 3072) (hn : i + 6 ≤ ys.length) (hI : WI w) (hL : LI w) (kk : ∀ w2, WI w2 → LI w2 → sx_RP (some ys) 9 246 1539 [(3, .int (nI i)), (2, .ref 111), (1, .ref 0), (0, .float 4)] [] w2 P) : sx_RP (some ys) 9 246 541 [(3, .int (nI i)), (2, .ref 111), (1, .ref 0), (0, .float 4)] [] w P := by
  obtain ⟨s, hC, hR, hb⟩ := hL
  refine sx_RP.step (pc2 := 542) (ls2 := [(3, .int (nI i)), (2, .ref 111), (1, .ref 0), (0, .float 4)]) (st2 := [.ref 0]) (w3 := w) rfl rfl ?_
  refine sx_RP.step (pc2 := 543) (ls2 := [(3, .int (nI i)), (2, .ref 111), (1, .ref 0), (0, .float 4)]) (st2 := [.float 4, .ref 0]) (w3 := w) rfl rfl ?_
  refine sx_RP.step (pc2 := 544) (ls2 := [(3, .int (nI i)), (2, .ref 111), (1, .ref 0), (0, .float 4)]) (st2 := [.int (nI i), .float 4, .ref 0]) (w3 := w) rfl rfl ?_
  refine sx_RP.step (pc2 := 545) (ls2 := [(3, .int (nI i)), (2, .ref 111), (1, .ref 0), (0, .float 4)]) (st2 := [.int 1, .int (nI i), .float 4, .ref 0]) (w3 := w) rfl rfl ?_
  refine sx_RP.step (pc2 := 546) (ls2 := [(3, .int (nI i)), (2, .ref 111), (1, .ref 0), (0, .float 4)]) (st2 := [.int ((nI i) + 1), .float 4, .ref 0]) (w3 := w) rfl rfl ?_
  rw [show ((nI i) + 1 : Int32) = nI (i + 1) from nI_add i 1]
  refine sx_RP.scr (x := (i + 1)) rfl (by omega) hl (show _ = 547 from rfl) ?_
  refine sx_RP.step (pc2 := 548) (ls2 := [(3, .int (nI i)), (2, .ref 111), (1, .ref 0), (0, .float 4)]) (st2 := [.float 4, .int (ys.getD ((i + 1)) 0), .ref 0]) (w3 := w) rfl rfl ?_
  refine sx_RP.step (pc2 := 549) (ls2 := [(3, .int (nI i)), (2, .ref 111), (1, .ref 0), (0, .float 4)]) (st2 := [.int (nI i), .float 4, .int (ys.getD ((i + 1)) 0), .ref 0]) (w3 := w) rfl rfl ?_
  refine sx_RP.step (pc2 := 550) (ls2 := [(3, .int (nI i)), (2, .ref 111), (1, .ref 0), (0, .float 4)]) (st2 := [.int 2, .int (nI i), .float 4, .int (ys.getD ((i + 1)) 0), .ref 0]) (w3 := w) rfl rfl ?_
  refine sx_RP.step (pc2 := 551) (ls2 := [(3, .int (nI i)), (2, .ref 111), (1, .ref 0), (0, .float 4)]) (st2 := [.int ((nI i) + 2), .float 4, .int (ys.getD ((i + 1)) 0), .ref 0]) (w3 := w) rfl rfl ?_
  rw [show ((nI i) + 2 : Int32) = nI (i + 2) from nI_add i 2]
  refine sx_RP.scr (x := (i + 2)) rfl (by omega) hl (show _ = 552 from rfl) ?_
  refine sx_RP.callp (as2 := [.ref 0, .int (ys.getD ((i + 1)) 0), .int (ys.getD ((i + 2)) 0)]) (rest2 := []) rfl rfl (sx_inv_v2 (mi := 246) (k := 53) (st := [.int (ys.getD ((i + 2)) 0), .int (ys.getD ((i + 1)) 0), .ref 0]) (w := w) rfl rfl hI.1.o0 rfl rfl rfl) rfl rfl rfl (sx_RP.byk (c30 (d := 1) hI hC (ys.getD ((i + 1)) 0) (ys.getD ((i + 2)) 0))) (show _ = 555 from rfl) ?_
  rintro r4 w1 ⟨⟨⟨v3, rfl⟩, hI2, ⟨hC4, hi5⟩⟩, hbk6⟩
  have hR7 := hR.hi hi5
  have hb8 := hbk6 hb
  show sx_RP _ _ _ _ _ [.int v3] _ _
  refine sx_RP.step (pc2 := 556) (ls2 := [(3, .int (nI i)), (2, .ref 111), (1, .ref 0), (0, .float 4)]) (st2 := []) (w3 := w1) rfl rfl ?_
  refine sx_RP.step (pc2 := 557) (ls2 := [(3, .int (nI i)), (2, .ref 111), (1, .ref 0), (0, .float 4)]) (st2 := [.ref 111]) (w3 := w1) rfl rfl ?_
  refine sx_RP.step (pc2 := 558) (ls2 := [(3, .int (nI i)), (2, .ref 111), (1, .ref 0), (0, .float 4)]) (st2 := [.float 4, .ref 111]) (w3 := w1) rfl rfl ?_
  refine sx_RP.step (pc2 := 559) (ls2 := [(3, .int (nI i)), (2, .ref 111), (1, .ref 0), (0, .float 4)]) (st2 := [.int (nI i), .float 4, .ref 111]) (w3 := w1) rfl rfl ?_
  refine sx_RP.step (pc2 := 560) (ls2 := [(3, .int (nI i)), (2, .ref 111), (1, .ref 0), (0, .float 4)]) (st2 := [.int 1, .int (nI i), .float 4, .ref 111]) (w3 := w1) rfl rfl ?_
  refine sx_RP.step (pc2 := 561) (ls2 := [(3, .int (nI i)), (2, .ref 111), (1, .ref 0), (0, .float 4)]) (st2 := [.int ((nI i) + 1), .float 4, .ref 111]) (w3 := w1) rfl rfl ?_
  rw [show ((nI i) + 1 : Int32) = nI (i + 1) from nI_add i 1]
  refine sx_RP.scr (x := (i + 1)) rfl (by omega) hl (show _ = 562 from rfl) ?_
  refine sx_RP.step (pc2 := 563) (ls2 := [(3, .int (nI i)), (2, .ref 111), (1, .ref 0), (0, .float 4)]) (st2 := [.float 4, .int (ys.getD ((i + 1)) 0), .ref 111]) (w3 := w1) rfl rfl ?_
  refine sx_RP.step (pc2 := 564) (ls2 := [(3, .int (nI i)), (2, .ref 111), (1, .ref 0), (0, .float 4)]) (st2 := [.int (nI i), .float 4, .int (ys.getD ((i + 1)) 0), .ref 111]) (w3 := w1) rfl rfl ?_
  refine sx_RP.step (pc2 := 565) (ls2 := [(3, .int (nI i)), (2, .ref 111), (1, .ref 0), (0, .float 4)]) (st2 := [.int 2, .int (nI i), .float 4, .int (ys.getD ((i + 1)) 0), .ref 111]) (w3 := w1) rfl rfl ?_
  refine sx_RP.step (pc2 := 566) (ls2 := [(3, .int (nI i)), (2, .ref 111), (1, .ref 0), (0, .float 4)]) (st2 := [.int ((nI i) + 2), .float 4, .int (ys.getD ((i + 1)) 0), .ref 111]) (w3 := w1) rfl rfl ?_
  rw [show ((nI i) + 2 : Int32) = nI (i + 2) from nI_add i 2]
  refine sx_RP.scr (x := (i + 2)) rfl (by omega) hl (show _ = 567 from rfl) ?_
  refine sx_RP.callp (as2 := [.ref 111, .int (ys.getD ((i + 1)) 0), .int (ys.getD ((i + 2)) 0)]) (rest2 := []) rfl rfl (sx_inv_v2 (mi := 246) (k := 56) (st := [.int (ys.getD ((i + 2)) 0), .int (ys.getD ((i + 1)) 0), .ref 111]) (w := w1) rfl rfl hI2.1.o111 rfl rfl rfl) rfl rfl rfl (sx_RP.byk (r159 (d := 1) hI2 hR7 (ys.getD ((i + 1)) 0) (ys.getD ((i + 2)) 0))) (show _ = 570 from rfl) ?_
  rintro r4 w9 ⟨⟨⟨v11, rfl⟩, hI10, ⟨hR12, lo13⟩⟩, hbk14⟩
  have hL15 : LI w9 := ⟨_, hC4.lo hI2 lo13, hR12, hbk14 hb8⟩
  show sx_RP _ _ _ _ _ [.int v11] _ _
  refine sx_RP.step (pc2 := 571) (ls2 := [(3, .int (nI i)), (2, .ref 111), (1, .ref 0), (0, .float 4)]) (st2 := []) (w3 := w9) rfl rfl ?_
  refine sx_RP.step (pc2 := 1539) (ls2 := [(3, .int (nI i)), (2, .ref 111), (1, .ref 0), (0, .float 4)]) (st2 := []) (w3 := w9) rfl rfl ?_
  exact kk w9 hI10 hL15
set_option maxRecDepth 20000 in
set_option maxHeartbeats 4000000 in
theorem lc10 {ys : List Int32} {i : Nat} {w : List sx_C} {P : Option Value → List sx_C → Prop} (hl : ys.length ≤ 3072) (hn : i + 6 ≤ ys.length) (hI : WI w) (hL : LI w) (kk : ∀ w2, WI w2 → LI w2 → sx_RP (some ys) 9 246 1539 [(3, .int (nI i)), (2, .ref 111), (1, .ref 0), (0, .float 4)] [] w2 P) : sx_RP (some ys) 9 246 574 [(3, .int (nI i)), (2, .ref 111), (1, .ref 0), (0, .float 4)] [] w P := by
  obtain ⟨s, hC, hR, hb⟩ := hL
  refine sx_RP.step (pc2 := 575) (ls2 := [(3, .int (nI i)), (2, .ref 111), (1, .ref 0), (0, .float 4)]) (st2 := [.ref 0]) (w3 := w) rfl rfl ?_
  refine sx_RP.step (pc2 := 576) (ls2 := [(3, .int (nI i)), (2, .ref 111), (1, .ref 0), (0, .float 4)]) (st2 := [.float 4, .ref 0]) (w3 := w) rfl rfl ?_
  refine sx_RP.step (pc2 := 577) (ls2 := [(3, .int (nI i)), (2, .ref 111), (1, .ref 0), (0, .float 4)]) (st2 := [.int (nI i), .float 4, .ref 0]) (w3 := w) rfl rfl ?_
  refine sx_RP.step (pc2 := 578) (ls2 := [(3, .int (nI i)), (2, .ref 111), (1, .ref 0), (0, .float 4)]) (st2 := [.int 1, .int (nI i), .float 4, .ref 0]) (w3 := w) rfl rfl ?_
  refine sx_RP.step (pc2 := 579) (ls2 := [(3, .int (nI i)), (2, .ref 111), (1, .ref 0), (0, .float 4)]) (st2 := [.int ((nI i) + 1), .float 4, .ref 0]) (w3 := w) rfl rfl ?_
  rw [show ((nI i) + 1 : Int32) = nI (i + 1) from nI_add i 1]
  refine sx_RP.scr (x := (i + 1)) rfl (by omega) hl (show _ = 580 from rfl) ?_
  refine sx_RP.step (pc2 := 581) (ls2 := [(3, .int (nI i)), (2, .ref 111), (1, .ref 0), (0, .float 4)]) (st2 := [.float 4, .int (ys.getD ((i + 1)) 0), .ref 0]) (w3 := w) rfl rfl ?_
  refine sx_RP.step (pc2 := 582) (ls2 := [(3, .int (nI i)), (2, .ref 111), (1, .ref 0), (0, .float 4)]) (st2 := [.int (nI i), .float 4, .int (ys.getD ((i + 1)) 0), .ref 0]) (w3 := w) rfl rfl ?_
  refine sx_RP.step (pc2 := 583) (ls2 := [(3, .int (nI i)), (2, .ref 111), (1, .ref 0), (0, .float 4)]) (st2 := [.int 2, .int (nI i), .float 4, .int (ys.getD ((i + 1)) 0), .ref 0]) (w3 := w) rfl rfl ?_
  refine sx_RP.step (pc2 := 584) (ls2 := [(3, .int (nI i)), (2, .ref 111), (1, .ref 0), (0, .float 4)]) (st2 := [.int ((nI i) + 2), .float 4, .int (ys.getD ((i + 1)) 0), .ref 0]) (w3 := w) rfl rfl ?_
  rw [show ((nI i) + 2 : Int32) = nI (i + 2) from nI_add i 2]
  refine sx_RP.scr (x := (i + 2)) rfl (by omega) hl (show _ = 585 from rfl) ?_
  refine sx_RP.step (pc2 := 586) (ls2 := [(3, .int (nI i)), (2, .ref 111), (1, .ref 0), (0, .float 4)]) (st2 := [.float 4, .int (ys.getD ((i + 2)) 0), .int (ys.getD ((i + 1)) 0), .ref 0]) (w3 := w) rfl rfl ?_
  refine sx_RP.step (pc2 := 587) (ls2 := [(3, .int (nI i)), (2, .ref 111), (1, .ref 0), (0, .float 4)]) (st2 := [.int (nI i), .float 4, .int (ys.getD ((i + 2)) 0), .int (ys.getD ((i + 1)) 0), .ref 0]) (w3 := w) rfl rfl ?_
  refine sx_RP.step (pc2 := 588) (ls2 := [(3, .int (nI i)), (2, .ref 111), (1, .ref 0), (0, .float 4)]) (st2 := [.int 3, .int (nI i), .float 4, .int (ys.getD ((i + 2)) 0), .int (ys.getD ((i + 1)) 0), .ref 0]) (w3 := w) rfl rfl ?_
  refine sx_RP.step (pc2 := 589) (ls2 := [(3, .int (nI i)), (2, .ref 111), (1, .ref 0), (0, .float 4)]) (st2 := [.int ((nI i) + 3), .float 4, .int (ys.getD ((i + 2)) 0), .int (ys.getD ((i + 1)) 0), .ref 0]) (w3 := w) rfl rfl ?_
  rw [show ((nI i) + 3 : Int32) = nI (i + 3) from nI_add i 3]
  refine sx_RP.scr (x := (i + 3)) rfl (by omega) hl (show _ = 590 from rfl) ?_
  refine sx_RP.callp (as2 := [.ref 0, .int (ys.getD ((i + 1)) 0), .int (ys.getD ((i + 2)) 0), .int (ys.getD ((i + 3)) 0)]) (rest2 := []) rfl rfl (sx_inv_v2 (mi := 246) (k := 57) (st := [.int (ys.getD ((i + 3)) 0), .int (ys.getD ((i + 2)) 0), .int (ys.getD ((i + 1)) 0), .ref 0]) (w := w) rfl rfl hI.1.o0 rfl rfl rfl) rfl rfl rfl (sx_RP.byk (c32 (d := 1) hI hC (ys.getD ((i + 1)) 0) (ys.getD ((i + 2)) 0) (ys.getD ((i + 3)) 0))) (show _ = 593 from rfl) ?_
  rintro r4 w1 ⟨⟨⟨v3, rfl⟩, hI2, ⟨hC4, hi5⟩⟩, hbk6⟩
  have hR7 := hR.hi hi5
  have hb8 := hbk6 hb
  show sx_RP _ _ _ _ _ [.int v3] _ _
  refine sx_RP.step (pc2 := 594) (ls2 := [(3, .int (nI i)), (2, .ref 111), (1, .ref 0), (0, .float 4)]) (st2 := []) (w3 := w1) rfl rfl ?_
  refine sx_RP.step (pc2 := 595) (ls2 := [(3, .int (nI i)), (2, .ref 111), (1, .ref 0), (0, .float 4)]) (st2 := [.ref 111]) (w3 := w1) rfl rfl ?_
  refine sx_RP.step (pc2 := 596) (ls2 := [(3, .int (nI i)), (2, .ref 111), (1, .ref 0), (0, .float 4)]) (st2 := [.float 4, .ref 111]) (w3 := w1) rfl rfl ?_
  refine sx_RP.step (pc2 := 597) (ls2 := [(3, .int (nI i)), (2, .ref 111), (1, .ref 0), (0, .float 4)]) (st2 := [.int (nI i), .float 4, .ref 111]) (w3 := w1) rfl rfl ?_
  refine sx_RP.step (pc2 := 598) (ls2 := [(3, .int (nI i)), (2, .ref 111), (1, .ref 0), (0, .float 4)]) (st2 := [.int 1, .int (nI i), .float 4, .ref 111]) (w3 := w1) rfl rfl ?_
  refine sx_RP.step (pc2 := 599) (ls2 := [(3, .int (nI i)), (2, .ref 111), (1, .ref 0), (0, .float 4)]) (st2 := [.int ((nI i) + 1), .float 4, .ref 111]) (w3 := w1) rfl rfl ?_
  rw [show ((nI i) + 1 : Int32) = nI (i + 1) from nI_add i 1]
  refine sx_RP.scr (x := (i + 1)) rfl (by omega) hl (show _ = 600 from rfl) ?_
  refine sx_RP.step (pc2 := 601) (ls2 := [(3, .int (nI i)), (2, .ref 111), (1, .ref 0), (0, .float 4)]) (st2 := [.float 4, .int (ys.getD ((i + 1)) 0), .ref 111]) (w3 := w1) rfl rfl ?_
  refine sx_RP.step (pc2 := 602) (ls2 := [(3, .int (nI i)), (2, .ref 111), (1, .ref 0), (0, .float 4)]) (st2 := [.int (nI i), .float 4, .int (ys.getD ((i + 1)) 0), .ref 111]) (w3 := w1) rfl rfl ?_
  refine sx_RP.step (pc2 := 603) (ls2 := [(3, .int (nI i)), (2, .ref 111), (1, .ref 0), (0, .float 4)]) (st2 := [.int 2, .int (nI i), .float 4, .int (ys.getD ((i + 1)) 0), .ref 111]) (w3 := w1) rfl rfl ?_
  refine sx_RP.step (pc2 := 604) (ls2 := [(3, .int (nI i)), (2, .ref 111), (1, .ref 0), (0, .float 4)]) (st2 := [.int ((nI i) + 2), .float 4, .int (ys.getD ((i + 1)) 0), .ref 111]) (w3 := w1) rfl rfl ?_
  rw [show ((nI i) + 2 : Int32) = nI (i + 2) from nI_add i 2]
  refine sx_RP.scr (x := (i + 2)) rfl (by omega) hl (show _ = 605 from rfl) ?_
  refine sx_RP.step (pc2 := 606) (ls2 := [(3, .int (nI i)), (2, .ref 111), (1, .ref 0), (0, .float 4)]) (st2 := [.float 4, .int (ys.getD ((i + 2)) 0), .int (ys.getD ((i + 1)) 0), .ref 111]) (w3 := w1) rfl rfl ?_
  refine sx_RP.step (pc2 := 607) (ls2 := [(3, .int (nI i)), (2, .ref 111), (1, .ref 0), (0, .float 4)]) (st2 := [.int (nI i), .float 4, .int (ys.getD ((i + 2)) 0), .int (ys.getD ((i + 1)) 0), .ref 111]) (w3 := w1) rfl rfl ?_
  refine sx_RP.step (pc2 := 608) (ls2 := [(3, .int (nI i)), (2, .ref 111), (1, .ref 0), (0, .float 4)]) (st2 := [.int 3, .int (nI i), .float 4, .int (ys.getD ((i + 2)) 0), .int (ys.getD ((i + 1)) 0), .ref 111]) (w3 := w1) rfl rfl ?_
  refine sx_RP.step (pc2 := 609) (ls2 := [(3, .int (nI i)), (2, .ref 111), (1, .ref 0), (0, .float 4)]) (st2 := [.int ((nI i) + 3), .float 4, .int (ys.getD ((i + 2)) 0), .int (ys.getD ((i + 1)) 0), .ref 111]) (w3 := w1) rfl rfl ?_
  rw [show ((nI i) + 3 : Int32) = nI (i + 3) from nI_add i 3]
  refine sx_RP.scr (x := (i + 3)) rfl (by omega) hl (show _ = 610 from rfl) ?_
  refine sx_RP.callp (as2 := [.ref 111, .int (ys.getD ((i + 1)) 0), .int (ys.getD ((i + 2)) 0), .int (ys.getD ((i + 3)) 0)]) (rest2 := []) rfl rfl (sx_inv_v2 (mi := 246) (k := 61) (st := [.int (ys.getD ((i + 3)) 0), .int (ys.getD ((i + 2)) 0), .int (ys.getD ((i + 1)) 0), .ref 111]) (w := w1) rfl rfl hI2.1.o111 rfl rfl rfl) rfl rfl rfl (sx_RP.byk (r161 (d := 1) hI2 hR7 (ys.getD ((i + 1)) 0) (ys.getD ((i + 2)) 0) (ys.getD ((i + 3)) 0))) (show _ = 613 from rfl) ?_
  rintro r4 w9 ⟨⟨⟨v11, rfl⟩, hI10, ⟨hR12, lo13⟩⟩, hbk14⟩
  have hL15 : LI w9 := ⟨_, hC4.lo hI2 lo13, hR12, hbk14 hb8⟩
  show sx_RP _ _ _ _ _ [.int v11] _ _
  refine sx_RP.step (pc2 := 614) (ls2 := [(3, .int (nI i)), (2, .ref 111), (1, .ref 0), (0, .float 4)]) (st2 := []) (w3 := w9) rfl rfl ?_
  refine sx_RP.step (pc2 := 1539) (ls2 := [(3, .int (nI i)), (2, .ref 111), (1, .ref 0), (0, .float 4)]) (st2 := []) (w3 := w9) rfl rfl ?_
  exact kk w9 hI10 hL15
set_option maxRecDepth 20000 in
set_option maxHeartbeats 4000000 in
theorem lc11 {ys : List Int32} {i : Nat} {w : List sx_C} {P : Option Value → List sx_C → Prop} (hl : ys.length ≤ 3072) (hn : i + 6 ≤ ys.length) (hI : WI w) (hL : LI w) (kk : ∀ w2, WI w2 → LI w2 → sx_RP (some ys) 9 246 1539 [(3, .int (nI i)), (2, .ref 111), (1, .ref 0), (0, .float 4)] [] w2 P) : sx_RP (some ys) 9 246 617 [(3, .int (nI i)), (2, .ref 111), (1, .ref 0), (0, .float 4)] [] w P := by
  obtain ⟨s, hC, hR, hb⟩ := hL
  refine sx_RP.step (pc2 := 618) (ls2 := [(3, .int (nI i)), (2, .ref 111), (1, .ref 0), (0, .float 4)]) (st2 := [.ref 0]) (w3 := w) rfl rfl ?_
  refine sx_RP.step (pc2 := 619) (ls2 := [(3, .int (nI i)), (2, .ref 111), (1, .ref 0), (0, .float 4)]) (st2 := [.float 4, .ref 0]) (w3 := w) rfl rfl ?_
  refine sx_RP.step (pc2 := 620) (ls2 := [(3, .int (nI i)), (2, .ref 111), (1, .ref 0), (0, .float 4)]) (st2 := [.int (nI i), .float 4, .ref 0]) (w3 := w) rfl rfl ?_
  refine sx_RP.step (pc2 := 621) (ls2 := [(3, .int (nI i)), (2, .ref 111), (1, .ref 0), (0, .float 4)]) (st2 := [.int 1, .int (nI i), .float 4, .ref 0]) (w3 := w) rfl rfl ?_
  refine sx_RP.step (pc2 := 622) (ls2 := [(3, .int (nI i)), (2, .ref 111), (1, .ref 0), (0, .float 4)]) (st2 := [.int ((nI i) + 1), .float 4, .ref 0]) (w3 := w) rfl rfl ?_
  rw [show ((nI i) + 1 : Int32) = nI (i + 1) from nI_add i 1]
  refine sx_RP.scr (x := (i + 1)) rfl (by omega) hl (show _ = 623 from rfl) ?_
  refine sx_RP.callp (as2 := [.ref 0, .int (ys.getD ((i + 1)) 0)]) (rest2 := []) rfl rfl (sx_inv_v2 (mi := 246) (k := 62) (st := [.int (ys.getD ((i + 1)) 0), .ref 0]) (w := w) rfl rfl hI.1.o0 rfl rfl rfl) rfl rfl rfl (sx_RP.byk (c39 (d := 1) hI hC (ys.getD ((i + 1)) 0))) (show _ = 626 from rfl) ?_
  rintro r4 w1 ⟨⟨rfl, hI2, ⟨hC3, hi4⟩⟩, hbk5⟩
  have hR6 := hR.hi hi4
  have hb7 := hbk5 hb
  show sx_RP _ _ _ _ _ [.int (ntsA s.1 (ys.getD ((i + 1)) 0))] _ _
  refine sx_RP.step (pc2 := 627) (ls2 := [(3, .int (nI i)), (2, .ref 111), (1, .ref 0), (0, .float 4)]) (st2 := []) (w3 := w1) rfl rfl ?_
  refine sx_RP.step (pc2 := 628) (ls2 := [(3, .int (nI i)), (2, .ref 111), (1, .ref 0), (0, .float 4)]) (st2 := [.ref 111]) (w3 := w1) rfl rfl ?_
  refine sx_RP.step (pc2 := 629) (ls2 := [(3, .int (nI i)), (2, .ref 111), (1, .ref 0), (0, .float 4)]) (st2 := [.float 4, .ref 111]) (w3 := w1) rfl rfl ?_
  refine sx_RP.step (pc2 := 630) (ls2 := [(3, .int (nI i)), (2, .ref 111), (1, .ref 0), (0, .float 4)]) (st2 := [.int (nI i), .float 4, .ref 111]) (w3 := w1) rfl rfl ?_
  refine sx_RP.step (pc2 := 631) (ls2 := [(3, .int (nI i)), (2, .ref 111), (1, .ref 0), (0, .float 4)]) (st2 := [.int 1, .int (nI i), .float 4, .ref 111]) (w3 := w1) rfl rfl ?_
  refine sx_RP.step (pc2 := 632) (ls2 := [(3, .int (nI i)), (2, .ref 111), (1, .ref 0), (0, .float 4)]) (st2 := [.int ((nI i) + 1), .float 4, .ref 111]) (w3 := w1) rfl rfl ?_
  rw [show ((nI i) + 1 : Int32) = nI (i + 1) from nI_add i 1]
  refine sx_RP.scr (x := (i + 1)) rfl (by omega) hl (show _ = 633 from rfl) ?_
  refine sx_RP.callp (as2 := [.ref 111, .int (ys.getD ((i + 1)) 0)]) (rest2 := []) rfl rfl (sx_inv_v2 (mi := 246) (k := 66) (st := [.int (ys.getD ((i + 1)) 0), .ref 111]) (w := w1) rfl rfl hI2.1.o111 rfl rfl rfl) rfl rfl rfl (sx_RP.byk (r164 (d := 1) hI2 hR6 hC.1.1.wb (ys.getD ((i + 1)) 0))) (show _ = 636 from rfl) ?_
  rintro r4 w8 ⟨⟨rfl, hI9, ⟨hR10, lo11⟩⟩, hbk12⟩
  have hL13 : LI w8 := ⟨_, hC3.lo hI2 lo11, hR10, hbk12 hb7⟩
  show sx_RP _ _ _ _ _ [.int (ntsA s.1 (ys.getD ((i + 1)) 0))] _ _
  refine sx_RP.step (pc2 := 637) (ls2 := [(3, .int (nI i)), (2, .ref 111), (1, .ref 0), (0, .float 4)]) (st2 := []) (w3 := w8) rfl rfl ?_
  refine sx_RP.step (pc2 := 1539) (ls2 := [(3, .int (nI i)), (2, .ref 111), (1, .ref 0), (0, .float 4)]) (st2 := []) (w3 := w8) rfl rfl ?_
  exact kk w8 hI9 hL13
set_option maxRecDepth 20000 in
set_option maxHeartbeats 4000000 in
theorem lc12 {ys : List Int32} {i : Nat} {w : List sx_C} {P : Option Value → List sx_C → Prop} (hl : ys.length ≤ 3072) (hn : i + 6 ≤ ys.length) (hI : WI w) (hL : LI w) (kk : ∀ w2, WI w2 → LI w2 → sx_RP (some ys) 9 246 1539 [(3, .int (nI i)), (2, .ref 111), (1, .ref 0), (0, .float 4)] [] w2 P) : sx_RP (some ys) 9 246 640 [(3, .int (nI i)), (2, .ref 111), (1, .ref 0), (0, .float 4)] [] w P := by
  obtain ⟨s, hC, hR, hb⟩ := hL
  refine sx_RP.step (pc2 := 641) (ls2 := [(3, .int (nI i)), (2, .ref 111), (1, .ref 0), (0, .float 4)]) (st2 := [.ref 0]) (w3 := w) rfl rfl ?_
  refine sx_RP.step (pc2 := 642) (ls2 := [(3, .int (nI i)), (2, .ref 111), (1, .ref 0), (0, .float 4)]) (st2 := [.float 4, .ref 0]) (w3 := w) rfl rfl ?_
  refine sx_RP.step (pc2 := 643) (ls2 := [(3, .int (nI i)), (2, .ref 111), (1, .ref 0), (0, .float 4)]) (st2 := [.int (nI i), .float 4, .ref 0]) (w3 := w) rfl rfl ?_
  refine sx_RP.step (pc2 := 644) (ls2 := [(3, .int (nI i)), (2, .ref 111), (1, .ref 0), (0, .float 4)]) (st2 := [.int 1, .int (nI i), .float 4, .ref 0]) (w3 := w) rfl rfl ?_
  refine sx_RP.step (pc2 := 645) (ls2 := [(3, .int (nI i)), (2, .ref 111), (1, .ref 0), (0, .float 4)]) (st2 := [.int ((nI i) + 1), .float 4, .ref 0]) (w3 := w) rfl rfl ?_
  rw [show ((nI i) + 1 : Int32) = nI (i + 1) from nI_add i 1]
  refine sx_RP.scr (x := (i + 1)) rfl (by omega) hl (show _ = 646 from rfl) ?_
  refine sx_RP.callp (as2 := [.ref 0, .int (ys.getD ((i + 1)) 0)]) (rest2 := []) rfl rfl (sx_inv_v2 (mi := 246) (k := 67) (st := [.int (ys.getD ((i + 1)) 0), .ref 0]) (w := w) rfl rfl hI.1.o0 rfl rfl rfl) rfl rfl rfl (sx_RP.byk (c48 (d := 1) hI hC (ys.getD ((i + 1)) 0))) (show _ = 649 from rfl) ?_
  rintro r4 w1 ⟨⟨⟨v3, rfl⟩, hI2, ⟨hC4, hi5⟩⟩, hbk6⟩
  have hR7 := hR.hi hi5
  have hb8 := hbk6 hb
  show sx_RP _ _ _ _ _ [.int v3] _ _
  refine sx_RP.step (pc2 := 650) (ls2 := [(3, .int (nI i)), (2, .ref 111), (1, .ref 0), (0, .float 4)]) (st2 := []) (w3 := w1) rfl rfl ?_
  refine sx_RP.step (pc2 := 651) (ls2 := [(3, .int (nI i)), (2, .ref 111), (1, .ref 0), (0, .float 4)]) (st2 := [.ref 111]) (w3 := w1) rfl rfl ?_
  refine sx_RP.step (pc2 := 652) (ls2 := [(3, .int (nI i)), (2, .ref 111), (1, .ref 0), (0, .float 4)]) (st2 := [.float 4, .ref 111]) (w3 := w1) rfl rfl ?_
  refine sx_RP.step (pc2 := 653) (ls2 := [(3, .int (nI i)), (2, .ref 111), (1, .ref 0), (0, .float 4)]) (st2 := [.int (nI i), .float 4, .ref 111]) (w3 := w1) rfl rfl ?_
  refine sx_RP.step (pc2 := 654) (ls2 := [(3, .int (nI i)), (2, .ref 111), (1, .ref 0), (0, .float 4)]) (st2 := [.int 1, .int (nI i), .float 4, .ref 111]) (w3 := w1) rfl rfl ?_
  refine sx_RP.step (pc2 := 655) (ls2 := [(3, .int (nI i)), (2, .ref 111), (1, .ref 0), (0, .float 4)]) (st2 := [.int ((nI i) + 1), .float 4, .ref 111]) (w3 := w1) rfl rfl ?_
  rw [show ((nI i) + 1 : Int32) = nI (i + 1) from nI_add i 1]
  refine sx_RP.scr (x := (i + 1)) rfl (by omega) hl (show _ = 656 from rfl) ?_
  refine sx_RP.callp (as2 := [.ref 111, .int (ys.getD ((i + 1)) 0)]) (rest2 := []) rfl rfl (sx_inv_v2 (mi := 246) (k := 70) (st := [.int (ys.getD ((i + 1)) 0), .ref 111]) (w := w1) rfl rfl hI2.1.o111 rfl rfl rfl) rfl rfl rfl (sx_RP.byk (r173 (d := 1) hI2 hR7 (ys.getD ((i + 1)) 0))) (show _ = 659 from rfl) ?_
  rintro r4 w9 ⟨⟨⟨v11, rfl⟩, hI10, ⟨hR12, lo13⟩⟩, hbk14⟩
  have hL15 : LI w9 := ⟨_, hC4.lo hI2 lo13, hR12, hbk14 hb8⟩
  show sx_RP _ _ _ _ _ [.int v11] _ _
  refine sx_RP.step (pc2 := 660) (ls2 := [(3, .int (nI i)), (2, .ref 111), (1, .ref 0), (0, .float 4)]) (st2 := []) (w3 := w9) rfl rfl ?_
  refine sx_RP.step (pc2 := 1539) (ls2 := [(3, .int (nI i)), (2, .ref 111), (1, .ref 0), (0, .float 4)]) (st2 := []) (w3 := w9) rfl rfl ?_
  exact kk w9 hI10 hL15
set_option maxRecDepth 20000 in
set_option maxHeartbeats 4000000 in
theorem lc13 {ys : List Int32} {i : Nat} {w : List sx_C} {P : Option Value → List sx_C → Prop} (hl : ys.length ≤ 3072) (hn : i + 6 ≤ ys.length) (hI : WI w) (hL : LI w) (kk : ∀ w2, WI w2 → LI w2 → sx_RP (some ys) 9 246 1539 [(3, .int (nI i)), (2, .ref 111), (1, .ref 0), (0, .float 4)] [] w2 P) : sx_RP (some ys) 9 246 663 [(3, .int (nI i)), (2, .ref 111), (1, .ref 0), (0, .float 4)] [] w P := by
  obtain ⟨s, hC, hR, hb⟩ := hL
  refine sx_RP.step (pc2 := 664) (ls2 := [(3, .int (nI i)), (2, .ref 111), (1, .ref 0), (0, .float 4)]) (st2 := [.ref 0]) (w3 := w) rfl rfl ?_
  refine sx_RP.step (pc2 := 665) (ls2 := [(3, .int (nI i)), (2, .ref 111), (1, .ref 0), (0, .float 4)]) (st2 := [.float 4, .ref 0]) (w3 := w) rfl rfl ?_
  refine sx_RP.step (pc2 := 666) (ls2 := [(3, .int (nI i)), (2, .ref 111), (1, .ref 0), (0, .float 4)]) (st2 := [.int (nI i), .float 4, .ref 0]) (w3 := w) rfl rfl ?_
  refine sx_RP.step (pc2 := 667) (ls2 := [(3, .int (nI i)), (2, .ref 111), (1, .ref 0), (0, .float 4)]) (st2 := [.int 1, .int (nI i), .float 4, .ref 0]) (w3 := w) rfl rfl ?_
  refine sx_RP.step (pc2 := 668) (ls2 := [(3, .int (nI i)), (2, .ref 111), (1, .ref 0), (0, .float 4)]) (st2 := [.int ((nI i) + 1), .float 4, .ref 0]) (w3 := w) rfl rfl ?_
  rw [show ((nI i) + 1 : Int32) = nI (i + 1) from nI_add i 1]
  refine sx_RP.scr (x := (i + 1)) rfl (by omega) hl (show _ = 669 from rfl) ?_
  refine sx_RP.step (pc2 := 670) (ls2 := [(3, .int (nI i)), (2, .ref 111), (1, .ref 0), (0, .float 4)]) (st2 := [.float 4, .int (ys.getD ((i + 1)) 0), .ref 0]) (w3 := w) rfl rfl ?_
  refine sx_RP.step (pc2 := 671) (ls2 := [(3, .int (nI i)), (2, .ref 111), (1, .ref 0), (0, .float 4)]) (st2 := [.int (nI i), .float 4, .int (ys.getD ((i + 1)) 0), .ref 0]) (w3 := w) rfl rfl ?_
  refine sx_RP.step (pc2 := 672) (ls2 := [(3, .int (nI i)), (2, .ref 111), (1, .ref 0), (0, .float 4)]) (st2 := [.int 2, .int (nI i), .float 4, .int (ys.getD ((i + 1)) 0), .ref 0]) (w3 := w) rfl rfl ?_
  refine sx_RP.step (pc2 := 673) (ls2 := [(3, .int (nI i)), (2, .ref 111), (1, .ref 0), (0, .float 4)]) (st2 := [.int ((nI i) + 2), .float 4, .int (ys.getD ((i + 1)) 0), .ref 0]) (w3 := w) rfl rfl ?_
  rw [show ((nI i) + 2 : Int32) = nI (i + 2) from nI_add i 2]
  refine sx_RP.scr (x := (i + 2)) rfl (by omega) hl (show _ = 674 from rfl) ?_
  refine sx_RP.callp (as2 := [.ref 0, .int (ys.getD ((i + 1)) 0), .int (ys.getD ((i + 2)) 0)]) (rest2 := []) rfl rfl (sx_inv_v2 (mi := 246) (k := 71) (st := [.int (ys.getD ((i + 2)) 0), .int (ys.getD ((i + 1)) 0), .ref 0]) (w := w) rfl rfl hI.1.o0 rfl rfl rfl) rfl rfl rfl (sx_RP.byk (c49 (d := 1) hI hC (ys.getD ((i + 1)) 0) (ys.getD ((i + 2)) 0))) (show _ = 677 from rfl) ?_
  rintro r4 w1 ⟨⟨⟨v3, rfl⟩, hI2, ⟨hC4, hi5⟩⟩, hbk6⟩
  have hR7 := hR.hi hi5
  have hb8 := hbk6 hb
  show sx_RP _ _ _ _ _ [.int v3] _ _
  refine sx_RP.step (pc2 := 678) (ls2 := [(3, .int (nI i)), (2, .ref 111), (1, .ref 0), (0, .float 4)]) (st2 := []) (w3 := w1) rfl rfl ?_
  refine sx_RP.step (pc2 := 679) (ls2 := [(3, .int (nI i)), (2, .ref 111), (1, .ref 0), (0, .float 4)]) (st2 := [.ref 111]) (w3 := w1) rfl rfl ?_
  refine sx_RP.step (pc2 := 680) (ls2 := [(3, .int (nI i)), (2, .ref 111), (1, .ref 0), (0, .float 4)]) (st2 := [.float 4, .ref 111]) (w3 := w1) rfl rfl ?_
  refine sx_RP.step (pc2 := 681) (ls2 := [(3, .int (nI i)), (2, .ref 111), (1, .ref 0), (0, .float 4)]) (st2 := [.int (nI i), .float 4, .ref 111]) (w3 := w1) rfl rfl ?_
  refine sx_RP.step (pc2 := 682) (ls2 := [(3, .int (nI i)), (2, .ref 111), (1, .ref 0), (0, .float 4)]) (st2 := [.int 1, .int (nI i), .float 4, .ref 111]) (w3 := w1) rfl rfl ?_
  refine sx_RP.step (pc2 := 683) (ls2 := [(3, .int (nI i)), (2, .ref 111), (1, .ref 0), (0, .float 4)]) (st2 := [.int ((nI i) + 1), .float 4, .ref 111]) (w3 := w1) rfl rfl ?_
  rw [show ((nI i) + 1 : Int32) = nI (i + 1) from nI_add i 1]
  refine sx_RP.scr (x := (i + 1)) rfl (by omega) hl (show _ = 684 from rfl) ?_
  refine sx_RP.step (pc2 := 685) (ls2 := [(3, .int (nI i)), (2, .ref 111), (1, .ref 0), (0, .float 4)]) (st2 := [.float 4, .int (ys.getD ((i + 1)) 0), .ref 111]) (w3 := w1) rfl rfl ?_
  refine sx_RP.step (pc2 := 686) (ls2 := [(3, .int (nI i)), (2, .ref 111), (1, .ref 0), (0, .float 4)]) (st2 := [.int (nI i), .float 4, .int (ys.getD ((i + 1)) 0), .ref 111]) (w3 := w1) rfl rfl ?_
  refine sx_RP.step (pc2 := 687) (ls2 := [(3, .int (nI i)), (2, .ref 111), (1, .ref 0), (0, .float 4)]) (st2 := [.int 2, .int (nI i), .float 4, .int (ys.getD ((i + 1)) 0), .ref 111]) (w3 := w1) rfl rfl ?_
  refine sx_RP.step (pc2 := 688) (ls2 := [(3, .int (nI i)), (2, .ref 111), (1, .ref 0), (0, .float 4)]) (st2 := [.int ((nI i) + 2), .float 4, .int (ys.getD ((i + 1)) 0), .ref 111]) (w3 := w1) rfl rfl ?_
  rw [show ((nI i) + 2 : Int32) = nI (i + 2) from nI_add i 2]
  refine sx_RP.scr (x := (i + 2)) rfl (by omega) hl (show _ = 689 from rfl) ?_
  refine sx_RP.callp (as2 := [.ref 111, .int (ys.getD ((i + 1)) 0), .int (ys.getD ((i + 2)) 0)]) (rest2 := []) rfl rfl (sx_inv_v2 (mi := 246) (k := 74) (st := [.int (ys.getD ((i + 2)) 0), .int (ys.getD ((i + 1)) 0), .ref 111]) (w := w1) rfl rfl hI2.1.o111 rfl rfl rfl) rfl rfl rfl (sx_RP.byk (r174 (d := 1) hI2 hR7 (ys.getD ((i + 1)) 0) (ys.getD ((i + 2)) 0))) (show _ = 692 from rfl) ?_
  rintro r4 w9 ⟨⟨⟨v11, rfl⟩, hI10, ⟨hR12, lo13⟩⟩, hbk14⟩
  have hL15 : LI w9 := ⟨_, hC4.lo hI2 lo13, hR12, hbk14 hb8⟩
  show sx_RP _ _ _ _ _ [.int v11] _ _
  refine sx_RP.step (pc2 := 693) (ls2 := [(3, .int (nI i)), (2, .ref 111), (1, .ref 0), (0, .float 4)]) (st2 := []) (w3 := w9) rfl rfl ?_
  refine sx_RP.step (pc2 := 1539) (ls2 := [(3, .int (nI i)), (2, .ref 111), (1, .ref 0), (0, .float 4)]) (st2 := []) (w3 := w9) rfl rfl ?_
  exact kk w9 hI10 hL15
set_option maxRecDepth 20000 in
set_option maxHeartbeats 4000000 in
theorem lc14 {ys : List Int32} {i : Nat} {w : List sx_C} {P : Option Value → List sx_C → Prop} (hl : ys.length ≤ 3072) (hn : i + 6 ≤ ys.length) (hI : WI w) (hL : LI w) (kk : ∀ w2, WI w2 → LI w2 → sx_RP (some ys) 9 246 1539 [(3, .int (nI i)), (2, .ref 111), (1, .ref 0), (0, .float 4)] [] w2 P) : sx_RP (some ys) 9 246 696 [(3, .int (nI i)), (2, .ref 111), (1, .ref 0), (0, .float 4)] [] w P := by
  obtain ⟨s, hC, hR, hb⟩ := hL
  refine sx_RP.step (pc2 := 697) (ls2 := [(3, .int (nI i)), (2, .ref 111), (1, .ref 0), (0, .float 4)]) (st2 := [.ref 0]) (w3 := w) rfl rfl ?_
  refine sx_RP.step (pc2 := 698) (ls2 := [(3, .int (nI i)), (2, .ref 111), (1, .ref 0), (0, .float 4)]) (st2 := [.float 4, .ref 0]) (w3 := w) rfl rfl ?_
  refine sx_RP.step (pc2 := 699) (ls2 := [(3, .int (nI i)), (2, .ref 111), (1, .ref 0), (0, .float 4)]) (st2 := [.int (nI i), .float 4, .ref 0]) (w3 := w) rfl rfl ?_
  refine sx_RP.step (pc2 := 700) (ls2 := [(3, .int (nI i)), (2, .ref 111), (1, .ref 0), (0, .float 4)]) (st2 := [.int 1, .int (nI i), .float 4, .ref 0]) (w3 := w) rfl rfl ?_
  refine sx_RP.step (pc2 := 701) (ls2 := [(3, .int (nI i)), (2, .ref 111), (1, .ref 0), (0, .float 4)]) (st2 := [.int ((nI i) + 1), .float 4, .ref 0]) (w3 := w) rfl rfl ?_
  rw [show ((nI i) + 1 : Int32) = nI (i + 1) from nI_add i 1]
  refine sx_RP.scr (x := (i + 1)) rfl (by omega) hl (show _ = 702 from rfl) ?_
  refine sx_RP.callp (as2 := [.ref 0, .int (ys.getD ((i + 1)) 0)]) (rest2 := []) rfl rfl (sx_inv_v2 (mi := 246) (k := 75) (st := [.int (ys.getD ((i + 1)) 0), .ref 0]) (w := w) rfl rfl hI.1.o0 rfl rfl rfl) rfl rfl rfl (sx_RP.byk (c52 (d := 1) hI hC (ys.getD ((i + 1)) 0))) (show _ = 705 from rfl) ?_
  rintro r4 w1 ⟨⟨⟨v3, rfl⟩, hI2, ⟨hC4, hi5⟩⟩, hbk6⟩
  have hR7 := hR.hi hi5
  have hb8 := hbk6 hb
  show sx_RP _ _ _ _ _ [.int v3] _ _
  refine sx_RP.step (pc2 := 706) (ls2 := [(3, .int (nI i)), (2, .ref 111), (1, .ref 0), (0, .float 4)]) (st2 := []) (w3 := w1) rfl rfl ?_
  refine sx_RP.step (pc2 := 707) (ls2 := [(3, .int (nI i)), (2, .ref 111), (1, .ref 0), (0, .float 4)]) (st2 := [.ref 111]) (w3 := w1) rfl rfl ?_
  refine sx_RP.step (pc2 := 708) (ls2 := [(3, .int (nI i)), (2, .ref 111), (1, .ref 0), (0, .float 4)]) (st2 := [.float 4, .ref 111]) (w3 := w1) rfl rfl ?_
  refine sx_RP.step (pc2 := 709) (ls2 := [(3, .int (nI i)), (2, .ref 111), (1, .ref 0), (0, .float 4)]) (st2 := [.int (nI i), .float 4, .ref 111]) (w3 := w1) rfl rfl ?_
  refine sx_RP.step (pc2 := 710) (ls2 := [(3, .int (nI i)), (2, .ref 111), (1, .ref 0), (0, .float 4)]) (st2 := [.int 1, .int (nI i), .float 4, .ref 111]) (w3 := w1) rfl rfl ?_
  refine sx_RP.step (pc2 := 711) (ls2 := [(3, .int (nI i)), (2, .ref 111), (1, .ref 0), (0, .float 4)]) (st2 := [.int ((nI i) + 1), .float 4, .ref 111]) (w3 := w1) rfl rfl ?_
  rw [show ((nI i) + 1 : Int32) = nI (i + 1) from nI_add i 1]
  refine sx_RP.scr (x := (i + 1)) rfl (by omega) hl (show _ = 712 from rfl) ?_
  refine sx_RP.callp (as2 := [.ref 111, .int (ys.getD ((i + 1)) 0)]) (rest2 := []) rfl rfl (sx_inv_v2 (mi := 246) (k := 78) (st := [.int (ys.getD ((i + 1)) 0), .ref 111]) (w := w1) rfl rfl hI2.1.o111 rfl rfl rfl) rfl rfl rfl (sx_RP.byk (r176 (d := 1) hI2 hR7 (ys.getD ((i + 1)) 0))) (show _ = 715 from rfl) ?_
  rintro r4 w9 ⟨⟨⟨v11, rfl⟩, hI10, ⟨hR12, lo13⟩⟩, hbk14⟩
  have hL15 : LI w9 := ⟨_, hC4.lo hI2 lo13, hR12, hbk14 hb8⟩
  show sx_RP _ _ _ _ _ [.int v11] _ _
  refine sx_RP.step (pc2 := 716) (ls2 := [(3, .int (nI i)), (2, .ref 111), (1, .ref 0), (0, .float 4)]) (st2 := []) (w3 := w9) rfl rfl ?_
  refine sx_RP.step (pc2 := 1539) (ls2 := [(3, .int (nI i)), (2, .ref 111), (1, .ref 0), (0, .float 4)]) (st2 := []) (w3 := w9) rfl rfl ?_
  exact kk w9 hI10 hL15
end
