-- far, heard, peas
theorem farN_congr {g h : List Int32} (e : ∀ c, c < 48 → g.getD c 0 = h.getD c 0) {f t : Nat} (hf : f < 48) (ht : t < 48) : farN g f t = farN h f t := dst_congr (gk_kfr g) (gk_kfr h) hf (fun c hc => by unfold gk; rw [e c hc]) t ht
def gdR (l : List Int32) : List Int32 := (l.drop 7).take 48
theorem gdR_at {l : List Int32} {c : Nat} (hc : c < 48) : (gdR l).getD c 0 = l.getD (7 + c) 0 := by
  unfold gdR
  rw [List.getD_eq_getElem?_getD, List.getElem?_take_of_lt hc, List.getElem?_drop, ← List.getD_eq_getElem?_getD]
theorem rel.far {w : List sx_C} {l : List Int32} (hR : rel w 1 l) {f t : Nat} (hf : f < 48) (ht : t < 48) : farN (ia w 2) f t = farN (gdR l) f t := farN_congr (fun c hc => by rw [gdR_at hc]; exact hR.gr hc) hf ht
def heF (l : List Int32) (c g : Nat) : Int32 := if gF l g 1 = 0 ∧ gF l g 5 = 0 then ldV (iN (gF l g 0)) (iN (l.getD (7 + hdN l g) 0)) / nI (1 + farN (gdR l) (hdN l g) c) else 0
def peF (l : List Int32) (c : Nat) : Nat → Int32
  | 0 => 0
  | n + 1 => peF l c n + heF l c n
def pesF (l : List Int32) (c : Nat) : Int32 := peF l c (iN (l.getD 1 0))
theorem he_y {l : List Int32} {c g k h s : Nat} (h1 : gF l g 1 = 0 ∧ gF l g 5 = 0) (hk : k < 6) (hh : h < 48) (hs : s < 4) (ek : gF l g 0 = nI k) (eh : gF l g 2 = nI h) (es : l.getD (7 + h) 0 = nI s) : heF l c g = ldV k s / nI (1 + farN (gdR l) h c) := by
  have e : hdN l g = h := by
    unfold hdN
    rw [show l.getD (103 + 6 * g + 2) 0 = nI h from eh, iN_n (by omega)]
  unfold heF
  rw [if_pos h1, e, ek, es, iN_n (by omega), iN_n (by omega)]
theorem he_n {l : List Int32} {c g : Nat} (h1 : ¬ (gF l g 1 = 0 ∧ gF l g 5 = 0)) : heF l c g = 0 := if_neg h1
/-- the reference's walk by sound, exactly -/
theorem X141s {xs : Option (List Int32)} {d : Nat} {w : List sx_C} (hI : WI w) {src : Nat} (hs : src < 48) : sx_RP xs (d + 1) 141 0 (lv_args 0 [.ref 111, .int (nI src), .int (-1)]) [] w (fun r w2 => (r = none ∧ ∀ c, c < 48 → (ia w2 117).getD c 0 = nI (farN (gdR (ia w 112)) src c)) ∧ WI w2 ∧ ∀ a, a ≠ 117 → a ≠ 118 → w2[a]? = w[a]?) := by
  have h2 := hI.1.aM (a := 112) (by omega)
  have h7 := hI.1.a117
  have h8 := hI.1.a118
  have hw := wlF_far (s := ia w 112) (g := gdR (ia w 112)) hs h7.2 h8.2 (fun c hc => gdR_at hc)
  have hl : (wlF (ia w 112) src (ia w 117) (ia w 118)).1.length = 48 ∧ (wlF (ia w 112) src (ia w 117) (ia w 118)).2.length = 48 := wkF_len 49 _ _ _ (wiF_len 48 0 _ h7.2) (flF_len 48 0 _ h8.2)
  have hc := cp_141 (xs := xs) (d := d) hI.1.o111 h2.1 h7.1 h8.1 h2.2 h7.2 h8.2 hs
  revert hw hl hc
  generalize wlF (ia w 112) src (ia w 117) (ia w 118) = p
  obtain ⟨wy, su⟩ := p
  intro hw hl hc
  have e7 : sx_sh (.inl (0, wy)) = sx_sh (.inl (0, ia w 117)) := by
    show (Sum.inl (0, List.replicate wy.length (0 : Int32)) : sx_C) = Sum.inl (0, List.replicate (ia w 117).length 0)
    rw [h7.2, hl.1]
  have e8 : sx_sh (.inl (1, su)) = sx_sh (.inl (1, ia w 118)) := by
    show (Sum.inl (1, List.replicate su.length (0 : Int32)) : sx_C) = Sum.inl (1, List.replicate (ia w 118).length 0)
    rw [h8.2, hl.2]
  have h8b : (w.set 117 (.inl (0, wy)))[118]? = some (.inl (1, ia w 118)) := by
    rw [List.getElem?_set_ne (by decide)]
    exact h8.1
  refine ⟨none, _, hc, ⟨rfl, fun c hc2 => ?_⟩, (hI.set h7.1 e7 (cOK.free (by omega))).set h8b e8 (cOK.free (by omega)), fun a h1 h2 => ?_⟩
  · rw [ia_ne (by omega), ia_set h7.1]
    exact (hw c hc2).1
  · rw [List.getElem?_set_ne (Ne.symm h2), List.getElem?_set_ne (Ne.symm h1)]
theorem fit_far {w : List sx_C} {l : List Int32} (h : FIT w 1) (hR : rel w 1 l) {f t : Nat} (hf : f < 48) (ht : t < 48) : dst (lkL (ia w 45)) f t = farN (gdR l) f t := (h.dst hf ht).trans (hR.far hf ht)
