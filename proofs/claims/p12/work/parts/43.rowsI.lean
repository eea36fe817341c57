-- rows over worlds of which WI holds
theorem Ty.a45 {w : List sx_C} (h : Ty w) : w[45]? = some (.inl (0, ia w 45)) ∧ (ia w 45).length = 48 := by
  have e := Ty.ai (a := 45) (l0 := List.replicate 48 0) h rfl
  rw [List.length_replicate] at e
  exact e
theorem Ty.a95 {w : List sx_C} (h : Ty w) : w[95]? = some (.inl (1, ia w 95)) ∧ (ia w 95).length = 48 := by
  have e := Ty.ai (a := 95) (l0 := List.replicate 48 0) h rfl
  rw [List.length_replicate] at e
  exact e
theorem Ty.a97 {w : List sx_C} (h : Ty w) : w[97]? = some (.inl (2, ia w 97)) ∧ (ia w 97).length = 120 := by
  have e := Ty.ai (a := 97) (l0 := List.replicate 120 0) h rfl
  rw [List.length_replicate] at e
  exact e
theorem Ty.a99 {w : List sx_C} (h : Ty w) : w[99]? = some (.inl (0, ia w 99)) ∧ (ia w 99).length = 7 := by
  have e := Ty.ai (a := 99) (l0 := List.replicate 7 0) h rfl
  rw [List.length_replicate] at e
  exact e
theorem Ty.a100 {w : List sx_C} (h : Ty w) : w[100]? = some (.inl (0, ia w 100)) ∧ (ia w 100).length = 48 := by
  have e := Ty.ai (a := 100) (l0 := List.replicate 48 0) h rfl
  rw [List.length_replicate] at e
  exact e
theorem Ty.a101 {w : List sx_C} (h : Ty w) : w[101]? = some (.inl (0, ia w 101)) ∧ (ia w 101).length = 48 := by
  have e := Ty.ai (a := 101) (l0 := List.replicate 48 0) h rfl
  rw [List.length_replicate] at e
  exact e
theorem Ty.a102 {w : List sx_C} (h : Ty w) : w[102]? = some (.inl (0, ia w 102)) ∧ (ia w 102).length = 9 := by
  have e := Ty.ai (a := 102) (l0 := List.replicate 9 0) h rfl
  rw [List.length_replicate] at e
  exact e
theorem Ty.a112 {w : List sx_C} (h : Ty w) : w[112]? = some (.inl (0, ia w 112)) ∧ (ia w 112).length = 172 := by
  have e := Ty.ai (a := 112) h rfl
  exact e
theorem Ty.a113 {w : List sx_C} (h : Ty w) : w[113]? = some (.inl (0, ia w 113)) ∧ (ia w 113).length = 172 := by
  have e := Ty.ai (a := 113) (l0 := List.replicate 172 0) h rfl
  rw [List.length_replicate] at e
  exact e
theorem Ty.a114 {w : List sx_C} (h : Ty w) : w[114]? = some (.inl (0, ia w 114)) ∧ (ia w 114).length = 172 := by
  have e := Ty.ai (a := 114) (l0 := List.replicate 172 0) h rfl
  rw [List.length_replicate] at e
  exact e
theorem Ty.a115 {w : List sx_C} (h : Ty w) : w[115]? = some (.inl (0, ia w 115)) ∧ (ia w 115).length = 172 := by
  have e := Ty.ai (a := 115) (l0 := List.replicate 172 0) h rfl
  rw [List.length_replicate] at e
  exact e
theorem Ty.a116 {w : List sx_C} (h : Ty w) : w[116]? = some (.inl (0, ia w 116)) ∧ (ia w 116).length = 7 := by
  have e := Ty.ai (a := 116) (l0 := List.replicate 7 0) h rfl
  rw [List.length_replicate] at e
  exact e
theorem Ty.a117 {w : List sx_C} (h : Ty w) : w[117]? = some (.inl (0, ia w 117)) ∧ (ia w 117).length = 48 := by
  have e := Ty.ai (a := 117) (l0 := List.replicate 48 0) h rfl
  rw [List.length_replicate] at e
  exact e
theorem Ty.a118 {w : List sx_C} (h : Ty w) : w[118]? = some (.inl (1, ia w 118)) ∧ (ia w 118).length = 48 := by
  have e := Ty.ai (a := 118) (l0 := List.replicate 48 0) h rfl
  rw [List.length_replicate] at e
  exact e
theorem Ty.a119 {w : List sx_C} (h : Ty w) : w[119]? = some (.inl (0, ia w 119)) ∧ (ia w 119).length = 9 := by
  have e := Ty.ai (a := 119) (l0 := List.replicate 9 0) h rfl
  rw [List.length_replicate] at e
  exact e
theorem Ty.a120 {w : List sx_C} (h : Ty w) : w[120]? = some (.inl (1, ia w 120)) ∧ (ia w 120).length = 48 := by
  have e := Ty.ai (a := 120) (l0 := List.replicate 48 0) h rfl
  rw [List.length_replicate] at e
  exact e
theorem Ty.a121 {w : List sx_C} (h : Ty w) : w[121]? = some (.inl (0, ia w 121)) ∧ (ia w 121).length = 120 := by
  have e := Ty.ai (a := 121) (l0 := List.replicate 120 0) h rfl
  rw [List.length_replicate] at e
  exact e
theorem Ty.a122 {w : List sx_C} (h : Ty w) : w[122]? = some (.inl (0, ia w 122)) ∧ (ia w 122).length = 4 := by
  have e := Ty.ai (a := 122) (l0 := List.replicate 4 0) h rfl
  rw [List.length_replicate] at e
  exact e
theorem Ty.a123 {w : List sx_C} (h : Ty w) : w[123]? = some (.inl (0, ia w 123)) ∧ (ia w 123).length = 4 := by
  have e := Ty.ai (a := 123) (l0 := List.replicate 4 0) h rfl
  rw [List.length_replicate] at e
  exact e
theorem Ty.a124 {w : List sx_C} (h : Ty w) : w[124]? = some (.inr (.inl (3, ja w 124))) ∧ (ja w 124).length = 160 := by
  have e := Ty.aj (a := 124) (l0 := List.replicate 160 0) h rfl
  rw [List.length_replicate] at e
  exact e
theorem Ty.a125 {w : List sx_C} (h : Ty w) : w[125]? = some (.inr (.inl (3, ja w 125))) ∧ (ja w 125).length = 40 := by
  have e := Ty.aj (a := 125) (l0 := List.replicate 40 0) h rfl
  rw [List.length_replicate] at e
  exact e
theorem Ty.aN {w : List sx_C} (h : Ty w) {s : Nat} (hs : s < 4) : w[104 + 2 * s]? = some (.inr (.inl (3, ja w (104 + 2 * s)))) ∧ (ja w (104 + 2 * s)).length = 40 := by
  rcases (show s = 0 ∨ s = 1 ∨ s = 2 ∨ s = 3 by omega) with rfl | rfl | rfl | rfl
  · exact h.aj (t := 3) (l0 := List.replicate 40 0) rfl
  · exact h.aj (t := 3) (l0 := List.replicate 40 0) rfl
  · exact h.aj (t := 3) (l0 := List.replicate 40 0) rfl
  · exact h.aj (t := 3) (l0 := List.replicate 40 0) rfl
theorem e_rows0 : ∀ t, t < 48 → (match (sx_w0[47 + t]? : Option sx_C) with
  | some c => sx_eqC c (.inl (0, List.replicate 48 0))
  | none => false) = true := by decide +kernel
theorem Ty.aR {w : List sx_C} (h : Ty w) {t : Nat} (ht : t < 48) : w[47 + t]? = some (.inl (0, ia w (47 + t))) ∧ (ia w (47 + t)).length = 48 := by
  have h1 := e_rows0 t ht
  split at h1
  · rename_i c hc
    rw [sx_eqC_of h1] at hc
    have e := h.ai hc
    rw [List.length_replicate] at e
    exact e
  · cases h1
theorem sh_set {t i : Nat} {l : List Int32} {v : Int32} : sx_sh (.inl (t, l.set i v)) = sx_sh (.inl (t, l)) := by
  show (.inl (t, List.replicate (l.set i v).length 0) : sx_C) = .inl (t, List.replicate l.length 0)
  rw [List.length_set]
theorem shj_set {t i : Nat} {l : List Int64} {v : Int64} : sx_sh (.inr (.inl (t, l.set i v))) = sx_sh (.inr (.inl (t, l))) := by
  show (.inr (.inl (t, List.replicate (l.set i v).length 0)) : sx_C) = .inr (.inl (t, List.replicate l.length 0))
  rw [List.length_set]
def gR (k : Nat) (v : Int32) : Prop := match k with
  | 0 => inR v 5
  | 1 => inR v 1
  | 2 => inR v 47
  | 3 => inR v 3
  | 4 => True
  | _ => inR v 1
def cR (k : Nat) (v : Int32) : Prop := match k with
  | 3 => inR v 10
  | 5 => inR v 9
  | _ => True
theorem WI.g {w : List sx_C} (h : WI w) {a : Nat} (ha : gAd a) : gR 0 (fi w a 0) ∧ gR 1 (fi w a 1) ∧ gR 2 (fi w a 2) ∧ gR 3 (fi w a 3) ∧ gR 5 (fi w a 5) := (h.2 a _ (h.1.oG ha)).1 ha
theorem WI.gk {w : List sx_C} (h : WI w) {a k : Nat} (ha : gAd a) (hk : k < 6) : gR k (fi w a k) := by
  have q := h.g ha
  match k, hk with
  | 0, _ => exact q.1
  | 1, _ => exact q.2.1
  | 2, _ => exact q.2.2.1
  | 3, _ => exact q.2.2.2.1
  | 4, _ => trivial
  | 5, _ => exact q.2.2.2.2
theorem WI.c {w : List sx_C} (h : WI w) {A : Nat} (hA : isA A) : inR (fi w A 3) 10 ∧ inR (fi w A 5) 9 := (h.2 A _ (h.1.oC hA)).2.1 hA
theorem WI.st {w : List sx_C} (h : WI w) {A c : Nat} (hA : isA A) (hc : c < 48) : inR ((ia w (A + 1)).getD c 0) 3 := (h.2 (A + 1) _ (h.1.aS hA).1).2.2.1 (by unfold isA at hA; omega) c hc
theorem WI.di {w : List sx_C} (h : WI w) {A c : Nat} (hA : isA A) (hc : c < 9) : inR ((ia w (A + 3)).getD c 0) 47 := (h.2 (A + 3) _ (h.1.aD hA).1).2.2.2.1 (by unfold isA at hA; omega) c hc
theorem WI.kp {w : List sx_C} (h : WI w) : inR (fi w 0 3) 1 := (h.2 0 _ h.1.o0).2.2.2.2.1 rfl
theorem WI.t {w : List sx_C} (h : WI w) : inR (fi w 96 1) 120 ∧ inR (fi w 96 3) 120 ∧ inR (fi w 96 4) 120 := (h.2 96 _ h.1.o96).2.2.2.2.2.1 rfl
theorem WI.sh {w : List sx_C} (h : WI w) {s : Nat} (hs : s < 4) : inR (fi w (103 + 2 * s) 2) 40 := (h.2 _ _ (h.1.oS hs)).2.2.2.2.2.2.1 (by omega)
theorem WI.m {w : List sx_C} (h : WI w) : inR (fi w 111 4) 1 ∧ inR (fi w 111 11) 120 ∧ inR (fi w 111 12) 120 := (h.2 111 _ h.1.o111).2.2.2.2.2.2.2.1 rfl
theorem WI.s {w : List sx_C} (h : WI w) : sOK (ia w 112) := (h.2 112 _ h.1.a112.1).2.2.2.2.2.2.2.2.1 (Or.inl rfl)
theorem WI.l {w : List sx_C} (h : WI w) {k : Nat} (hk : k < 4) : inR ((ia w 123).getD k 0) 40 := (h.2 123 _ h.1.a123.1).2.2.2.2.2.2.2.2.2 rfl k hk
theorem inR.set {l : List Int32} {i n m : Nat} {v : Int32} (h : ∀ k, k < m → inR (l.getD k 0) n) (hv : inR v n) : ∀ k, k < m → inR ((l.set i v).getD k 0) n := by
  intro k hk
  rw [List.getD_eq_getElem?_getD, List.getElem?_set]
  split
  · split
    · exact hv
    · exact ⟨0, Nat.zero_le _, rfl⟩
  · rw [← List.getD_eq_getElem?_getD]
    exact h k hk
theorem inR.bo {v : Int32} (h : inR v 1) : (v == 0 || v == 1) = true := by
  obtain ⟨j, hj, rfl⟩ := h
  rcases (show j = 0 ∨ j = 1 by omega) with rfl | rfl <;> decide
section SXI
variable {xs : Option (List Int32)} {d mi pc pc2 a idx p : Nat} {ls : sx_L} {r : List Value} {w w0 : List sx_C} {P : Option Value → List sx_C → Prop}
theorem sx_RP.gg {k : Nat} (hI : WI w) (ha : gAd a) (hi : sx_ins mi pc = some (.getfield idx, 3)) (hq : sx_lk (sx_fl (sx_own mi)) idx = some (2, k, p)) (hk : k < 6) (hp : pc + 3 = pc2) (kk : sx_RP xs d mi pc2 ls (.int (fi w a k) :: r) w P) : sx_RP xs d mi pc ls (.ref a :: r) w P := by
  refine sx_RP.gf (v := .int (fi w a k)) hi hq (hI.1.oG ha) rfl ?_ hp kk
  match k, hk with
  | 0, _ => rfl
  | 1, _ => rfl
  | 2, _ => rfl
  | 3, _ => rfl
  | 4, _ => rfl
  | 5, _ => rfl
theorem sx_RP.gc {k : Nat} (hI : WI w) (ha : isA a) (hi : sx_ins mi pc = some (.getfield idx, 3)) (hq : sx_lk (sx_fl (sx_own mi)) idx = some (1, k, p)) (hk : k = 3 ∨ (5 ≤ k ∧ k < 11)) (hp : pc + 3 = pc2) (kk : sx_RP xs d mi pc2 ls (.int (fi w a k) :: r) w P) : sx_RP xs d mi pc ls (.ref a :: r) w P := by
  refine sx_RP.gf (v := .int (fi w a k)) hi hq (hI.1.oC ha) rfl ?_ hp kk
  rcases (show k = 3 ∨ k = 5 ∨ k = 6 ∨ k = 7 ∨ k = 8 ∨ k = 9 ∨ k = 10 by omega) with rfl | rfl | rfl | rfl | rfl | rfl | rfl <;> rfl
theorem sx_RP.pg {k : Nat} {v : Int32} (hI : WI w) (hE : EC w0 w) (ha : gAd a) (hi : sx_ins mi pc = some (.putfield idx, 3)) (hq : sx_lk (sx_fl (sx_own mi)) idx = some (2, k, p)) (hk : k < 6) (hf : sx_fin mi 2 k = true) (hv : gR k v) (hp : pc + 3 = pc2) (kk : ∀ w2, WI w2 → EC w0 w2 → (∀ B q, isA B → fi w2 B q = fi w B q) → sx_RP xs d mi pc2 ls r w2 P) : sx_RP xs d mi pc ls (.int v :: .ref a :: r) w P := by
  have hcc : ∀ (c : sx_C) (B q : Nat), isA B → fi (w.set a c) B q = fi w B q := fun c B q hB => fi_ne (by unfold gAd at ha; unfold isA at hB; omega)
  have hw := hI.1.oG ha
  have q := hI.g ha
  have ha2 : a < 111 := by unfold gAd at ha; omega
  have hn : a ≠ 0 ∧ a ≠ 96 ∧ a ≠ 103 ∧ a ≠ 105 ∧ a ≠ 107 ∧ a ≠ 109 ∧ a ≠ 111 ∧ a ≠ 122 ∧ a ≠ 123 := by unfold gAd at ha; omega
  match k, hk with
  | 0, _ => exact sx_RP.pf hi hq hw (by rw [hf]; rfl) rfl rfl hp (kk _ (hI.set hw rfl (cOK.g ha ⟨hv, q.2⟩)) (hE.set hw ha2 (kp_n hn)) (hcc _))
  | 1, _ => exact sx_RP.pf hi hq hw (by rw [hf]; rfl) rfl rfl hp (kk _ (hI.set hw rfl (cOK.g ha ⟨q.1, hv, q.2.2⟩)) (hE.set hw ha2 (kp_n hn)) (hcc _))
  | 2, _ => exact sx_RP.pf hi hq hw (by rw [hf]; rfl) rfl rfl hp (kk _ (hI.set hw rfl (cOK.g ha ⟨q.1, q.2.1, hv, q.2.2.2⟩)) (hE.set hw ha2 (kp_n hn)) (hcc _))
  | 3, _ => exact sx_RP.pf hi hq hw (by rw [hf]; rfl) rfl rfl hp (kk _ (hI.set hw rfl (cOK.g ha ⟨q.1, q.2.1, q.2.2.1, hv, q.2.2.2.2⟩)) (hE.set hw ha2 (kp_n hn)) (hcc _))
  | 4, _ => exact sx_RP.pf hi hq hw (by rw [hf]; rfl) rfl rfl hp (kk _ (hI.set hw rfl (cOK.g ha ⟨q.1, q.2.1, q.2.2.1, q.2.2.2.1, q.2.2.2.2⟩)) (hE.set hw ha2 (kp_n hn)) (hcc _))
  | 5, _ => exact sx_RP.pf hi hq hw (by rw [hf, show sx_okv (sx_ty 2 5) (.int v) = (v == 0 || v == 1) from rfl, inR.bo hv]; rfl) rfl rfl hp (kk _ (hI.set hw rfl (cOK.g ha ⟨q.1, q.2.1, q.2.2.1, q.2.2.2.1, hv⟩)) (hE.set hw ha2 (kp_n hn)) (hcc _))
theorem sx_RP.putc {k : Nat} {v : Int32} (hI : WI w) (hE : EC w0 w) (ha : isA a) (hi : sx_ins mi pc = some (.putfield idx, 3)) (hq : sx_lk (sx_fl (sx_own mi)) idx = some (1, k, p)) (hk : k = 3 ∨ (5 ≤ k ∧ k < 11)) (hf : sx_fin mi 1 k = true) (hv : cR k v) (hp : pc + 3 = pc2) (kk : ∀ w2, WI w2 → EC w0 w2 → sx_RP xs d mi pc2 ls r w2 P) : sx_RP xs d mi pc ls (.int v :: .ref a :: r) w P := by
  have hw := hI.1.oC ha
  have q := hI.c ha
  have ha2 : a < 111 := by unfold isA at ha; omega
  have hn : a ≠ 0 ∧ a ≠ 96 ∧ a ≠ 103 ∧ a ≠ 105 ∧ a ≠ 107 ∧ a ≠ 109 ∧ a ≠ 111 ∧ a ≠ 122 ∧ a ≠ 123 := by unfold isA at ha; omega
  rcases (show k = 3 ∨ k = 5 ∨ k = 6 ∨ k = 7 ∨ k = 8 ∨ k = 9 ∨ k = 10 by omega) with rfl | rfl | rfl | rfl | rfl | rfl | rfl
  · exact sx_RP.pf hi hq hw (by rw [hf]; rfl) rfl rfl hp (kk _ (hI.set hw rfl (cOK.c ha ⟨hv, q.2⟩)) (hE.set hw ha2 (kp_n hn)))
  · exact sx_RP.pf hi hq hw (by rw [hf]; rfl) rfl rfl hp (kk _ (hI.set hw rfl (cOK.c ha ⟨q.1, hv⟩)) (hE.set hw ha2 (kp_n hn)))
  · exact sx_RP.pf hi hq hw (by rw [hf]; rfl) rfl rfl hp (kk _ (hI.set hw rfl (cOK.c ha q)) (hE.set hw ha2 (kp_n hn)))
  · exact sx_RP.pf hi hq hw (by rw [hf]; rfl) rfl rfl hp (kk _ (hI.set hw rfl (cOK.c ha q)) (hE.set hw ha2 (kp_n hn)))
  · exact sx_RP.pf hi hq hw (by rw [hf]; rfl) rfl rfl hp (kk _ (hI.set hw rfl (cOK.c ha q)) (hE.set hw ha2 (kp_n hn)))
  · exact sx_RP.pf hi hq hw (by rw [hf]; rfl) rfl rfl hp (kk _ (hI.set hw rfl (cOK.c ha q)) (hE.set hw ha2 (kp_n hn)))
  · exact sx_RP.pf hi hq hw (by rw [hf]; rfl) rfl rfl hp (kk _ (hI.set hw rfl (cOK.c ha q)) (hE.set hw ha2 (kp_n hn)))
theorem sx_RP.gw (hI : WI w) (ha : isA a) (hi : sx_ins mi pc = some (.getfield idx, 3)) (hq : sx_lk (sx_fl (sx_own mi)) idx = some (1, 1, p)) (hp : pc + 3 = pc2) (kk : sx_RP xs d mi pc2 ls (.long (fj w a 1) :: r) w P) : sx_RP xs d mi pc ls (.ref a :: r) w P := sx_RP.gf (v := .long (fj w a 1)) hi hq (hI.1.oC ha) rfl rfl hp kk
theorem sx_RP.pw {v : Int64} (hI : WI w) (hE : EC w0 w) (ha : isA a) (hi : sx_ins mi pc = some (.putfield idx, 3)) (hq : sx_lk (sx_fl (sx_own mi)) idx = some (1, 1, p)) (hf : sx_fin mi 1 1 = true) (hp : pc + 3 = pc2) (kk : ∀ w2, WI w2 → EC w0 w2 → sx_RP xs d mi pc2 ls r w2 P) : sx_RP xs d mi pc ls (.long v :: .ref a :: r) w P := by
  have hw := hI.1.oC ha
  have q := hI.c ha
  have ha2 : a < 111 := by unfold isA at ha; omega
  have hn : a ≠ 0 ∧ a ≠ 96 ∧ a ≠ 103 ∧ a ≠ 105 ∧ a ≠ 107 ∧ a ≠ 109 ∧ a ≠ 111 ∧ a ≠ 122 ∧ a ≠ 123 := by unfold isA at ha; omega
  exact sx_RP.pf hi hq hw (by rw [hf]; rfl) rfl rfl hp (kk _ (hI.set hw rfl (cOK.c ha q)) (hE.set hw ha2 (kp_n hn)))
theorem sx_RP.gref {k b : Nat} (hI : WI w) (ha : isA a) (hi : sx_ins mi pc = some (.getfield idx, 3)) (hq : sx_lk (sx_fl (sx_own mi)) idx = some (1, k, p)) (hk : (k = 0 ∧ b = a + 1) ∨ (k = 2 ∧ b = a + 2) ∨ (k = 4 ∧ b = a + 3)) (hp : pc + 3 = pc2) (kk : sx_RP xs d mi pc2 ls (.ref b :: r) w P) : sx_RP xs d mi pc ls (.ref a :: r) w P := by
  refine sx_RP.gf (v := .ref b) hi hq (hI.1.oC ha) rfl ?_ hp kk
  rcases hk with ⟨rfl, rfl⟩ | ⟨rfl, rfl⟩ | ⟨rfl, rfl⟩ <;> rfl
-- text
theorem sx_RP.gt {k : Nat} (hI : WI w) (hi : sx_ins mi pc = some (.getfield idx, 3)) (hq : sx_lk (sx_fl (sx_own mi)) idx = some (4, k, p)) (hk : 1 ≤ k ∧ k < 6) (hp : pc + 3 = pc2) (kk : sx_RP xs d mi pc2 ls (.int (fi w 96 k) :: r) w P) : sx_RP xs d mi pc ls (.ref 96 :: r) w P := by
  refine sx_RP.gf (v := .int (fi w 96 k)) hi hq hI.1.o96 rfl ?_ hp kk
  rcases (show k = 1 ∨ k = 2 ∨ k = 3 ∨ k = 4 ∨ k = 5 by omega) with rfl | rfl | rfl | rfl | rfl <;> rfl
/-- of the text's own numbers: the place, what is behind it, and the rest -/
def tR (k : Nat) (v : Int32) : Prop := match k with
  | 3 => inR v 120
  | 4 => inR v 120
  | _ => True
theorem sx_RP.pt {k : Nat} {v : Int32} (hI : WI w) (hE : EC w0 w) (hi : sx_ins mi pc = some (.putfield idx, 3)) (hq : sx_lk (sx_fl (sx_own mi)) idx = some (4, k, p)) (hk : 2 ≤ k ∧ k < 6) (hf : sx_fin mi 4 k = true) (hv : tR k v) (hp : pc + 3 = pc2) (kk : ∀ w2, WI w2 → EC w0 w2 → fi w2 96 k = v → (∀ j, j ≠ k → fi w2 96 j = fi w 96 j) → ia w2 97 = ia w 97 → sx_RP xs d mi pc2 ls r w2 P) : sx_RP xs d mi pc ls (.int v :: .ref 96 :: r) w P := by
  have hw := hI.1.o96
  have q := hI.t
  have hne : ∀ (fs : List Value) (j : Nat), j ≠ k → fi (w.set 96 (.inr (.inr (.inr (4, fs.set k (.int v)))))) 96 j = vi fs[j]? := by
    intro fs j hj
    unfold fi
    rw [fs_set hw, List.getElem?_set_ne (Ne.symm hj)]
  have hfs : fs_ w 96 = [.ref 97, .int (fi w 96 1), .int (fi w 96 2), .int (fi w 96 3), .int (fi w 96 4), .int (fi w 96 5)] := by unfold fs_; rw [hw]
  have hia : ∀ c : sx_C, ia (w.set 96 c) 97 = ia w 97 := fun c => ia_ne (by decide)
  rcases (show k = 2 ∨ k = 3 ∨ k = 4 ∨ k = 5 by omega) with rfl | rfl | rfl | rfl
  · refine sx_RP.pf hi hq hw (by rw [hf]; rfl) rfl rfl hp (kk _ (hI.set hw rfl (cOK.t q)) (hE.set hw (by decide) rfl) (by unfold fi; rw [fs_set hw]; rfl) (fun j hj => ?_) (hia _))
    rw [hne _ j hj, ← hfs]
    rfl
  · refine sx_RP.pf hi hq hw (by rw [hf]; rfl) rfl rfl hp (kk _ (hI.set hw rfl (cOK.t ⟨q.1, hv, q.2.2⟩)) (hE.set hw (by decide) rfl) (by unfold fi; rw [fs_set hw]; rfl) (fun j hj => ?_) (hia _))
    rw [hne _ j hj, ← hfs]
    rfl
  · refine sx_RP.pf hi hq hw (by rw [hf]; rfl) rfl rfl hp (kk _ (hI.set hw rfl (cOK.t ⟨q.1, q.2.1, hv⟩)) (hE.set hw (by decide) rfl) (by unfold fi; rw [fs_set hw]; rfl) (fun j hj => ?_) (hia _))
    rw [hne _ j hj, ← hfs]
    rfl
  · refine sx_RP.pf hi hq hw (by rw [hf]; rfl) rfl rfl hp (kk _ (hI.set hw rfl (cOK.t q)) (hE.set hw (by decide) rfl) (by unfold fi; rw [fs_set hw]; rfl) (fun j hj => ?_) (hia _))
    rw [hne _ j hj, ← hfs]
    rfl
-- arrays
theorem sx_RP.stF {i x : Int32} {n : Nat} (hI : WI w) (hE : EC w0 w) (hi : sx_ins mi pc = some (.iastore, 1)) (hw : w[a]? = some (.inl (0, ia w a)) ∧ (ia w a).length = n) (hn : sx_in i n = true) (hf : (44 ≤ a ∧ a ≤ 95) ∨ (97 ≤ a ∧ a ≤ 102)) (hp : pc + 1 = pc2) (kk : ∀ w2, WI w2 → EC w0 w2 → sx_RP xs d mi pc2 ls r w2 P) : sx_RP xs d mi pc ls (.int x :: .int i :: .ref a :: r) w P :=
  sx_RP.ist hi hw.1 hw.2 hn rfl rfl hp (kk _ (hI.set hw.1 sh_set (cOK.free (by omega))) (hE.set hw.1 (by omega) (kp_n (by omega))))
theorem sx_RP.stB {i x : Int32} {n : Nat} (hI : WI w) (hE : EC w0 w) (hi : sx_ins mi pc = some (.bastore, 1)) (hw : w[a]? = some (.inl (1, ia w a)) ∧ (ia w a).length = n) (hn : sx_in i n = true) (hf : (44 ≤ a ∧ a ≤ 95) ∨ (97 ≤ a ∧ a ≤ 102)) (hp : pc + 1 = pc2) (kk : ∀ w2, WI w2 → EC w0 w2 → sx_RP xs d mi pc2 ls r w2 P) : sx_RP xs d mi pc ls (.int x :: .int i :: .ref a :: r) w P :=
  sx_RP.bst1 hi hw.1 hw.2 hn rfl rfl hp (kk _ (hI.set hw.1 sh_set (cOK.free (by omega))) (hE.set hw.1 (by omega) (kp_n (by omega))))
theorem sx_RP.stS {i x : Int32} (hI : WI w) (hE : EC w0 w) {A : Nat} (hA : isA A) (hi : sx_ins mi pc = some (.iastore, 1)) (hn : sx_in i 48 = true) (hv : inR x 3) (hp : pc + 1 = pc2) (kk : ∀ w2, WI w2 → EC w0 w2 → sx_RP xs d mi pc2 ls r w2 P) : sx_RP xs d mi pc ls (.int x :: .int i :: .ref (A + 1) :: r) w P := by
  have hw := hI.1.aS hA
  have h2 : A + 1 < 111 ∧ A + 1 ≠ 0 ∧ A + 1 ≠ 96 ∧ A + 1 ≠ 103 ∧ A + 1 ≠ 105 ∧ A + 1 ≠ 107 ∧ A + 1 ≠ 109 ∧ A + 1 ≠ 111 ∧ A + 1 ≠ 122 ∧ A + 1 ≠ 123 := by unfold isA at hA; omega
  exact sx_RP.ist hi hw.1 hw.2 hn rfl rfl hp (kk _ (hI.set hw.1 sh_set (cOK.st hA (inR.set (fun k hk => hI.st hA hk) hv))) (hE.set hw.1 h2.1 (kp_n h2.2)))
theorem sx_RP.stD {i x : Int32} (hI : WI w) (hE : EC w0 w) {A : Nat} (hA : isA A) (hi : sx_ins mi pc = some (.iastore, 1)) (hn : sx_in i 9 = true) (hv : inR x 47) (hp : pc + 1 = pc2) (kk : ∀ w2, WI w2 → EC w0 w2 → (∀ B q, isA B → fi w2 B q = fi w B q) → sx_RP xs d mi pc2 ls r w2 P) : sx_RP xs d mi pc ls (.int x :: .int i :: .ref (A + 3) :: r) w P := by
  have hw := hI.1.aD hA
  have h2 : A + 3 < 111 ∧ A + 3 ≠ 0 ∧ A + 3 ≠ 96 ∧ A + 3 ≠ 103 ∧ A + 3 ≠ 105 ∧ A + 3 ≠ 107 ∧ A + 3 ≠ 109 ∧ A + 3 ≠ 111 ∧ A + 3 ≠ 122 ∧ A + 3 ≠ 123 := by unfold isA at hA; omega
  exact sx_RP.ist hi hw.1 hw.2 hn rfl rfl hp (kk _ (hI.set hw.1 sh_set (cOK.di hA (inR.set (fun k hk => hI.di hA hk) hv))) (hE.set hw.1 h2.1 (kp_n h2.2)) (fun B q hB => fi_ne (by unfold isA at hA hB; omega)))
theorem sx_RP.callp {i : Instr} {mi2 : Nat} {st as as2 rest rest2 : List Value} {Q : Option Value → List sx_C → Prop} (hi : sx_ins mi pc = some (i, 3)) (hs : sx_step false xs mi pc i 3 ls st w = none) (hv : sx_inv mi i st w = some (mi2, as, rest)) (hm : Nat.ble (as.map (fun v => v.category)).sum (sx_maxL mi2) = true) (hr : rest = rest2) (ha : as = as2) (hc : sx_RP xs d mi2 0 (lv_args 0 as2) [] w Q) (hp : pc + 3 = pc2) (k : ∀ r2 w4, Q r2 w4 → sx_RP xs (d + 1) mi pc2 ls (r2.toList ++ rest2) w4 P) : sx_RP xs (d + 1) mi pc ls st w P := by
  subst hr
  subst ha
  subst hp
  refine sx_RP.call hi hs hv hm (hc.mono (fun r2 w4 q => k r2 w4 q))
end SXI
