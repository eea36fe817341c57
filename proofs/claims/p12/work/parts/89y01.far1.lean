-- least sums: the equations, their one solution, ways there and back
def nb (c n : Nat) : Prop := ∃ j, j < 4 ∧ bsd c j = nI n
def nbb (c n : Nat) : Bool := (List.range 4).any (fun j => bsd c j == nI n)
theorem nbb_iff {c n : Nat} : nbb c n = true ↔ nb c n := by
  unfold nbb nb
  rw [List.any_eq_true]
  constructor
  · rintro ⟨j, hj, e⟩
    exact ⟨j, List.mem_range.mp hj, eq_of_beq e⟩
  · rintro ⟨j, hj, e⟩
    exact ⟨j, List.mem_range.mpr hj, by rw [e]; exact beq_self_eq_true _⟩
theorem nbb_sym : ∀ c, c < 48 → ∀ n, n < 48 → nbb c n = true → nbb n c = true := by decide +kernel
theorem nb.sym {c n : Nat} (hc : c < 48) (hn : n < 48) (h : nb c n) : nb n c := nbb_iff.mp (nbb_sym c hc n hn (nbb_iff.mpr h))
theorem nb.ne {c n : Nat} (hc : c < 48) (h : nb c n) : n ≠ c := by
  obtain ⟨j, hj, e⟩ := h
  intro z
  rw [z] at e
  exact bsd_self c hc j hj e
def rlx (k : Nat → Nat) (op : Nat → Bool) (D : Nat → Nat) : Prop := ∀ c n, c < 48 → n < 48 → nb c n → op n = true → D n ≤ D c + k n
def slt (k : Nat → Nat) (op : Nat → Bool) (src : Nat) (D : Nat → Nat) : Prop := D src = 0 ∧ (∀ c, c < 48 → D c ≤ 1000000) ∧ rlx k op D ∧ ∀ c, c < 48 → c ≠ src → D c < 1000000 → op c = true ∧ ∃ n, n < 48 ∧ nb n c ∧ D n + k c ≤ D c
section SXLS
variable {k : Nat → Nat} {op : Nat → Bool} {src : Nat} {D E G : Nat → Nat}
theorem slt_le (hk : ∀ c, c < 48 → op c = true → 1 ≤ k c) (hE : rlx k op E) (hG : ∀ c, c < 48 → E c ≤ G c ∨ (op c = true ∧ ∃ n, n < 48 ∧ nb n c ∧ G n + k c ≤ G c)) : ∀ c, c < 48 → E c ≤ G c := by
  have key : ∀ v c, c < 48 → G c ≤ v → E c ≤ G c := by
    intro v
    induction v with
    | zero =>
      intro c hc h
      rcases hG c hc with q | ⟨ho, n, hn, hb, q⟩
      · exact q
      · have := hk c hc ho
        omega
    | succ v ih =>
      intro c hc h
      rcases hG c hc with q | ⟨ho, n, hn, hb, q⟩
      · exact q
      · have h1 := hk c hc ho
        have h2 := ih n hn (by omega)
        have h3 := hE n c hn hc hb ho
        omega
  exact fun c hc => key _ c hc (Nat.le_refl _)
theorem slt.le (hk : ∀ c, c < 48 → op c = true → 1 ≤ k c) (h1 : slt k op src D) (h2 : slt k op src E) : ∀ c, c < 48 → D c ≤ E c := by
  refine slt_le hk h1.2.2.1 (fun c hc => ?_)
  by_cases e : c = src
  · subst e
    exact Or.inl (by rw [h1.1]; exact Nat.zero_le _)
  · by_cases hi : E c < 1000000
    · exact Or.inr (h2.2.2.2 c hc e hi)
    · have := h1.2.1 c hc
      exact Or.inl (by omega)
theorem slt.eq (hk : ∀ c, c < 48 → op c = true → 1 ≤ k c) (h1 : slt k op src D) (h2 : slt k op src E) : ∀ c, c < 48 → D c = E c := fun c hc => Nat.le_antisymm (h1.le hk h2 c hc) (h2.le hk h1 c hc)
end SXLS
section SXLR
variable {k : Nat → Nat} {D : Nat → Nat → Nat}
def all1 (_ : Nat) : Bool := true
theorem slt_first (hD : ∀ t, t < 48 → slt k all1 t (D t)) (hF : ∀ t c, t < 48 → c < 48 → D t c < 1000000) (hk : ∀ c, c < 48 → 1 ≤ k c) {t : Nat} (ht : t < 48) : ∀ v c, c < 48 → c ≠ t → D t c ≤ v → ∃ n, n < 48 ∧ nb t n ∧ D n c + k n ≤ D t c := by
  intro v
  induction v with
  | zero =>
    intro c hc hne h
    obtain ⟨_, m, hm, hb, q⟩ := (hD t ht).2.2.2 c hc hne (hF t c ht hc)
    have := hk c hc
    omega
  | succ v ih =>
    intro c hc hne h
    obtain ⟨_, m, hm, hb, q⟩ := (hD t ht).2.2.2 c hc hne (hF t c ht hc)
    have h1 := hk c hc
    by_cases e : m = t
    · subst e
      refine ⟨c, hc, hb, ?_⟩
      rw [(hD c hc).1]
      omega
    · obtain ⟨n, hn, hb2, q2⟩ := ih m hm e (by omega)
      have h3 := (hD n hn).2.2.1 m c hm hc hb rfl
      exact ⟨n, hn, hb2, by omega⟩
theorem slt_step (hD : ∀ t, t < 48 → slt k all1 t (D t)) (hF : ∀ t c, t < 48 → c < 48 → D t c < 1000000) (hk : ∀ c, c < 48 → 1 ≤ k c) {c n : Nat} (hc : c < 48) (hn : n < 48) (hb : nb c n) : ∀ x, x < 48 → D n x ≤ D c x + k c := by
  refine slt_le (k := k) (op := all1) (fun c hc _ => hk c hc) (hD n hn).2.2.1 (G := fun x => D c x + k c) (fun x hx => ?_)
  by_cases e : x = c
  · subst e
    refine Or.inl ?_
    have h1 := (hD n hn).2.2.1 n x hn hx (hb.sym hx hn) rfl
    rw [(hD n hn).1] at h1
    show D n x ≤ D x x + k x
    omega
  · obtain ⟨_, m, hm, hb2, q⟩ := (hD c hc).2.2.2 x hx e (hF c x hc hx)
    exact Or.inr ⟨rfl, m, hm, hb2, by show D c m + k c + k x ≤ D c x + k c; omega⟩
/-- the way there and the way back -/
theorem slt_rev (hD : ∀ t, t < 48 → slt k all1 t (D t)) (hF : ∀ t c, t < 48 → c < 48 → D t c < 1000000) (hk : ∀ c, c < 48 → 1 ≤ k c) {f t : Nat} (hf : f < 48) (ht : t < 48) : D t f + k t = D f t + k f := by
  have hE : rlx k all1 (fun t => D t f + k t) := by
    intro c n hc hn hb _
    have := slt_step hD hF hk hc hn hb f hf
    show D n f + k n ≤ D c f + k c + k n
    omega
  have hG : rlx k all1 (fun t => D f t + k f) := by
    intro c n hc hn hb _
    have := (hD f hf).2.2.1 c n hc hn hb rfl
    show D f n + k f ≤ D f c + k f + k n
    omega
  apply Nat.le_antisymm
  · refine slt_le (k := k) (op := all1) (fun c hc _ => hk c hc) hE (G := fun t => D f t + k f) (fun x hx => ?_) t ht
    by_cases e : x = f
    · subst e
      exact Or.inl (Nat.le_refl _)
    · obtain ⟨_, m, hm, hb2, q⟩ := (hD f hf).2.2.2 x hx e (hF f x hf hx)
      exact Or.inr ⟨rfl, m, hm, hb2, by show D f m + k f + k x ≤ D f x + k f; omega⟩
  · refine slt_le (k := k) (op := all1) (fun c hc _ => hk c hc) hG (G := fun t => D t f + k t) (fun x hx => ?_) t ht
    by_cases e : x = f
    · subst e
      exact Or.inl (Nat.le_refl _)
    · obtain ⟨n, hn, hb2, q⟩ := slt_first hD hF hk hx _ f hf (Ne.symm e) (Nat.le_refl _)
      exact Or.inr ⟨rfl, n, hn, hb2.sym hx hn, by show D n f + k n + k x ≤ D x f + k x; omega⟩
end SXLR
-- the reference: by the nearest
def wr1G (kf : Nat → Int32) (c : Nat) (wy : List Int32) (n : Int32) : List Int32 := if n < 0 then wy else if kf n.toNatClampNeg = -1 then wy else if wy.getD n.toNatClampNeg 0 < 0 then wy.set n.toNatClampNeg (wy.getD c 0 + kf n.toNatClampNeg) else if wy.getD n.toNatClampNeg 0 ≤ wy.getD c 0 + kf n.toNatClampNeg then wy else wy.set n.toNatClampNeg (wy.getD c 0 + kf n.toNatClampNeg)
def wrG (kf : Nat → Int32) (c : Nat) : Nat → Nat → List Int32 → List Int32
  | 0, _, wy => wy
  | k + 1, j, wy => wrG kf c k (j + 1) (wr1G kf c wy (bsd c j))
def wkG (kf : Nat → Int32) : Nat → Int32 → List Int32 → List Int32 → List Int32 × List Int32
  | 0, _, wy, su => (wy, su)
  | f + 1, b, wy, su => if b < 0 then (wy, su) else wkG kf f (nrF (wrG kf b.toNatClampNeg 4 0 wy) (su.set b.toNatClampNeg 1) 48 0 (-1)) (wrG kf b.toNatClampNeg 4 0 wy) (su.set b.toNatClampNeg 1)
def crK (s : List Int32) (n : Nat) : Int32 := crF (s.getD (7 + n) 0)
theorem crF_ne (x : Int32) : ¬ crF x = -1 := by
  obtain ⟨j, h1, h2, e⟩ := crF_n x
  rw [e]
  exact nI_ne1 (by omega)
theorem wr1_G {s : List Int32} {c : Nat} {wy : List Int32} {n : Int32} : wr1 s c wy n = wr1G (crK s) c wy n := by
  unfold wr1 wr1G
  rw [if_neg (show ¬ crK s n.toNatClampNeg = -1 from crF_ne _)]
  rfl
theorem wrF_G {s : List Int32} {c : Nat} : ∀ (k j : Nat) (wy : List Int32), wrF s c k j wy = wrG (crK s) c k j wy
  | 0, _, _ => rfl
  | k + 1, j, wy => by
    show wrF s c k (j + 1) (wr1 s c wy (bsd c j)) = wrG (crK s) c k (j + 1) (wr1G (crK s) c wy (bsd c j))
    rw [wr1_G]
    exact wrF_G k (j + 1) _
theorem wkF_G {s : List Int32} : ∀ (f : Nat) (b : Int32) (wy su : List Int32), wkF s f b wy su = wkG (crK s) f b wy su
  | 0, _, _, _ => rfl
  | f + 1, b, wy, su => by
    unfold wkF wkG
    split
    · rfl
    · rw [wrF_G]
      exact wkF_G f _ _ _
def kfr (kf : Nat → Int32) (k : Nat → Nat) (op : Nat → Bool) : Prop := ∀ n, n < 48 → (op n = false ∧ kf n = -1) ∨ (op n = true ∧ 1 ≤ k n ∧ k n ≤ 9 ∧ kf n = nI (k n))
/-- what a row of ways tells: -1 for none -/
def rep (B : Nat) (wy : List Int32) (D : Nat → Nat) : Prop := wy.length = 48 ∧ ∀ c, c < 48 → (D c = 1000000 ∧ wy.getD c 0 = -1) ∨ (D c ≤ B ∧ wy.getD c 0 = nI (D c))
def updN (D : Nat → Nat) (n v : Nat) : Nat → Nat := fun x => if x = n then v else D x
section SXDJ
variable {kf : Nat → Int32} {k : Nat → Nat} {op : Nat → Bool} {D : Nat → Nat} {wy su : List Int32} {B c : Nat}
theorem rep.up {B2 : Nat} (h : rep B wy D) (hb : B ≤ B2) : rep B2 wy D := ⟨h.1, fun c hc => by
  rcases h.2 c hc with q | q
  · exact Or.inl q
  · exact Or.inr ⟨by omega, q.2⟩⟩
theorem rep.fin (h : rep B wy D) (hc : c < 48) (hB : B < 1000000) : ¬ wy.getD c 0 < 0 ↔ D c < 1000000 := by
  rcases h.2 c hc with ⟨q1, q2⟩ | ⟨q1, q2⟩
  · rw [q2, q1]
    exact ⟨fun z => absurd (show (-1 : Int32) < 0 by decide) z, fun z => absurd z (by omega)⟩
  · rw [q2]
    exact ⟨fun _ => by omega, fun _ => nI_pos (by omega)⟩
theorem rep.at (h : rep B wy D) (hc : c < 48) (hf : D c < 1000000) : D c ≤ B ∧ wy.getD c 0 = nI (D c) := by
  rcases h.2 c hc with ⟨q1, _⟩ | q
  · omega
  · exact q
theorem rep.put {n v : Nat} (h : rep B wy D) (hn : n < 48) (hv : v ≤ B) : rep B (wy.set n (nI v)) (updN D n v) := by
  refine ⟨by rw [List.length_set]; exact h.1, fun c hc => ?_⟩
  rw [gd_set (by rw [h.1]; exact hn)]
  unfold updN
  by_cases e : c = n
  · rw [if_pos e, if_pos e]
    exact Or.inr ⟨hv, rfl⟩
  · rw [if_neg e, if_neg e]
    exact h.2 c hc
theorem wr1G_rep {n : Nat} (hkf : kfr kf k op) (h : rep B wy D) (hB : B < 500000) (hc : c < 48) (hf : D c < 1000000) (hcB : D c + 9 ≤ B) (hn : n < 48) (hne : n ≠ c) : ∃ D2, rep B (wr1G kf c wy (nI n)) D2 ∧ (∀ x, x ≠ n → D2 x = D x) ∧ (op n = true → D2 n ≤ D c + k n) ∧ (D2 n = D n ∨ (op n = true ∧ D2 n = D c + k n)) ∧ D2 n ≤ D n := by
  unfold wr1G
  rw [if_neg (nI_pos (by omega)), nI_clamp (by omega)]
  rcases hkf n hn with ⟨ho, hk⟩ | ⟨ho, hk1, hk9, hk⟩
  · rw [if_pos hk]
    exact ⟨D, h, fun _ _ => rfl, fun z => absurd (z.symm.trans ho) (by decide), Or.inl rfl, Nat.le_refl _⟩
  · obtain ⟨hc1, hc2⟩ := h.at hc hf
    rw [hk, if_neg (nI_ne1 (by omega)), hc2, nI_add]
    have key : ∀ (hlt : D c + k n ≤ D n), ∃ D2, rep B (wy.set n (nI (D c + k n))) D2 ∧ (∀ x, x ≠ n → D2 x = D x) ∧ (op n = true → D2 n ≤ D c + k n) ∧ (D2 n = D n ∨ (op n = true ∧ D2 n = D c + k n)) ∧ D2 n ≤ D n := by
      intro hlt
      refine ⟨updN D n (D c + k n), h.put hn (by omega), fun x hx => by unfold updN; rw [if_neg hx], ?_, ?_, ?_⟩
      · intro _
        unfold updN
        rw [if_pos rfl]
        exact Nat.le_refl _
      · exact Or.inr ⟨ho, by unfold updN; rw [if_pos rfl]⟩
      · unfold updN
        rw [if_pos rfl]
        exact hlt
    rcases h.2 n hn with ⟨q1, q2⟩ | ⟨q1, q2⟩
    · rw [q2, if_pos (by decide)]
      exact key (by omega)
    · rw [q2, if_neg (nI_pos (by omega))]
      by_cases hle : D n ≤ D c + k n
      · rw [if_pos ((nI_leI (by omega) (by omega)).mpr hle)]
        exact ⟨D, h, fun _ _ => rfl, fun _ => hle, Or.inl rfl, Nat.le_refl _⟩
      · rw [if_neg (fun z => hle ((nI_leI (by omega) (by omega)).mp z))]
        exact key (by omega)
theorem wrG_rep (hkf : kfr kf k op) (hB : B < 500000) (hc : c < 48) : ∀ (q j : Nat) (wy : List Int32) (D : Nat → Nat), j + q = 4 → rep B wy D → D c < 1000000 → D c + 9 ≤ B → ∃ D2, rep B (wrG kf c q j wy) D2 ∧ D2 c = D c ∧ (∀ x, x < 48 → D2 x ≤ D x) ∧ (∀ x, x < 48 → D2 x = D x ∨ (nb c x ∧ op x = true ∧ D2 x = D c + k x)) ∧ ∀ i, j ≤ i → i < 4 → ∀ x, x < 48 → bsd c i = nI x → op x = true → D2 x ≤ D c + k x
  | 0, j, wy, D, hj, h, hf, hcB => ⟨D, h, rfl, fun _ _ => Nat.le_refl _, fun _ _ => Or.inl rfl, fun i h1 h2 => by omega⟩
  | q + 1, j, wy, D, hj, h, hf, hcB => by
    show ∃ D2, rep B (wrG kf c q (j + 1) (wr1G kf c wy (bsd c j))) D2 ∧ _
    rcases bsd_nat c hc j (by omega) with e | ⟨hn, e⟩
    · have e1 : wr1G kf c wy (bsd c j) = wy := by
        unfold wr1G
        rw [e]
        exact if_pos (by decide)
      rw [e1]
      obtain ⟨D2, h1, h2, h3, h4, h5⟩ := wrG_rep hkf hB hc q (j + 1) wy D (by omega) h hf hcB
      refine ⟨D2, h1, h2, h3, h4, fun i hi1 hi2 x hx hb ho => ?_⟩
      by_cases ei : i = j
      · rw [ei, e] at hb
        exact absurd hb.symm (nI_ne1 (by omega))
      · exact h5 i (by omega) hi2 x hx hb ho
    · have hnb : nb c (bsd c j).toNatClampNeg := ⟨j, by omega, e⟩
      have hne : (bsd c j).toNatClampNeg ≠ c := hnb.ne hc
      obtain ⟨D1, g1, g2, g3, g4, g5⟩ := wr1G_rep (n := (bsd c j).toNatClampNeg) hkf h hB hc hf hcB hn hne
      rw [← e] at g1
      have hc1 : D1 c = D c := g2 c (Ne.symm hne)
      obtain ⟨D2, h1, h2, h3, h4, h5⟩ := wrG_rep hkf hB hc q (j + 1) _ D1 (by omega) g1 (by omega) (by omega)
      have hle : ∀ x, x < 48 → D1 x ≤ D x := by
        intro x hx
        by_cases ex : x = (bsd c j).toNatClampNeg
        · rw [ex]
          exact g5
        · rw [g2 x ex]
          exact Nat.le_refl _
      refine ⟨D2, h1, h2.trans hc1, fun x hx => Nat.le_trans (h3 x hx) (hle x hx), fun x hx => ?_, fun i hi1 hi2 x hx hb ho => ?_⟩
      · rcases h4 x hx with z | ⟨z1, z2, z3⟩
        · by_cases ex : x = (bsd c j).toNatClampNeg
          · rw [z, ex]
            rcases g4 with y | ⟨y1, y2⟩
            · exact Or.inl y
            · exact Or.inr ⟨hnb, y1, y2⟩
          · exact Or.inl (z.trans (g2 x ex))
        · exact Or.inr ⟨z1, z2, by rw [z3, hc1]⟩
      · by_cases ei : i = j
        · subst ei
          have ex : x = (bsd c i).toNatClampNeg := by
            rw [hb, nI_clamp (by omega)]
          have := h3 x hx
          rw [ex] at this ho ⊢
          exact Nat.le_trans this (g3 ho)
        · have := h5 i (by omega) hi2 x hx hb ho
          rw [hc1] at this
          exact this
theorem nrF_near (h : rep B wy D) (hB : B < 500000) : ∀ (q c : Nat) (b : Int32), c + q = 48 → ((b < 0 ∧ ∀ x, x < c → ¬ su.getD x 0 = 0 ∨ D x = 1000000) ∨ ∃ x, x < 48 ∧ b = nI x ∧ su.getD x 0 = 0 ∧ D x < 1000000 ∧ ∀ y, y < c → su.getD y 0 = 0 → D x ≤ D y) → ((nrF wy su q c b < 0 ∧ ∀ x, x < 48 → ¬ su.getD x 0 = 0 ∨ D x = 1000000) ∨ ∃ x, x < 48 ∧ nrF wy su q c b = nI x ∧ su.getD x 0 = 0 ∧ D x < 1000000 ∧ ∀ y, y < 48 → su.getD y 0 = 0 → D x ≤ D y)
  | 0, c, b, hc, hb => by
    obtain rfl : c = 48 := by omega
    exact hb
  | q + 1, c, b, hc, hb => by
    refine nrF_near h hB q (c + 1) (nr1 wy su b c) (by omega) ?_
    have hi : D c = 1000000 ∨ D c < 1000000 := by
      rcases h.2 c (by omega) with z | z
      · exact Or.inl z.1
      · exact Or.inr (by omega)
    unfold nr1
    by_cases h1 : su.getD c 0 = 0
    · rw [if_neg (fun z => z h1)]
      by_cases h2 : wy.getD c 0 < 0
      · rw [if_pos h2]
        have hI : D c = 1000000 := by
          rcases hi with z | z
          · exact z
          · exact absurd h2 ((h.fin (by omega) (by omega)).mpr z)
        rcases hb with ⟨z1, z2⟩ | ⟨x, hx, z1, z2, z3, z4⟩
        · exact Or.inl ⟨z1, fun x hx => by
            by_cases e : x = c
            · rw [e]
              exact Or.inr hI
            · exact z2 x (by omega)⟩
        · exact Or.inr ⟨x, hx, z1, z2, z3, fun y hy hs => by
            by_cases e : y = c
            · rw [e, hI]
              omega
            · exact z4 y (by omega) hs⟩
      · rw [if_neg h2]
        have hF : D c < 1000000 := (h.fin (by omega) (by omega)).mp h2
        rcases hb with ⟨z1, z2⟩ | ⟨x, hx, z1, z2, z3, z4⟩
        · rw [if_pos z1]
          exact Or.inr ⟨c, by omega, rfl, h1, hF, fun y hy hs => by
            by_cases e : y = c
            · rw [e]
              exact Nat.le_refl _
            · rcases z2 y (by omega) with u | u
              · exact absurd hs u
              · rw [u]
                omega⟩
        · rw [z1, if_neg (nI_pos (by omega)), nI_clamp (by omega), (h.at hx z3).2, (h.at (by omega) hF).2]
          have b1 := (h.at hx z3).1
          have b2 := (h.at (c := c) (by omega) hF).1
          by_cases hle : D x ≤ D c
          · rw [if_pos ((nI_leI (by omega) (by omega)).mpr hle)]
            exact Or.inr ⟨x, hx, rfl, z2, z3, fun y hy hs => by
              by_cases e : y = c
              · rw [e]
                exact hle
              · exact z4 y (by omega) hs⟩
          · rw [if_neg (fun z => hle ((nI_leI (by omega) (by omega)).mp z))]
            exact Or.inr ⟨c, by omega, rfl, h1, hF, fun y hy hs => by
              by_cases e : y = c
              · rw [e]
                exact Nat.le_refl _
              · have := z4 y (by omega) hs
                omega⟩
    · rw [if_pos h1]
      rcases hb with ⟨z1, z2⟩ | ⟨x, hx, z1, z2, z3, z4⟩
      · exact Or.inl ⟨z1, fun x hx => by
          by_cases e : x = c
          · rw [e]
            exact Or.inl h1
          · exact z2 x (by omega)⟩
      · exact Or.inr ⟨x, hx, z1, z2, z3, fun y hy hs => by
          by_cases e : y = c
          · rw [e] at hs
            exact absurd hs h1
          · exact z4 y (by omega) hs⟩
end SXDJ
section SXDK
variable {kf : Nat → Int32} {k : Nat → Nat} {op : Nat → Bool} {src : Nat}
theorem wkG_slt (hkf : kfr kf k op) (hsrc : src < 48) : ∀ (f : Nat) (b : Int32) (wy su : List Int32) (M : Nat) (D : Nat → Nat), M + 9 * f ≤ 2000 → su.length = 48 → su.count 0 < f → rep (M + 9) wy D → D src = 0 → (∀ c, c < 48 → ¬ su.getD c 0 = 0 → D c ≤ M) → (∀ c, c < 48 → su.getD c 0 = 0 → M ≤ D c) → (∀ c, c < 48 → ¬ su.getD c 0 = 0 → ∀ n, n < 48 → nb c n → op n = true → D n ≤ D c + k n) → (∀ c, c < 48 → c ≠ src → D c < 1000000 → op c = true ∧ ∃ m, m < 48 ∧ ¬ su.getD m 0 = 0 ∧ nb m c ∧ D m + k c ≤ D c) → ((b < 0 ∧ ∀ x, x < 48 → ¬ su.getD x 0 = 0 ∨ D x = 1000000) ∨ ∃ x, x < 48 ∧ b = nI x ∧ su.getD x 0 = 0 ∧ D x < 1000000 ∧ ∀ y, y < 48 → su.getD y 0 = 0 → D x ≤ D y) → ∃ D2, rep 3000 (wkG kf f b wy su).1 D2 ∧ slt k op src D2
  | 0, _, _, _, _, _, _, _, hf, _, _, _, _, _, _, _ => absurd hf (by omega)
  | f + 1, b, wy, su, M, D, hM, hs, hf, hr, h0, hc1, hd1, he1, hf1, hb => by
    rw [wkG]
    rcases hb with ⟨h1, h2⟩ | ⟨c, hc, rfl, hsu, hfin, hmin⟩
    · rw [if_pos h1]
      refine ⟨D, hr.up (by omega), h0, fun c hc => ?_, fun c n hc hn hb ho => ?_, fun c hc hne hfin => ?_⟩
      · rcases hr.2 c hc with z | z
        · omega
        · omega
      · rcases h2 c hc with z | z
        · exact he1 c hc z n hn hb ho
        · rcases hr.2 n hn with y | y
          · omega
          · omega
      · obtain ⟨g1, m, hm, _, hb, q⟩ := hf1 c hc hne hfin
        exact ⟨g1, m, hm, hb, q⟩
    · rw [if_neg (nI_pos (by omega)), nI_clamp (by omega)]
      have hcM := (hr.at hc hfin).1
      have hMc := hd1 c hc hsu
      obtain ⟨D2, g1, g2, g3, g4, g5⟩ := wrG_rep (B := D c + 9) hkf (by omega) hc 4 0 wy D rfl (hr.up (by omega)) hfin (Nat.le_refl _)
      have hsu2 : ∀ x, x < 48 → ¬ (su.set c 1).getD x 0 = 0 → x = c ∨ ¬ su.getD x 0 = 0 := by
        intro x hx h
        rw [gd_set (by omega)] at h
        by_cases e : x = c
        · exact Or.inl e
        · rw [if_neg e] at h
          exact Or.inr h
      have hsu3 : ∀ x, x < 48 → (su.set c 1).getD x 0 = 0 → x ≠ c ∧ su.getD x 0 = 0 := by
        intro x hx h
        rw [gd_set (by omega)] at h
        by_cases e : x = c
        · rw [if_pos e] at h
          exact absurd h (by decide)
        · rw [if_neg e] at h
          exact ⟨e, h⟩
      have hsu4 : ∀ x, x < 48 → ¬ su.getD x 0 = 0 → ¬ (su.set c 1).getD x 0 = 0 := by
        intro x hx h
        rw [gd_set (by omega)]
        split
        · decide
        · exact h
      have hkeep : ∀ x, x < 48 → ¬ su.getD x 0 = 0 → D2 x = D x := by
        intro x hx h
        rcases g4 x hx with z | ⟨_, z2, z3⟩
        · exact z
        · have y1 := hc1 x hx h
          have y2 := g3 x hx
          rcases hkf x hx with ⟨u, _⟩ | ⟨_, u1, _, _⟩
          · exact absurd (u.symm.trans z2) (by decide)
          · omega
      refine wkG_slt hkf hsrc f _ _ _ (D c) D2 (by omega) (sx_ls hs) ?_ g1 ?_ ?_ ?_ ?_ ?_ (nrF_near (B := D c + 9) g1 (by omega) 48 0 (-1) rfl (Or.inl ⟨by decide, fun x hx => absurd hx (by omega)⟩))
      · have h5 := cnt_pos (su := su) (c := c) (by omega) hsu
        have h6 : (su.set c 1).count 0 ≤ su.count 0 - 1 := cnt_set (f := su.count 0 - 1) (by omega) hsu (by omega)
        omega
      · have := g3 src hsrc
        omega
      · intro x hx h
        rcases hsu2 x hx h with rfl | h
        · omega
        · have := hkeep x hx h
          have := hc1 x hx h
          omega
      · intro x hx h
        obtain ⟨e1, e2⟩ := hsu3 x hx h
        rcases g4 x hx with z | ⟨_, z2, z3⟩
        · rw [z]
          exact hmin x hx e2
        · omega
      · intro x hx h n hn hb ho
        rcases hsu2 x hx h with rfl | h
        · obtain ⟨j, hj, e⟩ := hb
          have := g5 j (Nat.zero_le _) hj n hn e ho
          omega
        · have y1 := he1 x hx h n hn hb ho
          have y2 := hkeep x hx h
          have y3 := g3 n hn
          omega
      · intro x hx hne hfx
        rcases g4 x hx with z | ⟨z1, z2, z3⟩
        · obtain ⟨y1, m, hm, hsm, hbm, q⟩ := hf1 x hx hne (by omega)
          have := g3 m hm
          exact ⟨y1, m, hm, hsu4 m hm hsm, hbm, by omega⟩
        · exact ⟨z2, c, hc, by rw [gd_set (by omega), if_pos rfl]; decide, z1, by omega⟩
def wlG (kf : Nat → Int32) (src : Nat) (wy0 su0 : List Int32) : List Int32 × List Int32 := wkG kf 49 (nI src) (wiF src 48 0 wy0) (flF 0 48 0 su0)
theorem wlG_slt {wy0 su0 : List Int32} (hkf : kfr kf k op) (hsrc : src < 48) (h1 : wy0.length = 48) (h2 : su0.length = 48) : ∃ D, rep 3000 (wlG kf src wy0 su0).1 D ∧ slt k op src D := by
  unfold wlG
  have hw : ∀ c, c < 48 → (wiF src 48 0 wy0).getD c 0 = if nI c = nI src then 0 else -1 := fun c hc => (wiF_at 48 0 wy0 (by omega) c (by omega)).1 (Nat.zero_le _)
  have hsz : ∀ c, c < 48 → (flF 0 48 0 su0).getD c 0 = 0 := fun c hc => (flF_at 48 0 su0 (by omega) c (by omega)).1 (Nat.zero_le _)
  refine wkG_slt hkf hsrc 49 (nI src) _ _ 0 (fun c => if c = src then 0 else 1000000) (by decide) (flF_len 48 0 _ h2) ?_ ⟨wiF_len 48 0 _ h1, fun c hc => ?_⟩ (if_pos rfl) ?_ ?_ ?_ ?_ ?_
  · exact Nat.lt_succ_of_le (Nat.le_trans List.count_le_length (by rw [flF_len 48 0 _ h2]; exact Nat.le_refl _))
  · rw [hw c hc]
    by_cases e : c = src
    · subst e
      exact Or.inr ⟨by simp only [if_true]; omega, by simp only [if_true]; rfl⟩
    · exact Or.inl ⟨by simp only [if_neg e], by rw [if_neg (fun z => e ((nI_eq (by omega) (by omega)).mp z))]⟩
  · intro c hc h
    exact absurd (hsz c hc) h
  · intro c hc _
    exact Nat.zero_le _
  · intro c hc h
    exact absurd (hsz c hc) h
  · intro c hc hne hfin
    rw [if_neg hne] at hfin
    omega
  · refine Or.inr ⟨src, hsrc, rfl, hsz src hsrc, ?_, fun y hy _ => ?_⟩
    · rw [if_pos rfl]
      decide
    · rw [if_pos rfl]
      exact Nat.zero_le _
end SXDK
