-- the class: by sweeps
def cnt (f : Nat → Bool) : Nat → Nat
  | 0 => 0
  | n + 1 => cnt f n + (if f n = true then 1 else 0)
theorem cnt_le {f g : Nat → Bool} : ∀ n, (∀ x, x < n → f x = true → g x = true) → cnt f n ≤ cnt g n
  | 0, _ => Nat.le_refl _
  | n + 1, h => by
    have h1 := cnt_le n (fun x hx => h x (by omega))
    unfold cnt
    by_cases e : f n = true
    · rw [if_pos e, if_pos (h n (by omega) e)]
      omega
    · rw [if_neg e]
      omega
theorem cnt_lt {f g : Nat → Bool} {y : Nat} (h1 : g y = true) (h2 : ¬ f y = true) : ∀ n, y < n → (∀ x, x < n → f x = true → g x = true) → cnt f n < cnt g n
  | 0, hy, _ => absurd hy (by omega)
  | n + 1, hy, h => by
    unfold cnt
    by_cases e : y = n
    · subst e
      have h3 := cnt_le (f := f) (g := g) y (fun x hx => h x (by omega))
      rw [if_neg h2, if_pos h1]
      omega
    · have h3 := cnt_lt h1 h2 n (by omega) (fun x hx => h x (by omega))
      by_cases e2 : f n = true
      · rw [if_pos e2, if_pos (h n (by omega) e2)]
        omega
      · rw [if_neg e2]
        omega
theorem cnt_0 {f : Nat → Bool} : ∀ n, (∀ x, x < n → ¬ f x = true) → cnt f n = 0
  | 0, _ => rfl
  | n + 1, h => by
    unfold cnt
    rw [cnt_0 n (fun x hx => h x (by omega)), if_neg (h n (by omega))]
theorem cnt_t : ∀ n, cnt (fun _ => true) n = n
  | 0 => rfl
  | n + 1 => by
    unfold cnt
    rw [cnt_t n, if_pos rfl]
def rank (D : Nat → Nat) (c : Nat) : Nat := cnt (fun x => decide (D x < D c)) 48
theorem rank_le {D : Nat → Nat} {c : Nat} (hc : c < 48) : rank D c ≤ 47 := by
  have := cnt_lt (f := fun x => decide (D x < D c)) (g := fun _ => true) (y := c) rfl (by simp) 48 hc (fun _ _ _ => rfl)
  rw [cnt_t] at this
  unfold rank
  omega
theorem rank_lt {D : Nat → Nat} {c n : Nat} (hn : n < 48) (h : D n < D c) : rank D n < rank D c := cnt_lt (y := n) (decide_eq_true h) (by simp) 48 hn (fun x _ hx => decide_eq_true (Nat.lt_trans (of_decide_eq_true hx) h))
def repC (s : List Int32) (V : Nat → Nat) : Prop := s.length = 48 ∧ ∀ c, c < 48 → V c ≤ 1000000 ∧ s.getD c 0 = nI (V c)
section SXBF
variable {k : Nat → Nat} {op : Nat → Bool} {src : Nat} {D V : Nat → Nat} {cs s : List Int32}
theorem repC.put {n v : Nat} (h : repC s V) (hn : n < 48) (hv : v ≤ 1000000) : repC (s.set n (nI v)) (updN V n v) := by
  refine ⟨by rw [List.length_set]; exact h.1, fun c hc => ?_⟩
  rw [gd_set (by rw [h.1]; exact hn)]
  unfold updN
  by_cases e : c = n
  · rw [if_pos e, if_pos e]
    exact ⟨hv, rfl⟩
  · rw [if_neg e, if_neg e]
    exact h.2 c hc
theorem lb_rep {c : Nat} (h : repC s V) (hc : c < 48) : ∀ (q j m : Nat), j + q = 4 → m ≤ 1000000 → ∃ m2, lbF s c q j (nI m) = nI m2 ∧ m2 ≤ m ∧ (m2 = m ∨ ∃ n, n < 48 ∧ nb c n ∧ m2 = V n) ∧ ∀ i, j ≤ i → i < 4 → ∀ n, n < 48 → bsd c i = nI n → m2 ≤ V n
  | 0, j, m, hj, hm => ⟨m, rfl, Nat.le_refl _, Or.inl rfl, fun i h1 h2 => by omega⟩
  | q + 1, j, m, hj, hm => by
    show ∃ m2, lbF s c q (j + 1) (lb1 s (bsd c j) (nI m)) = nI m2 ∧ _
    rcases bsd_nat c hc j (by omega) with e | ⟨hn, e⟩
    · rw [show lb1 s (bsd c j) (nI m) = nI m from if_pos e]
      obtain ⟨m2, h1, h2, h3, h4⟩ := lb_rep h hc q (j + 1) m (by omega) hm
      refine ⟨m2, h1, h2, h3, fun i hi1 hi2 n hn hb => ?_⟩
      by_cases ei : i = j
      · rw [ei, e] at hb
        exact absurd hb.symm (nI_ne1 (by omega))
      · exact h4 i (by omega) hi2 n hn hb
    · have hv := h.2 _ hn
      have hne : ¬ bsd c j = -1 := by
        rw [e]
        exact nI_ne1 (by omega)
      have last : ∀ i n, i = j → n < 48 → bsd c i = nI n → n = (bsd c j).toNatClampNeg := by
        intro i n ei hn2 hb
        rw [← ei, hb, nI_clamp (by omega)]
      unfold lb1
      rw [if_neg hne, hv.2]
      by_cases hle : m ≤ V (bsd c j).toNatClampNeg
      · rw [if_pos ((nI_leI (by omega) (by omega)).mpr hle)]
        obtain ⟨m2, h1, h2, h3, h4⟩ := lb_rep h hc q (j + 1) m (by omega) hm
        refine ⟨m2, h1, h2, h3, fun i hi1 hi2 n hn2 hb => ?_⟩
        by_cases ei : i = j
        · rw [last i n ei hn2 hb]
          omega
        · exact h4 i (by omega) hi2 n hn2 hb
      · rw [if_neg (fun z => hle ((nI_leI (by omega) (by omega)).mp z))]
        obtain ⟨m2, h1, h2, h3, h4⟩ := lb_rep h hc q (j + 1) (V (bsd c j).toNatClampNeg) (by omega) hv.1
        refine ⟨m2, h1, by omega, ?_, fun i hi1 hi2 n hn2 hb => ?_⟩
        · rcases h3 with z | z
          · exact Or.inr ⟨_, hn, ⟨j, by omega, e⟩, z⟩
          · exact Or.inr z
        · by_cases ei : i = j
          · rw [last i n ei hn2 hb]
            exact h2
          · exact h4 i (by omega) hi2 n hn2 hb
theorem rx_rep {c : Nat} {fl : Int32} (hcs : kfr (fun n => cs.getD n 0) k op) (h : repC s V) (hc : c < 48) : ∃ V2, repC (rx cs (s, fl) c).1 V2 ∧ (∀ x, x ≠ c → V2 x = V x) ∧ V2 c ≤ V c ∧ (op c = true → ∀ n, n < 48 → nb c n → V2 c ≤ V n + k c) ∧ (V2 c = V c ∨ (op c = true ∧ ∃ n, n < 48 ∧ nb c n ∧ V2 c = V n + k c)) ∧ ((rx cs (s, fl) c).2 = 0 → fl = 0 ∧ V2 c = V c) := by
  unfold rx
  rcases hcs c hc with ⟨ho, hk⟩ | ⟨ho, hk1, hk9, hk⟩
  · rw [if_pos hk]
    exact ⟨V, h, fun _ _ => rfl, Nat.le_refl _, fun z => absurd (z.symm.trans ho) (by decide), Or.inl rfl, fun z => ⟨z, rfl⟩⟩
  · replace hk : cs.getD c 0 = nI (k c) := hk
    obtain ⟨m2, h1, h2, h3, h4⟩ := lb_rep h hc 4 0 1000000 rfl (Nat.le_refl _)
    replace h1 : lbF s c 4 0 1000000 = nI m2 := h1
    have hv := h.2 c hc
    rw [hk, if_neg (nI_ne1 (by omega)), h1, nI_add]
    simp only
    rw [hv.2]
    by_cases hle : V c ≤ m2 + k c
    · rw [if_pos ((nI_leI (by omega) (by omega)).mpr hle)]
      refine ⟨V, h, fun _ _ => rfl, Nat.le_refl _, fun _ n hn hb => ?_, Or.inl rfl, fun z => ⟨z, rfl⟩⟩
      obtain ⟨j, hj, e⟩ := hb
      have := h4 j (Nat.zero_le _) hj n hn e
      omega
    · rw [if_neg (fun z => hle ((nI_leI (by omega) (by omega)).mp z))]
      refine ⟨updN V c (m2 + k c), h.put hc (by omega), fun x hx => by unfold updN; rw [if_neg hx], ?_, ?_, ?_, fun z => absurd (show (1 : Int32) = 0 from z) (by decide)⟩
      · unfold updN
        rw [if_pos rfl]
        omega
      · intro _ n hn hb
        obtain ⟨j, hj, e⟩ := hb
        have := h4 j (Nat.zero_le _) hj n hn e
        unfold updN
        rw [if_pos rfl]
        omega
      · rcases h3 with z | ⟨n, hn, hb, z⟩
        · omega
        · exact Or.inr ⟨ho, n, hn, hb, by unfold updN; rw [if_pos rfl, z]⟩
theorem sw_rep {e : Bool} (hcs : kfr (fun n => cs.getD n 0) k op) (hR : rlx k op D) : ∀ (q i : Nat) (s : List Int32) (fl : Int32) (V : Nat → Nat), i + q = 48 → repC s V → (∀ x, x < 48 → D x ≤ V x) → ∃ V2, repC (swF cs e q i (s, fl)).1 V2 ∧ (∀ x, x < 48 → V2 x ≤ V x) ∧ (∀ x, x < 48 → D x ≤ V2 x) ∧ (∀ i2, i ≤ i2 → i2 < 48 → op (cond e i2 (47 - i2)) = true → ∀ n, n < 48 → nb (cond e i2 (47 - i2)) n → V2 (cond e i2 (47 - i2)) ≤ V n + k (cond e i2 (47 - i2))) ∧ ((swF cs e q i (s, fl)).2 = 0 → fl = 0 ∧ ∀ x, x < 48 → V2 x = V x)
  | 0, i, s, fl, V, hi, h, hD => ⟨V, h, fun _ _ => Nat.le_refl _, hD, fun i2 h1 h2 => by omega, fun z => ⟨z, fun _ _ => rfl⟩⟩
  | q + 1, i, s, fl, V, hi, h, hD => by
    have hc : cond e i (47 - i) < 48 := by
      cases e
      · show 47 - i < 48
        omega
      · show i < 48
        omega
    obtain ⟨V1, g1, g2, g3, g4, g5, g6⟩ := rx_rep (fl := fl) hcs h hc
    have hD1 : ∀ x, x < 48 → D x ≤ V1 x := by
      intro x hx
      by_cases ex : x = cond e i (47 - i)
      · rw [ex]
        rcases g5 with z | ⟨ho, n, hn, hb, z⟩
        · rw [z]
          exact hD _ hc
        · have y1 := hR n _ hn hc (hb.sym hc hn) ho
          have y2 := hD n hn
          omega
      · rw [g2 x ex]
        exact hD x hx
    have hle : ∀ x, x < 48 → V1 x ≤ V x := by
      intro x hx
      by_cases ex : x = cond e i (47 - i)
      · rw [ex]
        exact g3
      · rw [g2 x ex]
        exact Nat.le_refl _
    obtain ⟨V2, h1, h2, h3, h4, h5⟩ := sw_rep hcs hR q (i + 1) (rx cs (s, fl) (cond e i (47 - i))).1 (rx cs (s, fl) (cond e i (47 - i))).2 V1 (by omega) g1 hD1
    refine ⟨V2, h1, fun x hx => Nat.le_trans (h2 x hx) (hle x hx), h3, fun i2 hi1 hi2 ho n hn hb => ?_, fun z => ?_⟩
    · by_cases ei : i2 = i
      · rw [ei] at ho hb ⊢
        have := h2 _ hc
        have := g4 ho n hn hb
        omega
      · have := h4 i2 (by omega) hi2 ho n hn hb
        have := hle n hn
        omega
    · obtain ⟨z1, z2⟩ := h5 z
      obtain ⟨z3, z4⟩ := g6 z1
      refine ⟨z3, fun x hx => ?_⟩
      rw [z2 x hx]
      by_cases ex : x = cond e i (47 - i)
      · rw [ex]
        exact z4
      · exact g2 x ex
theorem cell_at (e : Bool) {c : Nat} (hc : c < 48) : ∃ i, i < 48 ∧ cond e i (47 - i) = c := by
  cases e
  · exact ⟨47 - c, by omega, by show 47 - (47 - c) = c; omega⟩
  · exact ⟨c, hc, rfl⟩
theorem rd_slt (hcs : kfr (fun n => cs.getD n 0) k op) (hsrc : src < 48) (hS : slt k op src D) : ∀ (q r : Nat) (p : List Int32 × Int32) (V : Nat → Nat), r + q = 48 → repC p.1 V → (∀ x, x < 48 → D x ≤ V x) → (∀ c, c < 48 → rank D c ≤ r → V c = D c) → (p.2 = 0 → rlx k op V) → ∀ c, c < 48 → (rdF cs q r p).getD c 0 = nI (D c)
  | 0, r, p, V, hr, h, hD, hk, hz, c, hc => by
    show p.1.getD c 0 = nI (D c)
    rw [(h.2 c hc).2, hk c hc (by have := rank_le (D := D) hc; omega)]
  | q + 1, r, p, V, hr, h, hD, hk, hz, c, hc => by
    have hk1 : ∀ x, x < 48 → op x = true → 1 ≤ k x := by
      intro x hx ho
      rcases hcs x hx with ⟨u, _⟩ | ⟨_, u, _⟩
      · exact absurd (u.symm.trans ho) (by decide)
      · exact u
    unfold rdF
    split
    · rename_i e
      have hle := slt_le hk1 (hz e) (G := D) (fun x hx => by
        by_cases ex : x = src
        · refine Or.inl ?_
          rw [ex, hk src hsrc ?_]
          · exact Nat.le_refl _
          · have : rank D src = 0 := cnt_0 48 (fun x _ => by rw [hS.1]; simp)
            omega
        · by_cases hf : D x < 1000000
          · exact Or.inr (hS.2.2.2 x hx ex hf)
          · have := (h.2 x hx).1
            exact Or.inl (by omega)) c hc
      rw [(h.2 c hc).2, Nat.le_antisymm hle (hD c hc)]
    · obtain ⟨V2, h1, h2, h3, h4, h5⟩ := sw_rep (e := evn r) hcs hS.2.2.1 48 0 p.1 0 V rfl h hD
      have hall : ∀ x, x < 48 → op x = true → ∀ n, n < 48 → nb x n → V2 x ≤ V n + k x := by
        intro x hx ho n hn hb
        obtain ⟨i, hi, ei⟩ := cell_at (evn r) hx
        have := h4 i (Nat.zero_le _) hi
        rw [ei] at this
        exact this ho n hn hb
      refine rd_slt hcs hsrc hS q (r + 1) _ V2 (by omega) h1 h3 (fun x hx hrk => ?_) (fun z => ?_) c hc
      · have a1 := h3 x hx
        have a2 := h2 x hx
        by_cases hle : rank D x ≤ r
        · have := hk x hx hle
          omega
        · by_cases hf : D x < 1000000
          · by_cases ex : x = src
            · have : rank D src = 0 := cnt_0 48 (fun x _ => by rw [hS.1]; simp)
              rw [ex] at hle
              omega
            · obtain ⟨ho, n, hn, hb, q2⟩ := hS.2.2.2 x hx ex hf
              have b1 := hk1 x hx ho
              have b2 := rank_lt (D := D) (c := x) hn (by omega)
              have b3 := hk n hn (by omega)
              have b4 := hall x hx ho n hn (hb.sym hn hx)
              omega
          · have := (h1.2 x hx).1
            omega
      · obtain ⟨_, z2⟩ := h5 z
        intro x n hx hn hb ho
        have := hall n hn ho x hx (hb.sym hx hn)
        rw [← z2 x hx] at this
        exact this
theorem spF_slt {l : List Int32} (hcs : kfr (fun n => cs.getD n 0) k op) (hsrc : src < 48) (hS : slt k op src D) (hl : l.length = 48) : ∀ c, c < 48 → (spF cs src l).getD c 0 = nI (D c) := by
  have hfl : ∀ c, c < 48 → (flF 1000000 48 0 l).getD c 0 = 1000000 := fun c hc => (flF_at 48 0 l (by omega) c (by omega)).1 (Nat.zero_le _)
  have hlen : (flF 1000000 48 0 l).length = 48 := flF_len 48 0 l hl
  have hk1 : ∀ x, x < 48 → op x = true → 1 ≤ k x := by
    intro x hx ho
    rcases hcs x hx with ⟨u, _⟩ | ⟨_, u, _⟩
    · exact absurd (u.symm.trans ho) (by decide)
    · exact u
  unfold spF
  refine rd_slt hcs hsrc hS 48 0 _ (fun c => if c = src then 0 else 1000000) rfl ⟨by rw [List.length_set]; exact hlen, fun c hc => ?_⟩ (fun x hx => ?_) (fun c hc hr => ?_) (fun z => absurd (show (1 : Int32) = 0 from z) (by decide))
  · rw [gd_set (by rw [hlen]; exact hsrc)]
    by_cases e : c = src
    · simp only [if_pos e]
      exact ⟨by omega, rfl⟩
    · simp only [if_neg e]
      exact ⟨Nat.le_refl _, hfl c hc⟩
  · by_cases e : x = src
    · simp only [if_pos e]
      rw [e, hS.1]
      exact Nat.le_refl _
    · simp only [if_neg e]
      exact hS.2.1 x hx
  · by_cases e : c = src
    · simp only [if_pos e]
      rw [e, hS.1]
    · exfalso
      have hpos : D src < D c := by
        rw [hS.1]
        by_cases hf : D c < 1000000
        · obtain ⟨ho, n, hn, hb, q2⟩ := hS.2.2.2 c hc e hf
          have := hk1 c hc ho
          omega
        · omega
      have := rank_lt (D := D) hsrc hpos
      omega
end SXBF
/-- the least sums -/
def dst (kf : Nat → Int32) (src c : Nat) : Nat := if (wlG kf src (List.replicate 48 0) (List.replicate 48 0)).1.getD c 0 < 0 then 1000000 else iN ((wlG kf src (List.replicate 48 0) (List.replicate 48 0)).1.getD c 0)
section SXDS
variable {kf : Nat → Int32} {k : Nat → Nat} {op : Nat → Bool} {src : Nat}
theorem slt.congr {D E : Nat → Nat} (hsrc : src < 48) (h : slt k op src D) (e : ∀ c, c < 48 → E c = D c) : slt k op src E := by
  refine ⟨by rw [e src hsrc]; exact h.1, fun c hc => by rw [e c hc]; exact h.2.1 c hc, fun c n hc hn hb ho => by rw [e c hc, e n hn]; exact h.2.2.1 c n hc hn hb ho, fun c hc hne hf => ?_⟩
  rw [e c hc] at hf
  obtain ⟨h1, n, hn, hb, q⟩ := h.2.2.2 c hc hne hf
  exact ⟨h1, n, hn, hb, by rw [e c hc, e n hn]; exact q⟩
theorem rep_val {B : Nat} {wy : List Int32} {D : Nat → Nat} {c : Nat} (h : rep B wy D) (hB : B < 1000000) (hc : c < 48) : (if wy.getD c 0 < 0 then 1000000 else iN (wy.getD c 0)) = D c := by
  rcases h.2 c hc with ⟨q1, q2⟩ | ⟨q1, q2⟩
  · rw [q2, if_pos (by decide), q1]
  · rw [q2, if_neg (nI_pos (by omega)), iN_n (by omega)]
theorem dst_slt (hkf : kfr kf k op) (hsrc : src < 48) : slt k op src (dst kf src) := by
  obtain ⟨D, h1, h2⟩ := wlG_slt (wy0 := List.replicate 48 0) (su0 := List.replicate 48 0) hkf hsrc rfl rfl
  exact h2.congr hsrc (fun c hc => rep_val h1 (by decide) hc)
theorem kfr.k1 (hkf : kfr kf k op) : ∀ c, c < 48 → op c = true → 1 ≤ k c := by
  intro x hx ho
  rcases hkf x hx with ⟨u, _⟩ | ⟨_, u, _⟩
  · exact absurd (u.symm.trans ho) (by decide)
  · exact u
/-- the reference's row of ways -/
theorem wlG_dst {wy0 su0 : List Int32} (hkf : kfr kf k op) (hsrc : src < 48) (h1 : wy0.length = 48) (h2 : su0.length = 48) : rep 3000 (wlG kf src wy0 su0).1 (dst kf src) := by
  obtain ⟨D, g1, g2⟩ := wlG_slt hkf hsrc h1 h2
  have e := (dst_slt hkf hsrc).eq hkf.k1 g2
  refine ⟨g1.1, fun c hc => ?_⟩
  rw [e c hc]
  exact g1.2 c hc
/-- the class's row of sums -/
theorem spF_dst {cs l : List Int32} (hkf : kfr kf k op) (hcs : ∀ c, c < 48 → cs.getD c 0 = kf c) (hsrc : src < 48) (hl : l.length = 48) : ∀ c, c < 48 → (spF cs src l).getD c 0 = nI (dst kf src c) := spF_slt (k := k) (op := op) (fun n hn => by show (op n = false ∧ cs.getD n 0 = -1) ∨ (op n = true ∧ 1 ≤ k n ∧ k n ≤ 9 ∧ cs.getD n 0 = nI (k n)); rw [hcs n hn]; exact hkf n hn) hsrc (dst_slt hkf hsrc) hl
end SXDS
-- FAR
/-- what sound loses, by the ground -/
def gk (g : List Int32) (c : Nat) : Int32 := crF (g.getD c 0)
def farN (g : List Int32) (f t : Nat) : Nat := dst (gk g) f t
theorem crF_iN (x : Int32) : crF x = nI (iN (crF x)) ∧ 1 ≤ iN (crF x) ∧ iN (crF x) ≤ 4 := by
  obtain ⟨j, h1, h2, e⟩ := crF_n x
  rw [e, iN_n (by omega)]
  exact ⟨rfl, h1, h2⟩
theorem gk_kfr (g : List Int32) : kfr (gk g) (fun c => iN (gk g c)) all1 := fun n _ => Or.inr ⟨rfl, (crF_iN _).2.1, by have := (crF_iN (g.getD n 0)).2.2; show iN (crF (g.getD n 0)) ≤ 9; omega, (crF_iN _).1⟩
theorem crK_kfr (s : List Int32) : kfr (crK s) (fun c => iN (crK s c)) all1 := fun n _ => Or.inr ⟨rfl, (crF_iN _).2.1, by have := (crF_iN (s.getD (7 + n) 0)).2.2; show iN (crF (s.getD (7 + n) 0)) ≤ 9; omega, (crF_iN _).1⟩
theorem dst_congr {kf kf2 : Nat → Int32} {k k2 : Nat → Nat} {op op2 : Nat → Bool} {src : Nat} (h1 : kfr kf k op) (h2 : kfr kf2 k2 op2) (hsrc : src < 48) (e : ∀ c, c < 48 → kf c = kf2 c) : ∀ c, c < 48 → dst kf src c = dst kf2 src c := by
  have h3 : kfr kf2 k op := fun n hn => by rw [← e n hn]; exact h1 n hn
  exact (dst_slt h1 hsrc).eq h1.k1 (dst_slt h3 hsrc)
theorem wlF_far {s wy0 su0 g : List Int32} {src : Nat} (hsrc : src < 48) (h1 : wy0.length = 48) (h2 : su0.length = 48) (e : ∀ c, c < 48 → g.getD c 0 = s.getD (7 + c) 0) : ∀ c, c < 48 → (wlF s src wy0 su0).1.getD c 0 = nI (farN g src c) ∧ farN g src c ≤ 3000 := by
  have hG : wlF s src wy0 su0 = wlG (crK s) src wy0 su0 := wkF_G _ _ _ _
  have hd := wlG_dst (crK_kfr s) hsrc h1 h2
  rw [← hG] at hd
  have hne := (wlF_inv (s := s) hsrc h1 h2).2
  have hc2 := dst_congr (gk_kfr g) (crK_kfr s) hsrc (fun c hc => by unfold gk crK; rw [e c hc])
  intro c hc
  unfold farN
  rw [hc2 c hc]
  rcases hd.2 c hc with ⟨_, q⟩ | q
  · exact absurd q (hne c hc)
  · exact ⟨q.2, q.1⟩
theorem far_fin (g : List Int32) {f t : Nat} (hf : f < 48) (ht : t < 48) : farN g f t ≤ 3000 := (wlF_far (s := List.replicate 7 0 ++ g) (wy0 := List.replicate 48 0) (su0 := List.replicate 48 0) (g := g) hf rfl rfl (fun c hc => by
  rw [List.getD_eq_getElem?_getD, List.getD_eq_getElem?_getD, List.getElem?_append_right (by rw [List.length_replicate]; omega), List.length_replicate, Nat.add_sub_cancel_left]) t ht).2
theorem far_rev (g : List Int32) {f t : Nat} (hf : f < 48) (ht : t < 48) : farN g t f + iN (gk g t) = farN g f t + iN (gk g f) := slt_rev (k := fun c => iN (gk g c)) (D := fun t c => farN g t c) (fun t ht => dst_slt (gk_kfr g) ht) (fun t c h1 h2 => by have := far_fin g h1 h2; show farN g t c < 1000000; omega) (fun c hc => (crF_iN _).2.1) hf ht
theorem far_0 (g : List Int32) {f : Nat} (hf : f < 48) : farN g f f = 0 := (dst_slt (gk_kfr g) hf).1
theorem nI_back {a b c d : Nat} (h : a + b = d + c) : nI a + (nI b - nI c) = nI d := by
  rw [Int32.sub_eq_add_neg, ← Int32.add_assoc, nI_add, h, ← nI_add, Int32.add_assoc, Int32.add_right_neg, Int32.add_zero]
theorem adF_at {ls : List Int32} {t : Nat} : ∀ (q j : Nat) (l : List Int32), j + q = l.length → ∀ c, c < l.length → (j ≤ c → (adF ls t q j l).getD c 0 = l.getD c 0 + (ls.getD t 0 - ls.getD c 0)) ∧ (c < j → (adF ls t q j l).getD c 0 = l.getD c 0)
  | 0, j, l, h, c, hc => ⟨fun z => by omega, fun _ => rfl⟩
  | q + 1, j, l, h, c, hc => by
    have IH := adF_at (ls := ls) (t := t) q (j + 1) (l.set j (l.getD j 0 + (ls.getD t 0 - ls.getD j 0))) (by rw [List.length_set]; omega) c (by rw [List.length_set]; exact hc)
    refine ⟨fun z => ?_, fun z => ?_⟩
    · by_cases e : c = j
      · subst e
        show (adF ls t q (c + 1) (l.set c (l.getD c 0 + (ls.getD t 0 - ls.getD c 0)))).getD c 0 = _
        rw [IH.2 (by omega), gd_set hc, if_pos rfl]
      · show (adF ls t q (j + 1) (l.set j (l.getD j 0 + (ls.getD t 0 - ls.getD j 0)))).getD c 0 = _
        rw [IH.1 (by omega), gd_set (by omega), if_neg e]
    · show (adF ls t q (j + 1) (l.set j (l.getD j 0 + (ls.getD t 0 - ls.getD j 0)))).getD c 0 = l.getD c 0
      rw [IH.2 (by omega), gd_set (by omega), if_neg (by omega)]
/-- the class's row to a cell -/
theorem row_far {g ls row : List Int32} {t : Nat} (ht : t < 48) (hr : row.length = 48) (e : ∀ c, c < 48 → ls.getD c 0 = gk g c) : ∀ f, f < 48 → (adF ls t 48 0 (spF ls t row)).getD f 0 = nI (farN g f t) := by
  intro f hf
  have hl : (spF ls t row).length = 48 := spF_len hr
  rw [((adF_at (ls := ls) (t := t) 48 0 (spF ls t row) (by omega) f (by omega)).1 (Nat.zero_le _)), spF_dst (gk_kfr g) e ht hr f hf, e t ht, e f hf]
  have h1 : gk g t = nI (iN (gk g t)) := (crF_iN _).1
  have h2 : gk g f = nI (iN (gk g f)) := (crF_iN _).1
  rw [h1, h2]
  exact nI_back (far_rev g hf ht)
