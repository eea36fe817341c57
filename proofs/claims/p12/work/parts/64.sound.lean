-- by sound every cell is reached
theorem bsd_v : ∀ c, c < 48 → (8 ≤ c → bsd c 0 = nI (c - 8)) ∧ (c % 8 < 7 → bsd c 1 = nI (c + 1)) ∧ (c < 40 → bsd c 2 = nI (c + 8)) ∧ (0 < c % 8 → bsd c 3 = nI (c - 1)) := by decide +kernel
theorem bsd_self : ∀ c, c < 48 → ∀ j, j < 4 → bsd c j ≠ nI c := by decide +kernel
def clo (S : Nat → Prop) : Prop := ∀ c, c < 48 → S c → ∀ j, j < 4 → ∀ n, n < 48 → bsd c j = nI n → S n
theorem conn0 {S : Nat → Prop} (h : clo S) : ∀ (k c : Nat), c ≤ k → c < 48 → S c → S 0
  | 0, c, hk, _, hs => by
    obtain rfl : c = 0 := by omega
    exact hs
  | k + 1, c, hk, hc, hs => by
    by_cases h8 : 8 ≤ c
    · exact conn0 h k (c - 8) (by omega) (by omega) (h c hc hs 0 (by decide) (c - 8) (by omega) ((bsd_v c hc).1 h8))
    · by_cases h0 : c = 0
      · subst h0
        exact hs
      · exact conn0 h k (c - 1) (by omega) (by omega) (h c hc hs 3 (by decide) (c - 1) (by omega) ((bsd_v c hc).2.2.2 (by omega)))
theorem conn1 {S : Nat → Prop} (h : clo S) (h0 : S 0) : ∀ (k c : Nat), c ≤ k → c < 48 → S c
  | 0, c, hk, _ => by
    obtain rfl : c = 0 := by omega
    exact h0
  | k + 1, c, hk, hc => by
    by_cases hz : c = 0
    · subst hz
      exact h0
    · by_cases h8 : c % 8 = 0
      · have := conn1 h h0 k (c - 8) (by omega) (by omega)
        exact h (c - 8) (by omega) this 2 (by decide) c hc (by rw [(bsd_v (c - 8) (by omega)).2.2.1 (by omega)]; congr 1; omega)
      · have := conn1 h h0 k (c - 1) (by omega) (by omega)
        exact h (c - 1) (by omega) this 1 (by decide) c hc (by rw [(bsd_v (c - 1) (by omega)).2.1 (by omega)]; congr 1; omega)
theorem conn {S : Nat → Prop} {src : Nat} (h : clo S) (hsrc : src < 48) (hs : S src) : ∀ c, c < 48 → S c := fun c hc => conn1 h (conn0 h 48 src (by omega) hsrc hs) 48 c (by omega) hc
theorem crF_n (x : Int32) : ∃ j, 1 ≤ j ∧ j ≤ 4 ∧ crF x = nI j := by
  unfold crF
  split
  · exact ⟨2, by decide, by decide, rfl⟩
  · split
    · exact ⟨4, by decide, by decide, rfl⟩
    · exact ⟨1, by decide, by decide, rfl⟩
theorem gd_set {l : List Int32} {i : Nat} {v : Int32} (hi : i < l.length) (k : Nat) : (l.set i v).getD k 0 = if k = i then v else l.getD k 0 := by
  rw [List.getD_eq_getElem?_getD, List.getElem?_set]
  by_cases e : i = k
  · subst e
    rw [if_pos rfl, if_pos hi, if_pos rfl]
    rfl
  · rw [if_neg e, if_neg (Ne.symm e), ← List.getD_eq_getElem?_getD]
/-- the ways so far: none, or a sum not less than what going into the cell costs -/
def wA (s : List Int32) (src M : Nat) (wy : List Int32) : Prop := ∀ c, c < 48 → wy.getD c 0 = -1 ∨ ∃ v, v ≤ M ∧ wy.getD c 0 = nI v ∧ (c ≠ src → ∃ j, j ≤ v ∧ crF (s.getD (7 + c) 0) = nI j)
theorem wA.up {s wy : List Int32} {src M M2 : Nat} (h : wA s src M wy) (hm : M ≤ M2) : wA s src M2 wy := by
  intro c hc
  rcases h c hc with h1 | ⟨v, h1, h2, h3⟩
  · exact Or.inl h1
  · exact Or.inr ⟨v, by omega, h2, h3⟩
theorem wr1_inv {s wy : List Int32} {src M c v j : Nat} (hM : M < 2 ^ 20) (hl : wy.length = 48) (hA : wA s src (M + 4) wy) (hc : c < 48) (hv : wy.getD c 0 = nI v) (hvM : v ≤ M) (hj : j < 4) : wA s src (M + 4) (wr1 s c wy (bsd c j)) ∧ (wr1 s c wy (bsd c j)).getD c 0 = nI v ∧ (∀ x, x < 48 → wy.getD x 0 ≠ -1 → (wr1 s c wy (bsd c j)).getD x 0 ≠ -1) ∧ (∀ n, n < 48 → bsd c j = nI n → (wr1 s c wy (bsd c j)).getD n 0 ≠ -1) := by
  rcases bes_cases hc hj with hb | ⟨n, hn, hb⟩
  · have e : wr1 s c wy (bsd c j) = wy := by
      unfold wr1
      rw [if_pos (by rw [hb]; decide)]
    rw [e]
    exact ⟨hA, hv, fun _ _ h => h, fun n hn z => absurd (hb.symm.trans z).symm (nI_ne1 (by omega))⟩
  · have hne : n ≠ c := fun z => bsd_self c hc j hj (by rw [hb, z])
    obtain ⟨k, hk1, hk4, hk⟩ := crF_n (s.getD (7 + n) 0)
    have hsum : nI v + nI k = nI (v + k) := nI_add v k
    have eq : wr1 s c wy (bsd c j) = if wy.getD n 0 < 0 then wy.set n (nI (v + k)) else if wy.getD n 0 ≤ nI (v + k) then wy else wy.set n (nI (v + k)) := by
      unfold wr1
      rw [if_neg (by rw [hb]; exact nI_pos (by omega)), hb, nI_clamp (by omega), hv, hk, hsum]
    have hset : wA s src (M + 4) (wy.set n (nI (v + k))) ∧ (wy.set n (nI (v + k))).getD c 0 = nI v ∧ (∀ x, x < 48 → wy.getD x 0 ≠ -1 → (wy.set n (nI (v + k))).getD x 0 ≠ -1) ∧ (∀ m, m < 48 → bsd c j = nI m → (wy.set n (nI (v + k))).getD m 0 ≠ -1) := by
      refine ⟨fun x hx => ?_, ?_, fun x hx h => ?_, fun m hm z => ?_⟩
      · rw [gd_set (by omega)]
        split
        · rename_i e
          subst e
          exact Or.inr ⟨v + k, by omega, rfl, fun _ => ⟨k, by omega, hk⟩⟩
        · exact hA x hx
      · rw [gd_set (by omega), if_neg (Ne.symm hne)]
        exact hv
      · rw [gd_set (by omega)]
        split
        · exact nI_ne1 (by omega)
        · exact h
      · obtain rfl : n = m := (nI_eq (by omega) (by omega)).mp (hb.symm.trans z)
        rw [gd_set (by omega), if_pos rfl]
        exact nI_ne1 (by omega)
    rw [eq]
    by_cases q1 : wy.getD n 0 < 0
    · rw [if_pos q1]
      exact hset
    · rw [if_neg q1]
      split
      · refine ⟨hA, hv, fun _ _ h => h, fun m hm z => ?_⟩
        obtain rfl : n = m := (nI_eq (by omega) (by omega)).mp (hb.symm.trans z)
        intro y
        rw [y] at q1
        exact q1 (by decide)
      · exact hset
theorem wrF_inv {s : List Int32} {src M c v : Nat} (hM : M < 2 ^ 20) (hc : c < 48) (hvM : v ≤ M) : ∀ (k j : Nat) (wy : List Int32), j + k = 4 → wy.length = 48 → wA s src (M + 4) wy → wy.getD c 0 = nI v → (∀ i, i < j → ∀ n, n < 48 → bsd c i = nI n → wy.getD n 0 ≠ -1) → wA s src (M + 4) (wrF s c k j wy) ∧ (wrF s c k j wy).getD c 0 = nI v ∧ (∀ x, x < 48 → wy.getD x 0 ≠ -1 → (wrF s c k j wy).getD x 0 ≠ -1) ∧ (∀ i, i < 4 → ∀ n, n < 48 → bsd c i = nI n → (wrF s c k j wy).getD n 0 ≠ -1)
  | 0, j, wy, hjk, hl, hA, hv, hN => by
    refine ⟨hA, hv, fun _ _ h => h, fun i hi => hN i (by omega)⟩
  | k + 1, j, wy, hjk, hl, hA, hv, hN => by
    obtain ⟨a1, a2, a3, a4⟩ := wr1_inv hM hl hA hc hv hvM (show j < 4 by omega)
    obtain ⟨b1, b2, b3, b4⟩ := wrF_inv hM hc hvM k (j + 1) (wr1 s c wy (bsd c j)) (by omega) (wr1_len hl) a1 a2 (fun i hi n hn z => by
      by_cases e : i = j
      · subst e
        exact a4 n hn z
      · exact a3 n hn (hN i (by omega) n hn z))
    exact ⟨b1, b2, fun x hx h => b3 x hx (a3 x hx h), b4⟩
theorem nrF_inv {wy su : List Int32} : ∀ (k c : Nat) (b : Int32), c + k = 48 → ((b < 0 ∧ ∀ x, x < c → ¬ su.getD x 0 = 0 ∨ wy.getD x 0 < 0) ∨ ∃ x, x < 48 ∧ b = nI x ∧ su.getD x 0 = 0 ∧ ¬ wy.getD x 0 < 0) → ((nrF wy su k c b < 0 ∧ ∀ x, x < 48 → ¬ su.getD x 0 = 0 ∨ wy.getD x 0 < 0) ∨ ∃ x, x < 48 ∧ nrF wy su k c b = nI x ∧ su.getD x 0 = 0 ∧ ¬ wy.getD x 0 < 0)
  | 0, c, b, h, hb => by
    obtain rfl : c = 48 := by omega
    exact hb
  | k + 1, c, b, h, hb => by
    refine nrF_inv k (c + 1) (nr1 wy su b c) (by omega) ?_
    unfold nr1
    by_cases q1 : ¬ su.getD c 0 = 0
    · rw [if_pos q1]
      rcases hb with ⟨h1, h2⟩ | hb
      · refine Or.inl ⟨h1, fun x hx => ?_⟩
        by_cases e : x = c
        · subst e
          exact Or.inl q1
        · exact h2 x (by omega)
      · exact Or.inr hb
    · rw [if_neg q1]
      by_cases q2 : wy.getD c 0 < 0
      · rw [if_pos q2]
        rcases hb with ⟨h1, h2⟩ | hb
        · refine Or.inl ⟨h1, fun x hx => ?_⟩
          by_cases e : x = c
          · subst e
            exact Or.inr q2
          · exact h2 x (by omega)
        · exact Or.inr hb
      · rw [if_neg q2]
        have hc : ∃ x, x < 48 ∧ nI c = nI x ∧ su.getD x 0 = 0 ∧ ¬ wy.getD x 0 < 0 := ⟨c, by omega, rfl, Decidable.not_not.mp q1, q2⟩
        by_cases q3 : b < 0
        · rw [if_pos q3]
          exact Or.inr hc
        · rw [if_neg q3]
          have hb2 : ∃ x, x < 48 ∧ b = nI x ∧ su.getD x 0 = 0 ∧ ¬ wy.getD x 0 < 0 := by
            rcases hb with hb | hb
            · exact absurd hb.1 q3
            · exact hb
          split
          · exact Or.inr hb2
          · exact Or.inr hc
theorem wkF_inv {s : List Int32} {src : Nat} (hsrc : src < 48) : ∀ (f : Nat) (b : Int32) (wy su : List Int32) (M : Nat), M + 4 * f ≤ 1000 → wy.length = 48 → su.length = 48 → su.count 0 < f → wA s src M wy → wy.getD src 0 ≠ -1 → (∀ c, c < 48 → ¬ su.getD c 0 = 0 → wy.getD c 0 ≠ -1) → (∀ c, c < 48 → ¬ su.getD c 0 = 0 → ∀ j, j < 4 → ∀ n, n < 48 → bsd c j = nI n → wy.getD n 0 ≠ -1) → ((b < 0 ∧ ∀ x, x < 48 → ¬ su.getD x 0 = 0 ∨ wy.getD x 0 < 0) ∨ ∃ x, x < 48 ∧ b = nI x ∧ su.getD x 0 = 0 ∧ ¬ wy.getD x 0 < 0) → wA s src 1000 (wkF s f b wy su).1 ∧ ∀ c, c < 48 → (wkF s f b wy su).1.getD c 0 ≠ -1
  | 0, _, _, _, _, _, _, _, hf, _, _, _, _, _ => absurd hf (by omega)
  | f + 1, b, wy, su, M, hM, hl, hs, hf, hA, hS, hB, hN, hb => by
    rw [wkF]
    rcases hb with ⟨h1, h2⟩ | ⟨c, hc, rfl, h0, hw⟩
    · rw [if_pos h1]
      have hpos : ∀ x, x < 48 → wy.getD x 0 ≠ -1 → ¬ wy.getD x 0 < 0 := by
        intro x hx h
        rcases hA x hx with h3 | ⟨v, hv, h3, _⟩
        · exact absurd h3 h
        · rw [h3]
          exact nI_pos (by omega)
      have hcl : clo (fun x => ¬ su.getD x 0 = 0) := fun x hx hsx j hj n hn z => (h2 n hn).resolve_right (hpos n hn (hN x hx hsx j hj n hn z))
      have hall := conn hcl hsrc ((h2 src hsrc).resolve_right (hpos src hsrc hS))
      exact ⟨hA.up (by omega), fun x hx => hB x hx (hall x hx)⟩
    · rw [if_neg (nI_pos (by omega)), nI_clamp (by omega)]
      obtain ⟨v, hv, hvc⟩ : ∃ v, v ≤ M ∧ wy.getD c 0 = nI v := by
        rcases hA c hc with h3 | ⟨v, hv, h3, _⟩
        · exact absurd (show wy.getD c 0 < 0 by rw [h3]; decide) hw
        · exact ⟨v, hv, h3⟩
      obtain ⟨b1, b2, b3, b4⟩ := wrF_inv (s := s) (src := src) (show M < 2 ^ 20 by omega) hc hv 4 0 wy rfl hl (hA.up (by omega)) hvc (fun i hi => absurd hi (by omega))
      have hsu : ∀ x, x < 48 → ¬ (su.set c 1).getD x 0 = 0 → x = c ∨ ¬ su.getD x 0 = 0 := by
        intro x hx h
        rw [gd_set (by omega)] at h
        by_cases e : x = c
        · exact Or.inl e
        · rw [if_neg e] at h
          exact Or.inr h
      refine wkF_inv hsrc f _ _ _ (M + 4) (by omega) (wrF_len 4 0 _ hl) (sx_ls hs) ?_ b1 (b3 src hsrc hS) ?_ ?_ (nrF_inv 48 0 (-1) rfl (Or.inl ⟨by decide, fun x hx => absurd hx (by omega)⟩))
      · have := cnt_set (f := f) (by omega) h0 (by omega)
        have h5 := cnt_pos (su := su) (c := c) (by omega) h0
        have h6 : (su.set c 1).count 0 ≤ su.count 0 - 1 := cnt_set (f := su.count 0 - 1) (by omega) h0 (by omega)
        omega
      · intro x hx h
        rcases hsu x hx h with rfl | h
        · rw [b2]
          exact nI_ne1 (by omega)
        · exact b3 x hx (hB x hx h)
      · intro x hx h j hj n hn z
        rcases hsu x hx h with rfl | h
        · exact b4 j hj n hn z
        · exact b3 n hn (hN x hx h j hj n hn z)
theorem wiF_at {src : Nat} : ∀ (k j : Nat) (l : List Int32), j + k = l.length → ∀ c, c < l.length → (j ≤ c → (wiF src k j l).getD c 0 = if nI c = nI src then 0 else -1) ∧ (c < j → (wiF src k j l).getD c 0 = l.getD c 0)
  | 0, j, l, h, c, hc => ⟨fun z => by omega, fun _ => rfl⟩
  | k + 1, j, l, h, c, hc => by
    have IH := wiF_at (src := src) k (j + 1) (l.set j (if nI j = nI src then 0 else -1)) (by rw [List.length_set]; omega) c (by rw [List.length_set]; exact hc)
    refine ⟨fun z => ?_, fun z => ?_⟩
    · by_cases e : c = j
      · subst e
        show (wiF src k (c + 1) (l.set c (if nI c = nI src then 0 else -1))).getD c 0 = _
        rw [IH.2 (by omega), gd_set hc, if_pos rfl]
      · exact IH.1 (by omega)
    · show (wiF src k (j + 1) (l.set j (if nI j = nI src then 0 else -1))).getD c 0 = l.getD c 0
      rw [IH.2 (by omega), gd_set (by omega), if_neg (by omega)]
theorem wlF_inv {s wy0 su0 : List Int32} {src : Nat} (hsrc : src < 48) (h1 : wy0.length = 48) (h2 : su0.length = 48) : wA s src 1000 (wlF s src wy0 su0).1 ∧ ∀ c, c < 48 → (wlF s src wy0 su0).1.getD c 0 ≠ -1 := by
  unfold wlF
  have hw : ∀ c, c < 48 → (wiF src 48 0 wy0).getD c 0 = if nI c = nI src then 0 else -1 := fun c hc => (wiF_at 48 0 wy0 (by omega) c (by omega)).1 (Nat.zero_le _)
  have hsz : ∀ c, c < 48 → (flF 0 48 0 su0).getD c 0 = 0 := fun c hc => (flF_at 48 0 su0 (by omega) c (by omega)).1 (Nat.zero_le _)
  refine wkF_inv hsrc 49 (nI src) _ _ 0 (by decide) (wiF_len 48 0 _ h1) (flF_len 48 0 _ h2) ?_ ?_ ?_ ?_ ?_ ?_
  · exact Nat.lt_succ_of_le (Nat.le_trans List.count_le_length (by rw [flF_len 48 0 _ h2]; exact Nat.le_refl _))
  · intro c hc
    rw [hw c hc]
    split
    · rename_i e
      have e2 : c = src := (nI_eq (by omega) (by omega)).mp e
      exact Or.inr ⟨0, by omega, rfl, fun z => absurd e2 z⟩
    · exact Or.inl rfl
  · rw [hw src hsrc, if_pos rfl]
    decide
  · intro c hc h
    exact absurd (hsz c hc) h
  · intro c hc h
    exact absurd (hsz c hc) h
  · refine Or.inr ⟨src, hsrc, rfl, hsz src hsrc, ?_⟩
    rw [hw src hsrc, if_pos rfl]
    decide
