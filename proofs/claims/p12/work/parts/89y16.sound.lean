-- what the class keeps of sound
def lkL (ls : List Int32) (c : Nat) : Int32 := ls.getD c 0
def LSo (ls : List Int32) : Prop := ∃ g : List Int32, ∀ c, c < 48 → ls.getD c 0 = gk g c
theorem lk_kfr {ls g : List Int32} (e : ∀ c, c < 48 → ls.getD c 0 = gk g c) : kfr (lkL ls) (fun c => iN (gk g c)) all1 := fun n hn => by
  show (all1 n = false ∧ ls.getD n 0 = -1) ∨ (all1 n = true ∧ 1 ≤ iN (gk g n) ∧ iN (gk g n) ≤ 9 ∧ ls.getD n 0 = nI (iN (gk g n)))
  rw [e n hn]
  exact gk_kfr g n hn
theorem lk_far {ls g : List Int32} (e : ∀ c, c < 48 → ls.getD c 0 = gk g c) {f t : Nat} (hf : f < 48) (ht : t < 48) : dst (lkL ls) f t = farN g f t := dst_congr (lk_kfr e) (gk_kfr g) hf e t ht
theorem row_dst {ls row : List Int32} {t : Nat} (h : LSo ls) (ht : t < 48) (hr : row.length = 48) : ∀ f, f < 48 → (adF ls t 48 0 (spF ls t row)).getD f 0 = nI (dst (lkL ls) f t) := by
  obtain ⟨g, e⟩ := h
  intro f hf
  rw [row_far (g := g) ht hr e f hf, lk_far e hf ht]
/-- rows that are known are right, for what sound loses now -/
def SK (w : List sx_C) : Prop := LSo (ia w 45) → ∀ t, t < 48 → ¬ (ia w 95).getD t 0 = 0 → ∀ f, f < 48 → (ia w (47 + t)).getD f 0 = nI (dst (lkL (ia w 45)) f t)
theorem SK.same {w w2 : List sx_C} (h : SK w) (hs : ∀ a, 44 ≤ a → a < 96 → w2[a]? = w[a]?) : SK w2 := by
  intro hL t ht hk f hf
  rw [ia_of (hs 45 (by omega) (by omega))] at hL ⊢
  rw [ia_of (hs 95 (by omega) (by omega))] at hk
  rw [ia_of (hs (47 + t) (by omega) (by omega))]
  exact h hL t ht hk f hf
def ES (w w2 : List sx_C) : Prop := EQ w w2 ∧ (SK w → SK w2)
theorem ES.rf {w : List sx_C} : ES w w := ⟨EQ.rf, id⟩
theorem ES.tr {w w1 w2 : List sx_C} (h : ES w w1) (h2 : ES w1 w2) : ES w w2 := ⟨h.1.tr h2.1, fun z => h2.2 (h.2 z)⟩
theorem ES.st {w0 w w2 : List sx_C} {a : Nat} (h : ES w0 w) (hs : Same a w w2) (ha : (29 ≤ a ∧ a ≤ 43) ∨ (99 ≤ a ∧ a ≤ 102)) : ES w0 w2 := ⟨h.1.st hs (by omega), fun z => (h.2 z).same (fun b h1 h2 => hs b (by omega))⟩
theorem ES.fr {w0 w : List sx_C} (h : ES w0 w) {a : Nat} {c c2 : sx_C} (_ : w[a]? = some c) (hf : 99 ≤ a ∧ a ≤ 102) : ES w0 (w.set a c2) := h.st Same.set (by omega)
section SXS
variable {xs : Option (List Int32)} {d mi pc pc2 a idx p : Nat} {ls : sx_L} {r : List Value} {w w0 : List sx_C} {P : Option Value → List sx_C → Prop}
theorem sx_RP.pgS {k : Nat} {v : Int32} (hI : WI w) (hE : ES w0 w) (hz : 29 ≤ a) (ha : gAd a) (hi : sx_ins mi pc = some (.putfield idx, 3)) (hq : sx_lk (sx_fl (sx_own mi)) idx = some (2, k, p)) (hk : k < 6) (hf : sx_fin mi 2 k = true) (hv : gR k v) (hp : pc + 3 = pc2) (kk : ∀ w2, WI w2 → ES w0 w2 → (∀ B q, isA B → fi w2 B q = fi w B q) → sx_RP xs d mi pc2 ls r w2 P) : sx_RP xs d mi pc ls (.int v :: .ref a :: r) w P :=
  sx_RP.xG hI ha hi hq hk hf hv hp (fun w2 h1 h2 _ _ => kk w2 h1 (hE.st h2 (by unfold gAd at ha; omega)) (h2.cc ha))
theorem sx_RP.putcS {k : Nat} {v : Int32} (hI : WI w) (hE : ES w0 w) (hz : 29 ≤ a) (ha : isA a) (hi : sx_ins mi pc = some (.putfield idx, 3)) (hq : sx_lk (sx_fl (sx_own mi)) idx = some (1, k, p)) (hk : k = 3 ∨ (5 ≤ k ∧ k < 11)) (hf : sx_fin mi 1 k = true) (hv : cR k v) (hp : pc + 3 = pc2) (kk : ∀ w2, WI w2 → ES w0 w2 → sx_RP xs d mi pc2 ls r w2 P) : sx_RP xs d mi pc ls (.int v :: .ref a :: r) w P :=
  sx_RP.xC hI ha hi hq hk hf hv hp (fun w2 h1 h2 _ _ _ => kk w2 h1 (hE.st h2 (by unfold isA at ha; omega)))
theorem sx_RP.pwS {v : Int64} (hI : WI w) (hE : ES w0 w) (hz : 29 ≤ a) (ha : isA a) (hi : sx_ins mi pc = some (.putfield idx, 3)) (hq : sx_lk (sx_fl (sx_own mi)) idx = some (1, 1, p)) (hf : sx_fin mi 1 1 = true) (hp : pc + 3 = pc2) (kk : ∀ w2, WI w2 → ES w0 w2 → sx_RP xs d mi pc2 ls r w2 P) : sx_RP xs d mi pc ls (.long v :: .ref a :: r) w P :=
  sx_RP.xW hI ha hi hq hf hp (fun w2 h1 h2 _ _ => kk w2 h1 (hE.st h2 (by unfold isA at ha; omega)))
theorem sx_RP.stFS {i x : Int32} {n : Nat} (hI : WI w) (hE : ES w0 w) (hz : 99 ≤ a ∧ a ≤ 102) (hi : sx_ins mi pc = some (.iastore, 1)) (hw : w[a]? = some (.inl (0, ia w a)) ∧ (ia w a).length = n) (hn : sx_in i n = true) (hf : (44 ≤ a ∧ a ≤ 95) ∨ (97 ≤ a ∧ a ≤ 102)) (hp : pc + 1 = pc2) (kk : ∀ w2, WI w2 → ES w0 w2 → sx_RP xs d mi pc2 ls r w2 P) : sx_RP xs d mi pc ls (.int x :: .int i :: .ref a :: r) w P :=
  sx_RP.ist hi hw.1 hw.2 hn rfl rfl hp (kk _ (hI.set hw.1 sh_set (cOK.free (by omega))) (hE.st Same.set (by omega)))
theorem sx_RP.acSS {A B : Nat} (hI : WI w) (hE : ES w0 w) (hz : 29 ≤ A) (hA : isA A) (hB : isA B) (hi : sx_ins mi pc = some (.invokestatic idx, 3)) (hq : sx_lk (sx_ac (sx_own mi)) idx = some p) (hr : Nat.ble (r.map (fun v => v.category)).sum 8 = true) (hp : pc + 3 = pc2) (kk : ∀ w2, WI w2 → ES w0 w2 → sx_RP xs d mi pc2 ls r w2 P) : sx_RP xs d mi pc ls (.int 48 :: .int 0 :: .ref (A + 1) :: .int 0 :: .ref (B + 1) :: r) w P :=
  sx_RP.xAS hI hA hB hi hq hr hp (fun w2 h1 h2 _ => kk w2 h1 (hE.st h2 (by unfold isA at hA; omega)))
theorem sx_RP.acDS {A B : Nat} (hI : WI w) (hE : ES w0 w) (hz : 29 ≤ A) (hA : isA A) (hB : isA B) (hi : sx_ins mi pc = some (.invokestatic idx, 3)) (hq : sx_lk (sx_ac (sx_own mi)) idx = some p) (hr : Nat.ble (r.map (fun v => v.category)).sum 8 = true) (hp : pc + 3 = pc2) (kk : ∀ w2, WI w2 → ES w0 w2 → sx_RP xs d mi pc2 ls r w2 P) : sx_RP xs d mi pc ls (.int 9 :: .int 0 :: .ref (A + 3) :: .int 0 :: .ref (B + 3) :: r) w P :=
  sx_RP.xAD hI hA hB hi hq hr hp (fun w2 h1 h2 _ => kk w2 h1 (hE.st h2 (by unfold isA at hA; omega)))
end SXS
-- fitTo
theorem ft_spec {st : List Int32} : ∀ (q j : Nat) (p : List Int32 × Int32) (l0 : List Int32), j + q = 48 → p.1.length = 48 → (p.2 = 0 ∨ (p.2 = 1 ∧ p.1 = l0)) → (∀ c, c < j → p.1.getD c 0 = crF (st.getD c 0)) → (∀ c, c < 48 → (ftF st q j p).1.getD c 0 = crF (st.getD c 0)) ∧ ((ftF st q j p).2 = 0 ∨ ((ftF st q j p).2 = 1 ∧ (ftF st q j p).1 = l0))
  | 0, j, p, l0, hj, hl, hp, hc => ⟨fun c h => hc c (by omega), hp⟩
  | q + 1, j, p, l0, hj, hl, hp, hc => by
    refine ft_spec q (j + 1) (ft1 st p j) l0 (by omega) (ft1_len hl) ?_ ?_
    · unfold ft1
      split
      · exact hp
      · exact Or.inl rfl
    · intro c h
      unfold ft1
      split
      · rename_i e
        by_cases ec : c = j
        · rw [ec]
          exact e
        · exact hc c (by omega)
      · show (p.1.set j _).getD c 0 = _
        rw [gd_set (by omega)]
        by_cases ec : c = j
        · rw [if_pos ec, ec]
        · rw [if_neg ec]
          exact hc c (by omega)
/-- what sound loses fits the ground -/
def FIT (w : List sx_C) (A : Nat) : Prop := ∀ c, c < 48 → (ia w 45).getD c 0 = crF ((ia w (A + 1)).getD c 0)
theorem FIT.ls {w : List sx_C} {A : Nat} (h : FIT w A) : LSo (ia w 45) := ⟨ia w (A + 1), h⟩
theorem FIT.dst {w : List sx_C} {A : Nat} (h : FIT w A) {f t : Nat} (hf : f < 48) (ht : t < 48) : dst (lkL (ia w 45)) f t = farN (ia w (A + 1)) f t := lk_far h hf ht
theorem G16 {xs : Option (List Int32)} {d : Nat} {w : List sx_C} (hI : WI w) {A : Nat} (hA : isA A) : sx_RP xs d 16 0 (lv_args 0 [.ref 44, .ref (A + 1)]) [] w (fun r w2 => r = none ∧ WI w2 ∧ ES w w2 ∧ FIT w2 A ∧ ∀ a, (a < 44 ∨ 96 ≤ a) → w2[a]? = w[a]?) := by
  have h45 := hI.1.a45
  have h95 := hI.1.a95
  have hS := hI.1.aS hA
  have h1 : A + 1 ≠ 45 ∧ A + 1 ≠ 95 := by unfold isA at hA; omega
  have hA2 : A + 1 < 44 := by unfold isA at hA; omega
  have c := cp_16 (xs := xs) (d := d) hI.1.o44 h45.1 h95.1 hS.1 h1.1 h1.2 hS.2 (hI.st4 hA) h45.2 h95.2
  have e1 : (ftF (ia w (A + 1)) 48 0 (ia w 45, 1)).1.length = 48 := ftF_len 48 0 (ia w 45, 1) h45.2
  obtain ⟨s1, s2⟩ := ft_spec (st := ia w (A + 1)) 48 0 (ia w 45, 1) (ia w 45) rfl h45.2 (Or.inr ⟨rfl, rfl⟩) (fun c h => absurd h (by omega))
  have i45 : ia ((w.set 45 (.inl (0, (ftF (ia w (A + 1)) 48 0 (ia w 45, 1)).1))).set 95 (.inl (1, knF (ftF (ia w (A + 1)) 48 0 (ia w 45, 1)).2 (ia w 95)))) 45 = (ftF (ia w (A + 1)) 48 0 (ia w 45, 1)).1 := by
    rw [ia_ne (by decide)]
    exact ia_set h45.1
  have i95 : ia ((w.set 45 (.inl (0, (ftF (ia w (A + 1)) 48 0 (ia w 45, 1)).1))).set 95 (.inl (1, knF (ftF (ia w (A + 1)) 48 0 (ia w 45, 1)).2 (ia w 95)))) 95 = knF (ftF (ia w (A + 1)) 48 0 (ia w 45, 1)).2 (ia w 95) := ia_set (sx_gn2 (by decide) h95.1)
  refine c.rp ⟨rfl, ?_, ⟨?_, ?_⟩, ?_, ?_⟩
  · refine (hI.fr h45.1 (by rw [e1, h45.2]) (by decide)).fr (sx_gn2 (by decide) h95.1) (by rw [knF_len h95.2, h95.2]) (by decide)
  · exact (EQ.rf.fr h45.1 (by decide)).fr (sx_gn2 (by decide) h95.1) (by decide)
  · intro hK hL t ht hk f hf
    rw [i95] at hk
    rw [i45] at hL ⊢
    rcases s2 with z | ⟨z1, z2⟩
    · exfalso
      apply hk
      unfold knF
      rw [if_pos z]
      exact (flF_at 48 0 (ia w 95) (by omega) t (by omega)).1 (Nat.zero_le _)
    · unfold knF at hk
      rw [if_neg (by rw [z1]; decide)] at hk
      rw [z2] at hL ⊢
      rw [ia_ne (by omega), ia_ne (by omega)]
      exact hK hL t ht hk f hf
  · intro c hc
    rw [i45, ia_ne (by omega), ia_ne (by omega)]
    exact s1 c hc
  · intro a ha
    rw [List.getElem?_set_ne (by omega), List.getElem?_set_ne (by omega)]
theorem G17 {xs : Option (List Int32)} {d : Nat} {w : List sx_C} (hI : WI w) {t : Nat} (ht : t < 48) : sx_RP xs (d + 3) 17 0 (lv_args 0 [.ref 44, .int (nI t)]) [] w (fun r w2 => r = some (.ref (47 + t)) ∧ WI w2 ∧ ES w w2 ∧ (ia w2 45 = ia w 45 ∧ (SK w → LSo (ia w 45) → ∀ f, f < 48 → (ia w2 (47 + t)).getD f 0 = nI (dst (lkL (ia w 45)) f t))) ∧ ∀ a, (a < 44 ∨ 96 ≤ a) → w2[a]? = w[a]?) := by
  have h45 := hI.1.a45
  have h95 := hI.1.a95
  have hR := hI.1.aR ht
  by_cases hk : (ia w 95).getD t 0 = 0
  · have c := cp_17 (xs := xs) (d := d) hI.1.o44 h45.1 hI.1.a46 h95.1 hR.1 h45.2 h95.2 ht hR.2 hk
    have iR : ia ((w.set 95 (.inl (1, (ia w 95).set t 1))).set (47 + t) (.inl (0, adF (ia w 45) t 48 0 (spF (ia w 45) t (ia w (47 + t)))))) (47 + t) = adF (ia w 45) t 48 0 (spF (ia w 45) t (ia w (47 + t))) := ia_set (sx_gn2 (by omega) hR.1)
    have i45 : ia ((w.set 95 (.inl (1, (ia w 95).set t 1))).set (47 + t) (.inl (0, adF (ia w 45) t 48 0 (spF (ia w 45) t (ia w (47 + t)))))) 45 = ia w 45 := by rw [ia_ne (by omega), ia_ne (by omega)]
    have i95 : ia ((w.set 95 (.inl (1, (ia w 95).set t 1))).set (47 + t) (.inl (0, adF (ia w 45) t 48 0 (spF (ia w 45) t (ia w (47 + t)))))) 95 = (ia w 95).set t 1 := by rw [ia_ne (by omega)]; exact ia_set h95.1
    have key : LSo (ia w 45) → ∀ f, f < 48 → (adF (ia w 45) t 48 0 (spF (ia w 45) t (ia w (47 + t)))).getD f 0 = nI (dst (lkL (ia w 45)) f t) := by
      intro hL f hf
      exact row_dst hL ht hR.2 f hf
    refine c.rp ⟨rfl, ?_, ⟨?_, ?_⟩, ⟨i45, ?_⟩, ?_⟩
    · exact (hI.fr h95.1 (List.length_set ..) (by decide)).fr (sx_gn2 (by omega) hR.1) (by rw [adF_len 48 0 _ (spF_len hR.2), hR.2]) (by omega)
    · exact (EQ.rf.fr h95.1 (by decide)).fr (sx_gn2 (by omega) hR.1) (by omega)
    · intro hK hL t2 ht2 hk2 f hf
      rw [i45] at hL ⊢
      rw [i95, gd_set (by omega)] at hk2
      by_cases e : t2 = t
      · subst e
        rw [iR]
        exact key hL f hf
      · rw [if_neg e] at hk2
        rw [ia_ne (by omega), ia_ne (by omega)]
        exact hK hL t2 ht2 hk2 f hf
    · intro _ hL f hf
      rw [iR]
      exact key hL f hf
    · intro a ha
      rw [List.getElem?_set_ne (by omega), List.getElem?_set_ne (by omega)]
  · have c := cp_17k (xs := xs) (d := d + 3) hI.1.o44 h45.1 hI.1.a46 h95.1 hR.1 h45.2 h95.2 ht hk
    exact c.rp ⟨rfl, hI, ES.rf, ⟨rfl, fun hK hL f hf => hK hL t ht hk f hf⟩, fun _ _ => rfl⟩
theorem G18 {xs : Option (List Int32)} {d : Nat} {w : List sx_C} (hI : WI w) {t : Nat} (ht : t < 48) : sx_RP xs (d + 2) 18 0 (lv_args 0 [.int (nI t), .ref 100, .ref 101]) [] w (fun r w2 => r = none ∧ WI w2 ∧ ES w w2) := by
  have h1 := hI.1.a100
  have h2 := hI.1.a101
  have c := cp_18 (xs := xs) (d := d) h1.1 h2.1 (by decide) h1.2 h2.2 ht
  refine c.rp ⟨rfl, ?_, ?_⟩
  · exact hI.fr h2.1 (by rw [spF_len h2.2, h2.2]) (by decide)
  · exact ES.rf.fr h2.1 (by decide)
