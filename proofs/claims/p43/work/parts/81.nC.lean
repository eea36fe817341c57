section SXQ2
variable {xs : Option (List Int32)} {d mi pc pc2 a idx p : Nat} {ls : sx_L} {r : List Value} {w w0 : List sx_C} {P : Option Value → List sx_C → Prop}
theorem sx_RP.psbN {v : Int32} {s : Nat} (hI : WI w) (hs : s < 4) (hi : sx_ins mi pc = some (.putfield idx, 3)) (hq : sx_lk (sx_fl (sx_own mi)) idx = some (5, 1, p)) (hf : sx_fin mi 5 1 = true) (hp : pc + 3 = pc2) (kk : ∀ w2, WI w2 → EN w w2 → fi w2 (103 + 2 * s) 1 = v → sx_RP xs d mi pc2 ls r w2 P) : sx_RP xs d mi pc ls (.int v :: .ref (103 + 2 * s) :: r) w P := by
  have hw := hI.1.oS hs
  exact sx_RP.pf hi hq hw (by rw [hf]; rfl) rfl rfl hp (kk _ (hI.set hw rfl (cOK.sh hs (hI.sh hs))) (EN.rf.st Same.set (by omega)) (by unfold fi; rw [fs_set hw]; rfl))
theorem sx_RP.pssN {v : Int32} {s : Nat} (hI : WI w) (hs : s < 4) (hi : sx_ins mi pc = some (.putfield idx, 3)) (hq : sx_lk (sx_fl (sx_own mi)) idx = some (5, 2, p)) (hf : sx_fin mi 5 2 = true) (hv : inR v 40) (hp : pc + 3 = pc2) (kk : ∀ w2, WI w2 → EN w w2 → fi w2 (103 + 2 * s) 2 = v → fi w2 (103 + 2 * s) 1 = fi w (103 + 2 * s) 1 → sx_RP xs d mi pc2 ls r w2 P) : sx_RP xs d mi pc ls (.int v :: .ref (103 + 2 * s) :: r) w P := by
  have hw := hI.1.oS hs
  exact sx_RP.pf hi hq hw (by rw [hf]; rfl) rfl rfl hp (kk _ (hI.set hw rfl (cOK.sh hs hv)) (EN.rf.st Same.set (by omega)) (by unfold fi; rw [fs_set hw]; rfl) (by unfold fi; rw [fs_set hw]; rfl))
theorem sx_RP.acNN {s t f g n : Nat} (hI : WI w) (hE : EN w0 w) (hs : s < 4) (ht : t < 4) (h1 : f + n ≤ 40) (h2 : g + n ≤ 40) (hi : sx_ins mi pc = some (.invokestatic idx, 3)) (hq : sx_lk (sx_ac (sx_own mi)) idx = some p) (hr : Nat.ble (r.map (fun v => v.category)).sum 8 = true) (hp : pc + 3 = pc2) (kk : ∀ w2, WI w2 → EN w0 w2 → sx_RP xs d mi pc2 ls r w2 P) : sx_RP xs d mi pc ls (.int (nI n) :: .int (nI g) :: .ref (104 + 2 * t) :: .int (nI f) :: .ref (104 + 2 * s) :: r) w P := by
  subst hp
  have ha := hI.1.aN ht
  have hb := hI.1.aN hs
  have hl := cpy_len (f := ja w (104 + 2 * s)) (g := ja w (104 + 2 * t)) (sp := f) (dp := g) (n := n) (by omega) (by omega)
  have hsh : sx_sh (.inr (.inl (3, sx_cpy (ja w (104 + 2 * s)) (ja w (104 + 2 * t)) f g n))) = sx_sh (.inr (.inl (3, ja w (104 + 2 * t)))) := by
    show (.inr (.inl (3, List.replicate (sx_cpy (ja w (104 + 2 * s)) (ja w (104 + 2 * t)) f g n).length 0)) : sx_C) = .inr (.inl (3, List.replicate (ja w (104 + 2 * t)).length 0))
    rw [hl]
  refine sx_RP.step hi (show sx_acp (sx_own mi) idx ls pc (.int (nI n) :: .int (nI g) :: .ref (104 + 2 * t) :: .int (nI f) :: .ref (104 + 2 * s) :: r) w = some (pc + 3, ls, r, w.set (104 + 2 * t) (.inr (.inl (3, sx_cpy (ja w (104 + 2 * s)) (ja w (104 + 2 * t)) f g n)))) from ?_) (kk _ (hI.set ha.1 hsh (cOK.free (by omega))) (hE.st Same.set (by omega)))
  unfold sx_acp
  simp only
  rw [hq]
  simp only
  rw [decide_eq_false (nI_pos (n := f) (by omega)), decide_eq_false (nI_pos (n := g) (by omega)), decide_eq_false (nI_pos (n := n) (by omega)), hr, hb.1, ha.1]
  simp only [Bool.not_false, Bool.and_self, cond_true]
  rw [nI_clamp (n := f) (by omega), nI_clamp (n := g) (by omega), nI_clamp (n := n) (by omega), hb.2, ha.2, show Nat.ble (f + n) 40 = true from Nat.ble_eq.mpr h1, show Nat.ble (g + n) 40 = true from Nat.ble_eq.mpr h2]
  rfl
end SXQ2
set_option maxRecDepth 20000 in
set_option maxHeartbeats 4000000 in
theorem N44 {xs : Option (List Int32)} {d : Nat} {w : List sx_C} (hI : WI w) {A : Nat} (hA : isA A) {ga : Nat} (hg : gAd ga) (hz : (5 ≤ ga ∧ ga < 15) ∨ (29 ≤ ga ∧ ga ≤ 95)) : sx_RP xs (d + 4) 44 0 (lv_args 0 [.ref A, .ref ga]) [] w (fun r w2 => (r = none) ∧ WI w2 ∧ EN w w2) := by
  have hE : EN w w := EN.rf
  refine sx_RP.step (pc2 := 1) (ls2 := [(0, .ref A), (1, .ref ga)]) (st2 := [.ref ga]) (w3 := w) rfl rfl ?_
  refine sx_RP.gg (k := 2) hI hg rfl rfl (by decide) (show _ = 4 from rfl) ?_
  obtain ⟨x1, hx2, ex3⟩ : inR (fi w ga 2) 47 := hI.gk (k := 2) hg (by decide)
  rw [ex3]
  refine sx_RP.step (pc2 := 5) (ls2 := [(0, .ref A), (1, .ref ga)]) (st2 := [.ref ga, .int (nI x1)]) (w3 := w) rfl rfl ?_
  refine sx_RP.gg (k := 3) hI hg rfl rfl (by decide) (show _ = 8 from rfl) ?_
  obtain ⟨x4, hx5, ex6⟩ : inR (fi w ga 3) 3 := hI.gk (k := 3) hg (by decide)
  rw [ex6]
  rcases bes_cases (c := x1) (j := x4) (by omega) (by omega) with q7 | ⟨x8, hx9, q7⟩
  · refine sx_RP.cu (as := [.int (nI x1), .int (nI x4)]) (rest2 := []) (st3 := [.int (-1)]) rfl rfl rfl rfl rfl (cb_20e (by omega) (by omega) q7) rfl ?_
    refine sx_RP.step (pc2 := 12) (ls2 := [(2, .int (-1)), (0, .ref A), (1, .ref ga)]) (st2 := []) (w3 := w) rfl rfl ?_
    refine sx_RP.step (pc2 := 13) (ls2 := [(2, .int (-1)), (0, .ref A), (1, .ref ga)]) (st2 := [.int (-1)]) (w3 := w) rfl rfl ?_
    refine sx_RP.step (pc2 := 14) (ls2 := [(2, .int (-1)), (0, .ref A), (1, .ref ga)]) (st2 := [.int (-1), .int (-1)]) (w3 := w) rfl rfl ?_
    refine sx_RP.step (pc2 := 17) (ls2 := [(2, .int (-1)), (0, .ref A), (1, .ref ga)]) (st2 := []) (w3 := w) rfl rfl ?_
    refine sx_RP.ret (r := none) rfl rfl ?_
    exact ⟨rfl, hI, hE⟩
  · refine sx_RP.cu (as := [.int (nI x1), .int (nI x4)]) (rest2 := []) (st3 := [.int (nI x8)]) rfl rfl rfl rfl rfl (cb_20e (by omega) (by omega) q7) rfl ?_
    refine sx_RP.step (pc2 := 12) (ls2 := [(2, .int (nI x8)), (0, .ref A), (1, .ref ga)]) (st2 := []) (w3 := w) rfl rfl ?_
    refine sx_RP.step (pc2 := 13) (ls2 := [(2, .int (nI x8)), (0, .ref A), (1, .ref ga)]) (st2 := [.int (nI x8)]) (w3 := w) rfl rfl ?_
    refine sx_RP.step (pc2 := 14) (ls2 := [(2, .int (nI x8)), (0, .ref A), (1, .ref ga)]) (st2 := [.int (-1), .int (nI x8)]) (w3 := w) rfl rfl ?_
    refine sx_RP.br (p1 := 18) (l1 := [(2, .int (nI x8)), (0, .ref A), (1, .ref ga)]) (s1 := []) (v1 := w) rfl rfl (fun _ => ?_) (fun q => absurd (nI_ne1 (by omega)) (of_decide_eq_false q))
    refine sx_RP.step (pc2 := 19) (ls2 := [(2, .int (nI x8)), (0, .ref A), (1, .ref ga)]) (st2 := [.ref A]) (w3 := w) rfl rfl ?_
    refine sx_RP.gref (k := 0) (b := A + 1) hI hA rfl rfl (by omega) (show _ = 22 from rfl) ?_
    refine sx_RP.step (pc2 := 23) (ls2 := [(2, .int (nI x8)), (0, .ref A), (1, .ref ga)]) (st2 := [.int (nI x8), .ref (A + 1)]) (w3 := w) rfl rfl ?_
    refine sx_RP.ild (c := x8) rfl (hI.1.aS hA).1 (hI.1.aS hA).2 (sx_in_nI (show x8 < 48 by omega) (by decide)) (show (nI x8).toNatClampNeg = x8 from nI_clamp (by omega)) (show _ = 24 from rfl) ?_
    obtain ⟨x10, hx11, ex12⟩ : inR ((ia w (A + 1)).getD x8 0) 3 := hI.st hA (show x8 < 48 by omega)
    rw [ex12]
    refine sx_RP.step (pc2 := 25) (ls2 := [(2, .int (nI x8)), (0, .ref A), (1, .ref ga)]) (st2 := [.int 3, .int (nI x10)]) (w3 := w) rfl rfl ?_
    refine sx_RP.br (p1 := 34) (l1 := [(2, .int (nI x8)), (0, .ref A), (1, .ref ga)]) (s1 := []) (v1 := w) (p2 := 28) (l2 := [(2, .int (nI x8)), (0, .ref A), (1, .ref ga)]) (s2 := []) (v2 := w) rfl rfl (fun q13 => ?_) (fun q13 => ?_)
    · replace q13 := of_decide_eq_true q13
      replace q13 := mt (nI_eq (a := x10) (b := 3) (by omega) (by omega)).mpr q13
      refine sx_RP.step (pc2 := 35) (ls2 := [(2, .int (nI x8)), (0, .ref A), (1, .ref ga)]) (st2 := [.ref ga]) (w3 := w) rfl rfl ?_
      refine sx_RP.step (pc2 := 36) (ls2 := [(2, .int (nI x8)), (0, .ref A), (1, .ref ga)]) (st2 := [.ref ga, .ref ga]) (w3 := w) rfl rfl ?_
      refine sx_RP.gg (k := 4) hI hg rfl rfl (by decide) (show _ = 39 from rfl) ?_
      refine sx_RP.step (pc2 := 40) (ls2 := [(2, .int (nI x8)), (0, .ref A), (1, .ref ga)]) (st2 := [.int 1, .int (fi w ga 4), .ref ga]) (w3 := w) rfl rfl ?_
      refine sx_RP.step (pc2 := 41) (ls2 := [(2, .int (nI x8)), (0, .ref A), (1, .ref ga)]) (st2 := [.int ((fi w ga 4) + 1), .ref ga]) (w3 := w) rfl rfl ?_
      refine sx_RP.pgN (k := 4) hI hE (by omega) hg rfl rfl (by decide) rfl trivial (show _ = 44 from rfl) (fun w14 hI15 hE16 hk17 => ?_)
      refine sx_RP.step (pc2 := 45) (ls2 := [(2, .int (nI x8)), (0, .ref A), (1, .ref ga)]) (st2 := [.ref ga]) (w3 := w14) rfl rfl ?_
      refine sx_RP.gg (k := 4) hI15 hg rfl rfl (by decide) (show _ = 48 from rfl) ?_
      refine sx_RP.step (pc2 := 49) (ls2 := [(2, .int (nI x8)), (0, .ref A), (1, .ref ga)]) (st2 := [.ref A, .int (fi w14 ga 4)]) (w3 := w14) rfl rfl ?_
      refine sx_RP.step (pc2 := 50) (ls2 := [(2, .int (nI x8)), (0, .ref A), (1, .ref ga)]) (st2 := [.ref ga, .ref A, .int (fi w14 ga 4)]) (w3 := w14) rfl rfl ?_
      refine sx_RP.gg (k := 0) hI15 hg rfl rfl (by decide) (show _ = 53 from rfl) ?_
      obtain ⟨x18, hx19, ex20⟩ : inR (fi w14 ga 0) 5 := hI15.gk (k := 0) hg (by decide)
      rw [ex20]
      refine sx_RP.step (pc2 := 54) (ls2 := [(2, .int (nI x8)), (0, .ref A), (1, .ref ga)]) (st2 := [.int (nI x8), .int (nI x18), .ref A, .int (fi w14 ga 4)]) (w3 := w14) rfl rfl ?_
      obtain ⟨v21, c22⟩ := p33 hI15 hA (show x18 ≤ 5 by omega) (show x8 < 48 by omega)
      refine sx_RP.cu (as := [.ref A, .int (nI x18), .int (nI x8)]) (rest2 := [.int (fi w14 ga 4)]) (st3 := [.int v21, .int (fi w14 ga 4)]) rfl rfl (sx_inv_v2 (mi := 44) (k := 119) (st := [.int (nI x8), .int (nI x18), .ref A, .int (fi w14 ga 4)]) (w := w14) rfl rfl (hI15.1.oC hA) rfl rfl rfl) rfl rfl (c22) rfl ?_
      refine sx_RP.br (p1 := 91) (l1 := [(2, .int (nI x8)), (0, .ref A), (1, .ref ga)]) (s1 := []) (v1 := w14) (p2 := 60) (l2 := [(2, .int (nI x8)), (0, .ref A), (1, .ref ga)]) (s2 := []) (v2 := w14) rfl rfl (fun q23 => ?_) (fun q23 => ?_)
      · replace q23 := of_decide_eq_true q23
        refine sx_RP.ret (r := none) rfl rfl ?_
        exact ⟨rfl, hI15, hE16⟩
      · replace q23 := of_decide_eq_false q23
        refine sx_RP.step (pc2 := 61) (ls2 := [(2, .int (nI x8)), (0, .ref A), (1, .ref ga)]) (st2 := [.ref ga]) (w3 := w14) rfl rfl ?_
        refine sx_RP.step (pc2 := 62) (ls2 := [(2, .int (nI x8)), (0, .ref A), (1, .ref ga)]) (st2 := [.int (nI x8), .ref ga]) (w3 := w14) rfl rfl ?_
        refine sx_RP.pgN (k := 2) hI15 hE16 (by omega) hg rfl rfl (by decide) rfl (inR.n (show x8 ≤ 47 by omega)) (show _ = 65 from rfl) (fun w24 hI25 hE26 hk27 => ?_)
        refine sx_RP.step (pc2 := 66) (ls2 := [(2, .int (nI x8)), (0, .ref A), (1, .ref ga)]) (st2 := [.ref ga]) (w3 := w24) rfl rfl ?_
        refine sx_RP.step (pc2 := 67) (ls2 := [(2, .int (nI x8)), (0, .ref A), (1, .ref ga)]) (st2 := [.int 0, .ref ga]) (w3 := w24) rfl rfl ?_
        refine sx_RP.pgN (k := 4) hI25 hE26 (by omega) hg rfl rfl (by decide) rfl trivial (show _ = 70 from rfl) (fun w28 hI29 hE30 hk31 => ?_)
        refine sx_RP.step (pc2 := 71) (ls2 := [(2, .int (nI x8)), (0, .ref A), (1, .ref ga)]) (st2 := [.ref ga]) (w3 := w28) rfl rfl ?_
        refine sx_RP.step (pc2 := 72) (ls2 := [(2, .int (nI x8)), (0, .ref A), (1, .ref ga)]) (st2 := [.ref A, .ref ga]) (w3 := w28) rfl rfl ?_
        refine sx_RP.step (pc2 := 73) (ls2 := [(2, .int (nI x8)), (0, .ref A), (1, .ref ga)]) (st2 := [.ref ga, .ref A, .ref ga]) (w3 := w28) rfl rfl ?_
        refine sx_RP.gg (k := 0) hI29 hg rfl rfl (by decide) (show _ = 76 from rfl) ?_
        obtain ⟨x32, hx33, ex34⟩ : inR (fi w28 ga 0) 5 := hI29.gk (k := 0) hg (by decide)
        rw [ex34]
        refine sx_RP.step (pc2 := 77) (ls2 := [(2, .int (nI x8)), (0, .ref A), (1, .ref ga)]) (st2 := [.int (nI x8), .int (nI x32), .ref A, .ref ga]) (w3 := w28) rfl rfl ?_
        obtain ⟨x35, hx36, c37⟩ := p37 hI29 hA (show x32 ≤ 5 by omega) (show x8 < 48 by omega)
        refine sx_RP.cu (as := [.ref A, .int (nI x32), .int (nI x8)]) (rest2 := [.ref ga]) (st3 := [.int (nI x35), .ref ga]) rfl rfl (sx_inv_v2 (mi := 44) (k := 103) (st := [.int (nI x8), .int (nI x32), .ref A, .ref ga]) (w := w28) rfl rfl (hI29.1.oC hA) rfl rfl rfl) rfl rfl (c37) rfl ?_
        refine sx_RP.br (p1 := 87) (l1 := [(2, .int (nI x8)), (0, .ref A), (1, .ref ga)]) (s1 := [.ref ga]) (v1 := w28) (p2 := 83) (l2 := [(2, .int (nI x8)), (0, .ref A), (1, .ref ga)]) (s2 := [.ref ga]) (v2 := w28) rfl rfl (fun q38 => ?_) (fun q38 => ?_)
        · replace q38 := of_decide_eq_true q38
          replace q38 := mt (nI_eq (a := x35) (b := 0) (by omega) (by omega)).mpr q38
          refine sx_RP.step (pc2 := 88) (ls2 := [(2, .int (nI x8)), (0, .ref A), (1, .ref ga)]) (st2 := [.int 0, .ref ga]) (w3 := w28) rfl rfl ?_
          refine sx_RP.pgN (k := 5) hI29 hE30 (by omega) hg rfl rfl (by decide) rfl (show inR 0 1 from ⟨0, by decide, rfl⟩) (show _ = 91 from rfl) (fun w39 hI40 hE41 hk42 => ?_)
          refine sx_RP.ret (r := none) rfl rfl ?_
          exact ⟨rfl, hI40, hE41⟩
        · replace q38 := Decidable.not_not.mp (of_decide_eq_false q38)
          replace q38 := (nI_eq (a := x35) (b := 0) (by omega) (by omega)).mp q38
          refine sx_RP.step (pc2 := 84) (ls2 := [(2, .int (nI x8)), (0, .ref A), (1, .ref ga)]) (st2 := [.int 1, .ref ga]) (w3 := w28) rfl rfl ?_
          refine sx_RP.step (pc2 := 88) (ls2 := [(2, .int (nI x8)), (0, .ref A), (1, .ref ga)]) (st2 := [.int 1, .ref ga]) (w3 := w28) rfl rfl ?_
          refine sx_RP.pgN (k := 5) hI29 hE30 (by omega) hg rfl rfl (by decide) rfl (show inR 1 1 from ⟨1, by decide, rfl⟩) (show _ = 91 from rfl) (fun w43 hI44 hE45 hk46 => ?_)
          refine sx_RP.ret (r := none) rfl rfl ?_
          exact ⟨rfl, hI44, hE45⟩
    · replace q13 := Decidable.not_not.mp (of_decide_eq_false q13)
      replace q13 := (nI_eq (a := x10) (b := 3) (by omega) (by omega)).mp q13
      refine sx_RP.step (pc2 := 29) (ls2 := [(2, .int (nI x8)), (0, .ref A), (1, .ref ga)]) (st2 := [.ref ga]) (w3 := w) rfl rfl ?_
      refine sx_RP.step (pc2 := 30) (ls2 := [(2, .int (nI x8)), (0, .ref A), (1, .ref ga)]) (st2 := [.int 1, .ref ga]) (w3 := w) rfl rfl ?_
      refine sx_RP.pgN (k := 5) hI hE (by omega) hg rfl rfl (by decide) rfl (show inR 1 1 from ⟨1, by decide, rfl⟩) (show _ = 33 from rfl) (fun w47 hI48 hE49 hk50 => ?_)
      refine sx_RP.ret (r := none) rfl rfl ?_
      exact ⟨rfl, hI48, hE49⟩
set_option maxRecDepth 20000 in
set_option maxHeartbeats 4000000 in
theorem N41bB {xs : Option (List Int32)} {d : Nat} {w w0 : List sx_C} {A : Nat} (hA : isA A) (hz : A = 1 ∨ A = 29) (hI : WI w) (hE : EN w0 w) {j : Nat} (hj : j ≤ 10) (l : Int32) (kk : ∀ (w4 : List sx_C) (ul : Int32), WI w4 → EN w0 w4 → j + 1 ≤ 10 → sx_RP xs (d + 5) 41 52 [(0, .ref A), (1, .int ul), (2, .int (nI (j + 1)))] [] w4 (fun r w2 => (∃ v : Int32, r = some (.int v)) ∧ WI w2 ∧ EN w0 w2)) : sx_RP xs (d + 5) 41 52 [(0, .ref A), (1, .int l), (2, .int (nI j))] [] w (fun r w2 => (∃ v : Int32, r = some (.int v)) ∧ WI w2 ∧ EN w0 w2) := by
  refine sx_RP.step (pc2 := 53) (ls2 := [(0, .ref A), (1, .int l), (2, .int (nI j))]) (st2 := [.int (nI j)]) (w3 := w) rfl rfl ?_
  refine sx_RP.step (pc2 := 54) (ls2 := [(0, .ref A), (1, .int l), (2, .int (nI j))]) (st2 := [.ref A, .int (nI j)]) (w3 := w) rfl rfl ?_
  refine sx_RP.gc (k := 3) hI hA rfl rfl (by omega) (show _ = 57 from rfl) ?_
  obtain ⟨x1, hx2, ex3⟩ : inR (fi w A 3) 10 := (hI.c hA).1
  rw [ex3]
  refine sx_RP.br (p1 := 115) (l1 := [(0, .ref A), (1, .int l), (2, .int (nI j))]) (s1 := []) (v1 := w) (p2 := 60) (l2 := [(0, .ref A), (1, .int l), (2, .int (nI j))]) (s2 := []) (v2 := w) rfl rfl (fun q4 => ?_) (fun q4 => ?_)
  · replace q4 := of_decide_eq_true q4
    replace q4 := (nI_leI (a := x1) (b := j) (by omega) (by omega)).mp q4
    refine sx_RP.step (pc2 := 116) (ls2 := [(0, .ref A), (1, .int l), (2, .int (nI j))]) (st2 := [.ref A]) (w3 := w) rfl rfl ?_
    refine sx_RP.step (pc2 := 117) (ls2 := [(0, .ref A), (1, .int l), (2, .int (nI j))]) (st2 := [.ref A, .ref A]) (w3 := w) rfl rfl ?_
    refine sx_RP.gc (k := 6) hI hA rfl rfl (by omega) (show _ = 120 from rfl) ?_
    refine sx_RP.step (pc2 := 121) (ls2 := [(0, .ref A), (1, .int l), (2, .int (nI j))]) (st2 := [.int 1, .int (fi w A 6), .ref A]) (w3 := w) rfl rfl ?_
    refine sx_RP.step (pc2 := 122) (ls2 := [(0, .ref A), (1, .int l), (2, .int (nI j))]) (st2 := [.int ((fi w A 6) + 1), .ref A]) (w3 := w) rfl rfl ?_
    refine sx_RP.putcN (k := 6) hI hE (by omega) hA rfl rfl (by omega) rfl trivial (show _ = 125 from rfl) (fun w5 hI6 hE7 => ?_)
    refine sx_RP.step (pc2 := 126) (ls2 := [(0, .ref A), (1, .int l), (2, .int (nI j))]) (st2 := [.int l]) (w3 := w5) rfl rfl ?_
    refine sx_RP.step (pc2 := 127) (ls2 := [(0, .ref A), (1, .int l), (2, .int (nI j))]) (st2 := [.ref A, .int l]) (w3 := w5) rfl rfl ?_
    refine sx_RP.step (pc2 := 128) (ls2 := [(0, .ref A), (1, .int l), (2, .int (nI j))]) (st2 := [.int 0, .ref A, .int l]) (w3 := w5) rfl rfl ?_
    obtain ⟨v8, c9⟩ := p42 hI6 hA 0
    refine sx_RP.cu (as := [.ref A, .int 0]) (rest2 := [.int l]) (st3 := [.int v8, .int l]) rfl rfl (sx_inv_v2 (mi := 41) (k := 106) (st := [.int 0, .ref A, .int l]) (w := w5) rfl rfl (hI6.1.oC hA) rfl rfl rfl) rfl rfl (c9) rfl ?_
    refine sx_RP.step (pc2 := 132) (ls2 := [(0, .ref A), (1, .int l), (2, .int (nI j))]) (st2 := [.int (l - v8)]) (w3 := w5) rfl rfl ?_
    refine sx_RP.step (pc2 := 133) (ls2 := [(0, .ref A), (1, .int l), (2, .int (nI j))]) (st2 := [.ref A, .int (l - v8)]) (w3 := w5) rfl rfl ?_
    refine sx_RP.step (pc2 := 134) (ls2 := [(0, .ref A), (1, .int l), (2, .int (nI j))]) (st2 := [.int 1, .ref A, .int (l - v8)]) (w3 := w5) rfl rfl ?_
    obtain ⟨v10, c11⟩ := p42 hI6 hA 1
    refine sx_RP.cu (as := [.ref A, .int 1]) (rest2 := [.int (l - v8)]) (st3 := [.int v10, .int (l - v8)]) rfl rfl (sx_inv_v2 (mi := 41) (k := 106) (st := [.int 1, .ref A, .int (l - v8)]) (w := w5) rfl rfl (hI6.1.oC hA) rfl rfl rfl) rfl rfl (c11) rfl ?_
    refine sx_RP.step (pc2 := 138) (ls2 := [(0, .ref A), (1, .int l), (2, .int (nI j))]) (st2 := [.int ((l - v8) - v10)]) (w3 := w5) rfl rfl ?_
    refine sx_RP.ret (r := (some (.int ((l - v8) - v10)))) rfl rfl ?_
    exact ⟨⟨_, rfl⟩, hI6, hE7⟩
  · replace q4 := of_decide_eq_false q4
    replace q4 := mt (nI_leI (a := x1) (b := j) (by omega) (by omega)).mpr q4
    refine sx_RP.step (pc2 := 61) (ls2 := [(0, .ref A), (1, .int l), (2, .int (nI j))]) (st2 := [.ref A]) (w3 := w) rfl rfl ?_
    refine sx_RP.gref (k := 2) (b := A + 2) hI hA rfl rfl (by omega) (show _ = 64 from rfl) ?_
    refine sx_RP.step (pc2 := 65) (ls2 := [(0, .ref A), (1, .int l), (2, .int (nI j))]) (st2 := [.int (nI j), .ref (A + 2)]) (w3 := w) rfl rfl ?_
    refine sx_RP.ald (v := .ref (A + 4 + j)) rfl (hI.1.aG hA) rfl (grA_at (show j < 10 by omega)) (show _ = 66 from rfl) ?_
    refine sx_RP.step (pc2 := 67) (ls2 := [(0, .ref A), (1, .int l), (2, .int (nI j))]) (st2 := [.int 0, .ref (A + 4 + j)]) (w3 := w) rfl rfl ?_
    obtain ⟨x12, hx13, c14⟩ := p43 hI (gAd.of hA (show j < 10 by omega)) 0
    refine sx_RP.cu (as := [.ref (A + 4 + j), .int 0]) (rest2 := []) (st3 := [.int (nI x12)]) rfl rfl (sx_inv_v2 (mi := 41) (k := 82) (st := [.int 0, .ref (A + 4 + j)]) (w := w) rfl rfl (hI.1.oG (gAd.of hA (show j < 10 by omega))) rfl rfl rfl) rfl rfl (c14) rfl ?_
    refine sx_RP.br (p1 := 109) (l1 := [(0, .ref A), (1, .int l), (2, .int (nI j))]) (s1 := []) (v1 := w) (p2 := 73) (l2 := [(0, .ref A), (1, .int l), (2, .int (nI j))]) (s2 := []) (v2 := w) rfl rfl (fun q15 => ?_) (fun q15 => ?_)
    · replace q15 := of_decide_eq_true q15
      replace q15 := (nI_eq (a := x12) (b := 0) (by omega) (by omega)).mp q15
      refine sx_RP.step (pc2 := 112) (ls2 := [(2, .int ((nI j) + 1)), (0, .ref A), (1, .int l)]) (st2 := []) (w3 := w) rfl rfl ?_
      rw [nI_1 j]
      refine sx_RP.step (pc2 := 52) (ls2 := [(2, .int (nI (j + 1))), (0, .ref A), (1, .int l)]) (st2 := []) (w3 := w) rfl rfl ?_
      exact sx_RP.ls (sx_lr.cons rfl (sx_lr.cons rfl (sx_lr.cons rfl sx_lr.nil))) (kk w l hI hE (by omega))
    · replace q15 := of_decide_eq_false q15
      replace q15 := mt (nI_eq (a := x12) (b := 0) (by omega) (by omega)).mpr q15
      refine sx_RP.step (pc2 := 74) (ls2 := [(0, .ref A), (1, .int l), (2, .int (nI j))]) (st2 := [.ref A]) (w3 := w) rfl rfl ?_
      refine sx_RP.step (pc2 := 75) (ls2 := [(0, .ref A), (1, .int l), (2, .int (nI j))]) (st2 := [.ref A, .ref A]) (w3 := w) rfl rfl ?_
      refine sx_RP.gref (k := 2) (b := A + 2) hI hA rfl rfl (by omega) (show _ = 78 from rfl) ?_
      refine sx_RP.step (pc2 := 79) (ls2 := [(0, .ref A), (1, .int l), (2, .int (nI j))]) (st2 := [.int (nI j), .ref (A + 2), .ref A]) (w3 := w) rfl rfl ?_
      refine sx_RP.ald (v := .ref (A + 4 + j)) rfl (hI.1.aG hA) rfl (grA_at (show j < 10 by omega)) (show _ = 80 from rfl) ?_
      refine sx_RP.gg (k := 2) hI (gAd.of hA (show j < 10 by omega)) rfl rfl (by decide) (show _ = 83 from rfl) ?_
      obtain ⟨x16, hx17, ex18⟩ : inR (fi w (A + 4 + j) 2) 47 := hI.gk (k := 2) (gAd.of hA (show j < 10 by omega)) (by decide)
      rw [ex18]
      obtain ⟨x19, hx20, c21⟩ := p45 hI hA (nI x16)
      refine sx_RP.cu (as := [.ref A, .int (nI x16)]) (rest2 := []) (st3 := [.int (nI x19)]) rfl rfl (sx_inv_v2 (mi := 41) (k := 113) (st := [.int (nI x16), .ref A]) (w := w) rfl rfl (hI.1.oC hA) rfl rfl rfl) rfl rfl (c21) rfl ?_
      refine sx_RP.br (p1 := 109) (l1 := [(0, .ref A), (1, .int l), (2, .int (nI j))]) (s1 := []) (v1 := w) (p2 := 89) (l2 := [(0, .ref A), (1, .int l), (2, .int (nI j))]) (s2 := []) (v2 := w) rfl rfl (fun q22 => ?_) (fun q22 => ?_)
      · replace q22 := of_decide_eq_true q22
        replace q22 := (nI_eq (a := x19) (b := 0) (by omega) (by omega)).mp q22
        refine sx_RP.step (pc2 := 112) (ls2 := [(2, .int ((nI j) + 1)), (0, .ref A), (1, .int l)]) (st2 := []) (w3 := w) rfl rfl ?_
        rw [nI_1 j]
        refine sx_RP.step (pc2 := 52) (ls2 := [(2, .int (nI (j + 1))), (0, .ref A), (1, .int l)]) (st2 := []) (w3 := w) rfl rfl ?_
        exact sx_RP.ls (sx_lr.cons rfl (sx_lr.cons rfl (sx_lr.cons rfl sx_lr.nil))) (kk w l hI hE (by omega))
      · replace q22 := of_decide_eq_false q22
        replace q22 := mt (nI_eq (a := x19) (b := 0) (by omega) (by omega)).mpr q22
        refine sx_RP.step (pc2 := 90) (ls2 := [(0, .ref A), (1, .int l), (2, .int (nI j))]) (st2 := [.ref A]) (w3 := w) rfl rfl ?_
        refine sx_RP.gref (k := 2) (b := A + 2) hI hA rfl rfl (by omega) (show _ = 93 from rfl) ?_
        refine sx_RP.step (pc2 := 94) (ls2 := [(0, .ref A), (1, .int l), (2, .int (nI j))]) (st2 := [.int (nI j), .ref (A + 2)]) (w3 := w) rfl rfl ?_
        refine sx_RP.ald (v := .ref (A + 4 + j)) rfl (hI.1.aG hA) rfl (grA_at (show j < 10 by omega)) (show _ = 95 from rfl) ?_
        refine sx_RP.step (pc2 := 96) (ls2 := [(0, .ref A), (1, .int l), (2, .int (nI j))]) (st2 := [.int 1, .ref (A + 4 + j)]) (w3 := w) rfl rfl ?_
        refine sx_RP.pgN (k := 5) hI hE (by omega) (gAd.of hA (show j < 10 by omega)) rfl rfl (by decide) rfl (show inR 1 1 from ⟨1, by decide, rfl⟩) (show _ = 99 from rfl) (fun w23 hI24 hE25 hk26 => ?_)
        have ex27 := (hk26 A 3 hA).trans ex3
        refine sx_RP.step (pc2 := 100) (ls2 := [(0, .ref A), (1, .int l), (2, .int (nI j))]) (st2 := [.ref A]) (w3 := w23) rfl rfl ?_
        refine sx_RP.step (pc2 := 101) (ls2 := [(0, .ref A), (1, .int l), (2, .int (nI j))]) (st2 := [.ref A, .ref A]) (w3 := w23) rfl rfl ?_
        refine sx_RP.gc (k := 7) hI24 hA rfl rfl (by omega) (show _ = 104 from rfl) ?_
        refine sx_RP.step (pc2 := 105) (ls2 := [(0, .ref A), (1, .int l), (2, .int (nI j))]) (st2 := [.int 1, .int (fi w23 A 7), .ref A]) (w3 := w23) rfl rfl ?_
        refine sx_RP.step (pc2 := 106) (ls2 := [(0, .ref A), (1, .int l), (2, .int (nI j))]) (st2 := [.int ((fi w23 A 7) + 1), .ref A]) (w3 := w23) rfl rfl ?_
        refine sx_RP.putcN (k := 7) hI24 hE25 (by omega) hA rfl rfl (by omega) rfl trivial (show _ = 109 from rfl) (fun w28 hI29 hE30 => ?_)
        refine sx_RP.step (pc2 := 112) (ls2 := [(2, .int ((nI j) + 1)), (0, .ref A), (1, .int l)]) (st2 := []) (w3 := w28) rfl rfl ?_
        rw [nI_1 j]
        refine sx_RP.step (pc2 := 52) (ls2 := [(2, .int (nI (j + 1))), (0, .ref A), (1, .int l)]) (st2 := []) (w3 := w28) rfl rfl ?_
        exact sx_RP.ls (sx_lr.cons rfl (sx_lr.cons rfl (sx_lr.cons rfl sx_lr.nil))) (kk w28 l hI29 hE30 (by omega))
set_option maxRecDepth 20000 in
set_option maxHeartbeats 4000000 in
theorem N41bL {xs : Option (List Int32)} {d : Nat} {w0 : List sx_C} {A : Nat} (hA : isA A) (hz : A = 1 ∨ A = 29) : ∀ (fz j : Nat) (w : List sx_C) (l : Int32) , 10 ≤ j + fz * 1 → j ≤ 10 → WI w → EN w0 w → sx_RP xs (d + 5) 41 52 [(0, .ref A), (1, .int l), (2, .int (nI j))] [] w (fun r w2 => (∃ v : Int32, r = some (.int v)) ∧ WI w2 ∧ EN w0 w2)
  | 0, j, w, l, h, hj, hI, hE => N41bB hA hz hI hE hj l  (fun w4 ul hI4 hE4 hlt  => absurd hlt (by omega)) 
  | fz + 1, j, w, l, h, hj, hI, hE => N41bB hA hz hI hE hj l  (fun w4 ul hI4 hE4 hlt  => N41bL hA hz  fz (j + 1) w4 ul (by omega) hlt hI4 hE4 ) 
set_option maxRecDepth 20000 in
set_option maxHeartbeats 4000000 in
theorem N41aB {xs : Option (List Int32)} {d : Nat} {w w0 : List sx_C} {A : Nat} (hA : isA A) (hz : A = 1 ∨ A = 29) (hI : WI w) (hE : EN w0 w) {j : Nat} (hj : j ≤ 10) (l : Int32) (kk : ∀ (w4 : List sx_C) (ul : Int32), WI w4 → EN w0 w4 → j + 1 ≤ 10 → sx_RP xs (d + 5) 41 14 [(0, .ref A), (1, .int ul), (2, .int (nI (j + 1)))] [] w4 (fun r w2 => (∃ v : Int32, r = some (.int v)) ∧ WI w2 ∧ EN w0 w2)) (kx50 : ∀ (w4 : List sx_C) (ul : Int32), WI w4 → EN w0 w4 → sx_RP xs (d + 5) 41 50 [(0, .ref A), (1, .int ul)] [] w4 (fun r w2 => (∃ v : Int32, r = some (.int v)) ∧ WI w2 ∧ EN w0 w2)) : sx_RP xs (d + 5) 41 14 [(0, .ref A), (1, .int l), (2, .int (nI j))] [] w (fun r w2 => (∃ v : Int32, r = some (.int v)) ∧ WI w2 ∧ EN w0 w2) := by
  refine sx_RP.step (pc2 := 15) (ls2 := [(0, .ref A), (1, .int l), (2, .int (nI j))]) (st2 := [.int (nI j)]) (w3 := w) rfl rfl ?_
  refine sx_RP.step (pc2 := 16) (ls2 := [(0, .ref A), (1, .int l), (2, .int (nI j))]) (st2 := [.ref A, .int (nI j)]) (w3 := w) rfl rfl ?_
  refine sx_RP.gc (k := 3) hI hA rfl rfl (by omega) (show _ = 19 from rfl) ?_
  obtain ⟨x1, hx2, ex3⟩ : inR (fi w A 3) 10 := (hI.c hA).1
  rw [ex3]
  refine sx_RP.br (p1 := 50) (l1 := [(0, .ref A), (1, .int l), (2, .int (nI j))]) (s1 := []) (v1 := w) (p2 := 22) (l2 := [(0, .ref A), (1, .int l), (2, .int (nI j))]) (s2 := []) (v2 := w) rfl rfl (fun q4 => ?_) (fun q4 => ?_)
  · replace q4 := of_decide_eq_true q4
    replace q4 := (nI_leI (a := x1) (b := j) (by omega) (by omega)).mp q4
    exact sx_RP.ls (sx_lr.cons rfl (sx_lr.cons rfl sx_lr.nil)) (kx50 w l hI hE)
  · replace q4 := of_decide_eq_false q4
    replace q4 := mt (nI_leI (a := x1) (b := j) (by omega) (by omega)).mpr q4
    refine sx_RP.step (pc2 := 23) (ls2 := [(0, .ref A), (1, .int l), (2, .int (nI j))]) (st2 := [.ref A]) (w3 := w) rfl rfl ?_
    refine sx_RP.gref (k := 2) (b := A + 2) hI hA rfl rfl (by omega) (show _ = 26 from rfl) ?_
    refine sx_RP.step (pc2 := 27) (ls2 := [(0, .ref A), (1, .int l), (2, .int (nI j))]) (st2 := [.int (nI j), .ref (A + 2)]) (w3 := w) rfl rfl ?_
    refine sx_RP.ald (v := .ref (A + 4 + j)) rfl (hI.1.aG hA) rfl (grA_at (show j < 10 by omega)) (show _ = 28 from rfl) ?_
    refine sx_RP.gg (k := 5) hI (gAd.of hA (show j < 10 by omega)) rfl rfl (by decide) (show _ = 31 from rfl) ?_
    obtain ⟨x5, hx6, ex7⟩ : inR (fi w (A + 4 + j) 5) 1 := hI.gk (k := 5) (gAd.of hA (show j < 10 by omega)) (by decide)
    rw [ex7]
    refine sx_RP.br (p1 := 44) (l1 := [(0, .ref A), (1, .int l), (2, .int (nI j))]) (s1 := []) (v1 := w) (p2 := 34) (l2 := [(0, .ref A), (1, .int l), (2, .int (nI j))]) (s2 := []) (v2 := w) rfl rfl (fun q8 => ?_) (fun q8 => ?_)
    · replace q8 := of_decide_eq_true q8
      replace q8 := mt (nI_eq (a := x5) (b := 0) (by omega) (by omega)).mpr q8
      refine sx_RP.step (pc2 := 47) (ls2 := [(2, .int ((nI j) + 1)), (0, .ref A), (1, .int l)]) (st2 := []) (w3 := w) rfl rfl ?_
      rw [nI_1 j]
      refine sx_RP.step (pc2 := 14) (ls2 := [(2, .int (nI (j + 1))), (0, .ref A), (1, .int l)]) (st2 := []) (w3 := w) rfl rfl ?_
      exact sx_RP.ls (sx_lr.cons rfl (sx_lr.cons rfl (sx_lr.cons rfl sx_lr.nil))) (kk w l hI hE (by omega))
    · replace q8 := Decidable.not_not.mp (of_decide_eq_false q8)
      replace q8 := (nI_eq (a := x5) (b := 0) (by omega) (by omega)).mp q8
      refine sx_RP.step (pc2 := 35) (ls2 := [(0, .ref A), (1, .int l), (2, .int (nI j))]) (st2 := [.ref A]) (w3 := w) rfl rfl ?_
      refine sx_RP.step (pc2 := 36) (ls2 := [(0, .ref A), (1, .int l), (2, .int (nI j))]) (st2 := [.ref A, .ref A]) (w3 := w) rfl rfl ?_
      refine sx_RP.gref (k := 2) (b := A + 2) hI hA rfl rfl (by omega) (show _ = 39 from rfl) ?_
      refine sx_RP.step (pc2 := 40) (ls2 := [(0, .ref A), (1, .int l), (2, .int (nI j))]) (st2 := [.int (nI j), .ref (A + 2), .ref A]) (w3 := w) rfl rfl ?_
      refine sx_RP.ald (v := .ref (A + 4 + j)) rfl (hI.1.aG hA) rfl (grA_at (show j < 10 by omega)) (show _ = 41 from rfl) ?_
      refine sx_RP.callp (as2 := [.ref A, .ref (A + 4 + j)]) (rest2 := []) rfl rfl (sx_inv_v2 (mi := 41) (k := 110) (st := [.ref (A + 4 + j), .ref A]) (w := w) rfl rfl (hI.1.oC hA) rfl rfl rfl) rfl rfl rfl (N44 hI hA (gAd.of hA (show j < 10 by omega)) (by omega)) (show _ = 44 from rfl) ?_
      rintro r4 w9 ⟨rfl, hI10, hE12⟩
      have hE11 := hE.tr (hE12)
      show sx_RP _ _ _ _ _ [] _ _
      refine sx_RP.step (pc2 := 47) (ls2 := [(2, .int ((nI j) + 1)), (0, .ref A), (1, .int l)]) (st2 := []) (w3 := w9) rfl rfl ?_
      rw [nI_1 j]
      refine sx_RP.step (pc2 := 14) (ls2 := [(2, .int (nI (j + 1))), (0, .ref A), (1, .int l)]) (st2 := []) (w3 := w9) rfl rfl ?_
      exact sx_RP.ls (sx_lr.cons rfl (sx_lr.cons rfl (sx_lr.cons rfl sx_lr.nil))) (kk w9 l hI10 hE11 (by omega))
set_option maxRecDepth 20000 in
set_option maxHeartbeats 4000000 in
theorem N41aL {xs : Option (List Int32)} {d : Nat} {w0 : List sx_C} {A : Nat} (hA : isA A) (hz : A = 1 ∨ A = 29) (kx50 : ∀ (w4 : List sx_C) (ul : Int32), WI w4 → EN w0 w4 → sx_RP xs (d + 5) 41 50 [(0, .ref A), (1, .int ul)] [] w4 (fun r w2 => (∃ v : Int32, r = some (.int v)) ∧ WI w2 ∧ EN w0 w2)) : ∀ (fz j : Nat) (w : List sx_C) (l : Int32) , 10 ≤ j + fz * 1 → j ≤ 10 → WI w → EN w0 w → sx_RP xs (d + 5) 41 14 [(0, .ref A), (1, .int l), (2, .int (nI j))] [] w (fun r w2 => (∃ v : Int32, r = some (.int v)) ∧ WI w2 ∧ EN w0 w2)
  | 0, j, w, l, h, hj, hI, hE => N41aB hA hz hI hE hj l  (fun w4 ul hI4 hE4 hlt  => absurd hlt (by omega)) kx50
  | fz + 1, j, w, l, h, hj, hI, hE => N41aB hA hz hI hE hj l  (fun w4 ul hI4 hE4 hlt  => N41aL hA hz kx50 fz (j + 1) w4 ul (by omega) hlt hI4 hE4 ) kx50
set_option maxRecDepth 20000 in
set_option maxHeartbeats 4000000 in
theorem N41 {xs : Option (List Int32)} {d : Nat} {w : List sx_C} (hI : WI w) {A : Nat} (hA : isA A) (hz : A = 1 ∨ A = 29) : sx_RP xs (d + 5) 41 0 (lv_args 0 [.ref A]) [] w (fun r w2 => (∃ v : Int32, r = some (.int v)) ∧ WI w2 ∧ EN w w2) := by
  have hE : EN w w := EN.rf
  refine sx_RP.step (pc2 := 1) (ls2 := [(0, .ref A)]) (st2 := [.ref A]) (w3 := w) rfl rfl ?_
  refine sx_RP.step (pc2 := 2) (ls2 := [(0, .ref A)]) (st2 := [.int 0, .ref A]) (w3 := w) rfl rfl ?_
  obtain ⟨v1, c2⟩ := p42 hI hA 0
  refine sx_RP.cu (as := [.ref A, .int 0]) (rest2 := []) (st3 := [.int v1]) rfl rfl (sx_inv_v2 (mi := 41) (k := 106) (st := [.int 0, .ref A]) (w := w) rfl rfl (hI.1.oC hA) rfl rfl rfl) rfl rfl (c2) rfl ?_
  refine sx_RP.step (pc2 := 6) (ls2 := [(0, .ref A)]) (st2 := [.ref A, .int v1]) (w3 := w) rfl rfl ?_
  refine sx_RP.step (pc2 := 7) (ls2 := [(0, .ref A)]) (st2 := [.int 1, .ref A, .int v1]) (w3 := w) rfl rfl ?_
  obtain ⟨v3, c4⟩ := p42 hI hA 1
  refine sx_RP.cu (as := [.ref A, .int 1]) (rest2 := [.int v1]) (st3 := [.int v3, .int v1]) rfl rfl (sx_inv_v2 (mi := 41) (k := 106) (st := [.int 1, .ref A, .int v1]) (w := w) rfl rfl (hI.1.oC hA) rfl rfl rfl) rfl rfl (c4) rfl ?_
  refine sx_RP.step (pc2 := 11) (ls2 := [(0, .ref A)]) (st2 := [.int (v1 + v3)]) (w3 := w) rfl rfl ?_
  refine sx_RP.step (pc2 := 12) (ls2 := [(1, .int (v1 + v3)), (0, .ref A)]) (st2 := []) (w3 := w) rfl rfl ?_
  refine sx_RP.step (pc2 := 13) (ls2 := [(1, .int (v1 + v3)), (0, .ref A)]) (st2 := [.int 0]) (w3 := w) rfl rfl ?_
  refine sx_RP.step (pc2 := 14) (ls2 := [(2, .int 0), (1, .int (v1 + v3)), (0, .ref A)]) (st2 := []) (w3 := w) rfl rfl ?_
  refine sx_RP.ls (sx_lr.cons rfl (sx_lr.cons rfl (sx_lr.cons rfl sx_lr.nil))) (N41aL hA hz (fun w5 u8 hI6 hE7 => ?_) 10 0 w (v1 + v3) (by omega) (by omega) hI hE )
  refine sx_RP.step (pc2 := 51) (ls2 := [(0, .ref A), (1, .int u8)]) (st2 := [.int 0]) (w3 := w5) rfl rfl ?_
  refine sx_RP.step (pc2 := 52) (ls2 := [(2, .int 0), (0, .ref A), (1, .int u8)]) (st2 := []) (w3 := w5) rfl rfl ?_
  exact sx_RP.ls (sx_lr.cons rfl (sx_lr.cons rfl (sx_lr.cons rfl sx_lr.nil))) (N41bL hA hz 10 0 w5 u8 (by omega) (by omega) hI6 hE7 )
set_option maxRecDepth 20000 in
set_option maxHeartbeats 4000000 in
theorem N80bB {xs : Option (List Int32)} {d : Nat} {w w0 : List sx_C} {A : Nat} (hA : isA A) (hz : A = 1 ∨ A = 29) (x : Int64) (hI : WI w) (hE : EN w0 w) {j : Nat} (hj : j ≤ 48) (l : Int32) (kk : ∀ (w4 : List sx_C) (ul : Int32), WI w4 → EN w0 w4 → j + 1 ≤ 48 → sx_RP xs d 80 77 [(0, .ref A), (1, .long x), (3, .int ul), (4, .int (nI (j + 1)))] [] w4 (fun r w2 => (∃ v : Int32, r = some (.int v)) ∧ WI w2 ∧ EN w0 w2)) : sx_RP xs d 80 77 [(0, .ref A), (1, .long x), (3, .int l), (4, .int (nI j))] [] w (fun r w2 => (∃ v : Int32, r = some (.int v)) ∧ WI w2 ∧ EN w0 w2) := by
  refine sx_RP.step (pc2 := 79) (ls2 := [(0, .ref A), (1, .long x), (3, .int l), (4, .int (nI j))]) (st2 := [.int (nI j)]) (w3 := w) rfl rfl ?_
  refine sx_RP.step (pc2 := 81) (ls2 := [(0, .ref A), (1, .long x), (3, .int l), (4, .int (nI j))]) (st2 := [.int 48, .int (nI j)]) (w3 := w) rfl rfl ?_
  refine sx_RP.br (p1 := 120) (l1 := [(0, .ref A), (1, .long x), (3, .int l), (4, .int (nI j))]) (s1 := []) (v1 := w) (p2 := 84) (l2 := [(0, .ref A), (1, .long x), (3, .int l), (4, .int (nI j))]) (s2 := []) (v2 := w) rfl rfl (fun q1 => ?_) (fun q1 => ?_)
  · replace q1 := of_decide_eq_true q1
    replace q1 := (nI_leI (a := 48) (b := j) (by omega) (by omega)).mp q1
    refine sx_RP.step (pc2 := 121) (ls2 := [(0, .ref A), (1, .long x), (3, .int l), (4, .int (nI j))]) (st2 := [.int l]) (w3 := w) rfl rfl ?_
    refine sx_RP.ret (r := (some (.int l))) rfl rfl ?_
    exact ⟨⟨_, rfl⟩, hI, hE⟩
  · replace q1 := of_decide_eq_false q1
    replace q1 := mt (nI_leI (a := 48) (b := j) (by omega) (by omega)).mpr q1
    refine sx_RP.step (pc2 := 85) (ls2 := [(0, .ref A), (1, .long x), (3, .int l), (4, .int (nI j))]) (st2 := [.ref A]) (w3 := w) rfl rfl ?_
    refine sx_RP.gref (k := 0) (b := A + 1) hI hA rfl rfl (by omega) (show _ = 88 from rfl) ?_
    refine sx_RP.step (pc2 := 90) (ls2 := [(0, .ref A), (1, .long x), (3, .int l), (4, .int (nI j))]) (st2 := [.int (nI j), .ref (A + 1)]) (w3 := w) rfl rfl ?_
    refine sx_RP.ild (c := j) rfl (hI.1.aS hA).1 (hI.1.aS hA).2 (sx_in_nI (show j < 48 by omega) (by decide)) (show (nI j).toNatClampNeg = j from nI_clamp (by omega)) (show _ = 91 from rfl) ?_
    obtain ⟨x2, hx3, ex4⟩ : inR ((ia w (A + 1)).getD j 0) 3 := hI.st hA (show j < 48 by omega)
    rw [ex4]
    refine sx_RP.step (pc2 := 92) (ls2 := [(0, .ref A), (1, .long x), (3, .int l), (4, .int (nI j))]) (st2 := [.int 2, .int (nI x2)]) (w3 := w) rfl rfl ?_
    refine sx_RP.br (p1 := 114) (l1 := [(0, .ref A), (1, .long x), (3, .int l), (4, .int (nI j))]) (s1 := []) (v1 := w) (p2 := 95) (l2 := [(0, .ref A), (1, .long x), (3, .int l), (4, .int (nI j))]) (s2 := []) (v2 := w) rfl rfl (fun q5 => ?_) (fun q5 => ?_)
    · replace q5 := of_decide_eq_true q5
      replace q5 := mt (nI_eq (a := x2) (b := 2) (by omega) (by omega)).mpr q5
      refine sx_RP.step (pc2 := 117) (ls2 := [(4, .int ((nI j) + 1)), (0, .ref A), (1, .long x), (3, .int l)]) (st2 := []) (w3 := w) rfl rfl ?_
      rw [nI_1 j]
      refine sx_RP.step (pc2 := 77) (ls2 := [(4, .int (nI (j + 1))), (0, .ref A), (1, .long x), (3, .int l)]) (st2 := []) (w3 := w) rfl rfl ?_
      exact sx_RP.ls (sx_lr.cons rfl (sx_lr.cons rfl (sx_lr.cons rfl (sx_lr.cons rfl sx_lr.nil)))) (kk w l hI hE (by omega))
    · replace q5 := Decidable.not_not.mp (of_decide_eq_false q5)
      replace q5 := (nI_eq (a := x2) (b := 2) (by omega) (by omega)).mp q5
      refine sx_RP.step (pc2 := 96) (ls2 := [(0, .ref A), (1, .long x), (3, .int l), (4, .int (nI j))]) (st2 := [.long x]) (w3 := w) rfl rfl ?_
      refine sx_RP.step (pc2 := 98) (ls2 := [(0, .ref A), (1, .long x), (3, .int l), (4, .int (nI j))]) (st2 := [.int (nI j), .long x]) (w3 := w) rfl rfl ?_
      refine sx_RP.step (pc2 := 99) (ls2 := [(0, .ref A), (1, .long x), (3, .int l), (4, .int (nI j))]) (st2 := [.long ((x.toUInt64 >>> ((nI j).toInt64.toUInt64 &&& Int64.toUInt64 63)).toInt64)]) (w3 := w) rfl rfl ?_
      refine sx_RP.step (pc2 := 100) (ls2 := [(0, .ref A), (1, .long x), (3, .int l), (4, .int (nI j))]) (st2 := [.long 1, .long ((x.toUInt64 >>> ((nI j).toInt64.toUInt64 &&& Int64.toUInt64 63)).toInt64)]) (w3 := w) rfl rfl ?_
      refine sx_RP.step (pc2 := 101) (ls2 := [(0, .ref A), (1, .long x), (3, .int l), (4, .int (nI j))]) (st2 := [.long (((x.toUInt64 >>> ((nI j).toInt64.toUInt64 &&& Int64.toUInt64 63)).toInt64) &&& 1)]) (w3 := w) rfl rfl ?_
      refine sx_RP.step (pc2 := 102) (ls2 := [(0, .ref A), (1, .long x), (3, .int l), (4, .int (nI j))]) (st2 := [.long 1, .long (((x.toUInt64 >>> ((nI j).toInt64.toUInt64 &&& Int64.toUInt64 63)).toInt64) &&& 1)]) (w3 := w) rfl rfl ?_
      refine sx_RP.step (pc2 := 103) (ls2 := [(0, .ref A), (1, .long x), (3, .int l), (4, .int (nI j))]) (st2 := [.int (lg_cmp (((x.toUInt64 >>> ((nI j).toInt64.toUInt64 &&& Int64.toUInt64 63)).toInt64) &&& 1) 1)]) (w3 := w) rfl rfl ?_
      refine sx_RP.br (p1 := 114) (l1 := [(0, .ref A), (1, .long x), (3, .int l), (4, .int (nI j))]) (s1 := []) (v1 := w) (p2 := 106) (l2 := [(0, .ref A), (1, .long x), (3, .int l), (4, .int (nI j))]) (s2 := []) (v2 := w) rfl rfl (fun q6 => ?_) (fun q6 => ?_)
      · replace q6 := of_decide_eq_true q6
        refine sx_RP.step (pc2 := 117) (ls2 := [(4, .int ((nI j) + 1)), (0, .ref A), (1, .long x), (3, .int l)]) (st2 := []) (w3 := w) rfl rfl ?_
        rw [nI_1 j]
        refine sx_RP.step (pc2 := 77) (ls2 := [(4, .int (nI (j + 1))), (0, .ref A), (1, .long x), (3, .int l)]) (st2 := []) (w3 := w) rfl rfl ?_
        exact sx_RP.ls (sx_lr.cons rfl (sx_lr.cons rfl (sx_lr.cons rfl (sx_lr.cons rfl sx_lr.nil)))) (kk w l hI hE (by omega))
      · replace q6 := Decidable.not_not.mp (of_decide_eq_false q6)
        refine sx_RP.step (pc2 := 107) (ls2 := [(0, .ref A), (1, .long x), (3, .int l), (4, .int (nI j))]) (st2 := [.ref A]) (w3 := w) rfl rfl ?_
        refine sx_RP.gref (k := 0) (b := A + 1) hI hA rfl rfl (by omega) (show _ = 110 from rfl) ?_
        refine sx_RP.step (pc2 := 112) (ls2 := [(0, .ref A), (1, .long x), (3, .int l), (4, .int (nI j))]) (st2 := [.int (nI j), .ref (A + 1)]) (w3 := w) rfl rfl ?_
        refine sx_RP.step (pc2 := 113) (ls2 := [(0, .ref A), (1, .long x), (3, .int l), (4, .int (nI j))]) (st2 := [.int 0, .int (nI j), .ref (A + 1)]) (w3 := w) rfl rfl ?_
        refine sx_RP.stSN hI hE (by omega) hA rfl (sx_in_nI (show j < 48 by omega) (by decide)) (show inR 0 3 from ⟨0, by decide, rfl⟩) (show _ = 114 from rfl) (fun w7 hI8 hE9 => ?_)
        refine sx_RP.step (pc2 := 117) (ls2 := [(4, .int ((nI j) + 1)), (0, .ref A), (1, .long x), (3, .int l)]) (st2 := []) (w3 := w7) rfl rfl ?_
        rw [nI_1 j]
        refine sx_RP.step (pc2 := 77) (ls2 := [(4, .int (nI (j + 1))), (0, .ref A), (1, .long x), (3, .int l)]) (st2 := []) (w3 := w7) rfl rfl ?_
        exact sx_RP.ls (sx_lr.cons rfl (sx_lr.cons rfl (sx_lr.cons rfl (sx_lr.cons rfl sx_lr.nil)))) (kk w7 l hI8 hE9 (by omega))
set_option maxRecDepth 20000 in
set_option maxHeartbeats 4000000 in
theorem N80bL {xs : Option (List Int32)} {d : Nat} {w0 : List sx_C} {A : Nat} (hA : isA A) (hz : A = 1 ∨ A = 29) (x : Int64) : ∀ (fz j : Nat) (w : List sx_C) (l : Int32) , 48 ≤ j + fz * 1 → j ≤ 48 → WI w → EN w0 w → sx_RP xs d 80 77 [(0, .ref A), (1, .long x), (3, .int l), (4, .int (nI j))] [] w (fun r w2 => (∃ v : Int32, r = some (.int v)) ∧ WI w2 ∧ EN w0 w2)
  | 0, j, w, l, h, hj, hI, hE => N80bB hA hz x hI hE hj l  (fun w4 ul hI4 hE4 hlt  => absurd hlt (by omega)) 
  | fz + 1, j, w, l, h, hj, hI, hE => N80bB hA hz x hI hE hj l  (fun w4 ul hI4 hE4 hlt  => N80bL hA hz x  fz (j + 1) w4 ul (by omega) hlt hI4 hE4 ) 
set_option maxRecDepth 20000 in
set_option maxHeartbeats 4000000 in
theorem N80aB {xs : Option (List Int32)} {d : Nat} {w w0 : List sx_C} {A : Nat} (hA : isA A) (hz : A = 1 ∨ A = 29) (x : Int64) (hI : WI w) (hE : EN w0 w) {j : Nat} (hj : j ≤ 10) (l : Int32) (kk : ∀ (w4 : List sx_C) (ul : Int32), WI w4 → EN w0 w4 → j + 1 ≤ 10 → sx_RP xs d 80 19 [(0, .ref A), (1, .long x), (3, .int ul), (4, .int (nI (j + 1)))] [] w4 (fun r w2 => (∃ v : Int32, r = some (.int v)) ∧ WI w2 ∧ EN w0 w2)) (kx74 : ∀ (w4 : List sx_C) (ul : Int32), WI w4 → EN w0 w4 → sx_RP xs d 80 74 [(0, .ref A), (1, .long x), (3, .int ul)] [] w4 (fun r w2 => (∃ v : Int32, r = some (.int v)) ∧ WI w2 ∧ EN w0 w2)) : sx_RP xs d 80 19 [(0, .ref A), (1, .long x), (3, .int l), (4, .int (nI j))] [] w (fun r w2 => (∃ v : Int32, r = some (.int v)) ∧ WI w2 ∧ EN w0 w2) := by
  refine sx_RP.step (pc2 := 21) (ls2 := [(0, .ref A), (1, .long x), (3, .int l), (4, .int (nI j))]) (st2 := [.int (nI j)]) (w3 := w) rfl rfl ?_
  refine sx_RP.step (pc2 := 22) (ls2 := [(0, .ref A), (1, .long x), (3, .int l), (4, .int (nI j))]) (st2 := [.ref A, .int (nI j)]) (w3 := w) rfl rfl ?_
  refine sx_RP.gc (k := 3) hI hA rfl rfl (by omega) (show _ = 25 from rfl) ?_
  obtain ⟨x1, hx2, ex3⟩ : inR (fi w A 3) 10 := (hI.c hA).1
  rw [ex3]
  refine sx_RP.br (p1 := 74) (l1 := [(0, .ref A), (1, .long x), (3, .int l), (4, .int (nI j))]) (s1 := []) (v1 := w) (p2 := 28) (l2 := [(0, .ref A), (1, .long x), (3, .int l), (4, .int (nI j))]) (s2 := []) (v2 := w) rfl rfl (fun q4 => ?_) (fun q4 => ?_)
  · replace q4 := of_decide_eq_true q4
    replace q4 := (nI_leI (a := x1) (b := j) (by omega) (by omega)).mp q4
    exact sx_RP.ls (sx_lr.cons rfl (sx_lr.cons rfl (sx_lr.cons rfl sx_lr.nil))) (kx74 w l hI hE)
  · replace q4 := of_decide_eq_false q4
    replace q4 := mt (nI_leI (a := x1) (b := j) (by omega) (by omega)).mpr q4
    refine sx_RP.step (pc2 := 29) (ls2 := [(0, .ref A), (1, .long x), (3, .int l), (4, .int (nI j))]) (st2 := [.ref A]) (w3 := w) rfl rfl ?_
    refine sx_RP.gref (k := 2) (b := A + 2) hI hA rfl rfl (by omega) (show _ = 32 from rfl) ?_
    refine sx_RP.step (pc2 := 34) (ls2 := [(0, .ref A), (1, .long x), (3, .int l), (4, .int (nI j))]) (st2 := [.int (nI j), .ref (A + 2)]) (w3 := w) rfl rfl ?_
    refine sx_RP.ald (v := .ref (A + 4 + j)) rfl (hI.1.aG hA) rfl (grA_at (show j < 10 by omega)) (show _ = 35 from rfl) ?_
    refine sx_RP.step (pc2 := 37) (ls2 := [(5, .ref (A + 4 + j)), (0, .ref A), (1, .long x), (3, .int l), (4, .int (nI j))]) (st2 := []) (w3 := w) rfl rfl ?_
    refine sx_RP.step (pc2 := 39) (ls2 := [(5, .ref (A + 4 + j)), (0, .ref A), (1, .long x), (3, .int l), (4, .int (nI j))]) (st2 := [.ref (A + 4 + j)]) (w3 := w) rfl rfl ?_
    refine sx_RP.gg (k := 5) hI (gAd.of hA (show j < 10 by omega)) rfl rfl (by decide) (show _ = 42 from rfl) ?_
    obtain ⟨x5, hx6, ex7⟩ : inR (fi w (A + 4 + j) 5) 1 := hI.gk (k := 5) (gAd.of hA (show j < 10 by omega)) (by decide)
    rw [ex7]
    refine sx_RP.br (p1 := 68) (l1 := [(5, .ref (A + 4 + j)), (0, .ref A), (1, .long x), (3, .int l), (4, .int (nI j))]) (s1 := []) (v1 := w) (p2 := 45) (l2 := [(5, .ref (A + 4 + j)), (0, .ref A), (1, .long x), (3, .int l), (4, .int (nI j))]) (s2 := []) (v2 := w) rfl rfl (fun q8 => ?_) (fun q8 => ?_)
    · replace q8 := of_decide_eq_true q8
      replace q8 := mt (nI_eq (a := x5) (b := 0) (by omega) (by omega)).mpr q8
      refine sx_RP.step (pc2 := 71) (ls2 := [(4, .int ((nI j) + 1)), (5, .ref (A + 4 + j)), (0, .ref A), (1, .long x), (3, .int l)]) (st2 := []) (w3 := w) rfl rfl ?_
      rw [nI_1 j]
      refine sx_RP.step (pc2 := 19) (ls2 := [(4, .int (nI (j + 1))), (5, .ref (A + 4 + j)), (0, .ref A), (1, .long x), (3, .int l)]) (st2 := []) (w3 := w) rfl rfl ?_
      exact sx_RP.ls (sx_lr.cons rfl (sx_lr.cons rfl (sx_lr.cons rfl (sx_lr.cons rfl sx_lr.nil)))) (kk w l hI hE (by omega))
    · replace q8 := Decidable.not_not.mp (of_decide_eq_false q8)
      replace q8 := (nI_eq (a := x5) (b := 0) (by omega) (by omega)).mp q8
      refine sx_RP.step (pc2 := 46) (ls2 := [(5, .ref (A + 4 + j)), (0, .ref A), (1, .long x), (3, .int l), (4, .int (nI j))]) (st2 := [.long x]) (w3 := w) rfl rfl ?_
      refine sx_RP.step (pc2 := 48) (ls2 := [(5, .ref (A + 4 + j)), (0, .ref A), (1, .long x), (3, .int l), (4, .int (nI j))]) (st2 := [.ref (A + 4 + j), .long x]) (w3 := w) rfl rfl ?_
      refine sx_RP.gg (k := 2) hI (gAd.of hA (show j < 10 by omega)) rfl rfl (by decide) (show _ = 51 from rfl) ?_
      obtain ⟨x9, hx10, ex11⟩ : inR (fi w (A + 4 + j) 2) 47 := hI.gk (k := 2) (gAd.of hA (show j < 10 by omega)) (by decide)
      rw [ex11]
      refine sx_RP.step (pc2 := 52) (ls2 := [(5, .ref (A + 4 + j)), (0, .ref A), (1, .long x), (3, .int l), (4, .int (nI j))]) (st2 := [.long ((x.toUInt64 >>> ((nI x9).toInt64.toUInt64 &&& Int64.toUInt64 63)).toInt64)]) (w3 := w) rfl rfl ?_
      refine sx_RP.step (pc2 := 53) (ls2 := [(5, .ref (A + 4 + j)), (0, .ref A), (1, .long x), (3, .int l), (4, .int (nI j))]) (st2 := [.long 1, .long ((x.toUInt64 >>> ((nI x9).toInt64.toUInt64 &&& Int64.toUInt64 63)).toInt64)]) (w3 := w) rfl rfl ?_
      refine sx_RP.step (pc2 := 54) (ls2 := [(5, .ref (A + 4 + j)), (0, .ref A), (1, .long x), (3, .int l), (4, .int (nI j))]) (st2 := [.long (((x.toUInt64 >>> ((nI x9).toInt64.toUInt64 &&& Int64.toUInt64 63)).toInt64) &&& 1)]) (w3 := w) rfl rfl ?_
      refine sx_RP.step (pc2 := 55) (ls2 := [(5, .ref (A + 4 + j)), (0, .ref A), (1, .long x), (3, .int l), (4, .int (nI j))]) (st2 := [.long 1, .long (((x.toUInt64 >>> ((nI x9).toInt64.toUInt64 &&& Int64.toUInt64 63)).toInt64) &&& 1)]) (w3 := w) rfl rfl ?_
      refine sx_RP.step (pc2 := 56) (ls2 := [(5, .ref (A + 4 + j)), (0, .ref A), (1, .long x), (3, .int l), (4, .int (nI j))]) (st2 := [.int (lg_cmp (((x.toUInt64 >>> ((nI x9).toInt64.toUInt64 &&& Int64.toUInt64 63)).toInt64) &&& 1) 1)]) (w3 := w) rfl rfl ?_
      refine sx_RP.br (p1 := 68) (l1 := [(5, .ref (A + 4 + j)), (0, .ref A), (1, .long x), (3, .int l), (4, .int (nI j))]) (s1 := []) (v1 := w) (p2 := 59) (l2 := [(5, .ref (A + 4 + j)), (0, .ref A), (1, .long x), (3, .int l), (4, .int (nI j))]) (s2 := []) (v2 := w) rfl rfl (fun q12 => ?_) (fun q12 => ?_)
      · replace q12 := of_decide_eq_true q12
        refine sx_RP.step (pc2 := 71) (ls2 := [(4, .int ((nI j) + 1)), (5, .ref (A + 4 + j)), (0, .ref A), (1, .long x), (3, .int l)]) (st2 := []) (w3 := w) rfl rfl ?_
        rw [nI_1 j]
        refine sx_RP.step (pc2 := 19) (ls2 := [(4, .int (nI (j + 1))), (5, .ref (A + 4 + j)), (0, .ref A), (1, .long x), (3, .int l)]) (st2 := []) (w3 := w) rfl rfl ?_
        exact sx_RP.ls (sx_lr.cons rfl (sx_lr.cons rfl (sx_lr.cons rfl (sx_lr.cons rfl sx_lr.nil)))) (kk w l hI hE (by omega))
      · replace q12 := Decidable.not_not.mp (of_decide_eq_false q12)
        refine sx_RP.step (pc2 := 61) (ls2 := [(5, .ref (A + 4 + j)), (0, .ref A), (1, .long x), (3, .int l), (4, .int (nI j))]) (st2 := [.ref (A + 4 + j)]) (w3 := w) rfl rfl ?_
        refine sx_RP.step (pc2 := 62) (ls2 := [(5, .ref (A + 4 + j)), (0, .ref A), (1, .long x), (3, .int l), (4, .int (nI j))]) (st2 := [.int 1, .ref (A + 4 + j)]) (w3 := w) rfl rfl ?_
        refine sx_RP.pgN (k := 5) hI hE (by omega) (gAd.of hA (show j < 10 by omega)) rfl rfl (by decide) rfl (show inR 1 1 from ⟨1, by decide, rfl⟩) (show _ = 65 from rfl) (fun w13 hI14 hE15 hk16 => ?_)
        have ex17 := (hk16 A 3 hA).trans ex3
        refine sx_RP.step (pc2 := 68) (ls2 := [(3, .int (l + 1)), (5, .ref (A + 4 + j)), (0, .ref A), (1, .long x), (4, .int (nI j))]) (st2 := []) (w3 := w13) rfl rfl ?_
        refine sx_RP.step (pc2 := 71) (ls2 := [(4, .int ((nI j) + 1)), (3, .int (l + 1)), (5, .ref (A + 4 + j)), (0, .ref A), (1, .long x)]) (st2 := []) (w3 := w13) rfl rfl ?_
        rw [nI_1 j]
        refine sx_RP.step (pc2 := 19) (ls2 := [(4, .int (nI (j + 1))), (3, .int (l + 1)), (5, .ref (A + 4 + j)), (0, .ref A), (1, .long x)]) (st2 := []) (w3 := w13) rfl rfl ?_
        exact sx_RP.ls (sx_lr.cons rfl (sx_lr.cons rfl (sx_lr.cons rfl (sx_lr.cons rfl sx_lr.nil)))) (kk w13 (l + 1) hI14 hE15 (by omega))
set_option maxRecDepth 20000 in
set_option maxHeartbeats 4000000 in
theorem N80aL {xs : Option (List Int32)} {d : Nat} {w0 : List sx_C} {A : Nat} (hA : isA A) (hz : A = 1 ∨ A = 29) (x : Int64) (kx74 : ∀ (w4 : List sx_C) (ul : Int32), WI w4 → EN w0 w4 → sx_RP xs d 80 74 [(0, .ref A), (1, .long x), (3, .int ul)] [] w4 (fun r w2 => (∃ v : Int32, r = some (.int v)) ∧ WI w2 ∧ EN w0 w2)) : ∀ (fz j : Nat) (w : List sx_C) (l : Int32) , 10 ≤ j + fz * 1 → j ≤ 10 → WI w → EN w0 w → sx_RP xs d 80 19 [(0, .ref A), (1, .long x), (3, .int l), (4, .int (nI j))] [] w (fun r w2 => (∃ v : Int32, r = some (.int v)) ∧ WI w2 ∧ EN w0 w2)
  | 0, j, w, l, h, hj, hI, hE => N80aB hA hz x hI hE hj l  (fun w4 ul hI4 hE4 hlt  => absurd hlt (by omega)) kx74
  | fz + 1, j, w, l, h, hj, hI, hE => N80aB hA hz x hI hE hj l  (fun w4 ul hI4 hE4 hlt  => N80aL hA hz x kx74 fz (j + 1) w4 ul (by omega) hlt hI4 hE4 ) kx74
set_option maxRecDepth 20000 in
set_option maxHeartbeats 4000000 in
theorem N80 {xs : Option (List Int32)} {d : Nat} {w : List sx_C} (hI : WI w) {A : Nat} (hA : isA A) (hz : A = 1 ∨ A = 29) (x : Int64) : sx_RP xs d 80 0 (lv_args 0 [.ref A, .long x]) [] w (fun r w2 => (∃ v : Int32, r = some (.int v)) ∧ WI w2 ∧ EN w w2) := by
  have hE : EN w w := EN.rf
  refine sx_RP.step (pc2 := 1) (ls2 := [(0, .ref A), (1, .long x)]) (st2 := [.ref A]) (w3 := w) rfl rfl ?_
  refine sx_RP.step (pc2 := 2) (ls2 := [(0, .ref A), (1, .long x)]) (st2 := [.ref A, .ref A]) (w3 := w) rfl rfl ?_
  refine sx_RP.gw hI hA rfl rfl (show _ = 5 from rfl) ?_
  refine sx_RP.step (pc2 := 6) (ls2 := [(0, .ref A), (1, .long x)]) (st2 := [.long x, .long (fj w A 1), .ref A]) (w3 := w) rfl rfl ?_
  refine sx_RP.step (pc2 := 9) (ls2 := [(0, .ref A), (1, .long x)]) (st2 := [.long (-1), .long x, .long (fj w A 1), .ref A]) (w3 := w) rfl rfl ?_
  refine sx_RP.step (pc2 := 10) (ls2 := [(0, .ref A), (1, .long x)]) (st2 := [.long (x ^^^ (-1)), .long (fj w A 1), .ref A]) (w3 := w) rfl rfl ?_
  refine sx_RP.step (pc2 := 11) (ls2 := [(0, .ref A), (1, .long x)]) (st2 := [.long ((fj w A 1) &&& (x ^^^ (-1))), .ref A]) (w3 := w) rfl rfl ?_
  refine sx_RP.pwN hI hE (by omega) hA rfl rfl rfl (show _ = 14 from rfl) (fun w1 hI2 hE3 => ?_)
  refine sx_RP.step (pc2 := 15) (ls2 := [(0, .ref A), (1, .long x)]) (st2 := [.int 0]) (w3 := w1) rfl rfl ?_
  refine sx_RP.step (pc2 := 16) (ls2 := [(3, .int 0), (0, .ref A), (1, .long x)]) (st2 := []) (w3 := w1) rfl rfl ?_
  refine sx_RP.step (pc2 := 17) (ls2 := [(3, .int 0), (0, .ref A), (1, .long x)]) (st2 := [.int 0]) (w3 := w1) rfl rfl ?_
  refine sx_RP.step (pc2 := 19) (ls2 := [(4, .int 0), (3, .int 0), (0, .ref A), (1, .long x)]) (st2 := []) (w3 := w1) rfl rfl ?_
  refine sx_RP.ls (sx_lr.cons rfl (sx_lr.cons rfl (sx_lr.cons rfl (sx_lr.cons rfl sx_lr.nil)))) (N80aL hA hz x (fun w4 u7 hI5 hE6 => ?_) 10 0 w1 0 (by omega) (by omega) hI2 hE3 )
  refine sx_RP.step (pc2 := 75) (ls2 := [(0, .ref A), (1, .long x), (3, .int u7)]) (st2 := [.int 0]) (w3 := w4) rfl rfl ?_
  refine sx_RP.step (pc2 := 77) (ls2 := [(4, .int 0), (0, .ref A), (1, .long x), (3, .int u7)]) (st2 := []) (w3 := w4) rfl rfl ?_
  exact sx_RP.ls (sx_lr.cons rfl (sx_lr.cons rfl (sx_lr.cons rfl (sx_lr.cons rfl sx_lr.nil)))) (N80bL hA hz x 48 0 w4 u7 (by omega) (by omega) hI5 hE6 )
set_option maxRecDepth 20000 in
set_option maxHeartbeats 4000000 in
theorem N117 {xs : Option (List Int32)} {d : Nat} {w : List sx_C} (hI : WI w) {s i : Nat} (hs : s < 4) (hi : i < 40) (v : Int64) : sx_RP xs d 117 0 (lv_args 0 [.ref (103 + 2 * s), .int (nI i), .long v]) [] w (fun r w2 => (r = none) ∧ WI w2 ∧ EN w w2) := by
  have hE : EN w w := EN.rf
  refine sx_RP.step (pc2 := 1) (ls2 := [(0, .ref (103 + 2 * s)), (1, .int (nI i)), (2, .long v)]) (st2 := [.ref (103 + 2 * s)]) (w3 := w) rfl rfl ?_
  refine sx_RP.gf (v := .ref (104 + 2 * s)) rfl rfl (hI.1.oS (show s < 4 by omega)) rfl rfl (show _ = 4 from rfl) ?_
  refine sx_RP.step (pc2 := 5) (ls2 := [(0, .ref (103 + 2 * s)), (1, .int (nI i)), (2, .long v)]) (st2 := [.int (nI i), .ref (104 + 2 * s)]) (w3 := w) rfl rfl ?_
  refine sx_RP.step (pc2 := 6) (ls2 := [(0, .ref (103 + 2 * s)), (1, .int (nI i)), (2, .long v)]) (st2 := [.ref (103 + 2 * s), .int (nI i), .ref (104 + 2 * s)]) (w3 := w) rfl rfl ?_
  refine sx_RP.gf (v := .int (fi w (103 + 2 * s) 1)) rfl rfl (hI.1.oS (show s < 4 by omega)) rfl rfl (show _ = 9 from rfl) ?_
  refine sx_RP.step (pc2 := 11) (ls2 := [(0, .ref (103 + 2 * s)), (1, .int (nI i)), (2, .long v)]) (st2 := [.int 8, .int (fi w (103 + 2 * s) 1), .int (nI i), .ref (104 + 2 * s)]) (w3 := w) rfl rfl ?_
  refine sx_RP.br (p1 := 21) (l1 := [(0, .ref (103 + 2 * s)), (1, .int (nI i)), (2, .long v)]) (s1 := [.int (nI i), .ref (104 + 2 * s)]) (v1 := w) (p2 := 14) (l2 := [(0, .ref (103 + 2 * s)), (1, .int (nI i)), (2, .long v)]) (s2 := [.int (nI i), .ref (104 + 2 * s)]) (v2 := w) rfl rfl (fun q1 => ?_) (fun q1 => ?_)
  · replace q1 := of_decide_eq_true q1
    refine sx_RP.step (pc2 := 22) (ls2 := [(0, .ref (103 + 2 * s)), (1, .int (nI i)), (2, .long v)]) (st2 := [.ref (103 + 2 * s), .int (nI i), .ref (104 + 2 * s)]) (w3 := w) rfl rfl ?_
    refine sx_RP.gf (v := .int (fi w (103 + 2 * s) 1)) rfl rfl (hI.1.oS (show s < 4 by omega)) rfl rfl (show _ = 25 from rfl) ?_
    refine sx_RP.step (pc2 := 27) (ls2 := [(0, .ref (103 + 2 * s)), (1, .int (nI i)), (2, .long v)]) (st2 := [.int 16, .int (fi w (103 + 2 * s) 1), .int (nI i), .ref (104 + 2 * s)]) (w3 := w) rfl rfl ?_
    refine sx_RP.br (p1 := 37) (l1 := [(0, .ref (103 + 2 * s)), (1, .int (nI i)), (2, .long v)]) (s1 := [.int (nI i), .ref (104 + 2 * s)]) (v1 := w) (p2 := 30) (l2 := [(0, .ref (103 + 2 * s)), (1, .int (nI i)), (2, .long v)]) (s2 := [.int (nI i), .ref (104 + 2 * s)]) (v2 := w) rfl rfl (fun q2 => ?_) (fun q2 => ?_)
    · replace q2 := of_decide_eq_true q2
      refine sx_RP.step (pc2 := 38) (ls2 := [(0, .ref (103 + 2 * s)), (1, .int (nI i)), (2, .long v)]) (st2 := [.long v, .int (nI i), .ref (104 + 2 * s)]) (w3 := w) rfl rfl ?_
      refine sx_RP.stNN hI hE rfl (hI.1.aN (show s < 4 by omega)) (sx_in_nI (show i < 40 by omega) (by decide)) (by omega) (show _ = 39 from rfl) (fun w3 hI4 hE5 => ?_)
      refine sx_RP.ret (r := none) rfl rfl ?_
      exact ⟨rfl, hI4, hE5⟩
    · replace q2 := Decidable.not_not.mp (of_decide_eq_false q2)
      refine sx_RP.step (pc2 := 31) (ls2 := [(0, .ref (103 + 2 * s)), (1, .int (nI i)), (2, .long v)]) (st2 := [.long v, .int (nI i), .ref (104 + 2 * s)]) (w3 := w) rfl rfl ?_
      refine sx_RP.step (pc2 := 32) (ls2 := [(0, .ref (103 + 2 * s)), (1, .int (nI i)), (2, .long v)]) (st2 := [.int v.toInt32, .int (nI i), .ref (104 + 2 * s)]) (w3 := w) rfl rfl ?_
      refine sx_RP.step (pc2 := 33) (ls2 := [(0, .ref (103 + 2 * s)), (1, .int (nI i)), (2, .long v)]) (st2 := [.int v.toInt32.toInt16.toInt32, .int (nI i), .ref (104 + 2 * s)]) (w3 := w) rfl rfl ?_
      refine sx_RP.step (pc2 := 34) (ls2 := [(0, .ref (103 + 2 * s)), (1, .int (nI i)), (2, .long v)]) (st2 := [.long v.toInt32.toInt16.toInt32.toInt64, .int (nI i), .ref (104 + 2 * s)]) (w3 := w) rfl rfl ?_
      refine sx_RP.step (pc2 := 38) (ls2 := [(0, .ref (103 + 2 * s)), (1, .int (nI i)), (2, .long v)]) (st2 := [.long v.toInt32.toInt16.toInt32.toInt64, .int (nI i), .ref (104 + 2 * s)]) (w3 := w) rfl rfl ?_
      refine sx_RP.stNN hI hE rfl (hI.1.aN (show s < 4 by omega)) (sx_in_nI (show i < 40 by omega) (by decide)) (by omega) (show _ = 39 from rfl) (fun w6 hI7 hE8 => ?_)
      refine sx_RP.ret (r := none) rfl rfl ?_
      exact ⟨rfl, hI7, hE8⟩
  · replace q1 := Decidable.not_not.mp (of_decide_eq_false q1)
    refine sx_RP.step (pc2 := 15) (ls2 := [(0, .ref (103 + 2 * s)), (1, .int (nI i)), (2, .long v)]) (st2 := [.long v, .int (nI i), .ref (104 + 2 * s)]) (w3 := w) rfl rfl ?_
    refine sx_RP.step (pc2 := 16) (ls2 := [(0, .ref (103 + 2 * s)), (1, .int (nI i)), (2, .long v)]) (st2 := [.int v.toInt32, .int (nI i), .ref (104 + 2 * s)]) (w3 := w) rfl rfl ?_
    refine sx_RP.step (pc2 := 17) (ls2 := [(0, .ref (103 + 2 * s)), (1, .int (nI i)), (2, .long v)]) (st2 := [.int v.toInt32.toInt8.toInt32, .int (nI i), .ref (104 + 2 * s)]) (w3 := w) rfl rfl ?_
    refine sx_RP.step (pc2 := 18) (ls2 := [(0, .ref (103 + 2 * s)), (1, .int (nI i)), (2, .long v)]) (st2 := [.long v.toInt32.toInt8.toInt32.toInt64, .int (nI i), .ref (104 + 2 * s)]) (w3 := w) rfl rfl ?_
    refine sx_RP.step (pc2 := 38) (ls2 := [(0, .ref (103 + 2 * s)), (1, .int (nI i)), (2, .long v)]) (st2 := [.long v.toInt32.toInt8.toInt32.toInt64, .int (nI i), .ref (104 + 2 * s)]) (w3 := w) rfl rfl ?_
    refine sx_RP.stNN hI hE rfl (hI.1.aN (show s < 4 by omega)) (sx_in_nI (show i < 40 by omega) (by decide)) (by omega) (show _ = 39 from rfl) (fun w9 hI10 hE11 => ?_)
    refine sx_RP.ret (r := none) rfl rfl ?_
    exact ⟨rfl, hI10, hE11⟩
set_option maxRecDepth 20000 in
set_option maxHeartbeats 4000000 in
theorem N6 {xs : Option (List Int32)} {d : Nat} {w : List sx_C} (hI : WI w) (a1 a2 : Int32) : sx_RP xs (d + 7) 6 0 (lv_args 0 [.ref 0, .int a1, .int a2]) [] w (fun r w2 => (∃ v : Int32, r = some (.int v)) ∧ WI w2 ∧ EN w w2) := by
  have hE : EN w w := EN.rf
  refine sx_RP.step (pc2 := 1) (ls2 := [(0, .ref 0), (1, .int a1), (2, .int a2)]) (st2 := [.int a1]) (w3 := w) rfl rfl ?_
  rcases in_cases a1 0 47 (m := 0) (n := 47) rfl rfl (by decide) (by decide) with q1 | ⟨x2, hx3, hx4, rfl⟩
  · refine sx_RP.cu (as := [.int a1]) (rest2 := []) (st3 := [.int 0]) rfl rfl rfl rfl rfl (cx_7n q1) rfl ?_
    refine sx_RP.step (pc2 := 16) (ls2 := [(0, .ref 0), (1, .int a1), (2, .int a2)]) (st2 := []) (w3 := w) rfl rfl ?_
    refine sx_RP.step (pc2 := 17) (ls2 := [(0, .ref 0), (1, .int a1), (2, .int a2)]) (st2 := [.ref 0]) (w3 := w) rfl rfl ?_
    refine sx_RP.step (pc2 := 19) (ls2 := [(0, .ref 0), (1, .int a1), (2, .int a2)]) (st2 := [.int (-1000000001), .ref 0]) (w3 := w) rfl rfl ?_
    refine sx_RP.callp (as2 := [.ref 0, .int (-1000000001)]) (rest2 := []) rfl rfl (sx_inv_v2 (mi := 6) (k := 78) (st := [.int (-1000000001), .ref 0]) (w := w) rfl rfl hI.1.o0 rfl rfl rfl) rfl rfl rfl (Q9_0 hI) (show _ = 22 from rfl) ?_
    rintro r4 w6 ⟨rfl, hI7, hE9⟩
    have hE8 := hE.tr (hE9.en)
    show sx_RP _ _ _ _ _ [.int (-1000000001)] _ _
    refine sx_RP.ret (r := (some (.int (-1000000001)))) rfl rfl ?_
    exact ⟨⟨_, rfl⟩, hI7, hE8⟩
  · refine sx_RP.cu (as := [.int (nI x2)]) (rest2 := []) (st3 := [.int 1]) rfl rfl rfl rfl rfl (cx_7p ⟨nI_le (a := 0) hx3 (by omega), nI_le (b := 47) hx4 (by decide)⟩) rfl ?_
    refine sx_RP.step (pc2 := 7) (ls2 := [(0, .ref 0), (1, .int (nI x2)), (2, .int a2)]) (st2 := []) (w3 := w) rfl rfl ?_
    refine sx_RP.step (pc2 := 8) (ls2 := [(0, .ref 0), (1, .int (nI x2)), (2, .int a2)]) (st2 := [.int a2]) (w3 := w) rfl rfl ?_
    refine sx_RP.step (pc2 := 9) (ls2 := [(0, .ref 0), (1, .int (nI x2)), (2, .int a2)]) (st2 := [.int 0, .int a2]) (w3 := w) rfl rfl ?_
    refine sx_RP.step (pc2 := 10) (ls2 := [(0, .ref 0), (1, .int (nI x2)), (2, .int a2)]) (st2 := [.int 3, .int 0, .int a2]) (w3 := w) rfl rfl ?_
    rcases in_cases a2 0 3 (m := 0) (n := 3) rfl rfl (by decide) (by decide) with q10 | ⟨x11, hx12, hx13, rfl⟩
    · refine sx_RP.cu (as := [.int a2, .int 0, .int 3]) (rest2 := []) (st3 := [.int 0]) rfl rfl rfl rfl rfl (cx_8n q10) rfl ?_
      refine sx_RP.step (pc2 := 16) (ls2 := [(0, .ref 0), (1, .int (nI x2)), (2, .int a2)]) (st2 := []) (w3 := w) rfl rfl ?_
      refine sx_RP.step (pc2 := 17) (ls2 := [(0, .ref 0), (1, .int (nI x2)), (2, .int a2)]) (st2 := [.ref 0]) (w3 := w) rfl rfl ?_
      refine sx_RP.step (pc2 := 19) (ls2 := [(0, .ref 0), (1, .int (nI x2)), (2, .int a2)]) (st2 := [.int (-1000000001), .ref 0]) (w3 := w) rfl rfl ?_
      refine sx_RP.callp (as2 := [.ref 0, .int (-1000000001)]) (rest2 := []) rfl rfl (sx_inv_v2 (mi := 6) (k := 78) (st := [.int (-1000000001), .ref 0]) (w := w) rfl rfl hI.1.o0 rfl rfl rfl) rfl rfl rfl (Q9_0 hI) (show _ = 22 from rfl) ?_
      rintro r4 w15 ⟨rfl, hI16, hE18⟩
      have hE17 := hE.tr (hE18.en)
      show sx_RP _ _ _ _ _ [.int (-1000000001)] _ _
      refine sx_RP.ret (r := (some (.int (-1000000001)))) rfl rfl ?_
      exact ⟨⟨_, rfl⟩, hI16, hE17⟩
    · refine sx_RP.cu (as := [.int (nI x11), .int 0, .int 3]) (rest2 := []) (st3 := [.int 1]) rfl rfl rfl rfl rfl (cx_8p ⟨nI_le (a := 0) hx12 (by omega), nI_le (b := 3) hx13 (by decide)⟩) rfl ?_
      refine sx_RP.step (pc2 := 23) (ls2 := [(0, .ref 0), (1, .int (nI x2)), (2, .int (nI x11))]) (st2 := []) (w3 := w) rfl rfl ?_
      refine sx_RP.step (pc2 := 24) (ls2 := [(0, .ref 0), (1, .int (nI x2)), (2, .int (nI x11))]) (st2 := [.ref 0]) (w3 := w) rfl rfl ?_
      refine sx_RP.gf (v := .ref 1) rfl rfl hI.1.o0 rfl rfl (show _ = 27 from rfl) ?_
      refine sx_RP.gref (k := 0) (b := 2) hI (Or.inl rfl) rfl rfl (by omega) (show _ = 30 from rfl) ?_
      refine sx_RP.step (pc2 := 31) (ls2 := [(0, .ref 0), (1, .int (nI x2)), (2, .int (nI x11))]) (st2 := [.int (nI x2), .ref 2]) (w3 := w) rfl rfl ?_
      refine sx_RP.ild (c := x2) rfl (hI.1.aS (Or.inl rfl)).1 (hI.1.aS (Or.inl rfl)).2 (sx_in_nI (show x2 < 48 by omega) (by decide)) (show (nI x2).toNatClampNeg = x2 from nI_clamp (by omega)) (show _ = 32 from rfl) ?_
      obtain ⟨x19, hx20, ex21⟩ : inR ((ia w 2).getD x2 0) 3 := hI.st (Or.inl rfl) (show x2 < 48 by omega)
      rw [ex21]
      refine sx_RP.step (pc2 := 33) (ls2 := [(3, .int (nI x19)), (0, .ref 0), (1, .int (nI x2)), (2, .int (nI x11))]) (st2 := []) (w3 := w) rfl rfl ?_
      refine sx_RP.step (pc2 := 34) (ls2 := [(3, .int (nI x19)), (0, .ref 0), (1, .int (nI x2)), (2, .int (nI x11))]) (st2 := [.ref 0]) (w3 := w) rfl rfl ?_
      refine sx_RP.gf (v := .ref 1) rfl rfl hI.1.o0 rfl rfl (show _ = 37 from rfl) ?_
      refine sx_RP.gref (k := 0) (b := 2) hI (Or.inl rfl) rfl rfl (by omega) (show _ = 40 from rfl) ?_
      refine sx_RP.step (pc2 := 41) (ls2 := [(3, .int (nI x19)), (0, .ref 0), (1, .int (nI x2)), (2, .int (nI x11))]) (st2 := [.int (nI x2), .ref 2]) (w3 := w) rfl rfl ?_
      refine sx_RP.step (pc2 := 42) (ls2 := [(3, .int (nI x19)), (0, .ref 0), (1, .int (nI x2)), (2, .int (nI x11))]) (st2 := [.int (nI x11), .int (nI x2), .ref 2]) (w3 := w) rfl rfl ?_
      refine sx_RP.stSN hI hE (by omega) (Or.inl rfl) rfl (sx_in_nI (show x2 < 48 by omega) (by decide)) (inR.n (show x11 ≤ 3 by omega)) (show _ = 43 from rfl) (fun w22 hI23 hE24 => ?_)
      refine sx_RP.step (pc2 := 44) (ls2 := [(3, .int (nI x19)), (0, .ref 0), (1, .int (nI x2)), (2, .int (nI x11))]) (st2 := [.int (nI x19)]) (w3 := w22) rfl rfl ?_
      refine sx_RP.ret (r := (some (.int (nI x19)))) rfl rfl ?_
      exact ⟨⟨_, rfl⟩, hI23, hE24⟩
set_option maxRecDepth 20000 in
set_option maxHeartbeats 4000000 in
theorem N10 {xs : Option (List Int32)} {d : Nat} {w : List sx_C} (hI : WI w) (a1 a2 : Int32) : sx_RP xs (d + 7) 10 0 (lv_args 0 [.ref 0, .int a1, .int a2]) [] w (fun r w2 => (∃ v : Int32, r = some (.int v)) ∧ WI w2 ∧ EN w w2) := by
  have hE : EN w w := EN.rf
  refine sx_RP.step (pc2 := 1) (ls2 := [(0, .ref 0), (1, .int a1), (2, .int a2)]) (st2 := [.int a1]) (w3 := w) rfl rfl ?_
  rcases in_cases a1 0 47 (m := 0) (n := 47) rfl rfl (by decide) (by decide) with q1 | ⟨x2, hx3, hx4, rfl⟩
  · refine sx_RP.cu (as := [.int a1]) (rest2 := []) (st3 := [.int 0]) rfl rfl rfl rfl rfl (cx_7n q1) rfl ?_
    refine sx_RP.step (pc2 := 7) (ls2 := [(0, .ref 0), (1, .int a1), (2, .int a2)]) (st2 := []) (w3 := w) rfl rfl ?_
    refine sx_RP.step (pc2 := 8) (ls2 := [(0, .ref 0), (1, .int a1), (2, .int a2)]) (st2 := [.ref 0]) (w3 := w) rfl rfl ?_
    refine sx_RP.step (pc2 := 10) (ls2 := [(0, .ref 0), (1, .int a1), (2, .int a2)]) (st2 := [.int (-1000000001), .ref 0]) (w3 := w) rfl rfl ?_
    refine sx_RP.callp (as2 := [.ref 0, .int (-1000000001)]) (rest2 := []) rfl rfl (sx_inv_v2 (mi := 10) (k := 78) (st := [.int (-1000000001), .ref 0]) (w := w) rfl rfl hI.1.o0 rfl rfl rfl) rfl rfl rfl (Q9_0 hI) (show _ = 13 from rfl) ?_
    rintro r4 w6 ⟨rfl, hI7, hE9⟩
    have hE8 := hE.tr (hE9.en)
    show sx_RP _ _ _ _ _ [.int (-1000000001)] _ _
    refine sx_RP.ret (r := (some (.int (-1000000001)))) rfl rfl ?_
    exact ⟨⟨_, rfl⟩, hI7, hE8⟩
  · refine sx_RP.cu (as := [.int (nI x2)]) (rest2 := []) (st3 := [.int 1]) rfl rfl rfl rfl rfl (cx_7p ⟨nI_le (a := 0) hx3 (by omega), nI_le (b := 47) hx4 (by decide)⟩) rfl ?_
    refine sx_RP.step (pc2 := 14) (ls2 := [(0, .ref 0), (1, .int (nI x2)), (2, .int a2)]) (st2 := []) (w3 := w) rfl rfl ?_
    refine sx_RP.step (pc2 := 15) (ls2 := [(0, .ref 0), (1, .int (nI x2)), (2, .int a2)]) (st2 := [.ref 0]) (w3 := w) rfl rfl ?_
    refine sx_RP.gf (v := .ref 1) rfl rfl hI.1.o0 rfl rfl (show _ = 18 from rfl) ?_
    refine sx_RP.step (pc2 := 19) (ls2 := [(0, .ref 0), (1, .int (nI x2)), (2, .int a2)]) (st2 := [.int (nI x2), .ref 1]) (w3 := w) rfl rfl ?_
    obtain ⟨x10, hx11, c12⟩ := p11 hI (Or.inl rfl) (nI x2)
    refine sx_RP.cu (as := [.ref 1, .int (nI x2)]) (rest2 := []) (st3 := [.int (nI x10)]) rfl rfl (sx_inv_v2 (mi := 10) (k := 85) (st := [.int (nI x2), .ref 1]) (w := w) rfl rfl (hI.1.oC (Or.inl rfl)) rfl rfl rfl) rfl rfl (c12) rfl ?_
    refine sx_RP.step (pc2 := 23) (ls2 := [(0, .ref 0), (1, .int (nI x2)), (2, .int a2)]) (st2 := [.int a2, .int (nI x10)]) (w3 := w) rfl rfl ?_
    refine sx_RP.br (p1 := 28) (l1 := [(0, .ref 0), (1, .int (nI x2)), (2, .int a2)]) (s1 := []) (v1 := w) (p2 := 26) (l2 := [(0, .ref 0), (1, .int (nI x2)), (2, .int a2)]) (s2 := []) (v2 := w) rfl rfl (fun q13 => ?_) (fun q13 => ?_)
    · replace q13 := of_decide_eq_true q13
      refine sx_RP.step (pc2 := 29) (ls2 := [(0, .ref 0), (1, .int (nI x2)), (2, .int a2)]) (st2 := [.ref 0]) (w3 := w) rfl rfl ?_
      refine sx_RP.gf (v := .ref 1) rfl rfl hI.1.o0 rfl rfl (show _ = 32 from rfl) ?_
      refine sx_RP.step (pc2 := 33) (ls2 := [(0, .ref 0), (1, .int (nI x2)), (2, .int a2)]) (st2 := [.ref 1, .ref 1]) (w3 := w) rfl rfl ?_
      refine sx_RP.gw hI (Or.inl rfl) rfl rfl (show _ = 36 from rfl) ?_
      refine sx_RP.step (pc2 := 37) (ls2 := [(0, .ref 0), (1, .int (nI x2)), (2, .int a2)]) (st2 := [.long 1, .long (fj w 1 1), .ref 1]) (w3 := w) rfl rfl ?_
      refine sx_RP.step (pc2 := 38) (ls2 := [(0, .ref 0), (1, .int (nI x2)), (2, .int a2)]) (st2 := [.int (nI x2), .long 1, .long (fj w 1 1), .ref 1]) (w3 := w) rfl rfl ?_
      refine sx_RP.step (pc2 := 39) (ls2 := [(0, .ref 0), (1, .int (nI x2)), (2, .int a2)]) (st2 := [.long ((1 : Int64) <<< ((nI x2).toInt64 &&& 63)), .long (fj w 1 1), .ref 1]) (w3 := w) rfl rfl ?_
      refine sx_RP.step (pc2 := 40) (ls2 := [(0, .ref 0), (1, .int (nI x2)), (2, .int a2)]) (st2 := [.long ((fj w 1 1) ^^^ ((1 : Int64) <<< ((nI x2).toInt64 &&& 63))), .ref 1]) (w3 := w) rfl rfl ?_
      refine sx_RP.pwN hI hE (by omega) (Or.inl rfl) rfl rfl rfl (show _ = 43 from rfl) (fun w14 hI15 hE16 => ?_)
      refine sx_RP.step (pc2 := 44) (ls2 := [(0, .ref 0), (1, .int (nI x2)), (2, .int a2)]) (st2 := [.int 1]) (w3 := w14) rfl rfl ?_
      refine sx_RP.ret (r := (some (.int 1))) rfl rfl ?_
      exact ⟨⟨_, rfl⟩, hI15, hE16⟩
    · replace q13 := Decidable.not_not.mp (of_decide_eq_false q13)
      refine sx_RP.step (pc2 := 27) (ls2 := [(0, .ref 0), (1, .int (nI x2)), (2, .int a2)]) (st2 := [.int 0]) (w3 := w) rfl rfl ?_
      refine sx_RP.ret (r := (some (.int 0))) rfl rfl ?_
      exact ⟨⟨_, rfl⟩, hI, hE⟩
set_option maxRecDepth 20000 in
set_option maxHeartbeats 4000000 in
theorem N28 {xs : Option (List Int32)} {d : Nat} {w : List sx_C} (hI : WI w) (a1 a2 : Int32) : sx_RP xs (d + 7) 28 0 (lv_args 0 [.ref 0, .int a1, .int a2]) [] w (fun r w2 => (∃ v : Int32, r = some (.int v)) ∧ WI w2 ∧ EN w w2) := by
  have hE : EN w w := EN.rf
  refine sx_RP.step (pc2 := 1) (ls2 := [(0, .ref 0), (1, .int a1), (2, .int a2)]) (st2 := [.ref 0]) (w3 := w) rfl rfl ?_
  refine sx_RP.gf (v := .ref 1) rfl rfl hI.1.o0 rfl rfl (show _ = 4 from rfl) ?_
  refine sx_RP.step (pc2 := 5) (ls2 := [(0, .ref 0), (1, .int a1), (2, .int a2)]) (st2 := [.int a1, .ref 1]) (w3 := w) rfl rfl ?_
  rcases p27 (xs := xs) hI (Or.inl rfl) a1 with c2 | ⟨⟨x3, hx4, rfl⟩, c2⟩
  · refine sx_RP.cu (as := [.ref 1, .int a1]) (rest2 := []) (st3 := [.int 0]) rfl rfl (sx_inv_v2 (mi := 28) (k := 120) (st := [.int a1, .ref 1]) (w := w) rfl rfl (hI.1.oC (Or.inl rfl)) rfl rfl rfl) rfl rfl (c2) rfl ?_
    refine sx_RP.step (pc2 := 18) (ls2 := [(0, .ref 0), (1, .int a1), (2, .int a2)]) (st2 := []) (w3 := w) rfl rfl ?_
    refine sx_RP.step (pc2 := 19) (ls2 := [(0, .ref 0), (1, .int a1), (2, .int a2)]) (st2 := [.ref 0]) (w3 := w) rfl rfl ?_
    refine sx_RP.step (pc2 := 21) (ls2 := [(0, .ref 0), (1, .int a1), (2, .int a2)]) (st2 := [.int (-1000000001), .ref 0]) (w3 := w) rfl rfl ?_
    refine sx_RP.callp (as2 := [.ref 0, .int (-1000000001)]) (rest2 := []) rfl rfl (sx_inv_v2 (mi := 28) (k := 78) (st := [.int (-1000000001), .ref 0]) (w := w) rfl rfl hI.1.o0 rfl rfl rfl) rfl rfl rfl (Q9_0 hI) (show _ = 24 from rfl) ?_
    rintro r4 w6 ⟨rfl, hI7, hE9⟩
    have hE8 := hE.tr (hE9.en)
    show sx_RP _ _ _ _ _ [.int (-1000000001)] _ _
    refine sx_RP.ret (r := (some (.int (-1000000001)))) rfl rfl ?_
    exact ⟨⟨_, rfl⟩, hI7, hE8⟩
  · refine sx_RP.cu (as := [.ref 1, .int (nI x3)]) (rest2 := []) (st3 := [.int 1]) rfl rfl (sx_inv_v2 (mi := 28) (k := 120) (st := [.int (nI x3), .ref 1]) (w := w) rfl rfl (hI.1.oC (Or.inl rfl)) rfl rfl rfl) rfl rfl (c2) rfl ?_
    refine sx_RP.step (pc2 := 11) (ls2 := [(0, .ref 0), (1, .int (nI x3)), (2, .int a2)]) (st2 := []) (w3 := w) rfl rfl ?_
    refine sx_RP.step (pc2 := 12) (ls2 := [(0, .ref 0), (1, .int (nI x3)), (2, .int a2)]) (st2 := [.int a2]) (w3 := w) rfl rfl ?_
    rcases in_cases a2 0 3 (m := 0) (n := 3) rfl rfl (by decide) (by decide) with q10 | ⟨x11, hx12, hx13, rfl⟩
    · refine sx_RP.cu (as := [.int a2]) (rest2 := []) (st3 := [.int 0]) rfl rfl rfl rfl rfl (cx_23n q10) rfl ?_
      refine sx_RP.step (pc2 := 18) (ls2 := [(0, .ref 0), (1, .int (nI x3)), (2, .int a2)]) (st2 := []) (w3 := w) rfl rfl ?_
      refine sx_RP.step (pc2 := 19) (ls2 := [(0, .ref 0), (1, .int (nI x3)), (2, .int a2)]) (st2 := [.ref 0]) (w3 := w) rfl rfl ?_
      refine sx_RP.step (pc2 := 21) (ls2 := [(0, .ref 0), (1, .int (nI x3)), (2, .int a2)]) (st2 := [.int (-1000000001), .ref 0]) (w3 := w) rfl rfl ?_
      refine sx_RP.callp (as2 := [.ref 0, .int (-1000000001)]) (rest2 := []) rfl rfl (sx_inv_v2 (mi := 28) (k := 78) (st := [.int (-1000000001), .ref 0]) (w := w) rfl rfl hI.1.o0 rfl rfl rfl) rfl rfl rfl (Q9_0 hI) (show _ = 24 from rfl) ?_
      rintro r4 w15 ⟨rfl, hI16, hE18⟩
      have hE17 := hE.tr (hE18.en)
      show sx_RP _ _ _ _ _ [.int (-1000000001)] _ _
      refine sx_RP.ret (r := (some (.int (-1000000001)))) rfl rfl ?_
      exact ⟨⟨_, rfl⟩, hI16, hE17⟩
    · refine sx_RP.cu (as := [.int (nI x11)]) (rest2 := []) (st3 := [.int 1]) rfl rfl rfl rfl rfl (cx_23p ⟨nI_le (a := 0) hx12 (by omega), nI_le (b := 3) hx13 (by decide)⟩) rfl ?_
      refine sx_RP.step (pc2 := 25) (ls2 := [(0, .ref 0), (1, .int (nI x3)), (2, .int (nI x11))]) (st2 := []) (w3 := w) rfl rfl ?_
      refine sx_RP.step (pc2 := 26) (ls2 := [(0, .ref 0), (1, .int (nI x3)), (2, .int (nI x11))]) (st2 := [.ref 0]) (w3 := w) rfl rfl ?_
      refine sx_RP.gf (v := .ref 1) rfl rfl hI.1.o0 rfl rfl (show _ = 29 from rfl) ?_
      refine sx_RP.gref (k := 2) (b := 3) hI (Or.inl rfl) rfl rfl (by omega) (show _ = 32 from rfl) ?_
      refine sx_RP.step (pc2 := 33) (ls2 := [(0, .ref 0), (1, .int (nI x3)), (2, .int (nI x11))]) (st2 := [.int (nI x3), .ref 3]) (w3 := w) rfl rfl ?_
      refine sx_RP.ald (v := .ref (1 + 4 + x3)) rfl (hI.1.aG (Or.inl rfl)) rfl (grA_at (show x3 < 10 by omega)) (show _ = 34 from rfl) ?_
      refine sx_RP.step (pc2 := 35) (ls2 := [(3, .ref (1 + 4 + x3)), (0, .ref 0), (1, .int (nI x3)), (2, .int (nI x11))]) (st2 := []) (w3 := w) rfl rfl ?_
      refine sx_RP.step (pc2 := 36) (ls2 := [(3, .ref (1 + 4 + x3)), (0, .ref 0), (1, .int (nI x3)), (2, .int (nI x11))]) (st2 := [.ref (1 + 4 + x3)]) (w3 := w) rfl rfl ?_
      refine sx_RP.gg (k := 5) hI (gAd.of (Or.inl rfl) (show x3 < 10 by omega)) rfl rfl (by decide) (show _ = 39 from rfl) ?_
      obtain ⟨x19, hx20, ex21⟩ : inR (fi w (1 + 4 + x3) 5) 1 := hI.gk (k := 5) (gAd.of (Or.inl rfl) (show x3 < 10 by omega)) (by decide)
      rw [ex21]
      refine sx_RP.br (p1 := 49) (l1 := [(3, .ref (1 + 4 + x3)), (0, .ref 0), (1, .int (nI x3)), (2, .int (nI x11))]) (s1 := []) (v1 := w) (p2 := 42) (l2 := [(3, .ref (1 + 4 + x3)), (0, .ref 0), (1, .int (nI x3)), (2, .int (nI x11))]) (s2 := []) (v2 := w) rfl rfl (fun q22 => ?_) (fun q22 => ?_)
      · replace q22 := of_decide_eq_true q22
        replace q22 := (nI_eq (a := x19) (b := 0) (by omega) (by omega)).mp q22
        refine sx_RP.step (pc2 := 50) (ls2 := [(3, .ref (1 + 4 + x3)), (0, .ref 0), (1, .int (nI x3)), (2, .int (nI x11))]) (st2 := [.ref (1 + 4 + x3)]) (w3 := w) rfl rfl ?_
        refine sx_RP.gg (k := 3) hI (gAd.of (Or.inl rfl) (show x3 < 10 by omega)) rfl rfl (by decide) (show _ = 53 from rfl) ?_
        obtain ⟨x23, hx24, ex25⟩ : inR (fi w (1 + 4 + x3) 3) 3 := hI.gk (k := 3) (gAd.of (Or.inl rfl) (show x3 < 10 by omega)) (by decide)
        rw [ex25]
        refine sx_RP.step (pc2 := 55) (ls2 := [(4, .int (nI x23)), (3, .ref (1 + 4 + x3)), (0, .ref 0), (1, .int (nI x3)), (2, .int (nI x11))]) (st2 := []) (w3 := w) rfl rfl ?_
        refine sx_RP.step (pc2 := 57) (ls2 := [(4, .int (nI x23)), (3, .ref (1 + 4 + x3)), (0, .ref 0), (1, .int (nI x3)), (2, .int (nI x11))]) (st2 := [.int (nI x23)]) (w3 := w) rfl rfl ?_
        refine sx_RP.step (pc2 := 58) (ls2 := [(4, .int (nI x23)), (3, .ref (1 + 4 + x3)), (0, .ref 0), (1, .int (nI x3)), (2, .int (nI x11))]) (st2 := [.int (nI x11), .int (nI x23)]) (w3 := w) rfl rfl ?_
        refine sx_RP.br (p1 := 71) (l1 := [(4, .int (nI x23)), (3, .ref (1 + 4 + x3)), (0, .ref 0), (1, .int (nI x3)), (2, .int (nI x11))]) (s1 := []) (v1 := w) (p2 := 61) (l2 := [(4, .int (nI x23)), (3, .ref (1 + 4 + x3)), (0, .ref 0), (1, .int (nI x3)), (2, .int (nI x11))]) (s2 := []) (v2 := w) rfl rfl (fun q26 => ?_) (fun q26 => ?_)
        · replace q26 := of_decide_eq_true q26
          replace q26 := (nI_eq (a := x23) (b := x11) (by omega) (by omega)).mp q26
          refine sx_RP.step (pc2 := 73) (ls2 := [(4, .int (nI x23)), (3, .ref (1 + 4 + x3)), (0, .ref 0), (1, .int (nI x3)), (2, .int (nI x11))]) (st2 := [.int (nI x23)]) (w3 := w) rfl rfl ?_
          refine sx_RP.ret (r := (some (.int (nI x23)))) rfl rfl ?_
          exact ⟨⟨_, rfl⟩, hI, hE⟩
        · replace q26 := of_decide_eq_false q26
          replace q26 := mt (nI_eq (a := x23) (b := x11) (by omega) (by omega)).mpr q26
          refine sx_RP.step (pc2 := 62) (ls2 := [(4, .int (nI x23)), (3, .ref (1 + 4 + x3)), (0, .ref 0), (1, .int (nI x3)), (2, .int (nI x11))]) (st2 := [.ref (1 + 4 + x3)]) (w3 := w) rfl rfl ?_
          refine sx_RP.step (pc2 := 63) (ls2 := [(4, .int (nI x23)), (3, .ref (1 + 4 + x3)), (0, .ref 0), (1, .int (nI x3)), (2, .int (nI x11))]) (st2 := [.int (nI x11), .ref (1 + 4 + x3)]) (w3 := w) rfl rfl ?_
          refine sx_RP.pgN (k := 3) hI hE (by omega) (gAd.of (Or.inl rfl) (show x3 < 10 by omega)) rfl rfl (by decide) rfl (inR.n (show x11 ≤ 3 by omega)) (show _ = 66 from rfl) (fun w27 hI28 hE29 hk30 => ?_)
          refine sx_RP.step (pc2 := 67) (ls2 := [(4, .int (nI x23)), (3, .ref (1 + 4 + x3)), (0, .ref 0), (1, .int (nI x3)), (2, .int (nI x11))]) (st2 := [.ref (1 + 4 + x3)]) (w3 := w27) rfl rfl ?_
          refine sx_RP.step (pc2 := 68) (ls2 := [(4, .int (nI x23)), (3, .ref (1 + 4 + x3)), (0, .ref 0), (1, .int (nI x3)), (2, .int (nI x11))]) (st2 := [.int 0, .ref (1 + 4 + x3)]) (w3 := w27) rfl rfl ?_
          refine sx_RP.pgN (k := 4) hI28 hE29 (by omega) (gAd.of (Or.inl rfl) (show x3 < 10 by omega)) rfl rfl (by decide) rfl trivial (show _ = 71 from rfl) (fun w31 hI32 hE33 hk34 => ?_)
          refine sx_RP.step (pc2 := 73) (ls2 := [(4, .int (nI x23)), (3, .ref (1 + 4 + x3)), (0, .ref 0), (1, .int (nI x3)), (2, .int (nI x11))]) (st2 := [.int (nI x23)]) (w3 := w31) rfl rfl ?_
          refine sx_RP.ret (r := (some (.int (nI x23)))) rfl rfl ?_
          exact ⟨⟨_, rfl⟩, hI32, hE33⟩
      · replace q22 := of_decide_eq_false q22
        replace q22 := mt (nI_eq (a := x19) (b := 0) (by omega) (by omega)).mpr q22
        refine sx_RP.step (pc2 := 43) (ls2 := [(3, .ref (1 + 4 + x3)), (0, .ref 0), (1, .int (nI x3)), (2, .int (nI x11))]) (st2 := [.ref 0]) (w3 := w) rfl rfl ?_
        refine sx_RP.step (pc2 := 45) (ls2 := [(3, .ref (1 + 4 + x3)), (0, .ref 0), (1, .int (nI x3)), (2, .int (nI x11))]) (st2 := [.int (-1000000005), .ref 0]) (w3 := w) rfl rfl ?_
        refine sx_RP.callp (as2 := [.ref 0, .int (-1000000005)]) (rest2 := []) rfl rfl (sx_inv_v2 (mi := 28) (k := 78) (st := [.int (-1000000005), .ref 0]) (w := w) rfl rfl hI.1.o0 rfl rfl rfl) rfl rfl rfl (Q9_4 hI) (show _ = 48 from rfl) ?_
        rintro r4 w35 ⟨rfl, hI36, hE38⟩
        have hE37 := hE.tr (hE38.en)
        show sx_RP _ _ _ _ _ [.int (-1000000005)] _ _
        refine sx_RP.ret (r := (some (.int (-1000000005)))) rfl rfl ?_
        exact ⟨⟨_, rfl⟩, hI36, hE37⟩
set_option maxRecDepth 20000 in
set_option maxHeartbeats 4000000 in
theorem N79 {xs : Option (List Int32)} {d : Nat} {w : List sx_C} (hI : WI w) (a1 a2 : Int32) : sx_RP xs (d + 7) 79 0 (lv_args 0 [.ref 0, .int a1, .int a2]) [] w (fun r w2 => (∃ v : Int32, r = some (.int v)) ∧ WI w2 ∧ EN w w2) := by
  have hE : EN w w := EN.rf
  refine sx_RP.step (pc2 := 1) (ls2 := [(0, .ref 0), (1, .int a1), (2, .int a2)]) (st2 := [.int a1]) (w3 := w) rfl rfl ?_
  rcases in_cases a1 0 47 (m := 0) (n := 47) rfl rfl (by decide) (by decide) with q1 | ⟨x2, hx3, hx4, rfl⟩
  · refine sx_RP.cu (as := [.int a1]) (rest2 := []) (st3 := [.int 0]) rfl rfl rfl rfl rfl (cx_7n q1) rfl ?_
    refine sx_RP.step (pc2 := 17) (ls2 := [(0, .ref 0), (1, .int a1), (2, .int a2)]) (st2 := []) (w3 := w) rfl rfl ?_
    refine sx_RP.step (pc2 := 18) (ls2 := [(0, .ref 0), (1, .int a1), (2, .int a2)]) (st2 := [.ref 0]) (w3 := w) rfl rfl ?_
    refine sx_RP.step (pc2 := 20) (ls2 := [(0, .ref 0), (1, .int a1), (2, .int a2)]) (st2 := [.int (-1000000001), .ref 0]) (w3 := w) rfl rfl ?_
    refine sx_RP.callp (as2 := [.ref 0, .int (-1000000001)]) (rest2 := []) rfl rfl (sx_inv_v2 (mi := 79) (k := 78) (st := [.int (-1000000001), .ref 0]) (w := w) rfl rfl hI.1.o0 rfl rfl rfl) rfl rfl rfl (Q9_0 hI) (show _ = 23 from rfl) ?_
    rintro r4 w6 ⟨rfl, hI7, hE9⟩
    have hE8 := hE.tr (hE9.en)
    show sx_RP _ _ _ _ _ [.int (-1000000001)] _ _
    refine sx_RP.ret (r := (some (.int (-1000000001)))) rfl rfl ?_
    exact ⟨⟨_, rfl⟩, hI7, hE8⟩
  · refine sx_RP.cu (as := [.int (nI x2)]) (rest2 := []) (st3 := [.int 1]) rfl rfl rfl rfl rfl (cx_7p ⟨nI_le (a := 0) hx3 (by omega), nI_le (b := 47) hx4 (by decide)⟩) rfl ?_
    refine sx_RP.step (pc2 := 7) (ls2 := [(0, .ref 0), (1, .int (nI x2)), (2, .int a2)]) (st2 := []) (w3 := w) rfl rfl ?_
    refine sx_RP.step (pc2 := 8) (ls2 := [(0, .ref 0), (1, .int (nI x2)), (2, .int a2)]) (st2 := [.int a2]) (w3 := w) rfl rfl ?_
    refine sx_RP.step (pc2 := 9) (ls2 := [(0, .ref 0), (1, .int (nI x2)), (2, .int a2)]) (st2 := [.int 1, .int a2]) (w3 := w) rfl rfl ?_
    refine sx_RP.step (pc2 := 11) (ls2 := [(0, .ref 0), (1, .int (nI x2)), (2, .int a2)]) (st2 := [.int 30, .int 1, .int a2]) (w3 := w) rfl rfl ?_
    rcases in_cases a2 1 30 (m := 1) (n := 30) rfl rfl (by decide) (by decide) with q10 | ⟨x11, hx12, hx13, rfl⟩
    · refine sx_RP.cu (as := [.int a2, .int 1, .int 30]) (rest2 := []) (st3 := [.int 0]) rfl rfl rfl rfl rfl (cx_8n q10) rfl ?_
      refine sx_RP.step (pc2 := 17) (ls2 := [(0, .ref 0), (1, .int (nI x2)), (2, .int a2)]) (st2 := []) (w3 := w) rfl rfl ?_
      refine sx_RP.step (pc2 := 18) (ls2 := [(0, .ref 0), (1, .int (nI x2)), (2, .int a2)]) (st2 := [.ref 0]) (w3 := w) rfl rfl ?_
      refine sx_RP.step (pc2 := 20) (ls2 := [(0, .ref 0), (1, .int (nI x2)), (2, .int a2)]) (st2 := [.int (-1000000001), .ref 0]) (w3 := w) rfl rfl ?_
      refine sx_RP.callp (as2 := [.ref 0, .int (-1000000001)]) (rest2 := []) rfl rfl (sx_inv_v2 (mi := 79) (k := 78) (st := [.int (-1000000001), .ref 0]) (w := w) rfl rfl hI.1.o0 rfl rfl rfl) rfl rfl rfl (Q9_0 hI) (show _ = 23 from rfl) ?_
      rintro r4 w15 ⟨rfl, hI16, hE18⟩
      have hE17 := hE.tr (hE18.en)
      show sx_RP _ _ _ _ _ [.int (-1000000001)] _ _
      refine sx_RP.ret (r := (some (.int (-1000000001)))) rfl rfl ?_
      exact ⟨⟨_, rfl⟩, hI16, hE17⟩
    · refine sx_RP.cu (as := [.int (nI x11), .int 1, .int 30]) (rest2 := []) (st3 := [.int 1]) rfl rfl rfl rfl rfl (cx_8p ⟨nI_le (a := 1) hx12 (by omega), nI_le (b := 30) hx13 (by decide)⟩) rfl ?_
      refine sx_RP.step (pc2 := 24) (ls2 := [(0, .ref 0), (1, .int (nI x2)), (2, .int (nI x11))]) (st2 := []) (w3 := w) rfl rfl ?_
      refine sx_RP.step (pc2 := 25) (ls2 := [(0, .ref 0), (1, .int (nI x2)), (2, .int (nI x11))]) (st2 := [.ref 0]) (w3 := w) rfl rfl ?_
      refine sx_RP.gf (v := .ref 1) rfl rfl hI.1.o0 rfl rfl (show _ = 28 from rfl) ?_
      refine sx_RP.step (pc2 := 29) (ls2 := [(0, .ref 0), (1, .int (nI x2)), (2, .int (nI x11))]) (st2 := [.ref 0, .ref 1]) (w3 := w) rfl rfl ?_
      refine sx_RP.gf (v := .ref 1) rfl rfl hI.1.o0 rfl rfl (show _ = 32 from rfl) ?_
      refine sx_RP.step (pc2 := 33) (ls2 := [(0, .ref 0), (1, .int (nI x2)), (2, .int (nI x11))]) (st2 := [.int (nI x2), .ref 1, .ref 1]) (w3 := w) rfl rfl ?_
      refine sx_RP.step (pc2 := 34) (ls2 := [(0, .ref 0), (1, .int (nI x2)), (2, .int (nI x11))]) (st2 := [.int (nI x11), .int (nI x2), .ref 1, .ref 1]) (w3 := w) rfl rfl ?_
      obtain ⟨v19, c20⟩ := p77 hI (Or.inl rfl) (nI x2) (nI x11)
      refine sx_RP.cu (as := [.ref 1, .int (nI x2), .int (nI x11)]) (rest2 := [.ref 1]) (st3 := [.long v19, .ref 1]) rfl rfl (sx_inv_v2 (mi := 79) (k := 253) (st := [.int (nI x11), .int (nI x2), .ref 1, .ref 1]) (w := w) rfl rfl (hI.1.oC (Or.inl rfl)) rfl rfl rfl) rfl rfl (c20) rfl ?_
      refine sx_RP.callp (as2 := [.ref 1, .long v19]) (rest2 := []) rfl rfl (sx_inv_v2 (mi := 79) (k := 263) (st := [.long v19, .ref 1]) (w := w) rfl rfl (hI.1.oC (Or.inl rfl)) rfl rfl rfl) rfl rfl rfl (N80 hI (Or.inl rfl) (by omega) v19) (show _ = 40 from rfl) ?_
      rintro r4 w22 ⟨⟨v21, rfl⟩, hI23, hE25⟩
      have hE24 := hE.tr (hE25)
      show sx_RP _ _ _ _ _ [.int v21] _ _
      refine sx_RP.ret (r := (some (.int v21))) rfl rfl ?_
      exact ⟨⟨_, rfl⟩, hI23, hE24⟩
set_option maxRecDepth 20000 in
set_option maxHeartbeats 4000000 in
theorem N115 {xs : Option (List Int32)} {d : Nat} {w : List sx_C} (hI : WI w) (a1 a2 : Int32) (v : Int64) : sx_RP xs (d + 7) 115 0 (lv_args 0 [.ref 0, .int a1, .int a2, .long v]) [] w (fun r w2 => (∃ v : Int64, r = some (.long v)) ∧ WI w2 ∧ EN w w2) := by
  have hE : EN w w := EN.rf
  refine sx_RP.step (pc2 := 1) (ls2 := [(0, .ref 0), (1, .int a1), (2, .int a2), (3, .long v)]) (st2 := [.int a1]) (w3 := w) rfl rfl ?_
  rcases in_cases a1 0 3 (m := 0) (n := 3) rfl rfl (by decide) (by decide) with q1 | ⟨x2, hx3, hx4, rfl⟩
  · refine sx_RP.cu (as := [.int a1]) (rest2 := []) (st3 := [.int 0]) rfl rfl rfl rfl rfl (cx_112n q1) rfl ?_
    refine sx_RP.step (pc2 := 7) (ls2 := [(0, .ref 0), (1, .int a1), (2, .int a2), (3, .long v)]) (st2 := []) (w3 := w) rfl rfl ?_
    refine sx_RP.step (pc2 := 8) (ls2 := [(0, .ref 0), (1, .int a1), (2, .int a2), (3, .long v)]) (st2 := [.ref 0]) (w3 := w) rfl rfl ?_
    refine sx_RP.step (pc2 := 10) (ls2 := [(0, .ref 0), (1, .int a1), (2, .int a2), (3, .long v)]) (st2 := [.int (-1000000001), .ref 0]) (w3 := w) rfl rfl ?_
    refine sx_RP.callp (as2 := [.ref 0, .int (-1000000001)]) (rest2 := []) rfl rfl (sx_inv_v2 (mi := 115) (k := 78) (st := [.int (-1000000001), .ref 0]) (w := w) rfl rfl hI.1.o0 rfl rfl rfl) rfl rfl rfl (Q9_0 hI) (show _ = 13 from rfl) ?_
    rintro r4 w6 ⟨rfl, hI7, hE9⟩
    have hE8 := hE.tr (hE9.en)
    show sx_RP _ _ _ _ _ [.int (-1000000001)] _ _
    refine sx_RP.step (pc2 := 14) (ls2 := [(0, .ref 0), (1, .int a1), (2, .int a2), (3, .long v)]) (st2 := [.long (-1000000001)]) (w3 := w6) rfl rfl ?_
    refine sx_RP.ret (r := (some (.long (-1000000001)))) rfl rfl ?_
    exact ⟨⟨_, rfl⟩, hI7, hE8⟩
  · refine sx_RP.cu (as := [.int (nI x2)]) (rest2 := []) (st3 := [.int 1]) rfl rfl rfl rfl rfl (cx_112p ⟨nI_le (a := 0) hx3 (by omega), nI_le (b := 3) hx4 (by decide)⟩) rfl ?_
    refine sx_RP.step (pc2 := 15) (ls2 := [(0, .ref 0), (1, .int (nI x2)), (2, .int a2), (3, .long v)]) (st2 := []) (w3 := w) rfl rfl ?_
    refine sx_RP.step (pc2 := 16) (ls2 := [(0, .ref 0), (1, .int (nI x2)), (2, .int a2), (3, .long v)]) (st2 := [.ref 0]) (w3 := w) rfl rfl ?_
    refine sx_RP.gf (v := .ref 98) rfl rfl hI.1.o0 rfl rfl (show _ = 19 from rfl) ?_
    refine sx_RP.step (pc2 := 20) (ls2 := [(0, .ref 0), (1, .int (nI x2)), (2, .int a2), (3, .long v)]) (st2 := [.int (nI x2), .ref 98]) (w3 := w) rfl rfl ?_
    refine sx_RP.ald (v := .ref (103 + 2 * x2)) rfl hI.1.a98 rfl (shA_at (show x2 < 4 by omega)) (show _ = 21 from rfl) ?_
    refine sx_RP.step (pc2 := 23) (ls2 := [(5, .ref (103 + 2 * x2)), (0, .ref 0), (1, .int (nI x2)), (2, .int a2), (3, .long v)]) (st2 := []) (w3 := w) rfl rfl ?_
    refine sx_RP.step (pc2 := 25) (ls2 := [(5, .ref (103 + 2 * x2)), (0, .ref 0), (1, .int (nI x2)), (2, .int a2), (3, .long v)]) (st2 := [.ref (103 + 2 * x2)]) (w3 := w) rfl rfl ?_
    obtain ⟨x10, hx11, c12⟩ := p116 hI (show x2 < 4 by omega)
    refine sx_RP.cu (as := [.ref (103 + 2 * x2)]) (rest2 := []) (st3 := [.int (nI x10)]) rfl rfl (sx_inv_v2 (mi := 115) (k := 310) (st := [.ref (103 + 2 * x2)]) (w := w) rfl rfl (hI.1.oS (show x2 < 4 by omega)) rfl rfl rfl) rfl rfl (c12) rfl ?_
    refine sx_RP.br (p1 := 40) (l1 := [(5, .ref (103 + 2 * x2)), (0, .ref 0), (1, .int (nI x2)), (2, .int a2), (3, .long v)]) (s1 := []) (v1 := w) (p2 := 31) (l2 := [(5, .ref (103 + 2 * x2)), (0, .ref 0), (1, .int (nI x2)), (2, .int a2), (3, .long v)]) (s2 := []) (v2 := w) rfl rfl (fun q13 => ?_) (fun q13 => ?_)
    · replace q13 := of_decide_eq_true q13
      replace q13 := (nI_eq (a := x10) (b := 0) (by omega) (by omega)).mp q13
      refine sx_RP.step (pc2 := 41) (ls2 := [(5, .ref (103 + 2 * x2)), (0, .ref 0), (1, .int (nI x2)), (2, .int a2), (3, .long v)]) (st2 := [.int a2]) (w3 := w) rfl rfl ?_
      refine sx_RP.step (pc2 := 42) (ls2 := [(5, .ref (103 + 2 * x2)), (0, .ref 0), (1, .int (nI x2)), (2, .int a2), (3, .long v)]) (st2 := [.int 0, .int a2]) (w3 := w) rfl rfl ?_
      refine sx_RP.step (pc2 := 44) (ls2 := [(5, .ref (103 + 2 * x2)), (0, .ref 0), (1, .int (nI x2)), (2, .int a2), (3, .long v)]) (st2 := [.ref (103 + 2 * x2), .int 0, .int a2]) (w3 := w) rfl rfl ?_
      refine sx_RP.gf (v := .int (fi w (103 + 2 * x2) 2)) rfl rfl (hI.1.oS (show x2 < 4 by omega)) rfl rfl (show _ = 47 from rfl) ?_
      obtain ⟨x14, hx15, ex16⟩ : inR (fi w (103 + 2 * x2) 2) 40 := hI.sh (show x2 < 4 by omega)
      rw [ex16]
      refine sx_RP.step (pc2 := 48) (ls2 := [(5, .ref (103 + 2 * x2)), (0, .ref 0), (1, .int (nI x2)), (2, .int a2), (3, .long v)]) (st2 := [.int 1, .int (nI x14), .int 0, .int a2]) (w3 := w) rfl rfl ?_
      refine sx_RP.step (pc2 := 49) (ls2 := [(5, .ref (103 + 2 * x2)), (0, .ref 0), (1, .int (nI x2)), (2, .int a2), (3, .long v)]) (st2 := [.int ((nI x14) - 1), .int 0, .int a2]) (w3 := w) rfl rfl ?_
      rcases in_casesS a2 (n := x14) (by omega) with q17 | ⟨q17, x18, hx19, rfl⟩
      · refine sx_RP.cu (as := [.int a2, .int 0, .int ((nI x14) - 1)]) (rest2 := []) (st3 := [.int 0]) rfl rfl rfl rfl rfl (cx_8n q17) rfl ?_
        refine sx_RP.step (pc2 := 55) (ls2 := [(5, .ref (103 + 2 * x2)), (0, .ref 0), (1, .int (nI x2)), (2, .int a2), (3, .long v)]) (st2 := []) (w3 := w) rfl rfl ?_
        refine sx_RP.step (pc2 := 56) (ls2 := [(5, .ref (103 + 2 * x2)), (0, .ref 0), (1, .int (nI x2)), (2, .int a2), (3, .long v)]) (st2 := [.ref 0]) (w3 := w) rfl rfl ?_
        refine sx_RP.step (pc2 := 58) (ls2 := [(5, .ref (103 + 2 * x2)), (0, .ref 0), (1, .int (nI x2)), (2, .int a2), (3, .long v)]) (st2 := [.int (-1000000001), .ref 0]) (w3 := w) rfl rfl ?_
        refine sx_RP.callp (as2 := [.ref 0, .int (-1000000001)]) (rest2 := []) rfl rfl (sx_inv_v2 (mi := 115) (k := 78) (st := [.int (-1000000001), .ref 0]) (w := w) rfl rfl hI.1.o0 rfl rfl rfl) rfl rfl rfl (Q9_0 hI) (show _ = 61 from rfl) ?_
        rintro r4 w21 ⟨rfl, hI22, hE24⟩
        have hE23 := hE.tr (hE24.en)
        show sx_RP _ _ _ _ _ [.int (-1000000001)] _ _
        refine sx_RP.step (pc2 := 62) (ls2 := [(5, .ref (103 + 2 * x2)), (0, .ref 0), (1, .int (nI x2)), (2, .int a2), (3, .long v)]) (st2 := [.long (-1000000001)]) (w3 := w21) rfl rfl ?_
        refine sx_RP.ret (r := (some (.long (-1000000001)))) rfl rfl ?_
        exact ⟨⟨_, rfl⟩, hI22, hE23⟩
      · refine sx_RP.cu (as := [.int (nI x18), .int 0, .int ((nI x14) - 1)]) (rest2 := []) (st3 := [.int 1]) rfl rfl rfl rfl rfl (cx_8p q17) rfl ?_
        refine sx_RP.step (pc2 := 63) (ls2 := [(5, .ref (103 + 2 * x2)), (0, .ref 0), (1, .int (nI x2)), (2, .int (nI x18)), (3, .long v)]) (st2 := []) (w3 := w) rfl rfl ?_
        refine sx_RP.step (pc2 := 65) (ls2 := [(5, .ref (103 + 2 * x2)), (0, .ref 0), (1, .int (nI x2)), (2, .int (nI x18)), (3, .long v)]) (st2 := [.ref (103 + 2 * x2)]) (w3 := w) rfl rfl ?_
        refine sx_RP.gf (v := .ref (104 + 2 * x2)) rfl rfl (hI.1.oS (show x2 < 4 by omega)) rfl rfl (show _ = 68 from rfl) ?_
        refine sx_RP.step (pc2 := 69) (ls2 := [(5, .ref (103 + 2 * x2)), (0, .ref 0), (1, .int (nI x2)), (2, .int (nI x18)), (3, .long v)]) (st2 := [.int (nI x18), .ref (104 + 2 * x2)]) (w3 := w) rfl rfl ?_
        refine sx_RP.lld (c := x18) rfl (hI.1.aN (show x2 < 4 by omega)).1 (hI.1.aN (show x2 < 4 by omega)).2 (sx_in_nI (show x18 < 40 by omega) (by decide)) (show (nI x18).toNatClampNeg = x18 from nI_clamp (by omega)) (show _ = 70 from rfl) ?_
        refine sx_RP.step (pc2 := 72) (ls2 := [(6, .long ((ja w (104 + 2 * x2)).getD x18 0)), (5, .ref (103 + 2 * x2)), (0, .ref 0), (1, .int (nI x2)), (2, .int (nI x18)), (3, .long v)]) (st2 := []) (w3 := w) rfl rfl ?_
        refine sx_RP.step (pc2 := 74) (ls2 := [(6, .long ((ja w (104 + 2 * x2)).getD x18 0)), (5, .ref (103 + 2 * x2)), (0, .ref 0), (1, .int (nI x2)), (2, .int (nI x18)), (3, .long v)]) (st2 := [.ref (103 + 2 * x2)]) (w3 := w) rfl rfl ?_
        refine sx_RP.step (pc2 := 75) (ls2 := [(6, .long ((ja w (104 + 2 * x2)).getD x18 0)), (5, .ref (103 + 2 * x2)), (0, .ref 0), (1, .int (nI x2)), (2, .int (nI x18)), (3, .long v)]) (st2 := [.int (nI x18), .ref (103 + 2 * x2)]) (w3 := w) rfl rfl ?_
        refine sx_RP.step (pc2 := 76) (ls2 := [(6, .long ((ja w (104 + 2 * x2)).getD x18 0)), (5, .ref (103 + 2 * x2)), (0, .ref 0), (1, .int (nI x2)), (2, .int (nI x18)), (3, .long v)]) (st2 := [.long v, .int (nI x18), .ref (103 + 2 * x2)]) (w3 := w) rfl rfl ?_
        refine sx_RP.callp (as2 := [.ref (103 + 2 * x2), .int (nI x18), .long v]) (rest2 := []) rfl rfl (sx_inv_v2 (mi := 115) (k := 318) (st := [.long v, .int (nI x18), .ref (103 + 2 * x2)]) (w := w) rfl rfl (hI.1.oS (show x2 < 4 by omega)) rfl rfl rfl) rfl rfl rfl (N117 hI (show x2 < 4 by omega) (show x18 < 40 by omega) v) (show _ = 79 from rfl) ?_
        rintro r4 w25 ⟨rfl, hI26, hE28⟩
        have hE27 := hE.tr (hE28)
        show sx_RP _ _ _ _ _ [] _ _
        refine sx_RP.step (pc2 := 81) (ls2 := [(6, .long ((ja w (104 + 2 * x2)).getD x18 0)), (5, .ref (103 + 2 * x2)), (0, .ref 0), (1, .int (nI x2)), (2, .int (nI x18)), (3, .long v)]) (st2 := [.long ((ja w (104 + 2 * x2)).getD x18 0)]) (w3 := w25) rfl rfl ?_
        refine sx_RP.ret (r := (some (.long ((ja w (104 + 2 * x2)).getD x18 0)))) rfl rfl ?_
        exact ⟨⟨_, rfl⟩, hI26, hE27⟩
    · replace q13 := of_decide_eq_false q13
      replace q13 := mt (nI_eq (a := x10) (b := 0) (by omega) (by omega)).mpr q13
      refine sx_RP.step (pc2 := 32) (ls2 := [(5, .ref (103 + 2 * x2)), (0, .ref 0), (1, .int (nI x2)), (2, .int a2), (3, .long v)]) (st2 := [.ref 0]) (w3 := w) rfl rfl ?_
      refine sx_RP.step (pc2 := 35) (ls2 := [(5, .ref (103 + 2 * x2)), (0, .ref 0), (1, .int (nI x2)), (2, .int a2), (3, .long v)]) (st2 := [.int (-1000000006), .ref 0]) (w3 := w) rfl rfl ?_
      refine sx_RP.callp (as2 := [.ref 0, .int (-1000000006)]) (rest2 := []) rfl rfl (sx_inv_v2 (mi := 115) (k := 78) (st := [.int (-1000000006), .ref 0]) (w := w) rfl rfl hI.1.o0 rfl rfl rfl) rfl rfl rfl (Q9_5 hI) (show _ = 38 from rfl) ?_
      rintro r4 w29 ⟨rfl, hI30, hE32⟩
      have hE31 := hE.tr (hE32.en)
      show sx_RP _ _ _ _ _ [.int (-1000000006)] _ _
      refine sx_RP.step (pc2 := 39) (ls2 := [(5, .ref (103 + 2 * x2)), (0, .ref 0), (1, .int (nI x2)), (2, .int a2), (3, .long v)]) (st2 := [.long (-1000000006)]) (w3 := w29) rfl rfl ?_
      refine sx_RP.ret (r := (some (.long (-1000000006)))) rfl rfl ?_
      exact ⟨⟨_, rfl⟩, hI30, hE31⟩
set_option maxRecDepth 20000 in
set_option maxHeartbeats 4000000 in
theorem N39B {xs : Option (List Int32)} {d : Nat} {w w0 : List sx_C} {n : Nat} (hn : n ≤ 60) (hI : WI w) (hE : EN w0 w) {j : Nat} (hj : j ≤ 60) (l : Int32) (kk : ∀ (w4 : List sx_C) (ul : Int32), WI w4 → EN w0 w4 → j + 1 ≤ 60 → sx_RP xs (d + 7) 39 39 [(0, .ref 0), (1, .int (nI n)), (2, .int ul), (3, .int (nI (j + 1)))] [] w4 (fun r w2 => (∃ v : Int32, r = some (.int v)) ∧ WI w2 ∧ EN w0 w2)) : sx_RP xs (d + 7) 39 39 [(0, .ref 0), (1, .int (nI n)), (2, .int l), (3, .int (nI j))] [] w (fun r w2 => (∃ v : Int32, r = some (.int v)) ∧ WI w2 ∧ EN w0 w2) := by
  refine sx_RP.step (pc2 := 40) (ls2 := [(0, .ref 0), (1, .int (nI n)), (2, .int l), (3, .int (nI j))]) (st2 := [.int (nI j)]) (w3 := w) rfl rfl ?_
  refine sx_RP.step (pc2 := 41) (ls2 := [(0, .ref 0), (1, .int (nI n)), (2, .int l), (3, .int (nI j))]) (st2 := [.int (nI n), .int (nI j)]) (w3 := w) rfl rfl ?_
  refine sx_RP.br (p1 := 60) (l1 := [(0, .ref 0), (1, .int (nI n)), (2, .int l), (3, .int (nI j))]) (s1 := []) (v1 := w) (p2 := 44) (l2 := [(0, .ref 0), (1, .int (nI n)), (2, .int l), (3, .int (nI j))]) (s2 := []) (v2 := w) rfl rfl (fun q1 => ?_) (fun q1 => ?_)
  · replace q1 := of_decide_eq_true q1
    replace q1 := (nI_leI (a := n) (b := j) (by omega) (by omega)).mp q1
    refine sx_RP.step (pc2 := 61) (ls2 := [(0, .ref 0), (1, .int (nI n)), (2, .int l), (3, .int (nI j))]) (st2 := [.int l]) (w3 := w) rfl rfl ?_
    refine sx_RP.ret (r := (some (.int l))) rfl rfl ?_
    exact ⟨⟨_, rfl⟩, hI, hE⟩
  · replace q1 := of_decide_eq_false q1
    replace q1 := mt (nI_leI (a := n) (b := j) (by omega) (by omega)).mpr q1
    refine sx_RP.step (pc2 := 45) (ls2 := [(0, .ref 0), (1, .int (nI n)), (2, .int l), (3, .int (nI j))]) (st2 := [.int l]) (w3 := w) rfl rfl ?_
    refine sx_RP.step (pc2 := 46) (ls2 := [(0, .ref 0), (1, .int (nI n)), (2, .int l), (3, .int (nI j))]) (st2 := [.ref 0, .int l]) (w3 := w) rfl rfl ?_
    refine sx_RP.gf (v := .ref 1) rfl rfl hI.1.o0 rfl rfl (show _ = 49 from rfl) ?_
    refine sx_RP.callp (as2 := [.ref 1]) (rest2 := [.int l]) rfl rfl (sx_inv_v2 (mi := 39) (k := 166) (st := [.ref 1, .int l]) (w := w) rfl rfl (hI.1.oC (Or.inl rfl)) rfl rfl rfl) rfl rfl rfl (N41 hI (Or.inl rfl) (by omega)) (show _ = 52 from rfl) ?_
    rintro r4 w3 ⟨⟨v2, rfl⟩, hI4, hE6⟩
    have hE5 := hE.tr (hE6)
    show sx_RP _ _ _ _ _ [.int v2, .int l] _ _
    refine sx_RP.step (pc2 := 53) (ls2 := [(0, .ref 0), (1, .int (nI n)), (2, .int l), (3, .int (nI j))]) (st2 := [.int (l + v2)]) (w3 := w3) rfl rfl ?_
    refine sx_RP.step (pc2 := 54) (ls2 := [(2, .int (l + v2)), (0, .ref 0), (1, .int (nI n)), (3, .int (nI j))]) (st2 := []) (w3 := w3) rfl rfl ?_
    refine sx_RP.step (pc2 := 57) (ls2 := [(3, .int ((nI j) + 1)), (2, .int (l + v2)), (0, .ref 0), (1, .int (nI n))]) (st2 := []) (w3 := w3) rfl rfl ?_
    rw [nI_1 j]
    refine sx_RP.step (pc2 := 39) (ls2 := [(3, .int (nI (j + 1))), (2, .int (l + v2)), (0, .ref 0), (1, .int (nI n))]) (st2 := []) (w3 := w3) rfl rfl ?_
    exact sx_RP.ls (sx_lr.cons rfl (sx_lr.cons rfl (sx_lr.cons rfl (sx_lr.cons rfl sx_lr.nil)))) (kk w3 (l + v2) hI4 hE5 (by omega))
set_option maxRecDepth 20000 in
set_option maxHeartbeats 4000000 in
theorem N39L {xs : Option (List Int32)} {d : Nat} {w0 : List sx_C} {n : Nat} (hn : n ≤ 60) : ∀ (fz j : Nat) (w : List sx_C) (l : Int32) , 60 ≤ j + fz * 1 → j ≤ 60 → WI w → EN w0 w → sx_RP xs (d + 7) 39 39 [(0, .ref 0), (1, .int (nI n)), (2, .int l), (3, .int (nI j))] [] w (fun r w2 => (∃ v : Int32, r = some (.int v)) ∧ WI w2 ∧ EN w0 w2)
  | 0, j, w, l, h, hj, hI, hE => N39B hn hI hE hj l  (fun w4 ul hI4 hE4 hlt  => absurd hlt (by omega)) 
  | fz + 1, j, w, l, h, hj, hI, hE => N39B hn hI hE hj l  (fun w4 ul hI4 hE4 hlt  => N39L hn  fz (j + 1) w4 ul (by omega) hlt hI4 hE4 ) 
set_option maxRecDepth 20000 in
set_option maxHeartbeats 4000000 in
theorem N39 {xs : Option (List Int32)} {d : Nat} {w : List sx_C} (hI : WI w) (a1 : Int32) : sx_RP xs (d + 7) 39 0 (lv_args 0 [.ref 0, .int a1]) [] w (fun r w2 => (∃ v : Int32, r = some (.int v)) ∧ WI w2 ∧ EN w w2) := by
  have hE : EN w w := EN.rf
  refine sx_RP.step (pc2 := 1) (ls2 := [(0, .ref 0), (1, .int a1)]) (st2 := [.int a1]) (w3 := w) rfl rfl ?_
  refine sx_RP.step (pc2 := 2) (ls2 := [(0, .ref 0), (1, .int a1)]) (st2 := [.int 1, .int a1]) (w3 := w) rfl rfl ?_
  refine sx_RP.step (pc2 := 4) (ls2 := [(0, .ref 0), (1, .int a1)]) (st2 := [.int 60, .int 1, .int a1]) (w3 := w) rfl rfl ?_
  rcases in_cases a1 1 60 (m := 1) (n := 60) rfl rfl (by decide) (by decide) with q1 | ⟨x2, hx3, hx4, rfl⟩
  · refine sx_RP.cu (as := [.int a1, .int 1, .int 60]) (rest2 := []) (st3 := [.int 0]) rfl rfl rfl rfl rfl (cx_8n q1) rfl ?_
    refine sx_RP.step (pc2 := 10) (ls2 := [(0, .ref 0), (1, .int a1)]) (st2 := []) (w3 := w) rfl rfl ?_
    refine sx_RP.step (pc2 := 11) (ls2 := [(0, .ref 0), (1, .int a1)]) (st2 := [.ref 0]) (w3 := w) rfl rfl ?_
    refine sx_RP.step (pc2 := 13) (ls2 := [(0, .ref 0), (1, .int a1)]) (st2 := [.int (-1000000001), .ref 0]) (w3 := w) rfl rfl ?_
    refine sx_RP.callp (as2 := [.ref 0, .int (-1000000001)]) (rest2 := []) rfl rfl (sx_inv_v2 (mi := 39) (k := 78) (st := [.int (-1000000001), .ref 0]) (w := w) rfl rfl hI.1.o0 rfl rfl rfl) rfl rfl rfl (Q9_0 hI) (show _ = 16 from rfl) ?_
    rintro r4 w6 ⟨rfl, hI7, hE9⟩
    have hE8 := hE.tr (hE9.en)
    show sx_RP _ _ _ _ _ [.int (-1000000001)] _ _
    refine sx_RP.ret (r := (some (.int (-1000000001)))) rfl rfl ?_
    exact ⟨⟨_, rfl⟩, hI7, hE8⟩
  · refine sx_RP.cu (as := [.int (nI x2), .int 1, .int 60]) (rest2 := []) (st3 := [.int 1]) rfl rfl rfl rfl rfl (cx_8p ⟨nI_le (a := 1) hx3 (by omega), nI_le (b := 60) hx4 (by decide)⟩) rfl ?_
    refine sx_RP.step (pc2 := 17) (ls2 := [(0, .ref 0), (1, .int (nI x2))]) (st2 := []) (w3 := w) rfl rfl ?_
    refine sx_RP.step (pc2 := 18) (ls2 := [(0, .ref 0), (1, .int (nI x2))]) (st2 := [.ref 0]) (w3 := w) rfl rfl ?_
    refine sx_RP.gf (v := .ref 1) rfl rfl hI.1.o0 rfl rfl (show _ = 21 from rfl) ?_
    refine sx_RP.step (pc2 := 22) (ls2 := [(0, .ref 0), (1, .int (nI x2))]) (st2 := [.int (nI x2), .ref 1]) (w3 := w) rfl rfl ?_
    obtain ⟨x10, hx11, c12⟩ := p40 hI (Or.inl rfl) (nI x2)
    refine sx_RP.cu (as := [.ref 1, .int (nI x2)]) (rest2 := []) (st3 := [.int (nI x10)]) rfl rfl (sx_inv_v2 (mi := 39) (k := 163) (st := [.int (nI x2), .ref 1]) (w := w) rfl rfl (hI.1.oC (Or.inl rfl)) rfl rfl rfl) rfl rfl (c12) rfl ?_
    refine sx_RP.br (p1 := 35) (l1 := [(0, .ref 0), (1, .int (nI x2))]) (s1 := []) (v1 := w) (p2 := 28) (l2 := [(0, .ref 0), (1, .int (nI x2))]) (s2 := []) (v2 := w) rfl rfl (fun q13 => ?_) (fun q13 => ?_)
    · replace q13 := of_decide_eq_true q13
      replace q13 := mt (nI_eq (a := x10) (b := 0) (by omega) (by omega)).mpr q13
      refine sx_RP.step (pc2 := 36) (ls2 := [(0, .ref 0), (1, .int (nI x2))]) (st2 := [.int 0]) (w3 := w) rfl rfl ?_
      refine sx_RP.step (pc2 := 37) (ls2 := [(2, .int 0), (0, .ref 0), (1, .int (nI x2))]) (st2 := []) (w3 := w) rfl rfl ?_
      refine sx_RP.step (pc2 := 38) (ls2 := [(2, .int 0), (0, .ref 0), (1, .int (nI x2))]) (st2 := [.int 0]) (w3 := w) rfl rfl ?_
      refine sx_RP.step (pc2 := 39) (ls2 := [(3, .int 0), (2, .int 0), (0, .ref 0), (1, .int (nI x2))]) (st2 := []) (w3 := w) rfl rfl ?_
      exact sx_RP.ls (sx_lr.cons rfl (sx_lr.cons rfl (sx_lr.cons rfl (sx_lr.cons rfl sx_lr.nil)))) (N39L (show x2 ≤ 60 by omega) 60 0 w 0 (by omega) (by omega) hI hE )
    · replace q13 := Decidable.not_not.mp (of_decide_eq_false q13)
      replace q13 := (nI_eq (a := x10) (b := 0) (by omega) (by omega)).mp q13
      refine sx_RP.step (pc2 := 29) (ls2 := [(0, .ref 0), (1, .int (nI x2))]) (st2 := [.ref 0]) (w3 := w) rfl rfl ?_
      refine sx_RP.step (pc2 := 31) (ls2 := [(0, .ref 0), (1, .int (nI x2))]) (st2 := [.int (-1000000005), .ref 0]) (w3 := w) rfl rfl ?_
      refine sx_RP.callp (as2 := [.ref 0, .int (-1000000005)]) (rest2 := []) rfl rfl (sx_inv_v2 (mi := 39) (k := 78) (st := [.int (-1000000005), .ref 0]) (w := w) rfl rfl hI.1.o0 rfl rfl rfl) rfl rfl rfl (Q9_4 hI) (show _ = 34 from rfl) ?_
      rintro r4 w14 ⟨rfl, hI15, hE17⟩
      have hE16 := hE.tr (hE17.en)
      show sx_RP _ _ _ _ _ [.int (-1000000005)] _ _
      refine sx_RP.ret (r := (some (.int (-1000000005)))) rfl rfl ?_
      exact ⟨⟨_, rfl⟩, hI15, hE16⟩
set_option maxRecDepth 20000 in
set_option maxHeartbeats 4000000 in
theorem N120B {xs : Option (List Int32)} {d : Nat} {w w0 : List sx_C} {s c : Nat} (a1 : Int32) (hs : s < 4) (hc : c < 48) (hI : WI w) (hE : EN w0 w) {j : Nat} (hj : j ≤ 40) (m : Int32) (kk : ∀ (w4 : List sx_C) (um : Int32), WI w4 → EN w0 w4 → j + 1 ≤ 40 → sx_RP xs (d + 7) 120 56 [(0, .ref 0), (1, .int a1), (2, .int (nI c)), (3, .ref (103 + 2 * s)), (4, .int um), (5, .int (nI (j + 1)))] [] w4 (fun r w2 => (∃ v : Int32, r = some (.int v)) ∧ WI w2 ∧ EN w0 w2)) : sx_RP xs (d + 7) 120 56 [(0, .ref 0), (1, .int a1), (2, .int (nI c)), (3, .ref (103 + 2 * s)), (4, .int m), (5, .int (nI j))] [] w (fun r w2 => (∃ v : Int32, r = some (.int v)) ∧ WI w2 ∧ EN w0 w2) := by
  refine sx_RP.step (pc2 := 58) (ls2 := [(0, .ref 0), (1, .int a1), (2, .int (nI c)), (3, .ref (103 + 2 * s)), (4, .int m), (5, .int (nI j))]) (st2 := [.int (nI j)]) (w3 := w) rfl rfl ?_
  refine sx_RP.step (pc2 := 59) (ls2 := [(0, .ref 0), (1, .int a1), (2, .int (nI c)), (3, .ref (103 + 2 * s)), (4, .int m), (5, .int (nI j))]) (st2 := [.ref (103 + 2 * s), .int (nI j)]) (w3 := w) rfl rfl ?_
  refine sx_RP.gf (v := .int (fi w (103 + 2 * s) 2)) rfl rfl (hI.1.oS (show s < 4 by omega)) rfl rfl (show _ = 62 from rfl) ?_
  obtain ⟨x1, hx2, ex3⟩ : inR (fi w (103 + 2 * s) 2) 40 := hI.sh (show s < 4 by omega)
  rw [ex3]
  refine sx_RP.br (p1 := 123) (l1 := [(0, .ref 0), (1, .int a1), (2, .int (nI c)), (3, .ref (103 + 2 * s)), (4, .int m), (5, .int (nI j))]) (s1 := []) (v1 := w) (p2 := 65) (l2 := [(0, .ref 0), (1, .int a1), (2, .int (nI c)), (3, .ref (103 + 2 * s)), (4, .int m), (5, .int (nI j))]) (s2 := []) (v2 := w) rfl rfl (fun q4 => ?_) (fun q4 => ?_)
  · replace q4 := of_decide_eq_true q4
    replace q4 := (nI_leI (a := x1) (b := j) (by omega) (by omega)).mp q4
    refine sx_RP.step (pc2 := 125) (ls2 := [(0, .ref 0), (1, .int a1), (2, .int (nI c)), (3, .ref (103 + 2 * s)), (4, .int m), (5, .int (nI j))]) (st2 := [.int m]) (w3 := w) rfl rfl ?_
    refine sx_RP.ret (r := (some (.int m))) rfl rfl ?_
    exact ⟨⟨_, rfl⟩, hI, hE⟩
  · replace q4 := of_decide_eq_false q4
    replace q4 := mt (nI_leI (a := x1) (b := j) (by omega) (by omega)).mpr q4
    refine sx_RP.step (pc2 := 66) (ls2 := [(0, .ref 0), (1, .int a1), (2, .int (nI c)), (3, .ref (103 + 2 * s)), (4, .int m), (5, .int (nI j))]) (st2 := [.int (nI c)]) (w3 := w) rfl rfl ?_
    refine sx_RP.step (pc2 := 68) (ls2 := [(0, .ref 0), (1, .int a1), (2, .int (nI c)), (3, .ref (103 + 2 * s)), (4, .int m), (5, .int (nI j))]) (st2 := [.int (nI j), .int (nI c)]) (w3 := w) rfl rfl ?_
    refine sx_RP.step (pc2 := 69) (ls2 := [(0, .ref 0), (1, .int a1), (2, .int (nI c)), (3, .ref (103 + 2 * s)), (4, .int m), (5, .int (nI j))]) (st2 := [.int ((nI c) + (nI j))]) (w3 := w) rfl rfl ?_
    rw [show ((nI c) + (nI j) : Int32) = nI (c + j) from nI_add c j]
    refine sx_RP.step (pc2 := 71) (ls2 := [(0, .ref 0), (1, .int a1), (2, .int (nI c)), (3, .ref (103 + 2 * s)), (4, .int m), (5, .int (nI j))]) (st2 := [.int 48, .int (nI (c + j))]) (w3 := w) rfl rfl ?_
    refine sx_RP.br (p1 := 123) (l1 := [(0, .ref 0), (1, .int a1), (2, .int (nI c)), (3, .ref (103 + 2 * s)), (4, .int m), (5, .int (nI j))]) (s1 := []) (v1 := w) (p2 := 74) (l2 := [(0, .ref 0), (1, .int a1), (2, .int (nI c)), (3, .ref (103 + 2 * s)), (4, .int m), (5, .int (nI j))]) (s2 := []) (v2 := w) rfl rfl (fun q5 => ?_) (fun q5 => ?_)
    · replace q5 := of_decide_eq_true q5
      replace q5 := (nI_leI (a := 48) (b := (c + j)) (by omega) (by omega)).mp q5
      refine sx_RP.step (pc2 := 125) (ls2 := [(0, .ref 0), (1, .int a1), (2, .int (nI c)), (3, .ref (103 + 2 * s)), (4, .int m), (5, .int (nI j))]) (st2 := [.int m]) (w3 := w) rfl rfl ?_
      refine sx_RP.ret (r := (some (.int m))) rfl rfl ?_
      exact ⟨⟨_, rfl⟩, hI, hE⟩
    · replace q5 := of_decide_eq_false q5
      replace q5 := mt (nI_leI (a := 48) (b := (c + j)) (by omega) (by omega)).mpr q5
      refine sx_RP.step (pc2 := 75) (ls2 := [(0, .ref 0), (1, .int a1), (2, .int (nI c)), (3, .ref (103 + 2 * s)), (4, .int m), (5, .int (nI j))]) (st2 := [.ref (103 + 2 * s)]) (w3 := w) rfl rfl ?_
      refine sx_RP.gf (v := .ref (104 + 2 * s)) rfl rfl (hI.1.oS (show s < 4 by omega)) rfl rfl (show _ = 78 from rfl) ?_
      refine sx_RP.step (pc2 := 80) (ls2 := [(0, .ref 0), (1, .int a1), (2, .int (nI c)), (3, .ref (103 + 2 * s)), (4, .int m), (5, .int (nI j))]) (st2 := [.int (nI j), .ref (104 + 2 * s)]) (w3 := w) rfl rfl ?_
      refine sx_RP.lld (c := j) rfl (hI.1.aN (show s < 4 by omega)).1 (hI.1.aN (show s < 4 by omega)).2 (sx_in_nI (show j < 40 by omega) (by decide)) (show (nI j).toNatClampNeg = j from nI_clamp (by omega)) (show _ = 81 from rfl) ?_
      refine sx_RP.step (pc2 := 83) (ls2 := [(6, .long ((ja w (104 + 2 * s)).getD j 0)), (0, .ref 0), (1, .int a1), (2, .int (nI c)), (3, .ref (103 + 2 * s)), (4, .int m), (5, .int (nI j))]) (st2 := []) (w3 := w) rfl rfl ?_
      refine sx_RP.step (pc2 := 85) (ls2 := [(6, .long ((ja w (104 + 2 * s)).getD j 0)), (0, .ref 0), (1, .int a1), (2, .int (nI c)), (3, .ref (103 + 2 * s)), (4, .int m), (5, .int (nI j))]) (st2 := [.long ((ja w (104 + 2 * s)).getD j 0)]) (w3 := w) rfl rfl ?_
      refine sx_RP.step (pc2 := 86) (ls2 := [(6, .long ((ja w (104 + 2 * s)).getD j 0)), (0, .ref 0), (1, .int a1), (2, .int (nI c)), (3, .ref (103 + 2 * s)), (4, .int m), (5, .int (nI j))]) (st2 := [.long 0, .long ((ja w (104 + 2 * s)).getD j 0)]) (w3 := w) rfl rfl ?_
      refine sx_RP.step (pc2 := 87) (ls2 := [(6, .long ((ja w (104 + 2 * s)).getD j 0)), (0, .ref 0), (1, .int a1), (2, .int (nI c)), (3, .ref (103 + 2 * s)), (4, .int m), (5, .int (nI j))]) (st2 := [.int (lg_cmp ((ja w (104 + 2 * s)).getD j 0) 0)]) (w3 := w) rfl rfl ?_
      refine sx_RP.br (p1 := 117) (l1 := [(6, .long ((ja w (104 + 2 * s)).getD j 0)), (0, .ref 0), (1, .int a1), (2, .int (nI c)), (3, .ref (103 + 2 * s)), (4, .int m), (5, .int (nI j))]) (s1 := []) (v1 := w) (p2 := 90) (l2 := [(6, .long ((ja w (104 + 2 * s)).getD j 0)), (0, .ref 0), (1, .int a1), (2, .int (nI c)), (3, .ref (103 + 2 * s)), (4, .int m), (5, .int (nI j))]) (s2 := []) (v2 := w) rfl rfl (fun q6 => ?_) (fun q6 => ?_)
      · replace q6 := of_decide_eq_true q6
        refine sx_RP.step (pc2 := 120) (ls2 := [(5, .int ((nI j) + 1)), (6, .long ((ja w (104 + 2 * s)).getD j 0)), (0, .ref 0), (1, .int a1), (2, .int (nI c)), (3, .ref (103 + 2 * s)), (4, .int m)]) (st2 := []) (w3 := w) rfl rfl ?_
        rw [nI_1 j]
        refine sx_RP.step (pc2 := 56) (ls2 := [(5, .int (nI (j + 1))), (6, .long ((ja w (104 + 2 * s)).getD j 0)), (0, .ref 0), (1, .int a1), (2, .int (nI c)), (3, .ref (103 + 2 * s)), (4, .int m)]) (st2 := []) (w3 := w) rfl rfl ?_
        exact sx_RP.ls (sx_lr.cons rfl (sx_lr.cons rfl (sx_lr.cons rfl (sx_lr.cons rfl (sx_lr.cons rfl (sx_lr.cons rfl sx_lr.nil)))))) (kk w m hI hE (by omega))
      · replace q6 := of_decide_eq_false q6
        refine sx_RP.step (pc2 := 92) (ls2 := [(6, .long ((ja w (104 + 2 * s)).getD j 0)), (0, .ref 0), (1, .int a1), (2, .int (nI c)), (3, .ref (103 + 2 * s)), (4, .int m), (5, .int (nI j))]) (st2 := [.long ((ja w (104 + 2 * s)).getD j 0)]) (w3 := w) rfl rfl ?_
        refine sx_RP.step (pc2 := 95) (ls2 := [(6, .long ((ja w (104 + 2 * s)).getD j 0)), (0, .ref 0), (1, .int a1), (2, .int (nI c)), (3, .ref (103 + 2 * s)), (4, .int m), (5, .int (nI j))]) (st2 := [.long 3, .long ((ja w (104 + 2 * s)).getD j 0)]) (w3 := w) rfl rfl ?_
        refine sx_RP.step (pc2 := 96) (ls2 := [(6, .long ((ja w (104 + 2 * s)).getD j 0)), (0, .ref 0), (1, .int a1), (2, .int (nI c)), (3, .ref (103 + 2 * s)), (4, .int m), (5, .int (nI j))]) (st2 := [.int (lg_cmp ((ja w (104 + 2 * s)).getD j 0) 3)]) (w3 := w) rfl rfl ?_
        refine sx_RP.br (p1 := 117) (l1 := [(6, .long ((ja w (104 + 2 * s)).getD j 0)), (0, .ref 0), (1, .int a1), (2, .int (nI c)), (3, .ref (103 + 2 * s)), (4, .int m), (5, .int (nI j))]) (s1 := []) (v1 := w) (p2 := 99) (l2 := [(6, .long ((ja w (104 + 2 * s)).getD j 0)), (0, .ref 0), (1, .int a1), (2, .int (nI c)), (3, .ref (103 + 2 * s)), (4, .int m), (5, .int (nI j))]) (s2 := []) (v2 := w) rfl rfl (fun q7 => ?_) (fun q7 => ?_)
        · replace q7 := of_decide_eq_true q7
          refine sx_RP.step (pc2 := 120) (ls2 := [(5, .int ((nI j) + 1)), (6, .long ((ja w (104 + 2 * s)).getD j 0)), (0, .ref 0), (1, .int a1), (2, .int (nI c)), (3, .ref (103 + 2 * s)), (4, .int m)]) (st2 := []) (w3 := w) rfl rfl ?_
          rw [nI_1 j]
          refine sx_RP.step (pc2 := 56) (ls2 := [(5, .int (nI (j + 1))), (6, .long ((ja w (104 + 2 * s)).getD j 0)), (0, .ref 0), (1, .int a1), (2, .int (nI c)), (3, .ref (103 + 2 * s)), (4, .int m)]) (st2 := []) (w3 := w) rfl rfl ?_
          exact sx_RP.ls (sx_lr.cons rfl (sx_lr.cons rfl (sx_lr.cons rfl (sx_lr.cons rfl (sx_lr.cons rfl (sx_lr.cons rfl sx_lr.nil)))))) (kk w m hI hE (by omega))
        · replace q7 := of_decide_eq_false q7
          refine sx_RP.step (pc2 := 100) (ls2 := [(6, .long ((ja w (104 + 2 * s)).getD j 0)), (0, .ref 0), (1, .int a1), (2, .int (nI c)), (3, .ref (103 + 2 * s)), (4, .int m), (5, .int (nI j))]) (st2 := [.ref 0]) (w3 := w) rfl rfl ?_
          refine sx_RP.gf (v := .ref 1) rfl rfl hI.1.o0 rfl rfl (show _ = 103 from rfl) ?_
          refine sx_RP.gref (k := 0) (b := 2) hI (Or.inl rfl) rfl rfl (by omega) (show _ = 106 from rfl) ?_
          refine sx_RP.step (pc2 := 107) (ls2 := [(6, .long ((ja w (104 + 2 * s)).getD j 0)), (0, .ref 0), (1, .int a1), (2, .int (nI c)), (3, .ref (103 + 2 * s)), (4, .int m), (5, .int (nI j))]) (st2 := [.int (nI c), .ref 2]) (w3 := w) rfl rfl ?_
          refine sx_RP.step (pc2 := 109) (ls2 := [(6, .long ((ja w (104 + 2 * s)).getD j 0)), (0, .ref 0), (1, .int a1), (2, .int (nI c)), (3, .ref (103 + 2 * s)), (4, .int m), (5, .int (nI j))]) (st2 := [.int (nI j), .int (nI c), .ref 2]) (w3 := w) rfl rfl ?_
          refine sx_RP.step (pc2 := 110) (ls2 := [(6, .long ((ja w (104 + 2 * s)).getD j 0)), (0, .ref 0), (1, .int a1), (2, .int (nI c)), (3, .ref (103 + 2 * s)), (4, .int m), (5, .int (nI j))]) (st2 := [.int ((nI c) + (nI j)), .ref 2]) (w3 := w) rfl rfl ?_
          rw [show ((nI c) + (nI j) : Int32) = nI (c + j) from nI_add c j]
          refine sx_RP.step (pc2 := 112) (ls2 := [(6, .long ((ja w (104 + 2 * s)).getD j 0)), (0, .ref 0), (1, .int a1), (2, .int (nI c)), (3, .ref (103 + 2 * s)), (4, .int m), (5, .int (nI j))]) (st2 := [.long ((ja w (104 + 2 * s)).getD j 0), .int (nI (c + j)), .ref 2]) (w3 := w) rfl rfl ?_
          refine sx_RP.step (pc2 := 113) (ls2 := [(6, .long ((ja w (104 + 2 * s)).getD j 0)), (0, .ref 0), (1, .int a1), (2, .int (nI c)), (3, .ref (103 + 2 * s)), (4, .int m), (5, .int (nI j))]) (st2 := [.int (((ja w (104 + 2 * s)).getD j 0).toInt32), .int (nI (c + j)), .ref 2]) (w3 := w) rfl rfl ?_
          obtain ⟨x8, hx9, ex10⟩ := lay_rng q6 q7
          rw [ex10]
          refine sx_RP.stSN hI hE (by omega) (Or.inl rfl) rfl (sx_in_nI (show (c + j) < 48 by omega) (by decide)) (inR.n (show x8 ≤ 3 by omega)) (show _ = 114 from rfl) (fun w11 hI12 hE13 => ?_)
          refine sx_RP.step (pc2 := 117) (ls2 := [(4, .int (m + 1)), (6, .long ((ja w (104 + 2 * s)).getD j 0)), (0, .ref 0), (1, .int a1), (2, .int (nI c)), (3, .ref (103 + 2 * s)), (5, .int (nI j))]) (st2 := []) (w3 := w11) rfl rfl ?_
          refine sx_RP.step (pc2 := 120) (ls2 := [(5, .int ((nI j) + 1)), (4, .int (m + 1)), (6, .long ((ja w (104 + 2 * s)).getD j 0)), (0, .ref 0), (1, .int a1), (2, .int (nI c)), (3, .ref (103 + 2 * s))]) (st2 := []) (w3 := w11) rfl rfl ?_
          rw [nI_1 j]
          refine sx_RP.step (pc2 := 56) (ls2 := [(5, .int (nI (j + 1))), (4, .int (m + 1)), (6, .long ((ja w (104 + 2 * s)).getD j 0)), (0, .ref 0), (1, .int a1), (2, .int (nI c)), (3, .ref (103 + 2 * s))]) (st2 := []) (w3 := w11) rfl rfl ?_
          exact sx_RP.ls (sx_lr.cons rfl (sx_lr.cons rfl (sx_lr.cons rfl (sx_lr.cons rfl (sx_lr.cons rfl (sx_lr.cons rfl sx_lr.nil)))))) (kk w11 (m + 1) hI12 hE13 (by omega))
set_option maxRecDepth 20000 in
set_option maxHeartbeats 4000000 in
theorem N120L {xs : Option (List Int32)} {d : Nat} {w0 : List sx_C} {s c : Nat} (a1 : Int32) (hs : s < 4) (hc : c < 48) : ∀ (fz j : Nat) (w : List sx_C) (m : Int32) , 40 ≤ j + fz * 1 → j ≤ 40 → WI w → EN w0 w → sx_RP xs (d + 7) 120 56 [(0, .ref 0), (1, .int a1), (2, .int (nI c)), (3, .ref (103 + 2 * s)), (4, .int m), (5, .int (nI j))] [] w (fun r w2 => (∃ v : Int32, r = some (.int v)) ∧ WI w2 ∧ EN w0 w2)
  | 0, j, w, m, h, hj, hI, hE => N120B a1 hs hc hI hE hj m  (fun w4 um hI4 hE4 hlt  => absurd hlt (by omega)) 
  | fz + 1, j, w, m, h, hj, hI, hE => N120B a1 hs hc hI hE hj m  (fun w4 um hI4 hE4 hlt  => N120L a1 hs hc  fz (j + 1) w4 um (by omega) hlt hI4 hE4 ) 
set_option maxRecDepth 20000 in
set_option maxHeartbeats 4000000 in
theorem N120 {xs : Option (List Int32)} {d : Nat} {w : List sx_C} (hI : WI w) (a1 a2 : Int32) : sx_RP xs (d + 7) 120 0 (lv_args 0 [.ref 0, .int a1, .int a2]) [] w (fun r w2 => (∃ v : Int32, r = some (.int v)) ∧ WI w2 ∧ EN w w2) := by
  have hE : EN w w := EN.rf
  refine sx_RP.step (pc2 := 1) (ls2 := [(0, .ref 0), (1, .int a1), (2, .int a2)]) (st2 := [.int a1]) (w3 := w) rfl rfl ?_
  rcases in_cases a1 0 3 (m := 0) (n := 3) rfl rfl (by decide) (by decide) with q1 | ⟨x2, hx3, hx4, rfl⟩
  · refine sx_RP.cu (as := [.int a1]) (rest2 := []) (st3 := [.int 0]) rfl rfl rfl rfl rfl (cx_112n q1) rfl ?_
    refine sx_RP.step (pc2 := 7) (ls2 := [(0, .ref 0), (1, .int a1), (2, .int a2)]) (st2 := []) (w3 := w) rfl rfl ?_
    refine sx_RP.step (pc2 := 8) (ls2 := [(0, .ref 0), (1, .int a1), (2, .int a2)]) (st2 := [.ref 0]) (w3 := w) rfl rfl ?_
    refine sx_RP.step (pc2 := 10) (ls2 := [(0, .ref 0), (1, .int a1), (2, .int a2)]) (st2 := [.int (-1000000001), .ref 0]) (w3 := w) rfl rfl ?_
    refine sx_RP.callp (as2 := [.ref 0, .int (-1000000001)]) (rest2 := []) rfl rfl (sx_inv_v2 (mi := 120) (k := 78) (st := [.int (-1000000001), .ref 0]) (w := w) rfl rfl hI.1.o0 rfl rfl rfl) rfl rfl rfl (Q9_0 hI) (show _ = 13 from rfl) ?_
    rintro r4 w6 ⟨rfl, hI7, hE9⟩
    have hE8 := hE.tr (hE9.en)
    show sx_RP _ _ _ _ _ [.int (-1000000001)] _ _
    refine sx_RP.ret (r := (some (.int (-1000000001)))) rfl rfl ?_
    exact ⟨⟨_, rfl⟩, hI7, hE8⟩
  · refine sx_RP.cu (as := [.int (nI x2)]) (rest2 := []) (st3 := [.int 1]) rfl rfl rfl rfl rfl (cx_112p ⟨nI_le (a := 0) hx3 (by omega), nI_le (b := 3) hx4 (by decide)⟩) rfl ?_
    refine sx_RP.step (pc2 := 14) (ls2 := [(0, .ref 0), (1, .int (nI x2)), (2, .int a2)]) (st2 := []) (w3 := w) rfl rfl ?_
    refine sx_RP.step (pc2 := 15) (ls2 := [(0, .ref 0), (1, .int (nI x2)), (2, .int a2)]) (st2 := [.ref 0]) (w3 := w) rfl rfl ?_
    refine sx_RP.gf (v := .ref 98) rfl rfl hI.1.o0 rfl rfl (show _ = 18 from rfl) ?_
    refine sx_RP.step (pc2 := 19) (ls2 := [(0, .ref 0), (1, .int (nI x2)), (2, .int a2)]) (st2 := [.int (nI x2), .ref 98]) (w3 := w) rfl rfl ?_
    refine sx_RP.ald (v := .ref (103 + 2 * x2)) rfl hI.1.a98 rfl (shA_at (show x2 < 4 by omega)) (show _ = 20 from rfl) ?_
    refine sx_RP.step (pc2 := 21) (ls2 := [(3, .ref (103 + 2 * x2)), (0, .ref 0), (1, .int (nI x2)), (2, .int a2)]) (st2 := []) (w3 := w) rfl rfl ?_
    refine sx_RP.step (pc2 := 22) (ls2 := [(3, .ref (103 + 2 * x2)), (0, .ref 0), (1, .int (nI x2)), (2, .int a2)]) (st2 := [.ref (103 + 2 * x2)]) (w3 := w) rfl rfl ?_
    obtain ⟨x10, hx11, c12⟩ := p116 hI (show x2 < 4 by omega)
    refine sx_RP.cu (as := [.ref (103 + 2 * x2)]) (rest2 := []) (st3 := [.int (nI x10)]) rfl rfl (sx_inv_v2 (mi := 120) (k := 310) (st := [.ref (103 + 2 * x2)]) (w := w) rfl rfl (hI.1.oS (show x2 < 4 by omega)) rfl rfl rfl) rfl rfl (c12) rfl ?_
    refine sx_RP.br (p1 := 36) (l1 := [(3, .ref (103 + 2 * x2)), (0, .ref 0), (1, .int (nI x2)), (2, .int a2)]) (s1 := []) (v1 := w) (p2 := 28) (l2 := [(3, .ref (103 + 2 * x2)), (0, .ref 0), (1, .int (nI x2)), (2, .int a2)]) (s2 := []) (v2 := w) rfl rfl (fun q13 => ?_) (fun q13 => ?_)
    · replace q13 := of_decide_eq_true q13
      replace q13 := (nI_eq (a := x10) (b := 0) (by omega) (by omega)).mp q13
      refine sx_RP.step (pc2 := 37) (ls2 := [(3, .ref (103 + 2 * x2)), (0, .ref 0), (1, .int (nI x2)), (2, .int a2)]) (st2 := [.int a2]) (w3 := w) rfl rfl ?_
      rcases in_cases a2 0 47 (m := 0) (n := 47) rfl rfl (by decide) (by decide) with q14 | ⟨x15, hx16, hx17, rfl⟩
      · refine sx_RP.cu (as := [.int a2]) (rest2 := []) (st3 := [.int 0]) rfl rfl rfl rfl rfl (cx_7n q14) rfl ?_
        refine sx_RP.step (pc2 := 43) (ls2 := [(3, .ref (103 + 2 * x2)), (0, .ref 0), (1, .int (nI x2)), (2, .int a2)]) (st2 := []) (w3 := w) rfl rfl ?_
        refine sx_RP.step (pc2 := 44) (ls2 := [(3, .ref (103 + 2 * x2)), (0, .ref 0), (1, .int (nI x2)), (2, .int a2)]) (st2 := [.ref 0]) (w3 := w) rfl rfl ?_
        refine sx_RP.step (pc2 := 46) (ls2 := [(3, .ref (103 + 2 * x2)), (0, .ref 0), (1, .int (nI x2)), (2, .int a2)]) (st2 := [.int (-1000000001), .ref 0]) (w3 := w) rfl rfl ?_
        refine sx_RP.callp (as2 := [.ref 0, .int (-1000000001)]) (rest2 := []) rfl rfl (sx_inv_v2 (mi := 120) (k := 78) (st := [.int (-1000000001), .ref 0]) (w := w) rfl rfl hI.1.o0 rfl rfl rfl) rfl rfl rfl (Q9_0 hI) (show _ = 49 from rfl) ?_
        rintro r4 w19 ⟨rfl, hI20, hE22⟩
        have hE21 := hE.tr (hE22.en)
        show sx_RP _ _ _ _ _ [.int (-1000000001)] _ _
        refine sx_RP.ret (r := (some (.int (-1000000001)))) rfl rfl ?_
        exact ⟨⟨_, rfl⟩, hI20, hE21⟩
      · refine sx_RP.cu (as := [.int (nI x15)]) (rest2 := []) (st3 := [.int 1]) rfl rfl rfl rfl rfl (cx_7p ⟨nI_le (a := 0) hx16 (by omega), nI_le (b := 47) hx17 (by decide)⟩) rfl ?_
        refine sx_RP.step (pc2 := 50) (ls2 := [(3, .ref (103 + 2 * x2)), (0, .ref 0), (1, .int (nI x2)), (2, .int (nI x15))]) (st2 := []) (w3 := w) rfl rfl ?_
        refine sx_RP.step (pc2 := 51) (ls2 := [(3, .ref (103 + 2 * x2)), (0, .ref 0), (1, .int (nI x2)), (2, .int (nI x15))]) (st2 := [.int 0]) (w3 := w) rfl rfl ?_
        refine sx_RP.step (pc2 := 53) (ls2 := [(4, .int 0), (3, .ref (103 + 2 * x2)), (0, .ref 0), (1, .int (nI x2)), (2, .int (nI x15))]) (st2 := []) (w3 := w) rfl rfl ?_
        refine sx_RP.step (pc2 := 54) (ls2 := [(4, .int 0), (3, .ref (103 + 2 * x2)), (0, .ref 0), (1, .int (nI x2)), (2, .int (nI x15))]) (st2 := [.int 0]) (w3 := w) rfl rfl ?_
        refine sx_RP.step (pc2 := 56) (ls2 := [(5, .int 0), (4, .int 0), (3, .ref (103 + 2 * x2)), (0, .ref 0), (1, .int (nI x2)), (2, .int (nI x15))]) (st2 := []) (w3 := w) rfl rfl ?_
        exact sx_RP.ls (sx_lr.cons rfl (sx_lr.cons rfl (sx_lr.cons rfl (sx_lr.cons rfl (sx_lr.cons rfl (sx_lr.cons rfl sx_lr.nil)))))) (N120L (nI x2) (show x2 < 4 by omega) (show x15 < 48 by omega) 40 0 w 0 (by omega) (by omega) hI hE )
    · replace q13 := of_decide_eq_false q13
      replace q13 := mt (nI_eq (a := x10) (b := 0) (by omega) (by omega)).mpr q13
      refine sx_RP.step (pc2 := 29) (ls2 := [(3, .ref (103 + 2 * x2)), (0, .ref 0), (1, .int (nI x2)), (2, .int a2)]) (st2 := [.ref 0]) (w3 := w) rfl rfl ?_
      refine sx_RP.step (pc2 := 32) (ls2 := [(3, .ref (103 + 2 * x2)), (0, .ref 0), (1, .int (nI x2)), (2, .int a2)]) (st2 := [.int (-1000000006), .ref 0]) (w3 := w) rfl rfl ?_
      refine sx_RP.callp (as2 := [.ref 0, .int (-1000000006)]) (rest2 := []) rfl rfl (sx_inv_v2 (mi := 120) (k := 78) (st := [.int (-1000000006), .ref 0]) (w := w) rfl rfl hI.1.o0 rfl rfl rfl) rfl rfl rfl (Q9_5 hI) (show _ = 35 from rfl) ?_
      rintro r4 w23 ⟨rfl, hI24, hE26⟩
      have hE25 := hE.tr (hE26.en)
      show sx_RP _ _ _ _ _ [.int (-1000000006)] _ _
      refine sx_RP.ret (r := (some (.int (-1000000006)))) rfl rfl ?_
      exact ⟨⟨_, rfl⟩, hI24, hE25⟩
set_option maxRecDepth 20000 in
set_option maxHeartbeats 4000000 in
theorem N121B {xs : Option (List Int32)} {d : Nat} {w w0 : List sx_C} {s n : Nat} (a1 : Int32) (hs : s < 4) (hn : n ≤ 9) (hI : WI w) (hE : EN w0 w) {j : Nat} (hj : j ≤ 9) (kk : ∀ (w4 : List sx_C), WI w4 → EN w0 w4 → j + 1 ≤ 9 → sx_RP xs (d + 7) 121 68 [(0, .ref 0), (1, .int a1), (2, .ref (103 + 2 * s)), (3, .int (nI n)), (4, .int (nI (j + 1)))] [] w4 (fun r w2 => (∃ v : Int32, r = some (.int v)) ∧ WI w2 ∧ EN w0 w2)) : sx_RP xs (d + 7) 121 68 [(0, .ref 0), (1, .int a1), (2, .ref (103 + 2 * s)), (3, .int (nI n)), (4, .int (nI j))] [] w (fun r w2 => (∃ v : Int32, r = some (.int v)) ∧ WI w2 ∧ EN w0 w2) := by
  refine sx_RP.step (pc2 := 70) (ls2 := [(0, .ref 0), (1, .int a1), (2, .ref (103 + 2 * s)), (3, .int (nI n)), (4, .int (nI j))]) (st2 := [.int (nI j)]) (w3 := w) rfl rfl ?_
  refine sx_RP.step (pc2 := 71) (ls2 := [(0, .ref 0), (1, .int a1), (2, .ref (103 + 2 * s)), (3, .int (nI n)), (4, .int (nI j))]) (st2 := [.int (nI n), .int (nI j)]) (w3 := w) rfl rfl ?_
  refine sx_RP.br (p1 := 105) (l1 := [(0, .ref 0), (1, .int a1), (2, .ref (103 + 2 * s)), (3, .int (nI n)), (4, .int (nI j))]) (s1 := []) (v1 := w) (p2 := 74) (l2 := [(0, .ref 0), (1, .int a1), (2, .ref (103 + 2 * s)), (3, .int (nI n)), (4, .int (nI j))]) (s2 := []) (v2 := w) rfl rfl (fun q1 => ?_) (fun q1 => ?_)
  · replace q1 := of_decide_eq_true q1
    replace q1 := (nI_leI (a := n) (b := j) (by omega) (by omega)).mp q1
    refine sx_RP.step (pc2 := 106) (ls2 := [(0, .ref 0), (1, .int a1), (2, .ref (103 + 2 * s)), (3, .int (nI n)), (4, .int (nI j))]) (st2 := [.int (nI n)]) (w3 := w) rfl rfl ?_
    refine sx_RP.ret (r := (some (.int (nI n)))) rfl rfl ?_
    exact ⟨⟨_, rfl⟩, hI, hE⟩
  · replace q1 := of_decide_eq_false q1
    replace q1 := mt (nI_leI (a := n) (b := j) (by omega) (by omega)).mpr q1
    refine sx_RP.step (pc2 := 75) (ls2 := [(0, .ref 0), (1, .int a1), (2, .ref (103 + 2 * s)), (3, .int (nI n)), (4, .int (nI j))]) (st2 := [.ref (103 + 2 * s)]) (w3 := w) rfl rfl ?_
    refine sx_RP.step (pc2 := 77) (ls2 := [(0, .ref 0), (1, .int a1), (2, .ref (103 + 2 * s)), (3, .int (nI n)), (4, .int (nI j))]) (st2 := [.int (nI j), .ref (103 + 2 * s)]) (w3 := w) rfl rfl ?_
    refine sx_RP.step (pc2 := 78) (ls2 := [(0, .ref 0), (1, .int a1), (2, .ref (103 + 2 * s)), (3, .int (nI n)), (4, .int (nI j))]) (st2 := [.ref 0, .int (nI j), .ref (103 + 2 * s)]) (w3 := w) rfl rfl ?_
    refine sx_RP.step (pc2 := 79) (ls2 := [(0, .ref 0), (1, .int a1), (2, .ref (103 + 2 * s)), (3, .int (nI n)), (4, .int (nI j))]) (st2 := [.ref 0, .ref 0, .int (nI j), .ref (103 + 2 * s)]) (w3 := w) rfl rfl ?_
    refine sx_RP.gf (v := .ref 1) rfl rfl hI.1.o0 rfl rfl (show _ = 82 from rfl) ?_
    refine sx_RP.step (pc2 := 83) (ls2 := [(0, .ref 0), (1, .int a1), (2, .ref (103 + 2 * s)), (3, .int (nI n)), (4, .int (nI j))]) (st2 := [.ref 0, .ref 1, .ref 0, .int (nI j), .ref (103 + 2 * s)]) (w3 := w) rfl rfl ?_
    refine sx_RP.gf (v := .ref 1) rfl rfl hI.1.o0 rfl rfl (show _ = 86 from rfl) ?_
    refine sx_RP.gref (k := 4) (b := 4) hI (Or.inl rfl) rfl rfl (by omega) (show _ = 89 from rfl) ?_
    refine sx_RP.step (pc2 := 91) (ls2 := [(0, .ref 0), (1, .int a1), (2, .ref (103 + 2 * s)), (3, .int (nI n)), (4, .int (nI j))]) (st2 := [.int (nI j), .ref 4, .ref 1, .ref 0, .int (nI j), .ref (103 + 2 * s)]) (w3 := w) rfl rfl ?_
    refine sx_RP.ild (c := j) rfl (hI.1.aD (Or.inl rfl)).1 (hI.1.aD (Or.inl rfl)).2 (sx_in_nI (show j < 9 by omega) (by decide)) (show (nI j).toNatClampNeg = j from nI_clamp (by omega)) (show _ = 92 from rfl) ?_
    obtain ⟨x2, hx3, ex4⟩ : inR ((ia w 4).getD j 0) 47 := hI.di (Or.inl rfl) (show j < 9 by omega)
    rw [ex4]
    refine sx_RP.callp (as2 := [.ref 0, .ref 1, .int (nI x2)]) (rest2 := [.int (nI j), .ref (103 + 2 * s)]) rfl rfl (sx_inv_v2 (mi := 121) (k := 231) (st := [.int (nI x2), .ref 1, .ref 0, .int (nI j), .ref (103 + 2 * s)]) (w := w) rfl rfl hI.1.o0 rfl rfl rfl) rfl rfl rfl (Q68 hI (Or.inl rfl) (show x2 < 48 by omega)) (show _ = 95 from rfl) ?_
    rintro r4 w6 ⟨⟨v5, rfl⟩, hI7, hE9⟩
    have hE8 := hE.tr (hE9.en)
    show sx_RP _ _ _ _ _ [.int v5, .int (nI j), .ref (103 + 2 * s)] _ _
    refine sx_RP.step (pc2 := 96) (ls2 := [(0, .ref 0), (1, .int a1), (2, .ref (103 + 2 * s)), (3, .int (nI n)), (4, .int (nI j))]) (st2 := [.long v5.toInt64, .int (nI j), .ref (103 + 2 * s)]) (w3 := w6) rfl rfl ?_
    refine sx_RP.callp (as2 := [.ref (103 + 2 * s), .int (nI j), .long v5.toInt64]) (rest2 := []) rfl rfl (sx_inv_v2 (mi := 121) (k := 318) (st := [.long v5.toInt64, .int (nI j), .ref (103 + 2 * s)]) (w := w6) rfl rfl (hI7.1.oS (show s < 4 by omega)) rfl rfl rfl) rfl rfl rfl (N117 hI7 (show s < 4 by omega) (show j < 40 by omega) v5.toInt64) (show _ = 99 from rfl) ?_
    rintro r4 w10 ⟨rfl, hI11, hE13⟩
    have hE12 := hE8.tr (hE13)
    show sx_RP _ _ _ _ _ [] _ _
    refine sx_RP.step (pc2 := 102) (ls2 := [(4, .int ((nI j) + 1)), (0, .ref 0), (1, .int a1), (2, .ref (103 + 2 * s)), (3, .int (nI n))]) (st2 := []) (w3 := w10) rfl rfl ?_
    rw [nI_1 j]
    refine sx_RP.step (pc2 := 68) (ls2 := [(4, .int (nI (j + 1))), (0, .ref 0), (1, .int a1), (2, .ref (103 + 2 * s)), (3, .int (nI n))]) (st2 := []) (w3 := w10) rfl rfl ?_
    exact sx_RP.ls (sx_lr.cons rfl (sx_lr.cons rfl (sx_lr.cons rfl (sx_lr.cons rfl (sx_lr.cons rfl sx_lr.nil))))) (kk w10 hI11 hE12 (by omega))
set_option maxRecDepth 20000 in
set_option maxHeartbeats 4000000 in
theorem N121L {xs : Option (List Int32)} {d : Nat} {w0 : List sx_C} {s n : Nat} (a1 : Int32) (hs : s < 4) (hn : n ≤ 9) : ∀ (fz j : Nat) (w : List sx_C) , 9 ≤ j + fz * 1 → j ≤ 9 → WI w → EN w0 w → sx_RP xs (d + 7) 121 68 [(0, .ref 0), (1, .int a1), (2, .ref (103 + 2 * s)), (3, .int (nI n)), (4, .int (nI j))] [] w (fun r w2 => (∃ v : Int32, r = some (.int v)) ∧ WI w2 ∧ EN w0 w2)
  | 0, j, w, h, hj, hI, hE => N121B a1 hs hn hI hE hj   (fun w4  hI4 hE4 hlt  => absurd hlt (by omega)) 
  | fz + 1, j, w, h, hj, hI, hE => N121B a1 hs hn hI hE hj   (fun w4  hI4 hE4 hlt  => N121L a1 hs hn  fz (j + 1) w4  (by omega) hlt hI4 hE4 ) 
set_option maxRecDepth 20000 in
set_option maxHeartbeats 4000000 in
theorem N121 {xs : Option (List Int32)} {d : Nat} {w : List sx_C} (hI : WI w) (a1 : Int32) : sx_RP xs (d + 7) 121 0 (lv_args 0 [.ref 0, .int a1]) [] w (fun r w2 => (∃ v : Int32, r = some (.int v)) ∧ WI w2 ∧ EN w w2) := by
  have hE : EN w w := EN.rf
  refine sx_RP.step (pc2 := 1) (ls2 := [(0, .ref 0), (1, .int a1)]) (st2 := [.int a1]) (w3 := w) rfl rfl ?_
  rcases in_cases a1 0 3 (m := 0) (n := 3) rfl rfl (by decide) (by decide) with q1 | ⟨x2, hx3, hx4, rfl⟩
  · refine sx_RP.cu (as := [.int a1]) (rest2 := []) (st3 := [.int 0]) rfl rfl rfl rfl rfl (cx_112n q1) rfl ?_
    refine sx_RP.step (pc2 := 7) (ls2 := [(0, .ref 0), (1, .int a1)]) (st2 := []) (w3 := w) rfl rfl ?_
    refine sx_RP.step (pc2 := 8) (ls2 := [(0, .ref 0), (1, .int a1)]) (st2 := [.ref 0]) (w3 := w) rfl rfl ?_
    refine sx_RP.step (pc2 := 10) (ls2 := [(0, .ref 0), (1, .int a1)]) (st2 := [.int (-1000000001), .ref 0]) (w3 := w) rfl rfl ?_
    refine sx_RP.callp (as2 := [.ref 0, .int (-1000000001)]) (rest2 := []) rfl rfl (sx_inv_v2 (mi := 121) (k := 78) (st := [.int (-1000000001), .ref 0]) (w := w) rfl rfl hI.1.o0 rfl rfl rfl) rfl rfl rfl (Q9_0 hI) (show _ = 13 from rfl) ?_
    rintro r4 w6 ⟨rfl, hI7, hE9⟩
    have hE8 := hE.tr (hE9.en)
    show sx_RP _ _ _ _ _ [.int (-1000000001)] _ _
    refine sx_RP.ret (r := (some (.int (-1000000001)))) rfl rfl ?_
    exact ⟨⟨_, rfl⟩, hI7, hE8⟩
  · refine sx_RP.cu (as := [.int (nI x2)]) (rest2 := []) (st3 := [.int 1]) rfl rfl rfl rfl rfl (cx_112p ⟨nI_le (a := 0) hx3 (by omega), nI_le (b := 3) hx4 (by decide)⟩) rfl ?_
    refine sx_RP.step (pc2 := 14) (ls2 := [(0, .ref 0), (1, .int (nI x2))]) (st2 := []) (w3 := w) rfl rfl ?_
    refine sx_RP.step (pc2 := 15) (ls2 := [(0, .ref 0), (1, .int (nI x2))]) (st2 := [.ref 0]) (w3 := w) rfl rfl ?_
    refine sx_RP.gf (v := .ref 98) rfl rfl hI.1.o0 rfl rfl (show _ = 18 from rfl) ?_
    refine sx_RP.step (pc2 := 19) (ls2 := [(0, .ref 0), (1, .int (nI x2))]) (st2 := [.int (nI x2), .ref 98]) (w3 := w) rfl rfl ?_
    refine sx_RP.ald (v := .ref (103 + 2 * x2)) rfl hI.1.a98 rfl (shA_at (show x2 < 4 by omega)) (show _ = 20 from rfl) ?_
    refine sx_RP.step (pc2 := 21) (ls2 := [(2, .ref (103 + 2 * x2)), (0, .ref 0), (1, .int (nI x2))]) (st2 := []) (w3 := w) rfl rfl ?_
    refine sx_RP.step (pc2 := 22) (ls2 := [(2, .ref (103 + 2 * x2)), (0, .ref 0), (1, .int (nI x2))]) (st2 := [.ref (103 + 2 * x2)]) (w3 := w) rfl rfl ?_
    obtain ⟨x10, hx11, c12⟩ := p116 hI (show x2 < 4 by omega)
    refine sx_RP.cu (as := [.ref (103 + 2 * x2)]) (rest2 := []) (st3 := [.int (nI x10)]) rfl rfl (sx_inv_v2 (mi := 121) (k := 310) (st := [.ref (103 + 2 * x2)]) (w := w) rfl rfl (hI.1.oS (show x2 < 4 by omega)) rfl rfl rfl) rfl rfl (c12) rfl ?_
    refine sx_RP.br (p1 := 36) (l1 := [(2, .ref (103 + 2 * x2)), (0, .ref 0), (1, .int (nI x2))]) (s1 := []) (v1 := w) (p2 := 28) (l2 := [(2, .ref (103 + 2 * x2)), (0, .ref 0), (1, .int (nI x2))]) (s2 := []) (v2 := w) rfl rfl (fun q13 => ?_) (fun q13 => ?_)
    · replace q13 := of_decide_eq_true q13
      replace q13 := (nI_eq (a := x10) (b := 0) (by omega) (by omega)).mp q13
      refine sx_RP.step (pc2 := 37) (ls2 := [(2, .ref (103 + 2 * x2)), (0, .ref 0), (1, .int (nI x2))]) (st2 := [.ref 0]) (w3 := w) rfl rfl ?_
      refine sx_RP.gf (v := .ref 44) rfl rfl hI.1.o0 rfl rfl (show _ = 40 from rfl) ?_
      refine sx_RP.step (pc2 := 41) (ls2 := [(2, .ref (103 + 2 * x2)), (0, .ref 0), (1, .int (nI x2))]) (st2 := [.ref 0, .ref 44]) (w3 := w) rfl rfl ?_
      refine sx_RP.gf (v := .ref 1) rfl rfl hI.1.o0 rfl rfl (show _ = 44 from rfl) ?_
      refine sx_RP.gref (k := 0) (b := 2) hI (Or.inl rfl) rfl rfl (by omega) (show _ = 47 from rfl) ?_
      refine sx_RP.callp (as2 := [.ref 44, .ref 2]) (rest2 := []) rfl rfl (sx_inv_v2 (mi := 121) (k := 95) (st := [.ref 2, .ref 44]) (w := w) rfl rfl hI.1.o44 rfl rfl rfl) rfl rfl rfl (Q16 hI (Or.inl rfl)) (show _ = 50 from rfl) ?_
      rintro r4 w14 ⟨rfl, hI15, hE17⟩
      have hE16 := hE.tr (hE17.en)
      show sx_RP _ _ _ _ _ [] _ _
      refine sx_RP.step (pc2 := 51) (ls2 := [(2, .ref (103 + 2 * x2)), (0, .ref 0), (1, .int (nI x2))]) (st2 := [.ref (103 + 2 * x2)]) (w3 := w14) rfl rfl ?_
      refine sx_RP.gf (v := .int (fi w14 (103 + 2 * x2) 2)) rfl rfl (hI15.1.oS (show x2 < 4 by omega)) rfl rfl (show _ = 54 from rfl) ?_
      obtain ⟨x18, hx19, ex20⟩ : inR (fi w14 (103 + 2 * x2) 2) 40 := hI15.sh (show x2 < 4 by omega)
      rw [ex20]
      refine sx_RP.step (pc2 := 55) (ls2 := [(2, .ref (103 + 2 * x2)), (0, .ref 0), (1, .int (nI x2))]) (st2 := [.ref 0, .int (nI x18)]) (w3 := w14) rfl rfl ?_
      refine sx_RP.gf (v := .ref 1) rfl rfl hI15.1.o0 rfl rfl (show _ = 58 from rfl) ?_
      refine sx_RP.gc (k := 5) hI15 (Or.inl rfl) rfl rfl (by omega) (show _ = 61 from rfl) ?_
      obtain ⟨x21, hx22, ex23⟩ : inR (fi w14 1 5) 9 := (hI15.c (Or.inl rfl)).2
      rw [ex23]
      obtain ⟨x24, hx25, c26⟩ := p97 (a := x18) (b := x21) hI15 (by omega) (by omega)
      refine sx_RP.cu (as := [.int (nI x18), .int (nI x21)]) (rest2 := []) (st3 := [.int (nI x24)]) rfl rfl rfl rfl rfl (c26) rfl ?_
      refine sx_RP.step (pc2 := 65) (ls2 := [(3, .int (nI x24)), (2, .ref (103 + 2 * x2)), (0, .ref 0), (1, .int (nI x2))]) (st2 := []) (w3 := w14) rfl rfl ?_
      refine sx_RP.step (pc2 := 66) (ls2 := [(3, .int (nI x24)), (2, .ref (103 + 2 * x2)), (0, .ref 0), (1, .int (nI x2))]) (st2 := [.int 0]) (w3 := w14) rfl rfl ?_
      refine sx_RP.step (pc2 := 68) (ls2 := [(4, .int 0), (3, .int (nI x24)), (2, .ref (103 + 2 * x2)), (0, .ref 0), (1, .int (nI x2))]) (st2 := []) (w3 := w14) rfl rfl ?_
      exact sx_RP.ls (sx_lr.cons rfl (sx_lr.cons rfl (sx_lr.cons rfl (sx_lr.cons rfl (sx_lr.cons rfl sx_lr.nil))))) (N121L (nI x2) (show x2 < 4 by omega) (show x24 ≤ 9 by omega) 9 0 w14  (by omega) (by omega) hI15 hE16 )
    · replace q13 := of_decide_eq_false q13
      replace q13 := mt (nI_eq (a := x10) (b := 0) (by omega) (by omega)).mpr q13
      refine sx_RP.step (pc2 := 29) (ls2 := [(2, .ref (103 + 2 * x2)), (0, .ref 0), (1, .int (nI x2))]) (st2 := [.ref 0]) (w3 := w) rfl rfl ?_
      refine sx_RP.step (pc2 := 32) (ls2 := [(2, .ref (103 + 2 * x2)), (0, .ref 0), (1, .int (nI x2))]) (st2 := [.int (-1000000006), .ref 0]) (w3 := w) rfl rfl ?_
      refine sx_RP.callp (as2 := [.ref 0, .int (-1000000006)]) (rest2 := []) rfl rfl (sx_inv_v2 (mi := 121) (k := 78) (st := [.int (-1000000006), .ref 0]) (w := w) rfl rfl hI.1.o0 rfl rfl rfl) rfl rfl rfl (Q9_5 hI) (show _ = 35 from rfl) ?_
      rintro r4 w27 ⟨rfl, hI28, hE30⟩
      have hE29 := hE.tr (hE30.en)
      show sx_RP _ _ _ _ _ [.int (-1000000006)] _ _
      refine sx_RP.ret (r := (some (.int (-1000000006)))) rfl rfl ?_
      exact ⟨⟨_, rfl⟩, hI28, hE29⟩
set_option maxRecDepth 20000 in
set_option maxHeartbeats 4000000 in
theorem N114B {xs : Option (List Int32)} {d : Nat} {w w0 : List sx_C} {s : Nat} (hs : s < 4) (b x : Int32) (hI : WI w) (hE : EN w0 w) {j : Nat} (hj : j ≤ 40) (kk : ∀ (w4 : List sx_C), WI w4 → EN w0 w4 → j + 1 ≤ 40 → sx_RP xs d 114 20 [(0, .ref (103 + 2 * s)), (1, .int b), (2, .int x), (3, .int (nI (j + 1)))] [] w4 (fun r w2 => (r = none) ∧ WI w2 ∧ EN w0 w2)) : sx_RP xs d 114 20 [(0, .ref (103 + 2 * s)), (1, .int b), (2, .int x), (3, .int (nI j))] [] w (fun r w2 => (r = none) ∧ WI w2 ∧ EN w0 w2) := by
  refine sx_RP.step (pc2 := 21) (ls2 := [(0, .ref (103 + 2 * s)), (1, .int b), (2, .int x), (3, .int (nI j))]) (st2 := [.int (nI j)]) (w3 := w) rfl rfl ?_
  refine sx_RP.step (pc2 := 23) (ls2 := [(0, .ref (103 + 2 * s)), (1, .int b), (2, .int x), (3, .int (nI j))]) (st2 := [.int 40, .int (nI j)]) (w3 := w) rfl rfl ?_
  refine sx_RP.br (p1 := 39) (l1 := [(0, .ref (103 + 2 * s)), (1, .int b), (2, .int x), (3, .int (nI j))]) (s1 := []) (v1 := w) (p2 := 26) (l2 := [(0, .ref (103 + 2 * s)), (1, .int b), (2, .int x), (3, .int (nI j))]) (s2 := []) (v2 := w) rfl rfl (fun q1 => ?_) (fun q1 => ?_)
  · replace q1 := of_decide_eq_true q1
    replace q1 := (nI_leI (a := 40) (b := j) (by omega) (by omega)).mp q1
    refine sx_RP.ret (r := none) rfl rfl ?_
    exact ⟨rfl, hI, hE⟩
  · replace q1 := of_decide_eq_false q1
    replace q1 := mt (nI_leI (a := 40) (b := j) (by omega) (by omega)).mpr q1
    refine sx_RP.step (pc2 := 27) (ls2 := [(0, .ref (103 + 2 * s)), (1, .int b), (2, .int x), (3, .int (nI j))]) (st2 := [.ref (103 + 2 * s)]) (w3 := w) rfl rfl ?_
    refine sx_RP.gf (v := .ref (104 + 2 * s)) rfl rfl (hI.1.oS (show s < 4 by omega)) rfl rfl (show _ = 30 from rfl) ?_
    refine sx_RP.step (pc2 := 31) (ls2 := [(0, .ref (103 + 2 * s)), (1, .int b), (2, .int x), (3, .int (nI j))]) (st2 := [.int (nI j), .ref (104 + 2 * s)]) (w3 := w) rfl rfl ?_
    refine sx_RP.step (pc2 := 32) (ls2 := [(0, .ref (103 + 2 * s)), (1, .int b), (2, .int x), (3, .int (nI j))]) (st2 := [.long 0, .int (nI j), .ref (104 + 2 * s)]) (w3 := w) rfl rfl ?_
    refine sx_RP.stNN hI EN.rf rfl (hI.1.aN (show s < 4 by omega)) (sx_in_nI (show j < 40 by omega) (by decide)) (by omega) (show _ = 33 from rfl) (fun w2 hI3 hE5 => ?_)
    have hE4 := hE.tr hE5
    refine sx_RP.step (pc2 := 36) (ls2 := [(3, .int ((nI j) + 1)), (0, .ref (103 + 2 * s)), (1, .int b), (2, .int x)]) (st2 := []) (w3 := w2) rfl rfl ?_
    rw [nI_1 j]
    refine sx_RP.step (pc2 := 20) (ls2 := [(3, .int (nI (j + 1))), (0, .ref (103 + 2 * s)), (1, .int b), (2, .int x)]) (st2 := []) (w3 := w2) rfl rfl ?_
    exact sx_RP.ls (sx_lr.cons rfl (sx_lr.cons rfl (sx_lr.cons rfl (sx_lr.cons rfl sx_lr.nil)))) (kk w2 hI3 hE4 (by omega))
set_option maxRecDepth 20000 in
set_option maxHeartbeats 4000000 in
theorem N114L {xs : Option (List Int32)} {d : Nat} {w0 : List sx_C} {s : Nat} (hs : s < 4) (b x : Int32) : ∀ (fz j : Nat) (w : List sx_C) , 40 ≤ j + fz * 1 → j ≤ 40 → WI w → EN w0 w → sx_RP xs d 114 20 [(0, .ref (103 + 2 * s)), (1, .int b), (2, .int x), (3, .int (nI j))] [] w (fun r w2 => (r = none) ∧ WI w2 ∧ EN w0 w2)
  | 0, j, w, h, hj, hI, hE => N114B hs b x hI hE hj   (fun w4  hI4 hE4 hlt  => absurd hlt (by omega)) 
  | fz + 1, j, w, h, hj, hI, hE => N114B hs b x hI hE hj   (fun w4  hI4 hE4 hlt  => N114L hs b x  fz (j + 1) w4  (by omega) hlt hI4 hE4 ) 
set_option maxRecDepth 20000 in
set_option maxHeartbeats 4000000 in
theorem N114 {xs : Option (List Int32)} {d : Nat} {w : List sx_C} (hI : WI w) {s : Nat} (hs : s < 4) (b x : Int32) (hx : inR x 40) : sx_RP xs d 114 0 (lv_args 0 [.ref (103 + 2 * s), .int b, .int x]) [] w (fun r w2 => (r = none) ∧ WI w2 ∧ EN w w2) := by
  have hE : EN w w := EN.rf
  refine sx_RP.step (pc2 := 1) (ls2 := [(0, .ref (103 + 2 * s)), (1, .int b), (2, .int x)]) (st2 := [.ref (103 + 2 * s)]) (w3 := w) rfl rfl ?_
  refine sx_RP.step (pc2 := 2) (ls2 := [(0, .ref (103 + 2 * s)), (1, .int b), (2, .int x)]) (st2 := [.int b, .ref (103 + 2 * s)]) (w3 := w) rfl rfl ?_
  refine sx_RP.psbN hI (show s < 4 by omega) rfl rfl rfl (show _ = 5 from rfl) (fun w1 hI2 hE4 ht5 => ?_)
  have hE3 := hE.tr hE4
  refine sx_RP.step (pc2 := 6) (ls2 := [(0, .ref (103 + 2 * s)), (1, .int b), (2, .int x)]) (st2 := [.ref (103 + 2 * s)]) (w3 := w1) rfl rfl ?_
  refine sx_RP.step (pc2 := 7) (ls2 := [(0, .ref (103 + 2 * s)), (1, .int b), (2, .int x)]) (st2 := [.int b, .ref (103 + 2 * s)]) (w3 := w1) rfl rfl ?_
  refine sx_RP.br (p1 := 14) (l1 := [(0, .ref (103 + 2 * s)), (1, .int b), (2, .int x)]) (s1 := [.ref (103 + 2 * s)]) (v1 := w1) (p2 := 10) (l2 := [(0, .ref (103 + 2 * s)), (1, .int b), (2, .int x)]) (s2 := [.ref (103 + 2 * s)]) (v2 := w1) rfl rfl (fun q7 => ?_) (fun q7 => ?_)
  · replace q7 := of_decide_eq_true q7
    refine sx_RP.step (pc2 := 15) (ls2 := [(0, .ref (103 + 2 * s)), (1, .int b), (2, .int x)]) (st2 := [.int x, .ref (103 + 2 * s)]) (w3 := w1) rfl rfl ?_
    refine sx_RP.pssN hI2 (show s < 4 by omega) rfl rfl rfl hx (show _ = 18 from rfl) (fun w8 hI9 hE11 ht12 ht13 => ?_)
    have hE10 := hE3.tr hE11
    refine sx_RP.step (pc2 := 19) (ls2 := [(0, .ref (103 + 2 * s)), (1, .int b), (2, .int x)]) (st2 := [.int 0]) (w3 := w8) rfl rfl ?_
    refine sx_RP.step (pc2 := 20) (ls2 := [(3, .int 0), (0, .ref (103 + 2 * s)), (1, .int b), (2, .int x)]) (st2 := []) (w3 := w8) rfl rfl ?_
    exact sx_RP.ls (sx_lr.cons rfl (sx_lr.cons rfl (sx_lr.cons rfl (sx_lr.cons rfl sx_lr.nil)))) (N114L hs b x 40 0 w8  (by omega) (by omega) hI9 hE10 )
  · replace q7 := Decidable.not_not.mp (of_decide_eq_false q7)
    refine sx_RP.step (pc2 := 11) (ls2 := [(0, .ref (103 + 2 * s)), (1, .int b), (2, .int x)]) (st2 := [.int 0, .ref (103 + 2 * s)]) (w3 := w1) rfl rfl ?_
    refine sx_RP.step (pc2 := 15) (ls2 := [(0, .ref (103 + 2 * s)), (1, .int b), (2, .int x)]) (st2 := [.int 0, .ref (103 + 2 * s)]) (w3 := w1) rfl rfl ?_
    refine sx_RP.pssN hI2 (show s < 4 by omega) rfl rfl rfl (show inR 0 40 from ⟨0, by decide, rfl⟩) (show _ = 18 from rfl) (fun w14 hI15 hE17 ht18 ht19 => ?_)
    have hE16 := hE3.tr hE17
    refine sx_RP.step (pc2 := 19) (ls2 := [(0, .ref (103 + 2 * s)), (1, .int b), (2, .int x)]) (st2 := [.int 0]) (w3 := w14) rfl rfl ?_
    refine sx_RP.step (pc2 := 20) (ls2 := [(3, .int 0), (0, .ref (103 + 2 * s)), (1, .int b), (2, .int x)]) (st2 := []) (w3 := w14) rfl rfl ?_
    exact sx_RP.ls (sx_lr.cons rfl (sx_lr.cons rfl (sx_lr.cons rfl (sx_lr.cons rfl sx_lr.nil)))) (N114L hs b x 40 0 w14  (by omega) (by omega) hI15 hE16 )
set_option maxRecDepth 20000 in
set_option maxHeartbeats 4000000 in
theorem N111p {xs : Option (List Int32)} {d : Nat} {w : List sx_C} (hI : WI w) {s : Nat} (hs : s < 4) (a2 a3 : Int32) : sx_RP xs (d + 7) 111 0 (lv_args 0 [.ref 0, .int (nI s), .int a2, .int a3]) [] w (fun r w2 => (∃ v : Int32, r = some (.int v)) ∧ WI w2 ∧ EN w w2) := by
  have hE : EN w w := EN.rf
  refine sx_RP.step (pc2 := 1) (ls2 := [(0, .ref 0), (1, .int (nI s)), (2, .int a2), (3, .int a3)]) (st2 := [.int (nI s)]) (w3 := w) rfl rfl ?_
  rcases in_casesN (a := s) (m := 0) (n := 3) (by omega) (by decide) (by decide) with q1 | ⟨hx3, hx4⟩
  · refine sx_RP.cu (as := [.int (nI s)]) (rest2 := []) (st3 := [.int 0]) rfl rfl rfl rfl rfl (cx_112n q1) rfl ?_
    refine sx_RP.step (pc2 := 18) (ls2 := [(0, .ref 0), (1, .int (nI s)), (2, .int a2), (3, .int a3)]) (st2 := []) (w3 := w) rfl rfl ?_
    refine sx_RP.step (pc2 := 19) (ls2 := [(0, .ref 0), (1, .int (nI s)), (2, .int a2), (3, .int a3)]) (st2 := [.ref 0]) (w3 := w) rfl rfl ?_
    refine sx_RP.step (pc2 := 21) (ls2 := [(0, .ref 0), (1, .int (nI s)), (2, .int a2), (3, .int a3)]) (st2 := [.int (-1000000001), .ref 0]) (w3 := w) rfl rfl ?_
    refine sx_RP.callp (as2 := [.ref 0, .int (-1000000001)]) (rest2 := []) rfl rfl (sx_inv_v2 (mi := 111) (k := 78) (st := [.int (-1000000001), .ref 0]) (w := w) rfl rfl hI.1.o0 rfl rfl rfl) rfl rfl rfl (Q9_0 hI) (show _ = 24 from rfl) ?_
    rintro r4 w6 ⟨rfl, hI7, hE9⟩
    have hE8 := hE.tr (hE9.en)
    show sx_RP _ _ _ _ _ [.int (-1000000001)] _ _
    refine sx_RP.ret (r := (some (.int (-1000000001)))) rfl rfl ?_
    exact ⟨⟨_, rfl⟩, hI7, hE8⟩
  · refine sx_RP.cu (as := [.int (nI s)]) (rest2 := []) (st3 := [.int 1]) rfl rfl rfl rfl rfl (cx_112p ⟨nI_le (a := 0) hx3 (by omega), nI_le (b := 3) hx4 (by decide)⟩) rfl ?_
    refine sx_RP.step (pc2 := 7) (ls2 := [(0, .ref 0), (1, .int (nI s)), (2, .int a2), (3, .int a3)]) (st2 := []) (w3 := w) rfl rfl ?_
    refine sx_RP.step (pc2 := 8) (ls2 := [(0, .ref 0), (1, .int (nI s)), (2, .int a2), (3, .int a3)]) (st2 := [.int a2]) (w3 := w) rfl rfl ?_
    obtain ⟨x10, hx11, c12⟩ := p113 hI a2
    refine sx_RP.cu (as := [.int a2]) (rest2 := []) (st3 := [.int (nI x10)]) rfl rfl rfl rfl rfl (c12) rfl ?_
    refine sx_RP.br (p1 := 25) (l1 := [(0, .ref 0), (1, .int (nI s)), (2, .int a2), (3, .int a3)]) (s1 := []) (v1 := w) (p2 := 14) (l2 := [(0, .ref 0), (1, .int (nI s)), (2, .int a2), (3, .int a3)]) (s2 := []) (v2 := w) rfl rfl (fun q13 => ?_) (fun q13 => ?_)
    · replace q13 := of_decide_eq_true q13
      replace q13 := mt (nI_eq (a := x10) (b := 0) (by omega) (by omega)).mpr q13
      refine sx_RP.step (pc2 := 26) (ls2 := [(0, .ref 0), (1, .int (nI s)), (2, .int a2), (3, .int a3)]) (st2 := [.int a3]) (w3 := w) rfl rfl ?_
      refine sx_RP.br (p1 := 37) (l1 := [(0, .ref 0), (1, .int (nI s)), (2, .int a2), (3, .int a3)]) (s1 := []) (v1 := w) (p2 := 29) (l2 := [(0, .ref 0), (1, .int (nI s)), (2, .int a2), (3, .int a3)]) (s2 := []) (v2 := w) rfl rfl (fun q14 => ?_) (fun q14 => ?_)
      · replace q14 := of_decide_eq_true q14
        refine sx_RP.step (pc2 := 38) (ls2 := [(0, .ref 0), (1, .int (nI s)), (2, .int a2), (3, .int a3)]) (st2 := [.int a3]) (w3 := w) rfl rfl ?_
        refine sx_RP.step (pc2 := 40) (ls2 := [(0, .ref 0), (1, .int (nI s)), (2, .int a2), (3, .int a3)]) (st2 := [.int 40, .int a3]) (w3 := w) rfl rfl ?_
        refine sx_RP.br (p1 := 50) (l1 := [(0, .ref 0), (1, .int (nI s)), (2, .int a2), (3, .int a3)]) (s1 := []) (v1 := w) (p2 := 43) (l2 := [(0, .ref 0), (1, .int (nI s)), (2, .int a2), (3, .int a3)]) (s2 := []) (v2 := w) rfl rfl (fun q15 => ?_) (fun q15 => ?_)
        · replace q15 := of_decide_eq_true q15
          refine sx_RP.step (pc2 := 51) (ls2 := [(0, .ref 0), (1, .int (nI s)), (2, .int a2), (3, .int a3)]) (st2 := [.ref 0]) (w3 := w) rfl rfl ?_
          refine sx_RP.gf (v := .ref 98) rfl rfl hI.1.o0 rfl rfl (show _ = 54 from rfl) ?_
          refine sx_RP.step (pc2 := 55) (ls2 := [(0, .ref 0), (1, .int (nI s)), (2, .int a2), (3, .int a3)]) (st2 := [.int (nI s), .ref 98]) (w3 := w) rfl rfl ?_
          refine sx_RP.ald (v := .ref (103 + 2 * s)) rfl hI.1.a98 rfl (shA_at (show s < 4 by omega)) (show _ = 56 from rfl) ?_
          refine sx_RP.step (pc2 := 57) (ls2 := [(0, .ref 0), (1, .int (nI s)), (2, .int a2), (3, .int a3)]) (st2 := [.int a2, .ref (103 + 2 * s)]) (w3 := w) rfl rfl ?_
          refine sx_RP.step (pc2 := 58) (ls2 := [(0, .ref 0), (1, .int (nI s)), (2, .int a2), (3, .int a3)]) (st2 := [.int a3, .int a2, .ref (103 + 2 * s)]) (w3 := w) rfl rfl ?_
          have hx40 : inR a3 40 := nI_of2 (M := 40) rfl (Int32.not_lt.mpr q14) q15
          refine sx_RP.callp (as2 := [.ref (103 + 2 * s), .int a2, .int a3]) (rest2 := []) rfl rfl (sx_inv_v2 (mi := 111) (k := 303) (st := [.int a3, .int a2, .ref (103 + 2 * s)]) (w := w) rfl rfl (hI.1.oS (show s < 4 by omega)) rfl rfl rfl) rfl rfl rfl (N114 hI (show s < 4 by omega) a2 a3 hx40) (show _ = 61 from rfl) ?_
          rintro r4 w16 ⟨rfl, hI17, hE19⟩
          have hE18 := hE.tr (hE19)
          show sx_RP _ _ _ _ _ [] _ _
          refine sx_RP.step (pc2 := 62) (ls2 := [(0, .ref 0), (1, .int (nI s)), (2, .int a2), (3, .int a3)]) (st2 := [.ref 0]) (w3 := w16) rfl rfl ?_
          refine sx_RP.gf (v := .ref 98) rfl rfl hI17.1.o0 rfl rfl (show _ = 65 from rfl) ?_
          refine sx_RP.step (pc2 := 66) (ls2 := [(0, .ref 0), (1, .int (nI s)), (2, .int a2), (3, .int a3)]) (st2 := [.int (nI s), .ref 98]) (w3 := w16) rfl rfl ?_
          refine sx_RP.ald (v := .ref (103 + 2 * s)) rfl hI17.1.a98 rfl (shA_at (show s < 4 by omega)) (show _ = 67 from rfl) ?_
          refine sx_RP.gf (v := .int (fi w16 (103 + 2 * s) 2)) rfl rfl (hI17.1.oS (show s < 4 by omega)) rfl rfl (show _ = 70 from rfl) ?_
          obtain ⟨x20, hx21, ex22⟩ : inR (fi w16 (103 + 2 * s) 2) 40 := hI17.sh (show s < 4 by omega)
          rw [ex22]
          refine sx_RP.ret (r := (some (.int (nI x20)))) rfl rfl ?_
          exact ⟨⟨_, rfl⟩, hI17, hE18⟩
        · replace q15 := of_decide_eq_false q15
          refine sx_RP.step (pc2 := 44) (ls2 := [(0, .ref 0), (1, .int (nI s)), (2, .int a2), (3, .int a3)]) (st2 := [.ref 0]) (w3 := w) rfl rfl ?_
          refine sx_RP.step (pc2 := 46) (ls2 := [(0, .ref 0), (1, .int (nI s)), (2, .int a2), (3, .int a3)]) (st2 := [.int (-1000000001), .ref 0]) (w3 := w) rfl rfl ?_
          refine sx_RP.callp (as2 := [.ref 0, .int (-1000000001)]) (rest2 := []) rfl rfl (sx_inv_v2 (mi := 111) (k := 78) (st := [.int (-1000000001), .ref 0]) (w := w) rfl rfl hI.1.o0 rfl rfl rfl) rfl rfl rfl (Q9_0 hI) (show _ = 49 from rfl) ?_
          rintro r4 w23 ⟨rfl, hI24, hE26⟩
          have hE25 := hE.tr (hE26.en)
          show sx_RP _ _ _ _ _ [.int (-1000000001)] _ _
          refine sx_RP.ret (r := (some (.int (-1000000001)))) rfl rfl ?_
          exact ⟨⟨_, rfl⟩, hI24, hE25⟩
      · replace q14 := of_decide_eq_false q14
        refine sx_RP.step (pc2 := 30) (ls2 := [(0, .ref 0), (1, .int (nI s)), (2, .int a2), (3, .int a3)]) (st2 := [.ref 0]) (w3 := w) rfl rfl ?_
        refine sx_RP.step (pc2 := 33) (ls2 := [(0, .ref 0), (1, .int (nI s)), (2, .int a2), (3, .int a3)]) (st2 := [.int (-1000000007), .ref 0]) (w3 := w) rfl rfl ?_
        refine sx_RP.callp (as2 := [.ref 0, .int (-1000000007)]) (rest2 := []) rfl rfl (sx_inv_v2 (mi := 111) (k := 78) (st := [.int (-1000000007), .ref 0]) (w := w) rfl rfl hI.1.o0 rfl rfl rfl) rfl rfl rfl (Q9_6 hI) (show _ = 36 from rfl) ?_
        rintro r4 w27 ⟨rfl, hI28, hE30⟩
        have hE29 := hE.tr (hE30.en)
        show sx_RP _ _ _ _ _ [.int (-1000000007)] _ _
        refine sx_RP.ret (r := (some (.int (-1000000007)))) rfl rfl ?_
        exact ⟨⟨_, rfl⟩, hI28, hE29⟩
    · replace q13 := Decidable.not_not.mp (of_decide_eq_false q13)
      replace q13 := (nI_eq (a := x10) (b := 0) (by omega) (by omega)).mp q13
      refine sx_RP.step (pc2 := 15) (ls2 := [(0, .ref 0), (1, .int (nI s)), (2, .int a2), (3, .int a3)]) (st2 := [.int a2]) (w3 := w) rfl rfl ?_
      refine sx_RP.br (p1 := 25) (l1 := [(0, .ref 0), (1, .int (nI s)), (2, .int a2), (3, .int a3)]) (s1 := []) (v1 := w) (p2 := 18) (l2 := [(0, .ref 0), (1, .int (nI s)), (2, .int a2), (3, .int a3)]) (s2 := []) (v2 := w) rfl rfl (fun q31 => ?_) (fun q31 => ?_)
      · replace q31 := of_decide_eq_true q31
        refine sx_RP.step (pc2 := 26) (ls2 := [(0, .ref 0), (1, .int (nI s)), (2, .int a2), (3, .int a3)]) (st2 := [.int a3]) (w3 := w) rfl rfl ?_
        refine sx_RP.br (p1 := 37) (l1 := [(0, .ref 0), (1, .int (nI s)), (2, .int a2), (3, .int a3)]) (s1 := []) (v1 := w) (p2 := 29) (l2 := [(0, .ref 0), (1, .int (nI s)), (2, .int a2), (3, .int a3)]) (s2 := []) (v2 := w) rfl rfl (fun q32 => ?_) (fun q32 => ?_)
        · replace q32 := of_decide_eq_true q32
          refine sx_RP.step (pc2 := 38) (ls2 := [(0, .ref 0), (1, .int (nI s)), (2, .int a2), (3, .int a3)]) (st2 := [.int a3]) (w3 := w) rfl rfl ?_
          refine sx_RP.step (pc2 := 40) (ls2 := [(0, .ref 0), (1, .int (nI s)), (2, .int a2), (3, .int a3)]) (st2 := [.int 40, .int a3]) (w3 := w) rfl rfl ?_
          refine sx_RP.br (p1 := 50) (l1 := [(0, .ref 0), (1, .int (nI s)), (2, .int a2), (3, .int a3)]) (s1 := []) (v1 := w) (p2 := 43) (l2 := [(0, .ref 0), (1, .int (nI s)), (2, .int a2), (3, .int a3)]) (s2 := []) (v2 := w) rfl rfl (fun q33 => ?_) (fun q33 => ?_)
          · replace q33 := of_decide_eq_true q33
            refine sx_RP.step (pc2 := 51) (ls2 := [(0, .ref 0), (1, .int (nI s)), (2, .int a2), (3, .int a3)]) (st2 := [.ref 0]) (w3 := w) rfl rfl ?_
            refine sx_RP.gf (v := .ref 98) rfl rfl hI.1.o0 rfl rfl (show _ = 54 from rfl) ?_
            refine sx_RP.step (pc2 := 55) (ls2 := [(0, .ref 0), (1, .int (nI s)), (2, .int a2), (3, .int a3)]) (st2 := [.int (nI s), .ref 98]) (w3 := w) rfl rfl ?_
            refine sx_RP.ald (v := .ref (103 + 2 * s)) rfl hI.1.a98 rfl (shA_at (show s < 4 by omega)) (show _ = 56 from rfl) ?_
            refine sx_RP.step (pc2 := 57) (ls2 := [(0, .ref 0), (1, .int (nI s)), (2, .int a2), (3, .int a3)]) (st2 := [.int a2, .ref (103 + 2 * s)]) (w3 := w) rfl rfl ?_
            refine sx_RP.step (pc2 := 58) (ls2 := [(0, .ref 0), (1, .int (nI s)), (2, .int a2), (3, .int a3)]) (st2 := [.int a3, .int a2, .ref (103 + 2 * s)]) (w3 := w) rfl rfl ?_
            have hx40 : inR a3 40 := nI_of2 (M := 40) rfl (Int32.not_lt.mpr q32) q33
            refine sx_RP.callp (as2 := [.ref (103 + 2 * s), .int a2, .int a3]) (rest2 := []) rfl rfl (sx_inv_v2 (mi := 111) (k := 303) (st := [.int a3, .int a2, .ref (103 + 2 * s)]) (w := w) rfl rfl (hI.1.oS (show s < 4 by omega)) rfl rfl rfl) rfl rfl rfl (N114 hI (show s < 4 by omega) a2 a3 hx40) (show _ = 61 from rfl) ?_
            rintro r4 w34 ⟨rfl, hI35, hE37⟩
            have hE36 := hE.tr (hE37)
            show sx_RP _ _ _ _ _ [] _ _
            refine sx_RP.step (pc2 := 62) (ls2 := [(0, .ref 0), (1, .int (nI s)), (2, .int a2), (3, .int a3)]) (st2 := [.ref 0]) (w3 := w34) rfl rfl ?_
            refine sx_RP.gf (v := .ref 98) rfl rfl hI35.1.o0 rfl rfl (show _ = 65 from rfl) ?_
            refine sx_RP.step (pc2 := 66) (ls2 := [(0, .ref 0), (1, .int (nI s)), (2, .int a2), (3, .int a3)]) (st2 := [.int (nI s), .ref 98]) (w3 := w34) rfl rfl ?_
            refine sx_RP.ald (v := .ref (103 + 2 * s)) rfl hI35.1.a98 rfl (shA_at (show s < 4 by omega)) (show _ = 67 from rfl) ?_
            refine sx_RP.gf (v := .int (fi w34 (103 + 2 * s) 2)) rfl rfl (hI35.1.oS (show s < 4 by omega)) rfl rfl (show _ = 70 from rfl) ?_
            obtain ⟨x38, hx39, ex40⟩ : inR (fi w34 (103 + 2 * s) 2) 40 := hI35.sh (show s < 4 by omega)
            rw [ex40]
            refine sx_RP.ret (r := (some (.int (nI x38)))) rfl rfl ?_
            exact ⟨⟨_, rfl⟩, hI35, hE36⟩
          · replace q33 := of_decide_eq_false q33
            refine sx_RP.step (pc2 := 44) (ls2 := [(0, .ref 0), (1, .int (nI s)), (2, .int a2), (3, .int a3)]) (st2 := [.ref 0]) (w3 := w) rfl rfl ?_
            refine sx_RP.step (pc2 := 46) (ls2 := [(0, .ref 0), (1, .int (nI s)), (2, .int a2), (3, .int a3)]) (st2 := [.int (-1000000001), .ref 0]) (w3 := w) rfl rfl ?_
            refine sx_RP.callp (as2 := [.ref 0, .int (-1000000001)]) (rest2 := []) rfl rfl (sx_inv_v2 (mi := 111) (k := 78) (st := [.int (-1000000001), .ref 0]) (w := w) rfl rfl hI.1.o0 rfl rfl rfl) rfl rfl rfl (Q9_0 hI) (show _ = 49 from rfl) ?_
            rintro r4 w41 ⟨rfl, hI42, hE44⟩
            have hE43 := hE.tr (hE44.en)
            show sx_RP _ _ _ _ _ [.int (-1000000001)] _ _
            refine sx_RP.ret (r := (some (.int (-1000000001)))) rfl rfl ?_
            exact ⟨⟨_, rfl⟩, hI42, hE43⟩
        · replace q32 := of_decide_eq_false q32
          refine sx_RP.step (pc2 := 30) (ls2 := [(0, .ref 0), (1, .int (nI s)), (2, .int a2), (3, .int a3)]) (st2 := [.ref 0]) (w3 := w) rfl rfl ?_
          refine sx_RP.step (pc2 := 33) (ls2 := [(0, .ref 0), (1, .int (nI s)), (2, .int a2), (3, .int a3)]) (st2 := [.int (-1000000007), .ref 0]) (w3 := w) rfl rfl ?_
          refine sx_RP.callp (as2 := [.ref 0, .int (-1000000007)]) (rest2 := []) rfl rfl (sx_inv_v2 (mi := 111) (k := 78) (st := [.int (-1000000007), .ref 0]) (w := w) rfl rfl hI.1.o0 rfl rfl rfl) rfl rfl rfl (Q9_6 hI) (show _ = 36 from rfl) ?_
          rintro r4 w45 ⟨rfl, hI46, hE48⟩
          have hE47 := hE.tr (hE48.en)
          show sx_RP _ _ _ _ _ [.int (-1000000007)] _ _
          refine sx_RP.ret (r := (some (.int (-1000000007)))) rfl rfl ?_
          exact ⟨⟨_, rfl⟩, hI46, hE47⟩
      · replace q31 := of_decide_eq_false q31
        refine sx_RP.step (pc2 := 19) (ls2 := [(0, .ref 0), (1, .int (nI s)), (2, .int a2), (3, .int a3)]) (st2 := [.ref 0]) (w3 := w) rfl rfl ?_
        refine sx_RP.step (pc2 := 21) (ls2 := [(0, .ref 0), (1, .int (nI s)), (2, .int a2), (3, .int a3)]) (st2 := [.int (-1000000001), .ref 0]) (w3 := w) rfl rfl ?_
        refine sx_RP.callp (as2 := [.ref 0, .int (-1000000001)]) (rest2 := []) rfl rfl (sx_inv_v2 (mi := 111) (k := 78) (st := [.int (-1000000001), .ref 0]) (w := w) rfl rfl hI.1.o0 rfl rfl rfl) rfl rfl rfl (Q9_0 hI) (show _ = 24 from rfl) ?_
        rintro r4 w49 ⟨rfl, hI50, hE52⟩
        have hE51 := hE.tr (hE52.en)
        show sx_RP _ _ _ _ _ [.int (-1000000001)] _ _
        refine sx_RP.ret (r := (some (.int (-1000000001)))) rfl rfl ?_
        exact ⟨⟨_, rfl⟩, hI50, hE51⟩
set_option maxRecDepth 20000 in
set_option maxHeartbeats 4000000 in
theorem N111n {xs : Option (List Int32)} {d : Nat} {w : List sx_C} (hI : WI w) (a1 a2 a3 : Int32) (hn : ¬ (0 ≤ a1 ∧ a1 ≤ 3)) : sx_RP xs (d + 7) 111 0 (lv_args 0 [.ref 0, .int a1, .int a2, .int a3]) [] w (fun r w2 => (∃ v : Int32, r = some (.int v)) ∧ WI w2 ∧ EN w w2) := by
  have hE : EN w w := EN.rf
  refine sx_RP.step (pc2 := 1) (ls2 := [(0, .ref 0), (1, .int a1), (2, .int a2), (3, .int a3)]) (st2 := [.int a1]) (w3 := w) rfl rfl ?_
  refine sx_RP.cu (as := [.int a1]) (rest2 := []) (st3 := [.int 0]) rfl rfl rfl rfl rfl (cx_112n hn) rfl ?_
  refine sx_RP.step (pc2 := 18) (ls2 := [(0, .ref 0), (1, .int a1), (2, .int a2), (3, .int a3)]) (st2 := []) (w3 := w) rfl rfl ?_
  refine sx_RP.step (pc2 := 19) (ls2 := [(0, .ref 0), (1, .int a1), (2, .int a2), (3, .int a3)]) (st2 := [.ref 0]) (w3 := w) rfl rfl ?_
  refine sx_RP.step (pc2 := 21) (ls2 := [(0, .ref 0), (1, .int a1), (2, .int a2), (3, .int a3)]) (st2 := [.int (-1000000001), .ref 0]) (w3 := w) rfl rfl ?_
  refine sx_RP.callp (as2 := [.ref 0, .int (-1000000001)]) (rest2 := []) rfl rfl (sx_inv_v2 (mi := 111) (k := 78) (st := [.int (-1000000001), .ref 0]) (w := w) rfl rfl hI.1.o0 rfl rfl rfl) rfl rfl rfl (Q9_0 hI) (show _ = 24 from rfl) ?_
  rintro r4 w1 ⟨rfl, hI2, hE4⟩
  have hE3 := hE.tr (hE4.en)
  show sx_RP _ _ _ _ _ [.int (-1000000001)] _ _
  refine sx_RP.ret (r := (some (.int (-1000000001)))) rfl rfl ?_
  exact ⟨⟨_, rfl⟩, hI2, hE3⟩
set_option maxRecDepth 20000 in
set_option maxHeartbeats 4000000 in
theorem N118 {xs : Option (List Int32)} {d : Nat} {w : List sx_C} (hI : WI w) (a1 a2 a3 a4 a5 : Int32) : sx_RP xs (d + 7) 118 0 (lv_args 0 [.ref 0, .int a1, .int a2, .int a3, .int a4, .int a5]) [] w (fun r w2 => (∃ v : Int32, r = some (.int v)) ∧ WI w2 ∧ EN w w2) := by
  have hE : EN w w := EN.rf
  refine sx_RP.step (pc2 := 1) (ls2 := [(0, .ref 0), (1, .int a1), (2, .int a2), (3, .int a3), (4, .int a4), (5, .int a5)]) (st2 := [.int a1]) (w3 := w) rfl rfl ?_
  rcases in_cases a1 0 3 (m := 0) (n := 3) rfl rfl (by decide) (by decide) with q1 | ⟨x2, hx3, hx4, rfl⟩
  · refine sx_RP.cu (as := [.int a1]) (rest2 := []) (st3 := [.int 0]) rfl rfl rfl rfl rfl (cx_112n q1) rfl ?_
    refine sx_RP.step (pc2 := 14) (ls2 := [(0, .ref 0), (1, .int a1), (2, .int a2), (3, .int a3), (4, .int a4), (5, .int a5)]) (st2 := []) (w3 := w) rfl rfl ?_
    refine sx_RP.step (pc2 := 15) (ls2 := [(0, .ref 0), (1, .int a1), (2, .int a2), (3, .int a3), (4, .int a4), (5, .int a5)]) (st2 := [.ref 0]) (w3 := w) rfl rfl ?_
    refine sx_RP.step (pc2 := 17) (ls2 := [(0, .ref 0), (1, .int a1), (2, .int a2), (3, .int a3), (4, .int a4), (5, .int a5)]) (st2 := [.int (-1000000001), .ref 0]) (w3 := w) rfl rfl ?_
    refine sx_RP.callp (as2 := [.ref 0, .int (-1000000001)]) (rest2 := []) rfl rfl (sx_inv_v2 (mi := 118) (k := 78) (st := [.int (-1000000001), .ref 0]) (w := w) rfl rfl hI.1.o0 rfl rfl rfl) rfl rfl rfl (Q9_0 hI) (show _ = 20 from rfl) ?_
    rintro r4 w6 ⟨rfl, hI7, hE9⟩
    have hE8 := hE.tr (hE9.en)
    show sx_RP _ _ _ _ _ [.int (-1000000001)] _ _
    refine sx_RP.ret (r := (some (.int (-1000000001)))) rfl rfl ?_
    exact ⟨⟨_, rfl⟩, hI7, hE8⟩
  · refine sx_RP.cu (as := [.int (nI x2)]) (rest2 := []) (st3 := [.int 1]) rfl rfl rfl rfl rfl (cx_112p ⟨nI_le (a := 0) hx3 (by omega), nI_le (b := 3) hx4 (by decide)⟩) rfl ?_
    refine sx_RP.step (pc2 := 7) (ls2 := [(0, .ref 0), (1, .int (nI x2)), (2, .int a2), (3, .int a3), (4, .int a4), (5, .int a5)]) (st2 := []) (w3 := w) rfl rfl ?_
    refine sx_RP.step (pc2 := 8) (ls2 := [(0, .ref 0), (1, .int (nI x2)), (2, .int a2), (3, .int a3), (4, .int a4), (5, .int a5)]) (st2 := [.int a3]) (w3 := w) rfl rfl ?_
    rcases in_cases a3 0 3 (m := 0) (n := 3) rfl rfl (by decide) (by decide) with q10 | ⟨x11, hx12, hx13, rfl⟩
    · refine sx_RP.cu (as := [.int a3]) (rest2 := []) (st3 := [.int 0]) rfl rfl rfl rfl rfl (cx_112n q10) rfl ?_
      refine sx_RP.step (pc2 := 14) (ls2 := [(0, .ref 0), (1, .int (nI x2)), (2, .int a2), (3, .int a3), (4, .int a4), (5, .int a5)]) (st2 := []) (w3 := w) rfl rfl ?_
      refine sx_RP.step (pc2 := 15) (ls2 := [(0, .ref 0), (1, .int (nI x2)), (2, .int a2), (3, .int a3), (4, .int a4), (5, .int a5)]) (st2 := [.ref 0]) (w3 := w) rfl rfl ?_
      refine sx_RP.step (pc2 := 17) (ls2 := [(0, .ref 0), (1, .int (nI x2)), (2, .int a2), (3, .int a3), (4, .int a4), (5, .int a5)]) (st2 := [.int (-1000000001), .ref 0]) (w3 := w) rfl rfl ?_
      refine sx_RP.callp (as2 := [.ref 0, .int (-1000000001)]) (rest2 := []) rfl rfl (sx_inv_v2 (mi := 118) (k := 78) (st := [.int (-1000000001), .ref 0]) (w := w) rfl rfl hI.1.o0 rfl rfl rfl) rfl rfl rfl (Q9_0 hI) (show _ = 20 from rfl) ?_
      rintro r4 w15 ⟨rfl, hI16, hE18⟩
      have hE17 := hE.tr (hE18.en)
      show sx_RP _ _ _ _ _ [.int (-1000000001)] _ _
      refine sx_RP.ret (r := (some (.int (-1000000001)))) rfl rfl ?_
      exact ⟨⟨_, rfl⟩, hI16, hE17⟩
    · refine sx_RP.cu (as := [.int (nI x11)]) (rest2 := []) (st3 := [.int 1]) rfl rfl rfl rfl rfl (cx_112p ⟨nI_le (a := 0) hx12 (by omega), nI_le (b := 3) hx13 (by decide)⟩) rfl ?_
      refine sx_RP.step (pc2 := 21) (ls2 := [(0, .ref 0), (1, .int (nI x2)), (2, .int a2), (3, .int (nI x11)), (4, .int a4), (5, .int a5)]) (st2 := []) (w3 := w) rfl rfl ?_
      refine sx_RP.step (pc2 := 22) (ls2 := [(0, .ref 0), (1, .int (nI x2)), (2, .int a2), (3, .int (nI x11)), (4, .int a4), (5, .int a5)]) (st2 := [.ref 0]) (w3 := w) rfl rfl ?_
      refine sx_RP.gf (v := .ref 98) rfl rfl hI.1.o0 rfl rfl (show _ = 25 from rfl) ?_
      refine sx_RP.step (pc2 := 26) (ls2 := [(0, .ref 0), (1, .int (nI x2)), (2, .int a2), (3, .int (nI x11)), (4, .int a4), (5, .int a5)]) (st2 := [.int (nI x2), .ref 98]) (w3 := w) rfl rfl ?_
      refine sx_RP.ald (v := .ref (103 + 2 * x2)) rfl hI.1.a98 rfl (shA_at (show x2 < 4 by omega)) (show _ = 27 from rfl) ?_
      refine sx_RP.step (pc2 := 29) (ls2 := [(6, .ref (103 + 2 * x2)), (0, .ref 0), (1, .int (nI x2)), (2, .int a2), (3, .int (nI x11)), (4, .int a4), (5, .int a5)]) (st2 := []) (w3 := w) rfl rfl ?_
      refine sx_RP.step (pc2 := 30) (ls2 := [(6, .ref (103 + 2 * x2)), (0, .ref 0), (1, .int (nI x2)), (2, .int a2), (3, .int (nI x11)), (4, .int a4), (5, .int a5)]) (st2 := [.ref 0]) (w3 := w) rfl rfl ?_
      refine sx_RP.gf (v := .ref 98) rfl rfl hI.1.o0 rfl rfl (show _ = 33 from rfl) ?_
      refine sx_RP.step (pc2 := 34) (ls2 := [(6, .ref (103 + 2 * x2)), (0, .ref 0), (1, .int (nI x2)), (2, .int a2), (3, .int (nI x11)), (4, .int a4), (5, .int a5)]) (st2 := [.int (nI x11), .ref 98]) (w3 := w) rfl rfl ?_
      refine sx_RP.ald (v := .ref (103 + 2 * x11)) rfl hI.1.a98 rfl (shA_at (show x11 < 4 by omega)) (show _ = 35 from rfl) ?_
      refine sx_RP.step (pc2 := 37) (ls2 := [(7, .ref (103 + 2 * x11)), (6, .ref (103 + 2 * x2)), (0, .ref 0), (1, .int (nI x2)), (2, .int a2), (3, .int (nI x11)), (4, .int a4), (5, .int a5)]) (st2 := []) (w3 := w) rfl rfl ?_
      refine sx_RP.step (pc2 := 39) (ls2 := [(7, .ref (103 + 2 * x11)), (6, .ref (103 + 2 * x2)), (0, .ref 0), (1, .int (nI x2)), (2, .int a2), (3, .int (nI x11)), (4, .int a4), (5, .int a5)]) (st2 := [.ref (103 + 2 * x2)]) (w3 := w) rfl rfl ?_
      obtain ⟨x19, hx20, c21⟩ := p116 hI (show x2 < 4 by omega)
      refine sx_RP.cu (as := [.ref (103 + 2 * x2)]) (rest2 := []) (st3 := [.int (nI x19)]) rfl rfl (sx_inv_v2 (mi := 118) (k := 310) (st := [.ref (103 + 2 * x2)]) (w := w) rfl rfl (hI.1.oS (show x2 < 4 by omega)) rfl rfl rfl) rfl rfl (c21) rfl ?_
      refine sx_RP.br (p1 := 53) (l1 := [(7, .ref (103 + 2 * x11)), (6, .ref (103 + 2 * x2)), (0, .ref 0), (1, .int (nI x2)), (2, .int a2), (3, .int (nI x11)), (4, .int a4), (5, .int a5)]) (s1 := []) (v1 := w) (p2 := 45) (l2 := [(7, .ref (103 + 2 * x11)), (6, .ref (103 + 2 * x2)), (0, .ref 0), (1, .int (nI x2)), (2, .int a2), (3, .int (nI x11)), (4, .int a4), (5, .int a5)]) (s2 := []) (v2 := w) rfl rfl (fun q22 => ?_) (fun q22 => ?_)
      · replace q22 := of_decide_eq_true q22
        replace q22 := mt (nI_eq (a := x19) (b := 0) (by omega) (by omega)).mpr q22
        refine sx_RP.step (pc2 := 54) (ls2 := [(7, .ref (103 + 2 * x11)), (6, .ref (103 + 2 * x2)), (0, .ref 0), (1, .int (nI x2)), (2, .int a2), (3, .int (nI x11)), (4, .int a4), (5, .int a5)]) (st2 := [.ref 0]) (w3 := w) rfl rfl ?_
        refine sx_RP.step (pc2 := 57) (ls2 := [(7, .ref (103 + 2 * x11)), (6, .ref (103 + 2 * x2)), (0, .ref 0), (1, .int (nI x2)), (2, .int a2), (3, .int (nI x11)), (4, .int a4), (5, .int a5)]) (st2 := [.int (-1000000006), .ref 0]) (w3 := w) rfl rfl ?_
        refine sx_RP.callp (as2 := [.ref 0, .int (-1000000006)]) (rest2 := []) rfl rfl (sx_inv_v2 (mi := 118) (k := 78) (st := [.int (-1000000006), .ref 0]) (w := w) rfl rfl hI.1.o0 rfl rfl rfl) rfl rfl rfl (Q9_5 hI) (show _ = 60 from rfl) ?_
        rintro r4 w23 ⟨rfl, hI24, hE26⟩
        have hE25 := hE.tr (hE26.en)
        show sx_RP _ _ _ _ _ [.int (-1000000006)] _ _
        refine sx_RP.ret (r := (some (.int (-1000000006)))) rfl rfl ?_
        exact ⟨⟨_, rfl⟩, hI24, hE25⟩
      · replace q22 := Decidable.not_not.mp (of_decide_eq_false q22)
        replace q22 := (nI_eq (a := x19) (b := 0) (by omega) (by omega)).mp q22
        refine sx_RP.step (pc2 := 47) (ls2 := [(7, .ref (103 + 2 * x11)), (6, .ref (103 + 2 * x2)), (0, .ref 0), (1, .int (nI x2)), (2, .int a2), (3, .int (nI x11)), (4, .int a4), (5, .int a5)]) (st2 := [.ref (103 + 2 * x11)]) (w3 := w) rfl rfl ?_
        obtain ⟨x27, hx28, c29⟩ := p116 hI (show x11 < 4 by omega)
        refine sx_RP.cu (as := [.ref (103 + 2 * x11)]) (rest2 := []) (st3 := [.int (nI x27)]) rfl rfl (sx_inv_v2 (mi := 118) (k := 310) (st := [.ref (103 + 2 * x11)]) (w := w) rfl rfl (hI.1.oS (show x11 < 4 by omega)) rfl rfl rfl) rfl rfl (c29) rfl ?_
        refine sx_RP.br (p1 := 61) (l1 := [(7, .ref (103 + 2 * x11)), (6, .ref (103 + 2 * x2)), (0, .ref 0), (1, .int (nI x2)), (2, .int a2), (3, .int (nI x11)), (4, .int a4), (5, .int a5)]) (s1 := []) (v1 := w) (p2 := 53) (l2 := [(7, .ref (103 + 2 * x11)), (6, .ref (103 + 2 * x2)), (0, .ref 0), (1, .int (nI x2)), (2, .int a2), (3, .int (nI x11)), (4, .int a4), (5, .int a5)]) (s2 := []) (v2 := w) rfl rfl (fun q30 => ?_) (fun q30 => ?_)
        · replace q30 := of_decide_eq_true q30
          replace q30 := (nI_eq (a := x27) (b := 0) (by omega) (by omega)).mp q30
          refine sx_RP.step (pc2 := 63) (ls2 := [(7, .ref (103 + 2 * x11)), (6, .ref (103 + 2 * x2)), (0, .ref 0), (1, .int (nI x2)), (2, .int a2), (3, .int (nI x11)), (4, .int a4), (5, .int a5)]) (st2 := [.ref (103 + 2 * x2)]) (w3 := w) rfl rfl ?_
          refine sx_RP.gf (v := .int (fi w (103 + 2 * x2) 1)) rfl rfl (hI.1.oS (show x2 < 4 by omega)) rfl rfl (show _ = 66 from rfl) ?_
          refine sx_RP.step (pc2 := 68) (ls2 := [(7, .ref (103 + 2 * x11)), (6, .ref (103 + 2 * x2)), (0, .ref 0), (1, .int (nI x2)), (2, .int a2), (3, .int (nI x11)), (4, .int a4), (5, .int a5)]) (st2 := [.ref (103 + 2 * x11), .int (fi w (103 + 2 * x2) 1)]) (w3 := w) rfl rfl ?_
          refine sx_RP.gf (v := .int (fi w (103 + 2 * x11) 1)) rfl rfl (hI.1.oS (show x11 < 4 by omega)) rfl rfl (show _ = 71 from rfl) ?_
          refine sx_RP.br (p1 := 81) (l1 := [(7, .ref (103 + 2 * x11)), (6, .ref (103 + 2 * x2)), (0, .ref 0), (1, .int (nI x2)), (2, .int a2), (3, .int (nI x11)), (4, .int a4), (5, .int a5)]) (s1 := []) (v1 := w) (p2 := 74) (l2 := [(7, .ref (103 + 2 * x11)), (6, .ref (103 + 2 * x2)), (0, .ref 0), (1, .int (nI x2)), (2, .int a2), (3, .int (nI x11)), (4, .int a4), (5, .int a5)]) (s2 := []) (v2 := w) rfl rfl (fun q31 => ?_) (fun q31 => ?_)
          · replace q31 := of_decide_eq_true q31
            refine sx_RP.step (pc2 := 83) (ls2 := [(7, .ref (103 + 2 * x11)), (6, .ref (103 + 2 * x2)), (0, .ref 0), (1, .int (nI x2)), (2, .int a2), (3, .int (nI x11)), (4, .int a4), (5, .int a5)]) (st2 := [.ref (103 + 2 * x2)]) (w3 := w) rfl rfl ?_
            refine sx_RP.step (pc2 := 84) (ls2 := [(7, .ref (103 + 2 * x11)), (6, .ref (103 + 2 * x2)), (0, .ref 0), (1, .int (nI x2)), (2, .int a2), (3, .int (nI x11)), (4, .int a4), (5, .int a5)]) (st2 := [.int a2, .ref (103 + 2 * x2)]) (w3 := w) rfl rfl ?_
            refine sx_RP.step (pc2 := 86) (ls2 := [(7, .ref (103 + 2 * x11)), (6, .ref (103 + 2 * x2)), (0, .ref 0), (1, .int (nI x2)), (2, .int a2), (3, .int (nI x11)), (4, .int a4), (5, .int a5)]) (st2 := [.int a5, .int a2, .ref (103 + 2 * x2)]) (w3 := w) rfl rfl ?_
            rcases p119 (xs := xs) hI (show x2 < 4 by omega) a2 a5 with c32 | ⟨⟨x33, x34, rfl, rfl, hx36⟩, c32⟩
            · refine sx_RP.cu (as := [.ref (103 + 2 * x2), .int a2, .int a5]) (rest2 := []) (st3 := [.int 0]) rfl rfl (sx_inv_v2 (mi := 118) (k := 325) (st := [.int a5, .int a2, .ref (103 + 2 * x2)]) (w := w) rfl rfl (hI.1.oS (show x2 < 4 by omega)) rfl rfl rfl) rfl rfl (c32) rfl ?_
              refine sx_RP.step (pc2 := 104) (ls2 := [(7, .ref (103 + 2 * x11)), (6, .ref (103 + 2 * x2)), (0, .ref 0), (1, .int (nI x2)), (2, .int a2), (3, .int (nI x11)), (4, .int a4), (5, .int a5)]) (st2 := []) (w3 := w) rfl rfl ?_
              refine sx_RP.step (pc2 := 105) (ls2 := [(7, .ref (103 + 2 * x11)), (6, .ref (103 + 2 * x2)), (0, .ref 0), (1, .int (nI x2)), (2, .int a2), (3, .int (nI x11)), (4, .int a4), (5, .int a5)]) (st2 := [.ref 0]) (w3 := w) rfl rfl ?_
              refine sx_RP.step (pc2 := 107) (ls2 := [(7, .ref (103 + 2 * x11)), (6, .ref (103 + 2 * x2)), (0, .ref 0), (1, .int (nI x2)), (2, .int a2), (3, .int (nI x11)), (4, .int a4), (5, .int a5)]) (st2 := [.int (-1000000001), .ref 0]) (w3 := w) rfl rfl ?_
              refine sx_RP.callp (as2 := [.ref 0, .int (-1000000001)]) (rest2 := []) rfl rfl (sx_inv_v2 (mi := 118) (k := 78) (st := [.int (-1000000001), .ref 0]) (w := w) rfl rfl hI.1.o0 rfl rfl rfl) rfl rfl rfl (Q9_0 hI) (show _ = 110 from rfl) ?_
              rintro r4 w38 ⟨rfl, hI39, hE41⟩
              have hE40 := hE.tr (hE41.en)
              show sx_RP _ _ _ _ _ [.int (-1000000001)] _ _
              refine sx_RP.ret (r := (some (.int (-1000000001)))) rfl rfl ?_
              exact ⟨⟨_, rfl⟩, hI39, hE40⟩
            · refine sx_RP.cu (as := [.ref (103 + 2 * x2), .int (nI x33), .int (nI x34)]) (rest2 := []) (st3 := [.int 1]) rfl rfl (sx_inv_v2 (mi := 118) (k := 325) (st := [.int (nI x34), .int (nI x33), .ref (103 + 2 * x2)]) (w := w) rfl rfl (hI.1.oS (show x2 < 4 by omega)) rfl rfl rfl) rfl rfl (c32) rfl ?_
              refine sx_RP.step (pc2 := 92) (ls2 := [(7, .ref (103 + 2 * x11)), (6, .ref (103 + 2 * x2)), (0, .ref 0), (1, .int (nI x2)), (2, .int (nI x33)), (3, .int (nI x11)), (4, .int a4), (5, .int (nI x34))]) (st2 := []) (w3 := w) rfl rfl ?_
              refine sx_RP.step (pc2 := 94) (ls2 := [(7, .ref (103 + 2 * x11)), (6, .ref (103 + 2 * x2)), (0, .ref 0), (1, .int (nI x2)), (2, .int (nI x33)), (3, .int (nI x11)), (4, .int a4), (5, .int (nI x34))]) (st2 := [.ref (103 + 2 * x11)]) (w3 := w) rfl rfl ?_
              refine sx_RP.step (pc2 := 96) (ls2 := [(7, .ref (103 + 2 * x11)), (6, .ref (103 + 2 * x2)), (0, .ref 0), (1, .int (nI x2)), (2, .int (nI x33)), (3, .int (nI x11)), (4, .int a4), (5, .int (nI x34))]) (st2 := [.int a4, .ref (103 + 2 * x11)]) (w3 := w) rfl rfl ?_
              refine sx_RP.step (pc2 := 98) (ls2 := [(7, .ref (103 + 2 * x11)), (6, .ref (103 + 2 * x2)), (0, .ref 0), (1, .int (nI x2)), (2, .int (nI x33)), (3, .int (nI x11)), (4, .int a4), (5, .int (nI x34))]) (st2 := [.int (nI x34), .int a4, .ref (103 + 2 * x11)]) (w3 := w) rfl rfl ?_
              rcases p119 (xs := xs) hI (show x11 < 4 by omega) a4 (nI x34) with c42 | ⟨⟨x43, x44, rfl, ex45, hx46⟩, c42⟩
              · refine sx_RP.cu (as := [.ref (103 + 2 * x11), .int a4, .int (nI x34)]) (rest2 := []) (st3 := [.int 0]) rfl rfl (sx_inv_v2 (mi := 118) (k := 325) (st := [.int (nI x34), .int a4, .ref (103 + 2 * x11)]) (w := w) rfl rfl (hI.1.oS (show x11 < 4 by omega)) rfl rfl rfl) rfl rfl (c42) rfl ?_
                refine sx_RP.step (pc2 := 104) (ls2 := [(7, .ref (103 + 2 * x11)), (6, .ref (103 + 2 * x2)), (0, .ref 0), (1, .int (nI x2)), (2, .int (nI x33)), (3, .int (nI x11)), (4, .int a4), (5, .int (nI x34))]) (st2 := []) (w3 := w) rfl rfl ?_
                refine sx_RP.step (pc2 := 105) (ls2 := [(7, .ref (103 + 2 * x11)), (6, .ref (103 + 2 * x2)), (0, .ref 0), (1, .int (nI x2)), (2, .int (nI x33)), (3, .int (nI x11)), (4, .int a4), (5, .int (nI x34))]) (st2 := [.ref 0]) (w3 := w) rfl rfl ?_
                refine sx_RP.step (pc2 := 107) (ls2 := [(7, .ref (103 + 2 * x11)), (6, .ref (103 + 2 * x2)), (0, .ref 0), (1, .int (nI x2)), (2, .int (nI x33)), (3, .int (nI x11)), (4, .int a4), (5, .int (nI x34))]) (st2 := [.int (-1000000001), .ref 0]) (w3 := w) rfl rfl ?_
                refine sx_RP.callp (as2 := [.ref 0, .int (-1000000001)]) (rest2 := []) rfl rfl (sx_inv_v2 (mi := 118) (k := 78) (st := [.int (-1000000001), .ref 0]) (w := w) rfl rfl hI.1.o0 rfl rfl rfl) rfl rfl rfl (Q9_0 hI) (show _ = 110 from rfl) ?_
                rintro r4 w48 ⟨rfl, hI49, hE51⟩
                have hE50 := hE.tr (hE51.en)
                show sx_RP _ _ _ _ _ [.int (-1000000001)] _ _
                refine sx_RP.ret (r := (some (.int (-1000000001)))) rfl rfl ?_
                exact ⟨⟨_, rfl⟩, hI49, hE50⟩
              · have hx47 := (nI_eq (a := x34) (b := x44) (by omega) (by omega)).mp ex45
                refine sx_RP.cu (as := [.ref (103 + 2 * x11), .int (nI x43), .int (nI x34)]) (rest2 := []) (st3 := [.int 1]) rfl rfl (sx_inv_v2 (mi := 118) (k := 325) (st := [.int (nI x34), .int (nI x43), .ref (103 + 2 * x11)]) (w := w) rfl rfl (hI.1.oS (show x11 < 4 by omega)) rfl rfl rfl) rfl rfl (c42) rfl ?_
                refine sx_RP.step (pc2 := 111) (ls2 := [(7, .ref (103 + 2 * x11)), (6, .ref (103 + 2 * x2)), (0, .ref 0), (1, .int (nI x2)), (2, .int (nI x33)), (3, .int (nI x11)), (4, .int (nI x43)), (5, .int (nI x34))]) (st2 := []) (w3 := w) rfl rfl ?_
                refine sx_RP.step (pc2 := 113) (ls2 := [(7, .ref (103 + 2 * x11)), (6, .ref (103 + 2 * x2)), (0, .ref 0), (1, .int (nI x2)), (2, .int (nI x33)), (3, .int (nI x11)), (4, .int (nI x43)), (5, .int (nI x34))]) (st2 := [.ref (103 + 2 * x2)]) (w3 := w) rfl rfl ?_
                refine sx_RP.gf (v := .ref (104 + 2 * x2)) rfl rfl (hI.1.oS (show x2 < 4 by omega)) rfl rfl (show _ = 116 from rfl) ?_
                refine sx_RP.step (pc2 := 117) (ls2 := [(7, .ref (103 + 2 * x11)), (6, .ref (103 + 2 * x2)), (0, .ref 0), (1, .int (nI x2)), (2, .int (nI x33)), (3, .int (nI x11)), (4, .int (nI x43)), (5, .int (nI x34))]) (st2 := [.int (nI x33), .ref (104 + 2 * x2)]) (w3 := w) rfl rfl ?_
                refine sx_RP.step (pc2 := 119) (ls2 := [(7, .ref (103 + 2 * x11)), (6, .ref (103 + 2 * x2)), (0, .ref 0), (1, .int (nI x2)), (2, .int (nI x33)), (3, .int (nI x11)), (4, .int (nI x43)), (5, .int (nI x34))]) (st2 := [.ref (103 + 2 * x11), .int (nI x33), .ref (104 + 2 * x2)]) (w3 := w) rfl rfl ?_
                refine sx_RP.gf (v := .ref (104 + 2 * x11)) rfl rfl (hI.1.oS (show x11 < 4 by omega)) rfl rfl (show _ = 122 from rfl) ?_
                refine sx_RP.step (pc2 := 124) (ls2 := [(7, .ref (103 + 2 * x11)), (6, .ref (103 + 2 * x2)), (0, .ref 0), (1, .int (nI x2)), (2, .int (nI x33)), (3, .int (nI x11)), (4, .int (nI x43)), (5, .int (nI x34))]) (st2 := [.int (nI x43), .ref (104 + 2 * x11), .int (nI x33), .ref (104 + 2 * x2)]) (w3 := w) rfl rfl ?_
                refine sx_RP.step (pc2 := 126) (ls2 := [(7, .ref (103 + 2 * x11)), (6, .ref (103 + 2 * x2)), (0, .ref 0), (1, .int (nI x2)), (2, .int (nI x33)), (3, .int (nI x11)), (4, .int (nI x43)), (5, .int (nI x34))]) (st2 := [.int (nI x34), .int (nI x43), .ref (104 + 2 * x11), .int (nI x33), .ref (104 + 2 * x2)]) (w3 := w) rfl rfl ?_
                refine sx_RP.acNN hI hE (show x2 < 4 by omega) (show x11 < 4 by omega) (by omega) (by omega) rfl rfl rfl (show _ = 129 from rfl) (fun w52 hI53 hE54 => ?_)
                refine sx_RP.step (pc2 := 131) (ls2 := [(7, .ref (103 + 2 * x11)), (6, .ref (103 + 2 * x2)), (0, .ref 0), (1, .int (nI x2)), (2, .int (nI x33)), (3, .int (nI x11)), (4, .int (nI x43)), (5, .int (nI x34))]) (st2 := [.int (nI x34)]) (w3 := w52) rfl rfl ?_
                refine sx_RP.ret (r := (some (.int (nI x34)))) rfl rfl ?_
                exact ⟨⟨_, rfl⟩, hI53, hE54⟩
          · replace q31 := of_decide_eq_false q31
            refine sx_RP.step (pc2 := 75) (ls2 := [(7, .ref (103 + 2 * x11)), (6, .ref (103 + 2 * x2)), (0, .ref 0), (1, .int (nI x2)), (2, .int a2), (3, .int (nI x11)), (4, .int a4), (5, .int a5)]) (st2 := [.ref 0]) (w3 := w) rfl rfl ?_
            refine sx_RP.step (pc2 := 77) (ls2 := [(7, .ref (103 + 2 * x11)), (6, .ref (103 + 2 * x2)), (0, .ref 0), (1, .int (nI x2)), (2, .int a2), (3, .int (nI x11)), (4, .int a4), (5, .int a5)]) (st2 := [.int (-1000000003), .ref 0]) (w3 := w) rfl rfl ?_
            refine sx_RP.callp (as2 := [.ref 0, .int (-1000000003)]) (rest2 := []) rfl rfl (sx_inv_v2 (mi := 118) (k := 78) (st := [.int (-1000000003), .ref 0]) (w := w) rfl rfl hI.1.o0 rfl rfl rfl) rfl rfl rfl (Q9_2 hI) (show _ = 80 from rfl) ?_
            rintro r4 w55 ⟨rfl, hI56, hE58⟩
            have hE57 := hE.tr (hE58.en)
            show sx_RP _ _ _ _ _ [.int (-1000000003)] _ _
            refine sx_RP.ret (r := (some (.int (-1000000003)))) rfl rfl ?_
            exact ⟨⟨_, rfl⟩, hI56, hE57⟩
        · replace q30 := of_decide_eq_false q30
          replace q30 := mt (nI_eq (a := x27) (b := 0) (by omega) (by omega)).mpr q30
          refine sx_RP.step (pc2 := 54) (ls2 := [(7, .ref (103 + 2 * x11)), (6, .ref (103 + 2 * x2)), (0, .ref 0), (1, .int (nI x2)), (2, .int a2), (3, .int (nI x11)), (4, .int a4), (5, .int a5)]) (st2 := [.ref 0]) (w3 := w) rfl rfl ?_
          refine sx_RP.step (pc2 := 57) (ls2 := [(7, .ref (103 + 2 * x11)), (6, .ref (103 + 2 * x2)), (0, .ref 0), (1, .int (nI x2)), (2, .int a2), (3, .int (nI x11)), (4, .int a4), (5, .int a5)]) (st2 := [.int (-1000000006), .ref 0]) (w3 := w) rfl rfl ?_
          refine sx_RP.callp (as2 := [.ref 0, .int (-1000000006)]) (rest2 := []) rfl rfl (sx_inv_v2 (mi := 118) (k := 78) (st := [.int (-1000000006), .ref 0]) (w := w) rfl rfl hI.1.o0 rfl rfl rfl) rfl rfl rfl (Q9_5 hI) (show _ = 60 from rfl) ?_
          rintro r4 w59 ⟨rfl, hI60, hE62⟩
          have hE61 := hE.tr (hE62.en)
          show sx_RP _ _ _ _ _ [.int (-1000000006)] _ _
          refine sx_RP.ret (r := (some (.int (-1000000006)))) rfl rfl ?_
          exact ⟨⟨_, rfl⟩, hI60, hE61⟩
