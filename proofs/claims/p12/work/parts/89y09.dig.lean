-- a night on both sides
theorem digR_of {l : List Int32} {g : Nat} {a b c : Int32} (e : digT l g = (a, b, c)) : digR l g = ((l.set (103 + 6 * g + 2) a).set (103 + 6 * g + 4) b).set (103 + 6 * g + 5) c := by
  unfold digR
  rw [e]
section SXDR
variable {l : List Int32} {g : Nat}
theorem dg_1 (hl : l.length = 172) (hg : g < 10) {a b c : Int32} (h2 : l.getD (103 + 6 * g + 2) 0 = a) (h4 : l.getD (103 + 6 * g + 4) 0 = b) (h5 : l.getD (103 + 6 * g + 5) 0 = c) : ((l.set (103 + 6 * g + 2) a).set (103 + 6 * g + 4) b).set (103 + 6 * g + 5) c = l := by
  rw [set_self9 (by omega) h2, set_self9 (by omega) h4, set_self9 (by omega) h5]
theorem dg_2 (hl : l.length = 172) (hg : g < 10) {a b c : Int32} (h2 : l.getD (103 + 6 * g + 2) 0 = a) (h4 : l.getD (103 + 6 * g + 4) 0 = b) : ((l.set (103 + 6 * g + 2) a).set (103 + 6 * g + 4) b).set (103 + 6 * g + 5) c = l.set (103 + 6 * g + 5) c := by
  rw [set_self9 (by omega) h2, set_self9 (by omega) h4]
theorem dg_3 {a b c : Int32} : ((l.set (103 + 6 * g + 2) a).set (103 + 6 * g + 4) b).set (103 + 6 * g + 5) c = ((l.set (103 + 6 * g + 4) b).set (103 + 6 * g + 2) a).set (103 + 6 * g + 5) c := by
  rw [List.set_comm _ _ (show 103 + 6 * g + 2 ≠ 103 + 6 * g + 4 by omega)]
theorem dg_4 (hl : l.length = 172) (hg : g < 10) {a b c : Int32} (h2 : l.getD (103 + 6 * g + 2) 0 = a) (h5 : l.getD (103 + 6 * g + 5) 0 = c) : ((l.set (103 + 6 * g + 2) a).set (103 + 6 * g + 4) b).set (103 + 6 * g + 5) c = l.set (103 + 6 * g + 4) b := by
  rw [set_self9 (by omega) h2, set_self9 (by rw [List.length_set]; omega) (by rw [gd_ne (by omega)]; exact h5)]
end SXDR
/-- the wall's numbers are 0 or 1 -/
def WB (l : List Int32) : Prop := ∀ c, c < 48 → ∃ b, b < 2 ∧ l.getD (55 + c) 0 = nI b
theorem rel.wb {w : List sx_C} {A : Nat} {l : List Int32} (h : rel w A l) : WB l := by
  intro c hc
  rw [← h.w48 hc]
  cases bitL (fj w A 1) c
  · exact ⟨0, by decide, rfl⟩
  · exact ⟨1, by decide, rfl⟩
theorem tmV_pos : ∀ k, k < 6 → ∀ s, s < 4 → ∀ b, b < 2 → ¬ tmV k s (nI b) < 0 := by decide +kernel
theorem m1_lt : (-1 : Int32) < 0 := by decide
set_option maxRecDepth 20000 in
set_option maxHeartbeats 4000000 in
theorem X44g {xs : Option (List Int32)} {d : Nat} {w : List sx_C} (hI : WI w) {A ga k h y : Nat} (hA : isA A) (hg : gAd ga) (hd : ga < A ∨ A + 4 ≤ ga) (hk : k ≤ 5) (hh : h < 48) (hy : y ≤ 3) (e0 : fi w ga 0 = nI k) (e2 : fi w ga 2 = nI h) (e3 : fi w ga 3 = nI y) : sx_RP xs (d + 3) 44 0 (lv_args 0 [.ref A, .ref ga]) [] w (fun r w2 => (r = none ∧ fi w2 ga 2 = (dgT (fun c => (ia w (A + 1)).getD c 0) (fun c => b01 (bitL (fj w A 1) c)) k h y (fi w ga 4) (fi w ga 5)).1 ∧ fi w2 ga 4 = (dgT (fun c => (ia w (A + 1)).getD c 0) (fun c => b01 (bitL (fj w A 1) c)) k h y (fi w ga 4) (fi w ga 5)).2.1 ∧ fi w2 ga 5 = (dgT (fun c => (ia w (A + 1)).getD c 0) (fun c => b01 (bitL (fj w A 1) c)) k h y (fi w ga 4) (fi w ga 5)).2.2 ∧ fi w2 ga 0 = nI k ∧ fi w2 ga 3 = nI y ∧ fi w2 ga 1 = fi w ga 1) ∧ WI w2 ∧ Same ga w w2) := by
  refine sx_RP.step (pc2 := 1) (ls2 := [(0, .ref A), (1, .ref ga)]) (st2 := [.ref ga]) (w3 := w) rfl rfl ?_
  refine sx_RP.gg (k := 2) hI hg rfl rfl (by decide) (show _ = 4 from rfl) ?_
  rw [e2]
  refine sx_RP.step (pc2 := 5) (ls2 := [(0, .ref A), (1, .ref ga)]) (st2 := [.ref ga, .int (nI h)]) (w3 := w) rfl rfl ?_
  refine sx_RP.gg (k := 3) hI hg rfl rfl (by decide) (show _ = 8 from rfl) ?_
  rw [e3]
  rcases bsd_or hh (show y < 4 by omega) with hb | ⟨t, ht, hb⟩
  · refine sx_RP.cu (as := [.int (nI h), .int (nI y)]) (rest2 := []) (st3 := [.int (-1)]) rfl rfl rfl rfl rfl (cb20e hh (by omega) hb) rfl ?_
    refine sx_RP.step (pc2 := 12) (ls2 := [(2, .int (-1)), (0, .ref A), (1, .ref ga)]) (st2 := []) (w3 := w) rfl rfl ?_
    refine sx_RP.step (pc2 := 13) (ls2 := [(2, .int (-1)), (0, .ref A), (1, .ref ga)]) (st2 := [.int (-1)]) (w3 := w) rfl rfl ?_
    refine sx_RP.step (pc2 := 14) (ls2 := [(2, .int (-1)), (0, .ref A), (1, .ref ga)]) (st2 := [.int (-1), .int (-1)]) (w3 := w) rfl rfl ?_
    refine sx_RP.step (pc2 := 17) (ls2 := [(2, .int (-1)), (0, .ref A), (1, .ref ga)]) (st2 := []) (w3 := w) rfl rfl ?_
    refine sx_RP.ret (r := none) rfl rfl ?_
    have eT : dgT (fun c => (ia w (A + 1)).getD c 0) (fun c => b01 (bitL (fj w A 1) c)) k h y (fi w ga 4) (fi w ga 5) = _ := dgT_1 hb
    rw [eT]
    exact ⟨⟨rfl, e2, rfl, rfl, e0, e3, rfl⟩, hI, fun b hb => rfl⟩
  · refine sx_RP.cu (as := [.int (nI h), .int (nI y)]) (rest2 := []) (st3 := [.int (nI t)]) rfl rfl rfl rfl rfl (cb20e hh (by omega) hb) rfl ?_
    refine sx_RP.step (pc2 := 12) (ls2 := [(2, .int (nI t)), (0, .ref A), (1, .ref ga)]) (st2 := []) (w3 := w) rfl rfl ?_
    refine sx_RP.step (pc2 := 13) (ls2 := [(2, .int (nI t)), (0, .ref A), (1, .ref ga)]) (st2 := [.int (nI t)]) (w3 := w) rfl rfl ?_
    refine sx_RP.step (pc2 := 14) (ls2 := [(2, .int (nI t)), (0, .ref A), (1, .ref ga)]) (st2 := [.int (-1), .int (nI t)]) (w3 := w) rfl rfl ?_
    refine sx_RP.br (p1 := 18) (l1 := [(2, .int (nI t)), (0, .ref A), (1, .ref ga)]) (s1 := []) (v1 := w) rfl rfl (fun _ => ?_) (fun q => absurd (nI_ne1 (by omega)) (of_decide_eq_false q))
    refine sx_RP.step (pc2 := 19) (ls2 := [(2, .int (nI t)), (0, .ref A), (1, .ref ga)]) (st2 := [.ref A]) (w3 := w) rfl rfl ?_
    refine sx_RP.gref (k := 0) (b := A + 1) hI hA rfl rfl (by omega) (show _ = 22 from rfl) ?_
    refine sx_RP.step (pc2 := 23) (ls2 := [(2, .int (nI t)), (0, .ref A), (1, .ref ga)]) (st2 := [.int (nI t), .ref (A + 1)]) (w3 := w) rfl rfl ?_
    refine sx_RP.ild (c := t) rfl (hI.1.aS hA).1 (hI.1.aS hA).2 (sx_in_nI (show t < 48 by omega) (by decide)) (show (nI t).toNatClampNeg = t from nI_clamp (by omega)) (show _ = 24 from rfl) ?_
    obtain ⟨x1, hx2, ex3⟩ : inR ((ia w (A + 1)).getD t 0) 3 := hI.st hA (show t < 48 by omega)
    rw [ex3]
    refine sx_RP.step (pc2 := 25) (ls2 := [(2, .int (nI t)), (0, .ref A), (1, .ref ga)]) (st2 := [.int 3, .int (nI x1)]) (w3 := w) rfl rfl ?_
    refine sx_RP.br (p1 := 34) (l1 := [(2, .int (nI t)), (0, .ref A), (1, .ref ga)]) (s1 := []) (v1 := w) (p2 := 28) (l2 := [(2, .int (nI t)), (0, .ref A), (1, .ref ga)]) (s2 := []) (v2 := w) rfl rfl (fun q4 => ?_) (fun q4 => ?_)
    · replace q4 := of_decide_eq_true q4
      replace q4 := mt (nI_eq (a := x1) (b := 3) (by omega) (by omega)).mpr q4
      refine sx_RP.step (pc2 := 35) (ls2 := [(2, .int (nI t)), (0, .ref A), (1, .ref ga)]) (st2 := [.ref ga]) (w3 := w) rfl rfl ?_
      refine sx_RP.step (pc2 := 36) (ls2 := [(2, .int (nI t)), (0, .ref A), (1, .ref ga)]) (st2 := [.ref ga, .ref ga]) (w3 := w) rfl rfl ?_
      refine sx_RP.gg (k := 4) hI hg rfl rfl (by decide) (show _ = 39 from rfl) ?_
      refine sx_RP.step (pc2 := 40) (ls2 := [(2, .int (nI t)), (0, .ref A), (1, .ref ga)]) (st2 := [.int 1, .int (fi w ga 4), .ref ga]) (w3 := w) rfl rfl ?_
      refine sx_RP.step (pc2 := 41) (ls2 := [(2, .int (nI t)), (0, .ref A), (1, .ref ga)]) (st2 := [.int ((fi w ga 4) + 1), .ref ga]) (w3 := w) rfl rfl ?_
      refine sx_RP.xG (k := 4) hI hg rfl rfl (by decide) rfl trivial (show _ = 44 from rfl) (fun w5 hI6 hs7 hv8 hr9 => ?_)
      have ex10 := (hr9 0 (by decide)).trans e0
      have ex11 := (hr9 2 (by decide)).trans e2
      have ex12 := (hr9 3 (by decide)).trans e3
      refine sx_RP.step (pc2 := 45) (ls2 := [(2, .int (nI t)), (0, .ref A), (1, .ref ga)]) (st2 := [.ref ga]) (w3 := w5) rfl rfl ?_
      refine sx_RP.gg (k := 4) hI6 hg rfl rfl (by decide) (show _ = 48 from rfl) ?_
      rw [hv8]
      refine sx_RP.step (pc2 := 49) (ls2 := [(2, .int (nI t)), (0, .ref A), (1, .ref ga)]) (st2 := [.ref A, .int ((fi w ga 4) + 1)]) (w3 := w5) rfl rfl ?_
      refine sx_RP.step (pc2 := 50) (ls2 := [(2, .int (nI t)), (0, .ref A), (1, .ref ga)]) (st2 := [.ref ga, .ref A, .int ((fi w ga 4) + 1)]) (w3 := w5) rfl rfl ?_
      refine sx_RP.gg (k := 0) hI6 hg rfl rfl (by decide) (show _ = 53 from rfl) ?_
      rw [ex10]
      refine sx_RP.step (pc2 := 54) (ls2 := [(2, .int (nI t)), (0, .ref A), (1, .ref ga)]) (st2 := [.int (nI t), .int (nI k), .ref A, .int ((fi w ga 4) + 1)]) (w3 := w5) rfl rfl ?_
      refine sx_RP.cu (as := [.ref A, .int (nI k), .int (nI t)]) (rest2 := [.int ((fi w ga 4) + 1)]) (st3 := [.int (tmV k (iN ((ia w5 (A + 1)).getD t 0)) (b01 (bitL (fj w5 A 1) t))), .int ((fi w ga 4) + 1)]) rfl rfl (sx_inv_v2 (mi := 44) (k := 119) (st := [.int (nI t), .int (nI k), .ref A, .int ((fi w ga 4) + 1)]) (w := w5) rfl rfl (hI6.1.oC hA) rfl rfl rfl) rfl rfl (x33 hI6 hA hk (show t < 48 by omega)) rfl ?_
      refine sx_RP.br (p1 := 91) (l1 := [(2, .int (nI t)), (0, .ref A), (1, .ref ga)]) (s1 := []) (v1 := w5) (p2 := 60) (l2 := [(2, .int (nI t)), (0, .ref A), (1, .ref ga)]) (s2 := []) (v2 := w5) rfl rfl (fun q13 => ?_) (fun q13 => ?_)
      · replace q13 := of_decide_eq_true q13
        refine sx_RP.ret (r := none) rfl rfl ?_
        have eT : dgT (fun c => (ia w (A + 1)).getD c 0) (fun c => b01 (bitL (fj w A 1) c)) k h y (fi w ga 4) (fi w ga 5) = _ := dgT_4 hb ht ex3 (by omega) q4 (by have z := Int32.not_le.mpr q13; rw [show (ia w5 (A + 1)).getD t 0 = nI x1 from (congrArg (fun q => List.getD q t 0) (ia_of (hs7 (A + 1) (by omega)))).trans ex3, iN_n (by omega), fj_same 1 (hs7 A (by omega))] at z; exact z)
        rw [eT]
        exact ⟨⟨rfl, (hr9 2 (by decide)).trans (e2), hv8, (hr9 5 (by decide)).trans (rfl), (hr9 0 (by decide)).trans (e0), (hr9 3 (by decide)).trans (e3), (hr9 1 (by decide)).trans (rfl)⟩, hI6, fun b hb => (hs7 b hb).trans (rfl)⟩
      · replace q13 := of_decide_eq_false q13
        refine sx_RP.step (pc2 := 61) (ls2 := [(2, .int (nI t)), (0, .ref A), (1, .ref ga)]) (st2 := [.ref ga]) (w3 := w5) rfl rfl ?_
        refine sx_RP.step (pc2 := 62) (ls2 := [(2, .int (nI t)), (0, .ref A), (1, .ref ga)]) (st2 := [.int (nI t), .ref ga]) (w3 := w5) rfl rfl ?_
        refine sx_RP.xG (k := 2) hI6 hg rfl rfl (by decide) rfl (inR.n (show t ≤ 47 by omega)) (show _ = 65 from rfl) (fun w14 hI15 hs16 hv17 hr18 => ?_)
        have ex19 := (hr18 0 (by decide)).trans ex10
        have ex20 := (hr18 3 (by decide)).trans ex12
        have ex21 := (hr18 4 (by decide)).trans hv8
        refine sx_RP.step (pc2 := 66) (ls2 := [(2, .int (nI t)), (0, .ref A), (1, .ref ga)]) (st2 := [.ref ga]) (w3 := w14) rfl rfl ?_
        refine sx_RP.step (pc2 := 67) (ls2 := [(2, .int (nI t)), (0, .ref A), (1, .ref ga)]) (st2 := [.int 0, .ref ga]) (w3 := w14) rfl rfl ?_
        refine sx_RP.xG (k := 4) hI15 hg rfl rfl (by decide) rfl trivial (show _ = 70 from rfl) (fun w22 hI23 hs24 hv25 hr26 => ?_)
        have ex27 := (hr26 0 (by decide)).trans ex19
        have ex28 := (hr26 3 (by decide)).trans ex20
        refine sx_RP.step (pc2 := 71) (ls2 := [(2, .int (nI t)), (0, .ref A), (1, .ref ga)]) (st2 := [.ref ga]) (w3 := w22) rfl rfl ?_
        refine sx_RP.step (pc2 := 72) (ls2 := [(2, .int (nI t)), (0, .ref A), (1, .ref ga)]) (st2 := [.ref A, .ref ga]) (w3 := w22) rfl rfl ?_
        refine sx_RP.step (pc2 := 73) (ls2 := [(2, .int (nI t)), (0, .ref A), (1, .ref ga)]) (st2 := [.ref ga, .ref A, .ref ga]) (w3 := w22) rfl rfl ?_
        refine sx_RP.gg (k := 0) hI23 hg rfl rfl (by decide) (show _ = 76 from rfl) ?_
        rw [ex27]
        refine sx_RP.step (pc2 := 77) (ls2 := [(2, .int (nI t)), (0, .ref A), (1, .ref ga)]) (st2 := [.int (nI t), .int (nI k), .ref A, .ref ga]) (w3 := w22) rfl rfl ?_
        rcases Bool.eq_false_or_eq_true (fmB k (iN ((ia w22 (A + 1)).getD t 0))) with hf | hf
        · refine sx_RP.cu (as := [.ref A, .int (nI k), .int (nI t)]) (rest2 := [.ref ga]) (st3 := [.int 1, .ref ga]) rfl rfl (sx_inv_v2 (mi := 44) (k := 103) (st := [.int (nI t), .int (nI k), .ref A, .ref ga]) (w := w22) rfl rfl (hI23.1.oC hA) rfl rfl rfl) rfl rfl ((by have z := x37 (xs := xs) (d := d) hI23 hA hk (show t < 48 by omega); rw [hf] at z; exact z)) rfl ?_
          refine sx_RP.step (pc2 := 87) (ls2 := [(2, .int (nI t)), (0, .ref A), (1, .ref ga)]) (st2 := [.ref ga]) (w3 := w22) rfl rfl ?_
          refine sx_RP.step (pc2 := 88) (ls2 := [(2, .int (nI t)), (0, .ref A), (1, .ref ga)]) (st2 := [.int 0, .ref ga]) (w3 := w22) rfl rfl ?_
          refine sx_RP.xG (k := 5) hI23 hg rfl rfl (by decide) rfl (show inR 0 1 from ⟨0, by decide, rfl⟩) (show _ = 91 from rfl) (fun w29 hI30 hs31 hv32 hr33 => ?_)
          have ex34 := (hr33 0 (by decide)).trans ex27
          have ex35 := (hr33 3 (by decide)).trans ex28
          have ex36 := (hr33 4 (by decide)).trans hv25
          refine sx_RP.ret (r := none) rfl rfl ?_
          have eT : dgT (fun c => (ia w (A + 1)).getD c 0) (fun c => b01 (bitL (fj w A 1) c)) k h y (fi w ga 4) (fi w ga 5) = _ := dgT_3 hb ht ex3 (by omega) q4 (by have z := Int32.not_lt.mp q13; rw [show (ia w5 (A + 1)).getD t 0 = nI x1 from (congrArg (fun q => List.getD q t 0) (ia_of (hs7 (A + 1) (by omega)))).trans ex3, iN_n (by omega), fj_same 1 (hs7 A (by omega))] at z; exact z)
          rw [eT]
          exact ⟨⟨rfl, (hr33 2 (by decide)).trans ((hr26 2 (by decide)).trans (hv17)), (hr33 4 (by decide)).trans (hv25), (hv32).trans (by rw [show fmB k x1 = true from by have z := hf; rw [show (ia w22 (A + 1)).getD t 0 = nI x1 from (congrArg (fun q => List.getD q t 0) ((ia_of (hs24 (A + 1) (by omega))).trans ((ia_of (hs16 (A + 1) (by omega))).trans (ia_of (hs7 (A + 1) (by omega)))))).trans ex3, iN_n (by omega)] at z; exact z]; rfl), (hr33 0 (by decide)).trans ((hr26 0 (by decide)).trans ((hr18 0 (by decide)).trans ((hr9 0 (by decide)).trans (e0)))), (hr33 3 (by decide)).trans ((hr26 3 (by decide)).trans ((hr18 3 (by decide)).trans ((hr9 3 (by decide)).trans (e3)))), (hr33 1 (by decide)).trans ((hr26 1 (by decide)).trans ((hr18 1 (by decide)).trans ((hr9 1 (by decide)).trans (rfl))))⟩, hI30, fun b hb => (hs31 b hb).trans ((hs24 b hb).trans ((hs16 b hb).trans ((hs7 b hb).trans (rfl))))⟩
        · refine sx_RP.cu (as := [.ref A, .int (nI k), .int (nI t)]) (rest2 := [.ref ga]) (st3 := [.int 0, .ref ga]) rfl rfl (sx_inv_v2 (mi := 44) (k := 103) (st := [.int (nI t), .int (nI k), .ref A, .ref ga]) (w := w22) rfl rfl (hI23.1.oC hA) rfl rfl rfl) rfl rfl ((by have z := x37 (xs := xs) (d := d) hI23 hA hk (show t < 48 by omega); rw [hf] at z; exact z)) rfl ?_
          refine sx_RP.step (pc2 := 83) (ls2 := [(2, .int (nI t)), (0, .ref A), (1, .ref ga)]) (st2 := [.ref ga]) (w3 := w22) rfl rfl ?_
          refine sx_RP.step (pc2 := 84) (ls2 := [(2, .int (nI t)), (0, .ref A), (1, .ref ga)]) (st2 := [.int 1, .ref ga]) (w3 := w22) rfl rfl ?_
          refine sx_RP.step (pc2 := 88) (ls2 := [(2, .int (nI t)), (0, .ref A), (1, .ref ga)]) (st2 := [.int 1, .ref ga]) (w3 := w22) rfl rfl ?_
          refine sx_RP.xG (k := 5) hI23 hg rfl rfl (by decide) rfl (show inR 1 1 from ⟨1, by decide, rfl⟩) (show _ = 91 from rfl) (fun w37 hI38 hs39 hv40 hr41 => ?_)
          have ex42 := (hr41 0 (by decide)).trans ex27
          have ex43 := (hr41 3 (by decide)).trans ex28
          have ex44 := (hr41 4 (by decide)).trans hv25
          refine sx_RP.ret (r := none) rfl rfl ?_
          have eT : dgT (fun c => (ia w (A + 1)).getD c 0) (fun c => b01 (bitL (fj w A 1) c)) k h y (fi w ga 4) (fi w ga 5) = _ := dgT_3 hb ht ex3 (by omega) q4 (by have z := Int32.not_lt.mp q13; rw [show (ia w5 (A + 1)).getD t 0 = nI x1 from (congrArg (fun q => List.getD q t 0) (ia_of (hs7 (A + 1) (by omega)))).trans ex3, iN_n (by omega), fj_same 1 (hs7 A (by omega))] at z; exact z)
          rw [eT]
          exact ⟨⟨rfl, (hr41 2 (by decide)).trans ((hr26 2 (by decide)).trans (hv17)), (hr41 4 (by decide)).trans (hv25), (hv40).trans (by rw [show fmB k x1 = false from by have z := hf; rw [show (ia w22 (A + 1)).getD t 0 = nI x1 from (congrArg (fun q => List.getD q t 0) ((ia_of (hs24 (A + 1) (by omega))).trans ((ia_of (hs16 (A + 1) (by omega))).trans (ia_of (hs7 (A + 1) (by omega)))))).trans ex3, iN_n (by omega)] at z; exact z]; rfl), (hr41 0 (by decide)).trans ((hr26 0 (by decide)).trans ((hr18 0 (by decide)).trans ((hr9 0 (by decide)).trans (e0)))), (hr41 3 (by decide)).trans ((hr26 3 (by decide)).trans ((hr18 3 (by decide)).trans ((hr9 3 (by decide)).trans (e3)))), (hr41 1 (by decide)).trans ((hr26 1 (by decide)).trans ((hr18 1 (by decide)).trans ((hr9 1 (by decide)).trans (rfl))))⟩, hI38, fun b hb => (hs39 b hb).trans ((hs24 b hb).trans ((hs16 b hb).trans ((hs7 b hb).trans (rfl))))⟩
    · replace q4 := Decidable.not_not.mp (of_decide_eq_false q4)
      replace q4 := (nI_eq (a := x1) (b := 3) (by omega) (by omega)).mp q4
      refine sx_RP.step (pc2 := 29) (ls2 := [(2, .int (nI t)), (0, .ref A), (1, .ref ga)]) (st2 := [.ref ga]) (w3 := w) rfl rfl ?_
      refine sx_RP.step (pc2 := 30) (ls2 := [(2, .int (nI t)), (0, .ref A), (1, .ref ga)]) (st2 := [.int 1, .ref ga]) (w3 := w) rfl rfl ?_
      refine sx_RP.xG (k := 5) hI hg rfl rfl (by decide) rfl (show inR 1 1 from ⟨1, by decide, rfl⟩) (show _ = 33 from rfl) (fun w45 hI46 hs47 hv48 hr49 => ?_)
      have ex50 := (hr49 0 (by decide)).trans e0
      have ex51 := (hr49 2 (by decide)).trans e2
      have ex52 := (hr49 3 (by decide)).trans e3
      refine sx_RP.ret (r := none) rfl rfl ?_
      have eT : dgT (fun c => (ia w (A + 1)).getD c 0) (fun c => b01 (bitL (fj w A 1) c)) k h y (fi w ga 4) (fi w ga 5) = _ := dgT_2 hb ht (by show (ia w (A + 1)).getD t 0 = 3; rw [ex3, q4]; rfl)
      rw [eT]
      exact ⟨⟨rfl, (hr49 2 (by decide)).trans (e2), (hr49 4 (by decide)).trans (rfl), hv48, (hr49 0 (by decide)).trans (e0), (hr49 3 (by decide)).trans (e3), (hr49 1 (by decide)).trans (rfl)⟩, hI46, fun b hb => (hs47 b hb).trans (rfl)⟩
theorem X44 {xs : Option (List Int32)} {d : Nat} {w : List sx_C} (hI : WI w) {A i : Nat} {l : List Int32} (hA : isA A) (hR : rel w A l) (hi10 : i < 10) (hi : i < iN (l.getD 1 0)) : sx_RP xs (d + 3) 44 0 (lv_args 0 [.ref A, .ref (A + 4 + i)]) [] w (fun r w2 => (r = none ∧ rel w2 A (digR l i)) ∧ WI w2 ∧ Same (A + 4 + i) w w2) := by
  have hg : gAd (A + 4 + i) := gAd.of hA hi10
  obtain ⟨k, hk, e0⟩ : inR (fi w (A + 4 + i) 0) 5 := hI.gk (k := 0) hg (by decide)
  obtain ⟨h, hh, e2⟩ : inR (fi w (A + 4 + i) 2) 47 := hI.gk (k := 2) hg (by decide)
  obtain ⟨y, hy, e3⟩ : inR (fi w (A + 4 + i) 3) 3 := hI.gk (k := 3) hg (by decide)
  have r0 : gF l i 0 = nI k := (hR.ga hi (by decide)).symm.trans e0
  have r2 : gF l i 2 = nI h := (hR.ga hi (by decide)).symm.trans e2
  have r3 : gF l i 3 = nI y := (hR.ga hi (by decide)).symm.trans e3
  have r4 : gF l i 4 = fi w (A + 4 + i) 4 := (hR.ga hi (by decide)).symm
  have r5 : gF l i 5 = fi w (A + 4 + i) 5 := (hR.ga hi (by decide)).symm
  have eT : digT l i = dgT (fun c => (ia w (A + 1)).getD c 0) (fun c => b01 (bitL (fj w A 1) c)) k h y (fi w (A + 4 + i) 4) (fi w (A + 4 + i) 5) := by
    unfold digT
    rw [r0, r2, r3, r4, r5, iN_n (by omega), iN_n (by omega), iN_n (by omega)]
    exact dgT_congr (by omega) (by omega) (fun c hc => (hR.gr hc).symm) (fun c hc => (hR.w48 hc).symm)
  refine (X44g hI hA hg (by omega) hk (by omega) hy e0 e2 e3).mono9 ?_
  rintro r w2 ⟨⟨h1, h2, h4, h5, h6, h7, h8⟩, h9, h10⟩
  refine ⟨⟨h1, ?_⟩, h9, h10⟩
  rw [digR_of (Prod.ext (by rw [eT]) (Prod.ext (by rw [eT]) (by rw [eT])) : digT l i = (_, _, _))]
  exact hR.s3 hi10 h10 h2 h4 h5 (fun k hk => by
    rcases hk with rfl | rfl | rfl
    · exact h6.trans e0.symm
    · exact h8
    · exact h7.trans e3.symm)
set_option maxRecDepth 20000 in
set_option maxHeartbeats 4000000 in
theorem X170 {xs : Option (List Int32)} {d : Nat} {w : List sx_C} (hI : WI w) {g : Nat} (hg : g < 10) (hW : WB (ia w 112)) : sx_RP xs (d + 3) 170 0 (lv_args 0 [.ref 111, .int (nI g)]) [] w (fun r w2 => (r = none ∧ ia w2 112 = digR (ia w 112) g) ∧ WI w2 ∧ Same 112 w w2) := by
  obtain ⟨k, hk, ek⟩ : inR ((ia w 112).getD (103 + 6 * g + 0) 0) 5 := (hI.s (103 + 6 * g + 0) (by omega)).2.2.2.1 (by omega)
  obtain ⟨h, hh, eh⟩ : inR ((ia w 112).getD (103 + 6 * g + 2) 0) 47 := (hI.s (103 + 6 * g + 2) (by omega)).2.2.2.2.2.1 (by omega)
  obtain ⟨y, hy, ey⟩ : inR ((ia w 112).getD (103 + 6 * g + 3) 0) 3 := (hI.s (103 + 6 * g + 3) (by omega)).2.2.2.2.2.2.1 (by omega)
  refine sx_RP.step (pc2 := 1) (ls2 := [(0, .ref 111), (1, .int (nI g))]) (st2 := [.ref 111]) (w3 := w) rfl rfl ?_
  refine sx_RP.step (pc2 := 2) (ls2 := [(0, .ref 111), (1, .int (nI g))]) (st2 := [.int (nI g), .ref 111]) (w3 := w) rfl rfl ?_
  refine sx_RP.step (pc2 := 3) (ls2 := [(0, .ref 111), (1, .int (nI g))]) (st2 := [.int 2, .int (nI g), .ref 111]) (w3 := w) rfl rfl ?_
  refine sx_RP.cu (as := [.ref 111, .int (nI g), .int 2]) (rest2 := []) (st3 := [.int (nI h)]) rfl rfl (sx_inv_v2 (mi := 170) (k := 59) (st := [.int 2, .int (nI g), .ref 111]) (w := w) rfl rfl hI.1.o111 rfl rfl rfl) rfl rfl (x138e hI hg (show 2 < 6 by decide) eh) rfl ?_
  refine sx_RP.step (pc2 := 7) (ls2 := [(0, .ref 111), (1, .int (nI g))]) (st2 := [.ref 111, .int (nI h)]) (w3 := w) rfl rfl ?_
  refine sx_RP.step (pc2 := 8) (ls2 := [(0, .ref 111), (1, .int (nI g))]) (st2 := [.int (nI g), .ref 111, .int (nI h)]) (w3 := w) rfl rfl ?_
  refine sx_RP.step (pc2 := 9) (ls2 := [(0, .ref 111), (1, .int (nI g))]) (st2 := [.int 3, .int (nI g), .ref 111, .int (nI h)]) (w3 := w) rfl rfl ?_
  refine sx_RP.cu (as := [.ref 111, .int (nI g), .int 3]) (rest2 := [.int (nI h)]) (st3 := [.int (nI y), .int (nI h)]) rfl rfl (sx_inv_v2 (mi := 170) (k := 59) (st := [.int 3, .int (nI g), .ref 111, .int (nI h)]) (w := w) rfl rfl hI.1.o111 rfl rfl rfl) rfl rfl (x138e hI hg (show 3 < 6 by decide) ey) rfl ?_
  rcases bsd_or (show h < 48 by omega) (show y < 4 by omega) with hb | ⟨t, ht, hb⟩
  · refine sx_RP.cu (as := [.int (nI h), .int (nI y)]) (rest2 := []) (st3 := [.int (-1)]) rfl rfl rfl rfl rfl (cb142e (by omega) (by omega) hb) rfl ?_
    refine sx_RP.step (pc2 := 16) (ls2 := [(2, .int (-1)), (0, .ref 111), (1, .int (nI g))]) (st2 := []) (w3 := w) rfl rfl ?_
    refine sx_RP.step (pc2 := 17) (ls2 := [(2, .int (-1)), (0, .ref 111), (1, .int (nI g))]) (st2 := [.int (-1)]) (w3 := w) rfl rfl ?_
    refine sx_RP.step (pc2 := 20) (ls2 := [(2, .int (-1)), (0, .ref 111), (1, .int (nI g))]) (st2 := []) (w3 := w) rfl rfl ?_
    refine sx_RP.ret (r := none) rfl rfl ?_
    have hl := hI.1.a112.2
    have e0 : digT (ia w 112) g = dgT (gdL (ia w 112)) (wlL (ia w 112)) k h y (gF (ia w 112) g 4) (gF (ia w 112) g 5) := by unfold digT gF; rw [ek, eh, ey, iN_n (by omega), iN_n (by omega), iN_n (by omega)]
    refine ⟨⟨rfl, ?_⟩, hI, Same.rf⟩
    rw [digR_of (e0.trans (dgT_1 hb))]
    exact (dg_1 hl hg eh rfl rfl).symm
  · refine sx_RP.cu (as := [.int (nI h), .int (nI y)]) (rest2 := []) (st3 := [.int (nI t)]) rfl rfl rfl rfl rfl (cb142e (by omega) (by omega) hb) rfl ?_
    refine sx_RP.step (pc2 := 16) (ls2 := [(2, .int (nI t)), (0, .ref 111), (1, .int (nI g))]) (st2 := []) (w3 := w) rfl rfl ?_
    refine sx_RP.step (pc2 := 17) (ls2 := [(2, .int (nI t)), (0, .ref 111), (1, .int (nI g))]) (st2 := [.int (nI t)]) (w3 := w) rfl rfl ?_
    refine sx_RP.br (p1 := 21) (l1 := [(2, .int (nI t)), (0, .ref 111), (1, .int (nI g))]) (s1 := []) (v1 := w) rfl rfl (fun _ => ?_) (fun q => absurd (nI_pos' (by omega)) (of_decide_eq_false q))
    refine sx_RP.step (pc2 := 22) (ls2 := [(2, .int (nI t)), (0, .ref 111), (1, .int (nI g))]) (st2 := [.ref 111]) (w3 := w) rfl rfl ?_
    refine sx_RP.step (pc2 := 23) (ls2 := [(2, .int (nI t)), (0, .ref 111), (1, .int (nI g))]) (st2 := [.int (nI g), .ref 111]) (w3 := w) rfl rfl ?_
    refine sx_RP.step (pc2 := 24) (ls2 := [(2, .int (nI t)), (0, .ref 111), (1, .int (nI g))]) (st2 := [.int (nI t), .int (nI g), .ref 111]) (w3 := w) rfl rfl ?_
    obtain ⟨s, hs, es⟩ : inR ((ia w 112).getD (7 + t) 0) 3 := (hI.s (7 + t) (by omega)).2.2.1 (by omega)
    obtain ⟨b, hb2, eb⟩ := hW t ht
    rcases Decidable.em (s = 3) with h3 | h3
    · refine sx_RP.cu (as := [.ref 111, .int (nI g), .int (nI t)]) (rest2 := []) (st3 := [.int (-1)]) rfl rfl (sx_inv_v2 (mi := 170) (k := 87) (st := [.int (nI t), .int (nI g), .ref 111]) (w := w) rfl rfl hI.1.o111 rfl rfl rfl) rfl rfl ((by have z := x147 (xs := xs) (d := d + 1) hI hg ht (by omega) ek (show s < 4 by omega) es; rw [if_pos h3] at z; exact z)) rfl ?_
      refine sx_RP.step (pc2 := 28) (ls2 := [(3, .int (-1)), (2, .int (nI t)), (0, .ref 111), (1, .int (nI g))]) (st2 := []) (w3 := w) rfl rfl ?_
      refine sx_RP.step (pc2 := 29) (ls2 := [(3, .int (-1)), (2, .int (nI t)), (0, .ref 111), (1, .int (nI g))]) (st2 := [.int (-1)]) (w3 := w) rfl rfl ?_
      refine sx_RP.step (pc2 := 32) (ls2 := [(3, .int (-1)), (2, .int (nI t)), (0, .ref 111), (1, .int (nI g))]) (st2 := []) (w3 := w) rfl rfl ?_
      refine sx_RP.step (pc2 := 33) (ls2 := [(3, .int (-1)), (2, .int (nI t)), (0, .ref 111), (1, .int (nI g))]) (st2 := [.ref 111]) (w3 := w) rfl rfl ?_
      refine sx_RP.step (pc2 := 34) (ls2 := [(3, .int (-1)), (2, .int (nI t)), (0, .ref 111), (1, .int (nI g))]) (st2 := [.int (nI g), .ref 111]) (w3 := w) rfl rfl ?_
      refine sx_RP.step (pc2 := 35) (ls2 := [(3, .int (-1)), (2, .int (nI t)), (0, .ref 111), (1, .int (nI g))]) (st2 := [.int 5, .int (nI g), .ref 111]) (w3 := w) rfl rfl ?_
      refine sx_RP.step (pc2 := 36) (ls2 := [(3, .int (-1)), (2, .int (nI t)), (0, .ref 111), (1, .int (nI g))]) (st2 := [.int 1, .int 5, .int (nI g), .ref 111]) (w3 := w) rfl rfl ?_
      refine sx_RP.callp (as2 := [.ref 111, .int (nI g), .int 5, .int 1]) (rest2 := []) rfl rfl (sx_inv_v2 (mi := 170) (k := 110) (st := [.int 1, .int 5, .int (nI g), .ref 111]) (w := w) rfl rfl hI.1.o111 rfl rfl rfl) rfl rfl rfl (X154 (c := 5) hI (show g < 10 by omega) (by decide) (eOK_g (g := g) (c := 5) (by omega) (by decide) (show inR 1 1 from ⟨1, by decide, rfl⟩))) (show _ = 39 from rfl) ?_
      rintro r4 w3 ⟨⟨rfl, hv1⟩, hI4, hs2⟩
      show sx_RP _ _ _ _ _ [.int ((ia w 112).getD (103 + 6 * g + 5) 0)] _ _
      refine sx_RP.step (pc2 := 40) (ls2 := [(3, .int (-1)), (2, .int (nI t)), (0, .ref 111), (1, .int (nI g))]) (st2 := []) (w3 := w3) rfl rfl ?_
      refine sx_RP.ret (r := none) rfl rfl ?_
      have hl := hI.1.a112.2
      have e0 : digT (ia w 112) g = dgT (gdL (ia w 112)) (wlL (ia w 112)) k h y (gF (ia w 112) g 4) (gF (ia w 112) g 5) := by unfold digT gF; rw [ek, eh, ey, iN_n (by omega), iN_n (by omega), iN_n (by omega)]
      refine ⟨⟨rfl, ?_⟩, hI4, (Same.tr Same.rf hs2)⟩
      rw [digR_of (e0.trans (dgT_2 hb ht (es.trans (by rw [h3]; rfl)))), hv1]
      exact (dg_2 hl hg eh rfl).symm
    · refine sx_RP.cu (as := [.ref 111, .int (nI g), .int (nI t)]) (rest2 := []) (st3 := [.int (tmV k s (nI b))]) rfl rfl (sx_inv_v2 (mi := 170) (k := 87) (st := [.int (nI t), .int (nI g), .ref 111]) (w := w) rfl rfl hI.1.o111 rfl rfl rfl) rfl rfl ((by have z := x147 (xs := xs) (d := d + 1) hI hg ht (by omega) ek (show s < 4 by omega) es; rw [if_neg h3, eb] at z; exact z)) rfl ?_
      refine sx_RP.step (pc2 := 28) (ls2 := [(3, .int (tmV k s (nI b))), (2, .int (nI t)), (0, .ref 111), (1, .int (nI g))]) (st2 := []) (w3 := w) rfl rfl ?_
      refine sx_RP.step (pc2 := 29) (ls2 := [(3, .int (tmV k s (nI b))), (2, .int (nI t)), (0, .ref 111), (1, .int (nI g))]) (st2 := [.int (tmV k s (nI b))]) (w3 := w) rfl rfl ?_
      refine sx_RP.br (p1 := 41) (l1 := [(3, .int (tmV k s (nI b))), (2, .int (nI t)), (0, .ref 111), (1, .int (nI g))]) (s1 := []) (v1 := w) rfl rfl (fun _ => ?_) (fun q => absurd (Int32.not_lt.mp (tmV_pos k (by omega) s (by omega) b hb2)) (of_decide_eq_false q))
      refine sx_RP.step (pc2 := 42) (ls2 := [(3, .int (tmV k s (nI b))), (2, .int (nI t)), (0, .ref 111), (1, .int (nI g))]) (st2 := [.ref 111]) (w3 := w) rfl rfl ?_
      refine sx_RP.step (pc2 := 43) (ls2 := [(3, .int (tmV k s (nI b))), (2, .int (nI t)), (0, .ref 111), (1, .int (nI g))]) (st2 := [.int (nI g), .ref 111]) (w3 := w) rfl rfl ?_
      refine sx_RP.step (pc2 := 44) (ls2 := [(3, .int (tmV k s (nI b))), (2, .int (nI t)), (0, .ref 111), (1, .int (nI g))]) (st2 := [.int 4, .int (nI g), .ref 111]) (w3 := w) rfl rfl ?_
      refine sx_RP.cu (as := [.ref 111, .int (nI g), .int 4]) (rest2 := []) (st3 := [.int ((ia w 112).getD (103 + 6 * g + 4) 0)]) rfl rfl (sx_inv_v2 (mi := 170) (k := 59) (st := [.int 4, .int (nI g), .ref 111]) (w := w) rfl rfl hI.1.o111 rfl rfl rfl) rfl rfl (x138 hI hg (show 4 < 6 by decide)) rfl ?_
      refine sx_RP.step (pc2 := 48) (ls2 := [(3, .int (tmV k s (nI b))), (2, .int (nI t)), (0, .ref 111), (1, .int (nI g))]) (st2 := [.int 1, .int ((ia w 112).getD (103 + 6 * g + 4) 0)]) (w3 := w) rfl rfl ?_
      refine sx_RP.step (pc2 := 49) (ls2 := [(3, .int (tmV k s (nI b))), (2, .int (nI t)), (0, .ref 111), (1, .int (nI g))]) (st2 := [.int (((ia w 112).getD (103 + 6 * g + 4) 0) + 1)]) (w3 := w) rfl rfl ?_
      refine sx_RP.step (pc2 := 51) (ls2 := [(4, .int (((ia w 112).getD (103 + 6 * g + 4) 0) + 1)), (3, .int (tmV k s (nI b))), (2, .int (nI t)), (0, .ref 111), (1, .int (nI g))]) (st2 := []) (w3 := w) rfl rfl ?_
      refine sx_RP.step (pc2 := 52) (ls2 := [(4, .int (((ia w 112).getD (103 + 6 * g + 4) 0) + 1)), (3, .int (tmV k s (nI b))), (2, .int (nI t)), (0, .ref 111), (1, .int (nI g))]) (st2 := [.ref 111]) (w3 := w) rfl rfl ?_
      refine sx_RP.step (pc2 := 53) (ls2 := [(4, .int (((ia w 112).getD (103 + 6 * g + 4) 0) + 1)), (3, .int (tmV k s (nI b))), (2, .int (nI t)), (0, .ref 111), (1, .int (nI g))]) (st2 := [.int (nI g), .ref 111]) (w3 := w) rfl rfl ?_
      refine sx_RP.step (pc2 := 54) (ls2 := [(4, .int (((ia w 112).getD (103 + 6 * g + 4) 0) + 1)), (3, .int (tmV k s (nI b))), (2, .int (nI t)), (0, .ref 111), (1, .int (nI g))]) (st2 := [.int 4, .int (nI g), .ref 111]) (w3 := w) rfl rfl ?_
      refine sx_RP.step (pc2 := 56) (ls2 := [(4, .int (((ia w 112).getD (103 + 6 * g + 4) 0) + 1)), (3, .int (tmV k s (nI b))), (2, .int (nI t)), (0, .ref 111), (1, .int (nI g))]) (st2 := [.int (((ia w 112).getD (103 + 6 * g + 4) 0) + 1), .int 4, .int (nI g), .ref 111]) (w3 := w) rfl rfl ?_
      refine sx_RP.step (pc2 := 57) (ls2 := [(4, .int (((ia w 112).getD (103 + 6 * g + 4) 0) + 1)), (3, .int (tmV k s (nI b))), (2, .int (nI t)), (0, .ref 111), (1, .int (nI g))]) (st2 := [.int (tmV k s (nI b)), .int (((ia w 112).getD (103 + 6 * g + 4) 0) + 1), .int 4, .int (nI g), .ref 111]) (w3 := w) rfl rfl ?_
      refine sx_RP.br (p1 := 64) (l1 := [(4, .int (((ia w 112).getD (103 + 6 * g + 4) 0) + 1)), (3, .int (tmV k s (nI b))), (2, .int (nI t)), (0, .ref 111), (1, .int (nI g))]) (s1 := [.int 4, .int (nI g), .ref 111]) (v1 := w) (p2 := 60) (l2 := [(4, .int (((ia w 112).getD (103 + 6 * g + 4) 0) + 1)), (3, .int (tmV k s (nI b))), (2, .int (nI t)), (0, .ref 111), (1, .int (nI g))]) (s2 := [.int 4, .int (nI g), .ref 111]) (v2 := w) rfl rfl (fun q5 => ?_) (fun q5 => ?_)
      · replace q5 := of_decide_eq_true q5
        refine sx_RP.step (pc2 := 66) (ls2 := [(4, .int (((ia w 112).getD (103 + 6 * g + 4) 0) + 1)), (3, .int (tmV k s (nI b))), (2, .int (nI t)), (0, .ref 111), (1, .int (nI g))]) (st2 := [.int (((ia w 112).getD (103 + 6 * g + 4) 0) + 1), .int 4, .int (nI g), .ref 111]) (w3 := w) rfl rfl ?_
        refine sx_RP.callp (as2 := [.ref 111, .int (nI g), .int 4, .int (((ia w 112).getD (103 + 6 * g + 4) 0) + 1)]) (rest2 := []) rfl rfl (sx_inv_v2 (mi := 170) (k := 110) (st := [.int (((ia w 112).getD (103 + 6 * g + 4) 0) + 1), .int 4, .int (nI g), .ref 111]) (w := w) rfl rfl hI.1.o111 rfl rfl rfl) rfl rfl rfl (X154 (c := 4) hI (show g < 10 by omega) (by decide) (eOK_g (g := g) (c := 4) (by omega) (by decide) trivial)) (show _ = 69 from rfl) ?_
        rintro r4 w8 ⟨⟨rfl, hv6⟩, hI9, hs7⟩
        show sx_RP _ _ _ _ _ [.int ((ia w 112).getD (103 + 6 * g + 4) 0)] _ _
        refine sx_RP.step (pc2 := 70) (ls2 := [(4, .int (((ia w 112).getD (103 + 6 * g + 4) 0) + 1)), (3, .int (tmV k s (nI b))), (2, .int (nI t)), (0, .ref 111), (1, .int (nI g))]) (st2 := []) (w3 := w8) rfl rfl ?_
        refine sx_RP.step (pc2 := 72) (ls2 := [(4, .int (((ia w 112).getD (103 + 6 * g + 4) 0) + 1)), (3, .int (tmV k s (nI b))), (2, .int (nI t)), (0, .ref 111), (1, .int (nI g))]) (st2 := [.int (((ia w 112).getD (103 + 6 * g + 4) 0) + 1)]) (w3 := w8) rfl rfl ?_
        refine sx_RP.step (pc2 := 73) (ls2 := [(4, .int (((ia w 112).getD (103 + 6 * g + 4) 0) + 1)), (3, .int (tmV k s (nI b))), (2, .int (nI t)), (0, .ref 111), (1, .int (nI g))]) (st2 := [.int (tmV k s (nI b)), .int (((ia w 112).getD (103 + 6 * g + 4) 0) + 1)]) (w3 := w8) rfl rfl ?_
        refine sx_RP.br (p1 := 105) (l1 := [(4, .int (((ia w 112).getD (103 + 6 * g + 4) 0) + 1)), (3, .int (tmV k s (nI b))), (2, .int (nI t)), (0, .ref 111), (1, .int (nI g))]) (s1 := []) (v1 := w8) rfl rfl (fun _ => ?_) (fun q => absurd q5 (of_decide_eq_false q))
        refine sx_RP.ret (r := none) rfl rfl ?_
        have hl := hI.1.a112.2
        have e0 : digT (ia w 112) g = dgT (gdL (ia w 112)) (wlL (ia w 112)) k h y (gF (ia w 112) g 4) (gF (ia w 112) g 5) := by unfold digT gF; rw [ek, eh, ey, iN_n (by omega), iN_n (by omega), iN_n (by omega)]
        refine ⟨⟨rfl, ?_⟩, hI9, (Same.tr Same.rf hs7)⟩
        rw [digR_of (e0.trans (dgT_4 hb ht es (by omega) h3 (by show ¬ tmV k s ((ia w 112).getD (55 + t) 0) ≤ _; rw [eb]; exact Int32.not_le.mpr q5))), hv6]
        exact (dg_4 hl hg eh rfl).symm
      · replace q5 := of_decide_eq_false q5
        refine sx_RP.step (pc2 := 61) (ls2 := [(4, .int (((ia w 112).getD (103 + 6 * g + 4) 0) + 1)), (3, .int (tmV k s (nI b))), (2, .int (nI t)), (0, .ref 111), (1, .int (nI g))]) (st2 := [.int 0, .int 4, .int (nI g), .ref 111]) (w3 := w) rfl rfl ?_
        refine sx_RP.step (pc2 := 66) (ls2 := [(4, .int (((ia w 112).getD (103 + 6 * g + 4) 0) + 1)), (3, .int (tmV k s (nI b))), (2, .int (nI t)), (0, .ref 111), (1, .int (nI g))]) (st2 := [.int 0, .int 4, .int (nI g), .ref 111]) (w3 := w) rfl rfl ?_
        refine sx_RP.callp (as2 := [.ref 111, .int (nI g), .int 4, .int 0]) (rest2 := []) rfl rfl (sx_inv_v2 (mi := 170) (k := 110) (st := [.int 0, .int 4, .int (nI g), .ref 111]) (w := w) rfl rfl hI.1.o111 rfl rfl rfl) rfl rfl rfl (X154 (c := 4) hI (show g < 10 by omega) (by decide) (eOK_g (g := g) (c := 4) (by omega) (by decide) trivial)) (show _ = 69 from rfl) ?_
        rintro r4 w12 ⟨⟨rfl, hv10⟩, hI13, hs11⟩
        show sx_RP _ _ _ _ _ [.int ((ia w 112).getD (103 + 6 * g + 4) 0)] _ _
        refine sx_RP.step (pc2 := 70) (ls2 := [(4, .int (((ia w 112).getD (103 + 6 * g + 4) 0) + 1)), (3, .int (tmV k s (nI b))), (2, .int (nI t)), (0, .ref 111), (1, .int (nI g))]) (st2 := []) (w3 := w12) rfl rfl ?_
        refine sx_RP.step (pc2 := 72) (ls2 := [(4, .int (((ia w 112).getD (103 + 6 * g + 4) 0) + 1)), (3, .int (tmV k s (nI b))), (2, .int (nI t)), (0, .ref 111), (1, .int (nI g))]) (st2 := [.int (((ia w 112).getD (103 + 6 * g + 4) 0) + 1)]) (w3 := w12) rfl rfl ?_
        refine sx_RP.step (pc2 := 73) (ls2 := [(4, .int (((ia w 112).getD (103 + 6 * g + 4) 0) + 1)), (3, .int (tmV k s (nI b))), (2, .int (nI t)), (0, .ref 111), (1, .int (nI g))]) (st2 := [.int (tmV k s (nI b)), .int (((ia w 112).getD (103 + 6 * g + 4) 0) + 1)]) (w3 := w12) rfl rfl ?_
        refine sx_RP.br (p2 := 76) (l2 := [(4, .int (((ia w 112).getD (103 + 6 * g + 4) 0) + 1)), (3, .int (tmV k s (nI b))), (2, .int (nI t)), (0, .ref 111), (1, .int (nI g))]) (s2 := []) (v2 := w12) rfl rfl (fun q => absurd (of_decide_eq_true q) q5) (fun _ => ?_)
        refine sx_RP.step (pc2 := 77) (ls2 := [(4, .int (((ia w 112).getD (103 + 6 * g + 4) 0) + 1)), (3, .int (tmV k s (nI b))), (2, .int (nI t)), (0, .ref 111), (1, .int (nI g))]) (st2 := [.ref 111]) (w3 := w12) rfl rfl ?_
        refine sx_RP.step (pc2 := 78) (ls2 := [(4, .int (((ia w 112).getD (103 + 6 * g + 4) 0) + 1)), (3, .int (tmV k s (nI b))), (2, .int (nI t)), (0, .ref 111), (1, .int (nI g))]) (st2 := [.int (nI g), .ref 111]) (w3 := w12) rfl rfl ?_
        refine sx_RP.step (pc2 := 79) (ls2 := [(4, .int (((ia w 112).getD (103 + 6 * g + 4) 0) + 1)), (3, .int (tmV k s (nI b))), (2, .int (nI t)), (0, .ref 111), (1, .int (nI g))]) (st2 := [.int 2, .int (nI g), .ref 111]) (w3 := w12) rfl rfl ?_
        refine sx_RP.step (pc2 := 80) (ls2 := [(4, .int (((ia w 112).getD (103 + 6 * g + 4) 0) + 1)), (3, .int (tmV k s (nI b))), (2, .int (nI t)), (0, .ref 111), (1, .int (nI g))]) (st2 := [.int (nI t), .int 2, .int (nI g), .ref 111]) (w3 := w12) rfl rfl ?_
        refine sx_RP.callp (as2 := [.ref 111, .int (nI g), .int 2, .int (nI t)]) (rest2 := []) rfl rfl (sx_inv_v2 (mi := 170) (k := 110) (st := [.int (nI t), .int 2, .int (nI g), .ref 111]) (w := w12) rfl rfl hI13.1.o111 rfl rfl rfl) rfl rfl rfl (X154 (c := 2) hI13 (show g < 10 by omega) (by decide) (eOK_g (g := g) (c := 2) (by omega) (by decide) (inR.n (show t ≤ 47 by omega)))) (show _ = 83 from rfl) ?_
        rintro r4 w16 ⟨⟨rfl, hv14⟩, hI17, hs15⟩
        show sx_RP _ _ _ _ _ [.int ((ia w12 112).getD (103 + 6 * g + 2) 0)] _ _
        refine sx_RP.step (pc2 := 84) (ls2 := [(4, .int (((ia w 112).getD (103 + 6 * g + 4) 0) + 1)), (3, .int (tmV k s (nI b))), (2, .int (nI t)), (0, .ref 111), (1, .int (nI g))]) (st2 := []) (w3 := w16) rfl rfl ?_
        refine sx_RP.step (pc2 := 85) (ls2 := [(4, .int (((ia w 112).getD (103 + 6 * g + 4) 0) + 1)), (3, .int (tmV k s (nI b))), (2, .int (nI t)), (0, .ref 111), (1, .int (nI g))]) (st2 := [.ref 111]) (w3 := w16) rfl rfl ?_
        refine sx_RP.step (pc2 := 86) (ls2 := [(4, .int (((ia w 112).getD (103 + 6 * g + 4) 0) + 1)), (3, .int (tmV k s (nI b))), (2, .int (nI t)), (0, .ref 111), (1, .int (nI g))]) (st2 := [.int (nI g), .ref 111]) (w3 := w16) rfl rfl ?_
        refine sx_RP.step (pc2 := 87) (ls2 := [(4, .int (((ia w 112).getD (103 + 6 * g + 4) 0) + 1)), (3, .int (tmV k s (nI b))), (2, .int (nI t)), (0, .ref 111), (1, .int (nI g))]) (st2 := [.int 5, .int (nI g), .ref 111]) (w3 := w16) rfl rfl ?_
        refine sx_RP.step (pc2 := 88) (ls2 := [(4, .int (((ia w 112).getD (103 + 6 * g + 4) 0) + 1)), (3, .int (tmV k s (nI b))), (2, .int (nI t)), (0, .ref 111), (1, .int (nI g))]) (st2 := [.ref 111, .int 5, .int (nI g), .ref 111]) (w3 := w16) rfl rfl ?_
        refine sx_RP.step (pc2 := 89) (ls2 := [(4, .int (((ia w 112).getD (103 + 6 * g + 4) 0) + 1)), (3, .int (tmV k s (nI b))), (2, .int (nI t)), (0, .ref 111), (1, .int (nI g))]) (st2 := [.int (nI g), .ref 111, .int 5, .int (nI g), .ref 111]) (w3 := w16) rfl rfl ?_
        refine sx_RP.step (pc2 := 90) (ls2 := [(4, .int (((ia w 112).getD (103 + 6 * g + 4) 0) + 1)), (3, .int (tmV k s (nI b))), (2, .int (nI t)), (0, .ref 111), (1, .int (nI g))]) (st2 := [.int (nI t), .int (nI g), .ref 111, .int 5, .int (nI g), .ref 111]) (w3 := w16) rfl rfl ?_
        have ek9 : (ia w16 112).getD (103 + 6 * g + 0) 0 = nI k := by rw [hv14, hv10, gd_ne (by omega), gd_ne (by omega)]; exact ek
        have es9 : (ia w16 112).getD (7 + t) 0 = nI s := by rw [hv14, hv10, gd_ne (by omega), gd_ne (by omega)]; exact es
        rcases Bool.eq_false_or_eq_true (fmB k s) with hf | hf
        · refine sx_RP.cu (as := [.ref 111, .int (nI g), .int (nI t)]) (rest2 := [.int 5, .int (nI g), .ref 111]) (st3 := [.int 1, .int 5, .int (nI g), .ref 111]) rfl rfl (sx_inv_v2 (mi := 170) (k := 107) (st := [.int (nI t), .int (nI g), .ref 111, .int 5, .int (nI g), .ref 111]) (w := w16) rfl rfl hI17.1.o111 rfl rfl rfl) rfl rfl ((by have z := x144 (xs := xs) (d := d + 1) hI17 hg ht (by omega) ek9 (show s < 4 by omega) es9; rw [hf] at z; exact z)) rfl ?_
          refine sx_RP.step (pc2 := 96) (ls2 := [(4, .int (((ia w 112).getD (103 + 6 * g + 4) 0) + 1)), (3, .int (tmV k s (nI b))), (2, .int (nI t)), (0, .ref 111), (1, .int (nI g))]) (st2 := [.int 5, .int (nI g), .ref 111]) (w3 := w16) rfl rfl ?_
          refine sx_RP.step (pc2 := 97) (ls2 := [(4, .int (((ia w 112).getD (103 + 6 * g + 4) 0) + 1)), (3, .int (tmV k s (nI b))), (2, .int (nI t)), (0, .ref 111), (1, .int (nI g))]) (st2 := [.int 0, .int 5, .int (nI g), .ref 111]) (w3 := w16) rfl rfl ?_
          refine sx_RP.step (pc2 := 101) (ls2 := [(4, .int (((ia w 112).getD (103 + 6 * g + 4) 0) + 1)), (3, .int (tmV k s (nI b))), (2, .int (nI t)), (0, .ref 111), (1, .int (nI g))]) (st2 := [.int 0, .int 5, .int (nI g), .ref 111]) (w3 := w16) rfl rfl ?_
          refine sx_RP.callp (as2 := [.ref 111, .int (nI g), .int 5, .int 0]) (rest2 := []) rfl rfl (sx_inv_v2 (mi := 170) (k := 110) (st := [.int 0, .int 5, .int (nI g), .ref 111]) (w := w16) rfl rfl hI17.1.o111 rfl rfl rfl) rfl rfl rfl (X154 (c := 5) hI17 (show g < 10 by omega) (by decide) (eOK_g (g := g) (c := 5) (by omega) (by decide) (show inR 0 1 from ⟨0, by decide, rfl⟩))) (show _ = 104 from rfl) ?_
          rintro r4 w20 ⟨⟨rfl, hv18⟩, hI21, hs19⟩
          show sx_RP _ _ _ _ _ [.int ((ia w16 112).getD (103 + 6 * g + 5) 0)] _ _
          refine sx_RP.step (pc2 := 105) (ls2 := [(4, .int (((ia w 112).getD (103 + 6 * g + 4) 0) + 1)), (3, .int (tmV k s (nI b))), (2, .int (nI t)), (0, .ref 111), (1, .int (nI g))]) (st2 := []) (w3 := w20) rfl rfl ?_
          refine sx_RP.ret (r := none) rfl rfl ?_
          have hl := hI.1.a112.2
          have e0 : digT (ia w 112) g = dgT (gdL (ia w 112)) (wlL (ia w 112)) k h y (gF (ia w 112) g 4) (gF (ia w 112) g 5) := by unfold digT gF; rw [ek, eh, ey, iN_n (by omega), iN_n (by omega), iN_n (by omega)]
          refine ⟨⟨rfl, ?_⟩, hI21, (Same.tr (Same.tr (Same.tr Same.rf hs11) hs15) hs19)⟩
          rw [digR_of (e0.trans (dgT_3 hb ht es (by omega) h3 (by show tmV k s ((ia w 112).getD (55 + t) 0) ≤ _; rw [eb]; exact Int32.not_lt.mp q5))), hf, hv18, hv14, hv10]
          exact (dg_3).symm
        · refine sx_RP.cu (as := [.ref 111, .int (nI g), .int (nI t)]) (rest2 := [.int 5, .int (nI g), .ref 111]) (st3 := [.int 0, .int 5, .int (nI g), .ref 111]) rfl rfl (sx_inv_v2 (mi := 170) (k := 107) (st := [.int (nI t), .int (nI g), .ref 111, .int 5, .int (nI g), .ref 111]) (w := w16) rfl rfl hI17.1.o111 rfl rfl rfl) rfl rfl ((by have z := x144 (xs := xs) (d := d + 1) hI17 hg ht (by omega) ek9 (show s < 4 by omega) es9; rw [hf] at z; exact z)) rfl ?_
          refine sx_RP.step (pc2 := 100) (ls2 := [(4, .int (((ia w 112).getD (103 + 6 * g + 4) 0) + 1)), (3, .int (tmV k s (nI b))), (2, .int (nI t)), (0, .ref 111), (1, .int (nI g))]) (st2 := [.int 5, .int (nI g), .ref 111]) (w3 := w16) rfl rfl ?_
          refine sx_RP.step (pc2 := 101) (ls2 := [(4, .int (((ia w 112).getD (103 + 6 * g + 4) 0) + 1)), (3, .int (tmV k s (nI b))), (2, .int (nI t)), (0, .ref 111), (1, .int (nI g))]) (st2 := [.int 1, .int 5, .int (nI g), .ref 111]) (w3 := w16) rfl rfl ?_
          refine sx_RP.callp (as2 := [.ref 111, .int (nI g), .int 5, .int 1]) (rest2 := []) rfl rfl (sx_inv_v2 (mi := 170) (k := 110) (st := [.int 1, .int 5, .int (nI g), .ref 111]) (w := w16) rfl rfl hI17.1.o111 rfl rfl rfl) rfl rfl rfl (X154 (c := 5) hI17 (show g < 10 by omega) (by decide) (eOK_g (g := g) (c := 5) (by omega) (by decide) (show inR 1 1 from ⟨1, by decide, rfl⟩))) (show _ = 104 from rfl) ?_
          rintro r4 w24 ⟨⟨rfl, hv22⟩, hI25, hs23⟩
          show sx_RP _ _ _ _ _ [.int ((ia w16 112).getD (103 + 6 * g + 5) 0)] _ _
          refine sx_RP.step (pc2 := 105) (ls2 := [(4, .int (((ia w 112).getD (103 + 6 * g + 4) 0) + 1)), (3, .int (tmV k s (nI b))), (2, .int (nI t)), (0, .ref 111), (1, .int (nI g))]) (st2 := []) (w3 := w24) rfl rfl ?_
          refine sx_RP.ret (r := none) rfl rfl ?_
          have hl := hI.1.a112.2
          have e0 : digT (ia w 112) g = dgT (gdL (ia w 112)) (wlL (ia w 112)) k h y (gF (ia w 112) g 4) (gF (ia w 112) g 5) := by unfold digT gF; rw [ek, eh, ey, iN_n (by omega), iN_n (by omega), iN_n (by omega)]
          refine ⟨⟨rfl, ?_⟩, hI25, (Same.tr (Same.tr (Same.tr Same.rf hs11) hs15) hs23)⟩
          rw [digR_of (e0.trans (dgT_3 hb ht es (by omega) h3 (by show tmV k s ((ia w 112).getD (55 + t) 0) ≤ _; rw [eb]; exact Int32.not_lt.mp q5))), hf, hv22, hv14, hv10]
          exact (dg_3).symm
