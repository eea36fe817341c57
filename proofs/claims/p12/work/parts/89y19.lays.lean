-- lays
def okB (v : Int64) : Bool := !(decide (lg_cmp v 0 < 0)) && !(decide (0 < lg_cmp v 3))
theorem okB_y {v : Int64} (h1 : ¬ lg_cmp v 0 < 0) (h2 : ¬ 0 < lg_cmp v 3) : okB v = true := by
  unfold okB
  rw [decide_eq_false h1, decide_eq_false h2]
  rfl
theorem okB_1 {v : Int64} (h1 : lg_cmp v 0 < 0) : ¬ okB v = true := by
  unfold okB
  rw [decide_eq_true h1, Bool.not_true, Bool.false_and]
  decide
theorem okB_2 {v : Int64} (h1 : 0 < lg_cmp v 3) : ¬ okB v = true := by
  unfold okB
  rw [decide_eq_true h1, Bool.not_true, Bool.and_false]
  decide
def laL (N : Nat → Int64) (c : Nat) : Nat → Nat → List Int32 → Int32 → List Int32 × Int32
  | 0, _, l, n => (l, n)
  | q + 1, i, l, n => if okB (N i) = true then laL N c q (i + 1) (l.set (7 + (c + i)) (N i).toInt32) (n + 1) else laL N c q (i + 1) l n
def lysA (F : Nat → Int32 × Int32) (N : Nat → Nat → Int64) (l : List Int32) (a1 a2 : Int32) : Int32 := if 0 ≤ a1 ∧ a1 ≤ 3 then (if (F (iN a1)).1 = 0 then -1000000006 else (if 0 ≤ a2 ∧ a2 ≤ 47 then (laL (N (iN a1)) (iN a2) (min (iN (F (iN a1)).2) (48 - iN a2)) 0 l 0).2 else -1000000001)) else -1000000001
def lysR (F : Nat → Int32 × Int32) (N : Nat → Nat → Int64) (l : List Int32) (a1 a2 : Int32) : List Int32 := if 0 ≤ a1 ∧ a1 ≤ 3 then (if (F (iN a1)).1 = 0 then l else (if 0 ≤ a2 ∧ a2 ≤ 47 then (laL (N (iN a1)) (iN a2) (min (iN (F (iN a1)).2) (48 - iN a2)) 0 l 0).1 else l)) else l
section SXLY
variable {F : Nat → Int32 × Int32} {N : Nat → Nat → Int64} {l : List Int32} {a1 a2 b : Int32} {s c z : Nat}
theorem lys_1 (h : ¬ (0 ≤ a1 ∧ a1 ≤ 3)) : lysA F N l a1 a2 = -1000000001 ∧ lysR F N l a1 a2 = l := ⟨if_neg h, if_neg h⟩
theorem lys_2 {y : Int32} (hs : s < 4) (e : F s = (b, y)) (h : b = 0) : lysA F N l (nI s) a2 = -1000000006 ∧ lysR F N l (nI s) a2 = l := by
  unfold lysA lysR
  rw [iN_n (by omega), e, if_pos (cp_r hs), if_pos (cp_r hs), if_pos h, if_pos h]
  exact ⟨rfl, rfl⟩
theorem lys_3 {y : Int32} (hs : s < 4) (e : F s = (b, y)) (h : ¬ b = 0) (h2 : ¬ (0 ≤ a2 ∧ a2 ≤ 47)) : lysA F N l (nI s) a2 = -1000000001 ∧ lysR F N l (nI s) a2 = l := by
  unfold lysA lysR
  rw [iN_n (by omega), e, if_pos (cp_r hs), if_pos (cp_r hs), if_neg h, if_neg h, if_neg h2, if_neg h2]
  exact ⟨rfl, rfl⟩
theorem lys_4 (hs : s < 4) (hz : z ≤ 40) (e : F s = (b, nI z)) (h : ¬ b = 0) (hc : c < 48) : lysA F N l (nI s) (nI c) = (laL (N s) c (min z (48 - c)) 0 l 0).2 ∧ lysR F N l (nI s) (nI c) = (laL (N s) c (min z (48 - c)) 0 l 0).1 := by
  unfold lysA lysR
  rw [iN_n (by omega), e, if_pos (cp_r hs), if_pos (cp_r hs), if_neg h, if_neg h, iN_n (by omega), iN_n (by omega), if_pos ⟨nI_le (a := 0) (Nat.zero_le _) (by omega), nI_le (b := 47) (by omega) (by decide)⟩, if_pos ⟨nI_le (a := 0) (Nat.zero_le _) (by omega), nI_le (b := 47) (by omega) (by decide)⟩]
  exact ⟨rfl, rfl⟩
end SXLY
set_option maxRecDepth 20000 in
set_option maxHeartbeats 4000000 in
theorem X120L {xs : Option (List Int32)} {d s c z : Nat} {w0 : List sx_C} (hs : s < 4) (hz : z ≤ 40) (hc : c < 48) (ez0 : fi w0 (103 + 2 * s) 2 = nI z) : ∀ (q i : Nat) (w : List sx_C) (l : List Int32) (n : Int32), i + q = min z (48 - c) → WI w → rel w 1 l → Out 1 w0 w → sx_RP xs (d + 7) 120 56 [(0, .ref 0), (1, .int (nI s)), (2, .int (nI c)), (3, .ref (103 + 2 * s)), (4, .int n), (5, .int (nI i))] [] w (fun r w2 => (r = some (.int ((laL (NCs w0 s) c q i l n).2)) ∧ rel w2 1 (laL (NCs w0 s) c q i l n).1) ∧ WI w2 ∧ Out 1 w0 w2)
  | 0, i, w, l, n, hi, hI, hR, hO => by
    have ez : fi w (103 + 2 * s) 2 = nI z := (fi_same 2 (hO (103 + 2 * s) (by omega))).trans ez0
    refine sx_RP.step (pc2 := 58) (ls2 := [(0, .ref 0), (1, .int (nI s)), (2, .int (nI c)), (3, .ref (103 + 2 * s)), (4, .int n), (5, .int (nI i))]) (st2 := [.int (nI i)]) (w3 := w) rfl rfl ?_
    refine sx_RP.step (pc2 := 59) (ls2 := [(0, .ref 0), (1, .int (nI s)), (2, .int (nI c)), (3, .ref (103 + 2 * s)), (4, .int n), (5, .int (nI i))]) (st2 := [.ref (103 + 2 * s), .int (nI i)]) (w3 := w) rfl rfl ?_
    refine sx_RP.gf (v := .int (fi w (103 + 2 * s) 2)) rfl rfl (hI.1.oS (show s < 4 by omega)) rfl rfl (show _ = 62 from rfl) ?_
    rw [ez]
    refine sx_RP.br (p1 := 123) (l1 := [(0, .ref 0), (1, .int (nI s)), (2, .int (nI c)), (3, .ref (103 + 2 * s)), (4, .int n), (5, .int (nI i))]) (s1 := []) (v1 := w) (p2 := 65) (l2 := [(0, .ref 0), (1, .int (nI s)), (2, .int (nI c)), (3, .ref (103 + 2 * s)), (4, .int n), (5, .int (nI i))]) (s2 := []) (v2 := w) rfl rfl (fun q1 => ?_) (fun q1 => ?_)
    · replace q1 := of_decide_eq_true q1
      replace q1 := (nI_leI (a := z) (b := i) (by omega) (by omega)).mp q1
      refine sx_RP.step (pc2 := 125) (ls2 := [(0, .ref 0), (1, .int (nI s)), (2, .int (nI c)), (3, .ref (103 + 2 * s)), (4, .int n), (5, .int (nI i))]) (st2 := [.int n]) (w3 := w) rfl rfl ?_
      refine sx_RP.ret (r := (some (.int n))) rfl rfl ?_
      exact ⟨⟨rfl, hR⟩, hI, hO⟩
    · replace q1 := of_decide_eq_false q1
      replace q1 := mt (nI_leI (a := z) (b := i) (by omega) (by omega)).mpr q1
      refine sx_RP.step (pc2 := 66) (ls2 := [(0, .ref 0), (1, .int (nI s)), (2, .int (nI c)), (3, .ref (103 + 2 * s)), (4, .int n), (5, .int (nI i))]) (st2 := [.int (nI c)]) (w3 := w) rfl rfl ?_
      refine sx_RP.step (pc2 := 68) (ls2 := [(0, .ref 0), (1, .int (nI s)), (2, .int (nI c)), (3, .ref (103 + 2 * s)), (4, .int n), (5, .int (nI i))]) (st2 := [.int (nI i), .int (nI c)]) (w3 := w) rfl rfl ?_
      refine sx_RP.step (pc2 := 69) (ls2 := [(0, .ref 0), (1, .int (nI s)), (2, .int (nI c)), (3, .ref (103 + 2 * s)), (4, .int n), (5, .int (nI i))]) (st2 := [.int ((nI c) + (nI i))]) (w3 := w) rfl rfl ?_
      rw [show ((nI c) + (nI i) : Int32) = nI (c + i) from nI_add c i]
      refine sx_RP.step (pc2 := 71) (ls2 := [(0, .ref 0), (1, .int (nI s)), (2, .int (nI c)), (3, .ref (103 + 2 * s)), (4, .int n), (5, .int (nI i))]) (st2 := [.int 48, .int (nI (c + i))]) (w3 := w) rfl rfl ?_
      refine sx_RP.br (p1 := 123) (l1 := [(0, .ref 0), (1, .int (nI s)), (2, .int (nI c)), (3, .ref (103 + 2 * s)), (4, .int n), (5, .int (nI i))]) (s1 := []) (v1 := w) rfl rfl (fun _ => ?_) (fun q => absurd (nI_le (a := 48) (b := c + i) (by omega) (by omega)) (of_decide_eq_false q))
      refine sx_RP.step (pc2 := 125) (ls2 := [(0, .ref 0), (1, .int (nI s)), (2, .int (nI c)), (3, .ref (103 + 2 * s)), (4, .int n), (5, .int (nI i))]) (st2 := [.int n]) (w3 := w) rfl rfl ?_
      refine sx_RP.ret (r := (some (.int n))) rfl rfl ?_
      exact ⟨⟨rfl, hR⟩, hI, hO⟩
  | q + 1, i, w, l, n, hi, hI, hR, hO => by
    have ez : fi w (103 + 2 * s) 2 = nI z := (fi_same 2 (hO (103 + 2 * s) (by omega))).trans ez0
    refine sx_RP.step (pc2 := 58) (ls2 := [(0, .ref 0), (1, .int (nI s)), (2, .int (nI c)), (3, .ref (103 + 2 * s)), (4, .int n), (5, .int (nI i))]) (st2 := [.int (nI i)]) (w3 := w) rfl rfl ?_
    refine sx_RP.step (pc2 := 59) (ls2 := [(0, .ref 0), (1, .int (nI s)), (2, .int (nI c)), (3, .ref (103 + 2 * s)), (4, .int n), (5, .int (nI i))]) (st2 := [.ref (103 + 2 * s), .int (nI i)]) (w3 := w) rfl rfl ?_
    refine sx_RP.gf (v := .int (fi w (103 + 2 * s) 2)) rfl rfl (hI.1.oS (show s < 4 by omega)) rfl rfl (show _ = 62 from rfl) ?_
    rw [ez]
    refine sx_RP.br (p2 := 65) (l2 := [(0, .ref 0), (1, .int (nI s)), (2, .int (nI c)), (3, .ref (103 + 2 * s)), (4, .int n), (5, .int (nI i))]) (s2 := []) (v2 := w) rfl rfl (fun q => absurd (of_decide_eq_true q) (fun zz => absurd ((nI_leI (a := z) (b := i) (by omega) (by omega)).mp zz) (by omega))) (fun _ => ?_)
    refine sx_RP.step (pc2 := 66) (ls2 := [(0, .ref 0), (1, .int (nI s)), (2, .int (nI c)), (3, .ref (103 + 2 * s)), (4, .int n), (5, .int (nI i))]) (st2 := [.int (nI c)]) (w3 := w) rfl rfl ?_
    refine sx_RP.step (pc2 := 68) (ls2 := [(0, .ref 0), (1, .int (nI s)), (2, .int (nI c)), (3, .ref (103 + 2 * s)), (4, .int n), (5, .int (nI i))]) (st2 := [.int (nI i), .int (nI c)]) (w3 := w) rfl rfl ?_
    refine sx_RP.step (pc2 := 69) (ls2 := [(0, .ref 0), (1, .int (nI s)), (2, .int (nI c)), (3, .ref (103 + 2 * s)), (4, .int n), (5, .int (nI i))]) (st2 := [.int ((nI c) + (nI i))]) (w3 := w) rfl rfl ?_
    rw [show ((nI c) + (nI i) : Int32) = nI (c + i) from nI_add c i]
    refine sx_RP.step (pc2 := 71) (ls2 := [(0, .ref 0), (1, .int (nI s)), (2, .int (nI c)), (3, .ref (103 + 2 * s)), (4, .int n), (5, .int (nI i))]) (st2 := [.int 48, .int (nI (c + i))]) (w3 := w) rfl rfl ?_
    refine sx_RP.br (p2 := 74) (l2 := [(0, .ref 0), (1, .int (nI s)), (2, .int (nI c)), (3, .ref (103 + 2 * s)), (4, .int n), (5, .int (nI i))]) (s2 := []) (v2 := w) rfl rfl (fun q => absurd (of_decide_eq_true q) (fun z => absurd ((nI_leI (a := 48) (b := c + i) (by omega) (by omega)).mp z) (by omega))) (fun _ => ?_)
    refine sx_RP.step (pc2 := 75) (ls2 := [(0, .ref 0), (1, .int (nI s)), (2, .int (nI c)), (3, .ref (103 + 2 * s)), (4, .int n), (5, .int (nI i))]) (st2 := [.ref (103 + 2 * s)]) (w3 := w) rfl rfl ?_
    refine sx_RP.gf (v := .ref (104 + 2 * s)) rfl rfl (hI.1.oS (show s < 4 by omega)) rfl rfl (show _ = 78 from rfl) ?_
    refine sx_RP.step (pc2 := 80) (ls2 := [(0, .ref 0), (1, .int (nI s)), (2, .int (nI c)), (3, .ref (103 + 2 * s)), (4, .int n), (5, .int (nI i))]) (st2 := [.int (nI i), .ref (104 + 2 * s)]) (w3 := w) rfl rfl ?_
    refine sx_RP.lld (c := i) rfl (hI.1.aN (show s < 4 by omega)).1 (hI.1.aN (show s < 4 by omega)).2 (sx_in_nI (show i < 40 by omega) (by decide)) (show (nI i).toNatClampNeg = i from nI_clamp (by omega)) (show _ = 81 from rfl) ?_
    refine sx_RP.step (pc2 := 83) (ls2 := [(6, .long ((ja w (104 + 2 * s)).getD i 0)), (0, .ref 0), (1, .int (nI s)), (2, .int (nI c)), (3, .ref (103 + 2 * s)), (4, .int n), (5, .int (nI i))]) (st2 := []) (w3 := w) rfl rfl ?_
    refine sx_RP.step (pc2 := 85) (ls2 := [(6, .long ((ja w (104 + 2 * s)).getD i 0)), (0, .ref 0), (1, .int (nI s)), (2, .int (nI c)), (3, .ref (103 + 2 * s)), (4, .int n), (5, .int (nI i))]) (st2 := [.long ((ja w (104 + 2 * s)).getD i 0)]) (w3 := w) rfl rfl ?_
    refine sx_RP.step (pc2 := 86) (ls2 := [(6, .long ((ja w (104 + 2 * s)).getD i 0)), (0, .ref 0), (1, .int (nI s)), (2, .int (nI c)), (3, .ref (103 + 2 * s)), (4, .int n), (5, .int (nI i))]) (st2 := [.long 0, .long ((ja w (104 + 2 * s)).getD i 0)]) (w3 := w) rfl rfl ?_
    refine sx_RP.step (pc2 := 87) (ls2 := [(6, .long ((ja w (104 + 2 * s)).getD i 0)), (0, .ref 0), (1, .int (nI s)), (2, .int (nI c)), (3, .ref (103 + 2 * s)), (4, .int n), (5, .int (nI i))]) (st2 := [.int (lg_cmp ((ja w (104 + 2 * s)).getD i 0) 0)]) (w3 := w) rfl rfl ?_
    refine sx_RP.br (p1 := 117) (l1 := [(6, .long ((ja w (104 + 2 * s)).getD i 0)), (0, .ref 0), (1, .int (nI s)), (2, .int (nI c)), (3, .ref (103 + 2 * s)), (4, .int n), (5, .int (nI i))]) (s1 := []) (v1 := w) (p2 := 90) (l2 := [(6, .long ((ja w (104 + 2 * s)).getD i 0)), (0, .ref 0), (1, .int (nI s)), (2, .int (nI c)), (3, .ref (103 + 2 * s)), (4, .int n), (5, .int (nI i))]) (s2 := []) (v2 := w) rfl rfl (fun q1 => ?_) (fun q1 => ?_)
    · replace q1 := of_decide_eq_true q1
      refine sx_RP.step (pc2 := 120) (ls2 := [(5, .int ((nI i) + 1)), (6, .long ((ja w (104 + 2 * s)).getD i 0)), (0, .ref 0), (1, .int (nI s)), (2, .int (nI c)), (3, .ref (103 + 2 * s)), (4, .int n)]) (st2 := []) (w3 := w) rfl rfl ?_
      rw [nI_1 i]
      refine sx_RP.step (pc2 := 56) (ls2 := [(5, .int (nI (i + 1))), (6, .long ((ja w (104 + 2 * s)).getD i 0)), (0, .ref 0), (1, .int (nI s)), (2, .int (nI c)), (3, .ref (103 + 2 * s)), (4, .int n)]) (st2 := []) (w3 := w) rfl rfl ?_
      have eN : NCs w0 s i = (ja w (104 + 2 * s)).getD i 0 := by rw [NCs_at hs (by omega), ja_of (hO (104 + 2 * s) (by omega))]
      have eL : laL (NCs w0 s) c (q + 1) i l n = laL (NCs w0 s) c q (i + 1) l n := by rw [laL, eN, if_neg (okB_1 q1)]
      rw [eL]
      exact sx_RP.ls (sx_lr.cons rfl (sx_lr.cons rfl (sx_lr.cons rfl (sx_lr.cons rfl (sx_lr.cons rfl (sx_lr.cons rfl sx_lr.nil)))))) (X120L hs hz hc ez0 q (i + 1) w l n (by omega) hI hR hO)
    · replace q1 := of_decide_eq_false q1
      refine sx_RP.step (pc2 := 92) (ls2 := [(6, .long ((ja w (104 + 2 * s)).getD i 0)), (0, .ref 0), (1, .int (nI s)), (2, .int (nI c)), (3, .ref (103 + 2 * s)), (4, .int n), (5, .int (nI i))]) (st2 := [.long ((ja w (104 + 2 * s)).getD i 0)]) (w3 := w) rfl rfl ?_
      refine sx_RP.step (pc2 := 95) (ls2 := [(6, .long ((ja w (104 + 2 * s)).getD i 0)), (0, .ref 0), (1, .int (nI s)), (2, .int (nI c)), (3, .ref (103 + 2 * s)), (4, .int n), (5, .int (nI i))]) (st2 := [.long 3, .long ((ja w (104 + 2 * s)).getD i 0)]) (w3 := w) rfl rfl ?_
      refine sx_RP.step (pc2 := 96) (ls2 := [(6, .long ((ja w (104 + 2 * s)).getD i 0)), (0, .ref 0), (1, .int (nI s)), (2, .int (nI c)), (3, .ref (103 + 2 * s)), (4, .int n), (5, .int (nI i))]) (st2 := [.int (lg_cmp ((ja w (104 + 2 * s)).getD i 0) 3)]) (w3 := w) rfl rfl ?_
      refine sx_RP.br (p1 := 117) (l1 := [(6, .long ((ja w (104 + 2 * s)).getD i 0)), (0, .ref 0), (1, .int (nI s)), (2, .int (nI c)), (3, .ref (103 + 2 * s)), (4, .int n), (5, .int (nI i))]) (s1 := []) (v1 := w) (p2 := 99) (l2 := [(6, .long ((ja w (104 + 2 * s)).getD i 0)), (0, .ref 0), (1, .int (nI s)), (2, .int (nI c)), (3, .ref (103 + 2 * s)), (4, .int n), (5, .int (nI i))]) (s2 := []) (v2 := w) rfl rfl (fun q2 => ?_) (fun q2 => ?_)
      · replace q2 := of_decide_eq_true q2
        refine sx_RP.step (pc2 := 120) (ls2 := [(5, .int ((nI i) + 1)), (6, .long ((ja w (104 + 2 * s)).getD i 0)), (0, .ref 0), (1, .int (nI s)), (2, .int (nI c)), (3, .ref (103 + 2 * s)), (4, .int n)]) (st2 := []) (w3 := w) rfl rfl ?_
        rw [nI_1 i]
        refine sx_RP.step (pc2 := 56) (ls2 := [(5, .int (nI (i + 1))), (6, .long ((ja w (104 + 2 * s)).getD i 0)), (0, .ref 0), (1, .int (nI s)), (2, .int (nI c)), (3, .ref (103 + 2 * s)), (4, .int n)]) (st2 := []) (w3 := w) rfl rfl ?_
        have eN : NCs w0 s i = (ja w (104 + 2 * s)).getD i 0 := by rw [NCs_at hs (by omega), ja_of (hO (104 + 2 * s) (by omega))]
        have eL : laL (NCs w0 s) c (q + 1) i l n = laL (NCs w0 s) c q (i + 1) l n := by rw [laL, eN, if_neg (okB_2 q2)]
        rw [eL]
        exact sx_RP.ls (sx_lr.cons rfl (sx_lr.cons rfl (sx_lr.cons rfl (sx_lr.cons rfl (sx_lr.cons rfl (sx_lr.cons rfl sx_lr.nil)))))) (X120L hs hz hc ez0 q (i + 1) w l n (by omega) hI hR hO)
      · replace q2 := of_decide_eq_false q2
        refine sx_RP.step (pc2 := 100) (ls2 := [(6, .long ((ja w (104 + 2 * s)).getD i 0)), (0, .ref 0), (1, .int (nI s)), (2, .int (nI c)), (3, .ref (103 + 2 * s)), (4, .int n), (5, .int (nI i))]) (st2 := [.ref 0]) (w3 := w) rfl rfl ?_
        refine sx_RP.gf (v := .ref 1) rfl rfl hI.1.o0 rfl rfl (show _ = 103 from rfl) ?_
        refine sx_RP.gref (k := 0) (b := 2) hI (Or.inl rfl) rfl rfl (by omega) (show _ = 106 from rfl) ?_
        refine sx_RP.step (pc2 := 107) (ls2 := [(6, .long ((ja w (104 + 2 * s)).getD i 0)), (0, .ref 0), (1, .int (nI s)), (2, .int (nI c)), (3, .ref (103 + 2 * s)), (4, .int n), (5, .int (nI i))]) (st2 := [.int (nI c), .ref 2]) (w3 := w) rfl rfl ?_
        refine sx_RP.step (pc2 := 109) (ls2 := [(6, .long ((ja w (104 + 2 * s)).getD i 0)), (0, .ref 0), (1, .int (nI s)), (2, .int (nI c)), (3, .ref (103 + 2 * s)), (4, .int n), (5, .int (nI i))]) (st2 := [.int (nI i), .int (nI c), .ref 2]) (w3 := w) rfl rfl ?_
        refine sx_RP.step (pc2 := 110) (ls2 := [(6, .long ((ja w (104 + 2 * s)).getD i 0)), (0, .ref 0), (1, .int (nI s)), (2, .int (nI c)), (3, .ref (103 + 2 * s)), (4, .int n), (5, .int (nI i))]) (st2 := [.int ((nI c) + (nI i)), .ref 2]) (w3 := w) rfl rfl ?_
        rw [show ((nI c) + (nI i) : Int32) = nI (c + i) from nI_add c i]
        refine sx_RP.step (pc2 := 112) (ls2 := [(6, .long ((ja w (104 + 2 * s)).getD i 0)), (0, .ref 0), (1, .int (nI s)), (2, .int (nI c)), (3, .ref (103 + 2 * s)), (4, .int n), (5, .int (nI i))]) (st2 := [.long ((ja w (104 + 2 * s)).getD i 0), .int (nI (c + i)), .ref 2]) (w3 := w) rfl rfl ?_
        refine sx_RP.step (pc2 := 113) (ls2 := [(6, .long ((ja w (104 + 2 * s)).getD i 0)), (0, .ref 0), (1, .int (nI s)), (2, .int (nI c)), (3, .ref (103 + 2 * s)), (4, .int n), (5, .int (nI i))]) (st2 := [.int (((ja w (104 + 2 * s)).getD i 0).toInt32), .int (nI (c + i)), .ref 2]) (w3 := w) rfl rfl ?_
        obtain ⟨x3, hx4, ex5⟩ := lay_rng q1 q2
        rw [ex5]
        refine sx_RP.xS (A := 1) (c := (c + i)) hI (Or.inl rfl) rfl (show (c + i) < 48 by omega) (inR.n (show x3 ≤ 3 by omega)) (show _ = 114 from rfl) (fun w6 hI7 hs8 hv9 => ?_)
        have ex10 := (fi_same 2 (hs8 (103 + 2 * s) (by omega))).trans ez
        refine sx_RP.step (pc2 := 117) (ls2 := [(4, .int (n + 1)), (6, .long ((ja w (104 + 2 * s)).getD i 0)), (0, .ref 0), (1, .int (nI s)), (2, .int (nI c)), (3, .ref (103 + 2 * s)), (5, .int (nI i))]) (st2 := []) (w3 := w6) rfl rfl ?_
        refine sx_RP.step (pc2 := 120) (ls2 := [(5, .int ((nI i) + 1)), (4, .int (n + 1)), (6, .long ((ja w (104 + 2 * s)).getD i 0)), (0, .ref 0), (1, .int (nI s)), (2, .int (nI c)), (3, .ref (103 + 2 * s))]) (st2 := []) (w3 := w6) rfl rfl ?_
        rw [nI_1 i]
        refine sx_RP.step (pc2 := 56) (ls2 := [(5, .int (nI (i + 1))), (4, .int (n + 1)), (6, .long ((ja w (104 + 2 * s)).getD i 0)), (0, .ref 0), (1, .int (nI s)), (2, .int (nI c)), (3, .ref (103 + 2 * s))]) (st2 := []) (w3 := w6) rfl rfl ?_
        have eN : NCs w0 s i = (ja w (104 + 2 * s)).getD i 0 := by rw [NCs_at hs (by omega), ja_of (hO (104 + 2 * s) (by omega))]
        have eL : laL (NCs w0 s) c (q + 1) i l n = laL (NCs w0 s) c q (i + 1) (l.set (7 + (c + i)) (nI x3)) (n + 1) := by rw [laL, eN, if_pos (okB_y q1 q2), ex5]
        rw [eL]
        exact sx_RP.ls (sx_lr.cons rfl (sx_lr.cons rfl (sx_lr.cons rfl (sx_lr.cons rfl (sx_lr.cons rfl (sx_lr.cons rfl sx_lr.nil)))))) (X120L hs hz hc ez0 q (i + 1) w6 _ _ (by omega) hI7 (hR.sGr hI (Or.inl rfl) (by omega) hs8 hv9) (hO.tr (hs8.out (by omega))))
set_option maxRecDepth 20000 in
set_option maxHeartbeats 4000000 in
theorem Z120 {xs : Option (List Int32)} {d : Nat} {w : List sx_C} (hI : WI w) (l : List Int32) (hR : rel w 1 l) (a1 a2 : Int32) : sx_RP xs (d + 7) 120 0 (lv_args 0 [.ref 0, .int a1, .int a2]) [] w (fun r w2 => (r = some (.int (lysA (FCs w) (NCs w) l a1 a2)) ∧ rel w2 1 (lysR (FCs w) (NCs w) l a1 a2)) ∧ WI w2 ∧ EO w w2) := by
  refine sx_RP.step (pc2 := 1) (ls2 := [(0, .ref 0), (1, .int a1), (2, .int a2)]) (st2 := [.int a1]) (w3 := w) rfl rfl ?_
  rcases in_cases a1 0 3 (m := 0) (n := 3) rfl rfl (by decide) (by decide) with q1 | ⟨x2, hx3, hx4, rfl⟩
  · refine sx_RP.cu (as := [.int a1]) (rest2 := []) (st3 := [.int 0]) rfl rfl rfl rfl rfl (cx_112n q1) rfl ?_
    refine sx_RP.step (pc2 := 7) (ls2 := [(0, .ref 0), (1, .int a1), (2, .int a2)]) (st2 := []) (w3 := w) rfl rfl ?_
    refine sx_RP.step (pc2 := 8) (ls2 := [(0, .ref 0), (1, .int a1), (2, .int a2)]) (st2 := [.ref 0]) (w3 := w) rfl rfl ?_
    refine sx_RP.step (pc2 := 10) (ls2 := [(0, .ref 0), (1, .int a1), (2, .int a2)]) (st2 := [.int (-1000000001), .ref 0]) (w3 := w) rfl rfl ?_
    refine sx_RP.callp (as2 := [.ref 0, .int (-1000000001)]) (rest2 := []) rfl rfl (sx_inv_v2 (mi := 120) (k := 78) (st := [.int (-1000000001), .ref 0]) (w := w) rfl rfl hI.1.o0 rfl rfl rfl) rfl rfl rfl (S9_0 hI) (show _ = 13 from rfl) ?_
    rintro r4 w7 ⟨rfl, hI8, hs6⟩
    show sx_RP _ _ _ _ _ [.int (-1000000001)] _ _
    refine sx_RP.ret (r := (some (.int (-1000000001)))) rfl rfl ?_
    exact ⟨⟨by rw [(lys_1 (F := FCs w) (N := NCs w) (l := l) q1).1], by rw [(lys_1 (F := FCs w) (N := NCs w) (l := l) q1).2]; exact hR.same hI (Or.inl rfl) (fun a h1 h2 => hs6 a (by omega))⟩, hI8, fun a ha => hs6 a (by unfold oc at ha; omega)⟩
  · refine sx_RP.cu (as := [.int (nI x2)]) (rest2 := []) (st3 := [.int 1]) rfl rfl rfl rfl rfl (cx_112p ⟨nI_le (a := 0) hx3 (by omega), nI_le (b := 3) hx4 (by decide)⟩) rfl ?_
    refine sx_RP.step (pc2 := 14) (ls2 := [(0, .ref 0), (1, .int (nI x2)), (2, .int a2)]) (st2 := []) (w3 := w) rfl rfl ?_
    refine sx_RP.step (pc2 := 15) (ls2 := [(0, .ref 0), (1, .int (nI x2)), (2, .int a2)]) (st2 := [.ref 0]) (w3 := w) rfl rfl ?_
    refine sx_RP.gf (v := .ref 98) rfl rfl hI.1.o0 rfl rfl (show _ = 18 from rfl) ?_
    refine sx_RP.step (pc2 := 19) (ls2 := [(0, .ref 0), (1, .int (nI x2)), (2, .int a2)]) (st2 := [.int (nI x2), .ref 98]) (w3 := w) rfl rfl ?_
    refine sx_RP.ald (v := .ref (103 + 2 * x2)) rfl hI.1.a98 rfl (shA_at (show x2 < 4 by omega)) (show _ = 20 from rfl) ?_
    refine sx_RP.step (pc2 := 21) (ls2 := [(3, .ref (103 + 2 * x2)), (0, .ref 0), (1, .int (nI x2)), (2, .int a2)]) (st2 := []) (w3 := w) rfl rfl ?_
    refine sx_RP.step (pc2 := 22) (ls2 := [(3, .ref (103 + 2 * x2)), (0, .ref 0), (1, .int (nI x2)), (2, .int a2)]) (st2 := [.ref (103 + 2 * x2)]) (w3 := w) rfl rfl ?_
    rcases Decidable.em (fi w (103 + 2 * x2) 1 = 0) with c9 | c9
    · refine sx_RP.cu (as := [.ref (103 + 2 * x2)]) (rest2 := []) (st3 := [.int 1]) rfl rfl (sx_inv_v2 (mi := 120) (k := 310) (st := [.ref (103 + 2 * x2)]) (w := w) rfl rfl (hI.1.oS (show x2 < 4 by omega)) rfl rfl rfl) rfl rfl (p116y hI (show x2 < 4 by omega) c9) rfl ?_
      refine sx_RP.step (pc2 := 28) (ls2 := [(3, .ref (103 + 2 * x2)), (0, .ref 0), (1, .int (nI x2)), (2, .int a2)]) (st2 := []) (w3 := w) rfl rfl ?_
      refine sx_RP.step (pc2 := 29) (ls2 := [(3, .ref (103 + 2 * x2)), (0, .ref 0), (1, .int (nI x2)), (2, .int a2)]) (st2 := [.ref 0]) (w3 := w) rfl rfl ?_
      refine sx_RP.step (pc2 := 32) (ls2 := [(3, .ref (103 + 2 * x2)), (0, .ref 0), (1, .int (nI x2)), (2, .int a2)]) (st2 := [.int (-1000000006), .ref 0]) (w3 := w) rfl rfl ?_
      refine sx_RP.callp (as2 := [.ref 0, .int (-1000000006)]) (rest2 := []) rfl rfl (sx_inv_v2 (mi := 120) (k := 78) (st := [.int (-1000000006), .ref 0]) (w := w) rfl rfl hI.1.o0 rfl rfl rfl) rfl rfl rfl (S9_5 hI) (show _ = 35 from rfl) ?_
      rintro r4 w11 ⟨rfl, hI12, hs10⟩
      show sx_RP _ _ _ _ _ [.int (-1000000006)] _ _
      refine sx_RP.ret (r := (some (.int (-1000000006)))) rfl rfl ?_
      exact ⟨⟨by rw [(lys_2 (F := FCs w) (N := NCs w) (l := l) (show x2 < 4 by omega) (FCs_at (by omega)) c9).1], by rw [(lys_2 (F := FCs w) (N := NCs w) (l := l) (show x2 < 4 by omega) (FCs_at (by omega)) c9).2]; exact hR.same hI (Or.inl rfl) (fun a h1 h2 => hs10 a (by omega))⟩, hI12, fun a ha => hs10 a (by unfold oc at ha; omega)⟩
    · refine sx_RP.cu (as := [.ref (103 + 2 * x2)]) (rest2 := []) (st3 := [.int 0]) rfl rfl (sx_inv_v2 (mi := 120) (k := 310) (st := [.ref (103 + 2 * x2)]) (w := w) rfl rfl (hI.1.oS (show x2 < 4 by omega)) rfl rfl rfl) rfl rfl (p116n hI (show x2 < 4 by omega) c9) rfl ?_
      refine sx_RP.step (pc2 := 36) (ls2 := [(3, .ref (103 + 2 * x2)), (0, .ref 0), (1, .int (nI x2)), (2, .int a2)]) (st2 := []) (w3 := w) rfl rfl ?_
      refine sx_RP.step (pc2 := 37) (ls2 := [(3, .ref (103 + 2 * x2)), (0, .ref 0), (1, .int (nI x2)), (2, .int a2)]) (st2 := [.int a2]) (w3 := w) rfl rfl ?_
      rcases in_cases a2 0 47 (m := 0) (n := 47) rfl rfl (by decide) (by decide) with q13 | ⟨x14, hx15, hx16, rfl⟩
      · refine sx_RP.cu (as := [.int a2]) (rest2 := []) (st3 := [.int 0]) rfl rfl rfl rfl rfl (cx_7n q13) rfl ?_
        refine sx_RP.step (pc2 := 43) (ls2 := [(3, .ref (103 + 2 * x2)), (0, .ref 0), (1, .int (nI x2)), (2, .int a2)]) (st2 := []) (w3 := w) rfl rfl ?_
        refine sx_RP.step (pc2 := 44) (ls2 := [(3, .ref (103 + 2 * x2)), (0, .ref 0), (1, .int (nI x2)), (2, .int a2)]) (st2 := [.ref 0]) (w3 := w) rfl rfl ?_
        refine sx_RP.step (pc2 := 46) (ls2 := [(3, .ref (103 + 2 * x2)), (0, .ref 0), (1, .int (nI x2)), (2, .int a2)]) (st2 := [.int (-1000000001), .ref 0]) (w3 := w) rfl rfl ?_
        refine sx_RP.callp (as2 := [.ref 0, .int (-1000000001)]) (rest2 := []) rfl rfl (sx_inv_v2 (mi := 120) (k := 78) (st := [.int (-1000000001), .ref 0]) (w := w) rfl rfl hI.1.o0 rfl rfl rfl) rfl rfl rfl (S9_0 hI) (show _ = 49 from rfl) ?_
        rintro r4 w19 ⟨rfl, hI20, hs18⟩
        show sx_RP _ _ _ _ _ [.int (-1000000001)] _ _
        refine sx_RP.ret (r := (some (.int (-1000000001)))) rfl rfl ?_
        exact ⟨⟨by rw [(lys_3 (F := FCs w) (N := NCs w) (l := l) (show x2 < 4 by omega) (FCs_at (by omega)) c9 q13).1], by rw [(lys_3 (F := FCs w) (N := NCs w) (l := l) (show x2 < 4 by omega) (FCs_at (by omega)) c9 q13).2]; exact hR.same hI (Or.inl rfl) (fun a h1 h2 => hs18 a (by omega))⟩, hI20, fun a ha => hs18 a (by unfold oc at ha; omega)⟩
      · refine sx_RP.cu (as := [.int (nI x14)]) (rest2 := []) (st3 := [.int 1]) rfl rfl rfl rfl rfl (cx_7p ⟨nI_le (a := 0) hx15 (by omega), nI_le (b := 47) hx16 (by decide)⟩) rfl ?_
        refine sx_RP.step (pc2 := 50) (ls2 := [(3, .ref (103 + 2 * x2)), (0, .ref 0), (1, .int (nI x2)), (2, .int (nI x14))]) (st2 := []) (w3 := w) rfl rfl ?_
        refine sx_RP.step (pc2 := 51) (ls2 := [(3, .ref (103 + 2 * x2)), (0, .ref 0), (1, .int (nI x2)), (2, .int (nI x14))]) (st2 := [.int 0]) (w3 := w) rfl rfl ?_
        refine sx_RP.step (pc2 := 53) (ls2 := [(4, .int 0), (3, .ref (103 + 2 * x2)), (0, .ref 0), (1, .int (nI x2)), (2, .int (nI x14))]) (st2 := []) (w3 := w) rfl rfl ?_
        refine sx_RP.step (pc2 := 54) (ls2 := [(4, .int 0), (3, .ref (103 + 2 * x2)), (0, .ref 0), (1, .int (nI x2)), (2, .int (nI x14))]) (st2 := [.int 0]) (w3 := w) rfl rfl ?_
        refine sx_RP.step (pc2 := 56) (ls2 := [(5, .int 0), (4, .int 0), (3, .ref (103 + 2 * x2)), (0, .ref 0), (1, .int (nI x2)), (2, .int (nI x14))]) (st2 := []) (w3 := w) rfl rfl ?_
        obtain ⟨z, hz, ez⟩ := hI.sh (show x2 < 4 by omega)
        rw [(lys_4 (F := FCs w) (N := NCs w) (l := l) (show x2 < 4 by omega) hz ((FCs_at (by omega)).trans (by rw [ez])) c9 (show x14 < 48 by omega)).1, (lys_4 (F := FCs w) (N := NCs w) (l := l) (show x2 < 4 by omega) hz ((FCs_at (by omega)).trans (by rw [ez])) c9 (show x14 < 48 by omega)).2]
        exact sx_RP.ls (sx_lr.cons rfl (sx_lr.cons rfl (sx_lr.cons rfl (sx_lr.cons rfl (sx_lr.cons rfl (sx_lr.cons rfl sx_lr.nil)))))) ((X120L (w0 := w) (show x2 < 4 by omega) hz (show x14 < 48 by omega) ez (min z (48 - x14)) 0 w l 0 (by omega) hI hR (fun _ _ => rfl)).mono9 (fun r w2 q => ⟨q.1, q.2.1, q.2.2.eo⟩))
set_option maxRecDepth 20000 in
set_option maxHeartbeats 4000000 in
theorem X235L {xs : Option (List Int32)} {d s c z : Nat} {w0 : List sx_C} (hs : s < 4) (hz : z ≤ 40) (hc : c < 48) (ez0 : (ia w0 123).getD s 0 = nI z) : ∀ (q i : Nat) (w : List sx_C) (n : Int32), i + q = min z (48 - c) → WI w → Same 112 w0 w → sx_RP xs (d + 7) 235 46 [(0, .ref 111), (1, .int (nI s)), (2, .int (nI c)), (3, .int n), (4, .int (nI i))] [] w (fun r w2 => (r = some (.int ((laL (NMs w0 s) c q i (ia w 112) n).2)) ∧ ia w2 112 = (laL (NMs w0 s) c q i (ia w 112) n).1) ∧ WI w2 ∧ Same 112 w0 w2)
  | 0, i, w, n, hi, hI, hO => by
    have ez : (ia w 123).getD s 0 = nI z := by rw [ia_of (hO 123 (by decide))]; exact ez0
    refine sx_RP.step (pc2 := 48) (ls2 := [(0, .ref 111), (1, .int (nI s)), (2, .int (nI c)), (3, .int n), (4, .int (nI i))]) (st2 := [.int (nI i)]) (w3 := w) rfl rfl ?_
    refine sx_RP.step (pc2 := 49) (ls2 := [(0, .ref 111), (1, .int (nI s)), (2, .int (nI c)), (3, .int n), (4, .int (nI i))]) (st2 := [.ref 111, .int (nI i)]) (w3 := w) rfl rfl ?_
    refine sx_RP.gf (v := .ref 123) rfl rfl hI.1.o111 rfl rfl (show _ = 52 from rfl) ?_
    refine sx_RP.step (pc2 := 53) (ls2 := [(0, .ref 111), (1, .int (nI s)), (2, .int (nI c)), (3, .int n), (4, .int (nI i))]) (st2 := [.int (nI s), .ref 123, .int (nI i)]) (w3 := w) rfl rfl ?_
    refine sx_RP.ild (c := s) rfl hI.1.a123.1 hI.1.a123.2 (sx_in_nI (show s < 4 by omega) (by decide)) (show (nI s).toNatClampNeg = s from nI_clamp (by omega)) (show _ = 54 from rfl) ?_
    rw [ez]
    refine sx_RP.br (p1 := 120) (l1 := [(0, .ref 111), (1, .int (nI s)), (2, .int (nI c)), (3, .int n), (4, .int (nI i))]) (s1 := []) (v1 := w) (p2 := 57) (l2 := [(0, .ref 111), (1, .int (nI s)), (2, .int (nI c)), (3, .int n), (4, .int (nI i))]) (s2 := []) (v2 := w) rfl rfl (fun q1 => ?_) (fun q1 => ?_)
    · replace q1 := of_decide_eq_true q1
      replace q1 := (nI_leI (a := z) (b := i) (by omega) (by omega)).mp q1
      refine sx_RP.step (pc2 := 121) (ls2 := [(0, .ref 111), (1, .int (nI s)), (2, .int (nI c)), (3, .int n), (4, .int (nI i))]) (st2 := [.int n]) (w3 := w) rfl rfl ?_
      refine sx_RP.ret (r := (some (.int n))) rfl rfl ?_
      exact ⟨⟨rfl, rfl⟩, hI, hO⟩
    · replace q1 := of_decide_eq_false q1
      replace q1 := mt (nI_leI (a := z) (b := i) (by omega) (by omega)).mpr q1
      refine sx_RP.step (pc2 := 58) (ls2 := [(0, .ref 111), (1, .int (nI s)), (2, .int (nI c)), (3, .int n), (4, .int (nI i))]) (st2 := [.int (nI c)]) (w3 := w) rfl rfl ?_
      refine sx_RP.step (pc2 := 60) (ls2 := [(0, .ref 111), (1, .int (nI s)), (2, .int (nI c)), (3, .int n), (4, .int (nI i))]) (st2 := [.int (nI i), .int (nI c)]) (w3 := w) rfl rfl ?_
      refine sx_RP.step (pc2 := 61) (ls2 := [(0, .ref 111), (1, .int (nI s)), (2, .int (nI c)), (3, .int n), (4, .int (nI i))]) (st2 := [.int ((nI c) + (nI i))]) (w3 := w) rfl rfl ?_
      rw [show ((nI c) + (nI i) : Int32) = nI (c + i) from nI_add c i]
      refine sx_RP.step (pc2 := 63) (ls2 := [(0, .ref 111), (1, .int (nI s)), (2, .int (nI c)), (3, .int n), (4, .int (nI i))]) (st2 := [.int 48, .int (nI (c + i))]) (w3 := w) rfl rfl ?_
      refine sx_RP.br (p1 := 120) (l1 := [(0, .ref 111), (1, .int (nI s)), (2, .int (nI c)), (3, .int n), (4, .int (nI i))]) (s1 := []) (v1 := w) rfl rfl (fun _ => ?_) (fun q => absurd (nI_le (a := 48) (b := c + i) (by omega) (by omega)) (of_decide_eq_false q))
      refine sx_RP.step (pc2 := 121) (ls2 := [(0, .ref 111), (1, .int (nI s)), (2, .int (nI c)), (3, .int n), (4, .int (nI i))]) (st2 := [.int n]) (w3 := w) rfl rfl ?_
      refine sx_RP.ret (r := (some (.int n))) rfl rfl ?_
      exact ⟨⟨rfl, rfl⟩, hI, hO⟩
  | q + 1, i, w, n, hi, hI, hO => by
    have ez : (ia w 123).getD s 0 = nI z := by rw [ia_of (hO 123 (by decide))]; exact ez0
    refine sx_RP.step (pc2 := 48) (ls2 := [(0, .ref 111), (1, .int (nI s)), (2, .int (nI c)), (3, .int n), (4, .int (nI i))]) (st2 := [.int (nI i)]) (w3 := w) rfl rfl ?_
    refine sx_RP.step (pc2 := 49) (ls2 := [(0, .ref 111), (1, .int (nI s)), (2, .int (nI c)), (3, .int n), (4, .int (nI i))]) (st2 := [.ref 111, .int (nI i)]) (w3 := w) rfl rfl ?_
    refine sx_RP.gf (v := .ref 123) rfl rfl hI.1.o111 rfl rfl (show _ = 52 from rfl) ?_
    refine sx_RP.step (pc2 := 53) (ls2 := [(0, .ref 111), (1, .int (nI s)), (2, .int (nI c)), (3, .int n), (4, .int (nI i))]) (st2 := [.int (nI s), .ref 123, .int (nI i)]) (w3 := w) rfl rfl ?_
    refine sx_RP.ild (c := s) rfl hI.1.a123.1 hI.1.a123.2 (sx_in_nI (show s < 4 by omega) (by decide)) (show (nI s).toNatClampNeg = s from nI_clamp (by omega)) (show _ = 54 from rfl) ?_
    rw [ez]
    refine sx_RP.br (p2 := 57) (l2 := [(0, .ref 111), (1, .int (nI s)), (2, .int (nI c)), (3, .int n), (4, .int (nI i))]) (s2 := []) (v2 := w) rfl rfl (fun q => absurd (of_decide_eq_true q) (fun zz => absurd ((nI_leI (a := z) (b := i) (by omega) (by omega)).mp zz) (by omega))) (fun _ => ?_)
    refine sx_RP.step (pc2 := 58) (ls2 := [(0, .ref 111), (1, .int (nI s)), (2, .int (nI c)), (3, .int n), (4, .int (nI i))]) (st2 := [.int (nI c)]) (w3 := w) rfl rfl ?_
    refine sx_RP.step (pc2 := 60) (ls2 := [(0, .ref 111), (1, .int (nI s)), (2, .int (nI c)), (3, .int n), (4, .int (nI i))]) (st2 := [.int (nI i), .int (nI c)]) (w3 := w) rfl rfl ?_
    refine sx_RP.step (pc2 := 61) (ls2 := [(0, .ref 111), (1, .int (nI s)), (2, .int (nI c)), (3, .int n), (4, .int (nI i))]) (st2 := [.int ((nI c) + (nI i))]) (w3 := w) rfl rfl ?_
    rw [show ((nI c) + (nI i) : Int32) = nI (c + i) from nI_add c i]
    refine sx_RP.step (pc2 := 63) (ls2 := [(0, .ref 111), (1, .int (nI s)), (2, .int (nI c)), (3, .int n), (4, .int (nI i))]) (st2 := [.int 48, .int (nI (c + i))]) (w3 := w) rfl rfl ?_
    refine sx_RP.br (p2 := 66) (l2 := [(0, .ref 111), (1, .int (nI s)), (2, .int (nI c)), (3, .int n), (4, .int (nI i))]) (s2 := []) (v2 := w) rfl rfl (fun q => absurd (of_decide_eq_true q) (fun z => absurd ((nI_leI (a := 48) (b := c + i) (by omega) (by omega)).mp z) (by omega))) (fun _ => ?_)
    refine sx_RP.step (pc2 := 67) (ls2 := [(0, .ref 111), (1, .int (nI s)), (2, .int (nI c)), (3, .int n), (4, .int (nI i))]) (st2 := [.ref 111]) (w3 := w) rfl rfl ?_
    refine sx_RP.gf (v := .ref 124) rfl rfl hI.1.o111 rfl rfl (show _ = 70 from rfl) ?_
    refine sx_RP.step (pc2 := 72) (ls2 := [(0, .ref 111), (1, .int (nI s)), (2, .int (nI c)), (3, .int n), (4, .int (nI i))]) (st2 := [.int 40, .ref 124]) (w3 := w) rfl rfl ?_
    refine sx_RP.step (pc2 := 73) (ls2 := [(0, .ref 111), (1, .int (nI s)), (2, .int (nI c)), (3, .int n), (4, .int (nI i))]) (st2 := [.int (nI s), .int 40, .ref 124]) (w3 := w) rfl rfl ?_
    refine sx_RP.step (pc2 := 74) (ls2 := [(0, .ref 111), (1, .int (nI s)), (2, .int (nI c)), (3, .int n), (4, .int (nI i))]) (st2 := [.int (40 * (nI s)), .ref 124]) (w3 := w) rfl rfl ?_
    rw [show (40 * (nI s) : Int32) = nI (40 * s) from nI_mul 40 s]
    refine sx_RP.step (pc2 := 76) (ls2 := [(0, .ref 111), (1, .int (nI s)), (2, .int (nI c)), (3, .int n), (4, .int (nI i))]) (st2 := [.int (nI i), .int (nI (40 * s)), .ref 124]) (w3 := w) rfl rfl ?_
    refine sx_RP.step (pc2 := 77) (ls2 := [(0, .ref 111), (1, .int (nI s)), (2, .int (nI c)), (3, .int n), (4, .int (nI i))]) (st2 := [.int ((nI (40 * s)) + (nI i)), .ref 124]) (w3 := w) rfl rfl ?_
    rw [show ((nI (40 * s)) + (nI i) : Int32) = nI ((40 * s) + i) from nI_add (40 * s) i]
    refine sx_RP.lld (c := ((40 * s) + i)) rfl hI.1.a124.1 hI.1.a124.2 (sx_in_nI (show ((40 * s) + i) < 160 by omega) (by decide)) (show (nI ((40 * s) + i)).toNatClampNeg = ((40 * s) + i) from nI_clamp (by omega)) (show _ = 78 from rfl) ?_
    refine sx_RP.step (pc2 := 80) (ls2 := [(5, .long ((ja w 124).getD ((40 * s) + i) 0)), (0, .ref 111), (1, .int (nI s)), (2, .int (nI c)), (3, .int n), (4, .int (nI i))]) (st2 := []) (w3 := w) rfl rfl ?_
    refine sx_RP.step (pc2 := 82) (ls2 := [(5, .long ((ja w 124).getD ((40 * s) + i) 0)), (0, .ref 111), (1, .int (nI s)), (2, .int (nI c)), (3, .int n), (4, .int (nI i))]) (st2 := [.long ((ja w 124).getD ((40 * s) + i) 0)]) (w3 := w) rfl rfl ?_
    refine sx_RP.step (pc2 := 83) (ls2 := [(5, .long ((ja w 124).getD ((40 * s) + i) 0)), (0, .ref 111), (1, .int (nI s)), (2, .int (nI c)), (3, .int n), (4, .int (nI i))]) (st2 := [.long 0, .long ((ja w 124).getD ((40 * s) + i) 0)]) (w3 := w) rfl rfl ?_
    refine sx_RP.step (pc2 := 84) (ls2 := [(5, .long ((ja w 124).getD ((40 * s) + i) 0)), (0, .ref 111), (1, .int (nI s)), (2, .int (nI c)), (3, .int n), (4, .int (nI i))]) (st2 := [.int (lg_cmp ((ja w 124).getD ((40 * s) + i) 0) 0)]) (w3 := w) rfl rfl ?_
    refine sx_RP.br (p1 := 114) (l1 := [(5, .long ((ja w 124).getD ((40 * s) + i) 0)), (0, .ref 111), (1, .int (nI s)), (2, .int (nI c)), (3, .int n), (4, .int (nI i))]) (s1 := []) (v1 := w) (p2 := 87) (l2 := [(5, .long ((ja w 124).getD ((40 * s) + i) 0)), (0, .ref 111), (1, .int (nI s)), (2, .int (nI c)), (3, .int n), (4, .int (nI i))]) (s2 := []) (v2 := w) rfl rfl (fun q1 => ?_) (fun q1 => ?_)
    · replace q1 := of_decide_eq_true q1
      refine sx_RP.step (pc2 := 117) (ls2 := [(4, .int ((nI i) + 1)), (5, .long ((ja w 124).getD ((40 * s) + i) 0)), (0, .ref 111), (1, .int (nI s)), (2, .int (nI c)), (3, .int n)]) (st2 := []) (w3 := w) rfl rfl ?_
      rw [nI_1 i]
      refine sx_RP.step (pc2 := 46) (ls2 := [(4, .int (nI (i + 1))), (5, .long ((ja w 124).getD ((40 * s) + i) 0)), (0, .ref 111), (1, .int (nI s)), (2, .int (nI c)), (3, .int n)]) (st2 := []) (w3 := w) rfl rfl ?_
      have eN : NMs w0 s i = (ja w 124).getD (40 * s + i) 0 := by rw [NMs_at hs (by omega), ja_of (hO 124 (by decide))]
      have eL : laL (NMs w0 s) c (q + 1) i (ia w 112) n = laL (NMs w0 s) c q (i + 1) (ia w 112) n := by rw [laL, eN, if_neg (okB_1 q1)]
      rw [eL]
      exact sx_RP.ls (sx_lr.cons rfl (sx_lr.cons rfl (sx_lr.cons rfl (sx_lr.cons rfl (sx_lr.cons rfl sx_lr.nil))))) (X235L hs hz hc ez0 q (i + 1) w n (by omega) hI hO)
    · replace q1 := of_decide_eq_false q1
      refine sx_RP.step (pc2 := 89) (ls2 := [(5, .long ((ja w 124).getD ((40 * s) + i) 0)), (0, .ref 111), (1, .int (nI s)), (2, .int (nI c)), (3, .int n), (4, .int (nI i))]) (st2 := [.long ((ja w 124).getD ((40 * s) + i) 0)]) (w3 := w) rfl rfl ?_
      refine sx_RP.step (pc2 := 92) (ls2 := [(5, .long ((ja w 124).getD ((40 * s) + i) 0)), (0, .ref 111), (1, .int (nI s)), (2, .int (nI c)), (3, .int n), (4, .int (nI i))]) (st2 := [.long 3, .long ((ja w 124).getD ((40 * s) + i) 0)]) (w3 := w) rfl rfl ?_
      refine sx_RP.step (pc2 := 93) (ls2 := [(5, .long ((ja w 124).getD ((40 * s) + i) 0)), (0, .ref 111), (1, .int (nI s)), (2, .int (nI c)), (3, .int n), (4, .int (nI i))]) (st2 := [.int (lg_cmp ((ja w 124).getD ((40 * s) + i) 0) 3)]) (w3 := w) rfl rfl ?_
      refine sx_RP.br (p1 := 114) (l1 := [(5, .long ((ja w 124).getD ((40 * s) + i) 0)), (0, .ref 111), (1, .int (nI s)), (2, .int (nI c)), (3, .int n), (4, .int (nI i))]) (s1 := []) (v1 := w) (p2 := 96) (l2 := [(5, .long ((ja w 124).getD ((40 * s) + i) 0)), (0, .ref 111), (1, .int (nI s)), (2, .int (nI c)), (3, .int n), (4, .int (nI i))]) (s2 := []) (v2 := w) rfl rfl (fun q2 => ?_) (fun q2 => ?_)
      · replace q2 := of_decide_eq_true q2
        refine sx_RP.step (pc2 := 117) (ls2 := [(4, .int ((nI i) + 1)), (5, .long ((ja w 124).getD ((40 * s) + i) 0)), (0, .ref 111), (1, .int (nI s)), (2, .int (nI c)), (3, .int n)]) (st2 := []) (w3 := w) rfl rfl ?_
        rw [nI_1 i]
        refine sx_RP.step (pc2 := 46) (ls2 := [(4, .int (nI (i + 1))), (5, .long ((ja w 124).getD ((40 * s) + i) 0)), (0, .ref 111), (1, .int (nI s)), (2, .int (nI c)), (3, .int n)]) (st2 := []) (w3 := w) rfl rfl ?_
        have eN : NMs w0 s i = (ja w 124).getD (40 * s + i) 0 := by rw [NMs_at hs (by omega), ja_of (hO 124 (by decide))]
        have eL : laL (NMs w0 s) c (q + 1) i (ia w 112) n = laL (NMs w0 s) c q (i + 1) (ia w 112) n := by rw [laL, eN, if_neg (okB_2 q2)]
        rw [eL]
        exact sx_RP.ls (sx_lr.cons rfl (sx_lr.cons rfl (sx_lr.cons rfl (sx_lr.cons rfl (sx_lr.cons rfl sx_lr.nil))))) (X235L hs hz hc ez0 q (i + 1) w n (by omega) hI hO)
      · replace q2 := of_decide_eq_false q2
        refine sx_RP.step (pc2 := 97) (ls2 := [(5, .long ((ja w 124).getD ((40 * s) + i) 0)), (0, .ref 111), (1, .int (nI s)), (2, .int (nI c)), (3, .int n), (4, .int (nI i))]) (st2 := [.ref 111]) (w3 := w) rfl rfl ?_
        refine sx_RP.gf (v := .ref 112) rfl rfl hI.1.o111 rfl rfl (show _ = 100 from rfl) ?_
        refine sx_RP.step (pc2 := 102) (ls2 := [(5, .long ((ja w 124).getD ((40 * s) + i) 0)), (0, .ref 111), (1, .int (nI s)), (2, .int (nI c)), (3, .int n), (4, .int (nI i))]) (st2 := [.int 7, .ref 112]) (w3 := w) rfl rfl ?_
        refine sx_RP.step (pc2 := 103) (ls2 := [(5, .long ((ja w 124).getD ((40 * s) + i) 0)), (0, .ref 111), (1, .int (nI s)), (2, .int (nI c)), (3, .int n), (4, .int (nI i))]) (st2 := [.int (nI c), .int 7, .ref 112]) (w3 := w) rfl rfl ?_
        refine sx_RP.step (pc2 := 104) (ls2 := [(5, .long ((ja w 124).getD ((40 * s) + i) 0)), (0, .ref 111), (1, .int (nI s)), (2, .int (nI c)), (3, .int n), (4, .int (nI i))]) (st2 := [.int (7 + (nI c)), .ref 112]) (w3 := w) rfl rfl ?_
        rw [show (7 + (nI c) : Int32) = nI (7 + c) from nI_add 7 c]
        refine sx_RP.step (pc2 := 106) (ls2 := [(5, .long ((ja w 124).getD ((40 * s) + i) 0)), (0, .ref 111), (1, .int (nI s)), (2, .int (nI c)), (3, .int n), (4, .int (nI i))]) (st2 := [.int (nI i), .int (nI (7 + c)), .ref 112]) (w3 := w) rfl rfl ?_
        refine sx_RP.step (pc2 := 107) (ls2 := [(5, .long ((ja w 124).getD ((40 * s) + i) 0)), (0, .ref 111), (1, .int (nI s)), (2, .int (nI c)), (3, .int n), (4, .int (nI i))]) (st2 := [.int ((nI (7 + c)) + (nI i)), .ref 112]) (w3 := w) rfl rfl ?_
        rw [show ((nI (7 + c)) + (nI i) : Int32) = nI ((7 + c) + i) from nI_add (7 + c) i]
        refine sx_RP.step (pc2 := 109) (ls2 := [(5, .long ((ja w 124).getD ((40 * s) + i) 0)), (0, .ref 111), (1, .int (nI s)), (2, .int (nI c)), (3, .int n), (4, .int (nI i))]) (st2 := [.long ((ja w 124).getD ((40 * s) + i) 0), .int (nI ((7 + c) + i)), .ref 112]) (w3 := w) rfl rfl ?_
        refine sx_RP.step (pc2 := 110) (ls2 := [(5, .long ((ja w 124).getD ((40 * s) + i) 0)), (0, .ref 111), (1, .int (nI s)), (2, .int (nI c)), (3, .int n), (4, .int (nI i))]) (st2 := [.int (((ja w 124).getD ((40 * s) + i) 0).toInt32), .int (nI ((7 + c) + i)), .ref 112]) (w3 := w) rfl rfl ?_
        obtain ⟨x3, hx4, ex5⟩ := lay_rng q1 q2
        rw [ex5]
        refine sx_RP.xM (k := ((7 + c) + i)) hI (by decide) rfl (by omega) (eOK_st (by omega) (inR.n (show x3 ≤ 3 by omega))) (show _ = 111 from rfl) (fun w6 hI7 hs8 hv9 => ?_)
        refine sx_RP.step (pc2 := 114) (ls2 := [(3, .int (n + 1)), (5, .long ((ja w 124).getD ((40 * s) + i) 0)), (0, .ref 111), (1, .int (nI s)), (2, .int (nI c)), (4, .int (nI i))]) (st2 := []) (w3 := w6) rfl rfl ?_
        refine sx_RP.step (pc2 := 117) (ls2 := [(4, .int ((nI i) + 1)), (3, .int (n + 1)), (5, .long ((ja w 124).getD ((40 * s) + i) 0)), (0, .ref 111), (1, .int (nI s)), (2, .int (nI c))]) (st2 := []) (w3 := w6) rfl rfl ?_
        rw [nI_1 i]
        refine sx_RP.step (pc2 := 46) (ls2 := [(4, .int (nI (i + 1))), (3, .int (n + 1)), (5, .long ((ja w 124).getD ((40 * s) + i) 0)), (0, .ref 111), (1, .int (nI s)), (2, .int (nI c))]) (st2 := []) (w3 := w6) rfl rfl ?_
        have eN : NMs w0 s i = (ja w 124).getD (40 * s + i) 0 := by rw [NMs_at hs (by omega), ja_of (hO 124 (by decide))]
        have eL : laL (NMs w0 s) c (q + 1) i (ia w 112) n = laL (NMs w0 s) c q (i + 1) (ia w6 112) (n + 1) := by rw [laL, eN, if_pos (okB_y q1 q2), ex5, hv9, Nat.add_assoc]
        rw [eL]
        exact sx_RP.ls (sx_lr.cons rfl (sx_lr.cons rfl (sx_lr.cons rfl (sx_lr.cons rfl (sx_lr.cons rfl sx_lr.nil))))) (X235L hs hz hc ez0 q (i + 1) w6 _ (by omega) hI7 (hO.tr hs8))
set_option maxRecDepth 20000 in
set_option maxHeartbeats 4000000 in
theorem Y235 {xs : Option (List Int32)} {d : Nat} {w : List sx_C} (hI : WI w) (a1 a2 : Int32) : sx_RP xs (d + 7) 235 0 (lv_args 0 [.ref 111, .int a1, .int a2]) [] w (fun r w2 => (r = some (.int (lysA (FMs w) (NMs w) (ia w 112) a1 a2)) ∧ ia w2 112 = lysR (FMs w) (NMs w) (ia w 112) a1 a2) ∧ WI w2 ∧ EOm w w2) := by
  refine sx_RP.step (pc2 := 1) (ls2 := [(0, .ref 111), (1, .int a1), (2, .int a2)]) (st2 := [.int a1]) (w3 := w) rfl rfl ?_
  rcases in_cases a1 0 3 (m := 0) (n := 3) rfl rfl (by decide) (by decide) with q1 | ⟨x2, hx3, hx4, rfl⟩
  · refine sx_RP.cu (as := [.int a1]) (rest2 := []) (st3 := [.int 0]) rfl rfl rfl rfl rfl (cx_231n q1) rfl ?_
    refine sx_RP.step (pc2 := 7) (ls2 := [(0, .ref 111), (1, .int a1), (2, .int a2)]) (st2 := []) (w3 := w) rfl rfl ?_
    refine sx_RP.step (pc2 := 8) (ls2 := [(0, .ref 111), (1, .int a1), (2, .int a2)]) (st2 := [.ref 111]) (w3 := w) rfl rfl ?_
    refine sx_RP.step (pc2 := 9) (ls2 := [(0, .ref 111), (1, .int a1), (2, .int a2)]) (st2 := [.int 0, .ref 111]) (w3 := w) rfl rfl ?_
    refine sx_RP.callp (as2 := [.ref 111, .int 0]) (rest2 := []) rfl rfl (sx_inv_v2 (mi := 235) (k := 70) (st := [.int 0, .ref 111]) (w := w) rfl rfl hI.1.o111 rfl rfl rfl) rfl rfl rfl (S133_0 hI) (show _ = 12 from rfl) ?_
    rintro r4 w7 ⟨rfl, hI8, hs6⟩
    show sx_RP _ _ _ _ _ [.int (-1000000001)] _ _
    refine sx_RP.ret (r := (some (.int (-1000000001)))) rfl rfl ?_
    exact ⟨⟨by rw [(lys_1 q1).1], by rw [(lys_1 q1).2]; exact ia_of (hs6 112 (by decide))⟩, hI8, fun a ha => hs6 a (by unfold ocm at ha; omega)⟩
  · refine sx_RP.cu (as := [.int (nI x2)]) (rest2 := []) (st3 := [.int 1]) rfl rfl rfl rfl rfl (cx_231p ⟨nI_le (a := 0) hx3 (by omega), nI_le (b := 3) hx4 (by decide)⟩) rfl ?_
    refine sx_RP.step (pc2 := 13) (ls2 := [(0, .ref 111), (1, .int (nI x2)), (2, .int a2)]) (st2 := []) (w3 := w) rfl rfl ?_
    refine sx_RP.step (pc2 := 14) (ls2 := [(0, .ref 111), (1, .int (nI x2)), (2, .int a2)]) (st2 := [.ref 111]) (w3 := w) rfl rfl ?_
    refine sx_RP.gf (v := .ref 122) rfl rfl hI.1.o111 rfl rfl (show _ = 17 from rfl) ?_
    refine sx_RP.step (pc2 := 18) (ls2 := [(0, .ref 111), (1, .int (nI x2)), (2, .int a2)]) (st2 := [.int (nI x2), .ref 122]) (w3 := w) rfl rfl ?_
    refine sx_RP.ild (c := x2) rfl hI.1.a122.1 hI.1.a122.2 (sx_in_nI (show x2 < 4 by omega) (by decide)) (show (nI x2).toNatClampNeg = x2 from nI_clamp (by omega)) (show _ = 19 from rfl) ?_
    refine sx_RP.br (p1 := 28) (l1 := [(0, .ref 111), (1, .int (nI x2)), (2, .int a2)]) (s1 := []) (v1 := w) (p2 := 22) (l2 := [(0, .ref 111), (1, .int (nI x2)), (2, .int a2)]) (s2 := []) (v2 := w) rfl rfl (fun q9 => ?_) (fun q9 => ?_)
    · replace q9 := of_decide_eq_true q9
      refine sx_RP.step (pc2 := 29) (ls2 := [(0, .ref 111), (1, .int (nI x2)), (2, .int a2)]) (st2 := [.int a2]) (w3 := w) rfl rfl ?_
      rcases in_cases a2 0 47 (m := 0) (n := 47) rfl rfl (by decide) (by decide) with q10 | ⟨x11, hx12, hx13, rfl⟩
      · refine sx_RP.cu (as := [.int a2]) (rest2 := []) (st3 := [.int 0]) rfl rfl rfl rfl rfl (cx_131n q10) rfl ?_
        refine sx_RP.step (pc2 := 35) (ls2 := [(0, .ref 111), (1, .int (nI x2)), (2, .int a2)]) (st2 := []) (w3 := w) rfl rfl ?_
        refine sx_RP.step (pc2 := 36) (ls2 := [(0, .ref 111), (1, .int (nI x2)), (2, .int a2)]) (st2 := [.ref 111]) (w3 := w) rfl rfl ?_
        refine sx_RP.step (pc2 := 37) (ls2 := [(0, .ref 111), (1, .int (nI x2)), (2, .int a2)]) (st2 := [.int 0, .ref 111]) (w3 := w) rfl rfl ?_
        refine sx_RP.callp (as2 := [.ref 111, .int 0]) (rest2 := []) rfl rfl (sx_inv_v2 (mi := 235) (k := 70) (st := [.int 0, .ref 111]) (w := w) rfl rfl hI.1.o111 rfl rfl rfl) rfl rfl rfl (S133_0 hI) (show _ = 40 from rfl) ?_
        rintro r4 w16 ⟨rfl, hI17, hs15⟩
        show sx_RP _ _ _ _ _ [.int (-1000000001)] _ _
        refine sx_RP.ret (r := (some (.int (-1000000001)))) rfl rfl ?_
        exact ⟨⟨by rw [(lys_3 (F := FMs w) (N := NMs w) (l := ia w 112) (show x2 < 4 by omega) (FMs_at0 (by omega)) q9 q10).1], by rw [(lys_3 (F := FMs w) (N := NMs w) (l := ia w 112) (show x2 < 4 by omega) (FMs_at0 (by omega)) q9 q10).2]; exact ia_of (hs15 112 (by decide))⟩, hI17, fun a ha => hs15 a (by unfold ocm at ha; omega)⟩
      · refine sx_RP.cu (as := [.int (nI x11)]) (rest2 := []) (st3 := [.int 1]) rfl rfl rfl rfl rfl (cx_131p ⟨nI_le (a := 0) hx12 (by omega), nI_le (b := 47) hx13 (by decide)⟩) rfl ?_
        refine sx_RP.step (pc2 := 41) (ls2 := [(0, .ref 111), (1, .int (nI x2)), (2, .int (nI x11))]) (st2 := []) (w3 := w) rfl rfl ?_
        refine sx_RP.step (pc2 := 42) (ls2 := [(0, .ref 111), (1, .int (nI x2)), (2, .int (nI x11))]) (st2 := [.int 0]) (w3 := w) rfl rfl ?_
        refine sx_RP.step (pc2 := 43) (ls2 := [(3, .int 0), (0, .ref 111), (1, .int (nI x2)), (2, .int (nI x11))]) (st2 := []) (w3 := w) rfl rfl ?_
        refine sx_RP.step (pc2 := 44) (ls2 := [(3, .int 0), (0, .ref 111), (1, .int (nI x2)), (2, .int (nI x11))]) (st2 := [.int 0]) (w3 := w) rfl rfl ?_
        refine sx_RP.step (pc2 := 46) (ls2 := [(4, .int 0), (3, .int 0), (0, .ref 111), (1, .int (nI x2)), (2, .int (nI x11))]) (st2 := []) (w3 := w) rfl rfl ?_
        obtain ⟨z, hz, ez⟩ := hI.l (show x2 < 4 by omega)
        rw [(lys_4 (F := FMs w) (N := NMs w) (l := ia w 112) (show x2 < 4 by omega) hz (FMs_at (by omega) ez) q9 (show x11 < 48 by omega)).1, (lys_4 (F := FMs w) (N := NMs w) (l := ia w 112) (show x2 < 4 by omega) hz (FMs_at (by omega) ez) q9 (show x11 < 48 by omega)).2]
        exact sx_RP.ls (sx_lr.cons rfl (sx_lr.cons rfl (sx_lr.cons rfl (sx_lr.cons rfl (sx_lr.cons rfl sx_lr.nil))))) ((X235L (w0 := w) (show x2 < 4 by omega) hz (show x11 < 48 by omega) ez (min z (48 - x11)) 0 w 0 (by omega) hI (fun _ _ => rfl)).mono9 (fun r w2 q => ⟨q.1, q.2.1, fun a ha => q.2.2 a (by unfold ocm at ha; omega)⟩))
    · replace q9 := Decidable.not_not.mp (of_decide_eq_false q9)
      refine sx_RP.step (pc2 := 23) (ls2 := [(0, .ref 111), (1, .int (nI x2)), (2, .int a2)]) (st2 := [.ref 111]) (w3 := w) rfl rfl ?_
      refine sx_RP.step (pc2 := 24) (ls2 := [(0, .ref 111), (1, .int (nI x2)), (2, .int a2)]) (st2 := [.int 5, .ref 111]) (w3 := w) rfl rfl ?_
      refine sx_RP.callp (as2 := [.ref 111, .int 5]) (rest2 := []) rfl rfl (sx_inv_v2 (mi := 235) (k := 70) (st := [.int 5, .ref 111]) (w := w) rfl rfl hI.1.o111 rfl rfl rfl) rfl rfl rfl (S133_5 hI) (show _ = 27 from rfl) ?_
      rintro r4 w19 ⟨rfl, hI20, hs18⟩
      show sx_RP _ _ _ _ _ [.int (-1000000006)] _ _
      refine sx_RP.ret (r := (some (.int (-1000000006)))) rfl rfl ?_
      exact ⟨⟨by rw [(lys_2 (F := FMs w) (N := NMs w) (l := ia w 112) (show x2 < 4 by omega) (FMs_at0 (by omega)) q9).1], by rw [(lys_2 (F := FMs w) (N := NMs w) (l := ia w 112) (show x2 < 4 by omega) (FMs_at0 (by omega)) q9).2]; exact ia_of (hs18 112 (by decide))⟩, hI20, fun a ha => hs18 a (by unfold ocm at ha; omega)⟩
