-- 89y19.lays.lean.txt
section
def okB (v : Int64) : Bool := !(decide (lg_cmp v 0 < 0)) && !(decide (0 < lg_cmp v 3))
theorem okB_y {v : Int64} (h1 : ¬ lg_cmp v 0 < 0) (h2 : ¬ 0 < lg_cmp v 3) : okB v = true := by
  unfold okB
  rw [decide_eq_false h1, decide_eq_false h2]
  rfl
theorem okB_1 {v : Int64} (h1 : lg_cmp v 0 < 0) : ¬ okB v = true := by
  unfold okB
  rw [decide_eq_true h1, Bool.not_true, Bool.false_and]
  decide
theorem okB_2 {v : Int64} (h1 : 0 < lg_cmp v 3) : ¬ okB v = true := by
  unfold okB
  rw [decide_eq_true h1, Bool.not_true, Bool.and_false]
  decide
def laL (N : Nat → Int64) (c : Nat) : Nat → Nat → List Int32 → Int32 → List Int32 × Int32
  | 0, _, l, n => (l, n)
  | q + 1, i, l, n => if okB (N i) = true then laL N c q (i + 1) (l.set (7 + (c + i)) (N i).toInt32) (n + 1) else laL N c q (i + 1) l n
def lysA (F : Nat → Int32 × Int32) (N : Nat → Nat → Int64) (l : List Int32) (a1 a2 : Int32) : Int32 := if 0 ≤ a1 ∧ a1 ≤ 3 then (if (F (iN a1)).1 = 0 then -1000000006 else (if 0 ≤ a2 ∧ a2 ≤ 47 then (laL (N (iN a1)) (iN a2) (min (iN (F (iN a1)).2) (48 - iN a2)) 0 l 0).2 else -1000000001)) else -1000000001
def lysR (F : Nat → Int32 × Int32) (N : Nat → Nat → Int64) (l : List Int32) (a1 a2 : Int32) : List Int32 := if 0 ≤ a1 ∧ a1 ≤ 3 then (if (F (iN a1)).1 = 0 then l else (if 0 ≤ a2 ∧ a2 ≤ 47 then (laL (N (iN a1)) (iN a2) (min (iN (F (iN a1)).2) (48 - iN a2)) 0 l 0).1 else l)) else l
section SXLY
variable {F : Nat → Int32 × Int32} {N : Nat → Nat → Int64} {l : List Int32} {a1 a2 b : Int32} {s c z : Nat}
theorem lys_1 (h : ¬ (0 ≤ a1 ∧ a1 ≤ 3)) : lysA F N l a1 a2 = -1000000001 ∧ lysR F N l a1 a2 = l := ⟨if_neg h, if_neg h⟩
theorem lys_2 {y : Int32} (hs : s < 4) (e : F s = (b, y)) (h : b = 0) : lysA F N l (nI s) a2 = -1000000006 ∧ lysR F N l (nI s) a2 = l := by
  unfold lysA lysR
  rw [iN_n (by omega), e, if_pos (cp_r hs), if_pos (cp_r hs), if_pos h, if_pos h]
  exact ⟨rfl, rfl⟩
theorem lys_3 {y : Int32} (hs : s < 4) (e : F s = (b, y)) (h : ¬ b = 0) (h2 : ¬ (0 ≤ a2 ∧ a2 ≤ 47)) : lysA F N l (nI s) a2 = -1000000001 ∧ lysR F N l (nI s) a2 = l := by
  unfold lysA lysR
  rw [iN_n (by omega), e, if_pos (cp_r hs), if_pos (cp_r hs), if_neg h, if_neg h, if_neg h2, if_neg h2]
  exact ⟨rfl, rfl⟩
theorem lys_4 (hs : s < 4) (hz : z ≤ 40) (e : F s = (b, nI z)) (h : ¬ b = 0) (hc : c < 48) : lysA F N l (nI s) (nI c) = (laL (N s) c (min z (48 - c)) 0 l 0).2 ∧ lysR F N l (nI s) (nI c) = (laL (N s) c (min z (48 - c)) 0 l 0).1 := by
  unfold lysA lysR
  rw [iN_n (by omega), e, if_pos (cp_r hs), if_pos (cp_r hs), if_neg h, if_neg h, iN_n (by omega), iN_n (by omega), if_pos ⟨nI_le (a := 0) (Nat.zero_le _) (by omega), nI_le (b := 47) (by omega) (by decide)⟩, if_pos ⟨nI_le (a := 0) (Nat.zero_le _) (by omega), nI_le (b := 47) (by omega) (by decide)⟩]
  exact ⟨rfl, rfl⟩
end SXLY
set_option maxRecDepth 20000 in
set_option maxHeartbeats 4000000 in
theorem X120L {xs : Option (List Int32)} {d s c z : Nat} {w0 : List sx_C} (hs : s < 4) (hz : z ≤ 40) (hc : c < 48) (ez0 : fi w0 (103 + 2 * s) 2 = nI z) : ∀ (q i : Nat) (w : List sx_C) (l : List Int32) (n : Int32), i + q = min z (48 - c) → WI w → rel w 1 l → Out 1 w0 w → sx_RP xs (d + 7) 120 56 [(0, .ref 0), (1, .int (nI s)), (2, .int (nI c)), (3, .ref (103 + 2 * s)), (4, .int n), (5, .int (nI i))] [] w (fun r w2 => (r = some (.int ((laL (NCs w0 s) c q i l n).2)) ∧ rel w2 1 (laL (NCs w0 s) c q i l n).1) ∧ WI w2 ∧ Out 1 w0 w2)
  | 0, i, w, l, n, hi, hI, hR, hO => by
    have ez : fi w (103 + 2 * s) 2 = nI z := (fi_same 2 (hO (103 + 2 * s) (by omega))).trans ez0
    refine sx_RP.step (pc2 := 58) (ls2 := [(0, .ref 0), (1, .int (nI s)), (2, .int (nI c)), (3, .ref (103 + 2 * s)), (4, .int n), (5, .int (nI i))]) (st2 := [.int (nI i)]) (w3 := w) rfl rfl ?_
    refine sx_RP.step (pc2 := 59) (ls2 := [(0, .ref 0), (1, .int (nI s)), (2, .int (nI c)), (3, .ref (103 + 2 * s)), (4, .int n), (5, .int (nI i))]) (st2 := [.ref (103 + 2 * s), .int (nI i)]) (w3 := w) rfl rfl ?_
    refine sx_RP.gf (v := .int (fi w (103 + 2 * s) 2)) rfl rfl (hI.1.oS (show s < 4 by omega)) rfl rfl (show _ = 62 from rfl) ?_
    rw [ez]
    refine sx_RP.br (p1 := 123) (l1 := [(0, .ref 0), (1, .int (nI s)), (2, .int (nI c)), (3, .ref (103 + 2 * s)), (4, .int n), (5, .int (nI i))]) (s1 := []) (v1 := w) (p2 := 65) (l2 := [(0, .ref 0), (1, .int (nI s)), (2, .int (nI c)), (3, .ref (103 + 2 * s)), (4, .int n), (5, .int (nI i))]) (s2 := []) (v2 := w) rfl rfl (fun q1 => ?_) (fun q1 => ?_)
    · replace q1 := of_decide_eq_true q1
      replace q1 := (nI_leI (a := z) (b := i) (by omega) (by omega)).mp q1
      refine sx_RP.step (pc2 := 125) (ls2 := [(0, .ref 0), (1, .int (nI s)), (2, .int (nI c)), (3, .ref (103 + 2 * s)), (4, .int n), (5, .int (nI i))]) (st2 := [.int n]) (w3 := w) rfl rfl ?_
      refine sx_RP.ret (r := (some (.int n))) rfl rfl ?_
      exact ⟨⟨rfl, hR⟩, hI, hO⟩
    · replace q1 := of_decide_eq_false q1
      replace q1 := mt (nI_leI (a := z) (b := i) (by omega) (by omega)).mpr q1
      refine sx_RP.step (pc2 := 66) (ls2 := [(0, .ref 0), (1, .int (nI s)), (2, .int (nI c)), (3, .ref (103 + 2 * s)), (4, .int n), (5, .int (nI i))]) (st2 := [.int (nI c)]) (w3 := w) rfl rfl ?_
      refine sx_RP.step (pc2 := 68) (ls2 := [(0, .ref 0), (1, .int (nI s)), (2, .int (nI c)), (3, .ref (103 + 2 * s)), (4, .int n), (5, .int (nI i))]) (st2 := [.int (nI i), .int (nI c)]) (w3 := w) rfl rfl ?_
      refine sx_RP.step (pc2 := 69) (ls2 := [(0, .ref 0), (1, .int (nI s)), (2, .int (nI c)), (3, .ref (103 + 2 * s)), (4, .int n), (5, .int (nI i))]) (st2 := [.int ((nI c) + (nI i))]) (w3 := w) rfl rfl ?_
      rw [show ((nI c) + (nI i) : Int32) = nI (c + i) from nI_add c i]
      refine sx_RP.step (pc2 := 71) (ls2 := [(0, .ref 0), (1, .int (nI s)), (2, .int (nI c)), (3, .ref (103 + 2 * s)), (4, .int n), (5, .int (nI i))]) (st2 := [.int 48, .int (nI (c + i))]) (w3 := w) rfl rfl ?_
      refine sx_RP.br (p1 := 123) (l1 := [(0, .ref 0), (1, .int (nI s)), (2, .int (nI c)), (3, .ref (103 + 2 * s)), (4, .int n), (5, .int (nI i))]) (s1 := []) (v1 := w) rfl rfl (fun _ => ?_) (fun q => absurd (nI_le (a := 48) (b := c + i) (by omega) (by omega)) (of_decide_eq_false q))
      refine sx_RP.step (pc2 := 125) (ls2 := [(0, .ref 0), (1, .int (nI s)), (2, .int (nI c)), (3, .ref (103 + 2 * s)), (4, .int n), (5, .int (nI i))]) (st2 := [.int n]) (w3 := w) rfl rfl ?_
      refine sx_RP.ret (r := (some (.int n))) rfl rfl ?_
      exact ⟨⟨rfl, hR⟩, hI, hO⟩
  | q + 1, i, w, l, n, hi, hI, hR, hO => by
    have ez : fi w (103 + 2 * s) 2 = nI z := (fi_same 2 (hO (103 + 2 * s) (by omega))).trans ez0
    refine sx_RP.step (pc2 := 58) (ls2 := [(0, .ref 0), (1, .int (nI s)), (2, .int (nI c)), (3, .ref (103 + 2 * s)), (4, .int n), (5, .int (nI i))]) (st2 := [.int (nI i)]) (w3 := w) rfl rfl ?_
    refine sx_RP.step (pc2 := 59) (ls2 := [(0, .ref 0), (1, .int (nI s)), (2, .int (nI c)), (3, .ref (103 + 2 * s)), (4, .int n), (5, .int (nI i))]) (st2 := [.ref (103 + 2 * s), .int (nI i)]) (w3 := w) rfl rfl ?_
    refine sx_RP.gf (v := .int (fi w (103 + 2 * s) 2)) rfl rfl (hI.1.oS (show s < 4 by omega)) rfl rfl (show _ = 62 from rfl) ?_
    rw [ez]
    refine sx_RP.br (p2 := 65) (l2 := [(0, .ref 0), (1, .int (nI s)), (2, .int (nI c)), (3, .ref (103 + 2 * s)), (4, .int n), (5, .int (nI i))]) (s2 := []) (v2 := w) rfl rfl (fun q => absurd (of_decide_eq_true q) (fun zz => absurd ((nI_leI (a := z) (b := i) (by omega) (by omega)).mp zz) (by omega))) (fun _ => ?_)
    refine sx_RP.step (pc2 := 66) (ls2 := [(0, .ref 0), (1, .int (nI s)), (2, .int (nI c)), (3, .ref (103 + 2 * s)), (4, .int n), (5, .int (nI i))]) (st2 := [.int (nI c)]) (w3 := w) rfl rfl ?_
    refine sx_RP.step (pc2 := 68) (ls2 := [(0, .ref 0), (1, .int (nI s)), (2, .int (nI c)), (3, .ref (103 + 2 * s)), (4, .int n), (5, .int (nI i))]) (st2 := [.int (nI i), .int (nI c)]) (w3 := w) rfl rfl ?_
    refine sx_RP.step (pc2 := 69) (ls2 := [(0, .ref 0), (1, .int (nI s)), (2, .int (nI c)), (3, .ref (103 + 2 * s)), (4, .int n), (5, .int (nI i))]) (st2 := [.int ((nI c) + (nI i))]) (w3 := w) rfl rfl ?_
    rw [show ((nI c) + (nI i) : Int32) = nI (c + i) from nI_add c i]
    refine sx_RP.step (pc2 := 71) (ls2 := [(0, .ref 0), (1, .int (nI s)), (2, .int (nI c)), (3, .ref (103 + 2 * s)), (4, .int n), (5, .int (nI i))]) (st2 := [.int 48, .int (nI (c + i))]) (w3 := w) rfl rfl ?_
    refine sx_RP.br (p2 := 74) (l2 := [(0, .ref 0), (1, .int (nI s)), (2, .int (nI c)), (3, .ref (103 + 2 * s)), (4, .int n), (5, .int (nI i))]) (s2 := []) (v2 := w) rfl rfl (fun q => absurd (of_decide_eq_true q) (fun z => absurd ((nI_leI (a := 48) (b := c + i) (by omega) (by omega)).mp z) (by omega))) (fun _ => ?_)
    refine sx_RP.step (pc2 := 75) (ls2 := [(0, .ref 0), (1, .int (nI s)), (2, .int (nI c)), (3, .ref (103 + 2 * s)), (4, .int n), (5, .int (nI i))]) (st2 := [.ref (103 + 2 * s)]) (w3 := w) rfl rfl ?_
    refine sx_RP.gf (v := .ref (104 + 2 * s)) rfl rfl (hI.1.oS (show s < 4 by omega)) rfl rfl (show _ = 78 from rfl) ?_
    refine sx_RP.step (pc2 := 80) (ls2 := [(0, .ref 0), (1, .int (nI s)), (2, .int (nI c)), (3, .ref (103 + 2 * s)), (4, .int n), (5, .int (nI i))]) (st2 := [.int (nI i), .ref (104 + 2 * s)]) (w3 := w) rfl rfl ?_
    refine sx_RP.lld (c := i) rfl (hI.1.aN (show s < 4 by omega)).1 (hI.1.aN (show s < 4 by omega)).2 (sx_in_nI (show i < 40 by omega) (by decide)) (show (nI i).toNatClampNeg = i from nI_clamp (by omega)) (show _ = 81 from rfl) ?_
    refine sx_RP.step (pc2 := 83) (ls2 := [(6, .long ((ja w (104 + 2 * s)).getD i 0)), (0, .ref 0), (1, .int (nI s)), (2, .int (nI c)), (3, .ref (103 + 2 * s)), (4, .int n), (5, .int (nI i))]) (st2 := []) (w3 := w) rfl rfl ?_
    refine sx_RP.step (pc2 := 85) (ls2 := [(6, .long ((ja w (104 + 2 * s)).getD i 0)), (0, .ref 0), (1, .int (nI s)), (2, .int (nI c)), (3, .ref (103 + 2 * s)), (4, .int n), (5, .int (nI i))]) (st2 := [.long ((ja w (104 + 2 * s)).getD i 0)]) (w3 := w) rfl rfl ?_
    refine sx_RP.step (pc2 := 86) (ls2 := [(6, .long ((ja w (104 + 2 * s)).getD i 0)), (0, .ref 0), (1, .int (nI s)), (2, .int (nI c)), (3, .ref (103 + 2 * s)), (4, .int n), (5, .int (nI i))]) (st2 := [.long 0, .long ((ja w (104 + 2 * s)).getD i 0)]) (w3 := w) rfl rfl ?_
    refine sx_RP.step (pc2 := 87) (ls2 := [(6, .long ((ja w (104 + 2 * s)).getD i 0)), (0, .ref 0), (1, .int (nI s)), (2, .int (nI c)), (3, .ref (103 + 2 * s)), (4, .int n), (5, .int (nI i))]) (st2 := [.int (lg_cmp ((ja w (104 + 2 * s)).getD i 0) 0)]) (w3 := w) rfl rfl ?_
    refine sx_RP.br (p1 := 117) (l1 := [(6, .long ((ja w (104 + 2 * s)).getD i 0)), (0, .ref 0), (1, .int (nI s)), (2, .int (nI c)), (3, .ref (103 + 2 * s)), (4, .int n), (5, .int (nI i))]) (s1 := []) (v1 := w) (p2 := 90) (l2 := [(6, .long ((ja w (104 + 2 * s)).getD i 0)), (0, .ref 0), (1, .int (nI s)), (2, .int (nI c)), (3, .ref (103 + 2 * s)), (4, .int n), (5, .int (nI i))]) (s2 := []) (v2 := w) rfl rfl (fun q1 => ?_) (fun q1 => ?_)
    · replace q1 := of_decide_eq_true q1
      refine sx_RP.step (pc2 := 120) (ls2 := [(5, .int ((nI i) + 1)), (6, .long ((ja w (104 + 2 * s)).getD i 0)), (0, .ref 0), (1, .int (nI s)), (2, .int (nI c)), (3, .ref (103 + 2 * s)), (4, .int n)]) (st2 := []) (w3 := w) rfl rfl ?_
      rw [nI_1 i]
      refine sx_RP.step (pc2 := 56) (ls2 := [(5, .int (nI (i + 1))), (6, .long ((ja w (104 + 2 * s)).getD i 0)), (0, .ref 0), (1, .int (nI s)), (2, .int (nI c)), (3, .ref (103 + 2 * s)), (4, .int n)]) (st2 := []) (w3 := w) rfl rfl ?_
      have eN : NCs w0 s i = (ja w (104 + 2 * s)).getD i 0 := by rw [NCs_at hs (by omega), ja_of (hO (104 + 2 * s) (by omega))]
      have eL : laL (NCs w0 s) c (q + 1) i l n = laL (NCs w0 s) c q (i + 1) l n := by rw [laL, eN, if_neg (okB_1 q1)]
      rw [eL]
      exact sx_RP.ls (sx_lr.cons rfl (sx_lr.cons rfl (sx_lr.cons rfl (sx_lr.cons rfl (sx_lr.cons rfl (sx_lr.cons rfl sx_lr.nil)))))) (X120L hs hz hc ez0 q (i + 1) w l n (by omega) hI hR hO)
    · replace q1 := of_decide_eq_false q1
      refine sx_RP.step (pc2 := 92) (ls2 := [(6, .long ((ja w (104 + 2 * s)).getD i 0)), (0, .ref 0), (1, .int (nI s)), (2, .int (nI c)), (3, .ref (103 + 2 * s)), (4, .int n), (5, .int (nI i))]) (st2 := [.long ((ja w (104 + 2 * s)).getD i 0)]) (w3 := w) rfl rfl ?_
      refine sx_RP.step (pc2 := 95) (ls2 := [(6, .long ((ja w (104 + 2 * s)).getD i 0)), (0, .ref 0), (1, .int (nI s)), (2, .int (nI c)), (3, .ref (103 + 2 * s)), (4, .int n), (5, .int (nI i))]) (st2 := [.long 3, .long ((ja w (104 + 2 * s)).getD i 0)]) (w3 := w) rfl rfl ?_
      refine sx_RP.step (pc2 := 96) (ls2 := [(6, .long ((ja w (104 + 2 * s)).getD i 0)), (0, .ref 0), (1, .int (nI s)), (2, .int (nI c)), (3, .ref (103 + 2 * s)), (4, .int n), (5, .int (nI i))]) (st2 := [.int (lg_cmp ((ja w (104 + 2 * s)).getD i 0) 3)]) (w3 := w) rfl rfl ?_
      refine sx_RP.br (p1 := 117) (l1 := [(6, .long ((ja w (104 + 2 * s)).getD i 0)), (0, .ref 0), (1, .int (nI s)), (2, .int (nI c)), (3, .ref (103 + 2 * s)), (4, .int n), (5, .int (nI i))]) (s1 := []) (v1 := w) (p2 := 99) (l2 := [(6, .long ((ja w (104 + 2 * s)).getD i 0)), (0, .ref 0), (1, .int (nI s)), (2, .int (nI c)), (3, .ref (103 + 2 * s)), (4, .int n), (5, .int (nI i))]) (s2 := []) (v2 := w) rfl rfl (fun q2 => ?_) (fun q2 => ?_)
      · replace q2 := of_decide_eq_true q2
        refine sx_RP.step (pc2 := 120) (ls2 := [(5, .int ((nI i) + 1)), (6, .long ((ja w (104 + 2 * s)).getD i 0)), (0, .ref 0), (1, .int (nI s)), (2, .int (nI c)), (3, .ref (103 + 2 * s)), (4, .int n)]) (st2 := []) (w3 := w) rfl rfl ?_
        rw [nI_1 i]
        refine sx_RP.step (pc2 := 56) (ls2 := [(5, .int (nI (i + 1))), (6, .long ((ja w (104 + 2 * s)).getD i 0)), (0, .ref 0), (1, .int (nI s)), (2, .int (nI c)), (3, .ref (103 + 2 * s)), (4, .int n)]) (st2 := []) (w3 := w) rfl rfl ?_
        have eN : NCs w0 s i = (ja w (104 + 2 * s)).getD i 0 := by rw [NCs_at hs (by omega), ja_of (hO (104 + 2 * s) (by omega))]
        have eL : laL (NCs w0 s) c (q + 1) i l n = laL (NCs w0 s) c q (i + 1) l n := by rw [laL, eN, if_neg (okB_2 q2)]
        rw [eL]
        exact sx_RP.ls (sx_lr.cons rfl (sx_lr.cons rfl (sx_lr.cons rfl (sx_lr.cons rfl (sx_lr.cons rfl (sx_lr.cons rfl sx_lr.nil)))))) (X120L hs hz hc ez0 q (i + 1) w l n (by omega) hI hR hO)
      · replace q2 := of_decide_eq_false q2
        refine sx_RP.step (pc2 := 100) (ls2 := [(6, .long ((ja w (104 + 2 * s)).getD i 0)), (0, .ref 0), (1, .int (nI s)), (2, .int (nI c)), (3, .ref (103 + 2 * s)), (4, .int n), (5, .int (nI i))]) (st2 := [.ref 0]) (w3 := w) rfl rfl ?_
        refine sx_RP.gf (v := .ref 1) rfl rfl hI.1.o0 rfl rfl (show _ = 103 from rfl) ?_
        refine sx_RP.gref (k := 0) (b := 2) hI (Or.inl rfl) rfl rfl (by omega) (show _ = 106 from rfl) ?_
        refine sx_RP.step (pc2 := 107) (ls2 := [(6, .long ((ja w (104 + 2 * s)).getD i 0)), (0, .ref 0), (1, .int (nI s)), (2, .int (nI c)), (3, .ref (103 + 2 * s)), (4, .int n), (5, .int (nI i))]) (st2 := [.int (nI c), .ref 2]) (w3 := w) rfl rfl ?_
        refine sx_RP.step (pc2 := 109) (ls2 := [(6, .long ((ja w (104 + 2 * s)).getD i 0)), (0, .ref 0), (1, .int (nI s)), (2, .int (nI c)), (3, .ref (103 + 2 * s)), (4, .int n), (5, .int (nI i))]) (st2 := [.int (nI i), .int (nI c), .ref 2]) (w3 := w) rfl rfl ?_
        refine sx_RP.step (pc2 := 110) (ls2 := [(6, .long ((ja w (104 + 2 * s)).getD i 0)), (0, .ref 0), (1, .int (nI s)), (2, .int (nI c)), (3, .ref (103 + 2 * s)), (4, .int n), (5, .int (nI i))]) (st2 := [.int ((nI c) + (nI i)), .ref 2]) (w3 := w) rfl rfl ?_
        rw [show ((nI c) + (nI i) : Int32) = nI (c + i) from nI_add c i]
        refine sx_RP.step (pc2 := 112) (ls2 := [(6, .long ((ja w (104 + 2 * s)).getD i 0)), (0, .ref 0), (1, .int (nI s)), (2, .int (nI c)), (3, .ref (103 + 2 * s)), (4, .int n), (5, .int (nI i))]) (st2 := [.long ((ja w (104 + 2 * s)).getD i 0), .int (nI (c + i)), .ref 2]) (w3 := w) rfl rfl ?_
        refine sx_RP.step (pc2 := 113) (ls2 := [(6, .long ((ja w (104 + 2 * s)).getD i 0)), (0, .ref 0), (1, .int (nI s)), (2, .int (nI c)), (3, .ref (103 + 2 * s)), (4, .int n), (5, .int (nI i))]) (st2 := [.int (((ja w (104 + 2 * s)).getD i 0).toInt32), .int (nI (c + i)), .ref 2]) (w3 := w) rfl rfl ?_
        obtain ⟨x3, hx4, ex5⟩ := lay_rng q1 q2
        rw [ex5]
        refine sx_RP.xS (A := 1) (c := (c + i)) hI (Or.inl rfl) rfl (show (c + i) < 48 by omega) (inR.n (show x3 ≤ 3 by omega)) (show _ = 114 from rfl) (fun w6 hI7 hs8 hv9 => ?_)
        have ex10 := (fi_same 2 (hs8 (103 + 2 * s) (by omega))).trans ez
        refine sx_RP.step (pc2 := 117) (ls2 := [(4, .int (n + 1)), (6, .long ((ja w (104 + 2 * s)).getD i 0)), (0, .ref 0), (1, .int (nI s)), (2, .int (nI c)), (3, .ref (103 + 2 * s)), (5, .int (nI i))]) (st2 := []) (w3 := w6) rfl rfl ?_
        refine sx_RP.step (pc2 := 120) (ls2 := [(5, .int ((nI i) + 1)), (4, .int (n + 1)), (6, .long ((ja w (104 + 2 * s)).getD i 0)), (0, .ref 0), (1, .int (nI s)), (2, .int (nI c)), (3, .ref (103 + 2 * s))]) (st2 := []) (w3 := w6) rfl rfl ?_
        rw [nI_1 i]
        refine sx_RP.step (pc2 := 56) (ls2 := [(5, .int (nI (i + 1))), (4, .int (n + 1)), (6, .long ((ja w (104 + 2 * s)).getD i 0)), (0, .ref 0), (1, .int (nI s)), (2, .int (nI c)), (3, .ref (103 + 2 * s))]) (st2 := []) (w3 := w6) rfl rfl ?_
        have eN : NCs w0 s i = (ja w (104 + 2 * s)).getD i 0 := by rw [NCs_at hs (by omega), ja_of (hO (104 + 2 * s) (by omega))]
        have eL : laL (NCs w0 s) c (q + 1) i l n = laL (NCs w0 s) c q (i + 1) (l.set (7 + (c + i)) (nI x3)) (n + 1) := by rw [laL, eN, if_pos (okB_y q1 q2), ex5]
        rw [eL]
        exact sx_RP.ls (sx_lr.cons rfl (sx_lr.cons rfl (sx_lr.cons rfl (sx_lr.cons rfl (sx_lr.cons rfl (sx_lr.cons rfl sx_lr.nil)))))) (X120L hs hz hc ez0 q (i + 1) w6 _ _ (by omega) hI7 (hR.sGr hI (Or.inl rfl) (by omega) hs8 hv9) (hO.tr (hs8.out (by omega))))
set_option maxRecDepth 20000 in
set_option maxHeartbeats 4000000 in
theorem Z120 {xs : Option (List Int32)} {d : Nat} {w : List sx_C} (hI : WI w) (l : List Int32) (hR : rel w 1 l) (a1 a2 : Int32) : sx_RP xs (d + 7) 120 0 (lv_args 0 [.ref 0, .int a1, .int a2]) [] w (fun r w2 => (r = some (.int (lysA (FCs w) (NCs w) l a1 a2)) ∧ rel w2 1 (lysR (FCs w) (NCs w) l a1 a2)) ∧ WI w2 ∧ EO w w2) := by
  refine sx_RP.step (pc2 := 1) (ls2 := [(0, .ref 0), (1, .int a1), (2, .int a2)]) (st2 := [.int a1]) (w3 := w) rfl rfl ?_
  rcases in_cases a1 0 3 (m := 0) (n := 3) rfl rfl (by decide) (by decide) with q1 | ⟨x2, hx3, hx4, rfl⟩
  · refine sx_RP.cu (as := [.int a1]) (rest2 := []) (st3 := [.int 0]) rfl rfl rfl rfl rfl (cx_112n q1) rfl ?_
    refine sx_RP.step (pc2 := 7) (ls2 := [(0, .ref 0), (1, .int a1), (2, .int a2)]) (st2 := []) (w3 := w) rfl rfl ?_
    refine sx_RP.step (pc2 := 8) (ls2 := [(0, .ref 0), (1, .int a1), (2, .int a2)]) (st2 := [.ref 0]) (w3 := w) rfl rfl ?_
    refine sx_RP.step (pc2 := 10) (ls2 := [(0, .ref 0), (1, .int a1), (2, .int a2)]) (st2 := [.int (-1000000001), .ref 0]) (w3 := w) rfl rfl ?_
    refine sx_RP.callp (as2 := [.ref 0, .int (-1000000001)]) (rest2 := []) rfl rfl (sx_inv_v2 (mi := 120) (k := 78) (st := [.int (-1000000001), .ref 0]) (w := w) rfl rfl hI.1.o0 rfl rfl rfl) rfl rfl rfl (S9_0 hI) (show _ = 13 from rfl) ?_
    rintro r4 w7 ⟨rfl, hI8, hs6⟩
    show sx_RP _ _ _ _ _ [.int (-1000000001)] _ _
    refine sx_RP.ret (r := (some (.int (-1000000001)))) rfl rfl ?_
    exact ⟨⟨by rw [(lys_1 (F := FCs w) (N := NCs w) (l := l) q1).1], by rw [(lys_1 (F := FCs w) (N := NCs w) (l := l) q1).2]; exact hR.same hI (Or.inl rfl) (fun a h1 h2 => hs6 a (by omega))⟩, hI8, fun a ha => hs6 a (by unfold oc at ha; omega)⟩
  · refine sx_RP.cu (as := [.int (nI x2)]) (rest2 := []) (st3 := [.int 1]) rfl rfl rfl rfl rfl (cx_112p ⟨nI_le (a := 0) hx3 (by omega), nI_le (b := 3) hx4 (by decide)⟩) rfl ?_
    refine sx_RP.step (pc2 := 14) (ls2 := [(0, .ref 0), (1, .int (nI x2)), (2, .int a2)]) (st2 := []) (w3 := w) rfl rfl ?_
    refine sx_RP.step (pc2 := 15) (ls2 := [(0, .ref 0), (1, .int (nI x2)), (2, .int a2)]) (st2 := [.ref 0]) (w3 := w) rfl rfl ?_
    refine sx_RP.gf (v := .ref 98) rfl rfl hI.1.o0 rfl rfl (show _ = 18 from rfl) ?_
    refine sx_RP.step (pc2 := 19) (ls2 := [(0, .ref 0), (1, .int (nI x2)), (2, .int a2)]) (st2 := [.int (nI x2), .ref 98]) (w3 := w) rfl rfl ?_
    refine sx_RP.ald (v := .ref (103 + 2 * x2)) rfl hI.1.a98 rfl (shA_at (show x2 < 4 by omega)) (show _ = 20 from rfl) ?_
    refine sx_RP.step (pc2 := 21) (ls2 := [(3, .ref (103 + 2 * x2)), (0, .ref 0), (1, .int (nI x2)), (2, .int a2)]) (st2 := []) (w3 := w) rfl rfl ?_
    refine sx_RP.step (pc2 := 22) (ls2 := [(3, .ref (103 + 2 * x2)), (0, .ref 0), (1, .int (nI x2)), (2, .int a2)]) (st2 := [.ref (103 + 2 * x2)]) (w3 := w) rfl rfl ?_
    rcases Decidable.em (fi w (103 + 2 * x2) 1 = 0) with c9 | c9
    · refine sx_RP.cu (as := [.ref (103 + 2 * x2)]) (rest2 := []) (st3 := [.int 1]) rfl rfl (sx_inv_v2 (mi := 120) (k := 310) (st := [.ref (103 + 2 * x2)]) (w := w) rfl rfl (hI.1.oS (show x2 < 4 by omega)) rfl rfl rfl) rfl rfl (p116y hI (show x2 < 4 by omega) c9) rfl ?_
      refine sx_RP.step (pc2 := 28) (ls2 := [(3, .ref (103 + 2 * x2)), (0, .ref 0), (1, .int (nI x2)), (2, .int a2)]) (st2 := []) (w3 := w) rfl rfl ?_
      refine sx_RP.step (pc2 := 29) (ls2 := [(3, .ref (103 + 2 * x2)), (0, .ref 0), (1, .int (nI x2)), (2, .int a2)]) (st2 := [.ref 0]) (w3 := w) rfl rfl ?_
      refine sx_RP.step (pc2 := 32) (ls2 := [(3, .ref (103 + 2 * x2)), (0, .ref 0), (1, .int (nI x2)), (2, .int a2)]) (st2 := [.int (-1000000006), .ref 0]) (w3 := w) rfl rfl ?_
      refine sx_RP.callp (as2 := [.ref 0, .int (-1000000006)]) (rest2 := []) rfl rfl (sx_inv_v2 (mi := 120) (k := 78) (st := [.int (-1000000006), .ref 0]) (w := w) rfl rfl hI.1.o0 rfl rfl rfl) rfl rfl rfl (S9_5 hI) (show _ = 35 from rfl) ?_
      rintro r4 w11 ⟨rfl, hI12, hs10⟩
      show sx_RP _ _ _ _ _ [.int (-1000000006)] _ _
      refine sx_RP.ret (r := (some (.int (-1000000006)))) rfl rfl ?_
      exact ⟨⟨by rw [(lys_2 (F := FCs w) (N := NCs w) (l := l) (show x2 < 4 by omega) (FCs_at (by omega)) c9).1], by rw [(lys_2 (F := FCs w) (N := NCs w) (l := l) (show x2 < 4 by omega) (FCs_at (by omega)) c9).2]; exact hR.same hI (Or.inl rfl) (fun a h1 h2 => hs10 a (by omega))⟩, hI12, fun a ha => hs10 a (by unfold oc at ha; omega)⟩
    · refine sx_RP.cu (as := [.ref (103 + 2 * x2)]) (rest2 := []) (st3 := [.int 0]) rfl rfl (sx_inv_v2 (mi := 120) (k := 310) (st := [.ref (103 + 2 * x2)]) (w := w) rfl rfl (hI.1.oS (show x2 < 4 by omega)) rfl rfl rfl) rfl rfl (p116n hI (show x2 < 4 by omega) c9) rfl ?_
      refine sx_RP.step (pc2 := 36) (ls2 := [(3, .ref (103 + 2 * x2)), (0, .ref 0), (1, .int (nI x2)), (2, .int a2)]) (st2 := []) (w3 := w) rfl rfl ?_
      refine sx_RP.step (pc2 := 37) (ls2 := [(3, .ref (103 + 2 * x2)), (0, .ref 0), (1, .int (nI x2)), (2, .int a2)]) (st2 := [.int a2]) (w3 := w) rfl rfl ?_
      rcases in_cases a2 0 47 (m := 0) (n := 47) rfl rfl (by decide) (by decide) with q13 | ⟨x14, hx15, hx16, rfl⟩
      · refine sx_RP.cu (as := [.int a2]) (rest2 := []) (st3 := [.int 0]) rfl rfl rfl rfl rfl (cx_7n q13) rfl ?_
        refine sx_RP.step (pc2 := 43) (ls2 := [(3, .ref (103 + 2 * x2)), (0, .ref 0), (1, .int (nI x2)), (2, .int a2)]) (st2 := []) (w3 := w) rfl rfl ?_
        refine sx_RP.step (pc2 := 44) (ls2 := [(3, .ref (103 + 2 * x2)), (0, .ref 0), (1, .int (nI x2)), (2, .int a2)]) (st2 := [.ref 0]) (w3 := w) rfl rfl ?_
        refine sx_RP.step (pc2 := 46) (ls2 := [(3, .ref (103 + 2 * x2)), (0, .ref 0), (1, .int (nI x2)), (2, .int a2)]) (st2 := [.int (-1000000001), .ref 0]) (w3 := w) rfl rfl ?_
        refine sx_RP.callp (as2 := [.ref 0, .int (-1000000001)]) (rest2 := []) rfl rfl (sx_inv_v2 (mi := 120) (k := 78) (st := [.int (-1000000001), .ref 0]) (w := w) rfl rfl hI.1.o0 rfl rfl rfl) rfl rfl rfl (S9_0 hI) (show _ = 49 from rfl) ?_
        rintro r4 w19 ⟨rfl, hI20, hs18⟩
        show sx_RP _ _ _ _ _ [.int (-1000000001)] _ _
        refine sx_RP.ret (r := (some (.int (-1000000001)))) rfl rfl ?_
        exact ⟨⟨by rw [(lys_3 (F := FCs w) (N := NCs w) (l := l) (show x2 < 4 by omega) (FCs_at (by omega)) c9 q13).1], by rw [(lys_3 (F := FCs w) (N := NCs w) (l := l) (show x2 < 4 by omega) (FCs_at (by omega)) c9 q13).2]; exact hR.same hI (Or.inl rfl) (fun a h1 h2 => hs18 a (by omega))⟩, hI20, fun a ha => hs18 a (by unfold oc at ha; omega)⟩
      · refine sx_RP.cu (as := [.int (nI x14)]) (rest2 := []) (st3 := [.int 1]) rfl rfl rfl rfl rfl (cx_7p ⟨nI_le (a := 0) hx15 (by omega), nI_le (b := 47) hx16 (by decide)⟩) rfl ?_
        refine sx_RP.step (pc2 := 50) (ls2 := [(3, .ref (103 + 2 * x2)), (0, .ref 0), (1, .int (nI x2)), (2, .int (nI x14))]) (st2 := []) (w3 := w) rfl rfl ?_
        refine sx_RP.step (pc2 := 51) (ls2 := [(3, .ref (103 + 2 * x2)), (0, .ref 0), (1, .int (nI x2)), (2, .int (nI x14))]) (st2 := [.int 0]) (w3 := w) rfl rfl ?_
        refine sx_RP.step (pc2 := 53) (ls2 := [(4, .int 0), (3, .ref (103 + 2 * x2)), (0, .ref 0), (1, .int (nI x2)), (2, .int (nI x14))]) (st2 := []) (w3 := w) rfl rfl ?_
        refine sx_RP.step (pc2 := 54) (ls2 := [(4, .int 0), (3, .ref (103 + 2 * x2)), (0, .ref 0), (1, .int (nI x2)), (2, .int (nI x14))]) (st2 := [.int 0]) (w3 := w) rfl rfl ?_
        refine sx_RP.step (pc2 := 56) (ls2 := [(5, .int 0), (4, .int 0), (3, .ref (103 + 2 * x2)), (0, .ref 0), (1, .int (nI x2)), (2, .int (nI x14))]) (st2 := []) (w3 := w) rfl rfl ?_
        obtain ⟨z, hz, ez⟩ := hI.sh (show x2 < 4 by omega)
        rw [(lys_4 (F := FCs w) (N := NCs w) (l := l) (show x2 < 4 by omega) hz ((FCs_at (by omega)).trans (by rw [ez])) c9 (show x14 < 48 by omega)).1, (lys_4 (F := FCs w) (N := NCs w) (l := l) (show x2 < 4 by omega) hz ((FCs_at (by omega)).trans (by rw [ez])) c9 (show x14 < 48 by omega)).2]
        exact sx_RP.ls (sx_lr.cons rfl (sx_lr.cons rfl (sx_lr.cons rfl (sx_lr.cons rfl (sx_lr.cons rfl (sx_lr.cons rfl sx_lr.nil)))))) ((X120L (w0 := w) (show x2 < 4 by omega) hz (show x14 < 48 by omega) ez (min z (48 - x14)) 0 w l 0 (by omega) hI hR (fun _ _ => rfl)).mono9 (fun r w2 q => ⟨q.1, q.2.1, q.2.2.eo⟩))
set_option maxRecDepth 20000 in
set_option maxHeartbeats 4000000 in
theorem X235L {xs : Option (List Int32)} {d s c z : Nat} {w0 : List sx_C} (hs : s < 4) (hz : z ≤ 40) (hc : c < 48) (ez0 : (ia w0 123).getD s 0 = nI z) : ∀ (q i : Nat) (w : List sx_C) (n : Int32), i + q = min z (48 - c) → WI w → Same 112 w0 w → sx_RP xs (d + 7) 235 46 [(0, .ref 111), (1, .int (nI s)), (2, .int (nI c)), (3, .int n), (4, .int (nI i))] [] w (fun r w2 => (r = some (.int ((laL (NMs w0 s) c q i (ia w 112) n).2)) ∧ ia w2 112 = (laL (NMs w0 s) c q i (ia w 112) n).1) ∧ WI w2 ∧ Same 112 w0 w2)
  | 0, i, w, n, hi, hI, hO => by
    have ez : (ia w 123).getD s 0 = nI z := by rw [ia_of (hO 123 (by decide))]; exact ez0
    refine sx_RP.step (pc2 := 48) (ls2 := [(0, .ref 111), (1, .int (nI s)), (2, .int (nI c)), (3, .int n), (4, .int (nI i))]) (st2 := [.int (nI i)]) (w3 := w) rfl rfl ?_
    refine sx_RP.step (pc2 := 49) (ls2 := [(0, .ref 111), (1, .int (nI s)), (2, .int (nI c)), (3, .int n), (4, .int (nI i))]) (st2 := [.ref 111, .int (nI i)]) (w3 := w) rfl rfl ?_
    refine sx_RP.gf (v := .ref 123) rfl rfl hI.1.o111 rfl rfl (show _ = 52 from rfl) ?_
    refine sx_RP.step (pc2 := 53) (ls2 := [(0, .ref 111), (1, .int (nI s)), (2, .int (nI c)), (3, .int n), (4, .int (nI i))]) (st2 := [.int (nI s), .ref 123, .int (nI i)]) (w3 := w) rfl rfl ?_
    refine sx_RP.ild (c := s) rfl hI.1.a123.1 hI.1.a123.2 (sx_in_nI (show s < 4 by omega) (by decide)) (show (nI s).toNatClampNeg = s from nI_clamp (by omega)) (show _ = 54 from rfl) ?_
    rw [ez]
    refine sx_RP.br (p1 := 120) (l1 := [(0, .ref 111), (1, .int (nI s)), (2, .int (nI c)), (3, .int n), (4, .int (nI i))]) (s1 := []) (v1 := w) (p2 := 57) (l2 := [(0, .ref 111), (1, .int (nI s)), (2, .int (nI c)), (3, .int n), (4, .int (nI i))]) (s2 := []) (v2 := w) rfl rfl (fun q1 => ?_) (fun q1 => ?_)
    · replace q1 := of_decide_eq_true q1
      replace q1 := (nI_leI (a := z) (b := i) (by omega) (by omega)).mp q1
      refine sx_RP.step (pc2 := 121) (ls2 := [(0, .ref 111), (1, .int (nI s)), (2, .int (nI c)), (3, .int n), (4, .int (nI i))]) (st2 := [.int n]) (w3 := w) rfl rfl ?_
      refine sx_RP.ret (r := (some (.int n))) rfl rfl ?_
      exact ⟨⟨rfl, rfl⟩, hI, hO⟩
    · replace q1 := of_decide_eq_false q1
      replace q1 := mt (nI_leI (a := z) (b := i) (by omega) (by omega)).mpr q1
      refine sx_RP.step (pc2 := 58) (ls2 := [(0, .ref 111), (1, .int (nI s)), (2, .int (nI c)), (3, .int n), (4, .int (nI i))]) (st2 := [.int (nI c)]) (w3 := w) rfl rfl ?_
      refine sx_RP.step (pc2 := 60) (ls2 := [(0, .ref 111), (1, .int (nI s)), (2, .int (nI c)), (3, .int n), (4, .int (nI i))]) (st2 := [.int (nI i), .int (nI c)]) (w3 := w) rfl rfl ?_
      refine sx_RP.step (pc2 := 61) (ls2 := [(0, .ref 111), (1, .int (nI s)), (2, .int (nI c)), (3, .int n), (4, .int (nI i))]) (st2 := [.int ((nI c) + (nI i))]) (w3 := w) rfl rfl ?_
      rw [show ((nI c) + (nI i) : Int32) = nI (c + i) from nI_add c i]
      refine sx_RP.step (pc2 := 63) (ls2 := [(0, .ref 111), (1, .int (nI s)), (2, .int (nI c)), (3, .int n), (4, .int (nI i))]) (st2 := [.int 48, .int (nI (c + i))]) (w3 := w) rfl rfl ?_
      refine sx_RP.br (p1 := 120) (l1 := [(0, .ref 111), (1, .int (nI s)), (2, .int (nI c)), (3, .int n), (4, .int (nI i))]) (s1 := []) (v1 := w) rfl rfl (fun _ => ?_) (fun q => absurd (nI_le (a := 48) (b := c + i) (by omega) (by omega)) (of_decide_eq_false q))
      refine sx_RP.step (pc2 := 121) (ls2 := [(0, .ref 111), (1, .int (nI s)), (2, .int (nI c)), (3, .int n), (4, .int (nI i))]) (st2 := [.int n]) (w3 := w) rfl rfl ?_
      refine sx_RP.ret (r := (some (.int n))) rfl rfl ?_
      exact ⟨⟨rfl, rfl⟩, hI, hO⟩
  | q + 1, i, w, n, hi, hI, hO => by
    have ez : (ia w 123).getD s 0 = nI z := by rw [ia_of (hO 123 (by decide))]; exact ez0
    refine sx_RP.step (pc2 := 48) (ls2 := [(0, .ref 111), (1, .int (nI s)), (2, .int (nI c)), (3, .int n), (4, .int (nI i))]) (st2 := [.int (nI i)]) (w3 := w) rfl rfl ?_
    refine sx_RP.step (pc2 := 49) (ls2 := [(0, .ref 111), (1, .int (nI s)), (2, .int (nI c)), (3, .int n), (4, .int (nI i))]) (st2 := [.ref 111, .int (nI i)]) (w3 := w) rfl rfl ?_
    refine sx_RP.gf (v := .ref 123) rfl rfl hI.1.o111 rfl rfl (show _ = 52 from rfl) ?_
    refine sx_RP.step (pc2 := 53) (ls2 := [(0, .ref 111), (1, .int (nI s)), (2, .int (nI c)), (3, .int n), (4, .int (nI i))]) (st2 := [.int (nI s), .ref 123, .int (nI i)]) (w3 := w) rfl rfl ?_
    refine sx_RP.ild (c := s) rfl hI.1.a123.1 hI.1.a123.2 (sx_in_nI (show s < 4 by omega) (by decide)) (show (nI s).toNatClampNeg = s from nI_clamp (by omega)) (show _ = 54 from rfl) ?_
    rw [ez]
    refine sx_RP.br (p2 := 57) (l2 := [(0, .ref 111), (1, .int (nI s)), (2, .int (nI c)), (3, .int n), (4, .int (nI i))]) (s2 := []) (v2 := w) rfl rfl (fun q => absurd (of_decide_eq_true q) (fun zz => absurd ((nI_leI (a := z) (b := i) (by omega) (by omega)).mp zz) (by omega))) (fun _ => ?_)
    refine sx_RP.step (pc2 := 58) (ls2 := [(0, .ref 111), (1, .int (nI s)), (2, .int (nI c)), (3, .int n), (4, .int (nI i))]) (st2 := [.int (nI c)]) (w3 := w) rfl rfl ?_
    refine sx_RP.step (pc2 := 60) (ls2 := [(0, .ref 111), (1, .int (nI s)), (2, .int (nI c)), (3, .int n), (4, .int (nI i))]) (st2 := [.int (nI i), .int (nI c)]) (w3 := w) rfl rfl ?_
    refine sx_RP.step (pc2 := 61) (ls2 := [(0, .ref 111), (1, .int (nI s)), (2, .int (nI c)), (3, .int n), (4, .int (nI i))]) (st2 := [.int ((nI c) + (nI i))]) (w3 := w) rfl rfl ?_
    rw [show ((nI c) + (nI i) : Int32) = nI (c + i) from nI_add c i]
    refine sx_RP.step (pc2 := 63) (ls2 := [(0, .ref 111), (1, .int (nI s)), (2, .int (nI c)), (3, .int n), (4, .int (nI i))]) (st2 := [.int 48, .int (nI (c + i))]) (w3 := w) rfl rfl ?_
    refine sx_RP.br (p2 := 66) (l2 := [(0, .ref 111), (1, .int (nI s)), (2, .int (nI c)), (3, .int n), (4, .int (nI i))]) (s2 := []) (v2 := w) rfl rfl (fun q => absurd (of_decide_eq_true q) (fun z => absurd ((nI_leI (a := 48) (b := c + i) (by omega) (by omega)).mp z) (by omega))) (fun _ => ?_)
    refine sx_RP.step (pc2 := 67) (ls2 := [(0, .ref 111), (1, .int (nI s)), (2, .int (nI c)), (3, .int n), (4, .int (nI i))]) (st2 := [.ref 111]) (w3 := w) rfl rfl ?_
    refine sx_RP.gf (v := .ref 124) rfl rfl hI.1.o111 rfl rfl (show _ = 70 from rfl) ?_
    refine sx_RP.step (pc2 := 72) (ls2 := [(0, .ref 111), (1, .int (nI s)), (2, .int (nI c)), (3, .int n), (4, .int (nI i))]) (st2 := [.int 40, .ref 124]) (w3 := w) rfl rfl ?_
    refine sx_RP.step (pc2 := 73) (ls2 := [(0, .ref 111), (1, .int (nI s)), (2, .int (nI c)), (3, .int n), (4, .int (nI i))]) (st2 := [.int (nI s), .int 40, .ref 124]) (w3 := w) rfl rfl ?_
    refine sx_RP.step (pc2 := 74) (ls2 := [(0, .ref 111), (1, .int (nI s)), (2, .int (nI c)), (3, .int n), (4, .int (nI i))]) (st2 := [.int (40 * (nI s)), .ref 124]) (w3 := w) rfl rfl ?_
    rw [show (40 * (nI s) : Int32) = nI (40 * s) from nI_mul 40 s]
    refine sx_RP.step (pc2 := 76) (ls2 := [(0, .ref 111), (1, .int (nI s)), (2, .int (nI c)), (3, .int n), (4, .int (nI i))]) (st2 := [.int (nI i), .int (nI (40 * s)), .ref 124]) (w3 := w) rfl rfl ?_
    refine sx_RP.step (pc2 := 77) (ls2 := [(0, .ref 111), (1, .int (nI s)), (2, .int (nI c)), (3, .int n), (4, .int (nI i))]) (st2 := [.int ((nI (40 * s)) + (nI i)), .ref 124]) (w3 := w) rfl rfl ?_
    rw [show ((nI (40 * s)) + (nI i) : Int32) = nI ((40 * s) + i) from nI_add (40 * s) i]
    refine sx_RP.lld (c := ((40 * s) + i)) rfl hI.1.a124.1 hI.1.a124.2 (sx_in_nI (show ((40 * s) + i) < 160 by omega) (by decide)) (show (nI ((40 * s) + i)).toNatClampNeg = ((40 * s) + i) from nI_clamp (by omega)) (show _ = 78 from rfl) ?_
    refine sx_RP.step (pc2 := 80) (ls2 := [(5, .long ((ja w 124).getD ((40 * s) + i) 0)), (0, .ref 111), (1, .int (nI s)), (2, .int (nI c)), (3, .int n), (4, .int (nI i))]) (st2 := []) (w3 := w) rfl rfl ?_
    refine sx_RP.step (pc2 := 82) (ls2 := [(5, .long ((ja w 124).getD ((40 * s) + i) 0)), (0, .ref 111), (1, .int (nI s)), (2, .int (nI c)), (3, .int n), (4, .int (nI i))]) (st2 := [.long ((ja w 124).getD ((40 * s) + i) 0)]) (w3 := w) rfl rfl ?_
    refine sx_RP.step (pc2 := 83) (ls2 := [(5, .long ((ja w 124).getD ((40 * s) + i) 0)), (0, .ref 111), (1, .int (nI s)), (2, .int (nI c)), (3, .int n), (4, .int (nI i))]) (st2 := [.long 0, .long ((ja w 124).getD ((40 * s) + i) 0)]) (w3 := w) rfl rfl ?_
    refine sx_RP.step (pc2 := 84) (ls2 := [(5, .long ((ja w 124).getD ((40 * s) + i) 0)), (0, .ref 111), (1, .int (nI s)), (2, .int (nI c)), (3, .int n), (4, .int (nI i))]) (st2 := [.int (lg_cmp ((ja w 124).getD ((40 * s) + i) 0) 0)]) (w3 := w) rfl rfl ?_
    refine sx_RP.br (p1 := 114) (l1 := [(5, .long ((ja w 124).getD ((40 * s) + i) 0)), (0, .ref 111), (1, .int (nI s)), (2, .int (nI c)), (3, .int n), (4, .int (nI i))]) (s1 := []) (v1 := w) (p2 := 87) (l2 := [(5, .long ((ja w 124).getD ((40 * s) + i) 0)), (0, .ref 111), (1, .int (nI s)), (2, .int (nI c)), (3, .int n), (4, .int (nI i))]) (s2 := []) (v2 := w) rfl rfl (fun q1 => ?_) (fun q1 => ?_)
    · replace q1 := of_decide_eq_true q1
      refine sx_RP.step (pc2 := 117) (ls2 := [(4, .int ((nI i) + 1)), (5, .long ((ja w 124).getD ((40 * s) + i) 0)), (0, .ref 111), (1, .int (nI s)), (2, .int (nI c)), (3, .int n)]) (st2 := []) (w3 := w) rfl rfl ?_
      rw [nI_1 i]
      refine sx_RP.step (pc2 := 46) (ls2 := [(4, .int (nI (i + 1))), (5, .long ((ja w 124).getD ((40 * s) + i) 0)), (0, .ref 111), (1, .int (nI s)), (2, .int (nI c)), (3, .int n)]) (st2 := []) (w3 := w) rfl rfl ?_
      have eN : NMs w0 s i = (ja w 124).getD (40 * s + i) 0 := by rw [NMs_at hs (by omega), ja_of (hO 124 (by decide))]
      have eL : laL (NMs w0 s) c (q + 1) i (ia w 112) n = laL (NMs w0 s) c q (i + 1) (ia w 112) n := by rw [laL, eN, if_neg (okB_1 q1)]
      rw [eL]
      exact sx_RP.ls (sx_lr.cons rfl (sx_lr.cons rfl (sx_lr.cons rfl (sx_lr.cons rfl (sx_lr.cons rfl sx_lr.nil))))) (X235L hs hz hc ez0 q (i + 1) w n (by omega) hI hO)
    · replace q1 := of_decide_eq_false q1
      refine sx_RP.step (pc2 := 89) (ls2 := [(5, .long ((ja w 124).getD ((40 * s) + i) 0)), (0, .ref 111), (1, .int (nI s)), (2, .int (nI c)), (3, .int n), (4, .int (nI i))]) (st2 := [.long ((ja w 124).getD ((40 * s) + i) 0)]) (w3 := w) rfl rfl ?_
      refine sx_RP.step (pc2 := 92) (ls2 := [(5, .long ((ja w 124).getD ((40 * s) + i) 0)), (0, .ref 111), (1, .int (nI s)), (2, .int (nI c)), (3, .int n), (4, .int (nI i))]) (st2 := [.long 3, .long ((ja w 124).getD ((40 * s) + i) 0)]) (w3 := w) rfl rfl ?_
      refine sx_RP.step (pc2 := 93) (ls2 := [(5, .long ((ja w 124).getD ((40 * s) + i) 0)), (0, .ref 111), (1, .int (nI s)), (2, .int (nI c)), (3, .int n), (4, .int (nI i))]) (st2 := [.int (lg_cmp ((ja w 124).getD ((40 * s) + i) 0) 3)]) (w3 := w) rfl rfl ?_
      refine sx_RP.br (p1 := 114) (l1 := [(5, .long ((ja w 124).getD ((40 * s) + i) 0)), (0, .ref 111), (1, .int (nI s)), (2, .int (nI c)), (3, .int n), (4, .int (nI i))]) (s1 := []) (v1 := w) (p2 := 96) (l2 := [(5, .long ((ja w 124).getD ((40 * s) + i) 0)), (0, .ref 111), (1, .int (nI s)), (2, .int (nI c)), (3, .int n), (4, .int (nI i))]) (s2 := []) (v2 := w) rfl rfl (fun q2 => ?_) (fun q2 => ?_)
      · replace q2 := of_decide_eq_true q2
        refine sx_RP.step (pc2 := 117) (ls2 := [(4, .int ((nI i) + 1)), (5, .long ((ja w 124).getD ((40 * s) + i) 0)), (0, .ref 111), (1, .int (nI s)), (2, .int (nI c)), (3, .int n)]) (st2 := []) (w3 := w) rfl rfl ?_
        rw [nI_1 i]
        refine sx_RP.step (pc2 := 46) (ls2 := [(4, .int (nI (i + 1))), (5, .long ((ja w 124).getD ((40 * s) + i) 0)), (0, .ref 111), (1, .int (nI s)), (2, .int (nI c)), (3, .int n)]) (st2 := []) (w3 := w) rfl rfl ?_
        have eN : NMs w0 s i = (ja w 124).getD (40 * s + i) 0 := by rw [NMs_at hs (by omega), ja_of (hO 124 (by decide))]
        have eL : laL (NMs w0 s) c (q + 1) i (ia w 112) n = laL (NMs w0 s) c q (i + 1) (ia w 112) n := by rw [laL, eN, if_neg (okB_2 q2)]
        rw [eL]
        exact sx_RP.ls (sx_lr.cons rfl (sx_lr.cons rfl (sx_lr.cons rfl (sx_lr.cons rfl (sx_lr.cons rfl sx_lr.nil))))) (X235L hs hz hc ez0 q (i + 1) w n (by omega) hI hO)
      · replace q2 := of_decide_eq_false q2
        refine sx_RP.step (pc2 := 97) (ls2 := [(5, .long ((ja w 124).getD ((40 * s) + i) 0)), (0, .ref 111), (1, .int (nI s)), (2, .int (nI c)), (3, .int n), (4, .int (nI i))]) (st2 := [.ref 111]) (w3 := w) rfl rfl ?_
        refine sx_RP.gf (v := .ref 112) rfl rfl hI.1.o111 rfl rfl (show _ = 100 from rfl) ?_
        refine sx_RP.step (pc2 := 102) (ls2 := [(5, .long ((ja w 124).getD ((40 * s) + i) 0)), (0, .ref 111), (1, .int (nI s)), (2, .int (nI c)), (3, .int n), (4, .int (nI i))]) (st2 := [.int 7, .ref 112]) (w3 := w) rfl rfl ?_
        refine sx_RP.step (pc2 := 103) (ls2 := [(5, .long ((ja w 124).getD ((40 * s) + i) 0)), (0, .ref 111), (1, .int (nI s)), (2, .int (nI c)), (3, .int n), (4, .int (nI i))]) (st2 := [.int (nI c), .int 7, .ref 112]) (w3 := w) rfl rfl ?_
        refine sx_RP.step (pc2 := 104) (ls2 := [(5, .long ((ja w 124).getD ((40 * s) + i) 0)), (0, .ref 111), (1, .int (nI s)), (2, .int (nI c)), (3, .int n), (4, .int (nI i))]) (st2 := [.int (7 + (nI c)), .ref 112]) (w3 := w) rfl rfl ?_
        rw [show (7 + (nI c) : Int32) = nI (7 + c) from nI_add 7 c]
        refine sx_RP.step (pc2 := 106) (ls2 := [(5, .long ((ja w 124).getD ((40 * s) + i) 0)), (0, .ref 111), (1, .int (nI s)), (2, .int (nI c)), (3, .int n), (4, .int (nI i))]) (st2 := [.int (nI i), .int (nI (7 + c)), .ref 112]) (w3 := w) rfl rfl ?_
        refine sx_RP.step (pc2 := 107) (ls2 := [(5, .long ((ja w 124).getD ((40 * s) + i) 0)), (0, .ref 111), (1, .int (nI s)), (2, .int (nI c)), (3, .int n), (4, .int (nI i))]) (st2 := [.int ((nI (7 + c)) + (nI i)), .ref 112]) (w3 := w) rfl rfl ?_
        rw [show ((nI (7 + c)) + (nI i) : Int32) = nI ((7 + c) + i) from nI_add (7 + c) i]
        refine sx_RP.step (pc2 := 109) (ls2 := [(5, .long ((ja w 124).getD ((40 * s) + i) 0)), (0, .ref 111), (1, .int (nI s)), (2, .int (nI c)), (3, .int n), (4, .int (nI i))]) (st2 := [.long ((ja w 124).getD ((40 * s) + i) 0), .int (nI ((7 + c) + i)), .ref 112]) (w3 := w) rfl rfl ?_
        refine sx_RP.step (pc2 := 110) (ls2 := [(5, .long ((ja w 124).getD ((40 * s) + i) 0)), (0, .ref 111), (1, .int (nI s)), (2, .int (nI c)), (3, .int n), (4, .int (nI i))]) (st2 := [.int (((ja w 124).getD ((40 * s) + i) 0).toInt32), .int (nI ((7 + c) + i)), .ref 112]) (w3 := w) rfl rfl ?_
        obtain ⟨x3, hx4, ex5⟩ := lay_rng q1 q2
        rw [ex5]
        refine sx_RP.xM (k := ((7 + c) + i)) hI (by decide) rfl (by omega) (eOK_st (by omega) (inR.n (show x3 ≤ 3 by omega))) (show _ = 111 from rfl) (fun w6 hI7 hs8 hv9 => ?_)
        refine sx_RP.step (pc2 := 114) (ls2 := [(3, .int (n + 1)), (5, .long ((ja w 124).getD ((40 * s) + i) 0)), (0, .ref 111), (1, .int (nI s)), (2, .int (nI c)), (4, .int (nI i))]) (st2 := []) (w3 := w6) rfl rfl ?_
        refine sx_RP.step (pc2 := 117) (ls2 := [(4, .int ((nI i) + 1)), (3, .int (n + 1)), (5, .long ((ja w 124).getD ((40 * s) + i) 0)), (0, .ref 111), (1, .int (nI s)), (2, .int (nI c))]) (st2 := []) (w3 := w6) rfl rfl ?_
        rw [nI_1 i]
        refine sx_RP.step (pc2 := 46) (ls2 := [(4, .int (nI (i + 1))), (3, .int (n + 1)), (5, .long ((ja w 124).getD ((40 * s) + i) 0)), (0, .ref 111), (1, .int (nI s)), (2, .int (nI c))]) (st2 := []) (w3 := w6) rfl rfl ?_
        have eN : NMs w0 s i = (ja w 124).getD (40 * s + i) 0 := by rw [NMs_at hs (by omega), ja_of (hO 124 (by decide))]
        have eL : laL (NMs w0 s) c (q + 1) i (ia w 112) n = laL (NMs w0 s) c q (i + 1) (ia w6 112) (n + 1) := by rw [laL, eN, if_pos (okB_y q1 q2), ex5, hv9, Nat.add_assoc]
        rw [eL]
        exact sx_RP.ls (sx_lr.cons rfl (sx_lr.cons rfl (sx_lr.cons rfl (sx_lr.cons rfl (sx_lr.cons rfl sx_lr.nil))))) (X235L hs hz hc ez0 q (i + 1) w6 _ (by omega) hI7 (hO.tr hs8))
set_option maxRecDepth 20000 in
set_option maxHeartbeats 4000000 in
theorem Y235 {xs : Option (List Int32)} {d : Nat} {w : List sx_C} (hI : WI w) (a1 a2 : Int32) : sx_RP xs (d + 7) 235 0 (lv_args 0 [.ref 111, .int a1, .int a2]) [] w (fun r w2 => (r = some (.int (lysA (FMs w) (NMs w) (ia w 112) a1 a2)) ∧ ia w2 112 = lysR (FMs w) (NMs w) (ia w 112) a1 a2) ∧ WI w2 ∧ EOm w w2) := by
  refine sx_RP.step (pc2 := 1) (ls2 := [(0, .ref 111), (1, .int a1), (2, .int a2)]) (st2 := [.int a1]) (w3 := w) rfl rfl ?_
  rcases in_cases a1 0 3 (m := 0) (n := 3) rfl rfl (by decide) (by decide) with q1 | ⟨x2, hx3, hx4, rfl⟩
  · refine sx_RP.cu (as := [.int a1]) (rest2 := []) (st3 := [.int 0]) rfl rfl rfl rfl rfl (cx_231n q1) rfl ?_
    refine sx_RP.step (pc2 := 7) (ls2 := [(0, .ref 111), (1, .int a1), (2, .int a2)]) (st2 := []) (w3 := w) rfl rfl ?_
    refine sx_RP.step (pc2 := 8) (ls2 := [(0, .ref 111), (1, .int a1), (2, .int a2)]) (st2 := [.ref 111]) (w3 := w) rfl rfl ?_
    refine sx_RP.step (pc2 := 9) (ls2 := [(0, .ref 111), (1, .int a1), (2, .int a2)]) (st2 := [.int 0, .ref 111]) (w3 := w) rfl rfl ?_
    refine sx_RP.callp (as2 := [.ref 111, .int 0]) (rest2 := []) rfl rfl (sx_inv_v2 (mi := 235) (k := 70) (st := [.int 0, .ref 111]) (w := w) rfl rfl hI.1.o111 rfl rfl rfl) rfl rfl rfl (S133_0 hI) (show _ = 12 from rfl) ?_
    rintro r4 w7 ⟨rfl, hI8, hs6⟩
    show sx_RP _ _ _ _ _ [.int (-1000000001)] _ _
    refine sx_RP.ret (r := (some (.int (-1000000001)))) rfl rfl ?_
    exact ⟨⟨by rw [(lys_1 q1).1], by rw [(lys_1 q1).2]; exact ia_of (hs6 112 (by decide))⟩, hI8, fun a ha => hs6 a (by unfold ocm at ha; omega)⟩
  · refine sx_RP.cu (as := [.int (nI x2)]) (rest2 := []) (st3 := [.int 1]) rfl rfl rfl rfl rfl (cx_231p ⟨nI_le (a := 0) hx3 (by omega), nI_le (b := 3) hx4 (by decide)⟩) rfl ?_
    refine sx_RP.step (pc2 := 13) (ls2 := [(0, .ref 111), (1, .int (nI x2)), (2, .int a2)]) (st2 := []) (w3 := w) rfl rfl ?_
    refine sx_RP.step (pc2 := 14) (ls2 := [(0, .ref 111), (1, .int (nI x2)), (2, .int a2)]) (st2 := [.ref 111]) (w3 := w) rfl rfl ?_
    refine sx_RP.gf (v := .ref 122) rfl rfl hI.1.o111 rfl rfl (show _ = 17 from rfl) ?_
    refine sx_RP.step (pc2 := 18) (ls2 := [(0, .ref 111), (1, .int (nI x2)), (2, .int a2)]) (st2 := [.int (nI x2), .ref 122]) (w3 := w) rfl rfl ?_
    refine sx_RP.ild (c := x2) rfl hI.1.a122.1 hI.1.a122.2 (sx_in_nI (show x2 < 4 by omega) (by decide)) (show (nI x2).toNatClampNeg = x2 from nI_clamp (by omega)) (show _ = 19 from rfl) ?_
    refine sx_RP.br (p1 := 28) (l1 := [(0, .ref 111), (1, .int (nI x2)), (2, .int a2)]) (s1 := []) (v1 := w) (p2 := 22) (l2 := [(0, .ref 111), (1, .int (nI x2)), (2, .int a2)]) (s2 := []) (v2 := w) rfl rfl (fun q9 => ?_) (fun q9 => ?_)
    · replace q9 := of_decide_eq_true q9
      refine sx_RP.step (pc2 := 29) (ls2 := [(0, .ref 111), (1, .int (nI x2)), (2, .int a2)]) (st2 := [.int a2]) (w3 := w) rfl rfl ?_
      rcases in_cases a2 0 47 (m := 0) (n := 47) rfl rfl (by decide) (by decide) with q10 | ⟨x11, hx12, hx13, rfl⟩
      · refine sx_RP.cu (as := [.int a2]) (rest2 := []) (st3 := [.int 0]) rfl rfl rfl rfl rfl (cx_131n q10) rfl ?_
        refine sx_RP.step (pc2 := 35) (ls2 := [(0, .ref 111), (1, .int (nI x2)), (2, .int a2)]) (st2 := []) (w3 := w) rfl rfl ?_
        refine sx_RP.step (pc2 := 36) (ls2 := [(0, .ref 111), (1, .int (nI x2)), (2, .int a2)]) (st2 := [.ref 111]) (w3 := w) rfl rfl ?_
        refine sx_RP.step (pc2 := 37) (ls2 := [(0, .ref 111), (1, .int (nI x2)), (2, .int a2)]) (st2 := [.int 0, .ref 111]) (w3 := w) rfl rfl ?_
        refine sx_RP.callp (as2 := [.ref 111, .int 0]) (rest2 := []) rfl rfl (sx_inv_v2 (mi := 235) (k := 70) (st := [.int 0, .ref 111]) (w := w) rfl rfl hI.1.o111 rfl rfl rfl) rfl rfl rfl (S133_0 hI) (show _ = 40 from rfl) ?_
        rintro r4 w16 ⟨rfl, hI17, hs15⟩
        show sx_RP _ _ _ _ _ [.int (-1000000001)] _ _
        refine sx_RP.ret (r := (some (.int (-1000000001)))) rfl rfl ?_
        exact ⟨⟨by rw [(lys_3 (F := FMs w) (N := NMs w) (l := ia w 112) (show x2 < 4 by omega) (FMs_at0 (by omega)) q9 q10).1], by rw [(lys_3 (F := FMs w) (N := NMs w) (l := ia w 112) (show x2 < 4 by omega) (FMs_at0 (by omega)) q9 q10).2]; exact ia_of (hs15 112 (by decide))⟩, hI17, fun a ha => hs15 a (by unfold ocm at ha; omega)⟩
      · refine sx_RP.cu (as := [.int (nI x11)]) (rest2 := []) (st3 := [.int 1]) rfl rfl rfl rfl rfl (cx_131p ⟨nI_le (a := 0) hx12 (by omega), nI_le (b := 47) hx13 (by decide)⟩) rfl ?_
        refine sx_RP.step (pc2 := 41) (ls2 := [(0, .ref 111), (1, .int (nI x2)), (2, .int (nI x11))]) (st2 := []) (w3 := w) rfl rfl ?_
        refine sx_RP.step (pc2 := 42) (ls2 := [(0, .ref 111), (1, .int (nI x2)), (2, .int (nI x11))]) (st2 := [.int 0]) (w3 := w) rfl rfl ?_
        refine sx_RP.step (pc2 := 43) (ls2 := [(3, .int 0), (0, .ref 111), (1, .int (nI x2)), (2, .int (nI x11))]) (st2 := []) (w3 := w) rfl rfl ?_
        refine sx_RP.step (pc2 := 44) (ls2 := [(3, .int 0), (0, .ref 111), (1, .int (nI x2)), (2, .int (nI x11))]) (st2 := [.int 0]) (w3 := w) rfl rfl ?_
        refine sx_RP.step (pc2 := 46) (ls2 := [(4, .int 0), (3, .int 0), (0, .ref 111), (1, .int (nI x2)), (2, .int (nI x11))]) (st2 := []) (w3 := w) rfl rfl ?_
        obtain ⟨z, hz, ez⟩ := hI.l (show x2 < 4 by omega)
        rw [(lys_4 (F := FMs w) (N := NMs w) (l := ia w 112) (show x2 < 4 by omega) hz (FMs_at (by omega) ez) q9 (show x11 < 48 by omega)).1, (lys_4 (F := FMs w) (N := NMs w) (l := ia w 112) (show x2 < 4 by omega) hz (FMs_at (by omega) ez) q9 (show x11 < 48 by omega)).2]
        exact sx_RP.ls (sx_lr.cons rfl (sx_lr.cons rfl (sx_lr.cons rfl (sx_lr.cons rfl (sx_lr.cons rfl sx_lr.nil))))) ((X235L (w0 := w) (show x2 < 4 by omega) hz (show x11 < 48 by omega) ez (min z (48 - x11)) 0 w 0 (by omega) hI (fun _ _ => rfl)).mono9 (fun r w2 q => ⟨q.1, q.2.1, fun a ha => q.2.2 a (by unfold ocm at ha; omega)⟩))
    · replace q9 := Decidable.not_not.mp (of_decide_eq_false q9)
      refine sx_RP.step (pc2 := 23) (ls2 := [(0, .ref 111), (1, .int (nI x2)), (2, .int a2)]) (st2 := [.ref 111]) (w3 := w) rfl rfl ?_
      refine sx_RP.step (pc2 := 24) (ls2 := [(0, .ref 111), (1, .int (nI x2)), (2, .int a2)]) (st2 := [.int 5, .ref 111]) (w3 := w) rfl rfl ?_
      refine sx_RP.callp (as2 := [.ref 111, .int 5]) (rest2 := []) rfl rfl (sx_inv_v2 (mi := 235) (k := 70) (st := [.int 5, .ref 111]) (w := w) rfl rfl hI.1.o111 rfl rfl rfl) rfl rfl rfl (S133_5 hI) (show _ = 27 from rfl) ?_
      rintro r4 w19 ⟨rfl, hI20, hs18⟩
      show sx_RP _ _ _ _ _ [.int (-1000000006)] _ _
      refine sx_RP.ret (r := (some (.int (-1000000006)))) rfl rfl ?_
      exact ⟨⟨by rw [(lys_2 (F := FMs w) (N := NMs w) (l := ia w 112) (show x2 < 4 by omega) (FMs_at0 (by omega)) q9).1], by rw [(lys_2 (F := FMs w) (N := NMs w) (l := ia w 112) (show x2 < 4 by omega) (FMs_at0 (by omega)) q9).2]; exact ia_of (hs18 112 (by decide))⟩, hI20, fun a ha => hs18 a (by unfold ocm at ha; omega)⟩
end
-- 89y20.copy.lean.txt
section
def cpR (F : Nat → Int32 × Int32) (N : Nat → Nat → Int64) (a1 a2 a3 a4 a5 : Int32) : Nat → Nat → Int64 := if 0 ≤ cpAns F a1 a2 a3 a4 a5 then cpN N (iN a1) (iN a2) (iN a3) (iN a4) (iN a5) else N
theorem cpR_n {F : Nat → Int32 × Int32} {N : Nat → Nat → Int64} {a1 a2 a3 a4 a5 x : Int32} (h : cpAns F a1 a2 a3 a4 a5 = x) (hx : ¬ 0 ≤ x) : cpR F N a1 a2 a3 a4 a5 = N := by
  unfold cpR
  rw [h, if_neg hx]
theorem cpR_y {F : Nat → Int32 × Int32} {N : Nat → Nat → Int64} {s f t g n : Nat} (h : cpAns F (nI s) (nI f) (nI t) (nI g) (nI n) = nI n) (hs : s < 4) (ht : t < 4) (h1 : f + n ≤ 40) (h2 : g + n ≤ 40) : cpR F N (nI s) (nI f) (nI t) (nI g) (nI n) = cpN N s f t g n := by
  unfold cpR
  rw [h, if_pos (show (0 : Int32) ≤ nI n from nI_le (a := 0) (Nat.zero_le _) (by omega)), iN_n (by omega), iN_n (by omega), iN_n (by omega), iN_n (by omega), iN_n (by omega)]
theorem NMs_cp {w w2 : List sx_C} {s t f g n : Nat} (hs : s < 4) (ht : t < 4) (h1 : f + n ≤ 40) (h2 : g + n ≤ 40) (hv : ∀ k, k < 160 → (ja w2 124).getD k 0 = if 40 * t + g ≤ k ∧ k < 40 * t + g + n then (ja w 124).getD (40 * s + f + (k - (40 * t + g))) 0 else (ja w 124).getD k 0) : NMs w2 = cpN (NMs w) s f t g n := by
  funext s2 i
  unfold cpN NMs
  by_cases h : s2 < 4 ∧ i < 40
  · rw [if_pos h, hv _ (by omega)]
    by_cases e : s2 = t ∧ g ≤ i ∧ i < g + n
    · rw [if_pos (by omega), if_pos e, if_pos (by omega), show 40 * s + f + (40 * s2 + i - (40 * t + g)) = 40 * s + (f + (i - g)) by omega]
    · rw [if_neg (by omega), if_neg e, if_pos h]
  · rw [if_neg h, if_neg (by omega), if_neg h]
set_option maxRecDepth 20000 in
set_option maxHeartbeats 4000000 in
theorem Z118 {xs : Option (List Int32)} {d : Nat} {w : List sx_C} (hI : WI w) (a1 a2 a3 a4 a5 : Int32) : sx_RP xs (d + 7) 118 0 (lv_args 0 [.ref 0, .int a1, .int a2, .int a3, .int a4, .int a5]) [] w (fun r w2 => (r = some (.int (cpAns (FCs w) a1 a2 a3 a4 a5)) ∧ NCs w2 = cpR (FCs w) (NCs w) a1 a2 a3 a4 a5 ∧ FCs w2 = FCs w) ∧ WI w2 ∧ ∀ a, a ≠ 99 → (a < 104 ∨ 111 ≤ a) → w2[a]? = w[a]?) := by
  refine sx_RP.step (pc2 := 1) (ls2 := [(0, .ref 0), (1, .int a1), (2, .int a2), (3, .int a3), (4, .int a4), (5, .int a5)]) (st2 := [.int a1]) (w3 := w) rfl rfl ?_
  rcases in_cases a1 0 3 (m := 0) (n := 3) rfl rfl (by decide) (by decide) with q1 | ⟨x2, hx3, hx4, rfl⟩
  · refine sx_RP.cu (as := [.int a1]) (rest2 := []) (st3 := [.int 0]) rfl rfl rfl rfl rfl (cx_112n q1) rfl ?_
    refine sx_RP.step (pc2 := 14) (ls2 := [(0, .ref 0), (1, .int a1), (2, .int a2), (3, .int a3), (4, .int a4), (5, .int a5)]) (st2 := []) (w3 := w) rfl rfl ?_
    refine sx_RP.step (pc2 := 15) (ls2 := [(0, .ref 0), (1, .int a1), (2, .int a2), (3, .int a3), (4, .int a4), (5, .int a5)]) (st2 := [.ref 0]) (w3 := w) rfl rfl ?_
    refine sx_RP.step (pc2 := 17) (ls2 := [(0, .ref 0), (1, .int a1), (2, .int a2), (3, .int a3), (4, .int a4), (5, .int a5)]) (st2 := [.int (-1000000001), .ref 0]) (w3 := w) rfl rfl ?_
    refine sx_RP.callp (as2 := [.ref 0, .int (-1000000001)]) (rest2 := []) rfl rfl (sx_inv_v2 (mi := 118) (k := 78) (st := [.int (-1000000001), .ref 0]) (w := w) rfl rfl hI.1.o0 rfl rfl rfl) rfl rfl rfl (S9_0 hI) (show _ = 20 from rfl) ?_
    rintro r4 w7 ⟨rfl, hI8, hs6⟩
    show sx_RP _ _ _ _ _ [.int (-1000000001)] _ _
    refine sx_RP.ret (r := (some (.int (-1000000001)))) rfl rfl ?_
    exact ⟨⟨by rw [cp_1 (g := FCs w) (fun z => q1 z.1)], by rw [cpR_n (cp_1 (g := FCs w) (fun z => q1 z.1)) (by decide)]; exact NCs_eq (fun q hq => hs6 _ (by omega)), FCs_eq (fun q hq => hs6 _ (by omega))⟩, hI8, fun a h1 h2 => hs6 a h1⟩
  · refine sx_RP.cu (as := [.int (nI x2)]) (rest2 := []) (st3 := [.int 1]) rfl rfl rfl rfl rfl (cx_112p ⟨nI_le (a := 0) hx3 (by omega), nI_le (b := 3) hx4 (by decide)⟩) rfl ?_
    refine sx_RP.step (pc2 := 7) (ls2 := [(0, .ref 0), (1, .int (nI x2)), (2, .int a2), (3, .int a3), (4, .int a4), (5, .int a5)]) (st2 := []) (w3 := w) rfl rfl ?_
    refine sx_RP.step (pc2 := 8) (ls2 := [(0, .ref 0), (1, .int (nI x2)), (2, .int a2), (3, .int a3), (4, .int a4), (5, .int a5)]) (st2 := [.int a3]) (w3 := w) rfl rfl ?_
    rcases in_cases a3 0 3 (m := 0) (n := 3) rfl rfl (by decide) (by decide) with q10 | ⟨x11, hx12, hx13, rfl⟩
    · refine sx_RP.cu (as := [.int a3]) (rest2 := []) (st3 := [.int 0]) rfl rfl rfl rfl rfl (cx_112n q10) rfl ?_
      refine sx_RP.step (pc2 := 14) (ls2 := [(0, .ref 0), (1, .int (nI x2)), (2, .int a2), (3, .int a3), (4, .int a4), (5, .int a5)]) (st2 := []) (w3 := w) rfl rfl ?_
      refine sx_RP.step (pc2 := 15) (ls2 := [(0, .ref 0), (1, .int (nI x2)), (2, .int a2), (3, .int a3), (4, .int a4), (5, .int a5)]) (st2 := [.ref 0]) (w3 := w) rfl rfl ?_
      refine sx_RP.step (pc2 := 17) (ls2 := [(0, .ref 0), (1, .int (nI x2)), (2, .int a2), (3, .int a3), (4, .int a4), (5, .int a5)]) (st2 := [.int (-1000000001), .ref 0]) (w3 := w) rfl rfl ?_
      refine sx_RP.callp (as2 := [.ref 0, .int (-1000000001)]) (rest2 := []) rfl rfl (sx_inv_v2 (mi := 118) (k := 78) (st := [.int (-1000000001), .ref 0]) (w := w) rfl rfl hI.1.o0 rfl rfl rfl) rfl rfl rfl (S9_0 hI) (show _ = 20 from rfl) ?_
      rintro r4 w16 ⟨rfl, hI17, hs15⟩
      show sx_RP _ _ _ _ _ [.int (-1000000001)] _ _
      refine sx_RP.ret (r := (some (.int (-1000000001)))) rfl rfl ?_
      exact ⟨⟨by rw [cp_1 (g := FCs w) (fun z => q10 z.2)], by rw [cpR_n (cp_1 (g := FCs w) (fun z => q10 z.2)) (by decide)]; exact NCs_eq (fun q hq => hs15 _ (by omega)), FCs_eq (fun q hq => hs15 _ (by omega))⟩, hI17, fun a h1 h2 => hs15 a h1⟩
    · refine sx_RP.cu (as := [.int (nI x11)]) (rest2 := []) (st3 := [.int 1]) rfl rfl rfl rfl rfl (cx_112p ⟨nI_le (a := 0) hx12 (by omega), nI_le (b := 3) hx13 (by decide)⟩) rfl ?_
      refine sx_RP.step (pc2 := 21) (ls2 := [(0, .ref 0), (1, .int (nI x2)), (2, .int a2), (3, .int (nI x11)), (4, .int a4), (5, .int a5)]) (st2 := []) (w3 := w) rfl rfl ?_
      refine sx_RP.step (pc2 := 22) (ls2 := [(0, .ref 0), (1, .int (nI x2)), (2, .int a2), (3, .int (nI x11)), (4, .int a4), (5, .int a5)]) (st2 := [.ref 0]) (w3 := w) rfl rfl ?_
      refine sx_RP.gf (v := .ref 98) rfl rfl hI.1.o0 rfl rfl (show _ = 25 from rfl) ?_
      refine sx_RP.step (pc2 := 26) (ls2 := [(0, .ref 0), (1, .int (nI x2)), (2, .int a2), (3, .int (nI x11)), (4, .int a4), (5, .int a5)]) (st2 := [.int (nI x2), .ref 98]) (w3 := w) rfl rfl ?_
      refine sx_RP.ald (v := .ref (103 + 2 * x2)) rfl hI.1.a98 rfl (shA_at (show x2 < 4 by omega)) (show _ = 27 from rfl) ?_
      refine sx_RP.step (pc2 := 29) (ls2 := [(6, .ref (103 + 2 * x2)), (0, .ref 0), (1, .int (nI x2)), (2, .int a2), (3, .int (nI x11)), (4, .int a4), (5, .int a5)]) (st2 := []) (w3 := w) rfl rfl ?_
      refine sx_RP.step (pc2 := 30) (ls2 := [(6, .ref (103 + 2 * x2)), (0, .ref 0), (1, .int (nI x2)), (2, .int a2), (3, .int (nI x11)), (4, .int a4), (5, .int a5)]) (st2 := [.ref 0]) (w3 := w) rfl rfl ?_
      refine sx_RP.gf (v := .ref 98) rfl rfl hI.1.o0 rfl rfl (show _ = 33 from rfl) ?_
      refine sx_RP.step (pc2 := 34) (ls2 := [(6, .ref (103 + 2 * x2)), (0, .ref 0), (1, .int (nI x2)), (2, .int a2), (3, .int (nI x11)), (4, .int a4), (5, .int a5)]) (st2 := [.int (nI x11), .ref 98]) (w3 := w) rfl rfl ?_
      refine sx_RP.ald (v := .ref (103 + 2 * x11)) rfl hI.1.a98 rfl (shA_at (show x11 < 4 by omega)) (show _ = 35 from rfl) ?_
      refine sx_RP.step (pc2 := 37) (ls2 := [(7, .ref (103 + 2 * x11)), (6, .ref (103 + 2 * x2)), (0, .ref 0), (1, .int (nI x2)), (2, .int a2), (3, .int (nI x11)), (4, .int a4), (5, .int a5)]) (st2 := []) (w3 := w) rfl rfl ?_
      refine sx_RP.step (pc2 := 39) (ls2 := [(7, .ref (103 + 2 * x11)), (6, .ref (103 + 2 * x2)), (0, .ref 0), (1, .int (nI x2)), (2, .int a2), (3, .int (nI x11)), (4, .int a4), (5, .int a5)]) (st2 := [.ref (103 + 2 * x2)]) (w3 := w) rfl rfl ?_
      rcases Decidable.em (fi w (103 + 2 * x2) 1 = 0) with c19 | c19
      · refine sx_RP.cu (as := [.ref (103 + 2 * x2)]) (rest2 := []) (st3 := [.int 1]) rfl rfl (sx_inv_v2 (mi := 118) (k := 310) (st := [.ref (103 + 2 * x2)]) (w := w) rfl rfl (hI.1.oS (show x2 < 4 by omega)) rfl rfl rfl) rfl rfl (p116y hI (show x2 < 4 by omega) c19) rfl ?_
        refine sx_RP.step (pc2 := 53) (ls2 := [(7, .ref (103 + 2 * x11)), (6, .ref (103 + 2 * x2)), (0, .ref 0), (1, .int (nI x2)), (2, .int a2), (3, .int (nI x11)), (4, .int a4), (5, .int a5)]) (st2 := []) (w3 := w) rfl rfl ?_
        refine sx_RP.step (pc2 := 54) (ls2 := [(7, .ref (103 + 2 * x11)), (6, .ref (103 + 2 * x2)), (0, .ref 0), (1, .int (nI x2)), (2, .int a2), (3, .int (nI x11)), (4, .int a4), (5, .int a5)]) (st2 := [.ref 0]) (w3 := w) rfl rfl ?_
        refine sx_RP.step (pc2 := 57) (ls2 := [(7, .ref (103 + 2 * x11)), (6, .ref (103 + 2 * x2)), (0, .ref 0), (1, .int (nI x2)), (2, .int a2), (3, .int (nI x11)), (4, .int a4), (5, .int a5)]) (st2 := [.int (-1000000006), .ref 0]) (w3 := w) rfl rfl ?_
        refine sx_RP.callp (as2 := [.ref 0, .int (-1000000006)]) (rest2 := []) rfl rfl (sx_inv_v2 (mi := 118) (k := 78) (st := [.int (-1000000006), .ref 0]) (w := w) rfl rfl hI.1.o0 rfl rfl rfl) rfl rfl rfl (S9_5 hI) (show _ = 60 from rfl) ?_
        rintro r4 w21 ⟨rfl, hI22, hs20⟩
        show sx_RP _ _ _ _ _ [.int (-1000000006)] _ _
        refine sx_RP.ret (r := (some (.int (-1000000006)))) rfl rfl ?_
        exact ⟨⟨by rw [cp_2 (g := FCs w) (show x2 < 4 by omega) (show x11 < 4 by omega) (FCs_at (by omega)) (FCs_at (by omega)) (Or.inl c19)], by rw [cpR_n (cp_2 (g := FCs w) (show x2 < 4 by omega) (show x11 < 4 by omega) (FCs_at (by omega)) (FCs_at (by omega)) (Or.inl c19)) (by decide)]; exact NCs_eq (fun q hq => hs20 _ (by omega)), FCs_eq (fun q hq => hs20 _ (by omega))⟩, hI22, fun a h1 h2 => hs20 a h1⟩
      · refine sx_RP.cu (as := [.ref (103 + 2 * x2)]) (rest2 := []) (st3 := [.int 0]) rfl rfl (sx_inv_v2 (mi := 118) (k := 310) (st := [.ref (103 + 2 * x2)]) (w := w) rfl rfl (hI.1.oS (show x2 < 4 by omega)) rfl rfl rfl) rfl rfl (p116n hI (show x2 < 4 by omega) c19) rfl ?_
        refine sx_RP.step (pc2 := 45) (ls2 := [(7, .ref (103 + 2 * x11)), (6, .ref (103 + 2 * x2)), (0, .ref 0), (1, .int (nI x2)), (2, .int a2), (3, .int (nI x11)), (4, .int a4), (5, .int a5)]) (st2 := []) (w3 := w) rfl rfl ?_
        refine sx_RP.step (pc2 := 47) (ls2 := [(7, .ref (103 + 2 * x11)), (6, .ref (103 + 2 * x2)), (0, .ref 0), (1, .int (nI x2)), (2, .int a2), (3, .int (nI x11)), (4, .int a4), (5, .int a5)]) (st2 := [.ref (103 + 2 * x11)]) (w3 := w) rfl rfl ?_
        rcases Decidable.em (fi w (103 + 2 * x11) 1 = 0) with c24 | c24
        · refine sx_RP.cu (as := [.ref (103 + 2 * x11)]) (rest2 := []) (st3 := [.int 1]) rfl rfl (sx_inv_v2 (mi := 118) (k := 310) (st := [.ref (103 + 2 * x11)]) (w := w) rfl rfl (hI.1.oS (show x11 < 4 by omega)) rfl rfl rfl) rfl rfl (p116y hI (show x11 < 4 by omega) c24) rfl ?_
          refine sx_RP.step (pc2 := 53) (ls2 := [(7, .ref (103 + 2 * x11)), (6, .ref (103 + 2 * x2)), (0, .ref 0), (1, .int (nI x2)), (2, .int a2), (3, .int (nI x11)), (4, .int a4), (5, .int a5)]) (st2 := []) (w3 := w) rfl rfl ?_
          refine sx_RP.step (pc2 := 54) (ls2 := [(7, .ref (103 + 2 * x11)), (6, .ref (103 + 2 * x2)), (0, .ref 0), (1, .int (nI x2)), (2, .int a2), (3, .int (nI x11)), (4, .int a4), (5, .int a5)]) (st2 := [.ref 0]) (w3 := w) rfl rfl ?_
          refine sx_RP.step (pc2 := 57) (ls2 := [(7, .ref (103 + 2 * x11)), (6, .ref (103 + 2 * x2)), (0, .ref 0), (1, .int (nI x2)), (2, .int a2), (3, .int (nI x11)), (4, .int a4), (5, .int a5)]) (st2 := [.int (-1000000006), .ref 0]) (w3 := w) rfl rfl ?_
          refine sx_RP.callp (as2 := [.ref 0, .int (-1000000006)]) (rest2 := []) rfl rfl (sx_inv_v2 (mi := 118) (k := 78) (st := [.int (-1000000006), .ref 0]) (w := w) rfl rfl hI.1.o0 rfl rfl rfl) rfl rfl rfl (S9_5 hI) (show _ = 60 from rfl) ?_
          rintro r4 w26 ⟨rfl, hI27, hs25⟩
          show sx_RP _ _ _ _ _ [.int (-1000000006)] _ _
          refine sx_RP.ret (r := (some (.int (-1000000006)))) rfl rfl ?_
          exact ⟨⟨by rw [cp_2 (g := FCs w) (show x2 < 4 by omega) (show x11 < 4 by omega) (FCs_at (by omega)) (FCs_at (by omega)) (Or.inr c24)], by rw [cpR_n (cp_2 (g := FCs w) (show x2 < 4 by omega) (show x11 < 4 by omega) (FCs_at (by omega)) (FCs_at (by omega)) (Or.inr c24)) (by decide)]; exact NCs_eq (fun q hq => hs25 _ (by omega)), FCs_eq (fun q hq => hs25 _ (by omega))⟩, hI27, fun a h1 h2 => hs25 a h1⟩
        · refine sx_RP.cu (as := [.ref (103 + 2 * x11)]) (rest2 := []) (st3 := [.int 0]) rfl rfl (sx_inv_v2 (mi := 118) (k := 310) (st := [.ref (103 + 2 * x11)]) (w := w) rfl rfl (hI.1.oS (show x11 < 4 by omega)) rfl rfl rfl) rfl rfl (p116n hI (show x11 < 4 by omega) c24) rfl ?_
          refine sx_RP.step (pc2 := 61) (ls2 := [(7, .ref (103 + 2 * x11)), (6, .ref (103 + 2 * x2)), (0, .ref 0), (1, .int (nI x2)), (2, .int a2), (3, .int (nI x11)), (4, .int a4), (5, .int a5)]) (st2 := []) (w3 := w) rfl rfl ?_
          refine sx_RP.step (pc2 := 63) (ls2 := [(7, .ref (103 + 2 * x11)), (6, .ref (103 + 2 * x2)), (0, .ref 0), (1, .int (nI x2)), (2, .int a2), (3, .int (nI x11)), (4, .int a4), (5, .int a5)]) (st2 := [.ref (103 + 2 * x2)]) (w3 := w) rfl rfl ?_
          refine sx_RP.gf (v := .int (fi w (103 + 2 * x2) 1)) rfl rfl (hI.1.oS (show x2 < 4 by omega)) rfl rfl (show _ = 66 from rfl) ?_
          refine sx_RP.step (pc2 := 68) (ls2 := [(7, .ref (103 + 2 * x11)), (6, .ref (103 + 2 * x2)), (0, .ref 0), (1, .int (nI x2)), (2, .int a2), (3, .int (nI x11)), (4, .int a4), (5, .int a5)]) (st2 := [.ref (103 + 2 * x11), .int (fi w (103 + 2 * x2) 1)]) (w3 := w) rfl rfl ?_
          refine sx_RP.gf (v := .int (fi w (103 + 2 * x11) 1)) rfl rfl (hI.1.oS (show x11 < 4 by omega)) rfl rfl (show _ = 71 from rfl) ?_
          refine sx_RP.br (p1 := 81) (l1 := [(7, .ref (103 + 2 * x11)), (6, .ref (103 + 2 * x2)), (0, .ref 0), (1, .int (nI x2)), (2, .int a2), (3, .int (nI x11)), (4, .int a4), (5, .int a5)]) (s1 := []) (v1 := w) (p2 := 74) (l2 := [(7, .ref (103 + 2 * x11)), (6, .ref (103 + 2 * x2)), (0, .ref 0), (1, .int (nI x2)), (2, .int a2), (3, .int (nI x11)), (4, .int a4), (5, .int a5)]) (s2 := []) (v2 := w) rfl rfl (fun q29 => ?_) (fun q29 => ?_)
          · replace q29 := of_decide_eq_true q29
            refine sx_RP.step (pc2 := 83) (ls2 := [(7, .ref (103 + 2 * x11)), (6, .ref (103 + 2 * x2)), (0, .ref 0), (1, .int (nI x2)), (2, .int a2), (3, .int (nI x11)), (4, .int a4), (5, .int a5)]) (st2 := [.ref (103 + 2 * x2)]) (w3 := w) rfl rfl ?_
            refine sx_RP.step (pc2 := 84) (ls2 := [(7, .ref (103 + 2 * x11)), (6, .ref (103 + 2 * x2)), (0, .ref 0), (1, .int (nI x2)), (2, .int a2), (3, .int (nI x11)), (4, .int a4), (5, .int a5)]) (st2 := [.int a2, .ref (103 + 2 * x2)]) (w3 := w) rfl rfl ?_
            refine sx_RP.step (pc2 := 86) (ls2 := [(7, .ref (103 + 2 * x11)), (6, .ref (103 + 2 * x2)), (0, .ref 0), (1, .int (nI x2)), (2, .int a2), (3, .int (nI x11)), (4, .int a4), (5, .int a5)]) (st2 := [.int a5, .int a2, .ref (103 + 2 * x2)]) (w3 := w) rfl rfl ?_
            rcases Decidable.em (runB (fi w (103 + 2 * x2) 2) a2 a5 = true) with c30 | c30
            · obtain ⟨x31, x32, rfl, rfl, hx34⟩ := run_nat (hI.sh (show x2 < 4 by omega)) c30
              refine sx_RP.cu (as := [.ref (103 + 2 * x2), .int (nI x31), .int (nI x32)]) (rest2 := []) (st3 := [.int 1]) rfl rfl (sx_inv_v2 (mi := 118) (k := 325) (st := [.int (nI x32), .int (nI x31), .ref (103 + 2 * x2)]) (w := w) rfl rfl (hI.1.oS (show x2 < 4 by omega)) rfl rfl rfl) rfl rfl (p119y hI (show x2 < 4 by omega) c30) rfl ?_
              refine sx_RP.step (pc2 := 92) (ls2 := [(7, .ref (103 + 2 * x11)), (6, .ref (103 + 2 * x2)), (0, .ref 0), (1, .int (nI x2)), (2, .int (nI x31)), (3, .int (nI x11)), (4, .int a4), (5, .int (nI x32))]) (st2 := []) (w3 := w) rfl rfl ?_
              refine sx_RP.step (pc2 := 94) (ls2 := [(7, .ref (103 + 2 * x11)), (6, .ref (103 + 2 * x2)), (0, .ref 0), (1, .int (nI x2)), (2, .int (nI x31)), (3, .int (nI x11)), (4, .int a4), (5, .int (nI x32))]) (st2 := [.ref (103 + 2 * x11)]) (w3 := w) rfl rfl ?_
              refine sx_RP.step (pc2 := 96) (ls2 := [(7, .ref (103 + 2 * x11)), (6, .ref (103 + 2 * x2)), (0, .ref 0), (1, .int (nI x2)), (2, .int (nI x31)), (3, .int (nI x11)), (4, .int a4), (5, .int (nI x32))]) (st2 := [.int a4, .ref (103 + 2 * x11)]) (w3 := w) rfl rfl ?_
              refine sx_RP.step (pc2 := 98) (ls2 := [(7, .ref (103 + 2 * x11)), (6, .ref (103 + 2 * x2)), (0, .ref 0), (1, .int (nI x2)), (2, .int (nI x31)), (3, .int (nI x11)), (4, .int a4), (5, .int (nI x32))]) (st2 := [.int (nI x32), .int a4, .ref (103 + 2 * x11)]) (w3 := w) rfl rfl ?_
              rcases Decidable.em (runB (fi w (103 + 2 * x11) 2) a4 (nI x32) = true) with c36 | c36
              · obtain ⟨x37, x38, rfl, ex39, hx40⟩ := run_nat (hI.sh (show x11 < 4 by omega)) c36
                have hx41 := (nI_eq (a := x32) (b := x38) (by omega) (by omega)).mp ex39
                refine sx_RP.cu (as := [.ref (103 + 2 * x11), .int (nI x37), .int (nI x32)]) (rest2 := []) (st3 := [.int 1]) rfl rfl (sx_inv_v2 (mi := 118) (k := 325) (st := [.int (nI x32), .int (nI x37), .ref (103 + 2 * x11)]) (w := w) rfl rfl (hI.1.oS (show x11 < 4 by omega)) rfl rfl rfl) rfl rfl (p119y hI (show x11 < 4 by omega) c36) rfl ?_
                refine sx_RP.step (pc2 := 111) (ls2 := [(7, .ref (103 + 2 * x11)), (6, .ref (103 + 2 * x2)), (0, .ref 0), (1, .int (nI x2)), (2, .int (nI x31)), (3, .int (nI x11)), (4, .int (nI x37)), (5, .int (nI x32))]) (st2 := []) (w3 := w) rfl rfl ?_
                refine sx_RP.step (pc2 := 113) (ls2 := [(7, .ref (103 + 2 * x11)), (6, .ref (103 + 2 * x2)), (0, .ref 0), (1, .int (nI x2)), (2, .int (nI x31)), (3, .int (nI x11)), (4, .int (nI x37)), (5, .int (nI x32))]) (st2 := [.ref (103 + 2 * x2)]) (w3 := w) rfl rfl ?_
                refine sx_RP.gf (v := .ref (104 + 2 * x2)) rfl rfl (hI.1.oS (show x2 < 4 by omega)) rfl rfl (show _ = 116 from rfl) ?_
                refine sx_RP.step (pc2 := 117) (ls2 := [(7, .ref (103 + 2 * x11)), (6, .ref (103 + 2 * x2)), (0, .ref 0), (1, .int (nI x2)), (2, .int (nI x31)), (3, .int (nI x11)), (4, .int (nI x37)), (5, .int (nI x32))]) (st2 := [.int (nI x31), .ref (104 + 2 * x2)]) (w3 := w) rfl rfl ?_
                refine sx_RP.step (pc2 := 119) (ls2 := [(7, .ref (103 + 2 * x11)), (6, .ref (103 + 2 * x2)), (0, .ref 0), (1, .int (nI x2)), (2, .int (nI x31)), (3, .int (nI x11)), (4, .int (nI x37)), (5, .int (nI x32))]) (st2 := [.ref (103 + 2 * x11), .int (nI x31), .ref (104 + 2 * x2)]) (w3 := w) rfl rfl ?_
                refine sx_RP.gf (v := .ref (104 + 2 * x11)) rfl rfl (hI.1.oS (show x11 < 4 by omega)) rfl rfl (show _ = 122 from rfl) ?_
                refine sx_RP.step (pc2 := 124) (ls2 := [(7, .ref (103 + 2 * x11)), (6, .ref (103 + 2 * x2)), (0, .ref 0), (1, .int (nI x2)), (2, .int (nI x31)), (3, .int (nI x11)), (4, .int (nI x37)), (5, .int (nI x32))]) (st2 := [.int (nI x37), .ref (104 + 2 * x11), .int (nI x31), .ref (104 + 2 * x2)]) (w3 := w) rfl rfl ?_
                refine sx_RP.step (pc2 := 126) (ls2 := [(7, .ref (103 + 2 * x11)), (6, .ref (103 + 2 * x2)), (0, .ref 0), (1, .int (nI x2)), (2, .int (nI x31)), (3, .int (nI x11)), (4, .int (nI x37)), (5, .int (nI x32))]) (st2 := [.int (nI x32), .int (nI x37), .ref (104 + 2 * x11), .int (nI x31), .ref (104 + 2 * x2)]) (w3 := w) rfl rfl ?_
                refine sx_RP.acX hI (show x2 < 4 by omega) (show x11 < 4 by omega) (show x31 + x32 ≤ 40 by omega) (show x37 + x32 ≤ 40 by omega) rfl rfl rfl (show _ = 129 from rfl) (fun w42 hI43 hs44 hv45 => ?_)
                refine sx_RP.step (pc2 := 131) (ls2 := [(7, .ref (103 + 2 * x11)), (6, .ref (103 + 2 * x2)), (0, .ref 0), (1, .int (nI x2)), (2, .int (nI x31)), (3, .int (nI x11)), (4, .int (nI x37)), (5, .int (nI x32))]) (st2 := [.int (nI x32)]) (w3 := w42) rfl rfl ?_
                refine sx_RP.ret (r := (some (.int (nI x32)))) rfl rfl ?_
                have ea46 : cpAns (FCs w) (nI x2) (nI x31) (nI x11) (nI x37) (nI x32) = nI x32 := cp_5 (show x2 < 4 by omega) (show x11 < 4 by omega) (FCs_at (by omega)) (FCs_at (by omega)) c19 c24 q29 c30 c36
                exact ⟨⟨by rw [ea46], by rw [cpR_y ea46 (by omega) (by omega) (by omega) (by omega)]; exact NCs_cp hI (by omega) (by omega) (by omega) (by omega) hs44 hv45, FCs_eq (fun q hq => hs44 _ (by omega))⟩, hI43, fun a h1 h2 => hs44 a (by omega)⟩
              · refine sx_RP.cu (as := [.ref (103 + 2 * x11), .int a4, .int (nI x32)]) (rest2 := []) (st3 := [.int 0]) rfl rfl (sx_inv_v2 (mi := 118) (k := 325) (st := [.int (nI x32), .int a4, .ref (103 + 2 * x11)]) (w := w) rfl rfl (hI.1.oS (show x11 < 4 by omega)) rfl rfl rfl) rfl rfl (p119n hI (show x11 < 4 by omega) c36) rfl ?_
                refine sx_RP.step (pc2 := 104) (ls2 := [(7, .ref (103 + 2 * x11)), (6, .ref (103 + 2 * x2)), (0, .ref 0), (1, .int (nI x2)), (2, .int (nI x31)), (3, .int (nI x11)), (4, .int a4), (5, .int (nI x32))]) (st2 := []) (w3 := w) rfl rfl ?_
                refine sx_RP.step (pc2 := 105) (ls2 := [(7, .ref (103 + 2 * x11)), (6, .ref (103 + 2 * x2)), (0, .ref 0), (1, .int (nI x2)), (2, .int (nI x31)), (3, .int (nI x11)), (4, .int a4), (5, .int (nI x32))]) (st2 := [.ref 0]) (w3 := w) rfl rfl ?_
                refine sx_RP.step (pc2 := 107) (ls2 := [(7, .ref (103 + 2 * x11)), (6, .ref (103 + 2 * x2)), (0, .ref 0), (1, .int (nI x2)), (2, .int (nI x31)), (3, .int (nI x11)), (4, .int a4), (5, .int (nI x32))]) (st2 := [.int (-1000000001), .ref 0]) (w3 := w) rfl rfl ?_
                refine sx_RP.callp (as2 := [.ref 0, .int (-1000000001)]) (rest2 := []) rfl rfl (sx_inv_v2 (mi := 118) (k := 78) (st := [.int (-1000000001), .ref 0]) (w := w) rfl rfl hI.1.o0 rfl rfl rfl) rfl rfl rfl (S9_0 hI) (show _ = 110 from rfl) ?_
                rintro r4 w48 ⟨rfl, hI49, hs47⟩
                show sx_RP _ _ _ _ _ [.int (-1000000001)] _ _
                refine sx_RP.ret (r := (some (.int (-1000000001)))) rfl rfl ?_
                exact ⟨⟨by rw [cp_4 (g := FCs w) (show x2 < 4 by omega) (show x11 < 4 by omega) (FCs_at (by omega)) (FCs_at (by omega)) c19 c24 q29 (fun z => c36 z.2)], by rw [cpR_n (cp_4 (g := FCs w) (show x2 < 4 by omega) (show x11 < 4 by omega) (FCs_at (by omega)) (FCs_at (by omega)) c19 c24 q29 (fun z => c36 z.2)) (by decide)]; exact NCs_eq (fun q hq => hs47 _ (by omega)), FCs_eq (fun q hq => hs47 _ (by omega))⟩, hI49, fun a h1 h2 => hs47 a h1⟩
            · refine sx_RP.cu (as := [.ref (103 + 2 * x2), .int a2, .int a5]) (rest2 := []) (st3 := [.int 0]) rfl rfl (sx_inv_v2 (mi := 118) (k := 325) (st := [.int a5, .int a2, .ref (103 + 2 * x2)]) (w := w) rfl rfl (hI.1.oS (show x2 < 4 by omega)) rfl rfl rfl) rfl rfl (p119n hI (show x2 < 4 by omega) c30) rfl ?_
              refine sx_RP.step (pc2 := 104) (ls2 := [(7, .ref (103 + 2 * x11)), (6, .ref (103 + 2 * x2)), (0, .ref 0), (1, .int (nI x2)), (2, .int a2), (3, .int (nI x11)), (4, .int a4), (5, .int a5)]) (st2 := []) (w3 := w) rfl rfl ?_
              refine sx_RP.step (pc2 := 105) (ls2 := [(7, .ref (103 + 2 * x11)), (6, .ref (103 + 2 * x2)), (0, .ref 0), (1, .int (nI x2)), (2, .int a2), (3, .int (nI x11)), (4, .int a4), (5, .int a5)]) (st2 := [.ref 0]) (w3 := w) rfl rfl ?_
              refine sx_RP.step (pc2 := 107) (ls2 := [(7, .ref (103 + 2 * x11)), (6, .ref (103 + 2 * x2)), (0, .ref 0), (1, .int (nI x2)), (2, .int a2), (3, .int (nI x11)), (4, .int a4), (5, .int a5)]) (st2 := [.int (-1000000001), .ref 0]) (w3 := w) rfl rfl ?_
              refine sx_RP.callp (as2 := [.ref 0, .int (-1000000001)]) (rest2 := []) rfl rfl (sx_inv_v2 (mi := 118) (k := 78) (st := [.int (-1000000001), .ref 0]) (w := w) rfl rfl hI.1.o0 rfl rfl rfl) rfl rfl rfl (S9_0 hI) (show _ = 110 from rfl) ?_
              rintro r4 w52 ⟨rfl, hI53, hs51⟩
              show sx_RP _ _ _ _ _ [.int (-1000000001)] _ _
              refine sx_RP.ret (r := (some (.int (-1000000001)))) rfl rfl ?_
              exact ⟨⟨by rw [cp_4 (g := FCs w) (show x2 < 4 by omega) (show x11 < 4 by omega) (FCs_at (by omega)) (FCs_at (by omega)) c19 c24 q29 (fun z => c30 z.1)], by rw [cpR_n (cp_4 (g := FCs w) (show x2 < 4 by omega) (show x11 < 4 by omega) (FCs_at (by omega)) (FCs_at (by omega)) c19 c24 q29 (fun z => c30 z.1)) (by decide)]; exact NCs_eq (fun q hq => hs51 _ (by omega)), FCs_eq (fun q hq => hs51 _ (by omega))⟩, hI53, fun a h1 h2 => hs51 a h1⟩
          · replace q29 := of_decide_eq_false q29
            refine sx_RP.step (pc2 := 75) (ls2 := [(7, .ref (103 + 2 * x11)), (6, .ref (103 + 2 * x2)), (0, .ref 0), (1, .int (nI x2)), (2, .int a2), (3, .int (nI x11)), (4, .int a4), (5, .int a5)]) (st2 := [.ref 0]) (w3 := w) rfl rfl ?_
            refine sx_RP.step (pc2 := 77) (ls2 := [(7, .ref (103 + 2 * x11)), (6, .ref (103 + 2 * x2)), (0, .ref 0), (1, .int (nI x2)), (2, .int a2), (3, .int (nI x11)), (4, .int a4), (5, .int a5)]) (st2 := [.int (-1000000003), .ref 0]) (w3 := w) rfl rfl ?_
            refine sx_RP.callp (as2 := [.ref 0, .int (-1000000003)]) (rest2 := []) rfl rfl (sx_inv_v2 (mi := 118) (k := 78) (st := [.int (-1000000003), .ref 0]) (w := w) rfl rfl hI.1.o0 rfl rfl rfl) rfl rfl rfl (S9_2 hI) (show _ = 80 from rfl) ?_
            rintro r4 w56 ⟨rfl, hI57, hs55⟩
            show sx_RP _ _ _ _ _ [.int (-1000000003)] _ _
            refine sx_RP.ret (r := (some (.int (-1000000003)))) rfl rfl ?_
            exact ⟨⟨by rw [cp_3 (g := FCs w) (show x2 < 4 by omega) (show x11 < 4 by omega) (FCs_at (by omega)) (FCs_at (by omega)) c19 c24 q29], by rw [cpR_n (cp_3 (g := FCs w) (show x2 < 4 by omega) (show x11 < 4 by omega) (FCs_at (by omega)) (FCs_at (by omega)) c19 c24 q29) (by decide)]; exact NCs_eq (fun q hq => hs55 _ (by omega)), FCs_eq (fun q hq => hs55 _ (by omega))⟩, hI57, fun a h1 h2 => hs55 a h1⟩
set_option maxRecDepth 20000 in
set_option maxHeartbeats 4000000 in
theorem X234b {xs : Option (List Int32)} {d : Nat} {w0 : List sx_C} {s f t g n : Nat} (hs : s < 4) (ht : t < 4) (hf : f + n ≤ 40) (hg : g + n ≤ 40) : ∀ (q j : Nat) (w : List sx_C), j + q = n → WI w → (∀ i, i < n → (ja w 125).getD i 0 = (ja w0 124).getD (40 * s + f + i) 0) → (∀ k, k < 160 → (ja w 124).getD k 0 = if 40 * t + g ≤ k ∧ k < 40 * t + g + j then (ja w0 124).getD (40 * s + f + (k - (40 * t + g))) 0 else (ja w0 124).getD k 0) → sx_RP xs (d + 7) 234 152 [(0, .ref 111), (1, .int (nI s)), (2, .int (nI f)), (3, .int (nI t)), (4, .int (nI g)), (5, .int (nI n)), (6, .int (nI j))] [] w (fun r w2 => (r = some (.int (nI n)) ∧ ∀ k, k < 160 → (ja w2 124).getD k 0 = if 40 * t + g ≤ k ∧ k < 40 * t + g + n then (ja w0 124).getD (40 * s + f + (k - (40 * t + g))) 0 else (ja w0 124).getD k 0) ∧ WI w2 ∧ Same 124 w w2)
  | 0, j, w, hj, hI, hc, hz => by
    obtain rfl : j = n := by omega
    refine sx_RP.step (pc2 := 154) (ls2 := [(0, .ref 111), (1, .int (nI s)), (2, .int (nI f)), (3, .int (nI t)), (4, .int (nI g)), (5, .int (nI j)), (6, .int (nI j))]) (st2 := [.int (nI j)]) (w3 := w) rfl rfl ?_
    refine sx_RP.step (pc2 := 156) (ls2 := [(0, .ref 111), (1, .int (nI s)), (2, .int (nI f)), (3, .int (nI t)), (4, .int (nI g)), (5, .int (nI j)), (6, .int (nI j))]) (st2 := [.int (nI j), .int (nI j)]) (w3 := w) rfl rfl ?_
    refine sx_RP.br (p1 := 187) (l1 := [(0, .ref 111), (1, .int (nI s)), (2, .int (nI f)), (3, .int (nI t)), (4, .int (nI g)), (5, .int (nI j)), (6, .int (nI j))]) (s1 := []) (v1 := w) rfl rfl (fun _ => ?_) (fun q => absurd (nI_le (a := j) (b := j) (by omega) (by omega)) (of_decide_eq_false q))
    refine sx_RP.step (pc2 := 189) (ls2 := [(0, .ref 111), (1, .int (nI s)), (2, .int (nI f)), (3, .int (nI t)), (4, .int (nI g)), (5, .int (nI j)), (6, .int (nI j))]) (st2 := [.int (nI j)]) (w3 := w) rfl rfl ?_
    refine sx_RP.ret (r := (some (.int (nI j)))) rfl rfl ?_
    exact ⟨⟨rfl, hz⟩, hI, Same.rf⟩
  | q + 1, j, w, hj, hI, hc, hz => by
    refine sx_RP.step (pc2 := 154) (ls2 := [(0, .ref 111), (1, .int (nI s)), (2, .int (nI f)), (3, .int (nI t)), (4, .int (nI g)), (5, .int (nI n)), (6, .int (nI j))]) (st2 := [.int (nI j)]) (w3 := w) rfl rfl ?_
    refine sx_RP.step (pc2 := 156) (ls2 := [(0, .ref 111), (1, .int (nI s)), (2, .int (nI f)), (3, .int (nI t)), (4, .int (nI g)), (5, .int (nI n)), (6, .int (nI j))]) (st2 := [.int (nI n), .int (nI j)]) (w3 := w) rfl rfl ?_
    refine sx_RP.br (p2 := 159) (l2 := [(0, .ref 111), (1, .int (nI s)), (2, .int (nI f)), (3, .int (nI t)), (4, .int (nI g)), (5, .int (nI n)), (6, .int (nI j))]) (s2 := []) (v2 := w) rfl rfl (fun q => absurd (of_decide_eq_true q) (fun z => absurd ((nI_leI (a := n) (b := j) (by omega) (by omega)).mp z) (by omega))) (fun _ => ?_)
    refine sx_RP.step (pc2 := 160) (ls2 := [(0, .ref 111), (1, .int (nI s)), (2, .int (nI f)), (3, .int (nI t)), (4, .int (nI g)), (5, .int (nI n)), (6, .int (nI j))]) (st2 := [.ref 111]) (w3 := w) rfl rfl ?_
    refine sx_RP.gf (v := .ref 124) rfl rfl hI.1.o111 rfl rfl (show _ = 163 from rfl) ?_
    refine sx_RP.step (pc2 := 165) (ls2 := [(0, .ref 111), (1, .int (nI s)), (2, .int (nI f)), (3, .int (nI t)), (4, .int (nI g)), (5, .int (nI n)), (6, .int (nI j))]) (st2 := [.int 40, .ref 124]) (w3 := w) rfl rfl ?_
    refine sx_RP.step (pc2 := 166) (ls2 := [(0, .ref 111), (1, .int (nI s)), (2, .int (nI f)), (3, .int (nI t)), (4, .int (nI g)), (5, .int (nI n)), (6, .int (nI j))]) (st2 := [.int (nI t), .int 40, .ref 124]) (w3 := w) rfl rfl ?_
    refine sx_RP.step (pc2 := 167) (ls2 := [(0, .ref 111), (1, .int (nI s)), (2, .int (nI f)), (3, .int (nI t)), (4, .int (nI g)), (5, .int (nI n)), (6, .int (nI j))]) (st2 := [.int (40 * (nI t)), .ref 124]) (w3 := w) rfl rfl ?_
    rw [show (40 * (nI t) : Int32) = nI (40 * t) from nI_mul 40 t]
    refine sx_RP.step (pc2 := 169) (ls2 := [(0, .ref 111), (1, .int (nI s)), (2, .int (nI f)), (3, .int (nI t)), (4, .int (nI g)), (5, .int (nI n)), (6, .int (nI j))]) (st2 := [.int (nI g), .int (nI (40 * t)), .ref 124]) (w3 := w) rfl rfl ?_
    refine sx_RP.step (pc2 := 170) (ls2 := [(0, .ref 111), (1, .int (nI s)), (2, .int (nI f)), (3, .int (nI t)), (4, .int (nI g)), (5, .int (nI n)), (6, .int (nI j))]) (st2 := [.int ((nI (40 * t)) + (nI g)), .ref 124]) (w3 := w) rfl rfl ?_
    rw [show ((nI (40 * t)) + (nI g) : Int32) = nI ((40 * t) + g) from nI_add (40 * t) g]
    refine sx_RP.step (pc2 := 172) (ls2 := [(0, .ref 111), (1, .int (nI s)), (2, .int (nI f)), (3, .int (nI t)), (4, .int (nI g)), (5, .int (nI n)), (6, .int (nI j))]) (st2 := [.int (nI j), .int (nI ((40 * t) + g)), .ref 124]) (w3 := w) rfl rfl ?_
    refine sx_RP.step (pc2 := 173) (ls2 := [(0, .ref 111), (1, .int (nI s)), (2, .int (nI f)), (3, .int (nI t)), (4, .int (nI g)), (5, .int (nI n)), (6, .int (nI j))]) (st2 := [.int ((nI ((40 * t) + g)) + (nI j)), .ref 124]) (w3 := w) rfl rfl ?_
    rw [show ((nI ((40 * t) + g)) + (nI j) : Int32) = nI (((40 * t) + g) + j) from nI_add ((40 * t) + g) j]
    refine sx_RP.step (pc2 := 174) (ls2 := [(0, .ref 111), (1, .int (nI s)), (2, .int (nI f)), (3, .int (nI t)), (4, .int (nI g)), (5, .int (nI n)), (6, .int (nI j))]) (st2 := [.ref 111, .int (nI (((40 * t) + g) + j)), .ref 124]) (w3 := w) rfl rfl ?_
    refine sx_RP.gf (v := .ref 125) rfl rfl hI.1.o111 rfl rfl (show _ = 177 from rfl) ?_
    refine sx_RP.step (pc2 := 179) (ls2 := [(0, .ref 111), (1, .int (nI s)), (2, .int (nI f)), (3, .int (nI t)), (4, .int (nI g)), (5, .int (nI n)), (6, .int (nI j))]) (st2 := [.int (nI j), .ref 125, .int (nI (((40 * t) + g) + j)), .ref 124]) (w3 := w) rfl rfl ?_
    refine sx_RP.lld (c := j) rfl hI.1.a125.1 hI.1.a125.2 (sx_in_nI (show j < 40 by omega) (by decide)) (show (nI j).toNatClampNeg = j from nI_clamp (by omega)) (show _ = 180 from rfl) ?_
    refine sx_RP.xL (c := (((40 * t) + g) + j)) hI rfl hI.1.a124 (show (((40 * t) + g) + j) < 160 by omega) (by decide) (by omega) (show _ = 181 from rfl) (fun w1 hI2 hs3 hv4 => ?_)
    refine sx_RP.step (pc2 := 184) (ls2 := [(6, .int ((nI j) + 1)), (0, .ref 111), (1, .int (nI s)), (2, .int (nI f)), (3, .int (nI t)), (4, .int (nI g)), (5, .int (nI n))]) (st2 := []) (w3 := w1) rfl rfl ?_
    rw [nI_1 j]
    refine sx_RP.step (pc2 := 152) (ls2 := [(6, .int (nI (j + 1))), (0, .ref 111), (1, .int (nI s)), (2, .int (nI f)), (3, .int (nI t)), (4, .int (nI g)), (5, .int (nI n))]) (st2 := []) (w3 := w1) rfl rfl ?_
    refine sx_RP.ls (sx_lr.cons rfl (sx_lr.cons rfl (sx_lr.cons rfl (sx_lr.cons rfl (sx_lr.cons rfl (sx_lr.cons rfl (sx_lr.cons rfl sx_lr.nil))))))) ((X234b hs ht hf hg q (j + 1) w1 (by omega) hI2 (fun i hi => by rw [ja_of (hs3 125 (by decide))]; exact hc i hi) (fun k hk => ?_)).mono9 (fun r w2 z => ⟨z.1, z.2.1, hs3.tr z.2.2⟩))
    rw [hv4, gj_set (by rw [hI.1.a124.2]; omega)]
    by_cases e : k = 40 * t + g + j
    · rw [if_pos (by omega), if_pos (by omega), hc j (by omega), show 40 * s + f + (k - (40 * t + g)) = 40 * s + f + j by omega]
    · rw [if_neg (by omega), hz k hk]
      by_cases e2 : 40 * t + g ≤ k ∧ k < 40 * t + g + j
      · rw [if_pos e2, if_pos (by omega)]
      · rw [if_neg e2, if_neg (by omega)]
set_option maxRecDepth 20000 in
set_option maxHeartbeats 4000000 in
theorem X234a {xs : Option (List Int32)} {d : Nat} {s f t g n : Nat} (hs : s < 4) (ht : t < 4) (hf : f + n ≤ 40) (hg : g + n ≤ 40) : ∀ (q j : Nat) (w : List sx_C), j + q = n → WI w → (∀ i, i < j → (ja w 125).getD i 0 = (ja w 124).getD (40 * s + f + i) 0) → sx_RP xs (d + 7) 234 115 [(0, .ref 111), (1, .int (nI s)), (2, .int (nI f)), (3, .int (nI t)), (4, .int (nI g)), (5, .int (nI n)), (6, .int (nI j))] [] w (fun r w2 => (r = some (.int (nI n)) ∧ ∀ k, k < 160 → (ja w2 124).getD k 0 = if 40 * t + g ≤ k ∧ k < 40 * t + g + n then (ja w 124).getD (40 * s + f + (k - (40 * t + g))) 0 else (ja w 124).getD k 0) ∧ WI w2 ∧ ∀ a, a ≠ 124 → a ≠ 125 → w2[a]? = w[a]?)
  | 0, j, w, hj, hI, hc => by
    obtain rfl : j = n := by omega
    refine sx_RP.step (pc2 := 117) (ls2 := [(0, .ref 111), (1, .int (nI s)), (2, .int (nI f)), (3, .int (nI t)), (4, .int (nI g)), (5, .int (nI j)), (6, .int (nI j))]) (st2 := [.int (nI j)]) (w3 := w) rfl rfl ?_
    refine sx_RP.step (pc2 := 119) (ls2 := [(0, .ref 111), (1, .int (nI s)), (2, .int (nI f)), (3, .int (nI t)), (4, .int (nI g)), (5, .int (nI j)), (6, .int (nI j))]) (st2 := [.int (nI j), .int (nI j)]) (w3 := w) rfl rfl ?_
    refine sx_RP.br (p1 := 149) (l1 := [(0, .ref 111), (1, .int (nI s)), (2, .int (nI f)), (3, .int (nI t)), (4, .int (nI g)), (5, .int (nI j)), (6, .int (nI j))]) (s1 := []) (v1 := w) rfl rfl (fun _ => ?_) (fun q => absurd (nI_le (a := j) (b := j) (by omega) (by omega)) (of_decide_eq_false q))
    refine sx_RP.step (pc2 := 150) (ls2 := [(0, .ref 111), (1, .int (nI s)), (2, .int (nI f)), (3, .int (nI t)), (4, .int (nI g)), (5, .int (nI j)), (6, .int (nI j))]) (st2 := [.int 0]) (w3 := w) rfl rfl ?_
    refine sx_RP.step (pc2 := 152) (ls2 := [(6, .int 0), (0, .ref 111), (1, .int (nI s)), (2, .int (nI f)), (3, .int (nI t)), (4, .int (nI g)), (5, .int (nI j))]) (st2 := []) (w3 := w) rfl rfl ?_
    exact sx_RP.ls (sx_lr.cons rfl (sx_lr.cons rfl (sx_lr.cons rfl (sx_lr.cons rfl (sx_lr.cons rfl (sx_lr.cons rfl (sx_lr.cons rfl sx_lr.nil))))))) ((X234b (w0 := w) hs ht hf hg j 0 w (by omega) hI hc (fun k hk => by rw [if_neg (by omega)])).mono9 (fun r w2 z => ⟨z.1, z.2.1, fun a h1 h2 => z.2.2 a h1⟩))
  | q + 1, j, w, hj, hI, hc => by
    refine sx_RP.step (pc2 := 117) (ls2 := [(0, .ref 111), (1, .int (nI s)), (2, .int (nI f)), (3, .int (nI t)), (4, .int (nI g)), (5, .int (nI n)), (6, .int (nI j))]) (st2 := [.int (nI j)]) (w3 := w) rfl rfl ?_
    refine sx_RP.step (pc2 := 119) (ls2 := [(0, .ref 111), (1, .int (nI s)), (2, .int (nI f)), (3, .int (nI t)), (4, .int (nI g)), (5, .int (nI n)), (6, .int (nI j))]) (st2 := [.int (nI n), .int (nI j)]) (w3 := w) rfl rfl ?_
    refine sx_RP.br (p2 := 122) (l2 := [(0, .ref 111), (1, .int (nI s)), (2, .int (nI f)), (3, .int (nI t)), (4, .int (nI g)), (5, .int (nI n)), (6, .int (nI j))]) (s2 := []) (v2 := w) rfl rfl (fun q => absurd (of_decide_eq_true q) (fun z => absurd ((nI_leI (a := n) (b := j) (by omega) (by omega)).mp z) (by omega))) (fun _ => ?_)
    refine sx_RP.step (pc2 := 123) (ls2 := [(0, .ref 111), (1, .int (nI s)), (2, .int (nI f)), (3, .int (nI t)), (4, .int (nI g)), (5, .int (nI n)), (6, .int (nI j))]) (st2 := [.ref 111]) (w3 := w) rfl rfl ?_
    refine sx_RP.gf (v := .ref 125) rfl rfl hI.1.o111 rfl rfl (show _ = 126 from rfl) ?_
    refine sx_RP.step (pc2 := 128) (ls2 := [(0, .ref 111), (1, .int (nI s)), (2, .int (nI f)), (3, .int (nI t)), (4, .int (nI g)), (5, .int (nI n)), (6, .int (nI j))]) (st2 := [.int (nI j), .ref 125]) (w3 := w) rfl rfl ?_
    refine sx_RP.step (pc2 := 129) (ls2 := [(0, .ref 111), (1, .int (nI s)), (2, .int (nI f)), (3, .int (nI t)), (4, .int (nI g)), (5, .int (nI n)), (6, .int (nI j))]) (st2 := [.ref 111, .int (nI j), .ref 125]) (w3 := w) rfl rfl ?_
    refine sx_RP.gf (v := .ref 124) rfl rfl hI.1.o111 rfl rfl (show _ = 132 from rfl) ?_
    refine sx_RP.step (pc2 := 134) (ls2 := [(0, .ref 111), (1, .int (nI s)), (2, .int (nI f)), (3, .int (nI t)), (4, .int (nI g)), (5, .int (nI n)), (6, .int (nI j))]) (st2 := [.int 40, .ref 124, .int (nI j), .ref 125]) (w3 := w) rfl rfl ?_
    refine sx_RP.step (pc2 := 135) (ls2 := [(0, .ref 111), (1, .int (nI s)), (2, .int (nI f)), (3, .int (nI t)), (4, .int (nI g)), (5, .int (nI n)), (6, .int (nI j))]) (st2 := [.int (nI s), .int 40, .ref 124, .int (nI j), .ref 125]) (w3 := w) rfl rfl ?_
    refine sx_RP.step (pc2 := 136) (ls2 := [(0, .ref 111), (1, .int (nI s)), (2, .int (nI f)), (3, .int (nI t)), (4, .int (nI g)), (5, .int (nI n)), (6, .int (nI j))]) (st2 := [.int (40 * (nI s)), .ref 124, .int (nI j), .ref 125]) (w3 := w) rfl rfl ?_
    rw [show (40 * (nI s) : Int32) = nI (40 * s) from nI_mul 40 s]
    refine sx_RP.step (pc2 := 137) (ls2 := [(0, .ref 111), (1, .int (nI s)), (2, .int (nI f)), (3, .int (nI t)), (4, .int (nI g)), (5, .int (nI n)), (6, .int (nI j))]) (st2 := [.int (nI f), .int (nI (40 * s)), .ref 124, .int (nI j), .ref 125]) (w3 := w) rfl rfl ?_
    refine sx_RP.step (pc2 := 138) (ls2 := [(0, .ref 111), (1, .int (nI s)), (2, .int (nI f)), (3, .int (nI t)), (4, .int (nI g)), (5, .int (nI n)), (6, .int (nI j))]) (st2 := [.int ((nI (40 * s)) + (nI f)), .ref 124, .int (nI j), .ref 125]) (w3 := w) rfl rfl ?_
    rw [show ((nI (40 * s)) + (nI f) : Int32) = nI ((40 * s) + f) from nI_add (40 * s) f]
    refine sx_RP.step (pc2 := 140) (ls2 := [(0, .ref 111), (1, .int (nI s)), (2, .int (nI f)), (3, .int (nI t)), (4, .int (nI g)), (5, .int (nI n)), (6, .int (nI j))]) (st2 := [.int (nI j), .int (nI ((40 * s) + f)), .ref 124, .int (nI j), .ref 125]) (w3 := w) rfl rfl ?_
    refine sx_RP.step (pc2 := 141) (ls2 := [(0, .ref 111), (1, .int (nI s)), (2, .int (nI f)), (3, .int (nI t)), (4, .int (nI g)), (5, .int (nI n)), (6, .int (nI j))]) (st2 := [.int ((nI ((40 * s) + f)) + (nI j)), .ref 124, .int (nI j), .ref 125]) (w3 := w) rfl rfl ?_
    rw [show ((nI ((40 * s) + f)) + (nI j) : Int32) = nI (((40 * s) + f) + j) from nI_add ((40 * s) + f) j]
    refine sx_RP.lld (c := (((40 * s) + f) + j)) rfl hI.1.a124.1 hI.1.a124.2 (sx_in_nI (show (((40 * s) + f) + j) < 160 by omega) (by decide)) (show (nI (((40 * s) + f) + j)).toNatClampNeg = (((40 * s) + f) + j) from nI_clamp (by omega)) (show _ = 142 from rfl) ?_
    refine sx_RP.xL (c := j) hI rfl hI.1.a125 (show j < 40 by omega) (by decide) (by omega) (show _ = 143 from rfl) (fun w1 hI2 hs3 hv4 => ?_)
    refine sx_RP.step (pc2 := 146) (ls2 := [(6, .int ((nI j) + 1)), (0, .ref 111), (1, .int (nI s)), (2, .int (nI f)), (3, .int (nI t)), (4, .int (nI g)), (5, .int (nI n))]) (st2 := []) (w3 := w1) rfl rfl ?_
    rw [nI_1 j]
    refine sx_RP.step (pc2 := 115) (ls2 := [(6, .int (nI (j + 1))), (0, .ref 111), (1, .int (nI s)), (2, .int (nI f)), (3, .int (nI t)), (4, .int (nI g)), (5, .int (nI n))]) (st2 := []) (w3 := w1) rfl rfl ?_
    refine sx_RP.ls (sx_lr.cons rfl (sx_lr.cons rfl (sx_lr.cons rfl (sx_lr.cons rfl (sx_lr.cons rfl (sx_lr.cons rfl (sx_lr.cons rfl sx_lr.nil))))))) ((X234a hs ht hf hg q (j + 1) w1 (by omega) hI2 (fun i hi => ?_)).mono9 (fun r w2 z => ⟨⟨z.1.1, fun k hk => by rw [z.1.2 k hk, ja_of (hs3 124 (by decide))]⟩, z.2.1, fun a h1 h2 => (z.2.2 a h1 h2).trans (hs3 a h2)⟩))
    rw [hv4, gj_set (by rw [hI.1.a125.2]; omega), ja_of (hs3 124 (by decide))]
    by_cases e : i = j
    · rw [if_pos e, e]
    · rw [if_neg e]
      exact hc i (by omega)
set_option maxRecDepth 20000 in
set_option maxHeartbeats 4000000 in
theorem Y234 {xs : Option (List Int32)} {d : Nat} {w : List sx_C} (hI : WI w) (a1 a2 a3 a4 a5 : Int32) : sx_RP xs (d + 7) 234 0 (lv_args 0 [.ref 111, .int a1, .int a2, .int a3, .int a4, .int a5]) [] w (fun r w2 => (r = some (.int (cpAns (FMs w) a1 a2 a3 a4 a5)) ∧ NMs w2 = cpR (FMs w) (NMs w) a1 a2 a3 a4 a5 ∧ FMs w2 = FMs w) ∧ WI w2 ∧ ∀ a, a ≠ 116 → a ≠ 124 → a ≠ 125 → w2[a]? = w[a]?) := by
  refine sx_RP.step (pc2 := 1) (ls2 := [(0, .ref 111), (1, .int a1), (2, .int a2), (3, .int a3), (4, .int a4), (5, .int a5)]) (st2 := [.int a1]) (w3 := w) rfl rfl ?_
  rcases in_cases a1 0 3 (m := 0) (n := 3) rfl rfl (by decide) (by decide) with q1 | ⟨x2, hx3, hx4, rfl⟩
  · refine sx_RP.cu (as := [.int a1]) (rest2 := []) (st3 := [.int 0]) rfl rfl rfl rfl rfl (cx_231n q1) rfl ?_
    refine sx_RP.step (pc2 := 14) (ls2 := [(0, .ref 111), (1, .int a1), (2, .int a2), (3, .int a3), (4, .int a4), (5, .int a5)]) (st2 := []) (w3 := w) rfl rfl ?_
    refine sx_RP.step (pc2 := 15) (ls2 := [(0, .ref 111), (1, .int a1), (2, .int a2), (3, .int a3), (4, .int a4), (5, .int a5)]) (st2 := [.ref 111]) (w3 := w) rfl rfl ?_
    refine sx_RP.step (pc2 := 16) (ls2 := [(0, .ref 111), (1, .int a1), (2, .int a2), (3, .int a3), (4, .int a4), (5, .int a5)]) (st2 := [.int 0, .ref 111]) (w3 := w) rfl rfl ?_
    refine sx_RP.callp (as2 := [.ref 111, .int 0]) (rest2 := []) rfl rfl (sx_inv_v2 (mi := 234) (k := 70) (st := [.int 0, .ref 111]) (w := w) rfl rfl hI.1.o111 rfl rfl rfl) rfl rfl rfl (S133_0 hI) (show _ = 19 from rfl) ?_
    rintro r4 w7 ⟨rfl, hI8, hs6⟩
    show sx_RP _ _ _ _ _ [.int (-1000000001)] _ _
    refine sx_RP.ret (r := (some (.int (-1000000001)))) rfl rfl ?_
    exact ⟨⟨by rw [cp_1 (g := FMs w) (fun z => q1 z.1)], by rw [cpR_n (cp_1 (g := FMs w) (fun z => q1 z.1)) (by decide)]; exact NMs_eq (hs6 124 (by decide)), FMs_eq (hs6 122 (by decide)) (hs6 123 (by decide))⟩, hI8, fun a h1 h2 h3 => hs6 a h1⟩
  · refine sx_RP.cu (as := [.int (nI x2)]) (rest2 := []) (st3 := [.int 1]) rfl rfl rfl rfl rfl (cx_231p ⟨nI_le (a := 0) hx3 (by omega), nI_le (b := 3) hx4 (by decide)⟩) rfl ?_
    refine sx_RP.step (pc2 := 7) (ls2 := [(0, .ref 111), (1, .int (nI x2)), (2, .int a2), (3, .int a3), (4, .int a4), (5, .int a5)]) (st2 := []) (w3 := w) rfl rfl ?_
    refine sx_RP.step (pc2 := 8) (ls2 := [(0, .ref 111), (1, .int (nI x2)), (2, .int a2), (3, .int a3), (4, .int a4), (5, .int a5)]) (st2 := [.int a3]) (w3 := w) rfl rfl ?_
    rcases in_cases a3 0 3 (m := 0) (n := 3) rfl rfl (by decide) (by decide) with q9 | ⟨x10, hx11, hx12, rfl⟩
    · refine sx_RP.cu (as := [.int a3]) (rest2 := []) (st3 := [.int 0]) rfl rfl rfl rfl rfl (cx_231n q9) rfl ?_
      refine sx_RP.step (pc2 := 14) (ls2 := [(0, .ref 111), (1, .int (nI x2)), (2, .int a2), (3, .int a3), (4, .int a4), (5, .int a5)]) (st2 := []) (w3 := w) rfl rfl ?_
      refine sx_RP.step (pc2 := 15) (ls2 := [(0, .ref 111), (1, .int (nI x2)), (2, .int a2), (3, .int a3), (4, .int a4), (5, .int a5)]) (st2 := [.ref 111]) (w3 := w) rfl rfl ?_
      refine sx_RP.step (pc2 := 16) (ls2 := [(0, .ref 111), (1, .int (nI x2)), (2, .int a2), (3, .int a3), (4, .int a4), (5, .int a5)]) (st2 := [.int 0, .ref 111]) (w3 := w) rfl rfl ?_
      refine sx_RP.callp (as2 := [.ref 111, .int 0]) (rest2 := []) rfl rfl (sx_inv_v2 (mi := 234) (k := 70) (st := [.int 0, .ref 111]) (w := w) rfl rfl hI.1.o111 rfl rfl rfl) rfl rfl rfl (S133_0 hI) (show _ = 19 from rfl) ?_
      rintro r4 w15 ⟨rfl, hI16, hs14⟩
      show sx_RP _ _ _ _ _ [.int (-1000000001)] _ _
      refine sx_RP.ret (r := (some (.int (-1000000001)))) rfl rfl ?_
      exact ⟨⟨by rw [cp_1 (g := FMs w) (fun z => q9 z.2)], by rw [cpR_n (cp_1 (g := FMs w) (fun z => q9 z.2)) (by decide)]; exact NMs_eq (hs14 124 (by decide)), FMs_eq (hs14 122 (by decide)) (hs14 123 (by decide))⟩, hI16, fun a h1 h2 h3 => hs14 a h1⟩
    · refine sx_RP.cu (as := [.int (nI x10)]) (rest2 := []) (st3 := [.int 1]) rfl rfl rfl rfl rfl (cx_231p ⟨nI_le (a := 0) hx11 (by omega), nI_le (b := 3) hx12 (by decide)⟩) rfl ?_
      refine sx_RP.step (pc2 := 20) (ls2 := [(0, .ref 111), (1, .int (nI x2)), (2, .int a2), (3, .int (nI x10)), (4, .int a4), (5, .int a5)]) (st2 := []) (w3 := w) rfl rfl ?_
      refine sx_RP.step (pc2 := 21) (ls2 := [(0, .ref 111), (1, .int (nI x2)), (2, .int a2), (3, .int (nI x10)), (4, .int a4), (5, .int a5)]) (st2 := [.ref 111]) (w3 := w) rfl rfl ?_
      refine sx_RP.gf (v := .ref 122) rfl rfl hI.1.o111 rfl rfl (show _ = 24 from rfl) ?_
      refine sx_RP.step (pc2 := 25) (ls2 := [(0, .ref 111), (1, .int (nI x2)), (2, .int a2), (3, .int (nI x10)), (4, .int a4), (5, .int a5)]) (st2 := [.int (nI x2), .ref 122]) (w3 := w) rfl rfl ?_
      refine sx_RP.ild (c := x2) rfl hI.1.a122.1 hI.1.a122.2 (sx_in_nI (show x2 < 4 by omega) (by decide)) (show (nI x2).toNatClampNeg = x2 from nI_clamp (by omega)) (show _ = 26 from rfl) ?_
      refine sx_RP.br (p1 := 38) (l1 := [(0, .ref 111), (1, .int (nI x2)), (2, .int a2), (3, .int (nI x10)), (4, .int a4), (5, .int a5)]) (s1 := []) (v1 := w) (p2 := 29) (l2 := [(0, .ref 111), (1, .int (nI x2)), (2, .int a2), (3, .int (nI x10)), (4, .int a4), (5, .int a5)]) (s2 := []) (v2 := w) rfl rfl (fun q17 => ?_) (fun q17 => ?_)
      · replace q17 := of_decide_eq_true q17
        refine sx_RP.step (pc2 := 39) (ls2 := [(0, .ref 111), (1, .int (nI x2)), (2, .int a2), (3, .int (nI x10)), (4, .int a4), (5, .int a5)]) (st2 := [.ref 111]) (w3 := w) rfl rfl ?_
        refine sx_RP.step (pc2 := 40) (ls2 := [(0, .ref 111), (1, .int (nI x2)), (2, .int a2), (3, .int (nI x10)), (4, .int a4), (5, .int a5)]) (st2 := [.int 5, .ref 111]) (w3 := w) rfl rfl ?_
        refine sx_RP.callp (as2 := [.ref 111, .int 5]) (rest2 := []) rfl rfl (sx_inv_v2 (mi := 234) (k := 70) (st := [.int 5, .ref 111]) (w := w) rfl rfl hI.1.o111 rfl rfl rfl) rfl rfl rfl (S133_5 hI) (show _ = 43 from rfl) ?_
        rintro r4 w19 ⟨rfl, hI20, hs18⟩
        show sx_RP _ _ _ _ _ [.int (-1000000006)] _ _
        refine sx_RP.ret (r := (some (.int (-1000000006)))) rfl rfl ?_
        exact ⟨⟨by rw [cp_2 (g := FMs w) (show x2 < 4 by omega) (show x10 < 4 by omega) (FMs_at0 (by omega)) (FMs_at0 (by omega)) (Or.inl q17)], by rw [cpR_n (cp_2 (g := FMs w) (show x2 < 4 by omega) (show x10 < 4 by omega) (FMs_at0 (by omega)) (FMs_at0 (by omega)) (Or.inl q17)) (by decide)]; exact NMs_eq (hs18 124 (by decide)), FMs_eq (hs18 122 (by decide)) (hs18 123 (by decide))⟩, hI20, fun a h1 h2 h3 => hs18 a h1⟩
      · replace q17 := of_decide_eq_false q17
        refine sx_RP.step (pc2 := 30) (ls2 := [(0, .ref 111), (1, .int (nI x2)), (2, .int a2), (3, .int (nI x10)), (4, .int a4), (5, .int a5)]) (st2 := [.ref 111]) (w3 := w) rfl rfl ?_
        refine sx_RP.gf (v := .ref 122) rfl rfl hI.1.o111 rfl rfl (show _ = 33 from rfl) ?_
        refine sx_RP.step (pc2 := 34) (ls2 := [(0, .ref 111), (1, .int (nI x2)), (2, .int a2), (3, .int (nI x10)), (4, .int a4), (5, .int a5)]) (st2 := [.int (nI x10), .ref 122]) (w3 := w) rfl rfl ?_
        refine sx_RP.ild (c := x10) rfl hI.1.a122.1 hI.1.a122.2 (sx_in_nI (show x10 < 4 by omega) (by decide)) (show (nI x10).toNatClampNeg = x10 from nI_clamp (by omega)) (show _ = 35 from rfl) ?_
        refine sx_RP.br (p1 := 44) (l1 := [(0, .ref 111), (1, .int (nI x2)), (2, .int a2), (3, .int (nI x10)), (4, .int a4), (5, .int a5)]) (s1 := []) (v1 := w) (p2 := 38) (l2 := [(0, .ref 111), (1, .int (nI x2)), (2, .int a2), (3, .int (nI x10)), (4, .int a4), (5, .int a5)]) (s2 := []) (v2 := w) rfl rfl (fun q21 => ?_) (fun q21 => ?_)
        · replace q21 := of_decide_eq_true q21
          refine sx_RP.step (pc2 := 45) (ls2 := [(0, .ref 111), (1, .int (nI x2)), (2, .int a2), (3, .int (nI x10)), (4, .int a4), (5, .int a5)]) (st2 := [.ref 111]) (w3 := w) rfl rfl ?_
          refine sx_RP.gf (v := .ref 122) rfl rfl hI.1.o111 rfl rfl (show _ = 48 from rfl) ?_
          refine sx_RP.step (pc2 := 49) (ls2 := [(0, .ref 111), (1, .int (nI x2)), (2, .int a2), (3, .int (nI x10)), (4, .int a4), (5, .int a5)]) (st2 := [.int (nI x2), .ref 122]) (w3 := w) rfl rfl ?_
          refine sx_RP.ild (c := x2) rfl hI.1.a122.1 hI.1.a122.2 (sx_in_nI (show x2 < 4 by omega) (by decide)) (show (nI x2).toNatClampNeg = x2 from nI_clamp (by omega)) (show _ = 50 from rfl) ?_
          refine sx_RP.step (pc2 := 51) (ls2 := [(0, .ref 111), (1, .int (nI x2)), (2, .int a2), (3, .int (nI x10)), (4, .int a4), (5, .int a5)]) (st2 := [.ref 111, .int ((ia w 122).getD x2 0)]) (w3 := w) rfl rfl ?_
          refine sx_RP.gf (v := .ref 122) rfl rfl hI.1.o111 rfl rfl (show _ = 54 from rfl) ?_
          refine sx_RP.step (pc2 := 55) (ls2 := [(0, .ref 111), (1, .int (nI x2)), (2, .int a2), (3, .int (nI x10)), (4, .int a4), (5, .int a5)]) (st2 := [.int (nI x10), .ref 122, .int ((ia w 122).getD x2 0)]) (w3 := w) rfl rfl ?_
          refine sx_RP.ild (c := x10) rfl hI.1.a122.1 hI.1.a122.2 (sx_in_nI (show x10 < 4 by omega) (by decide)) (show (nI x10).toNatClampNeg = x10 from nI_clamp (by omega)) (show _ = 56 from rfl) ?_
          refine sx_RP.br (p1 := 65) (l1 := [(0, .ref 111), (1, .int (nI x2)), (2, .int a2), (3, .int (nI x10)), (4, .int a4), (5, .int a5)]) (s1 := []) (v1 := w) (p2 := 59) (l2 := [(0, .ref 111), (1, .int (nI x2)), (2, .int a2), (3, .int (nI x10)), (4, .int a4), (5, .int a5)]) (s2 := []) (v2 := w) rfl rfl (fun q22 => ?_) (fun q22 => ?_)
          · replace q22 := of_decide_eq_true q22
            obtain ⟨x23, hx24, ex25⟩ := hI.l (show x2 < 4 by omega)
            obtain ⟨x26, hx27, ex28⟩ := hI.l (show x10 < 4 by omega)
            refine sx_RP.step (pc2 := 67) (ls2 := [(0, .ref 111), (1, .int (nI x2)), (2, .int a2), (3, .int (nI x10)), (4, .int a4), (5, .int a5)]) (st2 := [.int a5]) (w3 := w) rfl rfl ?_
            refine sx_RP.br (p1 := 106) (l1 := [(0, .ref 111), (1, .int (nI x2)), (2, .int a2), (3, .int (nI x10)), (4, .int a4), (5, .int a5)]) (s1 := []) (v1 := w) (p2 := 70) (l2 := [(0, .ref 111), (1, .int (nI x2)), (2, .int a2), (3, .int (nI x10)), (4, .int a4), (5, .int a5)]) (s2 := []) (v2 := w) rfl rfl (fun q29 => ?_) (fun q29 => ?_)
            · replace q29 := of_decide_eq_true q29
              refine sx_RP.step (pc2 := 107) (ls2 := [(0, .ref 111), (1, .int (nI x2)), (2, .int a2), (3, .int (nI x10)), (4, .int a4), (5, .int a5)]) (st2 := [.ref 111]) (w3 := w) rfl rfl ?_
              refine sx_RP.step (pc2 := 108) (ls2 := [(0, .ref 111), (1, .int (nI x2)), (2, .int a2), (3, .int (nI x10)), (4, .int a4), (5, .int a5)]) (st2 := [.int 0, .ref 111]) (w3 := w) rfl rfl ?_
              refine sx_RP.callp (as2 := [.ref 111, .int 0]) (rest2 := []) rfl rfl (sx_inv_v2 (mi := 234) (k := 70) (st := [.int 0, .ref 111]) (w := w) rfl rfl hI.1.o111 rfl rfl rfl) rfl rfl rfl (S133_0 hI) (show _ = 111 from rfl) ?_
              rintro r4 w31 ⟨rfl, hI32, hs30⟩
              show sx_RP _ _ _ _ _ [.int (-1000000001)] _ _
              refine sx_RP.ret (r := (some (.int (-1000000001)))) rfl rfl ?_
              exact ⟨⟨by rw [cp_4 (g := FMs w) (show x2 < 4 by omega) (show x10 < 4 by omega) (FMs_at (by omega) ex25) (FMs_at (by omega) ex28) q17 q21 q22 (fun z => ((run_iff2 (by omega)).mp z.1).1 q29)], by rw [cpR_n (cp_4 (g := FMs w) (show x2 < 4 by omega) (show x10 < 4 by omega) (FMs_at (by omega) ex25) (FMs_at (by omega) ex28) q17 q21 q22 (fun z => ((run_iff2 (by omega)).mp z.1).1 q29)) (by decide)]; exact NMs_eq (hs30 124 (by decide)), FMs_eq (hs30 122 (by decide)) (hs30 123 (by decide))⟩, hI32, fun a h1 h2 h3 => hs30 a h1⟩
            · replace q29 := of_decide_eq_false q29
              refine sx_RP.step (pc2 := 71) (ls2 := [(0, .ref 111), (1, .int (nI x2)), (2, .int a2), (3, .int (nI x10)), (4, .int a4), (5, .int a5)]) (st2 := [.int a2]) (w3 := w) rfl rfl ?_
              refine sx_RP.br (p1 := 106) (l1 := [(0, .ref 111), (1, .int (nI x2)), (2, .int a2), (3, .int (nI x10)), (4, .int a4), (5, .int a5)]) (s1 := []) (v1 := w) (p2 := 74) (l2 := [(0, .ref 111), (1, .int (nI x2)), (2, .int a2), (3, .int (nI x10)), (4, .int a4), (5, .int a5)]) (s2 := []) (v2 := w) rfl rfl (fun q33 => ?_) (fun q33 => ?_)
              · replace q33 := of_decide_eq_true q33
                refine sx_RP.step (pc2 := 107) (ls2 := [(0, .ref 111), (1, .int (nI x2)), (2, .int a2), (3, .int (nI x10)), (4, .int a4), (5, .int a5)]) (st2 := [.ref 111]) (w3 := w) rfl rfl ?_
                refine sx_RP.step (pc2 := 108) (ls2 := [(0, .ref 111), (1, .int (nI x2)), (2, .int a2), (3, .int (nI x10)), (4, .int a4), (5, .int a5)]) (st2 := [.int 0, .ref 111]) (w3 := w) rfl rfl ?_
                refine sx_RP.callp (as2 := [.ref 111, .int 0]) (rest2 := []) rfl rfl (sx_inv_v2 (mi := 234) (k := 70) (st := [.int 0, .ref 111]) (w := w) rfl rfl hI.1.o111 rfl rfl rfl) rfl rfl rfl (S133_0 hI) (show _ = 111 from rfl) ?_
                rintro r4 w35 ⟨rfl, hI36, hs34⟩
                show sx_RP _ _ _ _ _ [.int (-1000000001)] _ _
                refine sx_RP.ret (r := (some (.int (-1000000001)))) rfl rfl ?_
                exact ⟨⟨by rw [cp_4 (g := FMs w) (show x2 < 4 by omega) (show x10 < 4 by omega) (FMs_at (by omega) ex25) (FMs_at (by omega) ex28) q17 q21 q22 (fun z => ((run_iff2 (by omega)).mp z.1).2.1 q33)], by rw [cpR_n (cp_4 (g := FMs w) (show x2 < 4 by omega) (show x10 < 4 by omega) (FMs_at (by omega) ex25) (FMs_at (by omega) ex28) q17 q21 q22 (fun z => ((run_iff2 (by omega)).mp z.1).2.1 q33)) (by decide)]; exact NMs_eq (hs34 124 (by decide)), FMs_eq (hs34 122 (by decide)) (hs34 123 (by decide))⟩, hI36, fun a h1 h2 h3 => hs34 a h1⟩
              · replace q33 := of_decide_eq_false q33
                refine sx_RP.step (pc2 := 76) (ls2 := [(0, .ref 111), (1, .int (nI x2)), (2, .int a2), (3, .int (nI x10)), (4, .int a4), (5, .int a5)]) (st2 := [.int a4]) (w3 := w) rfl rfl ?_
                refine sx_RP.br (p1 := 106) (l1 := [(0, .ref 111), (1, .int (nI x2)), (2, .int a2), (3, .int (nI x10)), (4, .int a4), (5, .int a5)]) (s1 := []) (v1 := w) (p2 := 79) (l2 := [(0, .ref 111), (1, .int (nI x2)), (2, .int a2), (3, .int (nI x10)), (4, .int a4), (5, .int a5)]) (s2 := []) (v2 := w) rfl rfl (fun q37 => ?_) (fun q37 => ?_)
                · replace q37 := of_decide_eq_true q37
                  refine sx_RP.step (pc2 := 107) (ls2 := [(0, .ref 111), (1, .int (nI x2)), (2, .int a2), (3, .int (nI x10)), (4, .int a4), (5, .int a5)]) (st2 := [.ref 111]) (w3 := w) rfl rfl ?_
                  refine sx_RP.step (pc2 := 108) (ls2 := [(0, .ref 111), (1, .int (nI x2)), (2, .int a2), (3, .int (nI x10)), (4, .int a4), (5, .int a5)]) (st2 := [.int 0, .ref 111]) (w3 := w) rfl rfl ?_
                  refine sx_RP.callp (as2 := [.ref 111, .int 0]) (rest2 := []) rfl rfl (sx_inv_v2 (mi := 234) (k := 70) (st := [.int 0, .ref 111]) (w := w) rfl rfl hI.1.o111 rfl rfl rfl) rfl rfl rfl (S133_0 hI) (show _ = 111 from rfl) ?_
                  rintro r4 w39 ⟨rfl, hI40, hs38⟩
                  show sx_RP _ _ _ _ _ [.int (-1000000001)] _ _
                  refine sx_RP.ret (r := (some (.int (-1000000001)))) rfl rfl ?_
                  exact ⟨⟨by rw [cp_4 (g := FMs w) (show x2 < 4 by omega) (show x10 < 4 by omega) (FMs_at (by omega) ex25) (FMs_at (by omega) ex28) q17 q21 q22 (fun z => ((run_iff2 (by omega)).mp z.2).2.1 q37)], by rw [cpR_n (cp_4 (g := FMs w) (show x2 < 4 by omega) (show x10 < 4 by omega) (FMs_at (by omega) ex25) (FMs_at (by omega) ex28) q17 q21 q22 (fun z => ((run_iff2 (by omega)).mp z.2).2.1 q37)) (by decide)]; exact NMs_eq (hs38 124 (by decide)), FMs_eq (hs38 122 (by decide)) (hs38 123 (by decide))⟩, hI40, fun a h1 h2 h3 => hs38 a h1⟩
                · replace q37 := of_decide_eq_false q37
                  refine sx_RP.step (pc2 := 80) (ls2 := [(0, .ref 111), (1, .int (nI x2)), (2, .int a2), (3, .int (nI x10)), (4, .int a4), (5, .int a5)]) (st2 := [.int a2]) (w3 := w) rfl rfl ?_
                  refine sx_RP.step (pc2 := 81) (ls2 := [(0, .ref 111), (1, .int (nI x2)), (2, .int a2), (3, .int (nI x10)), (4, .int a4), (5, .int a5)]) (st2 := [.ref 111, .int a2]) (w3 := w) rfl rfl ?_
                  refine sx_RP.gf (v := .ref 123) rfl rfl hI.1.o111 rfl rfl (show _ = 84 from rfl) ?_
                  refine sx_RP.step (pc2 := 85) (ls2 := [(0, .ref 111), (1, .int (nI x2)), (2, .int a2), (3, .int (nI x10)), (4, .int a4), (5, .int a5)]) (st2 := [.int (nI x2), .ref 123, .int a2]) (w3 := w) rfl rfl ?_
                  refine sx_RP.ild (c := x2) rfl hI.1.a123.1 hI.1.a123.2 (sx_in_nI (show x2 < 4 by omega) (by decide)) (show (nI x2).toNatClampNeg = x2 from nI_clamp (by omega)) (show _ = 86 from rfl) ?_
                  rw [ex25]
                  refine sx_RP.step (pc2 := 88) (ls2 := [(0, .ref 111), (1, .int (nI x2)), (2, .int a2), (3, .int (nI x10)), (4, .int a4), (5, .int a5)]) (st2 := [.int a5, .int (nI x23), .int a2]) (w3 := w) rfl rfl ?_
                  refine sx_RP.step (pc2 := 89) (ls2 := [(0, .ref 111), (1, .int (nI x2)), (2, .int a2), (3, .int (nI x10)), (4, .int a4), (5, .int a5)]) (st2 := [.int ((nI x23) - a5), .int a2]) (w3 := w) rfl rfl ?_
                  refine sx_RP.br (p1 := 106) (l1 := [(0, .ref 111), (1, .int (nI x2)), (2, .int a2), (3, .int (nI x10)), (4, .int a4), (5, .int a5)]) (s1 := []) (v1 := w) (p2 := 92) (l2 := [(0, .ref 111), (1, .int (nI x2)), (2, .int a2), (3, .int (nI x10)), (4, .int a4), (5, .int a5)]) (s2 := []) (v2 := w) rfl rfl (fun q41 => ?_) (fun q41 => ?_)
                  · replace q41 := of_decide_eq_true q41
                    refine sx_RP.step (pc2 := 107) (ls2 := [(0, .ref 111), (1, .int (nI x2)), (2, .int a2), (3, .int (nI x10)), (4, .int a4), (5, .int a5)]) (st2 := [.ref 111]) (w3 := w) rfl rfl ?_
                    refine sx_RP.step (pc2 := 108) (ls2 := [(0, .ref 111), (1, .int (nI x2)), (2, .int a2), (3, .int (nI x10)), (4, .int a4), (5, .int a5)]) (st2 := [.int 0, .ref 111]) (w3 := w) rfl rfl ?_
                    refine sx_RP.callp (as2 := [.ref 111, .int 0]) (rest2 := []) rfl rfl (sx_inv_v2 (mi := 234) (k := 70) (st := [.int 0, .ref 111]) (w := w) rfl rfl hI.1.o111 rfl rfl rfl) rfl rfl rfl (S133_0 hI) (show _ = 111 from rfl) ?_
                    rintro r4 w43 ⟨rfl, hI44, hs42⟩
                    show sx_RP _ _ _ _ _ [.int (-1000000001)] _ _
                    refine sx_RP.ret (r := (some (.int (-1000000001)))) rfl rfl ?_
                    exact ⟨⟨by rw [cp_4 (g := FMs w) (show x2 < 4 by omega) (show x10 < 4 by omega) (FMs_at (by omega) ex25) (FMs_at (by omega) ex28) q17 q21 q22 (fun z => ((run_iff2 (by omega)).mp z.1).2.2 q41)], by rw [cpR_n (cp_4 (g := FMs w) (show x2 < 4 by omega) (show x10 < 4 by omega) (FMs_at (by omega) ex25) (FMs_at (by omega) ex28) q17 q21 q22 (fun z => ((run_iff2 (by omega)).mp z.1).2.2 q41)) (by decide)]; exact NMs_eq (hs42 124 (by decide)), FMs_eq (hs42 122 (by decide)) (hs42 123 (by decide))⟩, hI44, fun a h1 h2 h3 => hs42 a h1⟩
                  · replace q41 := of_decide_eq_false q41
                    refine sx_RP.step (pc2 := 94) (ls2 := [(0, .ref 111), (1, .int (nI x2)), (2, .int a2), (3, .int (nI x10)), (4, .int a4), (5, .int a5)]) (st2 := [.int a4]) (w3 := w) rfl rfl ?_
                    refine sx_RP.step (pc2 := 95) (ls2 := [(0, .ref 111), (1, .int (nI x2)), (2, .int a2), (3, .int (nI x10)), (4, .int a4), (5, .int a5)]) (st2 := [.ref 111, .int a4]) (w3 := w) rfl rfl ?_
                    refine sx_RP.gf (v := .ref 123) rfl rfl hI.1.o111 rfl rfl (show _ = 98 from rfl) ?_
                    refine sx_RP.step (pc2 := 99) (ls2 := [(0, .ref 111), (1, .int (nI x2)), (2, .int a2), (3, .int (nI x10)), (4, .int a4), (5, .int a5)]) (st2 := [.int (nI x10), .ref 123, .int a4]) (w3 := w) rfl rfl ?_
                    refine sx_RP.ild (c := x10) rfl hI.1.a123.1 hI.1.a123.2 (sx_in_nI (show x10 < 4 by omega) (by decide)) (show (nI x10).toNatClampNeg = x10 from nI_clamp (by omega)) (show _ = 100 from rfl) ?_
                    rw [ex28]
                    refine sx_RP.step (pc2 := 102) (ls2 := [(0, .ref 111), (1, .int (nI x2)), (2, .int a2), (3, .int (nI x10)), (4, .int a4), (5, .int a5)]) (st2 := [.int a5, .int (nI x26), .int a4]) (w3 := w) rfl rfl ?_
                    refine sx_RP.step (pc2 := 103) (ls2 := [(0, .ref 111), (1, .int (nI x2)), (2, .int a2), (3, .int (nI x10)), (4, .int a4), (5, .int a5)]) (st2 := [.int ((nI x26) - a5), .int a4]) (w3 := w) rfl rfl ?_
                    refine sx_RP.br (p1 := 112) (l1 := [(0, .ref 111), (1, .int (nI x2)), (2, .int a2), (3, .int (nI x10)), (4, .int a4), (5, .int a5)]) (s1 := []) (v1 := w) (p2 := 106) (l2 := [(0, .ref 111), (1, .int (nI x2)), (2, .int a2), (3, .int (nI x10)), (4, .int a4), (5, .int a5)]) (s2 := []) (v2 := w) rfl rfl (fun q45 => ?_) (fun q45 => ?_)
                    · replace q45 := of_decide_eq_true q45
                      refine sx_RP.step (pc2 := 113) (ls2 := [(0, .ref 111), (1, .int (nI x2)), (2, .int a2), (3, .int (nI x10)), (4, .int a4), (5, .int a5)]) (st2 := [.int 0]) (w3 := w) rfl rfl ?_
                      refine sx_RP.step (pc2 := 115) (ls2 := [(6, .int 0), (0, .ref 111), (1, .int (nI x2)), (2, .int a2), (3, .int (nI x10)), (4, .int a4), (5, .int a5)]) (st2 := []) (w3 := w) rfl rfl ?_
                      have hr54 : runB (nI x23) a2 a5 = true := (run_iff2 (by omega)).mpr ⟨q29, q33, q41⟩
                      have hr55 : runB (nI x26) a4 a5 = true := (run_iff2 (by omega)).mpr ⟨q29, q37, Int32.not_lt.mpr q45⟩
                      have ea56 := cp_5 (g := FMs w) (show x2 < 4 by omega) (show x10 < 4 by omega) (FMs_at (by omega) ex25) (FMs_at (by omega) ex28) q17 q21 q22 hr54 hr55
                      obtain ⟨x46, x47, rfl, rfl, hx48⟩ := cop_of (by omega) q33 q29 q41
                      obtain ⟨x49, x50, rfl, ex51, hx52⟩ := cop_of (by omega) q37 q29 (Int32.not_lt.mpr q45)
                      have ex53 := (nI_eq (a := x47) (b := x50) (by omega) (by omega)).mp ex51
                      refine sx_RP.ls (sx_lr.cons rfl (sx_lr.cons rfl (sx_lr.cons rfl (sx_lr.cons rfl (sx_lr.cons rfl (sx_lr.cons rfl (sx_lr.cons rfl sx_lr.nil))))))) ((X234a (show x2 < 4 by omega) (show x10 < 4 by omega) (show x46 + x47 ≤ 40 by omega) (show x49 + x47 ≤ 40 by omega) x47 0 w (by omega) hI (fun i hi => absurd hi (by omega))).mono9 (fun r w2 z => ⟨⟨by rw [z.1.1, ea56], ?_, FMs_eq (z.2.2 122 (by decide) (by decide)) (z.2.2 123 (by decide) (by decide))⟩, z.2.1, fun a h1 h2 h3 => z.2.2 a h2 h3⟩))
                      rw [cpR_y ea56 (by omega) (by omega) (by omega) (by omega)]
                      exact NMs_cp (by omega) (by omega) (by omega) (by omega) z.1.2
                    · replace q45 := of_decide_eq_false q45
                      refine sx_RP.step (pc2 := 107) (ls2 := [(0, .ref 111), (1, .int (nI x2)), (2, .int a2), (3, .int (nI x10)), (4, .int a4), (5, .int a5)]) (st2 := [.ref 111]) (w3 := w) rfl rfl ?_
                      refine sx_RP.step (pc2 := 108) (ls2 := [(0, .ref 111), (1, .int (nI x2)), (2, .int a2), (3, .int (nI x10)), (4, .int a4), (5, .int a5)]) (st2 := [.int 0, .ref 111]) (w3 := w) rfl rfl ?_
                      refine sx_RP.callp (as2 := [.ref 111, .int 0]) (rest2 := []) rfl rfl (sx_inv_v2 (mi := 234) (k := 70) (st := [.int 0, .ref 111]) (w := w) rfl rfl hI.1.o111 rfl rfl rfl) rfl rfl rfl (S133_0 hI) (show _ = 111 from rfl) ?_
                      rintro r4 w58 ⟨rfl, hI59, hs57⟩
                      show sx_RP _ _ _ _ _ [.int (-1000000001)] _ _
                      refine sx_RP.ret (r := (some (.int (-1000000001)))) rfl rfl ?_
                      exact ⟨⟨by rw [cp_4 (g := FMs w) (show x2 < 4 by omega) (show x10 < 4 by omega) (FMs_at (by omega) ex25) (FMs_at (by omega) ex28) q17 q21 q22 (fun z => ((run_iff2 (by omega)).mp z.2).2.2 (Int32.not_le.mp q45))], by rw [cpR_n (cp_4 (g := FMs w) (show x2 < 4 by omega) (show x10 < 4 by omega) (FMs_at (by omega) ex25) (FMs_at (by omega) ex28) q17 q21 q22 (fun z => ((run_iff2 (by omega)).mp z.2).2.2 (Int32.not_le.mp q45))) (by decide)]; exact NMs_eq (hs57 124 (by decide)), FMs_eq (hs57 122 (by decide)) (hs57 123 (by decide))⟩, hI59, fun a h1 h2 h3 => hs57 a h1⟩
          · replace q22 := of_decide_eq_false q22
            refine sx_RP.step (pc2 := 60) (ls2 := [(0, .ref 111), (1, .int (nI x2)), (2, .int a2), (3, .int (nI x10)), (4, .int a4), (5, .int a5)]) (st2 := [.ref 111]) (w3 := w) rfl rfl ?_
            refine sx_RP.step (pc2 := 61) (ls2 := [(0, .ref 111), (1, .int (nI x2)), (2, .int a2), (3, .int (nI x10)), (4, .int a4), (5, .int a5)]) (st2 := [.int 2, .ref 111]) (w3 := w) rfl rfl ?_
            refine sx_RP.callp (as2 := [.ref 111, .int 2]) (rest2 := []) rfl rfl (sx_inv_v2 (mi := 234) (k := 70) (st := [.int 2, .ref 111]) (w := w) rfl rfl hI.1.o111 rfl rfl rfl) rfl rfl rfl (S133_2 hI) (show _ = 64 from rfl) ?_
            rintro r4 w61 ⟨rfl, hI62, hs60⟩
            show sx_RP _ _ _ _ _ [.int (-1000000003)] _ _
            refine sx_RP.ret (r := (some (.int (-1000000003)))) rfl rfl ?_
            exact ⟨⟨by rw [cp_3 (g := FMs w) (show x2 < 4 by omega) (show x10 < 4 by omega) (FMs_at0 (by omega)) (FMs_at0 (by omega)) q17 q21 q22], by rw [cpR_n (cp_3 (g := FMs w) (show x2 < 4 by omega) (show x10 < 4 by omega) (FMs_at0 (by omega)) (FMs_at0 (by omega)) q17 q21 q22) (by decide)]; exact NMs_eq (hs60 124 (by decide)), FMs_eq (hs60 122 (by decide)) (hs60 123 (by decide))⟩, hI62, fun a h1 h2 h3 => hs60 a h1⟩
        · replace q21 := Decidable.not_not.mp (of_decide_eq_false q21)
          refine sx_RP.step (pc2 := 39) (ls2 := [(0, .ref 111), (1, .int (nI x2)), (2, .int a2), (3, .int (nI x10)), (4, .int a4), (5, .int a5)]) (st2 := [.ref 111]) (w3 := w) rfl rfl ?_
          refine sx_RP.step (pc2 := 40) (ls2 := [(0, .ref 111), (1, .int (nI x2)), (2, .int a2), (3, .int (nI x10)), (4, .int a4), (5, .int a5)]) (st2 := [.int 5, .ref 111]) (w3 := w) rfl rfl ?_
          refine sx_RP.callp (as2 := [.ref 111, .int 5]) (rest2 := []) rfl rfl (sx_inv_v2 (mi := 234) (k := 70) (st := [.int 5, .ref 111]) (w := w) rfl rfl hI.1.o111 rfl rfl rfl) rfl rfl rfl (S133_5 hI) (show _ = 43 from rfl) ?_
          rintro r4 w64 ⟨rfl, hI65, hs63⟩
          show sx_RP _ _ _ _ _ [.int (-1000000006)] _ _
          refine sx_RP.ret (r := (some (.int (-1000000006)))) rfl rfl ?_
          exact ⟨⟨by rw [cp_2 (g := FMs w) (show x2 < 4 by omega) (show x10 < 4 by omega) (FMs_at0 (by omega)) (FMs_at0 (by omega)) (Or.inr q21)], by rw [cpR_n (cp_2 (g := FMs w) (show x2 < 4 by omega) (show x10 < 4 by omega) (FMs_at0 (by omega)) (FMs_at0 (by omega)) (Or.inr q21)) (by decide)]; exact NMs_eq (hs63 124 (by decide)), FMs_eq (hs63 122 (by decide)) (hs63 123 (by decide))⟩, hI65, fun a h1 h2 h3 => hs63 a h1⟩
end
-- 89y21.blow.lean.txt
section
theorem gd_el {a : List Int32} {i : Nat} (h : i < a.length) : a.getD i 0 = a[i] := by
  rw [List.getD_eq_getElem?_getD, List.getElem?_eq_getElem h]
  rfl
theorem gd_mr {f : Nat → Int32} {k : Nat} (hk : k < 172) : ((List.range 172).map f).getD k 0 = f k := by
  rw [gd_el (by rw [List.length_map, List.length_range]; exact hk), List.getElem_map, List.getElem_range]
def rcB (l : List Int32) (c p i : Nat) : Bool := decide ((if l.getD (7 + i) 0 = 2 then (4 : Int32) else 0) < nI p - 3 * apF c i)
theorem rcB_congr {l m : List Int32} {c p i : Nat} (h : m.getD (7 + i) 0 = l.getD (7 + i) 0) : rcB m c p i = rcB l c p i := by
  unfold rcB
  rw [h]
def ctP (f : Nat → Bool) : Nat → Int32
  | 0 => 0
  | n + 1 => ctP f n + (if f n = true then 1 else 0)
theorem ctP_congr {f g : Nat → Bool} : ∀ (n : Nat), (∀ i, i < n → f i = g i) → ctP f n = ctP g n
  | 0, _ => rfl
  | n + 1, h => by
    show ctP f n + _ = ctP g n + _
    rw [ctP_congr n (fun i hi => h i (by omega)), h n (by omega)]
theorem ctP_one {f g : Nat → Bool} {j : Nat} (h0 : f j = false) (h : ∀ i, i ≠ j → g i = f i) : ∀ (n : Nat), j < n → ctP g n = ctP f n + (if g j = true then 1 else 0)
  | 0, hn => absurd hn (by omega)
  | n + 1, hn => by
    show ctP g n + _ = ctP f n + _ + _
    by_cases e : j = n
    · subst e
      rw [ctP_congr j (fun i hi => h i (by omega)), h0, if_neg (show ¬ false = true by decide), Int32.add_zero]
    · rw [ctP_one h0 h n (by omega), h n (Ne.symm e), Int32.add_assoc, Int32.add_assoc, Int32.add_comm (if g j = true then 1 else 0)]
def hdN (l : List Int32) (i : Nat) : Nat := iN (l.getD (103 + 6 * i + 2) 0)
def blG (l : List Int32) (B X Y Z : Nat → Bool) (k : Nat) : Int32 :=
  if 7 ≤ k ∧ k < 55 then (if (X (k - 7) && B (k - 7)) = true ∧ l.getD k 0 = 2 then 0 else l.getD k 0)
  else (if 55 ≤ k ∧ k < 103 then (if (Y (k - 55) && B (k - 55)) = true then 0 else l.getD k 0)
  else (if ((103 ≤ k ∧ k < 163) ∧ (k - 103) % 6 = 5) ∧ (k - 103) / 6 < iN (l.getD 1 0) ∧ (Z ((k - 103) / 6) && B (hdN l ((k - 103) / 6))) = true then 1 else l.getD k 0))
section SXBG
variable {l m : List Int32} {B X Y Z X2 Y2 Z2 : Nat → Bool} {i j k : Nat} {v : Int32}
theorem blG_st (hi : i < 48) : blG l B X Y Z (7 + i) = if (X i && B i) = true ∧ l.getD (7 + i) 0 = 2 then 0 else l.getD (7 + i) 0 := by
  unfold blG
  rw [if_pos (by omega), show 7 + i - 7 = i by omega]
theorem blG_wl (hi : i < 48) : blG l B X Y Z (55 + i) = if (Y i && B i) = true then 0 else l.getD (55 + i) 0 := by
  unfold blG
  rw [if_neg (by omega), if_pos (by omega), show 55 + i - 55 = i by omega]
theorem blG_ls (hi : i < 10) : blG l B X Y Z (103 + 6 * i + 5) = if i < iN (l.getD 1 0) ∧ (Z i && B (hdN l i)) = true then 1 else l.getD (103 + 6 * i + 5) 0 := by
  unfold blG
  rw [if_neg (by omega), if_neg (by omega), show (103 + 6 * i + 5 - 103) / 6 = i by omega]
  by_cases h : i < iN (l.getD 1 0) ∧ (Z i && B (hdN l i)) = true
  · rw [if_pos h, if_pos ⟨⟨⟨by omega, by omega⟩, by omega⟩, h⟩]
  · rw [if_neg h, if_neg (fun z => h z.2)]
theorem blG_o (h1 : ¬ (7 ≤ k ∧ k < 103)) (h2 : ¬ ((103 ≤ k ∧ k < 163) ∧ (k - 103) % 6 = 5)) : blG l B X Y Z k = l.getD k 0 := by
  unfold blG
  rw [if_neg (by omega), if_neg (by omega), if_neg (fun z => h2 z.1)]
theorem blG_ext (hX : ∀ i, i < 48 → 7 + i ≠ j → (X i && B i) = (X2 i && B i)) (hY : ∀ i, i < 48 → 55 + i ≠ j → (Y i && B i) = (Y2 i && B i)) (hZ : ∀ i, i < iN (l.getD 1 0) → 103 + 6 * i + 5 ≠ j → (Z i && B (hdN l i)) = (Z2 i && B (hdN l i))) (hk : k ≠ j) : blG l B X Y Z k = blG l B X2 Y2 Z2 k := by
  unfold blG
  by_cases h1 : 7 ≤ k ∧ k < 55
  · rw [if_pos h1, if_pos h1, hX (k - 7) (by omega) (by omega)]
  · rw [if_neg h1, if_neg h1]
    by_cases h2 : 55 ≤ k ∧ k < 103
    · rw [if_pos h2, if_pos h2, hY (k - 55) (by omega) (by omega)]
    · rw [if_neg h2, if_neg h2]
      by_cases h3 : ((103 ≤ k ∧ k < 163) ∧ (k - 103) % 6 = 5) ∧ (k - 103) / 6 < iN (l.getD 1 0)
      · have e := hZ ((k - 103) / 6) h3.2 (by omega)
        rw [e]
      · rw [if_neg (fun z => h3 ⟨z.1, z.2.1⟩), if_neg (fun z => h3 ⟨z.1, z.2.1⟩)]
def BG (l : List Int32) (B X Y Z : Nat → Bool) (m : List Int32) : Prop := m.length = 172 ∧ ∀ k, k < 172 → m.getD k 0 = blG l B X Y Z k
theorem BG.rf (hl : l.length = 172) (hX : ∀ i, X i = false) (hY : ∀ i, Y i = false) (hZ : ∀ i, Z i = false) : BG l B X Y Z l := by
  refine ⟨hl, fun k hk => ?_⟩
  unfold blG
  rw [hX, hY, hZ, Bool.false_and, Bool.false_and, Bool.false_and]
  split
  · rw [if_neg (fun z => absurd z.1 (by decide))]
  · split
    · rw [if_neg (by decide)]
    · rw [if_neg (fun z => absurd z.2.2 (by decide))]
theorem BG.cg (h : BG l B X Y Z m) (hX : ∀ i, i < 48 → (X2 i && B i) = (X i && B i)) (hY : ∀ i, i < 48 → (Y2 i && B i) = (Y i && B i)) (hZ : ∀ i, i < iN (l.getD 1 0) → (Z2 i && B (hdN l i)) = (Z i && B (hdN l i))) : BG l B X2 Y2 Z2 m := ⟨h.1, fun k hk => (h.2 k hk).trans (blG_ext (j := k + 1) (fun i hi _ => (hX i hi).symm) (fun i hi _ => (hY i hi).symm) (fun i hi _ => (hZ i hi).symm) (by omega))⟩
theorem BG.set (h : BG l B X Y Z m) (hj : j < 172) (hv : blG l B X2 Y2 Z2 j = v) (hX : ∀ i, i < 48 → 7 + i ≠ j → (X2 i && B i) = (X i && B i)) (hY : ∀ i, i < 48 → 55 + i ≠ j → (Y2 i && B i) = (Y i && B i)) (hZ : ∀ i, i < iN (l.getD 1 0) → 103 + 6 * i + 5 ≠ j → (Z2 i && B (hdN l i)) = (Z i && B (hdN l i))) : BG l B X2 Y2 Z2 (m.set j v) := by
  have hl := h.1
  refine ⟨by rw [List.length_set]; exact hl, fun k hk => ?_⟩
  rw [gd_set (by omega)]
  by_cases e : k = j
  · rw [if_pos e, e, hv]
  · rw [if_neg e, h.2 k hk]
    exact (blG_ext hX hY hZ e).symm
theorem gd_ext {a b : List Int32} (h : a.length = b.length) (hh : ∀ k, k < a.length → a.getD k 0 = b.getD k 0) : a = b := by
  refine List.ext_getElem h (fun i h1 h2 => ?_)
  have e := hh i h1
  rw [gd_el h1, gd_el h2] at e
  exact e
end SXBG
def allT (_ : Nat) : Bool := true
def blR (l : List Int32) (c p : Nat) : List Int32 := (List.range 172).map (blG l (rcB l c p) allT allT allT)
def blA (l : List Int32) (c p : Nat) : Int32 := ctP (fun i => rcB l c p (hdN l i) && (l.getD (103 + 6 * i + 5) 0 == 0)) (iN (l.getD 1 0))
theorem BG.fin {l m : List Int32} {c p : Nat} {X Y Z : Nat → Bool} (h : BG l (rcB l c p) X Y Z m) (hX : ∀ i, i < 48 → X i = true) (hY : ∀ i, i < 48 → Y i = true) (hZ : ∀ i, i < iN (l.getD 1 0) → Z i = true) : m = blR l c p := by
  have h2 : BG l (rcB l c p) allT allT allT m := h.cg (fun i hi => by rw [hX i hi]; rfl) (fun i hi => by rw [hY i hi]; rfl) (fun i hi => by rw [hZ i hi]; rfl)
  have hl := h2.1
  refine gd_ext (by unfold blR; rw [List.length_map, List.length_range]; exact hl) (fun k hk => ?_)
  rw [h2.2 k (by omega)]
  unfold blR
  rw [gd_mr (by omega)]
def ltB (j i : Nat) : Bool := decide (i < j)
def znB (l : List Int32) (j g i : Nat) : Bool := decide (hdN l i < j ∨ (hdN l i = j ∧ i < g))
theorem ltB_ne {i j : Nat} (h : i ≠ j) : ltB (j + 1) i = ltB j i := by
  unfold ltB
  exact decide_eq_decide.mpr (by omega)
theorem ltB_y {i j : Nat} (h : i < j) : ltB j i = true := decide_eq_true h
theorem ltB_n {i j : Nat} (h : ¬ i < j) : ltB j i = false := decide_eq_false h
theorem ltB_B {B : Nat → Bool} {i j : Nat} (h : B j = false) : (ltB (j + 1) i && B i) = (ltB j i && B i) := by
  by_cases e : i = j
  · rw [e, h, Bool.and_false, Bool.and_false]
  · rw [ltB_ne e]
theorem znB_0 {l : List Int32} {j i : Nat} : znB l j 0 i = ltB j (hdN l i) := by
  unfold znB ltB
  exact decide_eq_decide.mpr (by omega)
theorem znB_n {l : List Int32} {j n i : Nat} (h : i < n) : znB l j n i = ltB (j + 1) (hdN l i) := by
  unfold znB ltB
  exact decide_eq_decide.mpr (by omega)
theorem znB_s {l : List Int32} {j g i : Nat} (h : i ≠ g) : znB l j (g + 1) i = znB l j g i := by
  unfold znB
  exact decide_eq_decide.mpr (by omega)
theorem znB_q {l : List Int32} {j g i : Nat} (h : hdN l g ≠ j) : znB l j (g + 1) i = znB l j g i := by
  by_cases e : i = g
  · subst e
    unfold znB
    exact decide_eq_decide.mpr (by omega)
  · exact znB_s e
theorem znB_y {l : List Int32} {j g : Nat} (h : hdN l g = j) : znB l j (g + 1) g = true := decide_eq_true (by omega)
theorem znB_f {l : List Int32} {j g : Nat} (h : hdN l g = j) : znB l j g g = false := decide_eq_false (by omega)
theorem rel.wAll {w w2 : List sx_C} {A : Nat} {l m : List Int32} {B : Nat → Bool} (h : rel w A l) (hm : BG l B (fun _ => false) allT (fun _ => false) m) (hs : Same A w w2) (hr : ∀ j, fi w2 A j = fi w A j) (hv : ∀ b, b < 64 → bitL (fj w2 A 1) b = (bitL (fj w A 1) b && !(decide (b < 48) && B b))) : rel w2 A m := by
  have hg : ∀ k, k < 172 → ¬ (55 ≤ k ∧ k < 103) → m.getD k 0 = l.getD k 0 := by
    intro k hk h1
    rw [hm.2 k hk]
    unfold blG
    rw [Bool.false_and, if_neg h1, Bool.false_and]
    split
    · rw [if_neg (fun z => absurd z.1 (by decide))]
    · rw [if_neg (fun z => absurd z.2.2 (by decide))]
  obtain ⟨h0, ⟨h1, h2, h3, h4, h5, h6, h7⟩, h8, h9, h10, h11⟩ := h
  have e1 := hg 1 (by omega) (by omega)
  have e2 := hg 2 (by omega) (by omega)
  refine ⟨hm.1, ⟨(hr 6).trans (h1.trans (hg 0 (by omega) (by omega)).symm), (hr 3).trans (h2.trans e1.symm), (hr 5).trans (h3.trans e2.symm), (hr 7).trans (h4.trans (hg 3 (by omega) (by omega)).symm), (hr 8).trans (h5.trans (hg 4 (by omega) (by omega)).symm), (hr 9).trans (h6.trans (hg 5 (by omega) (by omega)).symm), (hr 10).trans (h7.trans (hg 6 (by omega) (by omega)).symm)⟩, fun b hb => ?_, fun b hb => ?_, fun i hi k hk => ?_, fun d hd => ?_⟩
  · rw [ia_of (hs (A + 1) (by omega)), hg (7 + b) (by omega) (by omega)]
    exact h8 b hb
  · have e := h9 b hb
    unfold wbt at e ⊢
    rw [hv b hb]
    unfold wlr at e ⊢
    by_cases c : b < 48
    · rw [if_pos c] at e ⊢
      rw [hm.2 _ (by omega), blG_wl c, decide_eq_true c, Bool.true_and]
      show _ = if (true && B b) = true then 0 else _
      rw [Bool.true_and]
      cases hB : B b
      · rw [if_neg (by decide), Bool.not_false, Bool.and_true]
        exact e
      · rw [if_pos rfl, Bool.not_true, Bool.and_false]
        rfl
    · rw [if_neg c] at e ⊢
      rw [decide_eq_false c, Bool.false_and, Bool.not_false, Bool.and_true]
      exact e
  · rw [e1] at hi
    by_cases c : 103 + 6 * i + k < 172
    · exact (fi_same k (hs _ (by omega))).trans ((h10 i hi k hk).trans (hg _ c (by omega)).symm)
    · rw [show m.getD (103 + 6 * i + k) 0 = 0 by rw [List.getD_eq_getElem?_getD, List.getElem?_eq_none (by have := hm.1; omega)]; rfl]
      refine (fi_same k (hs _ (by omega))).trans ((h10 i hi k hk).trans ?_)
      rw [List.getD_eq_getElem?_getD, List.getElem?_eq_none (by omega)]
      rfl
  · rw [e2] at hd
    have ed := (congrArg (fun q => List.getD q d 0) (ia_of (hs (A + 3) (by omega)))).trans (h11 d hd)
    by_cases c : 163 + d < 172
    · exact ed.trans (hg _ c (by omega)).symm
    · refine ed.trans ?_
      rw [List.getD_eq_getElem?_getD, List.getElem?_eq_none (by omega), List.getD_eq_getElem?_getD, List.getElem?_eq_none (by have := hm.1; omega)]
theorem BG.walls {l : List Int32} {B : Nat → Bool} (hl : l.length = 172) : BG l B (fun _ => false) allT (fun _ => false) ((List.range 172).map (blG l B (fun _ => false) allT (fun _ => false))) := by
  refine ⟨by rw [List.length_map, List.length_range], fun k hk => ?_⟩
  rw [gd_mr hk]
end
-- 89y22.blow1.lean.txt
section
set_option maxRecDepth 20000 in
set_option maxHeartbeats 4000000 in
theorem X77L {xs : Option (List Int32)} {d : Nat} {w : List sx_C} {l : List Int32} (hI : WI w) (hR : rel w 1 l) {c p : Nat} (hc : c < 48) (hp : p ≤ 30) : ∀ (q j : Nat) (u : Int64), j + q = 48 → (∀ i, i < 64 → bitL u i = (ltB j i && rcB l c p i)) → sx_RP xs (d + 2) 77 5 [(0, .ref 1), (1, .int (nI c)), (2, .int (nI p)), (3, .long u), (5, .int (nI j))] [] w (fun r w2 => (∃ v : Int64, r = some (.long v) ∧ ∀ i, i < 64 → bitL v i = (ltB 48 i && rcB l c p i)) ∧ w2 = w)
  | 0, j, u, hj, hu => by
    obtain rfl : j = 48 := by omega
    refine sx_RP.step (pc2 := 7) (ls2 := [(0, .ref 1), (1, .int (nI c)), (2, .int (nI p)), (3, .long u), (5, .int 48)]) (st2 := [.int 48]) (w3 := w) rfl rfl ?_
    refine sx_RP.step (pc2 := 9) (ls2 := [(0, .ref 1), (1, .int (nI c)), (2, .int (nI p)), (3, .long u), (5, .int 48)]) (st2 := [.int 48, .int 48]) (w3 := w) rfl rfl ?_
    refine sx_RP.step (pc2 := 58) (ls2 := [(0, .ref 1), (1, .int (nI c)), (2, .int (nI p)), (3, .long u), (5, .int 48)]) (st2 := []) (w3 := w) rfl rfl ?_
    refine sx_RP.step (pc2 := 59) (ls2 := [(0, .ref 1), (1, .int (nI c)), (2, .int (nI p)), (3, .long u), (5, .int 48)]) (st2 := [.long u]) (w3 := w) rfl rfl ?_
    refine sx_RP.ret (r := (some (.long u))) rfl rfl ?_
    exact ⟨⟨u, rfl, hu⟩, rfl⟩
  | q + 1, j, u, hj, hu => by
    refine sx_RP.step (pc2 := 7) (ls2 := [(0, .ref 1), (1, .int (nI c)), (2, .int (nI p)), (3, .long u), (5, .int (nI j))]) (st2 := [.int (nI j)]) (w3 := w) rfl rfl ?_
    refine sx_RP.step (pc2 := 9) (ls2 := [(0, .ref 1), (1, .int (nI c)), (2, .int (nI p)), (3, .long u), (5, .int (nI j))]) (st2 := [.int 48, .int (nI j)]) (w3 := w) rfl rfl ?_
    refine sx_RP.br (p2 := 12) (l2 := [(0, .ref 1), (1, .int (nI c)), (2, .int (nI p)), (3, .long u), (5, .int (nI j))]) (s2 := []) (v2 := w) rfl rfl (fun q => absurd (of_decide_eq_true q) (fun z => absurd ((nI_leI (a := 48) (b := j) (by omega) (by omega)).mp z) (by omega))) (fun _ => ?_)
    refine sx_RP.step (pc2 := 13) (ls2 := [(0, .ref 1), (1, .int (nI c)), (2, .int (nI p)), (3, .long u), (5, .int (nI j))]) (st2 := [.int (nI p)]) (w3 := w) rfl rfl ?_
    refine sx_RP.step (pc2 := 14) (ls2 := [(0, .ref 1), (1, .int (nI c)), (2, .int (nI p)), (3, .long u), (5, .int (nI j))]) (st2 := [.int 3, .int (nI p)]) (w3 := w) rfl rfl ?_
    refine sx_RP.step (pc2 := 15) (ls2 := [(0, .ref 1), (1, .int (nI c)), (2, .int (nI p)), (3, .long u), (5, .int (nI j))]) (st2 := [.int (nI c), .int 3, .int (nI p)]) (w3 := w) rfl rfl ?_
    refine sx_RP.step (pc2 := 17) (ls2 := [(0, .ref 1), (1, .int (nI c)), (2, .int (nI p)), (3, .long u), (5, .int (nI j))]) (st2 := [.int (nI j), .int (nI c), .int 3, .int (nI p)]) (w3 := w) rfl rfl ?_
    refine sx_RP.cu (as := [.int (nI c), .int (nI j)]) (rest2 := [.int 3, .int (nI p)]) (st3 := [.int (apF c j), .int 3, .int (nI p)]) rfl rfl rfl rfl rfl (x46 hI c j) rfl ?_
    refine sx_RP.step (pc2 := 21) (ls2 := [(0, .ref 1), (1, .int (nI c)), (2, .int (nI p)), (3, .long u), (5, .int (nI j))]) (st2 := [.int (3 * (apF c j)), .int (nI p)]) (w3 := w) rfl rfl ?_
    refine sx_RP.step (pc2 := 22) (ls2 := [(0, .ref 1), (1, .int (nI c)), (2, .int (nI p)), (3, .long u), (5, .int (nI j))]) (st2 := [.int ((nI p) - (3 * (apF c j)))]) (w3 := w) rfl rfl ?_
    refine sx_RP.step (pc2 := 24) (ls2 := [(6, .int ((nI p) - (3 * (apF c j)))), (0, .ref 1), (1, .int (nI c)), (2, .int (nI p)), (3, .long u), (5, .int (nI j))]) (st2 := []) (w3 := w) rfl rfl ?_
    refine sx_RP.step (pc2 := 26) (ls2 := [(6, .int ((nI p) - (3 * (apF c j)))), (0, .ref 1), (1, .int (nI c)), (2, .int (nI p)), (3, .long u), (5, .int (nI j))]) (st2 := [.int ((nI p) - (3 * (apF c j)))]) (w3 := w) rfl rfl ?_
    refine sx_RP.step (pc2 := 27) (ls2 := [(6, .int ((nI p) - (3 * (apF c j)))), (0, .ref 1), (1, .int (nI c)), (2, .int (nI p)), (3, .long u), (5, .int (nI j))]) (st2 := [.ref 1, .int ((nI p) - (3 * (apF c j)))]) (w3 := w) rfl rfl ?_
    refine sx_RP.gref (k := 0) (b := 2) hI (Or.inl rfl) rfl rfl (by omega) (show _ = 30 from rfl) ?_
    refine sx_RP.step (pc2 := 32) (ls2 := [(6, .int ((nI p) - (3 * (apF c j)))), (0, .ref 1), (1, .int (nI c)), (2, .int (nI p)), (3, .long u), (5, .int (nI j))]) (st2 := [.int (nI j), .ref 2, .int ((nI p) - (3 * (apF c j)))]) (w3 := w) rfl rfl ?_
    refine sx_RP.ild (c := j) rfl (hI.1.aS (Or.inl rfl)).1 (hI.1.aS (Or.inl rfl)).2 (sx_in_nI (show j < 48 by omega) (by decide)) (show (nI j).toNatClampNeg = j from nI_clamp (by omega)) (show _ = 33 from rfl) ?_
    obtain ⟨x1, hx2, ex3⟩ : inR ((ia w 2).getD j 0) 3 := hI.st (Or.inl rfl) (show j < 48 by omega)
    rw [ex3]
    refine sx_RP.step (pc2 := 34) (ls2 := [(6, .int ((nI p) - (3 * (apF c j)))), (0, .ref 1), (1, .int (nI c)), (2, .int (nI p)), (3, .long u), (5, .int (nI j))]) (st2 := [.int 2, .int (nI x1), .int ((nI p) - (3 * (apF c j)))]) (w3 := w) rfl rfl ?_
    refine sx_RP.br (p1 := 41) (l1 := [(6, .int ((nI p) - (3 * (apF c j)))), (0, .ref 1), (1, .int (nI c)), (2, .int (nI p)), (3, .long u), (5, .int (nI j))]) (s1 := [.int ((nI p) - (3 * (apF c j)))]) (v1 := w) (p2 := 37) (l2 := [(6, .int ((nI p) - (3 * (apF c j)))), (0, .ref 1), (1, .int (nI c)), (2, .int (nI p)), (3, .long u), (5, .int (nI j))]) (s2 := [.int ((nI p) - (3 * (apF c j)))]) (v2 := w) rfl rfl (fun q4 => ?_) (fun q4 => ?_)
    · replace q4 := of_decide_eq_true q4
      replace q4 := mt (nI_eq (a := x1) (b := 2) (by omega) (by omega)).mpr q4
      refine sx_RP.step (pc2 := 42) (ls2 := [(6, .int ((nI p) - (3 * (apF c j)))), (0, .ref 1), (1, .int (nI c)), (2, .int (nI p)), (3, .long u), (5, .int (nI j))]) (st2 := [.int 0, .int ((nI p) - (3 * (apF c j)))]) (w3 := w) rfl rfl ?_
      refine sx_RP.br (p1 := 52) (l1 := [(6, .int ((nI p) - (3 * (apF c j)))), (0, .ref 1), (1, .int (nI c)), (2, .int (nI p)), (3, .long u), (5, .int (nI j))]) (s1 := []) (v1 := w) (p2 := 45) (l2 := [(6, .int ((nI p) - (3 * (apF c j)))), (0, .ref 1), (1, .int (nI c)), (2, .int (nI p)), (3, .long u), (5, .int (nI j))]) (s2 := []) (v2 := w) rfl rfl (fun q5 => ?_) (fun q5 => ?_)
      · replace q5 := of_decide_eq_true q5
        refine sx_RP.step (pc2 := 55) (ls2 := [(5, .int ((nI j) + 1)), (6, .int ((nI p) - (3 * (apF c j)))), (0, .ref 1), (1, .int (nI c)), (2, .int (nI p)), (3, .long u)]) (st2 := []) (w3 := w) rfl rfl ?_
        rw [nI_1 j]
        refine sx_RP.step (pc2 := 5) (ls2 := [(5, .int (nI (j + 1))), (6, .int ((nI p) - (3 * (apF c j)))), (0, .ref 1), (1, .int (nI c)), (2, .int (nI p)), (3, .long u)]) (st2 := []) (w3 := w) rfl rfl ?_
        -- [('¬ (nI x1) = 2', True, 'q4'), ('((nI p) - (3 * (apF c j))) ≤ 0', True, 'q5')]
        have er : rcB l c p j = false := by
          unfold rcB
          rw [show l.getD (7 + j) 0 = nI x1 from (hR.gr (by omega)).symm.trans ex3, if_neg (show ¬ nI x1 = 2 from fun z => q4 ((nI_eq (a := x1) (b := 2) (by omega) (by decide)).mp z))]
          exact decide_eq_false (by first | exact q5 | exact Int32.not_lt.mpr q5)
        refine sx_RP.ls (sx_lr.cons rfl (sx_lr.cons rfl (sx_lr.cons rfl (sx_lr.cons rfl (sx_lr.cons rfl sx_lr.nil))))) (X77L hI hR hc hp q (j + 1) _ (by omega) (fun i hi => ?_))
        rw [hu i hi]
        exact (ltB_B er).symm
      · replace q5 := of_decide_eq_false q5
        refine sx_RP.step (pc2 := 46) (ls2 := [(6, .int ((nI p) - (3 * (apF c j)))), (0, .ref 1), (1, .int (nI c)), (2, .int (nI p)), (3, .long u), (5, .int (nI j))]) (st2 := [.long u]) (w3 := w) rfl rfl ?_
        refine sx_RP.step (pc2 := 47) (ls2 := [(6, .int ((nI p) - (3 * (apF c j)))), (0, .ref 1), (1, .int (nI c)), (2, .int (nI p)), (3, .long u), (5, .int (nI j))]) (st2 := [.long 1, .long u]) (w3 := w) rfl rfl ?_
        refine sx_RP.step (pc2 := 49) (ls2 := [(6, .int ((nI p) - (3 * (apF c j)))), (0, .ref 1), (1, .int (nI c)), (2, .int (nI p)), (3, .long u), (5, .int (nI j))]) (st2 := [.int (nI j), .long 1, .long u]) (w3 := w) rfl rfl ?_
        refine sx_RP.step (pc2 := 50) (ls2 := [(6, .int ((nI p) - (3 * (apF c j)))), (0, .ref 1), (1, .int (nI c)), (2, .int (nI p)), (3, .long u), (5, .int (nI j))]) (st2 := [.long ((1 : Int64) <<< ((nI j).toInt64 &&& 63)), .long u]) (w3 := w) rfl rfl ?_
        refine sx_RP.step (pc2 := 51) (ls2 := [(6, .int ((nI p) - (3 * (apF c j)))), (0, .ref 1), (1, .int (nI c)), (2, .int (nI p)), (3, .long u), (5, .int (nI j))]) (st2 := [.long (u ||| ((1 : Int64) <<< ((nI j).toInt64 &&& 63)))]) (w3 := w) rfl rfl ?_
        refine sx_RP.step (pc2 := 52) (ls2 := [(3, .long (u ||| ((1 : Int64) <<< ((nI j).toInt64 &&& 63)))), (6, .int ((nI p) - (3 * (apF c j)))), (0, .ref 1), (1, .int (nI c)), (2, .int (nI p)), (5, .int (nI j))]) (st2 := []) (w3 := w) rfl rfl ?_
        refine sx_RP.step (pc2 := 55) (ls2 := [(5, .int ((nI j) + 1)), (3, .long (u ||| ((1 : Int64) <<< ((nI j).toInt64 &&& 63)))), (6, .int ((nI p) - (3 * (apF c j)))), (0, .ref 1), (1, .int (nI c)), (2, .int (nI p))]) (st2 := []) (w3 := w) rfl rfl ?_
        rw [nI_1 j]
        refine sx_RP.step (pc2 := 5) (ls2 := [(5, .int (nI (j + 1))), (3, .long (u ||| ((1 : Int64) <<< ((nI j).toInt64 &&& 63)))), (6, .int ((nI p) - (3 * (apF c j)))), (0, .ref 1), (1, .int (nI c)), (2, .int (nI p))]) (st2 := []) (w3 := w) rfl rfl ?_
        -- [('¬ (nI x1) = 2', True, 'q4'), ('((nI p) - (3 * (apF c j))) ≤ 0', False, 'q5')]
        have er : rcB l c p j = true := by
          unfold rcB
          rw [show l.getD (7 + j) 0 = nI x1 from (hR.gr (by omega)).symm.trans ex3, if_neg (show ¬ nI x1 = 2 from fun z => q4 ((nI_eq (a := x1) (b := 2) (by omega) (by decide)).mp z))]
          exact decide_eq_true (by first | exact q5 | exact Int32.not_le.mp q5)
        refine sx_RP.ls (sx_lr.cons rfl (sx_lr.cons rfl (sx_lr.cons rfl (sx_lr.cons rfl (sx_lr.cons rfl sx_lr.nil))))) (X77L hI hR hc hp q (j + 1) _ (by omega) (fun i hi => ?_))
        rw [bit_or (by omega), hu i hi]
        by_cases e : j = i
        · rw [decide_eq_true e, Bool.or_true, ← e, er, ltB_y (by omega)]; rfl
        · rw [decide_eq_false e, Bool.or_false, ltB_ne (Ne.symm e)]
    · replace q4 := Decidable.not_not.mp (of_decide_eq_false q4)
      replace q4 := (nI_eq (a := x1) (b := 2) (by omega) (by omega)).mp q4
      refine sx_RP.step (pc2 := 38) (ls2 := [(6, .int ((nI p) - (3 * (apF c j)))), (0, .ref 1), (1, .int (nI c)), (2, .int (nI p)), (3, .long u), (5, .int (nI j))]) (st2 := [.int 4, .int ((nI p) - (3 * (apF c j)))]) (w3 := w) rfl rfl ?_
      refine sx_RP.step (pc2 := 42) (ls2 := [(6, .int ((nI p) - (3 * (apF c j)))), (0, .ref 1), (1, .int (nI c)), (2, .int (nI p)), (3, .long u), (5, .int (nI j))]) (st2 := [.int 4, .int ((nI p) - (3 * (apF c j)))]) (w3 := w) rfl rfl ?_
      refine sx_RP.br (p1 := 52) (l1 := [(6, .int ((nI p) - (3 * (apF c j)))), (0, .ref 1), (1, .int (nI c)), (2, .int (nI p)), (3, .long u), (5, .int (nI j))]) (s1 := []) (v1 := w) (p2 := 45) (l2 := [(6, .int ((nI p) - (3 * (apF c j)))), (0, .ref 1), (1, .int (nI c)), (2, .int (nI p)), (3, .long u), (5, .int (nI j))]) (s2 := []) (v2 := w) rfl rfl (fun q6 => ?_) (fun q6 => ?_)
      · replace q6 := of_decide_eq_true q6
        refine sx_RP.step (pc2 := 55) (ls2 := [(5, .int ((nI j) + 1)), (6, .int ((nI p) - (3 * (apF c j)))), (0, .ref 1), (1, .int (nI c)), (2, .int (nI p)), (3, .long u)]) (st2 := []) (w3 := w) rfl rfl ?_
        rw [nI_1 j]
        refine sx_RP.step (pc2 := 5) (ls2 := [(5, .int (nI (j + 1))), (6, .int ((nI p) - (3 * (apF c j)))), (0, .ref 1), (1, .int (nI c)), (2, .int (nI p)), (3, .long u)]) (st2 := []) (w3 := w) rfl rfl ?_
        -- [('¬ (nI x1) = 2', False, 'q4'), ('((nI p) - (3 * (apF c j))) ≤ 4', True, 'q6')]
        have er : rcB l c p j = false := by
          unfold rcB
          rw [show l.getD (7 + j) 0 = nI x1 from (hR.gr (by omega)).symm.trans ex3, if_pos (by rw [q4]; rfl)]
          exact decide_eq_false (by first | exact q6 | exact Int32.not_lt.mpr q6)
        refine sx_RP.ls (sx_lr.cons rfl (sx_lr.cons rfl (sx_lr.cons rfl (sx_lr.cons rfl (sx_lr.cons rfl sx_lr.nil))))) (X77L hI hR hc hp q (j + 1) _ (by omega) (fun i hi => ?_))
        rw [hu i hi]
        exact (ltB_B er).symm
      · replace q6 := of_decide_eq_false q6
        refine sx_RP.step (pc2 := 46) (ls2 := [(6, .int ((nI p) - (3 * (apF c j)))), (0, .ref 1), (1, .int (nI c)), (2, .int (nI p)), (3, .long u), (5, .int (nI j))]) (st2 := [.long u]) (w3 := w) rfl rfl ?_
        refine sx_RP.step (pc2 := 47) (ls2 := [(6, .int ((nI p) - (3 * (apF c j)))), (0, .ref 1), (1, .int (nI c)), (2, .int (nI p)), (3, .long u), (5, .int (nI j))]) (st2 := [.long 1, .long u]) (w3 := w) rfl rfl ?_
        refine sx_RP.step (pc2 := 49) (ls2 := [(6, .int ((nI p) - (3 * (apF c j)))), (0, .ref 1), (1, .int (nI c)), (2, .int (nI p)), (3, .long u), (5, .int (nI j))]) (st2 := [.int (nI j), .long 1, .long u]) (w3 := w) rfl rfl ?_
        refine sx_RP.step (pc2 := 50) (ls2 := [(6, .int ((nI p) - (3 * (apF c j)))), (0, .ref 1), (1, .int (nI c)), (2, .int (nI p)), (3, .long u), (5, .int (nI j))]) (st2 := [.long ((1 : Int64) <<< ((nI j).toInt64 &&& 63)), .long u]) (w3 := w) rfl rfl ?_
        refine sx_RP.step (pc2 := 51) (ls2 := [(6, .int ((nI p) - (3 * (apF c j)))), (0, .ref 1), (1, .int (nI c)), (2, .int (nI p)), (3, .long u), (5, .int (nI j))]) (st2 := [.long (u ||| ((1 : Int64) <<< ((nI j).toInt64 &&& 63)))]) (w3 := w) rfl rfl ?_
        refine sx_RP.step (pc2 := 52) (ls2 := [(3, .long (u ||| ((1 : Int64) <<< ((nI j).toInt64 &&& 63)))), (6, .int ((nI p) - (3 * (apF c j)))), (0, .ref 1), (1, .int (nI c)), (2, .int (nI p)), (5, .int (nI j))]) (st2 := []) (w3 := w) rfl rfl ?_
        refine sx_RP.step (pc2 := 55) (ls2 := [(5, .int ((nI j) + 1)), (3, .long (u ||| ((1 : Int64) <<< ((nI j).toInt64 &&& 63)))), (6, .int ((nI p) - (3 * (apF c j)))), (0, .ref 1), (1, .int (nI c)), (2, .int (nI p))]) (st2 := []) (w3 := w) rfl rfl ?_
        rw [nI_1 j]
        refine sx_RP.step (pc2 := 5) (ls2 := [(5, .int (nI (j + 1))), (3, .long (u ||| ((1 : Int64) <<< ((nI j).toInt64 &&& 63)))), (6, .int ((nI p) - (3 * (apF c j)))), (0, .ref 1), (1, .int (nI c)), (2, .int (nI p))]) (st2 := []) (w3 := w) rfl rfl ?_
        -- [('¬ (nI x1) = 2', False, 'q4'), ('((nI p) - (3 * (apF c j))) ≤ 4', False, 'q6')]
        have er : rcB l c p j = true := by
          unfold rcB
          rw [show l.getD (7 + j) 0 = nI x1 from (hR.gr (by omega)).symm.trans ex3, if_pos (by rw [q4]; rfl)]
          exact decide_eq_true (by first | exact q6 | exact Int32.not_le.mp q6)
        refine sx_RP.ls (sx_lr.cons rfl (sx_lr.cons rfl (sx_lr.cons rfl (sx_lr.cons rfl (sx_lr.cons rfl sx_lr.nil))))) (X77L hI hR hc hp q (j + 1) _ (by omega) (fun i hi => ?_))
        rw [bit_or (by omega), hu i hi]
        by_cases e : j = i
        · rw [decide_eq_true e, Bool.or_true, ← e, er, ltB_y (by omega)]; rfl
        · rw [decide_eq_false e, Bool.or_false, ltB_ne (Ne.symm e)]
set_option maxRecDepth 20000 in
set_option maxHeartbeats 4000000 in
theorem X77 {xs : Option (List Int32)} {d : Nat} {w : List sx_C} (hI : WI w) (l : List Int32) (hR : rel w 1 l) {c p : Nat} (hc : c < 48) (hp : p ≤ 30) : sx_RP xs (d + 2) 77 0 (lv_args 0 [.ref 1, .int (nI c), .int (nI p)]) [] w (fun r w2 => (∃ v : Int64, r = some (.long v) ∧ ∀ i, i < 64 → bitL v i = (ltB 48 i && rcB l c p i)) ∧ w2 = w) := by
  refine sx_RP.step (pc2 := 1) (ls2 := [(0, .ref 1), (1, .int (nI c)), (2, .int (nI p))]) (st2 := [.long 0]) (w3 := w) rfl rfl ?_
  refine sx_RP.step (pc2 := 2) (ls2 := [(3, .long 0), (0, .ref 1), (1, .int (nI c)), (2, .int (nI p))]) (st2 := []) (w3 := w) rfl rfl ?_
  refine sx_RP.step (pc2 := 3) (ls2 := [(3, .long 0), (0, .ref 1), (1, .int (nI c)), (2, .int (nI p))]) (st2 := [.int 0]) (w3 := w) rfl rfl ?_
  refine sx_RP.step (pc2 := 5) (ls2 := [(5, .int 0), (3, .long 0), (0, .ref 1), (1, .int (nI c)), (2, .int (nI p))]) (st2 := []) (w3 := w) rfl rfl ?_
  exact sx_RP.ls (sx_lr.cons rfl (sx_lr.cons rfl (sx_lr.cons rfl (sx_lr.cons rfl (sx_lr.cons rfl sx_lr.nil))))) (X77L hI hR hc hp 48 0 0 (by omega) (fun i hi => by rw [bit_0, ltB_n (by omega)]; rfl))
set_option maxRecDepth 20000 in
set_option maxHeartbeats 4000000 in
theorem X80c {xs : Option (List Int32)} {d : Nat} {l : List Int32} {Z : Nat → Bool} {w0 : List sx_C} {n : Int32} {B : Nat → Bool} {u : Int64} (hu : ∀ i, i < 64 → bitL u i = (ltB 48 i && B i)) : ∀ (q j : Nat) (w : List sx_C) (m : List Int32), j + q = 48 → WI w → rel w 1 m → BG l B (ltB j) allT Z m → Out 1 w0 w → sx_RP xs (d + 1) 80 77 [(0, .ref 1), (1, .long u), (3, .int n), (4, .int (nI j))] [] w (fun r w2 => (r = some (.int n) ∧ ∃ m2, rel w2 1 m2 ∧ BG l B (ltB 48) allT Z m2) ∧ WI w2 ∧ Out 1 w0 w2)
  | 0, j, w, m, hj, hI, hR, hm, hO => by
    obtain rfl : j = 48 := by omega
    refine sx_RP.step (pc2 := 79) (ls2 := [(0, .ref 1), (1, .long u), (3, .int n), (4, .int 48)]) (st2 := [.int 48]) (w3 := w) rfl rfl ?_
    refine sx_RP.step (pc2 := 81) (ls2 := [(0, .ref 1), (1, .long u), (3, .int n), (4, .int 48)]) (st2 := [.int 48, .int 48]) (w3 := w) rfl rfl ?_
    refine sx_RP.step (pc2 := 120) (ls2 := [(0, .ref 1), (1, .long u), (3, .int n), (4, .int 48)]) (st2 := []) (w3 := w) rfl rfl ?_
    refine sx_RP.step (pc2 := 121) (ls2 := [(0, .ref 1), (1, .long u), (3, .int n), (4, .int 48)]) (st2 := [.int n]) (w3 := w) rfl rfl ?_
    refine sx_RP.ret (r := (some (.int n))) rfl rfl ?_
    exact ⟨⟨rfl, m, hR, hm⟩, hI, hO⟩
  | q + 1, j, w, m, hj, hI, hR, hm, hO => by
    refine sx_RP.step (pc2 := 79) (ls2 := [(0, .ref 1), (1, .long u), (3, .int n), (4, .int (nI j))]) (st2 := [.int (nI j)]) (w3 := w) rfl rfl ?_
    refine sx_RP.step (pc2 := 81) (ls2 := [(0, .ref 1), (1, .long u), (3, .int n), (4, .int (nI j))]) (st2 := [.int 48, .int (nI j)]) (w3 := w) rfl rfl ?_
    refine sx_RP.br (p2 := 84) (l2 := [(0, .ref 1), (1, .long u), (3, .int n), (4, .int (nI j))]) (s2 := []) (v2 := w) rfl rfl (fun q => absurd (of_decide_eq_true q) (fun z => absurd ((nI_leI (a := 48) (b := j) (by omega) (by omega)).mp z) (by omega))) (fun _ => ?_)
    refine sx_RP.step (pc2 := 85) (ls2 := [(0, .ref 1), (1, .long u), (3, .int n), (4, .int (nI j))]) (st2 := [.ref 1]) (w3 := w) rfl rfl ?_
    refine sx_RP.gref (k := 0) (b := 2) hI (Or.inl rfl) rfl rfl (by omega) (show _ = 88 from rfl) ?_
    refine sx_RP.step (pc2 := 90) (ls2 := [(0, .ref 1), (1, .long u), (3, .int n), (4, .int (nI j))]) (st2 := [.int (nI j), .ref 2]) (w3 := w) rfl rfl ?_
    refine sx_RP.ild (c := j) rfl (hI.1.aS (Or.inl rfl)).1 (hI.1.aS (Or.inl rfl)).2 (sx_in_nI (show j < 48 by omega) (by decide)) (show (nI j).toNatClampNeg = j from nI_clamp (by omega)) (show _ = 91 from rfl) ?_
    obtain ⟨x1, hx2, ex3⟩ : inR ((ia w 2).getD j 0) 3 := hI.st (Or.inl rfl) (show j < 48 by omega)
    rw [ex3]
    refine sx_RP.step (pc2 := 92) (ls2 := [(0, .ref 1), (1, .long u), (3, .int n), (4, .int (nI j))]) (st2 := [.int 2, .int (nI x1)]) (w3 := w) rfl rfl ?_
    refine sx_RP.br (p1 := 114) (l1 := [(0, .ref 1), (1, .long u), (3, .int n), (4, .int (nI j))]) (s1 := []) (v1 := w) (p2 := 95) (l2 := [(0, .ref 1), (1, .long u), (3, .int n), (4, .int (nI j))]) (s2 := []) (v2 := w) rfl rfl (fun q4 => ?_) (fun q4 => ?_)
    · replace q4 := of_decide_eq_true q4
      replace q4 := mt (nI_eq (a := x1) (b := 2) (by omega) (by omega)).mpr q4
      refine sx_RP.step (pc2 := 117) (ls2 := [(4, .int ((nI j) + 1)), (0, .ref 1), (1, .long u), (3, .int n)]) (st2 := []) (w3 := w) rfl rfl ?_
      rw [nI_1 j]
      refine sx_RP.step (pc2 := 77) (ls2 := [(4, .int (nI (j + 1))), (0, .ref 1), (1, .long u), (3, .int n)]) (st2 := []) (w3 := w) rfl rfl ?_
      -- [('¬ (nI x1) = 2', True, 'q4')] []
      have ej : m.getD (7 + j) 0 = l.getD (7 + j) 0 := by rw [hm.2 _ (by omega), blG_st (by omega), ltB_n (by omega), Bool.false_and, if_neg (fun z => absurd z.1 (by decide))]
      have e7 : l.getD (7 + j) 0 = nI x1 := ej.symm.trans ((hR.gr (by omega)).symm.trans ex3)
      refine sx_RP.ls (sx_lr.cons rfl (sx_lr.cons rfl (sx_lr.cons rfl (sx_lr.cons rfl sx_lr.nil)))) (X80c hu q (j + 1) w m (by omega) hI hR ?_ hO)
      refine ⟨hm.1, fun k hk => ?_⟩
      rw [hm.2 k hk]
      by_cases e : k = 7 + j
      · rw [e, blG_st (by omega), blG_st (by omega), if_neg (fun z => q4 ((nI_eq (a := x1) (b := 2) (by omega) (by decide)).mp (e7.symm.trans z.2))), if_neg (fun z => q4 ((nI_eq (a := x1) (b := 2) (by omega) (by decide)).mp (e7.symm.trans z.2)))]
      · exact blG_ext (fun i hi h => by rw [ltB_ne (by omega)]) (fun i hi h => rfl) (fun i hi h => rfl) e
    · replace q4 := Decidable.not_not.mp (of_decide_eq_false q4)
      replace q4 := (nI_eq (a := x1) (b := 2) (by omega) (by omega)).mp q4
      refine sx_RP.step (pc2 := 96) (ls2 := [(0, .ref 1), (1, .long u), (3, .int n), (4, .int (nI j))]) (st2 := [.long u]) (w3 := w) rfl rfl ?_
      refine sx_RP.step (pc2 := 98) (ls2 := [(0, .ref 1), (1, .long u), (3, .int n), (4, .int (nI j))]) (st2 := [.int (nI j), .long u]) (w3 := w) rfl rfl ?_
      refine sx_RP.step (pc2 := 99) (ls2 := [(0, .ref 1), (1, .long u), (3, .int n), (4, .int (nI j))]) (st2 := [.long ((u.toUInt64 >>> ((nI j).toInt64.toUInt64 &&& Int64.toUInt64 63)).toInt64)]) (w3 := w) rfl rfl ?_
      refine sx_RP.step (pc2 := 100) (ls2 := [(0, .ref 1), (1, .long u), (3, .int n), (4, .int (nI j))]) (st2 := [.long 1, .long ((u.toUInt64 >>> ((nI j).toInt64.toUInt64 &&& Int64.toUInt64 63)).toInt64)]) (w3 := w) rfl rfl ?_
      refine sx_RP.step (pc2 := 101) (ls2 := [(0, .ref 1), (1, .long u), (3, .int n), (4, .int (nI j))]) (st2 := [.long (((u.toUInt64 >>> ((nI j).toInt64.toUInt64 &&& Int64.toUInt64 63)).toInt64) &&& 1)]) (w3 := w) rfl rfl ?_
      refine sx_RP.step (pc2 := 102) (ls2 := [(0, .ref 1), (1, .long u), (3, .int n), (4, .int (nI j))]) (st2 := [.long 1, .long (((u.toUInt64 >>> ((nI j).toInt64.toUInt64 &&& Int64.toUInt64 63)).toInt64) &&& 1)]) (w3 := w) rfl rfl ?_
      refine sx_RP.step (pc2 := 103) (ls2 := [(0, .ref 1), (1, .long u), (3, .int n), (4, .int (nI j))]) (st2 := [.int (lg_cmp (((u.toUInt64 >>> ((nI j).toInt64.toUInt64 &&& Int64.toUInt64 63)).toInt64) &&& 1) 1)]) (w3 := w) rfl rfl ?_
      refine sx_RP.br (p1 := 114) (l1 := [(0, .ref 1), (1, .long u), (3, .int n), (4, .int (nI j))]) (s1 := []) (v1 := w) (p2 := 106) (l2 := [(0, .ref 1), (1, .long u), (3, .int n), (4, .int (nI j))]) (s2 := []) (v2 := w) rfl rfl (fun q5 => ?_) (fun q5 => ?_)
      · replace q5 := of_decide_eq_true q5
        refine sx_RP.step (pc2 := 117) (ls2 := [(4, .int ((nI j) + 1)), (0, .ref 1), (1, .long u), (3, .int n)]) (st2 := []) (w3 := w) rfl rfl ?_
        rw [nI_1 j]
        refine sx_RP.step (pc2 := 77) (ls2 := [(4, .int (nI (j + 1))), (0, .ref 1), (1, .long u), (3, .int n)]) (st2 := []) (w3 := w) rfl rfl ?_
        -- [('¬ (nI x1) = 2', False, 'q4'), ('¬ (lg_cmp (((u.toUInt64 >>> ((nI j).toInt64.toUInt64 &&& Int64.toUInt64 63)).toInt64) &&& 1) 1) = 0', True, 'q5')] []
        have ej : m.getD (7 + j) 0 = l.getD (7 + j) 0 := by rw [hm.2 _ (by omega), blG_st (by omega), ltB_n (by omega), Bool.false_and, if_neg (fun z => absurd z.1 (by decide))]
        have e7 : l.getD (7 + j) 0 = nI x1 := ej.symm.trans ((hR.gr (by omega)).symm.trans ex3)
        refine sx_RP.ls (sx_lr.cons rfl (sx_lr.cons rfl (sx_lr.cons rfl (sx_lr.cons rfl sx_lr.nil)))) (X80c hu q (j + 1) w m (by omega) hI hR ?_ hO)
        have eB : B j = false := by cases hB : B j with | false => rfl | true => exact absurd ((bit_1 (by omega)).mpr (by rw [hu j (by omega), ltB_y (by omega), hB]; rfl)) q5
        exact hm.cg (fun i hi => ltB_B eB) (fun i hi => rfl) (fun i hi => rfl)
      · replace q5 := Decidable.not_not.mp (of_decide_eq_false q5)
        refine sx_RP.step (pc2 := 107) (ls2 := [(0, .ref 1), (1, .long u), (3, .int n), (4, .int (nI j))]) (st2 := [.ref 1]) (w3 := w) rfl rfl ?_
        refine sx_RP.gref (k := 0) (b := 2) hI (Or.inl rfl) rfl rfl (by omega) (show _ = 110 from rfl) ?_
        refine sx_RP.step (pc2 := 112) (ls2 := [(0, .ref 1), (1, .long u), (3, .int n), (4, .int (nI j))]) (st2 := [.int (nI j), .ref 2]) (w3 := w) rfl rfl ?_
        refine sx_RP.step (pc2 := 113) (ls2 := [(0, .ref 1), (1, .long u), (3, .int n), (4, .int (nI j))]) (st2 := [.int 0, .int (nI j), .ref 2]) (w3 := w) rfl rfl ?_
        refine sx_RP.xS (A := 1) (c := j) hI (Or.inl rfl) rfl (show j < 48 by omega) (inR.n (show 0 ≤ 3 by omega)) (show _ = 114 from rfl) (fun w6 hI7 hs8 hv9 => ?_)
        refine sx_RP.step (pc2 := 117) (ls2 := [(4, .int ((nI j) + 1)), (0, .ref 1), (1, .long u), (3, .int n)]) (st2 := []) (w3 := w6) rfl rfl ?_
        rw [nI_1 j]
        refine sx_RP.step (pc2 := 77) (ls2 := [(4, .int (nI (j + 1))), (0, .ref 1), (1, .long u), (3, .int n)]) (st2 := []) (w3 := w6) rfl rfl ?_
        -- [('¬ (nI x1) = 2', False, 'q4'), ('¬ (lg_cmp (((u.toUInt64 >>> ((nI j).toInt64.toUInt64 &&& Int64.toUInt64 63)).toInt64) &&& 1) 1) = 0', False, 'q5')] [('A', '1', 1, 'j', <symgen.V object at 0x7f50e0cc8b40>, 'hs8', 'hv9', 'w', 'w6')]
        have ej : m.getD (7 + j) 0 = l.getD (7 + j) 0 := by rw [hm.2 _ (by omega), blG_st (by omega), ltB_n (by omega), Bool.false_and, if_neg (fun z => absurd z.1 (by decide))]
        have e7 : l.getD (7 + j) 0 = nI x1 := ej.symm.trans ((hR.gr (by omega)).symm.trans ex3)
        have eB : B j = true := by have z := (bit_1 (by omega)).mp q5; rw [hu j (by omega), ltB_y (by omega), Bool.true_and] at z; exact z
        refine sx_RP.ls (sx_lr.cons rfl (sx_lr.cons rfl (sx_lr.cons rfl (sx_lr.cons rfl sx_lr.nil)))) (X80c hu q (j + 1) w6 (m.set (7 + j) 0) (by omega) hI7 (hR.sGr hI (Or.inl rfl) (by omega) hs8 hv9) ?_ (hO.tr (hs8.out (by omega))))
        exact hm.set (by omega) (by rw [blG_st (by omega), ltB_y (by omega), eB, if_pos ⟨rfl, by rw [e7, q4]; rfl⟩]) (fun i hi h => by rw [ltB_ne (by omega)]) (fun i hi h => rfl) (fun i hi h => rfl)
set_option maxRecDepth 20000 in
set_option maxHeartbeats 4000000 in
theorem X80g {xs : Option (List Int32)} {d n : Nat} {l : List Int32} {w0 : List sx_C} (hn : n ≤ 10) (en : l.getD 1 0 = nI n) {B : Nat → Bool} {u : Int64} (hu : ∀ i, i < 64 → bitL u i = (ltB 48 i && B i)) : ∀ (q g : Nat) (w : List sx_C) (m : List Int32), g + q = n → WI w → rel w 1 m → BG l B (fun _ => false) allT (ltB g) m → Out 1 w0 w → sx_RP xs (d + 1) 80 19 [(0, .ref 1), (1, .long u), (3, .int (ctP (fun i => B (hdN l i) && (l.getD (103 + 6 * i + 5) 0 == 0)) g)), (4, .int (nI g))] [] w (fun r w2 => (r = some (.int (ctP (fun i => B (hdN l i) && (l.getD (103 + 6 * i + 5) 0 == 0)) n)) ∧ ∃ m2, rel w2 1 m2 ∧ BG l B (ltB 48) allT (ltB n) m2) ∧ WI w2 ∧ Out 1 w0 w2)
  | 0, g, w, m, hg, hI, hR, hm, hO => by
    obtain rfl : g = n := by omega
    have em : m.getD 1 0 = nI g := by rw [hm.2 1 (by omega), blG_o (by omega) (by omega)]; exact en
    refine sx_RP.step (pc2 := 21) (ls2 := [(0, .ref 1), (1, .long u), (3, .int (ctP (fun i => B (hdN l i) && (l.getD (103 + 6 * i + 5) 0 == 0)) g)), (4, .int (nI g))]) (st2 := [.int (nI g)]) (w3 := w) rfl rfl ?_
    refine sx_RP.step (pc2 := 22) (ls2 := [(0, .ref 1), (1, .long u), (3, .int (ctP (fun i => B (hdN l i) && (l.getD (103 + 6 * i + 5) 0 == 0)) g)), (4, .int (nI g))]) (st2 := [.ref 1, .int (nI g)]) (w3 := w) rfl rfl ?_
    refine sx_RP.gc (k := 3) hI (Or.inl rfl) rfl rfl (by omega) (show _ = 25 from rfl) ?_
    rw [(hR.many.trans em)]
    refine sx_RP.br (p1 := 74) (l1 := [(0, .ref 1), (1, .long u), (3, .int (ctP (fun i => B (hdN l i) && (l.getD (103 + 6 * i + 5) 0 == 0)) g)), (4, .int (nI g))]) (s1 := []) (v1 := w) rfl rfl (fun _ => ?_) (fun q => absurd (nI_le (a := g) (b := g) (by omega) (by omega)) (of_decide_eq_false q))
    refine sx_RP.step (pc2 := 75) (ls2 := [(0, .ref 1), (1, .long u), (3, .int (ctP (fun i => B (hdN l i) && (l.getD (103 + 6 * i + 5) 0 == 0)) g)), (4, .int (nI g))]) (st2 := [.int 0]) (w3 := w) rfl rfl ?_
    refine sx_RP.step (pc2 := 77) (ls2 := [(4, .int 0), (0, .ref 1), (1, .long u), (3, .int (ctP (fun i => B (hdN l i) && (l.getD (103 + 6 * i + 5) 0 == 0)) g))]) (st2 := []) (w3 := w) rfl rfl ?_
    exact sx_RP.ls (sx_lr.cons rfl (sx_lr.cons rfl (sx_lr.cons rfl (sx_lr.cons rfl sx_lr.nil)))) (X80c hu 48 0 w m (by omega) hI hR (hm.cg (fun i hi => by rw [ltB_n (by omega)]) (fun i hi => rfl) (fun i hi => rfl)) hO)
  | q + 1, g, w, m, hg, hI, hR, hm, hO => by
    have em : m.getD 1 0 = nI n := by rw [hm.2 1 (by omega), blG_o (by omega) (by omega)]; exact en
    refine sx_RP.step (pc2 := 21) (ls2 := [(0, .ref 1), (1, .long u), (3, .int (ctP (fun i => B (hdN l i) && (l.getD (103 + 6 * i + 5) 0 == 0)) g)), (4, .int (nI g))]) (st2 := [.int (nI g)]) (w3 := w) rfl rfl ?_
    refine sx_RP.step (pc2 := 22) (ls2 := [(0, .ref 1), (1, .long u), (3, .int (ctP (fun i => B (hdN l i) && (l.getD (103 + 6 * i + 5) 0 == 0)) g)), (4, .int (nI g))]) (st2 := [.ref 1, .int (nI g)]) (w3 := w) rfl rfl ?_
    refine sx_RP.gc (k := 3) hI (Or.inl rfl) rfl rfl (by omega) (show _ = 25 from rfl) ?_
    rw [(hR.many.trans em)]
    refine sx_RP.br (p2 := 28) (l2 := [(0, .ref 1), (1, .long u), (3, .int (ctP (fun i => B (hdN l i) && (l.getD (103 + 6 * i + 5) 0 == 0)) g)), (4, .int (nI g))]) (s2 := []) (v2 := w) rfl rfl (fun q => absurd (of_decide_eq_true q) (fun z => absurd ((nI_leI (a := n) (b := g) (by omega) (by omega)).mp z) (by omega))) (fun _ => ?_)
    refine sx_RP.step (pc2 := 29) (ls2 := [(0, .ref 1), (1, .long u), (3, .int (ctP (fun i => B (hdN l i) && (l.getD (103 + 6 * i + 5) 0 == 0)) g)), (4, .int (nI g))]) (st2 := [.ref 1]) (w3 := w) rfl rfl ?_
    refine sx_RP.gref (k := 2) (b := 3) hI (Or.inl rfl) rfl rfl (by omega) (show _ = 32 from rfl) ?_
    refine sx_RP.step (pc2 := 34) (ls2 := [(0, .ref 1), (1, .long u), (3, .int (ctP (fun i => B (hdN l i) && (l.getD (103 + 6 * i + 5) 0 == 0)) g)), (4, .int (nI g))]) (st2 := [.int (nI g), .ref 3]) (w3 := w) rfl rfl ?_
    refine sx_RP.ald (v := .ref (1 + 4 + g)) rfl (hI.1.aG (Or.inl rfl)) rfl (grA_at (show g < 10 by omega)) (show _ = 35 from rfl) ?_
    refine sx_RP.step (pc2 := 37) (ls2 := [(5, .ref (1 + 4 + g)), (0, .ref 1), (1, .long u), (3, .int (ctP (fun i => B (hdN l i) && (l.getD (103 + 6 * i + 5) 0 == 0)) g)), (4, .int (nI g))]) (st2 := []) (w3 := w) rfl rfl ?_
    refine sx_RP.step (pc2 := 39) (ls2 := [(5, .ref (1 + 4 + g)), (0, .ref 1), (1, .long u), (3, .int (ctP (fun i => B (hdN l i) && (l.getD (103 + 6 * i + 5) 0 == 0)) g)), (4, .int (nI g))]) (st2 := [.ref (1 + 4 + g)]) (w3 := w) rfl rfl ?_
    refine sx_RP.gg (k := 5) hI (gAd.of (Or.inl rfl) (show g < 10 by omega)) rfl rfl (by decide) (show _ = 42 from rfl) ?_
    obtain ⟨x1, hx2, ex3⟩ : inR (fi w (1 + 4 + g) 5) 1 := hI.gk (k := 5) (gAd.of (Or.inl rfl) (show g < 10 by omega)) (by decide)
    rw [ex3]
    refine sx_RP.br (p1 := 68) (l1 := [(5, .ref (1 + 4 + g)), (0, .ref 1), (1, .long u), (3, .int (ctP (fun i => B (hdN l i) && (l.getD (103 + 6 * i + 5) 0 == 0)) g)), (4, .int (nI g))]) (s1 := []) (v1 := w) (p2 := 45) (l2 := [(5, .ref (1 + 4 + g)), (0, .ref 1), (1, .long u), (3, .int (ctP (fun i => B (hdN l i) && (l.getD (103 + 6 * i + 5) 0 == 0)) g)), (4, .int (nI g))]) (s2 := []) (v2 := w) rfl rfl (fun q4 => ?_) (fun q4 => ?_)
    · replace q4 := of_decide_eq_true q4
      replace q4 := mt (nI_eq (a := x1) (b := 0) (by omega) (by omega)).mpr q4
      refine sx_RP.step (pc2 := 71) (ls2 := [(4, .int ((nI g) + 1)), (5, .ref (1 + 4 + g)), (0, .ref 1), (1, .long u), (3, .int (ctP (fun i => B (hdN l i) && (l.getD (103 + 6 * i + 5) 0 == 0)) g))]) (st2 := []) (w3 := w) rfl rfl ?_
      rw [nI_1 g]
      refine sx_RP.step (pc2 := 19) (ls2 := [(4, .int (nI (g + 1))), (5, .ref (1 + 4 + g)), (0, .ref 1), (1, .long u), (3, .int (ctP (fun i => B (hdN l i) && (l.getD (103 + 6 * i + 5) 0 == 0)) g))]) (st2 := []) (w3 := w) rfl rfl ?_
      -- [('¬ (nI x1) = 0', True, 'q4')] [] {('w', '1 + 4 + g', 5): 'ex3'}
      have hg6 : g < iN (m.getD 1 0) := by rw [em, iN_n (by omega)]; omega
      have e5 : l.getD (103 + 6 * g + 5) 0 = nI x1 := by rw [← show m.getD (103 + 6 * g + 5) 0 = l.getD (103 + 6 * g + 5) 0 by rw [hm.2 _ (by omega), blG_ls (by omega), ltB_n (by omega), Bool.false_and, if_neg (fun z => absurd z.2 (by decide))]]; exact (hR.ga (i := g) (k := 5) hg6 (by decide)).symm.trans ex3
      have ef : (fun i => B (hdN l i) && (l.getD (103 + 6 * i + 5) 0 == 0)) g = false := by show (B (hdN l g) && (l.getD (103 + 6 * g + 5) 0 == 0)) = false; rw [e5, show (nI x1 == 0) = false from beq_eq_false_iff_ne.mpr (fun z => q4 ((nI_eq (a := x1) (b := 0) (by omega) (by decide)).mp z)), Bool.and_false]
      have ec : ctP (fun i => B (hdN l i) && (l.getD (103 + 6 * i + 5) 0 == 0)) g = ctP (fun i => B (hdN l i) && (l.getD (103 + 6 * i + 5) 0 == 0)) (g + 1) := by show _ = ctP (fun i => B (hdN l i) && (l.getD (103 + 6 * i + 5) 0 == 0)) g + _; rw [ef, if_neg (by decide), Int32.add_zero]
      rw [ec]
      refine sx_RP.ls (sx_lr.cons rfl (sx_lr.cons rfl (sx_lr.cons rfl (sx_lr.cons rfl sx_lr.nil)))) (X80g hn en hu q (g + 1) w m (by omega) hI hR ?_ hO)
      refine ⟨hm.1, fun k hk => ?_⟩
      rw [hm.2 k hk]
      by_cases e : k = 103 + 6 * g + 5
      · have e1 : l.getD (103 + 6 * g + 5) 0 = 1 := by rw [e5, show x1 = 1 by omega]; rfl
        rw [e, blG_ls (by omega), blG_ls (by omega), e1]
        split <;> split <;> rfl
      · exact blG_ext (fun i hi h => rfl) (fun i hi h => rfl) (fun i hi h => by rw [ltB_ne (by omega)]) e
    · replace q4 := Decidable.not_not.mp (of_decide_eq_false q4)
      replace q4 := (nI_eq (a := x1) (b := 0) (by omega) (by omega)).mp q4
      refine sx_RP.step (pc2 := 46) (ls2 := [(5, .ref (1 + 4 + g)), (0, .ref 1), (1, .long u), (3, .int (ctP (fun i => B (hdN l i) && (l.getD (103 + 6 * i + 5) 0 == 0)) g)), (4, .int (nI g))]) (st2 := [.long u]) (w3 := w) rfl rfl ?_
      refine sx_RP.step (pc2 := 48) (ls2 := [(5, .ref (1 + 4 + g)), (0, .ref 1), (1, .long u), (3, .int (ctP (fun i => B (hdN l i) && (l.getD (103 + 6 * i + 5) 0 == 0)) g)), (4, .int (nI g))]) (st2 := [.ref (1 + 4 + g), .long u]) (w3 := w) rfl rfl ?_
      refine sx_RP.gg (k := 2) hI (gAd.of (Or.inl rfl) (show g < 10 by omega)) rfl rfl (by decide) (show _ = 51 from rfl) ?_
      obtain ⟨x5, hx6, ex7⟩ : inR (fi w (1 + 4 + g) 2) 47 := hI.gk (k := 2) (gAd.of (Or.inl rfl) (show g < 10 by omega)) (by decide)
      rw [ex7]
      refine sx_RP.step (pc2 := 52) (ls2 := [(5, .ref (1 + 4 + g)), (0, .ref 1), (1, .long u), (3, .int (ctP (fun i => B (hdN l i) && (l.getD (103 + 6 * i + 5) 0 == 0)) g)), (4, .int (nI g))]) (st2 := [.long ((u.toUInt64 >>> ((nI x5).toInt64.toUInt64 &&& Int64.toUInt64 63)).toInt64)]) (w3 := w) rfl rfl ?_
      refine sx_RP.step (pc2 := 53) (ls2 := [(5, .ref (1 + 4 + g)), (0, .ref 1), (1, .long u), (3, .int (ctP (fun i => B (hdN l i) && (l.getD (103 + 6 * i + 5) 0 == 0)) g)), (4, .int (nI g))]) (st2 := [.long 1, .long ((u.toUInt64 >>> ((nI x5).toInt64.toUInt64 &&& Int64.toUInt64 63)).toInt64)]) (w3 := w) rfl rfl ?_
      refine sx_RP.step (pc2 := 54) (ls2 := [(5, .ref (1 + 4 + g)), (0, .ref 1), (1, .long u), (3, .int (ctP (fun i => B (hdN l i) && (l.getD (103 + 6 * i + 5) 0 == 0)) g)), (4, .int (nI g))]) (st2 := [.long (((u.toUInt64 >>> ((nI x5).toInt64.toUInt64 &&& Int64.toUInt64 63)).toInt64) &&& 1)]) (w3 := w) rfl rfl ?_
      refine sx_RP.step (pc2 := 55) (ls2 := [(5, .ref (1 + 4 + g)), (0, .ref 1), (1, .long u), (3, .int (ctP (fun i => B (hdN l i) && (l.getD (103 + 6 * i + 5) 0 == 0)) g)), (4, .int (nI g))]) (st2 := [.long 1, .long (((u.toUInt64 >>> ((nI x5).toInt64.toUInt64 &&& Int64.toUInt64 63)).toInt64) &&& 1)]) (w3 := w) rfl rfl ?_
      refine sx_RP.step (pc2 := 56) (ls2 := [(5, .ref (1 + 4 + g)), (0, .ref 1), (1, .long u), (3, .int (ctP (fun i => B (hdN l i) && (l.getD (103 + 6 * i + 5) 0 == 0)) g)), (4, .int (nI g))]) (st2 := [.int (lg_cmp (((u.toUInt64 >>> ((nI x5).toInt64.toUInt64 &&& Int64.toUInt64 63)).toInt64) &&& 1) 1)]) (w3 := w) rfl rfl ?_
      refine sx_RP.br (p1 := 68) (l1 := [(5, .ref (1 + 4 + g)), (0, .ref 1), (1, .long u), (3, .int (ctP (fun i => B (hdN l i) && (l.getD (103 + 6 * i + 5) 0 == 0)) g)), (4, .int (nI g))]) (s1 := []) (v1 := w) (p2 := 59) (l2 := [(5, .ref (1 + 4 + g)), (0, .ref 1), (1, .long u), (3, .int (ctP (fun i => B (hdN l i) && (l.getD (103 + 6 * i + 5) 0 == 0)) g)), (4, .int (nI g))]) (s2 := []) (v2 := w) rfl rfl (fun q8 => ?_) (fun q8 => ?_)
      · replace q8 := of_decide_eq_true q8
        refine sx_RP.step (pc2 := 71) (ls2 := [(4, .int ((nI g) + 1)), (5, .ref (1 + 4 + g)), (0, .ref 1), (1, .long u), (3, .int (ctP (fun i => B (hdN l i) && (l.getD (103 + 6 * i + 5) 0 == 0)) g))]) (st2 := []) (w3 := w) rfl rfl ?_
        rw [nI_1 g]
        refine sx_RP.step (pc2 := 19) (ls2 := [(4, .int (nI (g + 1))), (5, .ref (1 + 4 + g)), (0, .ref 1), (1, .long u), (3, .int (ctP (fun i => B (hdN l i) && (l.getD (103 + 6 * i + 5) 0 == 0)) g))]) (st2 := []) (w3 := w) rfl rfl ?_
        -- [('¬ (nI x1) = 0', False, 'q4'), ('¬ (lg_cmp (((u.toUInt64 >>> ((nI x5).toInt64.toUInt64 &&& Int64.toUInt64 63)).toInt64) &&& 1) 1) = 0', True, 'q8')] [] {('w', '1 + 4 + g', 5): 'ex3', ('w', '1 + 4 + g', 2): 'ex7'}
        have hg6 : g < iN (m.getD 1 0) := by rw [em, iN_n (by omega)]; omega
        have e5 : l.getD (103 + 6 * g + 5) 0 = nI x1 := by rw [← show m.getD (103 + 6 * g + 5) 0 = l.getD (103 + 6 * g + 5) 0 by rw [hm.2 _ (by omega), blG_ls (by omega), ltB_n (by omega), Bool.false_and, if_neg (fun z => absurd z.2 (by decide))]]; exact (hR.ga (i := g) (k := 5) hg6 (by decide)).symm.trans ex3
        have e2 : hdN l g = x5 := by unfold hdN; rw [← show m.getD (103 + 6 * g + 2) 0 = l.getD (103 + 6 * g + 2) 0 by rw [hm.2 _ (by omega), blG_o (by omega) (by omega)], show m.getD (103 + 6 * g + 2) 0 = nI x5 from (hR.ga (i := g) (k := 2) hg6 (by decide)).symm.trans ex7, iN_n (by omega)]
        have eB : B x5 = false := by cases hB : B x5 with | false => rfl | true => exact absurd ((bit_1 (by omega)).mpr (by rw [hu x5 (by omega), ltB_y (by omega), hB]; rfl)) q8
        have ef : (fun i => B (hdN l i) && (l.getD (103 + 6 * i + 5) 0 == 0)) g = false := by show (B (hdN l g) && (l.getD (103 + 6 * g + 5) 0 == 0)) = false; rw [e2, eB, Bool.false_and]
        have ec : ctP (fun i => B (hdN l i) && (l.getD (103 + 6 * i + 5) 0 == 0)) g = ctP (fun i => B (hdN l i) && (l.getD (103 + 6 * i + 5) 0 == 0)) (g + 1) := by show _ = ctP (fun i => B (hdN l i) && (l.getD (103 + 6 * i + 5) 0 == 0)) g + _; rw [ef, if_neg (by decide), Int32.add_zero]
        rw [ec]
        refine sx_RP.ls (sx_lr.cons rfl (sx_lr.cons rfl (sx_lr.cons rfl (sx_lr.cons rfl sx_lr.nil)))) (X80g hn en hu q (g + 1) w m (by omega) hI hR ?_ hO)
        exact hm.cg (fun i hi => rfl) (fun i hi => rfl) (fun i hi => by by_cases e : i = g; (rw [e, e2, eB, Bool.and_false, Bool.and_false]); (rw [ltB_ne e]))
      · replace q8 := Decidable.not_not.mp (of_decide_eq_false q8)
        refine sx_RP.step (pc2 := 61) (ls2 := [(5, .ref (1 + 4 + g)), (0, .ref 1), (1, .long u), (3, .int (ctP (fun i => B (hdN l i) && (l.getD (103 + 6 * i + 5) 0 == 0)) g)), (4, .int (nI g))]) (st2 := [.ref (1 + 4 + g)]) (w3 := w) rfl rfl ?_
        refine sx_RP.step (pc2 := 62) (ls2 := [(5, .ref (1 + 4 + g)), (0, .ref 1), (1, .long u), (3, .int (ctP (fun i => B (hdN l i) && (l.getD (103 + 6 * i + 5) 0 == 0)) g)), (4, .int (nI g))]) (st2 := [.int 1, .ref (1 + 4 + g)]) (w3 := w) rfl rfl ?_
        refine sx_RP.xG (k := 5) hI (gAd.of (Or.inl rfl) (show g < 10 by omega)) rfl rfl (by decide) rfl (show inR 1 1 from ⟨1, by decide, rfl⟩) (show _ = 65 from rfl) (fun w9 hI10 hs11 hv12 hr13 => ?_)
        have ex14 := (fi_same 3 (hs11 1 (by omega))).trans (hR.many.trans em)
        have ex15 := (hr13 2 (by decide)).trans ex7
        refine sx_RP.step (pc2 := 68) (ls2 := [(3, .int ((ctP (fun i => B (hdN l i) && (l.getD (103 + 6 * i + 5) 0 == 0)) g) + 1)), (5, .ref (1 + 4 + g)), (0, .ref 1), (1, .long u), (4, .int (nI g))]) (st2 := []) (w3 := w9) rfl rfl ?_
        refine sx_RP.step (pc2 := 71) (ls2 := [(4, .int ((nI g) + 1)), (3, .int ((ctP (fun i => B (hdN l i) && (l.getD (103 + 6 * i + 5) 0 == 0)) g) + 1)), (5, .ref (1 + 4 + g)), (0, .ref 1), (1, .long u)]) (st2 := []) (w3 := w9) rfl rfl ?_
        rw [nI_1 g]
        refine sx_RP.step (pc2 := 19) (ls2 := [(4, .int (nI (g + 1))), (3, .int ((ctP (fun i => B (hdN l i) && (l.getD (103 + 6 * i + 5) 0 == 0)) g) + 1)), (5, .ref (1 + 4 + g)), (0, .ref 1), (1, .long u)]) (st2 := []) (w3 := w9) rfl rfl ?_
        -- [('¬ (nI x1) = 0', False, 'q4'), ('¬ (lg_cmp (((u.toUInt64 >>> ((nI x5).toInt64.toUInt64 &&& Int64.toUInt64 63)).toInt64) &&& 1) 1) = 0', False, 'q8')] [('G', '1 + 4 + g', 5, <symgen.V object at 0x7f50e0ccb040>, 'hs11', 'hv12', 'hr13', 'w', 'w9')] {('w', '1 + 4 + g', 5): 'ex3', ('w', '1 + 4 + g', 2): 'ex7'}
        have hg6 : g < iN (m.getD 1 0) := by rw [em, iN_n (by omega)]; omega
        have e5 : l.getD (103 + 6 * g + 5) 0 = nI x1 := by rw [← show m.getD (103 + 6 * g + 5) 0 = l.getD (103 + 6 * g + 5) 0 by rw [hm.2 _ (by omega), blG_ls (by omega), ltB_n (by omega), Bool.false_and, if_neg (fun z => absurd z.2 (by decide))]]; exact (hR.ga (i := g) (k := 5) hg6 (by decide)).symm.trans ex3
        have e2 : hdN l g = x5 := by unfold hdN; rw [← show m.getD (103 + 6 * g + 2) 0 = l.getD (103 + 6 * g + 2) 0 by rw [hm.2 _ (by omega), blG_o (by omega) (by omega)], show m.getD (103 + 6 * g + 2) 0 = nI x5 from (hR.ga (i := g) (k := 2) hg6 (by decide)).symm.trans ex7, iN_n (by omega)]
        have eB : B x5 = true := by have z := (bit_1 (by omega)).mp q8; rw [hu x5 (by omega), ltB_y (by omega), Bool.true_and] at z; exact z
        have ef : (fun i => B (hdN l i) && (l.getD (103 + 6 * i + 5) 0 == 0)) g = true := by show (B (hdN l g) && (l.getD (103 + 6 * g + 5) 0 == 0)) = true; rw [e2, eB, e5, q4]; rfl
        have ec : ctP (fun i => B (hdN l i) && (l.getD (103 + 6 * i + 5) 0 == 0)) g + 1 = ctP (fun i => B (hdN l i) && (l.getD (103 + 6 * i + 5) 0 == 0)) (g + 1) := by show _ = ctP (fun i => B (hdN l i) && (l.getD (103 + 6 * i + 5) 0 == 0)) g + _; rw [ef, if_pos rfl]
        rw [ec]
        refine sx_RP.ls (sx_lr.cons rfl (sx_lr.cons rfl (sx_lr.cons rfl (sx_lr.cons rfl sx_lr.nil)))) (X80g hn en hu q (g + 1) w9 (m.set (103 + 6 * g + 5) 1) (by omega) hI10 (hR.sGa (by omega) (by decide) hs11 hv12 hr13) ?_ (hO.tr (hs11.out (by omega))))
        exact hm.set (by omega) (by rw [blG_ls (by omega), ltB_y (by omega), e2, eB, if_pos ⟨by rw [en, iN_n (by omega)]; omega, rfl⟩]) (fun i hi h => rfl) (fun i hi h => rfl) (fun i hi h => by rw [ltB_ne (by omega)])
set_option maxRecDepth 20000 in
set_option maxHeartbeats 4000000 in
theorem X80 {xs : Option (List Int32)} {d : Nat} {w : List sx_C} (hI : WI w) (l : List Int32) (hR : rel w 1 l) {n : Nat} (hn : n ≤ 10) (en : l.getD 1 0 = nI n) {B : Nat → Bool} {u : Int64} (hu : ∀ i, i < 64 → bitL u i = (ltB 48 i && B i)) : sx_RP xs (d + 1) 80 0 (lv_args 0 [.ref 1, .long u]) [] w (fun r w2 => (r = some (.int (ctP (fun i => B (hdN l i) && (l.getD (103 + 6 * i + 5) 0 == 0)) n)) ∧ ∃ m2, rel w2 1 m2 ∧ BG l B (ltB 48) allT (ltB n) m2) ∧ WI w2 ∧ Out 1 w w2) := by
  refine sx_RP.step (pc2 := 1) (ls2 := [(0, .ref 1), (1, .long u)]) (st2 := [.ref 1]) (w3 := w) rfl rfl ?_
  refine sx_RP.step (pc2 := 2) (ls2 := [(0, .ref 1), (1, .long u)]) (st2 := [.ref 1, .ref 1]) (w3 := w) rfl rfl ?_
  refine sx_RP.gw hI (Or.inl rfl) rfl rfl (show _ = 5 from rfl) ?_
  refine sx_RP.step (pc2 := 6) (ls2 := [(0, .ref 1), (1, .long u)]) (st2 := [.long u, .long (fj w 1 1), .ref 1]) (w3 := w) rfl rfl ?_
  refine sx_RP.step (pc2 := 9) (ls2 := [(0, .ref 1), (1, .long u)]) (st2 := [.long (-1), .long u, .long (fj w 1 1), .ref 1]) (w3 := w) rfl rfl ?_
  refine sx_RP.step (pc2 := 10) (ls2 := [(0, .ref 1), (1, .long u)]) (st2 := [.long (u ^^^ (-1)), .long (fj w 1 1), .ref 1]) (w3 := w) rfl rfl ?_
  refine sx_RP.step (pc2 := 11) (ls2 := [(0, .ref 1), (1, .long u)]) (st2 := [.long ((fj w 1 1) &&& (u ^^^ (-1))), .ref 1]) (w3 := w) rfl rfl ?_
  refine sx_RP.xW hI (Or.inl rfl) rfl rfl rfl (show _ = 14 from rfl) (fun w1 hI2 hs3 hv4 hr5 => ?_)
  refine sx_RP.step (pc2 := 15) (ls2 := [(0, .ref 1), (1, .long u)]) (st2 := [.int 0]) (w3 := w1) rfl rfl ?_
  refine sx_RP.step (pc2 := 16) (ls2 := [(3, .int 0), (0, .ref 1), (1, .long u)]) (st2 := []) (w3 := w1) rfl rfl ?_
  refine sx_RP.step (pc2 := 17) (ls2 := [(3, .int 0), (0, .ref 1), (1, .long u)]) (st2 := [.int 0]) (w3 := w1) rfl rfl ?_
  refine sx_RP.step (pc2 := 19) (ls2 := [(4, .int 0), (3, .int 0), (0, .ref 1), (1, .long u)]) (st2 := []) (w3 := w1) rfl rfl ?_
  have hm0 := BG.walls (l := l) (B := B) hR.len
  have hR2 := hR.wAll hm0 hs3 hr5 (fun b hb => by rw [hv4, bit_andn hb, hu b hb]; rfl)
  exact sx_RP.ls (sx_lr.cons rfl (sx_lr.cons rfl (sx_lr.cons rfl (sx_lr.cons rfl sx_lr.nil)))) (X80g (w0 := w) hn en hu n 0 w1 _ (by omega) hI2 hR2 (hm0.cg (fun i hi => rfl) (fun i hi => rfl) (fun i hi => by rw [ltB_n (by omega)])) (hs3.out (by omega)))
def blwA (l : List Int32) (a1 a2 : Int32) : Int32 := if ¬ (0 ≤ a1 ∧ a1 ≤ 47) then -1000000001 else (if ¬ (1 ≤ a2 ∧ a2 ≤ 30) then -1000000001 else (blA l (iN a1) (iN a2)))
def blwR (l : List Int32) (a1 a2 : Int32) : List Int32 := if ¬ (0 ≤ a1 ∧ a1 ≤ 47) then l else (if ¬ (1 ≤ a2 ∧ a2 ≤ 30) then l else (blR l (iN a1) (iN a2)))
theorem blw_1 {l : List Int32} {a1 a2 : Int32} (h0 : ¬ (0 ≤ a1 ∧ a1 ≤ 47)) : blwA l a1 a2 = -1000000001 ∧ blwR l a1 a2 = l := ⟨if_pos h0, if_pos h0⟩
theorem blw_2 {l : List Int32} {a1 a2 : Int32} (h0 : ¬ (¬ (0 ≤ a1 ∧ a1 ≤ 47))) (h1 : ¬ (1 ≤ a2 ∧ a2 ≤ 30)) : blwA l a1 a2 = -1000000001 ∧ blwR l a1 a2 = l := ⟨(if_neg h0).trans (if_pos h1), (if_neg h0).trans (if_pos h1)⟩
theorem blw_z {l : List Int32} {a1 a2 : Int32} (h0 : ¬ (¬ (0 ≤ a1 ∧ a1 ≤ 47))) (h1 : ¬ (¬ (1 ≤ a2 ∧ a2 ≤ 30))) : blwA l a1 a2 = blA l (iN a1) (iN a2) ∧ blwR l a1 a2 = blR l (iN a1) (iN a2) := ⟨(if_neg h0).trans (if_neg h1), (if_neg h0).trans (if_neg h1)⟩
set_option maxRecDepth 20000 in
set_option maxHeartbeats 4000000 in
theorem Z79 {xs : Option (List Int32)} {d : Nat} {w : List sx_C} (hI : WI w) (l : List Int32) (hR : rel w 1 l) (a1 a2 : Int32) : sx_RP xs (d + 7) 79 0 (lv_args 0 [.ref 0, .int a1, .int a2]) [] w (fun r w2 => (r = some (.int (blwA l a1 a2)) ∧ rel w2 1 (blwR l a1 a2)) ∧ WI w2 ∧ EO w w2) := by
  obtain ⟨n, hn, en⟩ := hR.n10 hI (Or.inl rfl)
  refine sx_RP.step (pc2 := 1) (ls2 := [(0, .ref 0), (1, .int a1), (2, .int a2)]) (st2 := [.int a1]) (w3 := w) rfl rfl ?_
  rcases in_cases a1 0 47 (m := 0) (n := 47) rfl rfl (by decide) (by decide) with q1 | ⟨x2, hx3, hx4, rfl⟩
  · refine sx_RP.cu (as := [.int a1]) (rest2 := []) (st3 := [.int 0]) rfl rfl rfl rfl rfl (cx_7n q1) rfl ?_
    refine sx_RP.step (pc2 := 17) (ls2 := [(0, .ref 0), (1, .int a1), (2, .int a2)]) (st2 := []) (w3 := w) rfl rfl ?_
    refine sx_RP.step (pc2 := 18) (ls2 := [(0, .ref 0), (1, .int a1), (2, .int a2)]) (st2 := [.ref 0]) (w3 := w) rfl rfl ?_
    refine sx_RP.step (pc2 := 20) (ls2 := [(0, .ref 0), (1, .int a1), (2, .int a2)]) (st2 := [.int (-1000000001), .ref 0]) (w3 := w) rfl rfl ?_
    refine sx_RP.callp (as2 := [.ref 0, .int (-1000000001)]) (rest2 := []) rfl rfl (sx_inv_v2 (mi := 79) (k := 78) (st := [.int (-1000000001), .ref 0]) (w := w) rfl rfl hI.1.o0 rfl rfl rfl) rfl rfl rfl (S9_0 hI) (show _ = 23 from rfl) ?_
    rintro r4 w7 ⟨rfl, hI8, hs6⟩
    show sx_RP _ _ _ _ _ [.int (-1000000001)] _ _
    refine sx_RP.ret (r := (some (.int (-1000000001)))) rfl rfl ?_
    exact ⟨⟨by rw [(blw_1 (l := l) q1).1], by rw [(blw_1 (l := l) q1).2]; exact hR.same hI (Or.inl rfl) (fun a h1 h2 => hs6 a (by omega))⟩, hI8, fun a ha => hs6 a (by unfold oc at ha; omega)⟩
  · refine sx_RP.cu (as := [.int (nI x2)]) (rest2 := []) (st3 := [.int 1]) rfl rfl rfl rfl rfl (cx_7p ⟨nI_le (a := 0) hx3 (by omega), nI_le (b := 47) hx4 (by decide)⟩) rfl ?_
    refine sx_RP.step (pc2 := 7) (ls2 := [(0, .ref 0), (1, .int (nI x2)), (2, .int a2)]) (st2 := []) (w3 := w) rfl rfl ?_
    refine sx_RP.step (pc2 := 8) (ls2 := [(0, .ref 0), (1, .int (nI x2)), (2, .int a2)]) (st2 := [.int a2]) (w3 := w) rfl rfl ?_
    refine sx_RP.step (pc2 := 9) (ls2 := [(0, .ref 0), (1, .int (nI x2)), (2, .int a2)]) (st2 := [.int 1, .int a2]) (w3 := w) rfl rfl ?_
    refine sx_RP.step (pc2 := 11) (ls2 := [(0, .ref 0), (1, .int (nI x2)), (2, .int a2)]) (st2 := [.int 30, .int 1, .int a2]) (w3 := w) rfl rfl ?_
    rcases in_cases a2 1 30 (m := 1) (n := 30) rfl rfl (by decide) (by decide) with q9 | ⟨x10, hx11, hx12, rfl⟩
    · refine sx_RP.cu (as := [.int a2, .int 1, .int 30]) (rest2 := []) (st3 := [.int 0]) rfl rfl rfl rfl rfl (cx_8n q9) rfl ?_
      refine sx_RP.step (pc2 := 17) (ls2 := [(0, .ref 0), (1, .int (nI x2)), (2, .int a2)]) (st2 := []) (w3 := w) rfl rfl ?_
      refine sx_RP.step (pc2 := 18) (ls2 := [(0, .ref 0), (1, .int (nI x2)), (2, .int a2)]) (st2 := [.ref 0]) (w3 := w) rfl rfl ?_
      refine sx_RP.step (pc2 := 20) (ls2 := [(0, .ref 0), (1, .int (nI x2)), (2, .int a2)]) (st2 := [.int (-1000000001), .ref 0]) (w3 := w) rfl rfl ?_
      refine sx_RP.callp (as2 := [.ref 0, .int (-1000000001)]) (rest2 := []) rfl rfl (sx_inv_v2 (mi := 79) (k := 78) (st := [.int (-1000000001), .ref 0]) (w := w) rfl rfl hI.1.o0 rfl rfl rfl) rfl rfl rfl (S9_0 hI) (show _ = 23 from rfl) ?_
      rintro r4 w15 ⟨rfl, hI16, hs14⟩
      show sx_RP _ _ _ _ _ [.int (-1000000001)] _ _
      refine sx_RP.ret (r := (some (.int (-1000000001)))) rfl rfl ?_
      exact ⟨⟨by rw [(blw_2 (l := l) (fun z => z ⟨nI_le (a := 0) (show 0 ≤ x2 by omega) (by omega), nI_le (b := 47) (show x2 ≤ 47 by omega) (by decide)⟩) q9).1], by rw [(blw_2 (l := l) (fun z => z ⟨nI_le (a := 0) (show 0 ≤ x2 by omega) (by omega), nI_le (b := 47) (show x2 ≤ 47 by omega) (by decide)⟩) q9).2]; exact hR.same hI (Or.inl rfl) (fun a h1 h2 => hs14 a (by omega))⟩, hI16, fun a ha => hs14 a (by unfold oc at ha; omega)⟩
    · refine sx_RP.cu (as := [.int (nI x10), .int 1, .int 30]) (rest2 := []) (st3 := [.int 1]) rfl rfl rfl rfl rfl (cx_8p ⟨nI_le (a := 1) hx11 (by omega), nI_le (b := 30) hx12 (by decide)⟩) rfl ?_
      refine sx_RP.step (pc2 := 24) (ls2 := [(0, .ref 0), (1, .int (nI x2)), (2, .int (nI x10))]) (st2 := []) (w3 := w) rfl rfl ?_
      refine sx_RP.step (pc2 := 25) (ls2 := [(0, .ref 0), (1, .int (nI x2)), (2, .int (nI x10))]) (st2 := [.ref 0]) (w3 := w) rfl rfl ?_
      refine sx_RP.gf (v := .ref 1) rfl rfl hI.1.o0 rfl rfl (show _ = 28 from rfl) ?_
      refine sx_RP.step (pc2 := 29) (ls2 := [(0, .ref 0), (1, .int (nI x2)), (2, .int (nI x10))]) (st2 := [.ref 0, .ref 1]) (w3 := w) rfl rfl ?_
      refine sx_RP.gf (v := .ref 1) rfl rfl hI.1.o0 rfl rfl (show _ = 32 from rfl) ?_
      refine sx_RP.step (pc2 := 33) (ls2 := [(0, .ref 0), (1, .int (nI x2)), (2, .int (nI x10))]) (st2 := [.int (nI x2), .ref 1, .ref 1]) (w3 := w) rfl rfl ?_
      refine sx_RP.step (pc2 := 34) (ls2 := [(0, .ref 0), (1, .int (nI x2)), (2, .int (nI x10))]) (st2 := [.int (nI x10), .int (nI x2), .ref 1, .ref 1]) (w3 := w) rfl rfl ?_
      refine sx_RP.callp (as2 := [.ref 1, .int (nI x2), .int (nI x10)]) (rest2 := [.ref 1]) rfl rfl (sx_inv_v2 (mi := 79) (k := 253) (st := [.int (nI x10), .int (nI x2), .ref 1, .ref 1]) (w := w) rfl rfl (hI.1.oC (Or.inl rfl)) rfl rfl rfl) rfl rfl rfl (X77 hI l hR (show x2 < 48 by omega) (show x10 ≤ 30 by omega)) (show _ = 37 from rfl) ?_
      rintro r4 w19 ⟨⟨u17, rfl, hu18⟩, ew⟩
      show sx_RP _ _ _ _ _ [.long u17, .ref 1] _ _
      rw [ew]
      refine sx_RP.callp (as2 := [.ref 1, .long u17]) (rest2 := []) rfl rfl (sx_inv_v2 (mi := 79) (k := 263) (st := [.long u17, .ref 1]) (w := w) rfl rfl (hI.1.oC (Or.inl rfl)) rfl rfl rfl) rfl rfl rfl (X80 hI l hR hn en (B := rcB l x2 x10) hu18) (show _ = 40 from rfl) ?_
      rintro r4 w25 ⟨⟨rfl, m21, hR22, hm23⟩, hI26, ho24⟩
      show sx_RP _ _ _ _ _ [.int (ctP (fun i => rcB l x2 x10 (hdN l i) && (l.getD (103 + 6 * i + 5) 0 == 0)) n)] _ _
      refine sx_RP.ret (r := (some (.int (ctP (fun i => rcB l x2 x10 (hdN l i) && (l.getD (103 + 6 * i + 5) 0 == 0)) n)))) rfl rfl ?_
      refine ⟨⟨by rw [(blw_z (l := l) (fun z => z ⟨nI_le (a := 0) (show 0 ≤ x2 by omega) (by omega), nI_le (b := 47) (show x2 ≤ 47 by omega) (by decide)⟩) (fun z => z ⟨nI_le (a := 1) (show 1 ≤ x10 by omega) (by omega), nI_le (b := 30) (show x10 ≤ 30 by omega) (by decide)⟩)).1, iN_n (show x2 < 2 ^ 31 by omega), iN_n (show x10 < 2 ^ 31 by omega)]; unfold blA; rw [en, iN_n (by omega)], ?_⟩, hI26, ho24.eo⟩
      rw [(blw_z (l := l) (fun z => z ⟨nI_le (a := 0) (show 0 ≤ x2 by omega) (by omega), nI_le (b := 47) (show x2 ≤ 47 by omega) (by decide)⟩) (fun z => z ⟨nI_le (a := 1) (show 1 ≤ x10 by omega) (by omega), nI_le (b := 30) (show x10 ≤ 30 by omega) (by decide)⟩)).2, iN_n (show x2 < 2 ^ 31 by omega), iN_n (show x10 < 2 ^ 31 by omega), ← hm23.fin (fun i hi => ltB_y hi) (fun i hi => rfl) (fun i hi => ltB_y (by rw [en, iN_n (by omega)] at hi; exact hi))]
      exact hR22
set_option maxRecDepth 20000 in
set_option maxHeartbeats 4000000 in
theorem x199 {xs : Option (List Int32)} {d : Nat} {w : List sx_C} (hI : WI w) {c p i : Nat} (hc : c < 48) (hp : p ≤ 30) (hi : i < 48) : sx_RU xs (d + 1) 199 0 (lv_args 0 [.ref 111, .int (nI c), .int (nI p), .int (nI i)]) [] w (some (.int (b01 (rcB (ia w 112) c p i)))) w := by
  have h : sx_RP xs (d + 1) 199 0 (lv_args 0 [.ref 111, .int (nI c), .int (nI p), .int (nI i)]) [] w (fun r9 w2 => r9 = some (.int (b01 (rcB (ia w 112) c p i))) ∧ w2 = w) := by
    obtain ⟨s, hs, es⟩ : inR ((ia w 112).getD (7 + i) 0) 3 := (hI.s (7 + i) (by omega)).2.2.1 (by omega)
    refine sx_RP.step (pc2 := 1) (ls2 := [(0, .ref 111), (1, .int (nI c)), (2, .int (nI p)), (3, .int (nI i))]) (st2 := [.int (nI p)]) (w3 := w) rfl rfl ?_
    refine sx_RP.step (pc2 := 2) (ls2 := [(0, .ref 111), (1, .int (nI c)), (2, .int (nI p)), (3, .int (nI i))]) (st2 := [.int 3, .int (nI p)]) (w3 := w) rfl rfl ?_
    refine sx_RP.step (pc2 := 3) (ls2 := [(0, .ref 111), (1, .int (nI c)), (2, .int (nI p)), (3, .int (nI i))]) (st2 := [.int (nI c), .int 3, .int (nI p)]) (w3 := w) rfl rfl ?_
    refine sx_RP.step (pc2 := 4) (ls2 := [(0, .ref 111), (1, .int (nI c)), (2, .int (nI p)), (3, .int (nI i))]) (st2 := [.int (nI i), .int (nI c), .int 3, .int (nI p)]) (w3 := w) rfl rfl ?_
    refine sx_RP.cu (as := [.int (nI c), .int (nI i)]) (rest2 := [.int 3, .int (nI p)]) (st3 := [.int (apF c i), .int 3, .int (nI p)]) rfl rfl rfl rfl rfl (x200 hI c i) rfl ?_
    refine sx_RP.step (pc2 := 8) (ls2 := [(0, .ref 111), (1, .int (nI c)), (2, .int (nI p)), (3, .int (nI i))]) (st2 := [.int (3 * (apF c i)), .int (nI p)]) (w3 := w) rfl rfl ?_
    refine sx_RP.step (pc2 := 9) (ls2 := [(0, .ref 111), (1, .int (nI c)), (2, .int (nI p)), (3, .int (nI i))]) (st2 := [.int ((nI p) - (3 * (apF c i)))]) (w3 := w) rfl rfl ?_
    refine sx_RP.step (pc2 := 10) (ls2 := [(0, .ref 111), (1, .int (nI c)), (2, .int (nI p)), (3, .int (nI i))]) (st2 := [.ref 111, .int ((nI p) - (3 * (apF c i)))]) (w3 := w) rfl rfl ?_
    refine sx_RP.gf (v := .ref 112) rfl rfl hI.1.o111 rfl rfl (show _ = 13 from rfl) ?_
    refine sx_RP.step (pc2 := 15) (ls2 := [(0, .ref 111), (1, .int (nI c)), (2, .int (nI p)), (3, .int (nI i))]) (st2 := [.int 7, .ref 112, .int ((nI p) - (3 * (apF c i)))]) (w3 := w) rfl rfl ?_
    refine sx_RP.step (pc2 := 16) (ls2 := [(0, .ref 111), (1, .int (nI c)), (2, .int (nI p)), (3, .int (nI i))]) (st2 := [.int (nI i), .int 7, .ref 112, .int ((nI p) - (3 * (apF c i)))]) (w3 := w) rfl rfl ?_
    refine sx_RP.step (pc2 := 17) (ls2 := [(0, .ref 111), (1, .int (nI c)), (2, .int (nI p)), (3, .int (nI i))]) (st2 := [.int (7 + (nI i)), .ref 112, .int ((nI p) - (3 * (apF c i)))]) (w3 := w) rfl rfl ?_
    rw [show (7 + (nI i) : Int32) = nI (7 + i) from nI_add 7 i]
    refine sx_RP.ild (c := (7 + i)) rfl hI.1.a112.1 hI.1.a112.2 (sx_in_nI (show (7 + i) < 172 by omega) (by decide)) (show (nI (7 + i)).toNatClampNeg = (7 + i) from nI_clamp (by omega)) (show _ = 18 from rfl) ?_
    obtain ⟨x1, hx2, ex3⟩ : inR ((ia w 112).getD (7 + i) 0) 3 := (hI.s ((7 + i)) (by omega)).2.2.1 (by omega)
    rw [ex3]
    refine sx_RP.step (pc2 := 19) (ls2 := [(0, .ref 111), (1, .int (nI c)), (2, .int (nI p)), (3, .int (nI i))]) (st2 := [.int 2, .int (nI x1), .int ((nI p) - (3 * (apF c i)))]) (w3 := w) rfl rfl ?_
    refine sx_RP.br (p1 := 26) (l1 := [(0, .ref 111), (1, .int (nI c)), (2, .int (nI p)), (3, .int (nI i))]) (s1 := [.int ((nI p) - (3 * (apF c i)))]) (v1 := w) (p2 := 22) (l2 := [(0, .ref 111), (1, .int (nI c)), (2, .int (nI p)), (3, .int (nI i))]) (s2 := [.int ((nI p) - (3 * (apF c i)))]) (v2 := w) rfl rfl (fun q4 => ?_) (fun q4 => ?_)
    · replace q4 := of_decide_eq_true q4
      replace q4 := mt (nI_eq (a := x1) (b := 2) (by omega) (by omega)).mpr q4
      refine sx_RP.step (pc2 := 27) (ls2 := [(0, .ref 111), (1, .int (nI c)), (2, .int (nI p)), (3, .int (nI i))]) (st2 := [.int 0, .int ((nI p) - (3 * (apF c i)))]) (w3 := w) rfl rfl ?_
      refine sx_RP.br (p1 := 34) (l1 := [(0, .ref 111), (1, .int (nI c)), (2, .int (nI p)), (3, .int (nI i))]) (s1 := []) (v1 := w) (p2 := 30) (l2 := [(0, .ref 111), (1, .int (nI c)), (2, .int (nI p)), (3, .int (nI i))]) (s2 := []) (v2 := w) rfl rfl (fun q5 => ?_) (fun q5 => ?_)
      · replace q5 := of_decide_eq_true q5
        refine sx_RP.step (pc2 := 35) (ls2 := [(0, .ref 111), (1, .int (nI c)), (2, .int (nI p)), (3, .int (nI i))]) (st2 := [.int 0]) (w3 := w) rfl rfl ?_
        refine sx_RP.ret (r := (some (.int 0))) rfl rfl ?_
        -- [('¬ (nI x1) = 2', True, 'q4'), ('((nI p) - (3 * (apF c i))) ≤ 0', True, 'q5')] {('w', '112', '[(7 + i)]'): 'ex3'}
        have er : rcB (ia w 112) c p i = false := by
          unfold rcB
          rw [ex3, if_neg (show ¬ nI x1 = 2 from fun z => q4 ((nI_eq (a := x1) (b := 2) (by omega) (by decide)).mp z))]
          exact decide_eq_false (by first | exact q5 | exact Int32.not_lt.mpr q5)
        exact ⟨by rw [er]; rfl, rfl⟩
      · replace q5 := of_decide_eq_false q5
        refine sx_RP.step (pc2 := 31) (ls2 := [(0, .ref 111), (1, .int (nI c)), (2, .int (nI p)), (3, .int (nI i))]) (st2 := [.int 1]) (w3 := w) rfl rfl ?_
        refine sx_RP.step (pc2 := 35) (ls2 := [(0, .ref 111), (1, .int (nI c)), (2, .int (nI p)), (3, .int (nI i))]) (st2 := [.int 1]) (w3 := w) rfl rfl ?_
        refine sx_RP.ret (r := (some (.int 1))) rfl rfl ?_
        -- [('¬ (nI x1) = 2', True, 'q4'), ('((nI p) - (3 * (apF c i))) ≤ 0', False, 'q5')] {('w', '112', '[(7 + i)]'): 'ex3'}
        have er : rcB (ia w 112) c p i = true := by
          unfold rcB
          rw [ex3, if_neg (show ¬ nI x1 = 2 from fun z => q4 ((nI_eq (a := x1) (b := 2) (by omega) (by decide)).mp z))]
          exact decide_eq_true (by first | exact q5 | exact Int32.not_le.mp q5)
        exact ⟨by rw [er]; rfl, rfl⟩
    · replace q4 := Decidable.not_not.mp (of_decide_eq_false q4)
      replace q4 := (nI_eq (a := x1) (b := 2) (by omega) (by omega)).mp q4
      refine sx_RP.step (pc2 := 23) (ls2 := [(0, .ref 111), (1, .int (nI c)), (2, .int (nI p)), (3, .int (nI i))]) (st2 := [.int 4, .int ((nI p) - (3 * (apF c i)))]) (w3 := w) rfl rfl ?_
      refine sx_RP.step (pc2 := 27) (ls2 := [(0, .ref 111), (1, .int (nI c)), (2, .int (nI p)), (3, .int (nI i))]) (st2 := [.int 4, .int ((nI p) - (3 * (apF c i)))]) (w3 := w) rfl rfl ?_
      refine sx_RP.br (p1 := 34) (l1 := [(0, .ref 111), (1, .int (nI c)), (2, .int (nI p)), (3, .int (nI i))]) (s1 := []) (v1 := w) (p2 := 30) (l2 := [(0, .ref 111), (1, .int (nI c)), (2, .int (nI p)), (3, .int (nI i))]) (s2 := []) (v2 := w) rfl rfl (fun q6 => ?_) (fun q6 => ?_)
      · replace q6 := of_decide_eq_true q6
        refine sx_RP.step (pc2 := 35) (ls2 := [(0, .ref 111), (1, .int (nI c)), (2, .int (nI p)), (3, .int (nI i))]) (st2 := [.int 0]) (w3 := w) rfl rfl ?_
        refine sx_RP.ret (r := (some (.int 0))) rfl rfl ?_
        -- [('¬ (nI x1) = 2', False, 'q4'), ('((nI p) - (3 * (apF c i))) ≤ 4', True, 'q6')] {('w', '112', '[(7 + i)]'): 'ex3'}
        have er : rcB (ia w 112) c p i = false := by
          unfold rcB
          rw [ex3, if_pos (by rw [q4]; rfl)]
          exact decide_eq_false (by first | exact q6 | exact Int32.not_lt.mpr q6)
        exact ⟨by rw [er]; rfl, rfl⟩
      · replace q6 := of_decide_eq_false q6
        refine sx_RP.step (pc2 := 31) (ls2 := [(0, .ref 111), (1, .int (nI c)), (2, .int (nI p)), (3, .int (nI i))]) (st2 := [.int 1]) (w3 := w) rfl rfl ?_
        refine sx_RP.step (pc2 := 35) (ls2 := [(0, .ref 111), (1, .int (nI c)), (2, .int (nI p)), (3, .int (nI i))]) (st2 := [.int 1]) (w3 := w) rfl rfl ?_
        refine sx_RP.ret (r := (some (.int 1))) rfl rfl ?_
        -- [('¬ (nI x1) = 2', False, 'q4'), ('((nI p) - (3 * (apF c i))) ≤ 4', False, 'q6')] {('w', '112', '[(7 + i)]'): 'ex3'}
        have er : rcB (ia w 112) c p i = true := by
          unfold rcB
          rw [ex3, if_pos (by rw [q4]; rfl)]
          exact decide_eq_true (by first | exact q6 | exact Int32.not_le.mp q6)
        exact ⟨by rw [er]; rfl, rfl⟩
  obtain ⟨r9, w2, h1, rfl, rfl⟩ := h
  exact h1
set_option maxRecDepth 20000 in
set_option maxHeartbeats 4000000 in
theorem X201g {xs : Option (List Int32)} {d : Nat} {n c p j : Nat} {l : List Int32} {B : Nat → Bool} {w0 : List sx_C} {P : Option Value → List sx_C → Prop} (hc : c < 48) (hp : p ≤ 30) (hj : j < 48) (hn : n ≤ 10) (en : l.getD 1 0 = nI n) (eB : B j = true) : ∀ (q g : Nat) (w : List sx_C), g + q = n → WI w → BG l B (ltB (j + 1)) (ltB (j + 1)) (znB l j g) (ia w 112) → Same 112 w0 w → (∀ w2, WI w2 → BG l B (ltB (j + 1)) (ltB (j + 1)) (znB l j n) (ia w2 112) → Same 112 w0 w2 → sx_RP xs (d + 7) 201 143 [(0, .ref 111), (1, .int (nI c)), (2, .int (nI p)), (3, .int (ctP (fun i => znB l j n i && (B (hdN l i) && (l.getD (103 + 6 * i + 5) 0 == 0))) n)), (4, .int (nI j))] [] w2 P) → sx_RP xs (d + 7) 201 95 [(0, .ref 111), (1, .int (nI c)), (2, .int (nI p)), (3, .int (ctP (fun i => znB l j g i && (B (hdN l i) && (l.getD (103 + 6 * i + 5) 0 == 0))) n)), (4, .int (nI j)), (5, .int (nI g))] [] w P
  | 0, g, w, hg, hI, hm, hO, kk => by
    obtain rfl : g = n := by omega
    have em : (ia w 112).getD 1 0 = nI g := by rw [hm.2 1 (by omega), blG_o (by omega) (by omega)]; exact en
    refine sx_RP.step (pc2 := 97) (ls2 := [(0, .ref 111), (1, .int (nI c)), (2, .int (nI p)), (3, .int (ctP (fun i => znB l j g i && (B (hdN l i) && (l.getD (103 + 6 * i + 5) 0 == 0))) g)), (4, .int (nI j)), (5, .int (nI g))]) (st2 := [.int (nI g)]) (w3 := w) rfl rfl ?_
    refine sx_RP.step (pc2 := 98) (ls2 := [(0, .ref 111), (1, .int (nI c)), (2, .int (nI p)), (3, .int (ctP (fun i => znB l j g i && (B (hdN l i) && (l.getD (103 + 6 * i + 5) 0 == 0))) g)), (4, .int (nI j)), (5, .int (nI g))]) (st2 := [.ref 111, .int (nI g)]) (w3 := w) rfl rfl ?_
    refine sx_RP.gf (v := .ref 112) rfl rfl hI.1.o111 rfl rfl (show _ = 101 from rfl) ?_
    refine sx_RP.step (pc2 := 102) (ls2 := [(0, .ref 111), (1, .int (nI c)), (2, .int (nI p)), (3, .int (ctP (fun i => znB l j g i && (B (hdN l i) && (l.getD (103 + 6 * i + 5) 0 == 0))) g)), (4, .int (nI j)), (5, .int (nI g))]) (st2 := [.int 1, .ref 112, .int (nI g)]) (w3 := w) rfl rfl ?_
    refine sx_RP.ild (c := 1) rfl hI.1.a112.1 hI.1.a112.2 (sx_in_nI (show 1 < 172 by omega) (by decide)) (show (nI 1).toNatClampNeg = 1 from nI_clamp (by omega)) (show _ = 103 from rfl) ?_
    rw [em]
    refine sx_RP.br (p1 := 143) (l1 := [(0, .ref 111), (1, .int (nI c)), (2, .int (nI p)), (3, .int (ctP (fun i => znB l j g i && (B (hdN l i) && (l.getD (103 + 6 * i + 5) 0 == 0))) g)), (4, .int (nI j)), (5, .int (nI g))]) (s1 := []) (v1 := w) rfl rfl (fun _ => ?_) (fun q => absurd (nI_le (a := g) (b := g) (by omega) (by omega)) (of_decide_eq_false q))
    exact sx_RP.ls (sx_lr.cons rfl (sx_lr.cons rfl (sx_lr.cons rfl (sx_lr.cons rfl (sx_lr.cons rfl sx_lr.nil))))) (kk w hI hm hO)
  | q + 1, g, w, hg, hI, hm, hO, kk => by
    have em : (ia w 112).getD 1 0 = nI n := by rw [hm.2 1 (by omega), blG_o (by omega) (by omega)]; exact en
    obtain ⟨h, hh, eh⟩ : inR ((ia w 112).getD (103 + 6 * g + 2) 0) 47 := (hI.s (103 + 6 * g + 2) (by omega)).2.2.2.2.2.1 (by omega)
    have e2 : hdN l g = h := by unfold hdN; rw [← show (ia w 112).getD (103 + 6 * g + 2) 0 = l.getD (103 + 6 * g + 2) 0 by rw [hm.2 _ (by omega), blG_o (by omega) (by omega)], eh, iN_n (by omega)]
    refine sx_RP.step (pc2 := 97) (ls2 := [(0, .ref 111), (1, .int (nI c)), (2, .int (nI p)), (3, .int (ctP (fun i => znB l j g i && (B (hdN l i) && (l.getD (103 + 6 * i + 5) 0 == 0))) n)), (4, .int (nI j)), (5, .int (nI g))]) (st2 := [.int (nI g)]) (w3 := w) rfl rfl ?_
    refine sx_RP.step (pc2 := 98) (ls2 := [(0, .ref 111), (1, .int (nI c)), (2, .int (nI p)), (3, .int (ctP (fun i => znB l j g i && (B (hdN l i) && (l.getD (103 + 6 * i + 5) 0 == 0))) n)), (4, .int (nI j)), (5, .int (nI g))]) (st2 := [.ref 111, .int (nI g)]) (w3 := w) rfl rfl ?_
    refine sx_RP.gf (v := .ref 112) rfl rfl hI.1.o111 rfl rfl (show _ = 101 from rfl) ?_
    refine sx_RP.step (pc2 := 102) (ls2 := [(0, .ref 111), (1, .int (nI c)), (2, .int (nI p)), (3, .int (ctP (fun i => znB l j g i && (B (hdN l i) && (l.getD (103 + 6 * i + 5) 0 == 0))) n)), (4, .int (nI j)), (5, .int (nI g))]) (st2 := [.int 1, .ref 112, .int (nI g)]) (w3 := w) rfl rfl ?_
    refine sx_RP.ild (c := 1) rfl hI.1.a112.1 hI.1.a112.2 (sx_in_nI (show 1 < 172 by omega) (by decide)) (show (nI 1).toNatClampNeg = 1 from nI_clamp (by omega)) (show _ = 103 from rfl) ?_
    rw [em]
    refine sx_RP.br (p2 := 106) (l2 := [(0, .ref 111), (1, .int (nI c)), (2, .int (nI p)), (3, .int (ctP (fun i => znB l j g i && (B (hdN l i) && (l.getD (103 + 6 * i + 5) 0 == 0))) n)), (4, .int (nI j)), (5, .int (nI g))]) (s2 := []) (v2 := w) rfl rfl (fun q => absurd (of_decide_eq_true q) (fun z => absurd ((nI_leI (a := n) (b := g) (by omega) (by omega)).mp z) (by omega))) (fun _ => ?_)
    refine sx_RP.step (pc2 := 107) (ls2 := [(0, .ref 111), (1, .int (nI c)), (2, .int (nI p)), (3, .int (ctP (fun i => znB l j g i && (B (hdN l i) && (l.getD (103 + 6 * i + 5) 0 == 0))) n)), (4, .int (nI j)), (5, .int (nI g))]) (st2 := [.int (ctP (fun i => znB l j g i && (B (hdN l i) && (l.getD (103 + 6 * i + 5) 0 == 0))) n)]) (w3 := w) rfl rfl ?_
    refine sx_RP.step (pc2 := 108) (ls2 := [(0, .ref 111), (1, .int (nI c)), (2, .int (nI p)), (3, .int (ctP (fun i => znB l j g i && (B (hdN l i) && (l.getD (103 + 6 * i + 5) 0 == 0))) n)), (4, .int (nI j)), (5, .int (nI g))]) (st2 := [.ref 111, .int (ctP (fun i => znB l j g i && (B (hdN l i) && (l.getD (103 + 6 * i + 5) 0 == 0))) n)]) (w3 := w) rfl rfl ?_
    refine sx_RP.step (pc2 := 110) (ls2 := [(0, .ref 111), (1, .int (nI c)), (2, .int (nI p)), (3, .int (ctP (fun i => znB l j g i && (B (hdN l i) && (l.getD (103 + 6 * i + 5) 0 == 0))) n)), (4, .int (nI j)), (5, .int (nI g))]) (st2 := [.int (nI g), .ref 111, .int (ctP (fun i => znB l j g i && (B (hdN l i) && (l.getD (103 + 6 * i + 5) 0 == 0))) n)]) (w3 := w) rfl rfl ?_
    refine sx_RP.step (pc2 := 111) (ls2 := [(0, .ref 111), (1, .int (nI c)), (2, .int (nI p)), (3, .int (ctP (fun i => znB l j g i && (B (hdN l i) && (l.getD (103 + 6 * i + 5) 0 == 0))) n)), (4, .int (nI j)), (5, .int (nI g))]) (st2 := [.int 2, .int (nI g), .ref 111, .int (ctP (fun i => znB l j g i && (B (hdN l i) && (l.getD (103 + 6 * i + 5) 0 == 0))) n)]) (w3 := w) rfl rfl ?_
    refine sx_RP.cu (as := [.ref 111, .int (nI g), .int 2]) (rest2 := [.int (ctP (fun i => znB l j g i && (B (hdN l i) && (l.getD (103 + 6 * i + 5) 0 == 0))) n)]) (st3 := [.int (nI h), .int (ctP (fun i => znB l j g i && (B (hdN l i) && (l.getD (103 + 6 * i + 5) 0 == 0))) n)]) rfl rfl (sx_inv_v2 (mi := 201) (k := 59) (st := [.int 2, .int (nI g), .ref 111, .int (ctP (fun i => znB l j g i && (B (hdN l i) && (l.getD (103 + 6 * i + 5) 0 == 0))) n)]) (w := w) rfl rfl hI.1.o111 rfl rfl rfl) rfl rfl (x138e hI (show g < 10 by omega) (show 2 < 6 by decide) eh) rfl ?_
    refine sx_RP.step (pc2 := 116) (ls2 := [(0, .ref 111), (1, .int (nI c)), (2, .int (nI p)), (3, .int (ctP (fun i => znB l j g i && (B (hdN l i) && (l.getD (103 + 6 * i + 5) 0 == 0))) n)), (4, .int (nI j)), (5, .int (nI g))]) (st2 := [.int (nI j), .int (nI h), .int (ctP (fun i => znB l j g i && (B (hdN l i) && (l.getD (103 + 6 * i + 5) 0 == 0))) n)]) (w3 := w) rfl rfl ?_
    refine sx_RP.br (p1 := 134) (l1 := [(0, .ref 111), (1, .int (nI c)), (2, .int (nI p)), (3, .int (ctP (fun i => znB l j g i && (B (hdN l i) && (l.getD (103 + 6 * i + 5) 0 == 0))) n)), (4, .int (nI j)), (5, .int (nI g))]) (s1 := [.int (ctP (fun i => znB l j g i && (B (hdN l i) && (l.getD (103 + 6 * i + 5) 0 == 0))) n)]) (v1 := w) (p2 := 119) (l2 := [(0, .ref 111), (1, .int (nI c)), (2, .int (nI p)), (3, .int (ctP (fun i => znB l j g i && (B (hdN l i) && (l.getD (103 + 6 * i + 5) 0 == 0))) n)), (4, .int (nI j)), (5, .int (nI g))]) (s2 := [.int (ctP (fun i => znB l j g i && (B (hdN l i) && (l.getD (103 + 6 * i + 5) 0 == 0))) n)]) (v2 := w) rfl rfl (fun q1 => ?_) (fun q1 => ?_)
    · replace q1 := of_decide_eq_true q1
      replace q1 := mt (nI_eq (a := h) (b := j) (by omega) (by omega)).mpr q1
      refine sx_RP.step (pc2 := 135) (ls2 := [(0, .ref 111), (1, .int (nI c)), (2, .int (nI p)), (3, .int (ctP (fun i => znB l j g i && (B (hdN l i) && (l.getD (103 + 6 * i + 5) 0 == 0))) n)), (4, .int (nI j)), (5, .int (nI g))]) (st2 := [.int 0, .int (ctP (fun i => znB l j g i && (B (hdN l i) && (l.getD (103 + 6 * i + 5) 0 == 0))) n)]) (w3 := w) rfl rfl ?_
      refine sx_RP.step (pc2 := 136) (ls2 := [(0, .ref 111), (1, .int (nI c)), (2, .int (nI p)), (3, .int (ctP (fun i => znB l j g i && (B (hdN l i) && (l.getD (103 + 6 * i + 5) 0 == 0))) n)), (4, .int (nI j)), (5, .int (nI g))]) (st2 := [.int ((ctP (fun i => znB l j g i && (B (hdN l i) && (l.getD (103 + 6 * i + 5) 0 == 0))) n) + 0)]) (w3 := w) rfl rfl ?_
      refine sx_RP.step (pc2 := 137) (ls2 := [(3, .int ((ctP (fun i => znB l j g i && (B (hdN l i) && (l.getD (103 + 6 * i + 5) 0 == 0))) n) + 0)), (0, .ref 111), (1, .int (nI c)), (2, .int (nI p)), (4, .int (nI j)), (5, .int (nI g))]) (st2 := []) (w3 := w) rfl rfl ?_
      refine sx_RP.step (pc2 := 140) (ls2 := [(5, .int ((nI g) + 1)), (3, .int ((ctP (fun i => znB l j g i && (B (hdN l i) && (l.getD (103 + 6 * i + 5) 0 == 0))) n) + 0)), (0, .ref 111), (1, .int (nI c)), (2, .int (nI p)), (4, .int (nI j))]) (st2 := []) (w3 := w) rfl rfl ?_
      rw [nI_1 g]
      refine sx_RP.step (pc2 := 95) (ls2 := [(5, .int (nI (g + 1))), (3, .int ((ctP (fun i => znB l j g i && (B (hdN l i) && (l.getD (103 + 6 * i + 5) 0 == 0))) n) + 0)), (0, .ref 111), (1, .int (nI c)), (2, .int (nI p)), (4, .int (nI j))]) (st2 := []) (w3 := w) rfl rfl ?_
      -- [('¬ (nI h) = (nI j)', True, 'q1')]
      have e3 : hdN l g ≠ j := by rw [e2]; exact q1
      have ec : ctP (fun i => znB l j g i && (B (hdN l i) && (l.getD (103 + 6 * i + 5) 0 == 0))) n + 0 = ctP (fun i => znB l j (g + 1) i && (B (hdN l i) && (l.getD (103 + 6 * i + 5) 0 == 0))) n := by rw [Int32.add_zero]; exact ctP_congr n (fun i hi => by show (znB l j g i && _) = (znB l j (g + 1) i && _); rw [znB_q e3])
      rw [ec]
      exact sx_RP.ls (sx_lr.cons rfl (sx_lr.cons rfl (sx_lr.cons rfl (sx_lr.cons rfl (sx_lr.cons rfl (sx_lr.cons rfl sx_lr.nil)))))) (X201g hc hp hj hn en eB q (g + 1) w (by omega) hI (hm.cg (fun i hi => rfl) (fun i hi => rfl) (fun i hi => by rw [znB_q e3])) hO kk)
    · replace q1 := Decidable.not_not.mp (of_decide_eq_false q1)
      replace q1 := (nI_eq (a := h) (b := j) (by omega) (by omega)).mp q1
      refine sx_RP.step (pc2 := 120) (ls2 := [(0, .ref 111), (1, .int (nI c)), (2, .int (nI p)), (3, .int (ctP (fun i => znB l j g i && (B (hdN l i) && (l.getD (103 + 6 * i + 5) 0 == 0))) n)), (4, .int (nI j)), (5, .int (nI g))]) (st2 := [.ref 111, .int (ctP (fun i => znB l j g i && (B (hdN l i) && (l.getD (103 + 6 * i + 5) 0 == 0))) n)]) (w3 := w) rfl rfl ?_
      refine sx_RP.step (pc2 := 122) (ls2 := [(0, .ref 111), (1, .int (nI c)), (2, .int (nI p)), (3, .int (ctP (fun i => znB l j g i && (B (hdN l i) && (l.getD (103 + 6 * i + 5) 0 == 0))) n)), (4, .int (nI j)), (5, .int (nI g))]) (st2 := [.int (nI g), .ref 111, .int (ctP (fun i => znB l j g i && (B (hdN l i) && (l.getD (103 + 6 * i + 5) 0 == 0))) n)]) (w3 := w) rfl rfl ?_
      refine sx_RP.step (pc2 := 123) (ls2 := [(0, .ref 111), (1, .int (nI c)), (2, .int (nI p)), (3, .int (ctP (fun i => znB l j g i && (B (hdN l i) && (l.getD (103 + 6 * i + 5) 0 == 0))) n)), (4, .int (nI j)), (5, .int (nI g))]) (st2 := [.int 5, .int (nI g), .ref 111, .int (ctP (fun i => znB l j g i && (B (hdN l i) && (l.getD (103 + 6 * i + 5) 0 == 0))) n)]) (w3 := w) rfl rfl ?_
      refine sx_RP.step (pc2 := 124) (ls2 := [(0, .ref 111), (1, .int (nI c)), (2, .int (nI p)), (3, .int (ctP (fun i => znB l j g i && (B (hdN l i) && (l.getD (103 + 6 * i + 5) 0 == 0))) n)), (4, .int (nI j)), (5, .int (nI g))]) (st2 := [.int 1, .int 5, .int (nI g), .ref 111, .int (ctP (fun i => znB l j g i && (B (hdN l i) && (l.getD (103 + 6 * i + 5) 0 == 0))) n)]) (w3 := w) rfl rfl ?_
      refine sx_RP.callp (as2 := [.ref 111, .int (nI g), .int 5, .int 1]) (rest2 := [.int (ctP (fun i => znB l j g i && (B (hdN l i) && (l.getD (103 + 6 * i + 5) 0 == 0))) n)]) rfl rfl (sx_inv_v2 (mi := 201) (k := 110) (st := [.int 1, .int 5, .int (nI g), .ref 111, .int (ctP (fun i => znB l j g i && (B (hdN l i) && (l.getD (103 + 6 * i + 5) 0 == 0))) n)]) (w := w) rfl rfl hI.1.o111 rfl rfl rfl) rfl rfl rfl (X154 (c := 5) hI (show g < 10 by omega) (by decide) (eOK_g (g := g) (c := 5) (by omega) (by decide) (show inR 1 1 from ⟨1, by decide, rfl⟩))) (show _ = 127 from rfl) ?_
      rintro r4 w4 ⟨⟨rfl, hv2⟩, hI5, hs3⟩
      show sx_RP _ _ _ _ _ [.int ((ia w 112).getD (103 + 6 * g + 5) 0), .int (ctP (fun i => znB l j g i && (B (hdN l i) && (l.getD (103 + 6 * i + 5) 0 == 0))) n)] _ _
      refine sx_RP.br (p1 := 134) (l1 := [(0, .ref 111), (1, .int (nI c)), (2, .int (nI p)), (3, .int (ctP (fun i => znB l j g i && (B (hdN l i) && (l.getD (103 + 6 * i + 5) 0 == 0))) n)), (4, .int (nI j)), (5, .int (nI g))]) (s1 := [.int (ctP (fun i => znB l j g i && (B (hdN l i) && (l.getD (103 + 6 * i + 5) 0 == 0))) n)]) (v1 := w4) (p2 := 130) (l2 := [(0, .ref 111), (1, .int (nI c)), (2, .int (nI p)), (3, .int (ctP (fun i => znB l j g i && (B (hdN l i) && (l.getD (103 + 6 * i + 5) 0 == 0))) n)), (4, .int (nI j)), (5, .int (nI g))]) (s2 := [.int (ctP (fun i => znB l j g i && (B (hdN l i) && (l.getD (103 + 6 * i + 5) 0 == 0))) n)]) (v2 := w4) rfl rfl (fun q6 => ?_) (fun q6 => ?_)
      · replace q6 := of_decide_eq_true q6
        refine sx_RP.step (pc2 := 135) (ls2 := [(0, .ref 111), (1, .int (nI c)), (2, .int (nI p)), (3, .int (ctP (fun i => znB l j g i && (B (hdN l i) && (l.getD (103 + 6 * i + 5) 0 == 0))) n)), (4, .int (nI j)), (5, .int (nI g))]) (st2 := [.int 0, .int (ctP (fun i => znB l j g i && (B (hdN l i) && (l.getD (103 + 6 * i + 5) 0 == 0))) n)]) (w3 := w4) rfl rfl ?_
        refine sx_RP.step (pc2 := 136) (ls2 := [(0, .ref 111), (1, .int (nI c)), (2, .int (nI p)), (3, .int (ctP (fun i => znB l j g i && (B (hdN l i) && (l.getD (103 + 6 * i + 5) 0 == 0))) n)), (4, .int (nI j)), (5, .int (nI g))]) (st2 := [.int ((ctP (fun i => znB l j g i && (B (hdN l i) && (l.getD (103 + 6 * i + 5) 0 == 0))) n) + 0)]) (w3 := w4) rfl rfl ?_
        refine sx_RP.step (pc2 := 137) (ls2 := [(3, .int ((ctP (fun i => znB l j g i && (B (hdN l i) && (l.getD (103 + 6 * i + 5) 0 == 0))) n) + 0)), (0, .ref 111), (1, .int (nI c)), (2, .int (nI p)), (4, .int (nI j)), (5, .int (nI g))]) (st2 := []) (w3 := w4) rfl rfl ?_
        refine sx_RP.step (pc2 := 140) (ls2 := [(5, .int ((nI g) + 1)), (3, .int ((ctP (fun i => znB l j g i && (B (hdN l i) && (l.getD (103 + 6 * i + 5) 0 == 0))) n) + 0)), (0, .ref 111), (1, .int (nI c)), (2, .int (nI p)), (4, .int (nI j))]) (st2 := []) (w3 := w4) rfl rfl ?_
        rw [nI_1 g]
        refine sx_RP.step (pc2 := 95) (ls2 := [(5, .int (nI (g + 1))), (3, .int ((ctP (fun i => znB l j g i && (B (hdN l i) && (l.getD (103 + 6 * i + 5) 0 == 0))) n) + 0)), (0, .ref 111), (1, .int (nI c)), (2, .int (nI p)), (4, .int (nI j))]) (st2 := []) (w3 := w4) rfl rfl ?_
        -- [('¬ (nI h) = (nI j)', False, 'q1'), ('¬ ((ia w 112).getD (103 + 6 * g + 5) 0) = 0', True, 'q6')]
        have e3 : hdN l g = j := by rw [e2]; exact q1
        have e5 : (ia w 112).getD (103 + 6 * g + 5) 0 = l.getD (103 + 6 * g + 5) 0 := by rw [hm.2 _ (by omega), blG_ls (by omega), znB_f e3, Bool.false_and, if_neg (fun z => absurd z.2 (by decide))]
        have ef : (znB l j (g + 1) g && (B (hdN l g) && (l.getD (103 + 6 * g + 5) 0 == 0))) = false := by rw [znB_y e3, e3, eB, ← e5, show ((ia w 112).getD (103 + 6 * g + 5) 0 == 0) = false from beq_eq_false_iff_ne.mpr q6]; rfl
        have ec : ctP (fun i => znB l j g i && (B (hdN l i) && (l.getD (103 + 6 * i + 5) 0 == 0))) n + 0 = ctP (fun i => znB l j (g + 1) i && (B (hdN l i) && (l.getD (103 + 6 * i + 5) 0 == 0))) n := by rw [ctP_one (f := (fun i => znB l j g i && (B (hdN l i) && (l.getD (103 + 6 * i + 5) 0 == 0)))) (g := (fun i => znB l j (g + 1) i && (B (hdN l i) && (l.getD (103 + 6 * i + 5) 0 == 0)))) (j := g) (by show (znB l j g g && _) = false; rw [znB_f e3, Bool.false_and]) (fun i hi => by show (znB l j (g + 1) i && _) = (znB l j g i && _); rw [znB_s hi]) n (by omega), ef, if_neg (by decide)]
        rw [ec]
        refine sx_RP.ls (sx_lr.cons rfl (sx_lr.cons rfl (sx_lr.cons rfl (sx_lr.cons rfl (sx_lr.cons rfl (sx_lr.cons rfl sx_lr.nil)))))) (X201g hc hp hj hn en eB q (g + 1) w4 (by omega) hI5 ?_ (hO.tr hs3) kk)
        rw [hv2]
        exact hm.set (by omega) (by rw [blG_ls (by omega), znB_y e3, e3, eB, if_pos ⟨by rw [en, iN_n (by omega)]; omega, rfl⟩]) (fun i hi h => rfl) (fun i hi h => rfl) (fun i hi h => by rw [znB_s (by omega)])
      · replace q6 := Decidable.not_not.mp (of_decide_eq_false q6)
        refine sx_RP.step (pc2 := 131) (ls2 := [(0, .ref 111), (1, .int (nI c)), (2, .int (nI p)), (3, .int (ctP (fun i => znB l j g i && (B (hdN l i) && (l.getD (103 + 6 * i + 5) 0 == 0))) n)), (4, .int (nI j)), (5, .int (nI g))]) (st2 := [.int 1, .int (ctP (fun i => znB l j g i && (B (hdN l i) && (l.getD (103 + 6 * i + 5) 0 == 0))) n)]) (w3 := w4) rfl rfl ?_
        refine sx_RP.step (pc2 := 135) (ls2 := [(0, .ref 111), (1, .int (nI c)), (2, .int (nI p)), (3, .int (ctP (fun i => znB l j g i && (B (hdN l i) && (l.getD (103 + 6 * i + 5) 0 == 0))) n)), (4, .int (nI j)), (5, .int (nI g))]) (st2 := [.int 1, .int (ctP (fun i => znB l j g i && (B (hdN l i) && (l.getD (103 + 6 * i + 5) 0 == 0))) n)]) (w3 := w4) rfl rfl ?_
        refine sx_RP.step (pc2 := 136) (ls2 := [(0, .ref 111), (1, .int (nI c)), (2, .int (nI p)), (3, .int (ctP (fun i => znB l j g i && (B (hdN l i) && (l.getD (103 + 6 * i + 5) 0 == 0))) n)), (4, .int (nI j)), (5, .int (nI g))]) (st2 := [.int ((ctP (fun i => znB l j g i && (B (hdN l i) && (l.getD (103 + 6 * i + 5) 0 == 0))) n) + 1)]) (w3 := w4) rfl rfl ?_
        refine sx_RP.step (pc2 := 137) (ls2 := [(3, .int ((ctP (fun i => znB l j g i && (B (hdN l i) && (l.getD (103 + 6 * i + 5) 0 == 0))) n) + 1)), (0, .ref 111), (1, .int (nI c)), (2, .int (nI p)), (4, .int (nI j)), (5, .int (nI g))]) (st2 := []) (w3 := w4) rfl rfl ?_
        refine sx_RP.step (pc2 := 140) (ls2 := [(5, .int ((nI g) + 1)), (3, .int ((ctP (fun i => znB l j g i && (B (hdN l i) && (l.getD (103 + 6 * i + 5) 0 == 0))) n) + 1)), (0, .ref 111), (1, .int (nI c)), (2, .int (nI p)), (4, .int (nI j))]) (st2 := []) (w3 := w4) rfl rfl ?_
        rw [nI_1 g]
        refine sx_RP.step (pc2 := 95) (ls2 := [(5, .int (nI (g + 1))), (3, .int ((ctP (fun i => znB l j g i && (B (hdN l i) && (l.getD (103 + 6 * i + 5) 0 == 0))) n) + 1)), (0, .ref 111), (1, .int (nI c)), (2, .int (nI p)), (4, .int (nI j))]) (st2 := []) (w3 := w4) rfl rfl ?_
        -- [('¬ (nI h) = (nI j)', False, 'q1'), ('¬ ((ia w 112).getD (103 + 6 * g + 5) 0) = 0', False, 'q6')]
        have e3 : hdN l g = j := by rw [e2]; exact q1
        have e5 : (ia w 112).getD (103 + 6 * g + 5) 0 = l.getD (103 + 6 * g + 5) 0 := by rw [hm.2 _ (by omega), blG_ls (by omega), znB_f e3, Bool.false_and, if_neg (fun z => absurd z.2 (by decide))]
        have ef : (znB l j (g + 1) g && (B (hdN l g) && (l.getD (103 + 6 * g + 5) 0 == 0))) = true := by rw [znB_y e3, e3, eB, ← e5, q6]; rfl
        have ec : ctP (fun i => znB l j g i && (B (hdN l i) && (l.getD (103 + 6 * i + 5) 0 == 0))) n + 1 = ctP (fun i => znB l j (g + 1) i && (B (hdN l i) && (l.getD (103 + 6 * i + 5) 0 == 0))) n := by rw [ctP_one (f := (fun i => znB l j g i && (B (hdN l i) && (l.getD (103 + 6 * i + 5) 0 == 0)))) (g := (fun i => znB l j (g + 1) i && (B (hdN l i) && (l.getD (103 + 6 * i + 5) 0 == 0)))) (j := g) (by show (znB l j g g && _) = false; rw [znB_f e3, Bool.false_and]) (fun i hi => by show (znB l j (g + 1) i && _) = (znB l j g i && _); rw [znB_s hi]) n (by omega), ef, if_pos rfl]
        rw [ec]
        refine sx_RP.ls (sx_lr.cons rfl (sx_lr.cons rfl (sx_lr.cons rfl (sx_lr.cons rfl (sx_lr.cons rfl (sx_lr.cons rfl sx_lr.nil)))))) (X201g hc hp hj hn en eB q (g + 1) w4 (by omega) hI5 ?_ (hO.tr hs3) kk)
        rw [hv2]
        exact hm.set (by omega) (by rw [blG_ls (by omega), znB_y e3, e3, eB, if_pos ⟨by rw [en, iN_n (by omega)]; omega, rfl⟩]) (fun i hi h => rfl) (fun i hi h => rfl) (fun i hi h => by rw [znB_s (by omega)])
set_option maxRecDepth 20000 in
set_option maxHeartbeats 4000000 in
theorem X201L {xs : Option (List Int32)} {d : Nat} {n c p : Nat} {l : List Int32} {w0 : List sx_C} (hc : c < 48) (hp : p ≤ 30) (hn : n ≤ 10) (en : l.getD 1 0 = nI n) : ∀ (q j : Nat) (w : List sx_C), j + q = 48 → WI w → BG l (rcB l c p) (ltB j) (ltB j) (znB l j 0) (ia w 112) → Same 112 w0 w → sx_RP xs (d + 7) 201 25 [(0, .ref 111), (1, .int (nI c)), (2, .int (nI p)), (3, .int (ctP (fun i => znB l j 0 i && (rcB l c p (hdN l i) && (l.getD (103 + 6 * i + 5) 0 == 0))) n)), (4, .int (nI j))] [] w (fun r w2 => (r = some (.int (ctP (fun i => znB l 48 0 i && (rcB l c p (hdN l i) && (l.getD (103 + 6 * i + 5) 0 == 0))) n)) ∧ BG l (rcB l c p) (ltB 48) (ltB 48) (znB l 48 0) (ia w2 112)) ∧ WI w2 ∧ Same 112 w0 w2)
  | 0, j, w, hj, hI, hm, hO => by
    obtain rfl : j = 48 := by omega
    refine sx_RP.step (pc2 := 27) (ls2 := [(0, .ref 111), (1, .int (nI c)), (2, .int (nI p)), (3, .int (ctP (fun i => znB l 48 0 i && (rcB l c p (hdN l i) && (l.getD (103 + 6 * i + 5) 0 == 0))) n)), (4, .int 48)]) (st2 := [.int 48]) (w3 := w) rfl rfl ?_
    refine sx_RP.step (pc2 := 29) (ls2 := [(0, .ref 111), (1, .int (nI c)), (2, .int (nI p)), (3, .int (ctP (fun i => znB l 48 0 i && (rcB l c p (hdN l i) && (l.getD (103 + 6 * i + 5) 0 == 0))) n)), (4, .int 48)]) (st2 := [.int 48, .int 48]) (w3 := w) rfl rfl ?_
    refine sx_RP.step (pc2 := 149) (ls2 := [(0, .ref 111), (1, .int (nI c)), (2, .int (nI p)), (3, .int (ctP (fun i => znB l 48 0 i && (rcB l c p (hdN l i) && (l.getD (103 + 6 * i + 5) 0 == 0))) n)), (4, .int 48)]) (st2 := []) (w3 := w) rfl rfl ?_
    refine sx_RP.step (pc2 := 150) (ls2 := [(0, .ref 111), (1, .int (nI c)), (2, .int (nI p)), (3, .int (ctP (fun i => znB l 48 0 i && (rcB l c p (hdN l i) && (l.getD (103 + 6 * i + 5) 0 == 0))) n)), (4, .int 48)]) (st2 := [.int (ctP (fun i => znB l 48 0 i && (rcB l c p (hdN l i) && (l.getD (103 + 6 * i + 5) 0 == 0))) n)]) (w3 := w) rfl rfl ?_
    refine sx_RP.ret (r := (some (.int (ctP (fun i => znB l 48 0 i && (rcB l c p (hdN l i) && (l.getD (103 + 6 * i + 5) 0 == 0))) n)))) rfl rfl ?_
    exact ⟨⟨rfl, hm⟩, hI, hO⟩
  | q + 1, j, w, hj, hI, hm, hO => by
    have ej : (ia w 112).getD (7 + j) 0 = l.getD (7 + j) 0 := by rw [hm.2 _ (by omega), blG_st (by omega), ltB_n (by omega), Bool.false_and, if_neg (fun z => absurd z.1 (by decide))]
    refine sx_RP.step (pc2 := 27) (ls2 := [(0, .ref 111), (1, .int (nI c)), (2, .int (nI p)), (3, .int (ctP (fun i => znB l j 0 i && (rcB l c p (hdN l i) && (l.getD (103 + 6 * i + 5) 0 == 0))) n)), (4, .int (nI j))]) (st2 := [.int (nI j)]) (w3 := w) rfl rfl ?_
    refine sx_RP.step (pc2 := 29) (ls2 := [(0, .ref 111), (1, .int (nI c)), (2, .int (nI p)), (3, .int (ctP (fun i => znB l j 0 i && (rcB l c p (hdN l i) && (l.getD (103 + 6 * i + 5) 0 == 0))) n)), (4, .int (nI j))]) (st2 := [.int 48, .int (nI j)]) (w3 := w) rfl rfl ?_
    refine sx_RP.br (p2 := 32) (l2 := [(0, .ref 111), (1, .int (nI c)), (2, .int (nI p)), (3, .int (ctP (fun i => znB l j 0 i && (rcB l c p (hdN l i) && (l.getD (103 + 6 * i + 5) 0 == 0))) n)), (4, .int (nI j))]) (s2 := []) (v2 := w) rfl rfl (fun q => absurd (of_decide_eq_true q) (fun z => absurd ((nI_leI (a := 48) (b := j) (by omega) (by omega)).mp z) (by omega))) (fun _ => ?_)
    refine sx_RP.step (pc2 := 33) (ls2 := [(0, .ref 111), (1, .int (nI c)), (2, .int (nI p)), (3, .int (ctP (fun i => znB l j 0 i && (rcB l c p (hdN l i) && (l.getD (103 + 6 * i + 5) 0 == 0))) n)), (4, .int (nI j))]) (st2 := [.ref 111]) (w3 := w) rfl rfl ?_
    refine sx_RP.step (pc2 := 34) (ls2 := [(0, .ref 111), (1, .int (nI c)), (2, .int (nI p)), (3, .int (ctP (fun i => znB l j 0 i && (rcB l c p (hdN l i) && (l.getD (103 + 6 * i + 5) 0 == 0))) n)), (4, .int (nI j))]) (st2 := [.int (nI c), .ref 111]) (w3 := w) rfl rfl ?_
    refine sx_RP.step (pc2 := 35) (ls2 := [(0, .ref 111), (1, .int (nI c)), (2, .int (nI p)), (3, .int (ctP (fun i => znB l j 0 i && (rcB l c p (hdN l i) && (l.getD (103 + 6 * i + 5) 0 == 0))) n)), (4, .int (nI j))]) (st2 := [.int (nI p), .int (nI c), .ref 111]) (w3 := w) rfl rfl ?_
    refine sx_RP.step (pc2 := 37) (ls2 := [(0, .ref 111), (1, .int (nI c)), (2, .int (nI p)), (3, .int (ctP (fun i => znB l j 0 i && (rcB l c p (hdN l i) && (l.getD (103 + 6 * i + 5) 0 == 0))) n)), (4, .int (nI j))]) (st2 := [.int (nI j), .int (nI p), .int (nI c), .ref 111]) (w3 := w) rfl rfl ?_
    rcases Bool.eq_false_or_eq_true (rcB l c p j) with hB | hB
    · refine sx_RP.cu (as := [.ref 111, .int (nI c), .int (nI p), .int (nI j)]) (rest2 := []) (st3 := [.int 1]) rfl rfl (sx_inv_v2 (mi := 201) (k := 192) (st := [.int (nI j), .int (nI p), .int (nI c), .ref 111]) (w := w) rfl rfl hI.1.o111 rfl rfl rfl) rfl rfl ((by have z := x199 (xs := xs) (d := d + 5) hI hc hp (show j < 48 by omega); rw [rcB_congr ej, hB] at z; exact z)) rfl ?_
      refine sx_RP.step (pc2 := 43) (ls2 := [(0, .ref 111), (1, .int (nI c)), (2, .int (nI p)), (3, .int (ctP (fun i => znB l j 0 i && (rcB l c p (hdN l i) && (l.getD (103 + 6 * i + 5) 0 == 0))) n)), (4, .int (nI j))]) (st2 := []) (w3 := w) rfl rfl ?_
      refine sx_RP.step (pc2 := 44) (ls2 := [(0, .ref 111), (1, .int (nI c)), (2, .int (nI p)), (3, .int (ctP (fun i => znB l j 0 i && (rcB l c p (hdN l i) && (l.getD (103 + 6 * i + 5) 0 == 0))) n)), (4, .int (nI j))]) (st2 := [.ref 111]) (w3 := w) rfl rfl ?_
      refine sx_RP.gf (v := .ref 112) rfl rfl hI.1.o111 rfl rfl (show _ = 47 from rfl) ?_
      refine sx_RP.step (pc2 := 49) (ls2 := [(0, .ref 111), (1, .int (nI c)), (2, .int (nI p)), (3, .int (ctP (fun i => znB l j 0 i && (rcB l c p (hdN l i) && (l.getD (103 + 6 * i + 5) 0 == 0))) n)), (4, .int (nI j))]) (st2 := [.int 55, .ref 112]) (w3 := w) rfl rfl ?_
      refine sx_RP.step (pc2 := 51) (ls2 := [(0, .ref 111), (1, .int (nI c)), (2, .int (nI p)), (3, .int (ctP (fun i => znB l j 0 i && (rcB l c p (hdN l i) && (l.getD (103 + 6 * i + 5) 0 == 0))) n)), (4, .int (nI j))]) (st2 := [.int (nI j), .int 55, .ref 112]) (w3 := w) rfl rfl ?_
      refine sx_RP.step (pc2 := 52) (ls2 := [(0, .ref 111), (1, .int (nI c)), (2, .int (nI p)), (3, .int (ctP (fun i => znB l j 0 i && (rcB l c p (hdN l i) && (l.getD (103 + 6 * i + 5) 0 == 0))) n)), (4, .int (nI j))]) (st2 := [.int (55 + (nI j)), .ref 112]) (w3 := w) rfl rfl ?_
      rw [show (55 + (nI j) : Int32) = nI (55 + j) from nI_add 55 j]
      refine sx_RP.step (pc2 := 53) (ls2 := [(0, .ref 111), (1, .int (nI c)), (2, .int (nI p)), (3, .int (ctP (fun i => znB l j 0 i && (rcB l c p (hdN l i) && (l.getD (103 + 6 * i + 5) 0 == 0))) n)), (4, .int (nI j))]) (st2 := [.int 0, .int (nI (55 + j)), .ref 112]) (w3 := w) rfl rfl ?_
      refine sx_RP.xM (k := (55 + j)) hI (by decide) rfl (by omega) (eOK_n (by omega)) (show _ = 54 from rfl) (fun w1 hI2 hs3 hv4 => ?_)
      refine sx_RP.step (pc2 := 55) (ls2 := [(0, .ref 111), (1, .int (nI c)), (2, .int (nI p)), (3, .int (ctP (fun i => znB l j 0 i && (rcB l c p (hdN l i) && (l.getD (103 + 6 * i + 5) 0 == 0))) n)), (4, .int (nI j))]) (st2 := [.ref 111]) (w3 := w1) rfl rfl ?_
      refine sx_RP.gf (v := .ref 112) rfl rfl hI2.1.o111 rfl rfl (show _ = 58 from rfl) ?_
      refine sx_RP.step (pc2 := 60) (ls2 := [(0, .ref 111), (1, .int (nI c)), (2, .int (nI p)), (3, .int (ctP (fun i => znB l j 0 i && (rcB l c p (hdN l i) && (l.getD (103 + 6 * i + 5) 0 == 0))) n)), (4, .int (nI j))]) (st2 := [.int 7, .ref 112]) (w3 := w1) rfl rfl ?_
      refine sx_RP.step (pc2 := 62) (ls2 := [(0, .ref 111), (1, .int (nI c)), (2, .int (nI p)), (3, .int (ctP (fun i => znB l j 0 i && (rcB l c p (hdN l i) && (l.getD (103 + 6 * i + 5) 0 == 0))) n)), (4, .int (nI j))]) (st2 := [.int (nI j), .int 7, .ref 112]) (w3 := w1) rfl rfl ?_
      refine sx_RP.step (pc2 := 63) (ls2 := [(0, .ref 111), (1, .int (nI c)), (2, .int (nI p)), (3, .int (ctP (fun i => znB l j 0 i && (rcB l c p (hdN l i) && (l.getD (103 + 6 * i + 5) 0 == 0))) n)), (4, .int (nI j))]) (st2 := [.int (7 + (nI j)), .ref 112]) (w3 := w1) rfl rfl ?_
      rw [show (7 + (nI j) : Int32) = nI (7 + j) from nI_add 7 j]
      refine sx_RP.step (pc2 := 64) (ls2 := [(0, .ref 111), (1, .int (nI c)), (2, .int (nI p)), (3, .int (ctP (fun i => znB l j 0 i && (rcB l c p (hdN l i) && (l.getD (103 + 6 * i + 5) 0 == 0))) n)), (4, .int (nI j))]) (st2 := [.ref 111, .int (nI (7 + j)), .ref 112]) (w3 := w1) rfl rfl ?_
      refine sx_RP.gf (v := .ref 112) rfl rfl hI2.1.o111 rfl rfl (show _ = 67 from rfl) ?_
      refine sx_RP.step (pc2 := 69) (ls2 := [(0, .ref 111), (1, .int (nI c)), (2, .int (nI p)), (3, .int (ctP (fun i => znB l j 0 i && (rcB l c p (hdN l i) && (l.getD (103 + 6 * i + 5) 0 == 0))) n)), (4, .int (nI j))]) (st2 := [.int 7, .ref 112, .int (nI (7 + j)), .ref 112]) (w3 := w1) rfl rfl ?_
      refine sx_RP.step (pc2 := 71) (ls2 := [(0, .ref 111), (1, .int (nI c)), (2, .int (nI p)), (3, .int (ctP (fun i => znB l j 0 i && (rcB l c p (hdN l i) && (l.getD (103 + 6 * i + 5) 0 == 0))) n)), (4, .int (nI j))]) (st2 := [.int (nI j), .int 7, .ref 112, .int (nI (7 + j)), .ref 112]) (w3 := w1) rfl rfl ?_
      refine sx_RP.step (pc2 := 72) (ls2 := [(0, .ref 111), (1, .int (nI c)), (2, .int (nI p)), (3, .int (ctP (fun i => znB l j 0 i && (rcB l c p (hdN l i) && (l.getD (103 + 6 * i + 5) 0 == 0))) n)), (4, .int (nI j))]) (st2 := [.int (7 + (nI j)), .ref 112, .int (nI (7 + j)), .ref 112]) (w3 := w1) rfl rfl ?_
      rw [show (7 + (nI j) : Int32) = nI (7 + j) from nI_add 7 j]
      refine sx_RP.ild (c := (7 + j)) rfl hI2.1.a112.1 hI2.1.a112.2 (sx_in_nI (show (7 + j) < 172 by omega) (by decide)) (show (nI (7 + j)).toNatClampNeg = (7 + j) from nI_clamp (by omega)) (show _ = 73 from rfl) ?_
      obtain ⟨x5, hx6, ex7⟩ : inR ((ia w1 112).getD (7 + j) 0) 3 := (hI2.s ((7 + j)) (by omega)).2.2.1 (by omega)
      rw [ex7]
      refine sx_RP.step (pc2 := 74) (ls2 := [(0, .ref 111), (1, .int (nI c)), (2, .int (nI p)), (3, .int (ctP (fun i => znB l j 0 i && (rcB l c p (hdN l i) && (l.getD (103 + 6 * i + 5) 0 == 0))) n)), (4, .int (nI j))]) (st2 := [.int 2, .int (nI x5), .int (nI (7 + j)), .ref 112]) (w3 := w1) rfl rfl ?_
      refine sx_RP.br (p1 := 81) (l1 := [(0, .ref 111), (1, .int (nI c)), (2, .int (nI p)), (3, .int (ctP (fun i => znB l j 0 i && (rcB l c p (hdN l i) && (l.getD (103 + 6 * i + 5) 0 == 0))) n)), (4, .int (nI j))]) (s1 := [.int (nI (7 + j)), .ref 112]) (v1 := w1) (p2 := 77) (l2 := [(0, .ref 111), (1, .int (nI c)), (2, .int (nI p)), (3, .int (ctP (fun i => znB l j 0 i && (rcB l c p (hdN l i) && (l.getD (103 + 6 * i + 5) 0 == 0))) n)), (4, .int (nI j))]) (s2 := [.int (nI (7 + j)), .ref 112]) (v2 := w1) rfl rfl (fun q8 => ?_) (fun q8 => ?_)
      · replace q8 := of_decide_eq_true q8
        replace q8 := mt (nI_eq (a := x5) (b := 2) (by omega) (by omega)).mpr q8
        refine sx_RP.step (pc2 := 82) (ls2 := [(0, .ref 111), (1, .int (nI c)), (2, .int (nI p)), (3, .int (ctP (fun i => znB l j 0 i && (rcB l c p (hdN l i) && (l.getD (103 + 6 * i + 5) 0 == 0))) n)), (4, .int (nI j))]) (st2 := [.ref 111, .int (nI (7 + j)), .ref 112]) (w3 := w1) rfl rfl ?_
        refine sx_RP.gf (v := .ref 112) rfl rfl hI2.1.o111 rfl rfl (show _ = 85 from rfl) ?_
        refine sx_RP.step (pc2 := 87) (ls2 := [(0, .ref 111), (1, .int (nI c)), (2, .int (nI p)), (3, .int (ctP (fun i => znB l j 0 i && (rcB l c p (hdN l i) && (l.getD (103 + 6 * i + 5) 0 == 0))) n)), (4, .int (nI j))]) (st2 := [.int 7, .ref 112, .int (nI (7 + j)), .ref 112]) (w3 := w1) rfl rfl ?_
        refine sx_RP.step (pc2 := 89) (ls2 := [(0, .ref 111), (1, .int (nI c)), (2, .int (nI p)), (3, .int (ctP (fun i => znB l j 0 i && (rcB l c p (hdN l i) && (l.getD (103 + 6 * i + 5) 0 == 0))) n)), (4, .int (nI j))]) (st2 := [.int (nI j), .int 7, .ref 112, .int (nI (7 + j)), .ref 112]) (w3 := w1) rfl rfl ?_
        refine sx_RP.step (pc2 := 90) (ls2 := [(0, .ref 111), (1, .int (nI c)), (2, .int (nI p)), (3, .int (ctP (fun i => znB l j 0 i && (rcB l c p (hdN l i) && (l.getD (103 + 6 * i + 5) 0 == 0))) n)), (4, .int (nI j))]) (st2 := [.int (7 + (nI j)), .ref 112, .int (nI (7 + j)), .ref 112]) (w3 := w1) rfl rfl ?_
        rw [show (7 + (nI j) : Int32) = nI (7 + j) from nI_add 7 j]
        refine sx_RP.ild (c := (7 + j)) rfl hI2.1.a112.1 hI2.1.a112.2 (sx_in_nI (show (7 + j) < 172 by omega) (by decide)) (show (nI (7 + j)).toNatClampNeg = (7 + j) from nI_clamp (by omega)) (show _ = 91 from rfl) ?_
        rw [ex7]
        refine sx_RP.xM (k := (7 + j)) hI2 (by decide) rfl (by omega) (eOK_st (by omega) (inR.n (show x5 ≤ 3 by omega))) (show _ = 92 from rfl) (fun w9 hI10 hs11 hv12 => ?_)
        refine sx_RP.step (pc2 := 93) (ls2 := [(0, .ref 111), (1, .int (nI c)), (2, .int (nI p)), (3, .int (ctP (fun i => znB l j 0 i && (rcB l c p (hdN l i) && (l.getD (103 + 6 * i + 5) 0 == 0))) n)), (4, .int (nI j))]) (st2 := [.int 0]) (w3 := w9) rfl rfl ?_
        refine sx_RP.step (pc2 := 95) (ls2 := [(5, .int 0), (0, .ref 111), (1, .int (nI c)), (2, .int (nI p)), (3, .int (ctP (fun i => znB l j 0 i && (rcB l c p (hdN l i) && (l.getD (103 + 6 * i + 5) 0 == 0))) n)), (4, .int (nI j))]) (st2 := []) (w3 := w9) rfl rfl ?_
        -- [('¬ (nI x5) = 2', True, 'q8')] [('M', '(55 + j)', <symgen.V object at 0x7f50e0cc9540>, 'hs3', 'hv4', 'w', 'w1'), ('M', '(7 + j)', <symgen.V object at 0x7f50e0b06440>, 'hs11', 'hv12', 'w1', 'w9')]
        have hm1 : BG l (rcB l c p) (ltB j) (ltB (j + 1)) (znB l j 0) (ia w1 112) := by rw [hv4]; exact hm.set (by omega) (by rw [blG_wl (by omega), ltB_y (by omega), hB]; rfl) (fun i hi h => rfl) (fun i hi h => by rw [ltB_ne (by omega)]) (fun i hi h => rfl)
        -- value nI x5
        have e7 : (ia w1 112).getD (7 + j) 0 = l.getD (7 + j) 0 := by rw [hm1.2 _ (by omega), blG_st (by omega), ltB_n (by omega), Bool.false_and, if_neg (fun z => absurd z.1 (by decide))]
        have hm2 : BG l (rcB l c p) (ltB (j + 1)) (ltB (j + 1)) (znB l j 0) (ia w9 112) := by
          rw [hv12]
          refine hm1.set (by omega) ?_ (fun i hi h => by rw [ltB_ne (by omega)]) (fun i hi h => rfl) (fun i hi h => rfl)
          rw [blG_st (by omega), ltB_y (by omega), hB]
          have e8 : l.getD (7 + j) 0 = nI x5 := e7.symm.trans ex7
          rw [if_neg (fun z => q8 ((nI_eq (a := x5) (b := 2) (by omega) (by decide)).mp (e8.symm.trans z.2))), e8]
        refine sx_RP.ls (sx_lr.cons rfl (sx_lr.cons rfl (sx_lr.cons rfl (sx_lr.cons rfl (sx_lr.cons rfl (sx_lr.cons rfl sx_lr.nil)))))) (X201g (B := rcB l c p) (w0 := w0) hc hp (show j < 48 by omega) hn en hB n 0 w9 (by omega) hI10 hm2 ((hO.tr hs3).tr hs11) (fun w3 hI3 hm3 hO3 => ?_))
        refine sx_RP.step (pc2 := 146) (ls2 := [(4, .int ((nI j) + 1)), (0, .ref 111), (1, .int (nI c)), (2, .int (nI p)), (3, .int (ctP (fun i => znB l j n i && (rcB l c p (hdN l i) && (l.getD (103 + 6 * i + 5) 0 == 0))) n))]) (st2 := []) (w3 := w3) rfl rfl ?_
        rw [nI_1 j]
        refine sx_RP.step (pc2 := 25) (ls2 := [(4, .int (nI (j + 1))), (0, .ref 111), (1, .int (nI c)), (2, .int (nI p)), (3, .int (ctP (fun i => znB l j n i && (rcB l c p (hdN l i) && (l.getD (103 + 6 * i + 5) 0 == 0))) n))]) (st2 := []) (w3 := w3) rfl rfl ?_
        have ec : ctP (fun i => znB l j n i && (rcB l c p (hdN l i) && (l.getD (103 + 6 * i + 5) 0 == 0))) n = ctP (fun i => znB l (j + 1) 0 i && (rcB l c p (hdN l i) && (l.getD (103 + 6 * i + 5) 0 == 0))) n := ctP_congr n (fun i hi => by show (znB l j n i && _) = (znB l (j + 1) 0 i && _); rw [znB_0, znB_n hi])
        rw [ec]
        exact sx_RP.ls (sx_lr.cons rfl (sx_lr.cons rfl (sx_lr.cons rfl (sx_lr.cons rfl (sx_lr.cons rfl sx_lr.nil))))) (X201L hc hp hn en q (j + 1) w3 (by omega) hI3 (hm3.cg (fun i hi => rfl) (fun i hi => rfl) (fun i hi => by rw [znB_0, znB_n (by rw [en, iN_n (by omega)] at hi; exact hi)])) hO3)
      · replace q8 := Decidable.not_not.mp (of_decide_eq_false q8)
        replace q8 := (nI_eq (a := x5) (b := 2) (by omega) (by omega)).mp q8
        refine sx_RP.step (pc2 := 78) (ls2 := [(0, .ref 111), (1, .int (nI c)), (2, .int (nI p)), (3, .int (ctP (fun i => znB l j 0 i && (rcB l c p (hdN l i) && (l.getD (103 + 6 * i + 5) 0 == 0))) n)), (4, .int (nI j))]) (st2 := [.int 0, .int (nI (7 + j)), .ref 112]) (w3 := w1) rfl rfl ?_
        refine sx_RP.step (pc2 := 91) (ls2 := [(0, .ref 111), (1, .int (nI c)), (2, .int (nI p)), (3, .int (ctP (fun i => znB l j 0 i && (rcB l c p (hdN l i) && (l.getD (103 + 6 * i + 5) 0 == 0))) n)), (4, .int (nI j))]) (st2 := [.int 0, .int (nI (7 + j)), .ref 112]) (w3 := w1) rfl rfl ?_
        refine sx_RP.xM (k := (7 + j)) hI2 (by decide) rfl (by omega) (eOK_st (by omega) (show inR 0 3 from ⟨0, by decide, rfl⟩)) (show _ = 92 from rfl) (fun w13 hI14 hs15 hv16 => ?_)
        refine sx_RP.step (pc2 := 93) (ls2 := [(0, .ref 111), (1, .int (nI c)), (2, .int (nI p)), (3, .int (ctP (fun i => znB l j 0 i && (rcB l c p (hdN l i) && (l.getD (103 + 6 * i + 5) 0 == 0))) n)), (4, .int (nI j))]) (st2 := [.int 0]) (w3 := w13) rfl rfl ?_
        refine sx_RP.step (pc2 := 95) (ls2 := [(5, .int 0), (0, .ref 111), (1, .int (nI c)), (2, .int (nI p)), (3, .int (ctP (fun i => znB l j 0 i && (rcB l c p (hdN l i) && (l.getD (103 + 6 * i + 5) 0 == 0))) n)), (4, .int (nI j))]) (st2 := []) (w3 := w13) rfl rfl ?_
        -- [('¬ (nI x5) = 2', False, 'q8')] [('M', '(55 + j)', <symgen.V object at 0x7f50e0cc9540>, 'hs3', 'hv4', 'w', 'w1'), ('M', '(7 + j)', <symgen.V object at 0x7f50e0b05000>, 'hs15', 'hv16', 'w1', 'w13')]
        have hm1 : BG l (rcB l c p) (ltB j) (ltB (j + 1)) (znB l j 0) (ia w1 112) := by rw [hv4]; exact hm.set (by omega) (by rw [blG_wl (by omega), ltB_y (by omega), hB]; rfl) (fun i hi h => rfl) (fun i hi h => by rw [ltB_ne (by omega)]) (fun i hi h => rfl)
        -- value 0
        have e7 : (ia w1 112).getD (7 + j) 0 = l.getD (7 + j) 0 := by rw [hm1.2 _ (by omega), blG_st (by omega), ltB_n (by omega), Bool.false_and, if_neg (fun z => absurd z.1 (by decide))]
        have hm2 : BG l (rcB l c p) (ltB (j + 1)) (ltB (j + 1)) (znB l j 0) (ia w13 112) := by
          rw [hv16]
          refine hm1.set (by omega) ?_ (fun i hi h => by rw [ltB_ne (by omega)]) (fun i hi h => rfl) (fun i hi h => rfl)
          rw [blG_st (by omega), ltB_y (by omega), hB]
          have e8 : l.getD (7 + j) 0 = nI x5 := e7.symm.trans ex7
          rw [if_pos ⟨rfl, by rw [e8, q8]; rfl⟩]
        refine sx_RP.ls (sx_lr.cons rfl (sx_lr.cons rfl (sx_lr.cons rfl (sx_lr.cons rfl (sx_lr.cons rfl (sx_lr.cons rfl sx_lr.nil)))))) (X201g (B := rcB l c p) (w0 := w0) hc hp (show j < 48 by omega) hn en hB n 0 w13 (by omega) hI14 hm2 ((hO.tr hs3).tr hs15) (fun w3 hI3 hm3 hO3 => ?_))
        refine sx_RP.step (pc2 := 146) (ls2 := [(4, .int ((nI j) + 1)), (0, .ref 111), (1, .int (nI c)), (2, .int (nI p)), (3, .int (ctP (fun i => znB l j n i && (rcB l c p (hdN l i) && (l.getD (103 + 6 * i + 5) 0 == 0))) n))]) (st2 := []) (w3 := w3) rfl rfl ?_
        rw [nI_1 j]
        refine sx_RP.step (pc2 := 25) (ls2 := [(4, .int (nI (j + 1))), (0, .ref 111), (1, .int (nI c)), (2, .int (nI p)), (3, .int (ctP (fun i => znB l j n i && (rcB l c p (hdN l i) && (l.getD (103 + 6 * i + 5) 0 == 0))) n))]) (st2 := []) (w3 := w3) rfl rfl ?_
        have ec : ctP (fun i => znB l j n i && (rcB l c p (hdN l i) && (l.getD (103 + 6 * i + 5) 0 == 0))) n = ctP (fun i => znB l (j + 1) 0 i && (rcB l c p (hdN l i) && (l.getD (103 + 6 * i + 5) 0 == 0))) n := ctP_congr n (fun i hi => by show (znB l j n i && _) = (znB l (j + 1) 0 i && _); rw [znB_0, znB_n hi])
        rw [ec]
        exact sx_RP.ls (sx_lr.cons rfl (sx_lr.cons rfl (sx_lr.cons rfl (sx_lr.cons rfl (sx_lr.cons rfl sx_lr.nil))))) (X201L hc hp hn en q (j + 1) w3 (by omega) hI3 (hm3.cg (fun i hi => rfl) (fun i hi => rfl) (fun i hi => by rw [znB_0, znB_n (by rw [en, iN_n (by omega)] at hi; exact hi)])) hO3)
    · refine sx_RP.cu (as := [.ref 111, .int (nI c), .int (nI p), .int (nI j)]) (rest2 := []) (st3 := [.int 0]) rfl rfl (sx_inv_v2 (mi := 201) (k := 192) (st := [.int (nI j), .int (nI p), .int (nI c), .ref 111]) (w := w) rfl rfl hI.1.o111 rfl rfl rfl) rfl rfl ((by have z := x199 (xs := xs) (d := d + 5) hI hc hp (show j < 48 by omega); rw [rcB_congr ej, hB] at z; exact z)) rfl ?_
      refine sx_RP.step (pc2 := 143) (ls2 := [(0, .ref 111), (1, .int (nI c)), (2, .int (nI p)), (3, .int (ctP (fun i => znB l j 0 i && (rcB l c p (hdN l i) && (l.getD (103 + 6 * i + 5) 0 == 0))) n)), (4, .int (nI j))]) (st2 := []) (w3 := w) rfl rfl ?_
      refine sx_RP.step (pc2 := 146) (ls2 := [(4, .int ((nI j) + 1)), (0, .ref 111), (1, .int (nI c)), (2, .int (nI p)), (3, .int (ctP (fun i => znB l j 0 i && (rcB l c p (hdN l i) && (l.getD (103 + 6 * i + 5) 0 == 0))) n))]) (st2 := []) (w3 := w) rfl rfl ?_
      rw [nI_1 j]
      refine sx_RP.step (pc2 := 25) (ls2 := [(4, .int (nI (j + 1))), (0, .ref 111), (1, .int (nI c)), (2, .int (nI p)), (3, .int (ctP (fun i => znB l j 0 i && (rcB l c p (hdN l i) && (l.getD (103 + 6 * i + 5) 0 == 0))) n))]) (st2 := []) (w3 := w) rfl rfl ?_
      -- [] []
      have ec : ctP (fun i => znB l j 0 i && (rcB l c p (hdN l i) && (l.getD (103 + 6 * i + 5) 0 == 0))) n = ctP (fun i => znB l (j + 1) 0 i && (rcB l c p (hdN l i) && (l.getD (103 + 6 * i + 5) 0 == 0))) n := ctP_congr n (fun i hi => by show (znB l j 0 i && (rcB l c p (hdN l i) && _)) = (znB l (j + 1) 0 i && (rcB l c p (hdN l i) && _)); rw [znB_0, znB_0, ← Bool.and_assoc, ← Bool.and_assoc, ltB_B (B := rcB l c p) hB])
      rw [ec]
      exact sx_RP.ls (sx_lr.cons rfl (sx_lr.cons rfl (sx_lr.cons rfl (sx_lr.cons rfl (sx_lr.cons rfl sx_lr.nil))))) (X201L hc hp hn en q (j + 1) w (by omega) hI (hm.cg (fun i hi => ltB_B hB) (fun i hi => ltB_B hB) (fun i hi => by rw [znB_0, znB_0]; exact ltB_B hB)) hO)
theorem ctP_0 : ∀ n : Nat, ctP (fun _ => false) n = 0
  | 0 => rfl
  | n + 1 => by
    show ctP (fun _ => false) n + _ = 0
    rw [ctP_0 n]
    rfl
theorem hd_lt {w : List sx_C} (hI : WI w) {i : Nat} (hi : i < 10) : hdN (ia w 112) i < 48 := by
  obtain ⟨h, hh, eh⟩ : inR ((ia w 112).getD (103 + 6 * i + 2) 0) 47 := (hI.s (103 + 6 * i + 2) (by omega)).2.2.2.2.2.1 (by omega)
  unfold hdN
  rw [eh, iN_n (by omega)]
  omega
set_option maxRecDepth 20000 in
set_option maxHeartbeats 4000000 in
theorem Y201 {xs : Option (List Int32)} {d : Nat} {w : List sx_C} (hI : WI w) (a1 a2 : Int32) : sx_RP xs (d + 7) 201 0 (lv_args 0 [.ref 111, .int a1, .int a2]) [] w (fun r w2 => (r = some (.int (blwA (ia w 112) a1 a2)) ∧ ia w2 112 = blwR (ia w 112) a1 a2) ∧ WI w2 ∧ EOm w w2) := by
  obtain ⟨n, hn, en⟩ := (hI.sA (a := 112) (by decide) 1 (by decide)).1 rfl
  refine sx_RP.step (pc2 := 1) (ls2 := [(0, .ref 111), (1, .int a1), (2, .int a2)]) (st2 := [.int a1]) (w3 := w) rfl rfl ?_
  rcases in_cases a1 0 47 (m := 0) (n := 47) rfl rfl (by decide) (by decide) with q1 | ⟨x2, hx3, hx4, rfl⟩
  · refine sx_RP.cu (as := [.int a1]) (rest2 := []) (st3 := [.int 0]) rfl rfl rfl rfl rfl (cx_131n q1) rfl ?_
    refine sx_RP.step (pc2 := 14) (ls2 := [(0, .ref 111), (1, .int a1), (2, .int a2)]) (st2 := []) (w3 := w) rfl rfl ?_
    refine sx_RP.step (pc2 := 15) (ls2 := [(0, .ref 111), (1, .int a1), (2, .int a2)]) (st2 := [.ref 111]) (w3 := w) rfl rfl ?_
    refine sx_RP.step (pc2 := 16) (ls2 := [(0, .ref 111), (1, .int a1), (2, .int a2)]) (st2 := [.int 0, .ref 111]) (w3 := w) rfl rfl ?_
    refine sx_RP.callp (as2 := [.ref 111, .int 0]) (rest2 := []) rfl rfl (sx_inv_v2 (mi := 201) (k := 70) (st := [.int 0, .ref 111]) (w := w) rfl rfl hI.1.o111 rfl rfl rfl) rfl rfl rfl (S133_0 hI) (show _ = 19 from rfl) ?_
    rintro r4 w7 ⟨rfl, hI8, hs6⟩
    show sx_RP _ _ _ _ _ [.int (-1000000001)] _ _
    refine sx_RP.ret (r := (some (.int (-1000000001)))) rfl rfl ?_
    exact ⟨⟨by rw [(blw_1 (l := ia w 112) q1).1], by rw [(blw_1 (l := ia w 112) q1).2]; exact ia_of (hs6 112 (by decide))⟩, hI8, fun a ha => hs6 a (by unfold ocm at ha; omega)⟩
  · refine sx_RP.cu (as := [.int (nI x2)]) (rest2 := []) (st3 := [.int 1]) rfl rfl rfl rfl rfl (cx_131p ⟨nI_le (a := 0) hx3 (by omega), nI_le (b := 47) hx4 (by decide)⟩) rfl ?_
    refine sx_RP.step (pc2 := 7) (ls2 := [(0, .ref 111), (1, .int (nI x2)), (2, .int a2)]) (st2 := []) (w3 := w) rfl rfl ?_
    refine sx_RP.step (pc2 := 8) (ls2 := [(0, .ref 111), (1, .int (nI x2)), (2, .int a2)]) (st2 := [.int a2]) (w3 := w) rfl rfl ?_
    rcases in_cases a2 1 30 (m := 1) (n := 30) rfl rfl (by decide) (by decide) with q9 | ⟨x10, hx11, hx12, rfl⟩
    · refine sx_RP.cu (as := [.int a2]) (rest2 := []) (st3 := [.int 0]) rfl rfl rfl rfl rfl (cx_197n q9) rfl ?_
      refine sx_RP.step (pc2 := 14) (ls2 := [(0, .ref 111), (1, .int (nI x2)), (2, .int a2)]) (st2 := []) (w3 := w) rfl rfl ?_
      refine sx_RP.step (pc2 := 15) (ls2 := [(0, .ref 111), (1, .int (nI x2)), (2, .int a2)]) (st2 := [.ref 111]) (w3 := w) rfl rfl ?_
      refine sx_RP.step (pc2 := 16) (ls2 := [(0, .ref 111), (1, .int (nI x2)), (2, .int a2)]) (st2 := [.int 0, .ref 111]) (w3 := w) rfl rfl ?_
      refine sx_RP.callp (as2 := [.ref 111, .int 0]) (rest2 := []) rfl rfl (sx_inv_v2 (mi := 201) (k := 70) (st := [.int 0, .ref 111]) (w := w) rfl rfl hI.1.o111 rfl rfl rfl) rfl rfl rfl (S133_0 hI) (show _ = 19 from rfl) ?_
      rintro r4 w15 ⟨rfl, hI16, hs14⟩
      show sx_RP _ _ _ _ _ [.int (-1000000001)] _ _
      refine sx_RP.ret (r := (some (.int (-1000000001)))) rfl rfl ?_
      exact ⟨⟨by rw [(blw_2 (l := ia w 112) (fun z => z ⟨nI_le (a := 0) (show 0 ≤ x2 by omega) (by omega), nI_le (b := 47) (show x2 ≤ 47 by omega) (by decide)⟩) q9).1], by rw [(blw_2 (l := ia w 112) (fun z => z ⟨nI_le (a := 0) (show 0 ≤ x2 by omega) (by omega), nI_le (b := 47) (show x2 ≤ 47 by omega) (by decide)⟩) q9).2]; exact ia_of (hs14 112 (by decide))⟩, hI16, fun a ha => hs14 a (by unfold ocm at ha; omega)⟩
    · refine sx_RP.cu (as := [.int (nI x10)]) (rest2 := []) (st3 := [.int 1]) rfl rfl rfl rfl rfl (cx_197p ⟨nI_le (a := 1) hx11 (by omega), nI_le (b := 30) hx12 (by decide)⟩) rfl ?_
      refine sx_RP.step (pc2 := 20) (ls2 := [(0, .ref 111), (1, .int (nI x2)), (2, .int (nI x10))]) (st2 := []) (w3 := w) rfl rfl ?_
      refine sx_RP.step (pc2 := 21) (ls2 := [(0, .ref 111), (1, .int (nI x2)), (2, .int (nI x10))]) (st2 := [.int 0]) (w3 := w) rfl rfl ?_
      refine sx_RP.step (pc2 := 22) (ls2 := [(3, .int 0), (0, .ref 111), (1, .int (nI x2)), (2, .int (nI x10))]) (st2 := []) (w3 := w) rfl rfl ?_
      refine sx_RP.step (pc2 := 23) (ls2 := [(3, .int 0), (0, .ref 111), (1, .int (nI x2)), (2, .int (nI x10))]) (st2 := [.int 0]) (w3 := w) rfl rfl ?_
      refine sx_RP.step (pc2 := 25) (ls2 := [(4, .int 0), (3, .int 0), (0, .ref 111), (1, .int (nI x2)), (2, .int (nI x10))]) (st2 := []) (w3 := w) rfl rfl ?_
      have e0 : (0 : Int32) = ctP (fun i => znB (ia w 112) 0 0 i && (rcB (ia w 112) x2 x10 (hdN (ia w 112) i) && ((ia w 112).getD (103 + 6 * i + 5) 0 == 0))) n := by rw [ctP_congr (g := fun _ => false) n (fun i hi => by show (znB (ia w 112) 0 0 i && _) = false; rw [znB_0, ltB_n (by omega), Bool.false_and]), ctP_0]
      refine sx_RP.ls (sx_lr.cons rfl (sx_lr.cons rfl (sx_lr.cons rfl (sx_lr.cons (by show some (Value.int 0) = _; exact congrArg (fun q => some (Value.int q)) e0) (sx_lr.cons rfl sx_lr.nil))))) ((X201L (l := ia w 112) (w0 := w) (show x2 < 48 by omega) (show x10 ≤ 30 by omega) hn en 48 0 w (by omega) hI (BG.rf hI.1.a112.2 (fun i => ltB_n (by omega)) (fun i => ltB_n (by omega)) (fun i => by rw [znB_0, ltB_n (by omega)])) (fun _ _ => rfl)).mono9 (fun r w2 z => ⟨⟨?_, ?_⟩, z.2.1, fun a ha => z.2.2 a (by unfold ocm at ha; omega)⟩))
      · rw [z.1.1, (blw_z (l := ia w 112) (fun z => z ⟨nI_le (a := 0) (show 0 ≤ x2 by omega) (by omega), nI_le (b := 47) (show x2 ≤ 47 by omega) (by decide)⟩) (fun z => z ⟨nI_le (a := 1) (show 1 ≤ x10 by omega) (by omega), nI_le (b := 30) (show x10 ≤ 30 by omega) (by decide)⟩)).1, iN_n (show x2 < 2 ^ 31 by omega), iN_n (show x10 < 2 ^ 31 by omega)]
        unfold blA
        rw [en, iN_n (by omega)]
        exact congrArg (fun q => some (Value.int q)) (ctP_congr n (fun i hi => by show (znB (ia w 112) 48 0 i && _) = _; rw [znB_0, ltB_y (hd_lt hI (by omega)), Bool.true_and]))
      · rw [(blw_z (l := ia w 112) (fun z => z ⟨nI_le (a := 0) (show 0 ≤ x2 by omega) (by omega), nI_le (b := 47) (show x2 ≤ 47 by omega) (by decide)⟩) (fun z => z ⟨nI_le (a := 1) (show 1 ≤ x10 by omega) (by omega), nI_le (b := 30) (show x10 ≤ 30 by omega) (by decide)⟩)).2, iN_n (show x2 < 2 ^ 31 by omega), iN_n (show x10 < 2 ^ 31 by omega)]
        exact z.1.2.fin (fun i hi => ltB_y hi) (fun i hi => ltB_y hi) (fun i hi => by rw [znB_0]; exact ltB_y (hd_lt hI (by rw [en, iN_n (by omega)] at hi; omega)))
end
-- 89y23.peas.lean.txt
section
theorem farN_congr {g h : List Int32} (e : ∀ c, c < 48 → g.getD c 0 = h.getD c 0) {f t : Nat} (hf : f < 48) (ht : t < 48) : farN g f t = farN h f t := dst_congr (gk_kfr g) (gk_kfr h) hf (fun c hc => by unfold gk; rw [e c hc]) t ht
def gdR (l : List Int32) : List Int32 := (l.drop 7).take 48
theorem gdR_at {l : List Int32} {c : Nat} (hc : c < 48) : (gdR l).getD c 0 = l.getD (7 + c) 0 := by
  unfold gdR
  rw [List.getD_eq_getElem?_getD, List.getElem?_take_of_lt hc, List.getElem?_drop, ← List.getD_eq_getElem?_getD]
theorem rel.far {w : List sx_C} {l : List Int32} (hR : rel w 1 l) {f t : Nat} (hf : f < 48) (ht : t < 48) : farN (ia w 2) f t = farN (gdR l) f t := farN_congr (fun c hc => by rw [gdR_at hc]; exact hR.gr hc) hf ht
def heF (l : List Int32) (c g : Nat) : Int32 := if gF l g 1 = 0 ∧ gF l g 5 = 0 then ldV (iN (gF l g 0)) (iN (l.getD (7 + hdN l g) 0)) / nI (1 + farN (gdR l) (hdN l g) c) else 0
def peF (l : List Int32) (c : Nat) : Nat → Int32
  | 0 => 0
  | n + 1 => peF l c n + heF l c n
def pesF (l : List Int32) (c : Nat) : Int32 := peF l c (iN (l.getD 1 0))
theorem he_y {l : List Int32} {c g k h s : Nat} (h1 : gF l g 1 = 0 ∧ gF l g 5 = 0) (hk : k < 6) (hh : h < 48) (hs : s < 4) (ek : gF l g 0 = nI k) (eh : gF l g 2 = nI h) (es : l.getD (7 + h) 0 = nI s) : heF l c g = ldV k s / nI (1 + farN (gdR l) h c) := by
  have e : hdN l g = h := by
    unfold hdN
    rw [show l.getD (103 + 6 * g + 2) 0 = nI h from eh, iN_n (by omega)]
  unfold heF
  rw [if_pos h1, e, ek, es, iN_n (by omega), iN_n (by omega)]
theorem he_n {l : List Int32} {c g : Nat} (h1 : ¬ (gF l g 1 = 0 ∧ gF l g 5 = 0)) : heF l c g = 0 := if_neg h1
theorem X141s {xs : Option (List Int32)} {d : Nat} {w : List sx_C} (hI : WI w) {src : Nat} (hs : src < 48) : sx_RP xs (d + 1) 141 0 (lv_args 0 [.ref 111, .int (nI src), .int (-1)]) [] w (fun r w2 => (r = none ∧ ∀ c, c < 48 → (ia w2 117).getD c 0 = nI (farN (gdR (ia w 112)) src c)) ∧ WI w2 ∧ ∀ a, a ≠ 117 → a ≠ 118 → w2[a]? = w[a]?) := by
  have h2 := hI.1.aM (a := 112) (by omega)
  have h7 := hI.1.a117
  have h8 := hI.1.a118
  have hw := wlF_far (s := ia w 112) (g := gdR (ia w 112)) hs h7.2 h8.2 (fun c hc => gdR_at hc)
  have hl : (wlF (ia w 112) src (ia w 117) (ia w 118)).1.length = 48 ∧ (wlF (ia w 112) src (ia w 117) (ia w 118)).2.length = 48 := wkF_len 49 _ _ _ (wiF_len 48 0 _ h7.2) (flF_len 48 0 _ h8.2)
  have hc := cp_141 (xs := xs) (d := d) hI.1.o111 h2.1 h7.1 h8.1 h2.2 h7.2 h8.2 hs
  revert hw hl hc
  generalize wlF (ia w 112) src (ia w 117) (ia w 118) = p
  obtain ⟨wy, su⟩ := p
  intro hw hl hc
  have e7 : sx_sh (.inl (0, wy)) = sx_sh (.inl (0, ia w 117)) := by
    show (Sum.inl (0, List.replicate wy.length (0 : Int32)) : sx_C) = Sum.inl (0, List.replicate (ia w 117).length 0)
    rw [h7.2, hl.1]
  have e8 : sx_sh (.inl (1, su)) = sx_sh (.inl (1, ia w 118)) := by
    show (Sum.inl (1, List.replicate su.length (0 : Int32)) : sx_C) = Sum.inl (1, List.replicate (ia w 118).length 0)
    rw [h8.2, hl.2]
  have h8b : (w.set 117 (.inl (0, wy)))[118]? = some (.inl (1, ia w 118)) := by
    rw [List.getElem?_set_ne (by decide)]
    exact h8.1
  refine ⟨none, _, hc, ⟨rfl, fun c hc2 => ?_⟩, (hI.set h7.1 e7 (cOK.free (by omega))).set h8b e8 (cOK.free (by omega)), fun a h1 h2 => ?_⟩
  · rw [ia_ne (by omega), ia_set h7.1]
    exact (hw c hc2).1
  · rw [List.getElem?_set_ne (Ne.symm h2), List.getElem?_set_ne (Ne.symm h1)]
theorem fit_far {w : List sx_C} {l : List Int32} (h : FIT w 1) (hR : rel w 1 l) {f t : Nat} (hf : f < 48) (ht : t < 48) : dst (lkL (ia w 45)) f t = farN (gdR l) f t := (h.dst hf ht).trans (hR.far hf ht)
end
