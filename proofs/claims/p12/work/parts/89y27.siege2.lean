-- lay, ground, item, tellTo over rows
def lay1 (u c : Nat) (b : List Int32) : List Int32 := if u = 4 then b.set (55 + c) 1 else b.set (7 + c) (nI u)
def layN (u : Nat) : Nat → Nat → List Int32 → List Int32
  | 0, _, b => b
  | q + 1, c, b => layN u q (c + 1) (lay1 u c b)
theorem lay1_2 {u c : Nat} {b : List Int32} : lay1 u c (lay1 u c b) = lay1 u c b := by
  unfold lay1
  split
  · exact List.set_set _
  · exact List.set_set _
theorem wor {v : Int64} {c : Nat} (hc : c < 64) : ∀ b, b < 64 → wbt (v ||| ((1 : Int64) <<< ((nI c).toInt64 &&& 63))) b = if b = c then 1 else wbt v b := by
  intro b hb
  unfold wbt
  rw [bit_or hc]
  by_cases e : b = c
  · rw [if_pos e, decide_eq_true e.symm, Bool.or_true]
    rfl
  · rw [if_neg e, decide_eq_false (Ne.symm e), Bool.or_false]
def grW (n : Nat) (X : Nat → Nat) (u last p : Nat) (b : List Int32) : Bool × Nat × List Int32 := if wdT n X p 116 = true then (if nmT n X (nP n X p) (last + 1) 47 = true then (true, nP n X (nP n X p), layN u (vaT n X (nP n X p) + 1 - last) last b) else (false, nP n X p, b)) else (true, p, b)
def gwL (n : Nat) (X : Nat → Nat) (u : Nat) : Nat → Nat → Nat → List Int32 → Bool × Nat × List Int32
  | 0, last, p, b => grW n X u last p b
  | f + 1, last, p, b => if soT n X p = 2 then (if nmT n X p (last + 1) 47 = true then gwL n X u f (vaT n X p) (nP n X p) (lay1 u (vaT n X p) b) else (false, p, b)) else grW n X u last p b
def groW (n : Nat) (X : Nat → Nat) (u p : Nat) (b : List Int32) : Bool × Nat × List Int32 := if nmT n X (nP n X p) 0 47 = true then gwL n X u 48 (vaT n X (nP n X p)) (nP n X (nP n X p)) (lay1 u (vaT n X (nP n X p)) b) else (false, nP n X p, b)
def itW (n : Nat) (X : Nat → Nat) (p : Nat) (b : List Int32) : Bool × Nat × List Int32 := if gwT n X p = -1 then (if kwT n X p = -1 then (if wdT n X p 104 = true then disW n X p b else (if wdT n X p 101 = true then breW n X p b else (false, p, b))) else galW n X (iN (kwT n X p)) p b) else groW n X (iN (gwT n X p)) p b
theorem disW_le {n p : Nat} {X : Nat → Nat} {b : List Int32} (h : p ≤ n) : (disW n X p b).2.1 ≤ n := by
  unfold disW
  repeat' split
  all_goals first | exact nP_le (nP_le h) | exact nP_le h | exact h
theorem galX_le {n k s p : Nat} {X : Nat → Nat} {b : List Int32} (h : p ≤ n) : (galX n X k s p b).2.1 ≤ n := by
  unfold galX
  repeat' split
  all_goals first | exact wtT_le (nP_le (nP_le h)) | exact wtT_le (nP_le (wtT_le (nP_le (nP_le h)))) | exact nP_le (wtT_le (nP_le (wtT_le (nP_le (nP_le h)))))
theorem galW_le {n k p : Nat} {X : Nat → Nat} {b : List Int32} (h : p ≤ n) : (galW n X k p b).2.1 ≤ n := by
  unfold galW
  repeat' split
  all_goals first | exact galX_le h | exact nP_le h | exact h
theorem bw2_le {n p : Nat} {X : Nat → Nat} {b : List Int32} (h : p ≤ n) : (bw2 n X p b).2.1 ≤ n := by
  unfold bw2
  repeat' split
  all_goals first | exact h | exact nP_le (wtT_le h) | exact wtT_le h
theorem bw1_le {n p : Nat} {X : Nat → Nat} {b : List Int32} (h : p ≤ n) : (bw1 n X p b).2.1 ≤ n := by
  unfold bw1
  repeat' split
  all_goals first | exact bw2_le h | exact bw2_le (nP_le (wtT_le h)) | exact wtT_le h
theorem breW_le {n p : Nat} {X : Nat → Nat} {b : List Int32} (h : p ≤ n) : (breW n X p b).2.1 ≤ n := by
  unfold breW
  split
  · exact bw1_le (nP_le (nP_le h))
  · exact nP_le h
theorem grW_le {n u l p : Nat} {X : Nat → Nat} {b : List Int32} (h : p ≤ n) : (grW n X u l p b).2.1 ≤ n := by
  unfold grW
  repeat' split
  all_goals first | exact h | exact nP_le (nP_le h) | exact nP_le h
theorem gwL_le {n u : Nat} {X : Nat → Nat} : ∀ f l p b, p ≤ n → (gwL n X u f l p b).2.1 ≤ n
  | 0, l, p, b, h => grW_le h
  | f + 1, l, p, b, h => by
    unfold gwL
    split
    · split
      · exact gwL_le f _ _ _ (nP_le h)
      · exact h
    · exact grW_le h
theorem groW_le {n u p : Nat} {X : Nat → Nat} {b : List Int32} (h : p ≤ n) : (groW n X u p b).2.1 ≤ n := by
  unfold groW
  split
  · exact gwL_le _ _ _ _ (nP_le (nP_le h))
  · exact nP_le h
theorem itW_le {n p : Nat} {X : Nat → Nat} {b : List Int32} (h : p ≤ n) : (itW n X p b).2.1 ≤ n := by
  unfold itW
  by_cases c1 : gwT n X p = -1
  · rw [if_pos c1]
    by_cases c2 : kwT n X p = -1
    · rw [if_pos c2]
      by_cases c3 : wdT n X p 104 = true
      · rw [if_pos c3]
        exact disW_le h
      · rw [if_neg c3]
        by_cases c4 : wdT n X p 101 = true
        · rw [if_pos c4]
          exact breW_le h
        · rw [if_neg c4]
          exact h
    · rw [if_neg c2]
      exact galW_le h
  · rw [if_neg c1]
    exact groW_le h
def teW (n : Nat) (X : Nat → Nat) : Nat → Nat → Nat → List Int32 → Int32 × List Int32
  | 0, _, p, b => (-1 - nI p, b)
  | f + 1, it, p, b => if (itW n X p b).1 = true then (if soT n X (itW n X p b).2.1 = 0 then (nI (it + 1), (itW n X p b).2.2) else (if soT n X (itW n X p b).2.1 = 3 then teW n X f (it + 1) (nP n X (itW n X p b).2.1) (itW n X p b).2.2 else (-1 - nI (itW n X p b).2.1, b))) else (-1 - nI (itW n X p b).2.1, b)
set_option maxRecDepth 20000 in
set_option maxHeartbeats 4000000 in
theorem V104L {xs : Option (List Int32)} {d u t : Nat} {x : Int32} {w0 : List sx_C} (hu : u ≤ 4) (ht : t ≤ 47) : ∀ (q j : Nat) (w : List sx_C) (b : List Int32), j + q = t + 1 → WI w → rel w 29 b → Out 29 w0 w → sx_RP xs d 104 3 [(0, .ref 29), (1, .int (nI u)), (2, .int x), (3, .int (nI t)), (4, .int (nI j))] [] w (fun r w2 => (r = none ∧ rel w2 29 (layN u q j b)) ∧ WI w2 ∧ Out 29 w0 w2)
  | 0, j, w, b, hj, hI, hR, hO => by
    refine sx_RP.step (pc2 := 5) (ls2 := [(0, .ref 29), (1, .int (nI u)), (2, .int x), (3, .int (nI t)), (4, .int (nI j))]) (st2 := [.int (nI j)]) (w3 := w) rfl rfl ?_
    refine sx_RP.step (pc2 := 6) (ls2 := [(0, .ref 29), (1, .int (nI u)), (2, .int x), (3, .int (nI t)), (4, .int (nI j))]) (st2 := [.int (nI t), .int (nI j)]) (w3 := w) rfl rfl ?_
    refine sx_RP.br (p1 := 44) (l1 := [(0, .ref 29), (1, .int (nI u)), (2, .int x), (3, .int (nI t)), (4, .int (nI j))]) (s1 := []) (v1 := w) rfl rfl (fun _ => ?_) (fun q => absurd ((nI_ltI (a := t) (b := j) (by omega) (by omega)).mpr (by omega)) (of_decide_eq_false q))
    refine sx_RP.ret (r := none) rfl rfl ?_
    exact ⟨⟨rfl, hR⟩, hI, hO⟩
  | q + 1, j, w, b, hj, hI, hR, hO => by
    refine sx_RP.step (pc2 := 5) (ls2 := [(0, .ref 29), (1, .int (nI u)), (2, .int x), (3, .int (nI t)), (4, .int (nI j))]) (st2 := [.int (nI j)]) (w3 := w) rfl rfl ?_
    refine sx_RP.step (pc2 := 6) (ls2 := [(0, .ref 29), (1, .int (nI u)), (2, .int x), (3, .int (nI t)), (4, .int (nI j))]) (st2 := [.int (nI t), .int (nI j)]) (w3 := w) rfl rfl ?_
    refine sx_RP.br (p2 := 9) (l2 := [(0, .ref 29), (1, .int (nI u)), (2, .int x), (3, .int (nI t)), (4, .int (nI j))]) (s2 := []) (v2 := w) rfl rfl (fun q => absurd (of_decide_eq_true q) (fun z => absurd ((nI_ltI (a := t) (b := j) (by omega) (by omega)).mp z) (by omega))) (fun _ => ?_)
    refine sx_RP.step (pc2 := 10) (ls2 := [(0, .ref 29), (1, .int (nI u)), (2, .int x), (3, .int (nI t)), (4, .int (nI j))]) (st2 := [.int (nI u)]) (w3 := w) rfl rfl ?_
    refine sx_RP.step (pc2 := 11) (ls2 := [(0, .ref 29), (1, .int (nI u)), (2, .int x), (3, .int (nI t)), (4, .int (nI j))]) (st2 := [.int 4, .int (nI u)]) (w3 := w) rfl rfl ?_
    refine sx_RP.br (p1 := 30) (l1 := [(0, .ref 29), (1, .int (nI u)), (2, .int x), (3, .int (nI t)), (4, .int (nI j))]) (s1 := []) (v1 := w) (p2 := 14) (l2 := [(0, .ref 29), (1, .int (nI u)), (2, .int x), (3, .int (nI t)), (4, .int (nI j))]) (s2 := []) (v2 := w) rfl rfl (fun q1 => ?_) (fun q1 => ?_)
    · replace q1 := of_decide_eq_true q1
      replace q1 := mt (nI_eq (a := u) (b := 4) (by omega) (by omega)).mpr q1
      refine sx_RP.step (pc2 := 31) (ls2 := [(0, .ref 29), (1, .int (nI u)), (2, .int x), (3, .int (nI t)), (4, .int (nI j))]) (st2 := [.ref 29]) (w3 := w) rfl rfl ?_
      refine sx_RP.gref (k := 0) (b := 30) hI (Or.inr (Or.inr rfl)) rfl rfl (by omega) (show _ = 34 from rfl) ?_
      refine sx_RP.step (pc2 := 36) (ls2 := [(0, .ref 29), (1, .int (nI u)), (2, .int x), (3, .int (nI t)), (4, .int (nI j))]) (st2 := [.int (nI j), .ref 30]) (w3 := w) rfl rfl ?_
      refine sx_RP.step (pc2 := 37) (ls2 := [(0, .ref 29), (1, .int (nI u)), (2, .int x), (3, .int (nI t)), (4, .int (nI j))]) (st2 := [.int (nI u), .int (nI j), .ref 30]) (w3 := w) rfl rfl ?_
      refine sx_RP.xS (A := 29) (c := j) hI (Or.inr (Or.inr rfl)) rfl (show j < 48 by omega) (inR.n (show u ≤ 3 by omega)) (show _ = 38 from rfl) (fun w2 hI3 hs4 hv5 => ?_)
      refine sx_RP.step (pc2 := 41) (ls2 := [(4, .int ((nI j) + 1)), (0, .ref 29), (1, .int (nI u)), (2, .int x), (3, .int (nI t))]) (st2 := []) (w3 := w2) rfl rfl ?_
      rw [nI_1 j]
      refine sx_RP.step (pc2 := 3) (ls2 := [(4, .int (nI (j + 1))), (0, .ref 29), (1, .int (nI u)), (2, .int x), (3, .int (nI t))]) (st2 := []) (w3 := w2) rfl rfl ?_
      -- [('¬ (nI u) = 4', True, 'q1')] ('A', '29', 1, 'j', <symgen.V object at 0x7f3472346fc0>, 'hs4', 'hv5', 'w', 'w2')
      have e9 : lay1 u j b = b.set (7 + j) (nI u) := if_neg q1
      have hR2 : rel w2 29 (lay1 u j b) := by rw [e9]; exact hR.sGr hI isA29 (by omega) hs4 hv5
      exact sx_RP.ls (sx_lr.cons rfl (sx_lr.cons rfl (sx_lr.cons rfl (sx_lr.cons rfl (sx_lr.cons rfl sx_lr.nil))))) (V104L hu ht q (j + 1) w2 (lay1 u j b) (by omega) hI3 hR2 (hO.tr (hs4.out (by omega))))
    · replace q1 := Decidable.not_not.mp (of_decide_eq_false q1)
      replace q1 := (nI_eq (a := u) (b := 4) (by omega) (by omega)).mp q1
      refine sx_RP.step (pc2 := 15) (ls2 := [(0, .ref 29), (1, .int (nI u)), (2, .int x), (3, .int (nI t)), (4, .int (nI j))]) (st2 := [.ref 29]) (w3 := w) rfl rfl ?_
      refine sx_RP.step (pc2 := 16) (ls2 := [(0, .ref 29), (1, .int (nI u)), (2, .int x), (3, .int (nI t)), (4, .int (nI j))]) (st2 := [.ref 29, .ref 29]) (w3 := w) rfl rfl ?_
      refine sx_RP.gw hI (Or.inr (Or.inr rfl)) rfl rfl (show _ = 19 from rfl) ?_
      refine sx_RP.step (pc2 := 20) (ls2 := [(0, .ref 29), (1, .int (nI u)), (2, .int x), (3, .int (nI t)), (4, .int (nI j))]) (st2 := [.long 1, .long (fj w 29 1), .ref 29]) (w3 := w) rfl rfl ?_
      refine sx_RP.step (pc2 := 22) (ls2 := [(0, .ref 29), (1, .int (nI u)), (2, .int x), (3, .int (nI t)), (4, .int (nI j))]) (st2 := [.int (nI j), .long 1, .long (fj w 29 1), .ref 29]) (w3 := w) rfl rfl ?_
      refine sx_RP.step (pc2 := 23) (ls2 := [(0, .ref 29), (1, .int (nI u)), (2, .int x), (3, .int (nI t)), (4, .int (nI j))]) (st2 := [.long ((1 : Int64) <<< ((nI j).toInt64 &&& 63)), .long (fj w 29 1), .ref 29]) (w3 := w) rfl rfl ?_
      refine sx_RP.step (pc2 := 24) (ls2 := [(0, .ref 29), (1, .int (nI u)), (2, .int x), (3, .int (nI t)), (4, .int (nI j))]) (st2 := [.long ((fj w 29 1) ||| ((1 : Int64) <<< ((nI j).toInt64 &&& 63))), .ref 29]) (w3 := w) rfl rfl ?_
      refine sx_RP.xW hI (Or.inr (Or.inr rfl)) rfl rfl rfl (show _ = 27 from rfl) (fun w6 hI7 hs8 hv9 hr10 => ?_)
      refine sx_RP.step (pc2 := 38) (ls2 := [(0, .ref 29), (1, .int (nI u)), (2, .int x), (3, .int (nI t)), (4, .int (nI j))]) (st2 := []) (w3 := w6) rfl rfl ?_
      refine sx_RP.step (pc2 := 41) (ls2 := [(4, .int ((nI j) + 1)), (0, .ref 29), (1, .int (nI u)), (2, .int x), (3, .int (nI t))]) (st2 := []) (w3 := w6) rfl rfl ?_
      rw [nI_1 j]
      refine sx_RP.step (pc2 := 3) (ls2 := [(4, .int (nI (j + 1))), (0, .ref 29), (1, .int (nI u)), (2, .int x), (3, .int (nI t))]) (st2 := []) (w3 := w6) rfl rfl ?_
      -- [('¬ (nI u) = 4', False, 'q1')] ('W', '29', 1, <symgen.V object at 0x7f3472047500>, 'hs8', 'hv9', 'hr10', 'w', 'w6')
      have e9 : lay1 u j b = b.set (55 + j) 1 := if_pos q1
      have hR2 : rel w6 29 (lay1 u j b) := by rw [e9]; exact hR.sWl (by omega) hs8 hr10 (fun c hc => by rw [hv9]; exact wor (by omega) c hc)
      exact sx_RP.ls (sx_lr.cons rfl (sx_lr.cons rfl (sx_lr.cons rfl (sx_lr.cons rfl (sx_lr.cons rfl sx_lr.nil))))) (V104L hu ht q (j + 1) w6 (lay1 u j b) (by omega) hI7 hR2 (hO.tr (hs8.out (by omega))))
set_option maxRecDepth 20000 in
set_option maxHeartbeats 4000000 in
theorem V104 {xs : Option (List Int32)} {d : Nat} {w : List sx_C} (hI : WI w) {u f t : Nat} {b : List Int32} (hu : u ≤ 4) (hf : f ≤ t + 1) (ht : t ≤ 47) (hR : rel w 29 b) : sx_RP xs d 104 0 (lv_args 0 [.ref 29, .int (nI u), .int (nI f), .int (nI t)]) [] w (fun r w2 => (r = none ∧ rel w2 29 (layN u (t + 1 - f) f b)) ∧ WI w2 ∧ Out 29 w w2) := by
  refine sx_RP.step (pc2 := 1) (ls2 := [(0, .ref 29), (1, .int (nI u)), (2, .int (nI f)), (3, .int (nI t))]) (st2 := [.int (nI f)]) (w3 := w) rfl rfl ?_
  refine sx_RP.step (pc2 := 3) (ls2 := [(4, .int (nI f)), (0, .ref 29), (1, .int (nI u)), (2, .int (nI f)), (3, .int (nI t))]) (st2 := []) (w3 := w) rfl rfl ?_
  exact sx_RP.ls (sx_lr.cons rfl (sx_lr.cons rfl (sx_lr.cons rfl (sx_lr.cons rfl (sx_lr.cons rfl sx_lr.nil))))) (V104L (w0 := w) hu ht (t + 1 - f) f w b (by omega) hI hR (fun _ _ => rfl))
set_option maxRecDepth 20000 in
set_option maxHeartbeats 4000000 in
theorem V102t {xs : Option (List Int32)} {d u l p : Nat} {b : List Int32} {w : List sx_C} {n : Nat} {X : Nat → Nat} {w0 : List sx_C} (hu : u ≤ 4) (hl : l ≤ 47) (hL : lay1 u l b = b) (hI : WI w) (hC : CT n X w) (hT : TK' n X p w) (hp : p ≤ n) (hB : rel w 29 b) (hO : OffT w0 w) : sx_RP xs (d + 3) 102 86 [(0, .ref 96), (1, .int (nI u)), (2, .ref 29), (3, .int (nI l))] [] w (fun r2 w2 => (r2 = some (.int (b01 (grW n X u l p b).1)) ∧ RdW n X (grW n X u l p b) w2) ∧ WI w2 ∧ CT n X w2 ∧ OffT w0 w2) := by
  refine sx_RP.step (pc2 := 87) (ls2 := [(0, .ref 96), (1, .int (nI u)), (2, .ref 29), (3, .int (nI l))]) (st2 := [.ref 96]) (w3 := w) rfl rfl ?_
  refine sx_RP.step (pc2 := 89) (ls2 := [(0, .ref 96), (1, .int (nI u)), (2, .ref 29), (3, .int (nI l))]) (st2 := [.float 116, .ref 96]) (w3 := w) rfl rfl ?_
  rcases Bool.eq_false_or_eq_true (wdT n X p (116 : UInt32)) with c1 | c1
  · refine sx_RP.cu (as := [.ref 96, .float 116]) (rest2 := []) (st3 := [.int 1]) rfl rfl (sx_inv_v2 (mi := 102) (k := 52) (st := [.float 116, .ref 96]) (w := w) rfl rfl hI.1.o96 rfl rfl rfl) rfl rfl (x101t (k := (116 : UInt32)) (m := 2) hI hC hT hp (by decide) rfl (by decide) c1) rfl ?_
    refine sx_RP.step (pc2 := 97) (ls2 := [(0, .ref 96), (1, .int (nI u)), (2, .ref 29), (3, .int (nI l))]) (st2 := []) (w3 := w) rfl rfl ?_
    refine sx_RP.step (pc2 := 98) (ls2 := [(0, .ref 96), (1, .int (nI u)), (2, .ref 29), (3, .int (nI l))]) (st2 := [.ref 96]) (w3 := w) rfl rfl ?_
    refine sx_RP.callp (as2 := [.ref 96]) (rest2 := []) rfl rfl (sx_inv_v2 (mi := 102) (k := 29) (st := [.ref 96]) (w := w) rfl rfl hI.1.o96 rfl rfl rfl) rfl rfl rfl (X94 hI hC hT.2.2.1 (beT_le hp)) (show _ = 101 from rfl) ?_
    rintro r4 w5 ⟨⟨rfl, hT2, h13⟩, hI6, hs4⟩
    show sx_RP _ _ _ _ _ [] _ _
    have hT11 : TK' n X (nP n X p) w5 := hT2
    have hC7 := hC.same h13 (ia_of (hs4 97 (by decide)))
    have hp8 : nP n X p ≤ n := nP_le hp
    have hB9 := hB.same hI isA29 (fun a h1 h2 => hs4 a (by omega))
    have hO10 := hO.tr hs4.offT
    refine sx_RP.step (pc2 := 102) (ls2 := [(0, .ref 96), (1, .int (nI u)), (2, .ref 29), (3, .int (nI l))]) (st2 := [.ref 96]) (w3 := w5) rfl rfl ?_
    refine sx_RP.step (pc2 := 103) (ls2 := [(0, .ref 96), (1, .int (nI u)), (2, .ref 29), (3, .int (nI l))]) (st2 := [.int (nI l), .ref 96]) (w3 := w5) rfl rfl ?_
    refine sx_RP.step (pc2 := 104) (ls2 := [(0, .ref 96), (1, .int (nI u)), (2, .ref 29), (3, .int (nI l))]) (st2 := [.int 1, .int (nI l), .ref 96]) (w3 := w5) rfl rfl ?_
    refine sx_RP.step (pc2 := 105) (ls2 := [(0, .ref 96), (1, .int (nI u)), (2, .ref 29), (3, .int (nI l))]) (st2 := [.int ((nI l) + 1), .ref 96]) (w3 := w5) rfl rfl ?_
    rw [show ((nI l) + 1 : Int32) = nI (l + 1) from nI_add l 1]
    refine sx_RP.step (pc2 := 107) (ls2 := [(0, .ref 96), (1, .int (nI u)), (2, .ref 29), (3, .int (nI l))]) (st2 := [.int 47, .int (nI (l + 1)), .ref 96]) (w3 := w5) rfl rfl ?_
    rcases Bool.eq_false_or_eq_true (nmT n X (nP n X p) (l + 1) 47) with c12 | c12
    · refine sx_RP.cu (as := [.ref 96, .int (nI (l + 1)), .int 47]) (rest2 := []) (st3 := [.int 1]) rfl rfl (sx_inv_v2 (mi := 102) (k := 66) (st := [.int 47, .int (nI (l + 1)), .ref 96]) (w := w5) rfl rfl hI6.1.o96 rfl rfl rfl) rfl rfl (x103t (lo := (l + 1)) (hi := 47) hI6 hC7 hT11 (by omega) (by omega) c12) rfl ?_
      refine sx_RP.step (pc2 := 115) (ls2 := [(0, .ref 96), (1, .int (nI u)), (2, .ref 29), (3, .int (nI l))]) (st2 := []) (w3 := w5) rfl rfl ?_
      refine sx_RP.step (pc2 := 116) (ls2 := [(0, .ref 96), (1, .int (nI u)), (2, .ref 29), (3, .int (nI l))]) (st2 := [.ref 29]) (w3 := w5) rfl rfl ?_
      refine sx_RP.step (pc2 := 117) (ls2 := [(0, .ref 96), (1, .int (nI u)), (2, .ref 29), (3, .int (nI l))]) (st2 := [.int (nI u), .ref 29]) (w3 := w5) rfl rfl ?_
      refine sx_RP.step (pc2 := 118) (ls2 := [(0, .ref 96), (1, .int (nI u)), (2, .ref 29), (3, .int (nI l))]) (st2 := [.int (nI l), .int (nI u), .ref 29]) (w3 := w5) rfl rfl ?_
      refine sx_RP.step (pc2 := 119) (ls2 := [(0, .ref 96), (1, .int (nI u)), (2, .ref 29), (3, .int (nI l))]) (st2 := [.int 1, .int (nI l), .int (nI u), .ref 29]) (w3 := w5) rfl rfl ?_
      refine sx_RP.step (pc2 := 120) (ls2 := [(0, .ref 96), (1, .int (nI u)), (2, .ref 29), (3, .int (nI l))]) (st2 := [.int ((nI l) + 1), .int (nI u), .ref 29]) (w3 := w5) rfl rfl ?_
      rw [show ((nI l) + 1 : Int32) = nI (l + 1) from nI_add l 1]
      refine sx_RP.step (pc2 := 121) (ls2 := [(0, .ref 96), (1, .int (nI u)), (2, .ref 29), (3, .int (nI l))]) (st2 := [.ref 96, .int (nI (l + 1)), .int (nI u), .ref 29]) (w3 := w5) rfl rfl ?_
      refine sx_RP.gt (k := 5) hI6 rfl rfl (by decide) (show _ = 124 from rfl) ?_
      rw [hT11.2.2.2]
      have hv15 := nmT_in c12
      refine sx_RP.callp (as2 := [.ref 29, .int (nI u), .int (nI (l + 1)), .int (nI (vaT n X (nP n X p)))]) (rest2 := []) rfl rfl (sx_inv_v2 (mi := 102) (k := 70) (st := [.int (nI (vaT n X (nP n X p))), .int (nI (l + 1)), .int (nI u), .ref 29]) (w := w5) rfl rfl (hI6.1.oC (Or.inr (Or.inr rfl))) rfl rfl rfl) rfl rfl rfl (V104 hI6 (u := u) (f := (l + 1)) (t := (vaT n X (nP n X p))) (by omega) (by omega) (by omega) hB9) (show _ = 127 from rfl) ?_
      rintro r4 w16 ⟨⟨rfl, hr13⟩, hI17, ho14⟩
      show sx_RP _ _ _ _ _ [] _ _
      have hC18 := hC7.out ho14
      have hT19 := hT11.out ho14
      have hO20 := hO10.tr ho14.offT
      refine sx_RP.step (pc2 := 128) (ls2 := [(0, .ref 96), (1, .int (nI u)), (2, .ref 29), (3, .int (nI l))]) (st2 := [.ref 96]) (w3 := w16) rfl rfl ?_
      refine sx_RP.callp (as2 := [.ref 96]) (rest2 := []) rfl rfl (sx_inv_v2 (mi := 102) (k := 29) (st := [.ref 96]) (w := w16) rfl rfl hI17.1.o96 rfl rfl rfl) rfl rfl rfl (X94 hI17 hC18 hT19.2.2.1 (beT_le hp8)) (show _ = 131 from rfl) ?_
      rintro r4 w24 ⟨⟨rfl, hT21, h122⟩, hI25, hs23⟩
      show sx_RP _ _ _ _ _ [] _ _
      have hT30 : TK' n X (nP n X (nP n X p)) w24 := hT21
      have hC26 := hC18.same h122 (ia_of (hs23 97 (by decide)))
      have hp27 : nP n X (nP n X p) ≤ n := nP_le hp8
      have hB28 := hr13.same hI17 isA29 (fun a h1 h2 => hs23 a (by omega))
      have hO29 := hO20.tr hs23.offT
      refine sx_RP.step (pc2 := 132) (ls2 := [(0, .ref 96), (1, .int (nI u)), (2, .ref 29), (3, .int (nI l))]) (st2 := [.int 1]) (w3 := w24) rfl rfl ?_
      refine sx_RP.ret (r := (some (.int 1))) rfl rfl ?_
      rw [show grW n X u l p b = (true, nP n X (nP n X p), layN u (vaT n X (nP n X p) + 1 - l) l b) by unfold grW; rw [if_pos c1, if_pos c12]]
      have hv9 := nmT_in c12
      exact ⟨⟨rfl, hT30, fun _ => (by show rel _ 29 (layN u (vaT n X (nP n X p) + 1 - l) l b); rw [show vaT n X (nP n X p) + 1 - l = (vaT n X (nP n X p) + 1 - (l + 1)) + 1 by omega]; show rel _ 29 (layN u _ (l + 1) (lay1 u l b)); rw [hL]; exact hB28)⟩, hI25, hC26, hO29⟩
    · refine sx_RP.cu (as := [.ref 96, .int (nI (l + 1)), .int 47]) (rest2 := []) (st3 := [.int 0]) rfl rfl (sx_inv_v2 (mi := 102) (k := 66) (st := [.int 47, .int (nI (l + 1)), .ref 96]) (w := w5) rfl rfl hI6.1.o96 rfl rfl rfl) rfl rfl (x103f (lo := (l + 1)) (hi := 47) hI6 hC7 hT11 (by omega) (by omega) c12) rfl ?_
      refine sx_RP.step (pc2 := 113) (ls2 := [(0, .ref 96), (1, .int (nI u)), (2, .ref 29), (3, .int (nI l))]) (st2 := []) (w3 := w5) rfl rfl ?_
      refine sx_RP.step (pc2 := 114) (ls2 := [(0, .ref 96), (1, .int (nI u)), (2, .ref 29), (3, .int (nI l))]) (st2 := [.int 0]) (w3 := w5) rfl rfl ?_
      refine sx_RP.ret (r := (some (.int 0))) rfl rfl ?_
      rw [show grW n X u l p b = (false, nP n X p, b) by unfold grW; rw [if_pos c1, if_neg (by rw [c12]; decide)]]
      exact ⟨⟨rfl, hT11, fun z => absurd (show false = true from z) (by decide)⟩, hI6, hC7, hO10⟩
  · refine sx_RP.cu (as := [.ref 96, .float 116]) (rest2 := []) (st3 := [.int 0]) rfl rfl (sx_inv_v2 (mi := 102) (k := 52) (st := [.float 116, .ref 96]) (w := w) rfl rfl hI.1.o96 rfl rfl rfl) rfl rfl (x101f (k := (116 : UInt32)) (m := 2) hI hC hT hp (by decide) rfl (by decide) c1) rfl ?_
    refine sx_RP.step (pc2 := 95) (ls2 := [(0, .ref 96), (1, .int (nI u)), (2, .ref 29), (3, .int (nI l))]) (st2 := []) (w3 := w) rfl rfl ?_
    refine sx_RP.step (pc2 := 96) (ls2 := [(0, .ref 96), (1, .int (nI u)), (2, .ref 29), (3, .int (nI l))]) (st2 := [.int 1]) (w3 := w) rfl rfl ?_
    refine sx_RP.ret (r := (some (.int 1))) rfl rfl ?_
    rw [show grW n X u l p b = (true, p, b) by unfold grW; rw [if_neg (by rw [c1]; decide)]]
    exact ⟨⟨rfl, hT, fun _ => hB⟩, hI, hC, hO⟩
set_option maxRecDepth 20000 in
set_option maxHeartbeats 4000000 in
theorem V102L {xs : Option (List Int32)} {d u : Nat} {n : Nat} {X : Nat → Nat} {w0 : List sx_C} (hu : u ≤ 4) : ∀ (fz i l p : Nat) (b : List Int32) (w : List sx_C), i + fz = 48 → l ≤ 47 → lay1 u l b = b → WI w → CT n X w → TK' n X p w → p ≤ n → rel w 29 b → OffT w0 w → sx_RP xs (d + 3) 102 35 [(0, .ref 96), (1, .int (nI u)), (2, .ref 29), (3, .int (nI l)), (4, .int (nI i))] [] w (fun r2 w2 => (r2 = some (.int (b01 (gwL n X u fz l p b).1)) ∧ RdW n X (gwL n X u fz l p b) w2) ∧ WI w2 ∧ CT n X w2 ∧ OffT w0 w2)
  | 0, i, l, p, b, w, hi, hl, hL, hI, hC, hT, hp, hB, hO => by
    obtain rfl : i = 48 := by omega
    refine sx_RP.step (pc2 := 37) (ls2 := [(0, .ref 96), (1, .int (nI u)), (2, .ref 29), (3, .int (nI l)), (4, .int 48)]) (st2 := [.int 48]) (w3 := w) rfl rfl ?_
    refine sx_RP.step (pc2 := 39) (ls2 := [(0, .ref 96), (1, .int (nI u)), (2, .ref 29), (3, .int (nI l)), (4, .int 48)]) (st2 := [.int 48, .int 48]) (w3 := w) rfl rfl ?_
    refine sx_RP.step (pc2 := 86) (ls2 := [(0, .ref 96), (1, .int (nI u)), (2, .ref 29), (3, .int (nI l)), (4, .int 48)]) (st2 := []) (w3 := w) rfl rfl ?_
    exact sx_RP.ls (sx_lr.cons rfl (sx_lr.cons rfl (sx_lr.cons rfl (sx_lr.cons rfl sx_lr.nil)))) (V102t hu hl hL hI hC hT hp hB hO)
  | fz + 1, i, l, p, b, w, hi, hl, hL, hI, hC, hT, hp, hB, hO => by
    have hv0 := vaT_le (n := n) (p := p) (X := X)
    have hs4 := soT_le (p := p) hC
    refine sx_RP.step (pc2 := 37) (ls2 := [(0, .ref 96), (1, .int (nI u)), (2, .ref 29), (3, .int (nI l)), (4, .int (nI i))]) (st2 := [.int (nI i)]) (w3 := w) rfl rfl ?_
    refine sx_RP.step (pc2 := 39) (ls2 := [(0, .ref 96), (1, .int (nI u)), (2, .ref 29), (3, .int (nI l)), (4, .int (nI i))]) (st2 := [.int 48, .int (nI i)]) (w3 := w) rfl rfl ?_
    refine sx_RP.br (p2 := 42) (l2 := [(0, .ref 96), (1, .int (nI u)), (2, .ref 29), (3, .int (nI l)), (4, .int (nI i))]) (s2 := []) (v2 := w) rfl rfl (fun q => absurd (of_decide_eq_true q) (fun z => absurd ((nI_leI (a := 48) (b := i) (by omega) (by omega)).mp z) (by omega))) (fun _ => ?_)
    refine sx_RP.step (pc2 := 43) (ls2 := [(0, .ref 96), (1, .int (nI u)), (2, .ref 29), (3, .int (nI l)), (4, .int (nI i))]) (st2 := [.ref 96]) (w3 := w) rfl rfl ?_
    refine sx_RP.gt (k := 2) hI rfl rfl (by decide) (show _ = 46 from rfl) ?_
    rw [hT.2.1]
    refine sx_RP.step (pc2 := 47) (ls2 := [(0, .ref 96), (1, .int (nI u)), (2, .ref 29), (3, .int (nI l)), (4, .int (nI i))]) (st2 := [.int 2, .int (nI (soT n X (p)))]) (w3 := w) rfl rfl ?_
    refine sx_RP.br (p1 := 86) (l1 := [(0, .ref 96), (1, .int (nI u)), (2, .ref 29), (3, .int (nI l)), (4, .int (nI i))]) (s1 := []) (v1 := w) (p2 := 50) (l2 := [(0, .ref 96), (1, .int (nI u)), (2, .ref 29), (3, .int (nI l)), (4, .int (nI i))]) (s2 := []) (v2 := w) rfl rfl (fun q1 => ?_) (fun q1 => ?_)
    · replace q1 := of_decide_eq_true q1
      replace q1 := mt (nI_eq (a := (soT n X (p))) (b := 2) (by omega) (by omega)).mpr q1
      rw [show gwL n X u (fz + 1) l p b = grW n X u l p b by unfold gwL; rw [if_neg (by omega)]]
      exact sx_RP.ls (sx_lr.cons rfl (sx_lr.cons rfl (sx_lr.cons rfl (sx_lr.cons rfl sx_lr.nil)))) (V102t hu hl hL hI hC hT hp hB hO)
    · replace q1 := Decidable.not_not.mp (of_decide_eq_false q1)
      replace q1 := (nI_eq (a := (soT n X (p))) (b := 2) (by omega) (by omega)).mp q1
      refine sx_RP.step (pc2 := 51) (ls2 := [(0, .ref 96), (1, .int (nI u)), (2, .ref 29), (3, .int (nI l)), (4, .int (nI i))]) (st2 := [.ref 96]) (w3 := w) rfl rfl ?_
      refine sx_RP.step (pc2 := 52) (ls2 := [(0, .ref 96), (1, .int (nI u)), (2, .ref 29), (3, .int (nI l)), (4, .int (nI i))]) (st2 := [.int (nI l), .ref 96]) (w3 := w) rfl rfl ?_
      refine sx_RP.step (pc2 := 53) (ls2 := [(0, .ref 96), (1, .int (nI u)), (2, .ref 29), (3, .int (nI l)), (4, .int (nI i))]) (st2 := [.int 1, .int (nI l), .ref 96]) (w3 := w) rfl rfl ?_
      refine sx_RP.step (pc2 := 54) (ls2 := [(0, .ref 96), (1, .int (nI u)), (2, .ref 29), (3, .int (nI l)), (4, .int (nI i))]) (st2 := [.int ((nI l) + 1), .ref 96]) (w3 := w) rfl rfl ?_
      rw [show ((nI l) + 1 : Int32) = nI (l + 1) from nI_add l 1]
      refine sx_RP.step (pc2 := 56) (ls2 := [(0, .ref 96), (1, .int (nI u)), (2, .ref 29), (3, .int (nI l)), (4, .int (nI i))]) (st2 := [.int 47, .int (nI (l + 1)), .ref 96]) (w3 := w) rfl rfl ?_
      rcases Bool.eq_false_or_eq_true (nmT n X p (l + 1) 47) with c2 | c2
      · refine sx_RP.cu (as := [.ref 96, .int (nI (l + 1)), .int 47]) (rest2 := []) (st3 := [.int 1]) rfl rfl (sx_inv_v2 (mi := 102) (k := 66) (st := [.int 47, .int (nI (l + 1)), .ref 96]) (w := w) rfl rfl hI.1.o96 rfl rfl rfl) rfl rfl (x103t (lo := (l + 1)) (hi := 47) hI hC hT (by omega) (by omega) c2) rfl ?_
        refine sx_RP.step (pc2 := 64) (ls2 := [(0, .ref 96), (1, .int (nI u)), (2, .ref 29), (3, .int (nI l)), (4, .int (nI i))]) (st2 := []) (w3 := w) rfl rfl ?_
        refine sx_RP.step (pc2 := 65) (ls2 := [(0, .ref 96), (1, .int (nI u)), (2, .ref 29), (3, .int (nI l)), (4, .int (nI i))]) (st2 := [.ref 96]) (w3 := w) rfl rfl ?_
        refine sx_RP.gt (k := 5) hI rfl rfl (by decide) (show _ = 68 from rfl) ?_
        rw [hT.2.2.2]
        refine sx_RP.step (pc2 := 69) (ls2 := [(3, .int (nI (vaT n X (p)))), (0, .ref 96), (1, .int (nI u)), (2, .ref 29), (4, .int (nI i))]) (st2 := []) (w3 := w) rfl rfl ?_
        refine sx_RP.step (pc2 := 70) (ls2 := [(3, .int (nI (vaT n X (p)))), (0, .ref 96), (1, .int (nI u)), (2, .ref 29), (4, .int (nI i))]) (st2 := [.ref 29]) (w3 := w) rfl rfl ?_
        refine sx_RP.step (pc2 := 71) (ls2 := [(3, .int (nI (vaT n X (p)))), (0, .ref 96), (1, .int (nI u)), (2, .ref 29), (4, .int (nI i))]) (st2 := [.int (nI u), .ref 29]) (w3 := w) rfl rfl ?_
        refine sx_RP.step (pc2 := 72) (ls2 := [(3, .int (nI (vaT n X (p)))), (0, .ref 96), (1, .int (nI u)), (2, .ref 29), (4, .int (nI i))]) (st2 := [.int (nI (vaT n X (p))), .int (nI u), .ref 29]) (w3 := w) rfl rfl ?_
        refine sx_RP.step (pc2 := 73) (ls2 := [(3, .int (nI (vaT n X (p)))), (0, .ref 96), (1, .int (nI u)), (2, .ref 29), (4, .int (nI i))]) (st2 := [.int (nI (vaT n X (p))), .int (nI (vaT n X (p))), .int (nI u), .ref 29]) (w3 := w) rfl rfl ?_
        have hv5 := nmT_in c2
        refine sx_RP.callp (as2 := [.ref 29, .int (nI u), .int (nI (vaT n X (p))), .int (nI (vaT n X (p)))]) (rest2 := []) rfl rfl (sx_inv_v2 (mi := 102) (k := 70) (st := [.int (nI (vaT n X (p))), .int (nI (vaT n X (p))), .int (nI u), .ref 29]) (w := w) rfl rfl (hI.1.oC (Or.inr (Or.inr rfl))) rfl rfl rfl) rfl rfl rfl (V104 hI (u := u) (f := (vaT n X (p))) (t := (vaT n X (p))) (by omega) (by omega) (by omega) hB) (show _ = 76 from rfl) ?_
        rintro r4 w6 ⟨⟨rfl, hr3⟩, hI7, ho4⟩
        show sx_RP _ _ _ _ _ [] _ _
        have hC8 := hC.out ho4
        have hT9 := hT.out ho4
        have hO10 := hO.tr ho4.offT
        have hB11 : rel w6 29 (lay1 u ((vaT n X (p))) b) := by have z := hr3; rw [show (vaT n X (p)) + 1 - (vaT n X (p)) = 1 by omega] at z; exact z
        refine sx_RP.step (pc2 := 77) (ls2 := [(3, .int (nI (vaT n X (p)))), (0, .ref 96), (1, .int (nI u)), (2, .ref 29), (4, .int (nI i))]) (st2 := [.ref 96]) (w3 := w6) rfl rfl ?_
        refine sx_RP.callp (as2 := [.ref 96]) (rest2 := []) rfl rfl (sx_inv_v2 (mi := 102) (k := 29) (st := [.ref 96]) (w := w6) rfl rfl hI7.1.o96 rfl rfl rfl) rfl rfl rfl (X94 hI7 hC8 hT9.2.2.1 (beT_le hp)) (show _ = 80 from rfl) ?_
        rintro r4 w15 ⟨⟨rfl, hT12, h113⟩, hI16, hs14⟩
        show sx_RP _ _ _ _ _ [] _ _
        have hT21 : TK' n X (nP n X p) w15 := hT12
        have hC17 := hC8.same h113 (ia_of (hs14 97 (by decide)))
        have hp18 : nP n X p ≤ n := nP_le hp
        have hB19 := hB11.same hI7 isA29 (fun a h1 h2 => hs14 a (by omega))
        have hO20 := hO10.tr hs14.offT
        refine sx_RP.step (pc2 := 83) (ls2 := [(4, .int ((nI i) + 1)), (3, .int (nI (vaT n X (p)))), (0, .ref 96), (1, .int (nI u)), (2, .ref 29)]) (st2 := []) (w3 := w15) rfl rfl ?_
        rw [nI_1 i]
        refine sx_RP.step (pc2 := 35) (ls2 := [(4, .int (nI (i + 1))), (3, .int (nI (vaT n X (p)))), (0, .ref 96), (1, .int (nI u)), (2, .ref 29)]) (st2 := []) (w3 := w15) rfl rfl ?_
        rw [show gwL n X u (fz + 1) l p b = gwL n X u fz (vaT n X p) (nP n X p) (lay1 u (vaT n X p) b) by conv => lhs; unfold gwL; rw [if_pos (by omega), if_pos c2]]
        exact sx_RP.ls (sx_lr.cons rfl (sx_lr.cons rfl (sx_lr.cons rfl (sx_lr.cons rfl (sx_lr.cons rfl sx_lr.nil))))) (V102L hu fz (i + 1) (vaT n X p) (nP n X p) (lay1 u (vaT n X p) b) w15 (by omega) (by omega) lay1_2 hI16 hC17 hT21 hp18 hB19 hO20)
      · refine sx_RP.cu (as := [.ref 96, .int (nI (l + 1)), .int 47]) (rest2 := []) (st3 := [.int 0]) rfl rfl (sx_inv_v2 (mi := 102) (k := 66) (st := [.int 47, .int (nI (l + 1)), .ref 96]) (w := w) rfl rfl hI.1.o96 rfl rfl rfl) rfl rfl (x103f (lo := (l + 1)) (hi := 47) hI hC hT (by omega) (by omega) c2) rfl ?_
        refine sx_RP.step (pc2 := 62) (ls2 := [(0, .ref 96), (1, .int (nI u)), (2, .ref 29), (3, .int (nI l)), (4, .int (nI i))]) (st2 := []) (w3 := w) rfl rfl ?_
        refine sx_RP.step (pc2 := 63) (ls2 := [(0, .ref 96), (1, .int (nI u)), (2, .ref 29), (3, .int (nI l)), (4, .int (nI i))]) (st2 := [.int 0]) (w3 := w) rfl rfl ?_
        refine sx_RP.ret (r := (some (.int 0))) rfl rfl ?_
        rw [show gwL n X u (fz + 1) l p b = (false, p, b) by unfold gwL; rw [if_pos (by omega), if_neg (by rw [c2]; decide)]]
        exact ⟨⟨rfl, hT, fun z => absurd (show false = true from z) (by decide)⟩, hI, hC, hO⟩
set_option maxRecDepth 20000 in
set_option maxHeartbeats 4000000 in
theorem V102 {xs : Option (List Int32)} {d u p n : Nat} {X : Nat → Nat} {b : List Int32} {w : List sx_C} (hu : u ≤ 4) (hI : WI w) (hC : CT n X w) (hT : TK' n X p w) (hp : p ≤ n) (hB : rel w 29 b) : sx_RP xs (d + 3) 102 0 (lv_args 0 [.ref 96, .int (nI u), .ref 29]) [] w (fun r2 w2 => (r2 = some (.int (b01 (groW n X u p b).1)) ∧ RdW n X (groW n X u p b) w2) ∧ WI w2 ∧ CT n X w2 ∧ OffT w w2) := by
  refine sx_RP.step (pc2 := 1) (ls2 := [(0, .ref 96), (1, .int (nI u)), (2, .ref 29)]) (st2 := [.ref 96]) (w3 := w) rfl rfl ?_
  refine sx_RP.callp (as2 := [.ref 96]) (rest2 := []) rfl rfl (sx_inv_v2 (mi := 102) (k := 29) (st := [.ref 96]) (w := w) rfl rfl hI.1.o96 rfl rfl rfl) rfl rfl rfl (X94 hI hC hT.2.2.1 (beT_le hp)) (show _ = 4 from rfl) ?_
  rintro r4 w4 ⟨⟨rfl, hT1, h12⟩, hI5, hs3⟩
  show sx_RP _ _ _ _ _ [] _ _
  have hT10 : TK' n X (nP n X p) w4 := hT1
  have hC6 := hC.same h12 (ia_of (hs3 97 (by decide)))
  have hp7 : nP n X p ≤ n := nP_le hp
  have hB8 := hB.same hI isA29 (fun a h1 h2 => hs3 a (by omega))
  have hO9 := OffT.rf.tr hs3.offT
  refine sx_RP.step (pc2 := 5) (ls2 := [(0, .ref 96), (1, .int (nI u)), (2, .ref 29)]) (st2 := [.ref 96]) (w3 := w4) rfl rfl ?_
  refine sx_RP.step (pc2 := 6) (ls2 := [(0, .ref 96), (1, .int (nI u)), (2, .ref 29)]) (st2 := [.int 0, .ref 96]) (w3 := w4) rfl rfl ?_
  refine sx_RP.step (pc2 := 8) (ls2 := [(0, .ref 96), (1, .int (nI u)), (2, .ref 29)]) (st2 := [.int 47, .int 0, .ref 96]) (w3 := w4) rfl rfl ?_
  rcases Bool.eq_false_or_eq_true (nmT n X (nP n X p) 0 47) with c11 | c11
  · refine sx_RP.cu (as := [.ref 96, .int 0, .int 47]) (rest2 := []) (st3 := [.int 1]) rfl rfl (sx_inv_v2 (mi := 102) (k := 66) (st := [.int 47, .int 0, .ref 96]) (w := w4) rfl rfl hI5.1.o96 rfl rfl rfl) rfl rfl (x103t (lo := 0) (hi := 47) hI5 hC6 hT10 (by omega) (by omega) c11) rfl ?_
    refine sx_RP.step (pc2 := 16) (ls2 := [(0, .ref 96), (1, .int (nI u)), (2, .ref 29)]) (st2 := []) (w3 := w4) rfl rfl ?_
    refine sx_RP.step (pc2 := 17) (ls2 := [(0, .ref 96), (1, .int (nI u)), (2, .ref 29)]) (st2 := [.ref 96]) (w3 := w4) rfl rfl ?_
    refine sx_RP.gt (k := 5) hI5 rfl rfl (by decide) (show _ = 20 from rfl) ?_
    rw [hT10.2.2.2]
    refine sx_RP.step (pc2 := 21) (ls2 := [(3, .int (nI (vaT n X (nP n X p)))), (0, .ref 96), (1, .int (nI u)), (2, .ref 29)]) (st2 := []) (w3 := w4) rfl rfl ?_
    refine sx_RP.step (pc2 := 22) (ls2 := [(3, .int (nI (vaT n X (nP n X p)))), (0, .ref 96), (1, .int (nI u)), (2, .ref 29)]) (st2 := [.ref 29]) (w3 := w4) rfl rfl ?_
    refine sx_RP.step (pc2 := 23) (ls2 := [(3, .int (nI (vaT n X (nP n X p)))), (0, .ref 96), (1, .int (nI u)), (2, .ref 29)]) (st2 := [.int (nI u), .ref 29]) (w3 := w4) rfl rfl ?_
    refine sx_RP.step (pc2 := 24) (ls2 := [(3, .int (nI (vaT n X (nP n X p)))), (0, .ref 96), (1, .int (nI u)), (2, .ref 29)]) (st2 := [.int (nI (vaT n X (nP n X p))), .int (nI u), .ref 29]) (w3 := w4) rfl rfl ?_
    refine sx_RP.step (pc2 := 25) (ls2 := [(3, .int (nI (vaT n X (nP n X p)))), (0, .ref 96), (1, .int (nI u)), (2, .ref 29)]) (st2 := [.int (nI (vaT n X (nP n X p))), .int (nI (vaT n X (nP n X p))), .int (nI u), .ref 29]) (w3 := w4) rfl rfl ?_
    have hv14 := nmT_in c11
    refine sx_RP.callp (as2 := [.ref 29, .int (nI u), .int (nI (vaT n X (nP n X p))), .int (nI (vaT n X (nP n X p)))]) (rest2 := []) rfl rfl (sx_inv_v2 (mi := 102) (k := 70) (st := [.int (nI (vaT n X (nP n X p))), .int (nI (vaT n X (nP n X p))), .int (nI u), .ref 29]) (w := w4) rfl rfl (hI5.1.oC (Or.inr (Or.inr rfl))) rfl rfl rfl) rfl rfl rfl (V104 hI5 (u := u) (f := (vaT n X (nP n X p))) (t := (vaT n X (nP n X p))) (by omega) (by omega) (by omega) hB8) (show _ = 28 from rfl) ?_
    rintro r4 w15 ⟨⟨rfl, hr12⟩, hI16, ho13⟩
    show sx_RP _ _ _ _ _ [] _ _
    have hC17 := hC6.out ho13
    have hT18 := hT10.out ho13
    have hO19 := hO9.tr ho13.offT
    have hB20 : rel w15 29 (lay1 u ((vaT n X (nP n X p))) b) := by have z := hr12; rw [show (vaT n X (nP n X p)) + 1 - (vaT n X (nP n X p)) = 1 by omega] at z; exact z
    refine sx_RP.step (pc2 := 29) (ls2 := [(3, .int (nI (vaT n X (nP n X p)))), (0, .ref 96), (1, .int (nI u)), (2, .ref 29)]) (st2 := [.ref 96]) (w3 := w15) rfl rfl ?_
    refine sx_RP.callp (as2 := [.ref 96]) (rest2 := []) rfl rfl (sx_inv_v2 (mi := 102) (k := 29) (st := [.ref 96]) (w := w15) rfl rfl hI16.1.o96 rfl rfl rfl) rfl rfl rfl (X94 hI16 hC17 hT18.2.2.1 (beT_le hp7)) (show _ = 32 from rfl) ?_
    rintro r4 w24 ⟨⟨rfl, hT21, h122⟩, hI25, hs23⟩
    show sx_RP _ _ _ _ _ [] _ _
    have hT30 : TK' n X (nP n X (nP n X p)) w24 := hT21
    have hC26 := hC17.same h122 (ia_of (hs23 97 (by decide)))
    have hp27 : nP n X (nP n X p) ≤ n := nP_le hp7
    have hB28 := hB20.same hI16 isA29 (fun a h1 h2 => hs23 a (by omega))
    have hO29 := hO19.tr hs23.offT
    refine sx_RP.step (pc2 := 33) (ls2 := [(3, .int (nI (vaT n X (nP n X p)))), (0, .ref 96), (1, .int (nI u)), (2, .ref 29)]) (st2 := [.int 0]) (w3 := w24) rfl rfl ?_
    refine sx_RP.step (pc2 := 35) (ls2 := [(4, .int 0), (3, .int (nI (vaT n X (nP n X p)))), (0, .ref 96), (1, .int (nI u)), (2, .ref 29)]) (st2 := []) (w3 := w24) rfl rfl ?_
    rw [show groW n X u p b = gwL n X u 48 (vaT n X (nP n X p)) (nP n X (nP n X p)) (lay1 u (vaT n X (nP n X p)) b) by unfold groW; rw [if_pos c11]]
    exact sx_RP.ls (sx_lr.cons rfl (sx_lr.cons rfl (sx_lr.cons rfl (sx_lr.cons rfl (sx_lr.cons rfl sx_lr.nil))))) (V102L hu 48 0 (vaT n X (nP n X p)) (nP n X (nP n X p)) (lay1 u (vaT n X (nP n X p)) b) w24 (by omega) (by omega) lay1_2 hI25 hC26 hT30 hp27 hB28 hO29)
  · refine sx_RP.cu (as := [.ref 96, .int 0, .int 47]) (rest2 := []) (st3 := [.int 0]) rfl rfl (sx_inv_v2 (mi := 102) (k := 66) (st := [.int 47, .int 0, .ref 96]) (w := w4) rfl rfl hI5.1.o96 rfl rfl rfl) rfl rfl (x103f (lo := 0) (hi := 47) hI5 hC6 hT10 (by omega) (by omega) c11) rfl ?_
    refine sx_RP.step (pc2 := 14) (ls2 := [(0, .ref 96), (1, .int (nI u)), (2, .ref 29)]) (st2 := []) (w3 := w4) rfl rfl ?_
    refine sx_RP.step (pc2 := 15) (ls2 := [(0, .ref 96), (1, .int (nI u)), (2, .ref 29)]) (st2 := [.int 0]) (w3 := w4) rfl rfl ?_
    refine sx_RP.ret (r := (some (.int 0))) rfl rfl ?_
    rw [show groW n X u p b = (false, nP n X p, b) by unfold groW; rw [if_neg (by rw [c11]; decide)]]
    exact ⟨⟨rfl, hT10, fun z => absurd (show false = true from z) (by decide)⟩, hI5, hC6, hO9⟩
set_option maxRecDepth 20000 in
set_option maxHeartbeats 4000000 in
theorem V98 {xs : Option (List Int32)} {d : Nat} {w : List sx_C} (hI : WI w) {n p : Nat} {X : Nat → Nat} {b : List Int32} (hC : CT n X w) (hT : TK' n X p w) (hp : p ≤ n) (hB : rel w 29 b) : sx_RP xs (d + 5) 98 0 (lv_args 0 [.ref 96, .ref 29]) [] w (fun r w2 => (r = some (.int (b01 (itW n X p b).1)) ∧ RdW n X (itW n X p b) w2) ∧ WI w2 ∧ CT n X w2 ∧ OffT w w2) := by
  refine sx_RP.step (pc2 := 1) (ls2 := [(0, .ref 96), (1, .ref 29)]) (st2 := [.ref 96]) (w3 := w) rfl rfl ?_
  rcases gw_rng n X p with c1 | ⟨u2, hu3, c1⟩
  · refine sx_RP.cu (as := [.ref 96]) (rest2 := []) (st3 := [.int (-1)]) rfl rfl (sx_inv_v2 (mi := 98) (k := 36) (st := [.ref 96]) (w := w) rfl rfl hI.1.o96 rfl rfl rfl) rfl rfl (x99e hI hC hT hp c1) rfl ?_
    refine sx_RP.step (pc2 := 5) (ls2 := [(2, .int (-1)), (0, .ref 96), (1, .ref 29)]) (st2 := []) (w3 := w) rfl rfl ?_
    refine sx_RP.step (pc2 := 6) (ls2 := [(2, .int (-1)), (0, .ref 96), (1, .ref 29)]) (st2 := [.int (-1)]) (w3 := w) rfl rfl ?_
    refine sx_RP.step (pc2 := 7) (ls2 := [(2, .int (-1)), (0, .ref 96), (1, .ref 29)]) (st2 := [.int (-1), .int (-1)]) (w3 := w) rfl rfl ?_
    refine sx_RP.step (pc2 := 17) (ls2 := [(2, .int (-1)), (0, .ref 96), (1, .ref 29)]) (st2 := []) (w3 := w) rfl rfl ?_
    refine sx_RP.step (pc2 := 18) (ls2 := [(2, .int (-1)), (0, .ref 96), (1, .ref 29)]) (st2 := [.ref 96]) (w3 := w) rfl rfl ?_
    rcases kw_rng n X p with c4 | ⟨u5, hu6, c4⟩
    · refine sx_RP.cu (as := [.ref 96]) (rest2 := []) (st3 := [.int (-1)]) rfl rfl (sx_inv_v2 (mi := 98) (k := 44) (st := [.ref 96]) (w := w) rfl rfl hI.1.o96 rfl rfl rfl) rfl rfl (x105e hI hC hT hp c4) rfl ?_
      refine sx_RP.step (pc2 := 22) (ls2 := [(3, .int (-1)), (2, .int (-1)), (0, .ref 96), (1, .ref 29)]) (st2 := []) (w3 := w) rfl rfl ?_
      refine sx_RP.step (pc2 := 23) (ls2 := [(3, .int (-1)), (2, .int (-1)), (0, .ref 96), (1, .ref 29)]) (st2 := [.int (-1)]) (w3 := w) rfl rfl ?_
      refine sx_RP.step (pc2 := 24) (ls2 := [(3, .int (-1)), (2, .int (-1)), (0, .ref 96), (1, .ref 29)]) (st2 := [.int (-1), .int (-1)]) (w3 := w) rfl rfl ?_
      refine sx_RP.step (pc2 := 34) (ls2 := [(3, .int (-1)), (2, .int (-1)), (0, .ref 96), (1, .ref 29)]) (st2 := []) (w3 := w) rfl rfl ?_
      refine sx_RP.step (pc2 := 35) (ls2 := [(3, .int (-1)), (2, .int (-1)), (0, .ref 96), (1, .ref 29)]) (st2 := [.ref 96]) (w3 := w) rfl rfl ?_
      refine sx_RP.step (pc2 := 37) (ls2 := [(3, .int (-1)), (2, .int (-1)), (0, .ref 96), (1, .ref 29)]) (st2 := [.float 104, .ref 96]) (w3 := w) rfl rfl ?_
      rcases Bool.eq_false_or_eq_true (wdT n X p (104 : UInt32)) with c7 | c7
      · refine sx_RP.cu (as := [.ref 96, .float 104]) (rest2 := []) (st3 := [.int 1]) rfl rfl (sx_inv_v2 (mi := 98) (k := 52) (st := [.float 104, .ref 96]) (w := w) rfl rfl hI.1.o96 rfl rfl rfl) rfl rfl (x101t (k := (104 : UInt32)) (m := 4) hI hC hT hp (by decide) rfl (by decide) c7) rfl ?_
        refine sx_RP.step (pc2 := 43) (ls2 := [(3, .int (-1)), (2, .int (-1)), (0, .ref 96), (1, .ref 29)]) (st2 := []) (w3 := w) rfl rfl ?_
        refine sx_RP.step (pc2 := 44) (ls2 := [(3, .int (-1)), (2, .int (-1)), (0, .ref 96), (1, .ref 29)]) (st2 := [.ref 96]) (w3 := w) rfl rfl ?_
        refine sx_RP.step (pc2 := 45) (ls2 := [(3, .int (-1)), (2, .int (-1)), (0, .ref 96), (1, .ref 29)]) (st2 := [.ref 29, .ref 96]) (w3 := w) rfl rfl ?_
        refine sx_RP.callp (as2 := [.ref 96, .ref 29]) (rest2 := []) rfl rfl (sx_inv_v2 (mi := 98) (k := 56) (st := [.ref 29, .ref 96]) (w := w) rfl rfl hI.1.o96 rfl rfl rfl) rfl rfl rfl (V109 hI hC hT hp hB) (show _ = 48 from rfl) ?_
        rintro r4 w11 ⟨⟨rfl, hr8⟩, hI12, hC9, hO10⟩
        show sx_RP _ _ _ _ _ [.int (b01 (disW n X p b).1)] _ _
        refine sx_RP.ret (r := (some (.int (b01 (disW n X p b).1)))) rfl (b01_r98 _) ?_
        rw [show itW n X p b = disW n X p b by unfold itW; rw [if_pos c1, if_pos c4, if_pos c7]]
        exact ⟨⟨rfl, hr8⟩, hI12, hC9, hO10⟩
      · refine sx_RP.cu (as := [.ref 96, .float 104]) (rest2 := []) (st3 := [.int 0]) rfl rfl (sx_inv_v2 (mi := 98) (k := 52) (st := [.float 104, .ref 96]) (w := w) rfl rfl hI.1.o96 rfl rfl rfl) rfl rfl (x101f (k := (104 : UInt32)) (m := 4) hI hC hT hp (by decide) rfl (by decide) c7) rfl ?_
        refine sx_RP.step (pc2 := 49) (ls2 := [(3, .int (-1)), (2, .int (-1)), (0, .ref 96), (1, .ref 29)]) (st2 := []) (w3 := w) rfl rfl ?_
        refine sx_RP.step (pc2 := 50) (ls2 := [(3, .int (-1)), (2, .int (-1)), (0, .ref 96), (1, .ref 29)]) (st2 := [.ref 96]) (w3 := w) rfl rfl ?_
        refine sx_RP.step (pc2 := 52) (ls2 := [(3, .int (-1)), (2, .int (-1)), (0, .ref 96), (1, .ref 29)]) (st2 := [.float 101, .ref 96]) (w3 := w) rfl rfl ?_
        rcases Bool.eq_false_or_eq_true (wdT n X p (101 : UInt32)) with c13 | c13
        · refine sx_RP.cu (as := [.ref 96, .float 101]) (rest2 := []) (st3 := [.int 1]) rfl rfl (sx_inv_v2 (mi := 98) (k := 52) (st := [.float 101, .ref 96]) (w := w) rfl rfl hI.1.o96 rfl rfl rfl) rfl rfl (x101t (k := (101 : UInt32)) (m := 5) hI hC hT hp (by decide) rfl (by decide) c13) rfl ?_
          refine sx_RP.step (pc2 := 58) (ls2 := [(3, .int (-1)), (2, .int (-1)), (0, .ref 96), (1, .ref 29)]) (st2 := []) (w3 := w) rfl rfl ?_
          refine sx_RP.step (pc2 := 59) (ls2 := [(3, .int (-1)), (2, .int (-1)), (0, .ref 96), (1, .ref 29)]) (st2 := [.ref 96]) (w3 := w) rfl rfl ?_
          refine sx_RP.step (pc2 := 60) (ls2 := [(3, .int (-1)), (2, .int (-1)), (0, .ref 96), (1, .ref 29)]) (st2 := [.ref 29, .ref 96]) (w3 := w) rfl rfl ?_
          refine sx_RP.callp (as2 := [.ref 96, .ref 29]) (rest2 := []) rfl rfl (sx_inv_v2 (mi := 98) (k := 61) (st := [.ref 29, .ref 96]) (w := w) rfl rfl hI.1.o96 rfl rfl rfl) rfl rfl rfl (V110 hI hC hT hp hB) (show _ = 63 from rfl) ?_
          rintro r4 w17 ⟨⟨rfl, hr14⟩, hI18, hC15, hO16⟩
          show sx_RP _ _ _ _ _ [.int (b01 (breW n X p b).1)] _ _
          refine sx_RP.br (p1 := 70) (l1 := [(3, .int (-1)), (2, .int (-1)), (0, .ref 96), (1, .ref 29)]) (s1 := []) (v1 := w17) (p2 := 66) (l2 := [(3, .int (-1)), (2, .int (-1)), (0, .ref 96), (1, .ref 29)]) (s2 := []) (v2 := w17) rfl rfl (fun q19 => ?_) (fun q19 => ?_)
          · replace q19 := of_decide_eq_true q19
            refine sx_RP.step (pc2 := 71) (ls2 := [(3, .int (-1)), (2, .int (-1)), (0, .ref 96), (1, .ref 29)]) (st2 := [.int 0]) (w3 := w17) rfl rfl ?_
            refine sx_RP.ret (r := (some (.int 0))) rfl rfl ?_
            rw [show itW n X p b = breW n X p b by unfold itW; rw [if_pos c1, if_pos c4, if_neg (by rw [c7]; decide), if_pos c13]]
            exact ⟨⟨by rw [b01_f q19]; rfl, hr14⟩, hI18, hC15, hO16⟩
          · replace q19 := of_decide_eq_false q19
            refine sx_RP.step (pc2 := 67) (ls2 := [(3, .int (-1)), (2, .int (-1)), (0, .ref 96), (1, .ref 29)]) (st2 := [.int 1]) (w3 := w17) rfl rfl ?_
            refine sx_RP.step (pc2 := 71) (ls2 := [(3, .int (-1)), (2, .int (-1)), (0, .ref 96), (1, .ref 29)]) (st2 := [.int 1]) (w3 := w17) rfl rfl ?_
            refine sx_RP.ret (r := (some (.int 1))) rfl rfl ?_
            rw [show itW n X p b = breW n X p b by unfold itW; rw [if_pos c1, if_pos c4, if_neg (by rw [c7]; decide), if_pos c13]]
            exact ⟨⟨by rw [b01_t q19]; rfl, hr14⟩, hI18, hC15, hO16⟩
        · refine sx_RP.cu (as := [.ref 96, .float 101]) (rest2 := []) (st3 := [.int 0]) rfl rfl (sx_inv_v2 (mi := 98) (k := 52) (st := [.float 101, .ref 96]) (w := w) rfl rfl hI.1.o96 rfl rfl rfl) rfl rfl (x101f (k := (101 : UInt32)) (m := 5) hI hC hT hp (by decide) rfl (by decide) c13) rfl ?_
          refine sx_RP.step (pc2 := 70) (ls2 := [(3, .int (-1)), (2, .int (-1)), (0, .ref 96), (1, .ref 29)]) (st2 := []) (w3 := w) rfl rfl ?_
          refine sx_RP.step (pc2 := 71) (ls2 := [(3, .int (-1)), (2, .int (-1)), (0, .ref 96), (1, .ref 29)]) (st2 := [.int 0]) (w3 := w) rfl rfl ?_
          refine sx_RP.ret (r := (some (.int 0))) rfl rfl ?_
          rw [show itW n X p b = (false, p, b) by unfold itW; rw [if_pos c1, if_pos c4, if_neg (by rw [c7]; decide), if_neg (by rw [c13]; decide)]]
          exact ⟨⟨rfl, hT, fun z => absurd (show false = true from z) (by decide)⟩, hI, hC, OffT.rf⟩
    · refine sx_RP.cu (as := [.ref 96]) (rest2 := []) (st3 := [.int (nI u5)]) rfl rfl (sx_inv_v2 (mi := 98) (k := 44) (st := [.ref 96]) (w := w) rfl rfl hI.1.o96 rfl rfl rfl) rfl rfl (x105e hI hC hT hp c4) rfl ?_
      refine sx_RP.step (pc2 := 22) (ls2 := [(3, .int (nI u5)), (2, .int (-1)), (0, .ref 96), (1, .ref 29)]) (st2 := []) (w3 := w) rfl rfl ?_
      refine sx_RP.step (pc2 := 23) (ls2 := [(3, .int (nI u5)), (2, .int (-1)), (0, .ref 96), (1, .ref 29)]) (st2 := [.int (nI u5)]) (w3 := w) rfl rfl ?_
      refine sx_RP.step (pc2 := 24) (ls2 := [(3, .int (nI u5)), (2, .int (-1)), (0, .ref 96), (1, .ref 29)]) (st2 := [.int (-1), .int (nI u5)]) (w3 := w) rfl rfl ?_
      refine sx_RP.br (p2 := 27) (l2 := [(3, .int (nI u5)), (2, .int (-1)), (0, .ref 96), (1, .ref 29)]) (s2 := []) (v2 := w) rfl rfl (fun q => absurd (of_decide_eq_true q) (nI_ne1 (by omega))) (fun _ => ?_)
      refine sx_RP.step (pc2 := 28) (ls2 := [(3, .int (nI u5)), (2, .int (-1)), (0, .ref 96), (1, .ref 29)]) (st2 := [.ref 96]) (w3 := w) rfl rfl ?_
      refine sx_RP.step (pc2 := 29) (ls2 := [(3, .int (nI u5)), (2, .int (-1)), (0, .ref 96), (1, .ref 29)]) (st2 := [.int (nI u5), .ref 96]) (w3 := w) rfl rfl ?_
      refine sx_RP.step (pc2 := 30) (ls2 := [(3, .int (nI u5)), (2, .int (-1)), (0, .ref 96), (1, .ref 29)]) (st2 := [.ref 29, .int (nI u5), .ref 96]) (w3 := w) rfl rfl ?_
      refine sx_RP.callp (as2 := [.ref 96, .int (nI u5), .ref 29]) (rest2 := []) rfl rfl (sx_inv_v2 (mi := 98) (k := 47) (st := [.ref 29, .int (nI u5), .ref 96]) (w := w) rfl rfl hI.1.o96 rfl rfl rfl) rfl rfl rfl (V107 (k := u5) hI (by omega) hC hT hp hB) (show _ = 33 from rfl) ?_
      rintro r4 w23 ⟨⟨rfl, hr20⟩, hI24, hC21, hO22⟩
      show sx_RP _ _ _ _ _ [.int (b01 (galW n X u5 p b).1)] _ _
      refine sx_RP.ret (r := (some (.int (b01 (galW n X u5 p b).1)))) rfl (b01_r98 _) ?_
      rw [show itW n X p b = galW n X u5 p b by unfold itW; rw [if_pos c1, if_neg (by rw [c4]; exact nI_nm1 (by omega)), c4, iN_n (by omega)]]
      exact ⟨⟨rfl, hr20⟩, hI24, hC21, hO22⟩
  · refine sx_RP.cu (as := [.ref 96]) (rest2 := []) (st3 := [.int (nI u2)]) rfl rfl (sx_inv_v2 (mi := 98) (k := 36) (st := [.ref 96]) (w := w) rfl rfl hI.1.o96 rfl rfl rfl) rfl rfl (x99e hI hC hT hp c1) rfl ?_
    refine sx_RP.step (pc2 := 5) (ls2 := [(2, .int (nI u2)), (0, .ref 96), (1, .ref 29)]) (st2 := []) (w3 := w) rfl rfl ?_
    refine sx_RP.step (pc2 := 6) (ls2 := [(2, .int (nI u2)), (0, .ref 96), (1, .ref 29)]) (st2 := [.int (nI u2)]) (w3 := w) rfl rfl ?_
    refine sx_RP.step (pc2 := 7) (ls2 := [(2, .int (nI u2)), (0, .ref 96), (1, .ref 29)]) (st2 := [.int (-1), .int (nI u2)]) (w3 := w) rfl rfl ?_
    refine sx_RP.br (p2 := 10) (l2 := [(2, .int (nI u2)), (0, .ref 96), (1, .ref 29)]) (s2 := []) (v2 := w) rfl rfl (fun q => absurd (of_decide_eq_true q) (nI_ne1 (by omega))) (fun _ => ?_)
    refine sx_RP.step (pc2 := 11) (ls2 := [(2, .int (nI u2)), (0, .ref 96), (1, .ref 29)]) (st2 := [.ref 96]) (w3 := w) rfl rfl ?_
    refine sx_RP.step (pc2 := 12) (ls2 := [(2, .int (nI u2)), (0, .ref 96), (1, .ref 29)]) (st2 := [.int (nI u2), .ref 96]) (w3 := w) rfl rfl ?_
    refine sx_RP.step (pc2 := 13) (ls2 := [(2, .int (nI u2)), (0, .ref 96), (1, .ref 29)]) (st2 := [.ref 29, .int (nI u2), .ref 96]) (w3 := w) rfl rfl ?_
    refine sx_RP.callp (as2 := [.ref 96, .int (nI u2), .ref 29]) (rest2 := []) rfl rfl (sx_inv_v2 (mi := 98) (k := 40) (st := [.ref 29, .int (nI u2), .ref 96]) (w := w) rfl rfl hI.1.o96 rfl rfl rfl) rfl rfl rfl (V102 (u := u2) (by omega) hI hC hT hp hB) (show _ = 16 from rfl) ?_
    rintro r4 w28 ⟨⟨rfl, hr25⟩, hI29, hC26, hO27⟩
    show sx_RP _ _ _ _ _ [.int (b01 (groW n X u2 p b).1)] _ _
    refine sx_RP.ret (r := (some (.int (b01 (groW n X u2 p b).1)))) rfl (b01_r98 _) ?_
    rw [show itW n X p b = groW n X u2 p b by unfold itW; rw [if_neg (by rw [c1]; exact nI_nm1 (by omega)), c1, iN_n (by omega)]]
    exact ⟨⟨rfl, hr25⟩, hI29, hC26, hO27⟩
set_option maxRecDepth 20000 in
set_option maxHeartbeats 4000000 in
theorem V93L {xs : Option (List Int32)} {d : Nat} {n : Nat} {X : Nat → Nat} {w0 : List sx_C} : ∀ (fz i it p : Nat) (b : List Int32) (w : List sx_C), i + fz = 121 → WI w → CT n X w → TK' n X p w → p ≤ n → rel w 29 b → OffT w0 w → sx_RP xs (d + 6) 93 13 [(0, .ref 96), (1, .ref 29), (2, .int (nI it)), (3, .int (nI i))] [] w (fun r2 w2 => (r2 = some (.int (teW n X fz it p b).1) ∧ (0 ≤ (teW n X fz it p b).1 → rel w2 29 (teW n X fz it p b).2)) ∧ WI w2 ∧ CT n X w2 ∧ OffT w0 w2)
  | 0, i, it, p, b, w, hi, hI, hC, hT, hp, hB, hO => by
    obtain rfl : i = 121 := by omega
    have hn := hC.2.1
    refine sx_RP.step (pc2 := 14) (ls2 := [(0, .ref 96), (1, .ref 29), (2, .int (nI it)), (3, .int 121)]) (st2 := [.int 121]) (w3 := w) rfl rfl ?_
    refine sx_RP.step (pc2 := 16) (ls2 := [(0, .ref 96), (1, .ref 29), (2, .int (nI it)), (3, .int 121)]) (st2 := [.int 120, .int 121]) (w3 := w) rfl rfl ?_
    refine sx_RP.step (pc2 := 63) (ls2 := [(0, .ref 96), (1, .ref 29), (2, .int (nI it)), (3, .int 121)]) (st2 := []) (w3 := w) rfl rfl ?_
    refine sx_RP.step (pc2 := 64) (ls2 := [(0, .ref 96), (1, .ref 29), (2, .int (nI it)), (3, .int 121)]) (st2 := [.int (-1)]) (w3 := w) rfl rfl ?_
    refine sx_RP.step (pc2 := 65) (ls2 := [(0, .ref 96), (1, .ref 29), (2, .int (nI it)), (3, .int 121)]) (st2 := [.ref 96, .int (-1)]) (w3 := w) rfl rfl ?_
    refine sx_RP.gt (k := 3) hI rfl rfl (by decide) (show _ = 68 from rfl) ?_
    rw [hT.1]
    refine sx_RP.step (pc2 := 69) (ls2 := [(0, .ref 96), (1, .ref 29), (2, .int (nI it)), (3, .int 121)]) (st2 := [.int ((-1) - (nI p))]) (w3 := w) rfl rfl ?_
    refine sx_RP.ret (r := (some (.int ((-1) - (nI p))))) rfl rfl ?_
    exact ⟨⟨rfl, fun z => absurd z (neg_p (by omega))⟩, hI, hC, hO⟩
  | fz + 1, i, it, p, b, w, hi, hI, hC, hT, hp, hB, hO => by
    have hn := hC.2.1
    refine sx_RP.step (pc2 := 14) (ls2 := [(0, .ref 96), (1, .ref 29), (2, .int (nI it)), (3, .int (nI i))]) (st2 := [.int (nI i)]) (w3 := w) rfl rfl ?_
    refine sx_RP.step (pc2 := 16) (ls2 := [(0, .ref 96), (1, .ref 29), (2, .int (nI it)), (3, .int (nI i))]) (st2 := [.int 120, .int (nI i)]) (w3 := w) rfl rfl ?_
    refine sx_RP.br (p2 := 19) (l2 := [(0, .ref 96), (1, .ref 29), (2, .int (nI it)), (3, .int (nI i))]) (s2 := []) (v2 := w) rfl rfl (fun q => absurd (of_decide_eq_true q) (fun z => absurd ((nI_ltI (a := 120) (b := i) (by omega) (by omega)).mp z) (by omega))) (fun _ => ?_)
    refine sx_RP.step (pc2 := 20) (ls2 := [(0, .ref 96), (1, .ref 29), (2, .int (nI it)), (3, .int (nI i))]) (st2 := [.ref 96]) (w3 := w) rfl rfl ?_
    refine sx_RP.step (pc2 := 21) (ls2 := [(0, .ref 96), (1, .ref 29), (2, .int (nI it)), (3, .int (nI i))]) (st2 := [.ref 29, .ref 96]) (w3 := w) rfl rfl ?_
    refine sx_RP.callp (as2 := [.ref 96, .ref 29]) (rest2 := []) rfl rfl (sx_inv_v2 (mi := 93) (k := 32) (st := [.ref 29, .ref 96]) (w := w) rfl rfl hI.1.o96 rfl rfl rfl) rfl rfl rfl (V98 hI hC hT hp hB) (show _ = 24 from rfl) ?_
    rintro r4 w5 ⟨⟨rfl, hr1⟩, hI6, hC2, hO3⟩
    show sx_RP _ _ _ _ _ [.int (b01 (itW n X p b).1)] _ _
    have hO4 := hO.tr hO3
    have hp7 : (itW n X p b).2.1 ≤ n := itW_le hp
    have hs48 := soT_le (p := (itW n X p b).2.1) hC2
    refine sx_RP.br (p1 := 30) (l1 := [(0, .ref 96), (1, .ref 29), (2, .int (nI it)), (3, .int (nI i))]) (s1 := []) (v1 := w5) (p2 := 27) (l2 := [(0, .ref 96), (1, .ref 29), (2, .int (nI it)), (3, .int (nI i))]) (s2 := []) (v2 := w5) rfl rfl (fun q9 => ?_) (fun q9 => ?_)
    · replace q9 := of_decide_eq_true q9
      refine sx_RP.step (pc2 := 33) (ls2 := [(2, .int ((nI it) + 1)), (0, .ref 96), (1, .ref 29), (3, .int (nI i))]) (st2 := []) (w3 := w5) rfl rfl ?_
      rw [nI_1 it]
      refine sx_RP.step (pc2 := 34) (ls2 := [(2, .int (nI (it + 1))), (0, .ref 96), (1, .ref 29), (3, .int (nI i))]) (st2 := [.ref 96]) (w3 := w5) rfl rfl ?_
      refine sx_RP.gt (k := 2) hI6 rfl rfl (by decide) (show _ = 37 from rfl) ?_
      rw [hr1.1.2.1]
      refine sx_RP.br (p1 := 42) (l1 := [(2, .int (nI (it + 1))), (0, .ref 96), (1, .ref 29), (3, .int (nI i))]) (s1 := []) (v1 := w5) (p2 := 40) (l2 := [(2, .int (nI (it + 1))), (0, .ref 96), (1, .ref 29), (3, .int (nI i))]) (s2 := []) (v2 := w5) rfl rfl (fun q10 => ?_) (fun q10 => ?_)
      · replace q10 := of_decide_eq_true q10
        replace q10 := mt (nI_eq (a := (soT n X (itW n X p b).2.1)) (b := 0) (by omega) (by omega)).mpr q10
        refine sx_RP.step (pc2 := 43) (ls2 := [(2, .int (nI (it + 1))), (0, .ref 96), (1, .ref 29), (3, .int (nI i))]) (st2 := [.ref 96]) (w3 := w5) rfl rfl ?_
        refine sx_RP.gt (k := 2) hI6 rfl rfl (by decide) (show _ = 46 from rfl) ?_
        rw [hr1.1.2.1]
        refine sx_RP.step (pc2 := 47) (ls2 := [(2, .int (nI (it + 1))), (0, .ref 96), (1, .ref 29), (3, .int (nI i))]) (st2 := [.int 3, .int (nI (soT n X (itW n X p b).2.1))]) (w3 := w5) rfl rfl ?_
        refine sx_RP.br (p1 := 53) (l1 := [(2, .int (nI (it + 1))), (0, .ref 96), (1, .ref 29), (3, .int (nI i))]) (s1 := []) (v1 := w5) (p2 := 50) (l2 := [(2, .int (nI (it + 1))), (0, .ref 96), (1, .ref 29), (3, .int (nI i))]) (s2 := []) (v2 := w5) rfl rfl (fun q11 => ?_) (fun q11 => ?_)
        · replace q11 := of_decide_eq_true q11
          replace q11 := (nI_eq (a := (soT n X (itW n X p b).2.1)) (b := 3) (by omega) (by omega)).mp q11
          refine sx_RP.step (pc2 := 54) (ls2 := [(2, .int (nI (it + 1))), (0, .ref 96), (1, .ref 29), (3, .int (nI i))]) (st2 := [.ref 96]) (w3 := w5) rfl rfl ?_
          have hB12 := hr1.2 (b01_t q9)
          refine sx_RP.callp (as2 := [.ref 96]) (rest2 := []) rfl rfl (sx_inv_v2 (mi := 93) (k := 29) (st := [.ref 96]) (w := w5) rfl rfl hI6.1.o96 rfl rfl rfl) rfl rfl rfl (X94 hI6 hC2 hr1.1.2.2.1 (beT_le hp7)) (show _ = 57 from rfl) ?_
          rintro r4 w16 ⟨⟨rfl, hT13, h114⟩, hI17, hs15⟩
          show sx_RP _ _ _ _ _ [] _ _
          have hT22 : TK' n X (nP n X ((itW n X p b).2.1)) w16 := hT13
          have hC18 := hC2.same h114 (ia_of (hs15 97 (by decide)))
          have hp19 : nP n X ((itW n X p b).2.1) ≤ n := nP_le hp7
          have hB20 := hB12.same hI6 isA29 (fun a h1 h2 => hs15 a (by omega))
          have hO21 := hO4.tr hs15.offT
          refine sx_RP.step (pc2 := 60) (ls2 := [(3, .int ((nI i) + 1)), (2, .int (nI (it + 1))), (0, .ref 96), (1, .ref 29)]) (st2 := []) (w3 := w16) rfl rfl ?_
          rw [nI_1 i]
          refine sx_RP.step (pc2 := 13) (ls2 := [(3, .int (nI (i + 1))), (2, .int (nI (it + 1))), (0, .ref 96), (1, .ref 29)]) (st2 := []) (w3 := w16) rfl rfl ?_
          rw [show teW n X (fz + 1) it p b = teW n X fz (it + 1) (nP n X (itW n X p b).2.1) (itW n X p b).2.2 by conv => lhs; unfold teW; rw [if_pos (b01_t q9), if_neg (by omega), if_pos (by omega)]]
          exact sx_RP.ls (sx_lr.cons rfl (sx_lr.cons rfl (sx_lr.cons rfl (sx_lr.cons rfl sx_lr.nil)))) (V93L fz (i + 1) (it + 1) (nP n X (itW n X p b).2.1) (itW n X p b).2.2 w16 (by omega) hI17 hC18 hT22 hp19 hB20 hO21)
        · replace q11 := of_decide_eq_false q11
          replace q11 := mt (nI_eq (a := (soT n X (itW n X p b).2.1)) (b := 3) (by omega) (by omega)).mpr q11
          refine sx_RP.step (pc2 := 63) (ls2 := [(2, .int (nI (it + 1))), (0, .ref 96), (1, .ref 29), (3, .int (nI i))]) (st2 := []) (w3 := w5) rfl rfl ?_
          refine sx_RP.step (pc2 := 64) (ls2 := [(2, .int (nI (it + 1))), (0, .ref 96), (1, .ref 29), (3, .int (nI i))]) (st2 := [.int (-1)]) (w3 := w5) rfl rfl ?_
          refine sx_RP.step (pc2 := 65) (ls2 := [(2, .int (nI (it + 1))), (0, .ref 96), (1, .ref 29), (3, .int (nI i))]) (st2 := [.ref 96, .int (-1)]) (w3 := w5) rfl rfl ?_
          refine sx_RP.gt (k := 3) hI6 rfl rfl (by decide) (show _ = 68 from rfl) ?_
          rw [hr1.1.1]
          refine sx_RP.step (pc2 := 69) (ls2 := [(2, .int (nI (it + 1))), (0, .ref 96), (1, .ref 29), (3, .int (nI i))]) (st2 := [.int ((-1) - (nI ((itW n X p b).2.1)))]) (w3 := w5) rfl rfl ?_
          refine sx_RP.ret (r := (some (.int ((-1) - (nI ((itW n X p b).2.1)))))) rfl rfl ?_
          rw [show teW n X (fz + 1) it p b = (-1 - nI (itW n X p b).2.1, b) by unfold teW; rw [if_pos (b01_t q9), if_neg (by omega), if_neg (by omega)]]
          exact ⟨⟨rfl, fun z => absurd z (neg_p (by omega))⟩, hI6, hC2, hO4⟩
      · replace q10 := Decidable.not_not.mp (of_decide_eq_false q10)
        replace q10 := (nI_eq (a := (soT n X (itW n X p b).2.1)) (b := 0) (by omega) (by omega)).mp q10
        refine sx_RP.step (pc2 := 41) (ls2 := [(2, .int (nI (it + 1))), (0, .ref 96), (1, .ref 29), (3, .int (nI i))]) (st2 := [.int (nI (it + 1))]) (w3 := w5) rfl rfl ?_
        refine sx_RP.ret (r := (some (.int (nI (it + 1))))) rfl rfl ?_
        rw [show teW n X (fz + 1) it p b = (nI (it + 1), (itW n X p b).2.2) by unfold teW; rw [if_pos (b01_t q9), if_pos (by omega)]]
        exact ⟨⟨rfl, fun _ => hr1.2 (b01_t q9)⟩, hI6, hC2, hO4⟩
    · replace q9 := Decidable.not_not.mp (of_decide_eq_false q9)
      refine sx_RP.step (pc2 := 63) (ls2 := [(0, .ref 96), (1, .ref 29), (2, .int (nI it)), (3, .int (nI i))]) (st2 := []) (w3 := w5) rfl rfl ?_
      refine sx_RP.step (pc2 := 64) (ls2 := [(0, .ref 96), (1, .ref 29), (2, .int (nI it)), (3, .int (nI i))]) (st2 := [.int (-1)]) (w3 := w5) rfl rfl ?_
      refine sx_RP.step (pc2 := 65) (ls2 := [(0, .ref 96), (1, .ref 29), (2, .int (nI it)), (3, .int (nI i))]) (st2 := [.ref 96, .int (-1)]) (w3 := w5) rfl rfl ?_
      refine sx_RP.gt (k := 3) hI6 rfl rfl (by decide) (show _ = 68 from rfl) ?_
      rw [hr1.1.1]
      refine sx_RP.step (pc2 := 69) (ls2 := [(0, .ref 96), (1, .ref 29), (2, .int (nI it)), (3, .int (nI i))]) (st2 := [.int ((-1) - (nI ((itW n X p b).2.1)))]) (w3 := w5) rfl rfl ?_
      refine sx_RP.ret (r := (some (.int ((-1) - (nI ((itW n X p b).2.1)))))) rfl rfl ?_
      rw [show teW n X (fz + 1) it p b = (-1 - nI (itW n X p b).2.1, b) by unfold teW; rw [if_neg (by rw [b01_f q9]; decide)]]
      exact ⟨⟨rfl, fun z => absurd z (neg_p (by omega))⟩, hI6, hC2, hO4⟩
set_option maxRecDepth 20000 in
set_option maxHeartbeats 4000000 in
theorem V93 {xs : Option (List Int32)} {d n : Nat} {X : Nat → Nat} {b : List Int32} {w : List sx_C} (hI : WI w) (hC : CT n X w) (hB : rel w 29 b) : sx_RP xs (d + 6) 93 0 (lv_args 0 [.ref 96, .ref 29]) [] w (fun r2 w2 => (r2 = some (.int (teW n X 121 0 (rE blk n X 0) b).1) ∧ (0 ≤ (teW n X 121 0 (rE blk n X 0) b).1 → rel w2 29 (teW n X 121 0 (rE blk n X 0) b).2)) ∧ WI w2 ∧ CT n X w2 ∧ OffT w w2) := by
  refine sx_RP.step (pc2 := 1) (ls2 := [(0, .ref 96), (1, .ref 29)]) (st2 := [.ref 96]) (w3 := w) rfl rfl ?_
  refine sx_RP.step (pc2 := 2) (ls2 := [(0, .ref 96), (1, .ref 29)]) (st2 := [.int 0, .ref 96]) (w3 := w) rfl rfl ?_
  refine sx_RP.xP (k := 4) hI rfl rfl (by decide) rfl ⟨0, by decide, rfl⟩ (show _ = 5 from rfl) (fun w1 hI2 hs3 hv4 hr5 => ?_)
  have hC6 := hC.same (hr5 1 (by decide)) (ia_of (hs3 97 (by decide)))
  have hB7 := hB.same hI isA29 (fun a h1 h2 => hs3 a (by omega))
  refine sx_RP.step (pc2 := 6) (ls2 := [(0, .ref 96), (1, .ref 29)]) (st2 := [.ref 96]) (w3 := w1) rfl rfl ?_
  refine sx_RP.callp (as2 := [.ref 96]) (rest2 := []) rfl rfl (sx_inv_v2 (mi := 93) (k := 29) (st := [.ref 96]) (w := w1) rfl rfl hI2.1.o96 rfl rfl rfl) rfl rfl rfl (X94 (b := 0) hI2 hC6 hv4 (Nat.zero_le _)) (show _ = 9 from rfl) ?_
  rintro r4 w11 ⟨⟨rfl, hT8, h19⟩, hI12, hs10⟩
  show sx_RP _ _ _ _ _ [] _ _
  have hC13 := hC6.same h19 (ia_of (hs10 97 (by decide)))
  have hB14 := hB7.same hI2 isA29 (fun a h1 h2 => hs10 a (by omega))
  have hO15 := OffT.tr (hs3.offT) hs10.offT
  refine sx_RP.step (pc2 := 10) (ls2 := [(0, .ref 96), (1, .ref 29)]) (st2 := [.int 0]) (w3 := w11) rfl rfl ?_
  refine sx_RP.step (pc2 := 11) (ls2 := [(2, .int 0), (0, .ref 96), (1, .ref 29)]) (st2 := []) (w3 := w11) rfl rfl ?_
  refine sx_RP.step (pc2 := 12) (ls2 := [(2, .int 0), (0, .ref 96), (1, .ref 29)]) (st2 := [.int 0]) (w3 := w11) rfl rfl ?_
  refine sx_RP.step (pc2 := 13) (ls2 := [(3, .int 0), (2, .int 0), (0, .ref 96), (1, .ref 29)]) (st2 := []) (w3 := w11) rfl rfl ?_
  exact sx_RP.ls (sx_lr.cons rfl (sx_lr.cons rfl (sx_lr.cons rfl (sx_lr.cons rfl sx_lr.nil)))) (V93L 121 0 0 (rE blk n X 0) b w11 (by omega) hI12 hC13 hT8 (rE_le (Nat.zero_le _)) hB14 hO15)
