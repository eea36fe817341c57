-- lasts and ration
set_option maxRecDepth 20000 in
set_option maxHeartbeats 4000000 in
theorem x85 {xs : Option (List Int32)} {d : Nat} {w : List sx_C} (hI : WI w) (x y : Int32) : sx_RU xs d 85 0 (lv_args 0 [.int x, .int y]) [] w (some (.int (if x < y then y else x))) w := by
  have h : sx_RP xs d 85 0 (lv_args 0 [.int x, .int y]) [] w (fun r9 w2 => r9 = some (.int (if x < y then y else x)) ∧ w2 = w) := by
    refine sx_RP.step (pc2 := 1) (ls2 := [(0, .int x), (1, .int y)]) (st2 := [.int x]) (w3 := w) rfl rfl ?_
    refine sx_RP.step (pc2 := 2) (ls2 := [(0, .int x), (1, .int y)]) (st2 := [.int y, .int x]) (w3 := w) rfl rfl ?_
    refine sx_RP.br (p1 := 9) (l1 := [(0, .int x), (1, .int y)]) (s1 := []) (v1 := w) (p2 := 5) (l2 := [(0, .int x), (1, .int y)]) (s2 := []) (v2 := w) rfl rfl (fun q1 => ?_) (fun q1 => ?_)
    · replace q1 := of_decide_eq_true q1
      refine sx_RP.step (pc2 := 10) (ls2 := [(0, .int x), (1, .int y)]) (st2 := [.int y]) (w3 := w) rfl rfl ?_
      refine sx_RP.ret (r := (some (.int y))) rfl rfl ?_
      exact ⟨by rw [if_pos q1], rfl⟩
    · replace q1 := of_decide_eq_false q1
      refine sx_RP.step (pc2 := 6) (ls2 := [(0, .int x), (1, .int y)]) (st2 := [.int x]) (w3 := w) rfl rfl ?_
      refine sx_RP.step (pc2 := 10) (ls2 := [(0, .int x), (1, .int y)]) (st2 := [.int x]) (w3 := w) rfl rfl ?_
      refine sx_RP.ret (r := (some (.int x))) rfl rfl ?_
      exact ⟨by rw [if_neg q1], rfl⟩
  obtain ⟨r9, w2, h1, rfl, rfl⟩ := h
  exact h1
set_option maxRecDepth 20000 in
set_option maxHeartbeats 4000000 in
theorem x84L {xs : Option (List Int32)} {d m r : Nat} {w : List sx_C} (hI : WI w) {A : Nat} (hA : isA A) (hm : fi w A 9 = nI m) (hm1 : m ≤ 999) (hr : r ≤ 127) : ∀ (fz j l : Nat), j + fz = 999 → l ≤ 999999 → sx_RP xs (d + 1) 84 7 [(0, .ref A), (1, .int (nI r)), (2, .int (nI l)), (3, .int (nI j))] [] w (fun r2 w2 => r2 = some (.int (nI (dayN m r fz j l))) ∧ w2 = w)
  | 0, j, l, hj, hl => by
    obtain rfl : j = 999 := by omega
    refine sx_RP.step (pc2 := 8) (ls2 := [(0, .ref A), (1, .int (nI r)), (2, .int (nI l)), (3, .int 999)]) (st2 := [.int 999]) (w3 := w) rfl rfl ?_
    refine sx_RP.step (pc2 := 11) (ls2 := [(0, .ref A), (1, .int (nI r)), (2, .int (nI l)), (3, .int 999)]) (st2 := [.int 999, .int 999]) (w3 := w) rfl rfl ?_
    refine sx_RP.step (pc2 := 49) (ls2 := [(0, .ref A), (1, .int (nI r)), (2, .int (nI l)), (3, .int 999)]) (st2 := []) (w3 := w) rfl rfl ?_
    refine sx_RP.step (pc2 := 52) (ls2 := [(0, .ref A), (1, .int (nI r)), (2, .int (nI l)), (3, .int 999)]) (st2 := [.int 999]) (w3 := w) rfl rfl ?_
    refine sx_RP.ret (r := (some (.int 999))) rfl rfl ?_
    exact ⟨rfl, rfl⟩
  | fz + 1, j, l, hj, hl => by
    have hb : m * max 1 (r - j / 5) ≤ 999 * 127 := Nat.mul_le_mul hm1 (by omega)
    refine sx_RP.step (pc2 := 8) (ls2 := [(0, .ref A), (1, .int (nI r)), (2, .int (nI l)), (3, .int (nI j))]) (st2 := [.int (nI j)]) (w3 := w) rfl rfl ?_
    refine sx_RP.step (pc2 := 11) (ls2 := [(0, .ref A), (1, .int (nI r)), (2, .int (nI l)), (3, .int (nI j))]) (st2 := [.int 999, .int (nI j)]) (w3 := w) rfl rfl ?_
    refine sx_RP.br (p2 := 14) (l2 := [(0, .ref A), (1, .int (nI r)), (2, .int (nI l)), (3, .int (nI j))]) (s2 := []) (v2 := w) rfl rfl (fun q => absurd (of_decide_eq_true q) (fun z => absurd ((nI_leI (a := 999) (b := j) (by omega) (by omega)).mp z) (by omega))) (fun _ => ?_)
    refine sx_RP.step (pc2 := 15) (ls2 := [(0, .ref A), (1, .int (nI r)), (2, .int (nI l)), (3, .int (nI j))]) (st2 := [.ref A]) (w3 := w) rfl rfl ?_
    refine sx_RP.gc (k := 9) hI hA rfl rfl (by omega) (show _ = 18 from rfl) ?_
    rw [hm]
    refine sx_RP.step (pc2 := 19) (ls2 := [(0, .ref A), (1, .int (nI r)), (2, .int (nI l)), (3, .int (nI j))]) (st2 := [.int 1, .int (nI m)]) (w3 := w) rfl rfl ?_
    refine sx_RP.step (pc2 := 20) (ls2 := [(0, .ref A), (1, .int (nI r)), (2, .int (nI l)), (3, .int (nI j))]) (st2 := [.int (nI r), .int 1, .int (nI m)]) (w3 := w) rfl rfl ?_
    refine sx_RP.step (pc2 := 21) (ls2 := [(0, .ref A), (1, .int (nI r)), (2, .int (nI l)), (3, .int (nI j))]) (st2 := [.int (nI j), .int (nI r), .int 1, .int (nI m)]) (w3 := w) rfl rfl ?_
    refine sx_RP.step (pc2 := 22) (ls2 := [(0, .ref A), (1, .int (nI r)), (2, .int (nI l)), (3, .int (nI j))]) (st2 := [.int 5, .int (nI j), .int (nI r), .int 1, .int (nI m)]) (w3 := w) rfl rfl ?_
    refine sx_RP.step (pc2 := 23) (ls2 := [(0, .ref A), (1, .int (nI r)), (2, .int (nI l)), (3, .int (nI j))]) (st2 := [.int ((nI j) / 5), .int (nI r), .int 1, .int (nI m)]) (w3 := w) rfl rfl ?_
    rw [nI_div5 (show j < 1000 by omega)]
    refine sx_RP.step (pc2 := 24) (ls2 := [(0, .ref A), (1, .int (nI r)), (2, .int (nI l)), (3, .int (nI j))]) (st2 := [.int ((nI r) - (nI (j / 5))), .int 1, .int (nI m)]) (w3 := w) rfl rfl ?_
    refine sx_RP.cu (as := [.int 1, .int ((nI r) - (nI (j / 5)))]) (rest2 := [.int (nI m)]) (st3 := [.int (nI (max 1 (r - j / 5))), .int (nI m)]) rfl rfl rfl rfl rfl ((by have c := x85 (xs := xs) (d := d) hI 1 (nI r - nI (j / 5)); rw [max_1 (by omega) (by omega)] at c; exact c)) rfl ?_
    refine sx_RP.step (pc2 := 28) (ls2 := [(0, .ref A), (1, .int (nI r)), (2, .int (nI l)), (3, .int (nI j))]) (st2 := [.int ((nI m) * (nI (max 1 (r - j / 5))))]) (w3 := w) rfl rfl ?_
    rw [show ((nI m) * (nI (max 1 (r - j / 5))) : Int32) = nI (m * (max 1 (r - j / 5))) from nI_mul m (max 1 (r - j / 5))]
    refine sx_RP.step (pc2 := 30) (ls2 := [(4, .int (nI (m * (max 1 (r - j / 5))))), (0, .ref A), (1, .int (nI r)), (2, .int (nI l)), (3, .int (nI j))]) (st2 := []) (w3 := w) rfl rfl ?_
    refine sx_RP.step (pc2 := 32) (ls2 := [(4, .int (nI (m * (max 1 (r - j / 5))))), (0, .ref A), (1, .int (nI r)), (2, .int (nI l)), (3, .int (nI j))]) (st2 := [.int (nI (m * (max 1 (r - j / 5))))]) (w3 := w) rfl rfl ?_
    refine sx_RP.step (pc2 := 33) (ls2 := [(4, .int (nI (m * (max 1 (r - j / 5))))), (0, .ref A), (1, .int (nI r)), (2, .int (nI l)), (3, .int (nI j))]) (st2 := [.int (nI l), .int (nI (m * (max 1 (r - j / 5))))]) (w3 := w) rfl rfl ?_
    refine sx_RP.br (p1 := 38) (l1 := [(4, .int (nI (m * (max 1 (r - j / 5))))), (0, .ref A), (1, .int (nI r)), (2, .int (nI l)), (3, .int (nI j))]) (s1 := []) (v1 := w) (p2 := 36) (l2 := [(4, .int (nI (m * (max 1 (r - j / 5))))), (0, .ref A), (1, .int (nI r)), (2, .int (nI l)), (3, .int (nI j))]) (s2 := []) (v2 := w) rfl rfl (fun q1 => ?_) (fun q1 => ?_)
    · replace q1 := of_decide_eq_true q1
      replace q1 := (nI_leI (a := (m * (max 1 (r - j / 5)))) (b := l) (by omega) (by omega)).mp q1
      refine sx_RP.step (pc2 := 39) (ls2 := [(4, .int (nI (m * (max 1 (r - j / 5))))), (0, .ref A), (1, .int (nI r)), (2, .int (nI l)), (3, .int (nI j))]) (st2 := [.int (nI l)]) (w3 := w) rfl rfl ?_
      refine sx_RP.step (pc2 := 41) (ls2 := [(4, .int (nI (m * (max 1 (r - j / 5))))), (0, .ref A), (1, .int (nI r)), (2, .int (nI l)), (3, .int (nI j))]) (st2 := [.int (nI (m * (max 1 (r - j / 5)))), .int (nI l)]) (w3 := w) rfl rfl ?_
      refine sx_RP.step (pc2 := 42) (ls2 := [(4, .int (nI (m * (max 1 (r - j / 5))))), (0, .ref A), (1, .int (nI r)), (2, .int (nI l)), (3, .int (nI j))]) (st2 := [.int ((nI l) - (nI (m * (max 1 (r - j / 5)))))]) (w3 := w) rfl rfl ?_
      refine sx_RP.step (pc2 := 43) (ls2 := [(2, .int ((nI l) - (nI (m * (max 1 (r - j / 5)))))), (4, .int (nI (m * (max 1 (r - j / 5))))), (0, .ref A), (1, .int (nI r)), (3, .int (nI j))]) (st2 := []) (w3 := w) rfl rfl ?_
      refine sx_RP.step (pc2 := 46) (ls2 := [(3, .int ((nI j) + 1)), (2, .int ((nI l) - (nI (m * (max 1 (r - j / 5)))))), (4, .int (nI (m * (max 1 (r - j / 5))))), (0, .ref A), (1, .int (nI r))]) (st2 := []) (w3 := w) rfl rfl ?_
      rw [nI_1 j]
      refine sx_RP.step (pc2 := 7) (ls2 := [(3, .int (nI (j + 1))), (2, .int ((nI l) - (nI (m * (max 1 (r - j / 5)))))), (4, .int (nI (m * (max 1 (r - j / 5))))), (0, .ref A), (1, .int (nI r))]) (st2 := []) (w3 := w) rfl rfl ?_
      unfold dayN
      rw [if_neg (show ¬ l < eatN m r j by unfold eatN; omega)]
      rw [show (nI l - nI (m * max 1 (r - j / 5)) : Int32) = nI (l - eatN m r j) from nI_sub (a := l) (b := m * max 1 (r - j / 5)) (by omega)]
      exact sx_RP.ls (sx_lr.cons rfl (sx_lr.cons rfl (sx_lr.cons rfl (sx_lr.cons rfl sx_lr.nil)))) (x84L hI hA hm hm1 hr fz (j + 1) (l - eatN m r j) (by omega) (by omega))
    · replace q1 := of_decide_eq_false q1
      replace q1 := mt (nI_leI (a := (m * (max 1 (r - j / 5)))) (b := l) (by omega) (by omega)).mpr q1
      refine sx_RP.step (pc2 := 37) (ls2 := [(4, .int (nI (m * (max 1 (r - j / 5))))), (0, .ref A), (1, .int (nI r)), (2, .int (nI l)), (3, .int (nI j))]) (st2 := [.int (nI j)]) (w3 := w) rfl rfl ?_
      refine sx_RP.ret (r := (some (.int (nI j)))) rfl rfl ?_
      exact ⟨by unfold dayN; rw [if_pos (show l < eatN m r j by unfold eatN; omega)], rfl⟩
set_option maxRecDepth 20000 in
set_option maxHeartbeats 4000000 in
theorem x84 {xs : Option (List Int32)} {d : Nat} {w : List sx_C} (hI : WI w) {A : Nat} (hA : isA A) {o m r : Nat} (ho : fi w A 8 = nI o) (ho1 : o ≤ 999999) (hm : fi w A 9 = nI m) (hm1 : m ≤ 999) (hr : r ≤ 127) : sx_RU xs (d + 1) 84 0 (lv_args 0 [.ref A, .int (nI r)]) [] w (some (.int (nI (daysN o m r)))) w := by
  have h : sx_RP xs (d + 1) 84 0 (lv_args 0 [.ref A, .int (nI r)]) [] w (fun r9 w2 => r9 = some (.int (nI (daysN o m r))) ∧ w2 = w) := by
    refine sx_RP.step (pc2 := 1) (ls2 := [(0, .ref A), (1, .int (nI r))]) (st2 := [.ref A]) (w3 := w) rfl rfl ?_
    refine sx_RP.gc (k := 8) hI hA rfl rfl (by omega) (show _ = 4 from rfl) ?_
    rw [ho]
    refine sx_RP.step (pc2 := 5) (ls2 := [(2, .int (nI o)), (0, .ref A), (1, .int (nI r))]) (st2 := []) (w3 := w) rfl rfl ?_
    refine sx_RP.step (pc2 := 6) (ls2 := [(2, .int (nI o)), (0, .ref A), (1, .int (nI r))]) (st2 := [.int 0]) (w3 := w) rfl rfl ?_
    refine sx_RP.step (pc2 := 7) (ls2 := [(3, .int 0), (2, .int (nI o)), (0, .ref A), (1, .int (nI r))]) (st2 := []) (w3 := w) rfl rfl ?_
    exact sx_RP.ls (sx_lr.cons rfl (sx_lr.cons rfl (sx_lr.cons rfl (sx_lr.cons rfl sx_lr.nil)))) (x84L hI hA hm hm1 hr 999 0 o (by omega) ho1)
  obtain ⟨r9, w2, h1, rfl, rfl⟩ := h
  exact h1
set_option maxRecDepth 20000 in
set_option maxHeartbeats 4000000 in
theorem x206L {xs : Option (List Int32)} {d m r : Nat} {w : List sx_C} (hI : WI w) (hm : (ia w 112).getD 5 0 = nI m) (hm1 : m ≤ 999) (hr1 : 1 ≤ r) (hr : r ≤ 99) : ∀ (fz j l e : Nat), j + fz = 999 → l ≤ 999999 → e = max 1 (r - j / 5) → sx_RP xs d 206 12 [(0, .ref 111), (1, .int (nI r)), (2, .int (nI l)), (3, .int (nI e)), (4, .int (nI j))] [] w (fun r2 w2 => r2 = some (.int (nI (dayN m r fz j l))) ∧ w2 = w)
  | 0, j, l, e, hj, hl, he => by
    obtain rfl : j = 999 := by omega
    refine sx_RP.step (pc2 := 14) (ls2 := [(0, .ref 111), (1, .int (nI r)), (2, .int (nI l)), (3, .int (nI e)), (4, .int 999)]) (st2 := [.int 999]) (w3 := w) rfl rfl ?_
    refine sx_RP.step (pc2 := 17) (ls2 := [(0, .ref 111), (1, .int (nI r)), (2, .int (nI l)), (3, .int (nI e)), (4, .int 999)]) (st2 := [.int 999, .int 999]) (w3 := w) rfl rfl ?_
    refine sx_RP.step (pc2 := 69) (ls2 := [(0, .ref 111), (1, .int (nI r)), (2, .int (nI l)), (3, .int (nI e)), (4, .int 999)]) (st2 := []) (w3 := w) rfl rfl ?_
    refine sx_RP.step (pc2 := 71) (ls2 := [(0, .ref 111), (1, .int (nI r)), (2, .int (nI l)), (3, .int (nI e)), (4, .int 999)]) (st2 := [.int 999]) (w3 := w) rfl rfl ?_
    refine sx_RP.ret (r := (some (.int 999))) rfl rfl ?_
    exact ⟨rfl, rfl⟩
  | fz + 1, j, l, e, hj, hl, he => by
    have he1 : e ≤ 99 ∧ 1 ≤ e := by omega
    have hb : m * e ≤ 999 * 99 := Nat.mul_le_mul hm1 he1.1
    refine sx_RP.step (pc2 := 14) (ls2 := [(0, .ref 111), (1, .int (nI r)), (2, .int (nI l)), (3, .int (nI e)), (4, .int (nI j))]) (st2 := [.int (nI j)]) (w3 := w) rfl rfl ?_
    refine sx_RP.step (pc2 := 17) (ls2 := [(0, .ref 111), (1, .int (nI r)), (2, .int (nI l)), (3, .int (nI e)), (4, .int (nI j))]) (st2 := [.int 999, .int (nI j)]) (w3 := w) rfl rfl ?_
    refine sx_RP.br (p2 := 20) (l2 := [(0, .ref 111), (1, .int (nI r)), (2, .int (nI l)), (3, .int (nI e)), (4, .int (nI j))]) (s2 := []) (v2 := w) rfl rfl (fun q => absurd (of_decide_eq_true q) (fun z => absurd ((nI_leI (a := 999) (b := j) (by omega) (by omega)).mp z) (by omega))) (fun _ => ?_)
    refine sx_RP.step (pc2 := 21) (ls2 := [(0, .ref 111), (1, .int (nI r)), (2, .int (nI l)), (3, .int (nI e)), (4, .int (nI j))]) (st2 := [.int (nI l)]) (w3 := w) rfl rfl ?_
    refine sx_RP.step (pc2 := 22) (ls2 := [(0, .ref 111), (1, .int (nI r)), (2, .int (nI l)), (3, .int (nI e)), (4, .int (nI j))]) (st2 := [.ref 111, .int (nI l)]) (w3 := w) rfl rfl ?_
    refine sx_RP.gf (v := .ref 112) rfl rfl hI.1.o111 rfl rfl (show _ = 25 from rfl) ?_
    refine sx_RP.step (pc2 := 26) (ls2 := [(0, .ref 111), (1, .int (nI r)), (2, .int (nI l)), (3, .int (nI e)), (4, .int (nI j))]) (st2 := [.int 5, .ref 112, .int (nI l)]) (w3 := w) rfl rfl ?_
    refine sx_RP.ild (c := 5) rfl hI.1.a112.1 hI.1.a112.2 (sx_in_nI (show 5 < 172 by omega) (by decide)) (show (nI 5).toNatClampNeg = 5 from nI_clamp (by omega)) (show _ = 27 from rfl) ?_
    rw [hm]
    refine sx_RP.step (pc2 := 28) (ls2 := [(0, .ref 111), (1, .int (nI r)), (2, .int (nI l)), (3, .int (nI e)), (4, .int (nI j))]) (st2 := [.int (nI e), .int (nI m), .int (nI l)]) (w3 := w) rfl rfl ?_
    refine sx_RP.step (pc2 := 29) (ls2 := [(0, .ref 111), (1, .int (nI r)), (2, .int (nI l)), (3, .int (nI e)), (4, .int (nI j))]) (st2 := [.int ((nI m) * (nI e)), .int (nI l)]) (w3 := w) rfl rfl ?_
    rw [show ((nI m) * (nI e) : Int32) = nI (m * e) from nI_mul m e]
    refine sx_RP.br (p1 := 69) (l1 := [(0, .ref 111), (1, .int (nI r)), (2, .int (nI l)), (3, .int (nI e)), (4, .int (nI j))]) (s1 := []) (v1 := w) (p2 := 32) (l2 := [(0, .ref 111), (1, .int (nI r)), (2, .int (nI l)), (3, .int (nI e)), (4, .int (nI j))]) (s2 := []) (v2 := w) rfl rfl (fun q1 => ?_) (fun q1 => ?_)
    · replace q1 := of_decide_eq_true q1
      replace q1 := (nI_ltI (a := l) (b := (m * e)) (by omega) (by omega)).mp q1
      refine sx_RP.step (pc2 := 71) (ls2 := [(0, .ref 111), (1, .int (nI r)), (2, .int (nI l)), (3, .int (nI e)), (4, .int (nI j))]) (st2 := [.int (nI j)]) (w3 := w) rfl rfl ?_
      refine sx_RP.ret (r := (some (.int (nI j)))) rfl rfl ?_
      exact ⟨by unfold dayN; rw [if_pos (show l < eatN m r j by unfold eatN; rw [← he]; omega)], rfl⟩
    · replace q1 := of_decide_eq_false q1
      replace q1 := mt (nI_ltI (a := l) (b := (m * e)) (by omega) (by omega)).mpr q1
      refine sx_RP.step (pc2 := 33) (ls2 := [(0, .ref 111), (1, .int (nI r)), (2, .int (nI l)), (3, .int (nI e)), (4, .int (nI j))]) (st2 := [.int (nI l)]) (w3 := w) rfl rfl ?_
      refine sx_RP.step (pc2 := 34) (ls2 := [(0, .ref 111), (1, .int (nI r)), (2, .int (nI l)), (3, .int (nI e)), (4, .int (nI j))]) (st2 := [.ref 111, .int (nI l)]) (w3 := w) rfl rfl ?_
      refine sx_RP.gf (v := .ref 112) rfl rfl hI.1.o111 rfl rfl (show _ = 37 from rfl) ?_
      refine sx_RP.step (pc2 := 38) (ls2 := [(0, .ref 111), (1, .int (nI r)), (2, .int (nI l)), (3, .int (nI e)), (4, .int (nI j))]) (st2 := [.int 5, .ref 112, .int (nI l)]) (w3 := w) rfl rfl ?_
      refine sx_RP.ild (c := 5) rfl hI.1.a112.1 hI.1.a112.2 (sx_in_nI (show 5 < 172 by omega) (by decide)) (show (nI 5).toNatClampNeg = 5 from nI_clamp (by omega)) (show _ = 39 from rfl) ?_
      rw [hm]
      refine sx_RP.step (pc2 := 40) (ls2 := [(0, .ref 111), (1, .int (nI r)), (2, .int (nI l)), (3, .int (nI e)), (4, .int (nI j))]) (st2 := [.int (nI e), .int (nI m), .int (nI l)]) (w3 := w) rfl rfl ?_
      refine sx_RP.step (pc2 := 41) (ls2 := [(0, .ref 111), (1, .int (nI r)), (2, .int (nI l)), (3, .int (nI e)), (4, .int (nI j))]) (st2 := [.int ((nI m) * (nI e)), .int (nI l)]) (w3 := w) rfl rfl ?_
      rw [show ((nI m) * (nI e) : Int32) = nI (m * e) from nI_mul m e]
      refine sx_RP.step (pc2 := 42) (ls2 := [(0, .ref 111), (1, .int (nI r)), (2, .int (nI l)), (3, .int (nI e)), (4, .int (nI j))]) (st2 := [.int ((nI l) - (nI (m * e)))]) (w3 := w) rfl rfl ?_
      rw [show ((nI l) - (nI (m * e)) : Int32) = nI (l - (m * e)) from nI_sub (a := l) (b := (m * e)) (by omega)]
      refine sx_RP.step (pc2 := 43) (ls2 := [(2, .int (nI (l - (m * e)))), (0, .ref 111), (1, .int (nI r)), (3, .int (nI e)), (4, .int (nI j))]) (st2 := []) (w3 := w) rfl rfl ?_
      refine sx_RP.step (pc2 := 46) (ls2 := [(4, .int ((nI j) + 1)), (2, .int (nI (l - (m * e)))), (0, .ref 111), (1, .int (nI r)), (3, .int (nI e))]) (st2 := []) (w3 := w) rfl rfl ?_
      rw [nI_1 j]
      refine sx_RP.step (pc2 := 47) (ls2 := [(4, .int (nI (j + 1))), (2, .int (nI (l - (m * e)))), (0, .ref 111), (1, .int (nI r)), (3, .int (nI e))]) (st2 := [.int (nI e)]) (w3 := w) rfl rfl ?_
      refine sx_RP.step (pc2 := 49) (ls2 := [(4, .int (nI (j + 1))), (2, .int (nI (l - (m * e)))), (0, .ref 111), (1, .int (nI r)), (3, .int (nI e))]) (st2 := [.int (nI (j + 1)), .int (nI e)]) (w3 := w) rfl rfl ?_
      refine sx_RP.step (pc2 := 50) (ls2 := [(4, .int (nI (j + 1))), (2, .int (nI (l - (m * e)))), (0, .ref 111), (1, .int (nI r)), (3, .int (nI e))]) (st2 := [.int 5, .int (nI (j + 1)), .int (nI e)]) (w3 := w) rfl rfl ?_
      refine sx_RP.step (pc2 := 51) (ls2 := [(4, .int (nI (j + 1))), (2, .int (nI (l - (m * e)))), (0, .ref 111), (1, .int (nI r)), (3, .int (nI e))]) (st2 := [.int ((nI (j + 1)) - (nI (j + 1)) / 5 * 5), .int (nI e)]) (w3 := w) rfl rfl ?_
      rw [nI_rem5 (show j + 1 < 1000 by omega)]
      refine sx_RP.br (p1 := 63) (l1 := [(4, .int (nI (j + 1))), (2, .int (nI (l - (m * e)))), (0, .ref 111), (1, .int (nI r)), (3, .int (nI e))]) (s1 := [.int (nI e)]) (v1 := w) (p2 := 54) (l2 := [(4, .int (nI (j + 1))), (2, .int (nI (l - (m * e)))), (0, .ref 111), (1, .int (nI r)), (3, .int (nI e))]) (s2 := [.int (nI e)]) (v2 := w) rfl rfl (fun q2 => ?_) (fun q2 => ?_)
      · replace q2 := of_decide_eq_true q2
        replace q2 := mt (nI_eq (a := ((j + 1) % 5)) (b := 0) (by omega) (by omega)).mpr q2
        refine sx_RP.step (pc2 := 64) (ls2 := [(4, .int (nI (j + 1))), (2, .int (nI (l - (m * e)))), (0, .ref 111), (1, .int (nI r)), (3, .int (nI e))]) (st2 := [.int 0, .int (nI e)]) (w3 := w) rfl rfl ?_
        refine sx_RP.step (pc2 := 65) (ls2 := [(4, .int (nI (j + 1))), (2, .int (nI (l - (m * e)))), (0, .ref 111), (1, .int (nI r)), (3, .int (nI e))]) (st2 := [.int ((nI e) - 0)]) (w3 := w) rfl rfl ?_
        rw [show ((nI e) - 0 : Int32) = nI (e - 0) from nI_sub (a := e) (b := 0) (by omega)]
        refine sx_RP.step (pc2 := 66) (ls2 := [(3, .int (nI (e - 0))), (4, .int (nI (j + 1))), (2, .int (nI (l - (m * e)))), (0, .ref 111), (1, .int (nI r))]) (st2 := []) (w3 := w) rfl rfl ?_
        refine sx_RP.step (pc2 := 12) (ls2 := [(3, .int (nI (e - 0))), (4, .int (nI (j + 1))), (2, .int (nI (l - (m * e)))), (0, .ref 111), (1, .int (nI r))]) (st2 := []) (w3 := w) rfl rfl ?_
        unfold dayN
        rw [if_neg (show ¬ l < eatN m r j by unfold eatN; rw [← he]; omega)]
        have hl2 : l - eatN m r j = l - m * e := by unfold eatN; rw [← he]
        rw [hl2]
        exact sx_RP.ls (sx_lr.cons rfl (sx_lr.cons rfl (sx_lr.cons rfl (sx_lr.cons rfl (sx_lr.cons rfl sx_lr.nil))))) (x206L hI hm hm1 hr1 hr fz (j + 1) (l - m * e) ((e - 0)) (by omega) (by omega) (by omega))
      · replace q2 := Decidable.not_not.mp (of_decide_eq_false q2)
        replace q2 := (nI_eq (a := ((j + 1) % 5)) (b := 0) (by omega) (by omega)).mp q2
        refine sx_RP.step (pc2 := 55) (ls2 := [(4, .int (nI (j + 1))), (2, .int (nI (l - (m * e)))), (0, .ref 111), (1, .int (nI r)), (3, .int (nI e))]) (st2 := [.int (nI e), .int (nI e)]) (w3 := w) rfl rfl ?_
        refine sx_RP.step (pc2 := 56) (ls2 := [(4, .int (nI (j + 1))), (2, .int (nI (l - (m * e)))), (0, .ref 111), (1, .int (nI r)), (3, .int (nI e))]) (st2 := [.int 1, .int (nI e), .int (nI e)]) (w3 := w) rfl rfl ?_
        refine sx_RP.br (p1 := 63) (l1 := [(4, .int (nI (j + 1))), (2, .int (nI (l - (m * e)))), (0, .ref 111), (1, .int (nI r)), (3, .int (nI e))]) (s1 := [.int (nI e)]) (v1 := w) (p2 := 59) (l2 := [(4, .int (nI (j + 1))), (2, .int (nI (l - (m * e)))), (0, .ref 111), (1, .int (nI r)), (3, .int (nI e))]) (s2 := [.int (nI e)]) (v2 := w) rfl rfl (fun q3 => ?_) (fun q3 => ?_)
        · replace q3 := of_decide_eq_true q3
          replace q3 := (nI_leI (a := e) (b := 1) (by omega) (by omega)).mp q3
          refine sx_RP.step (pc2 := 64) (ls2 := [(4, .int (nI (j + 1))), (2, .int (nI (l - (m * e)))), (0, .ref 111), (1, .int (nI r)), (3, .int (nI e))]) (st2 := [.int 0, .int (nI e)]) (w3 := w) rfl rfl ?_
          refine sx_RP.step (pc2 := 65) (ls2 := [(4, .int (nI (j + 1))), (2, .int (nI (l - (m * e)))), (0, .ref 111), (1, .int (nI r)), (3, .int (nI e))]) (st2 := [.int ((nI e) - 0)]) (w3 := w) rfl rfl ?_
          rw [show ((nI e) - 0 : Int32) = nI (e - 0) from nI_sub (a := e) (b := 0) (by omega)]
          refine sx_RP.step (pc2 := 66) (ls2 := [(3, .int (nI (e - 0))), (4, .int (nI (j + 1))), (2, .int (nI (l - (m * e)))), (0, .ref 111), (1, .int (nI r))]) (st2 := []) (w3 := w) rfl rfl ?_
          refine sx_RP.step (pc2 := 12) (ls2 := [(3, .int (nI (e - 0))), (4, .int (nI (j + 1))), (2, .int (nI (l - (m * e)))), (0, .ref 111), (1, .int (nI r))]) (st2 := []) (w3 := w) rfl rfl ?_
          unfold dayN
          rw [if_neg (show ¬ l < eatN m r j by unfold eatN; rw [← he]; omega)]
          have hl2 : l - eatN m r j = l - m * e := by unfold eatN; rw [← he]
          rw [hl2]
          exact sx_RP.ls (sx_lr.cons rfl (sx_lr.cons rfl (sx_lr.cons rfl (sx_lr.cons rfl (sx_lr.cons rfl sx_lr.nil))))) (x206L hI hm hm1 hr1 hr fz (j + 1) (l - m * e) ((e - 0)) (by omega) (by omega) (by omega))
        · replace q3 := of_decide_eq_false q3
          replace q3 := mt (nI_leI (a := e) (b := 1) (by omega) (by omega)).mpr q3
          refine sx_RP.step (pc2 := 60) (ls2 := [(4, .int (nI (j + 1))), (2, .int (nI (l - (m * e)))), (0, .ref 111), (1, .int (nI r)), (3, .int (nI e))]) (st2 := [.int 1, .int (nI e)]) (w3 := w) rfl rfl ?_
          refine sx_RP.step (pc2 := 64) (ls2 := [(4, .int (nI (j + 1))), (2, .int (nI (l - (m * e)))), (0, .ref 111), (1, .int (nI r)), (3, .int (nI e))]) (st2 := [.int 1, .int (nI e)]) (w3 := w) rfl rfl ?_
          refine sx_RP.step (pc2 := 65) (ls2 := [(4, .int (nI (j + 1))), (2, .int (nI (l - (m * e)))), (0, .ref 111), (1, .int (nI r)), (3, .int (nI e))]) (st2 := [.int ((nI e) - 1)]) (w3 := w) rfl rfl ?_
          rw [show ((nI e) - 1 : Int32) = nI (e - 1) from nI_sub (a := e) (b := 1) (by omega)]
          refine sx_RP.step (pc2 := 66) (ls2 := [(3, .int (nI (e - 1))), (4, .int (nI (j + 1))), (2, .int (nI (l - (m * e)))), (0, .ref 111), (1, .int (nI r))]) (st2 := []) (w3 := w) rfl rfl ?_
          refine sx_RP.step (pc2 := 12) (ls2 := [(3, .int (nI (e - 1))), (4, .int (nI (j + 1))), (2, .int (nI (l - (m * e)))), (0, .ref 111), (1, .int (nI r))]) (st2 := []) (w3 := w) rfl rfl ?_
          unfold dayN
          rw [if_neg (show ¬ l < eatN m r j by unfold eatN; rw [← he]; omega)]
          have hl2 : l - eatN m r j = l - m * e := by unfold eatN; rw [← he]
          rw [hl2]
          exact sx_RP.ls (sx_lr.cons rfl (sx_lr.cons rfl (sx_lr.cons rfl (sx_lr.cons rfl (sx_lr.cons rfl sx_lr.nil))))) (x206L hI hm hm1 hr1 hr fz (j + 1) (l - m * e) ((e - 1)) (by omega) (by omega) (by omega))
set_option maxRecDepth 20000 in
set_option maxHeartbeats 4000000 in
theorem x206 {xs : Option (List Int32)} {d : Nat} {w : List sx_C} (hI : WI w) {o m r : Nat} (ho : (ia w 112).getD 4 0 = nI o) (ho1 : o ≤ 999999) (hm : (ia w 112).getD 5 0 = nI m) (hm1 : m ≤ 999) (hr1 : 1 ≤ r) (hr : r ≤ 99) : sx_RU xs d 206 0 (lv_args 0 [.ref 111, .int (nI r)]) [] w (some (.int (nI (daysN o m r)))) w := by
  have h : sx_RP xs d 206 0 (lv_args 0 [.ref 111, .int (nI r)]) [] w (fun r9 w2 => r9 = some (.int (nI (daysN o m r))) ∧ w2 = w) := by
    refine sx_RP.step (pc2 := 1) (ls2 := [(0, .ref 111), (1, .int (nI r))]) (st2 := [.ref 111]) (w3 := w) rfl rfl ?_
    refine sx_RP.gf (v := .ref 112) rfl rfl hI.1.o111 rfl rfl (show _ = 4 from rfl) ?_
    refine sx_RP.step (pc2 := 5) (ls2 := [(0, .ref 111), (1, .int (nI r))]) (st2 := [.int 4, .ref 112]) (w3 := w) rfl rfl ?_
    refine sx_RP.ild (c := 4) rfl hI.1.a112.1 hI.1.a112.2 (sx_in_nI (show 4 < 172 by omega) (by decide)) (show (nI 4).toNatClampNeg = 4 from nI_clamp (by omega)) (show _ = 6 from rfl) ?_
    rw [ho]
    refine sx_RP.step (pc2 := 7) (ls2 := [(2, .int (nI o)), (0, .ref 111), (1, .int (nI r))]) (st2 := []) (w3 := w) rfl rfl ?_
    refine sx_RP.step (pc2 := 8) (ls2 := [(2, .int (nI o)), (0, .ref 111), (1, .int (nI r))]) (st2 := [.int (nI r)]) (w3 := w) rfl rfl ?_
    refine sx_RP.step (pc2 := 9) (ls2 := [(3, .int (nI r)), (2, .int (nI o)), (0, .ref 111), (1, .int (nI r))]) (st2 := []) (w3 := w) rfl rfl ?_
    refine sx_RP.step (pc2 := 10) (ls2 := [(3, .int (nI r)), (2, .int (nI o)), (0, .ref 111), (1, .int (nI r))]) (st2 := [.int 0]) (w3 := w) rfl rfl ?_
    refine sx_RP.step (pc2 := 12) (ls2 := [(4, .int 0), (3, .int (nI r)), (2, .int (nI o)), (0, .ref 111), (1, .int (nI r))]) (st2 := []) (w3 := w) rfl rfl ?_
    exact sx_RP.ls (sx_lr.cons rfl (sx_lr.cons rfl (sx_lr.cons rfl (sx_lr.cons rfl (sx_lr.cons rfl sx_lr.nil))))) (x206L hI hm hm1 hr1 hr 999 0 o r (by omega) ho1 (by omega))
  obtain ⟨r9, w2, h1, rfl, rfl⟩ := h
  exact h1
