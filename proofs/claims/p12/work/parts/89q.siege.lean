-- number of the reference
theorem nJ_toInt {v : Nat} (h : v < 2 ^ 31) : (nI v).toInt64.toInt = (v : Int) := by rw [Int32.toInt_toInt64, nI_toInt h]
theorem lg_ltN {x l : Nat} (hx : x < 2 ^ 31) (hl : l < 2 ^ 31) : lg_cmp (nI x).toInt64 (nI l).toInt64 < 0 ↔ x < l := by
  have e1 : (nI l).toInt64 < (nI x).toInt64 ↔ l < x := by rw [Int64.lt_iff_toInt_lt, nJ_toInt hx, nJ_toInt hl]; omega
  have e2 : (nI x).toInt64 = (nI l).toInt64 ↔ x = l := by rw [← Int64.toInt_inj, nJ_toInt hx, nJ_toInt hl]; omega
  unfold lg_cmp
  by_cases h : l < x
  · rw [if_pos (e1.mpr h)]
    exact ⟨fun z => absurd z (by decide), fun z => by omega⟩
  · rw [if_neg (fun z => h (e1.mp z))]
    by_cases h2 : x = l
    · rw [if_pos (e2.mpr h2)]
      exact ⟨fun z => absurd z (by decide), fun z => by omega⟩
    · rw [if_neg (fun z => h2 (e2.mp z))]
      exact ⟨fun _ => by omega, fun _ => by decide⟩
theorem lg_leN {x l : Nat} (hx : x < 2 ^ 31) (hl : l < 2 ^ 31) : lg_cmp (nI x).toInt64 (nI l).toInt64 ≤ 0 ↔ x ≤ l := by
  have e1 : (nI l).toInt64 < (nI x).toInt64 ↔ l < x := by rw [Int64.lt_iff_toInt_lt, nJ_toInt hx, nJ_toInt hl]; omega
  unfold lg_cmp
  by_cases h : l < x
  · rw [if_pos (e1.mpr h)]
    exact ⟨fun z => absurd z (by decide), fun z => by omega⟩
  · rw [if_neg (fun z => h (e1.mp z))]
    split
    · exact ⟨fun _ => by omega, fun _ => by decide⟩
    · exact ⟨fun _ => by omega, fun _ => by decide⟩
theorem nJ_i {v : Nat} (h : v < 2 ^ 31) : (nI v).toInt64.toInt32 = nI v := by
  apply Int32.toInt_inj.mp
  rw [Int64.toInt_toInt32, nJ_toInt h, nI_toInt h, Int.bmod_def]
  split <;> omega
theorem j_step {v c : Nat} (hv : v ≤ 9999999) (h1 : 48 ≤ c) (h2 : c ≤ 57) : ((10 : Int64) * (nI v).toInt64 + (nI c).toInt64) - 48 = (nI (10 * v + (c - 48))).toInt64 := by
  apply Int64.toInt_inj.mp
  rw [Int64.toInt_sub, Int64.toInt_add, Int64.toInt_mul, nJ_toInt (by omega), nJ_toInt (by omega), nJ_toInt (by omega), show (10 : Int64).toInt = 10 by decide, show (48 : Int64).toInt = 48 by decide]
  rw [show Int.bmod (10 * (v : Int)) (2 ^ 64) = 10 * (v : Int) by rw [Int.bmod_def]; split <;> omega]
  rw [show Int.bmod (10 * (v : Int) + (c : Int)) (2 ^ 64) = 10 * (v : Int) + (c : Int) by rw [Int.bmod_def]; split <;> omega]
  rw [Int.bmod_def]
  split <;> omega
theorem minJ {a b : Nat} (ha : a < 2 ^ 31) (hb : b < 2 ^ 31) : (if lg_cmp (nI a).toInt64 (nI b).toInt64 ≤ 0 then (nI a).toInt64 else (nI b).toInt64) = (nI (min a b)).toInt64 := by
  by_cases h : a ≤ b
  · rw [if_pos ((lg_leN ha hb).mpr h), Nat.min_eq_left h]
  · rw [if_neg (fun z => h ((lg_leN ha hb).mp z)), Nat.min_eq_right (by omega)]
theorem nuV_min {c1 c2 : Nat} {X : Nat → Nat} (h : c1 ≤ c2) : ∀ f v i, nuV c1 X (min c1 v) i f = min c1 (nuV c2 X v i f)
  | 0, v, i => rfl
  | f + 1, v, i => by
    show nuV c1 X (min c1 (10 * min c1 v + (X i - 48))) (i + 1) f = min c1 (nuV c2 X (min c2 (10 * v + (X i - 48))) (i + 1) f)
    rw [← nuV_min h f (min c2 (10 * v + (X i - 48))) (i + 1)]
    rw [show min c1 (10 * min c1 v + (X i - 48)) = min c1 (min c2 (10 * v + (X i - 48))) by omega]
/-- a number of the reference at a place, and its value -/
def nuW (n : Nat) (X : Nat → Nat) (p : Nat) : Nat := nuV 9999999 X 0 p (rE digi n X p - p)
set_option maxRecDepth 20000 in
set_option maxHeartbeats 4000000 in
theorem y223 {xs : Option (List Int32)} {d : Nat} {w : List sx_C} (hI : WI w) (x y : Int64) : sx_RU xs d 223 0 (lv_args 0 [.long x, .long y]) [] w (some (.long (if lg_cmp x y ≤ 0 then x else y))) w := by
  have h : sx_RP xs d 223 0 (lv_args 0 [.long x, .long y]) [] w (fun r9 w2 => r9 = some (.long (if lg_cmp x y ≤ 0 then x else y)) ∧ w2 = w) := by
    refine sx_RP.step (pc2 := 1) (ls2 := [(0, .long x), (2, .long y)]) (st2 := [.long x]) (w3 := w) rfl rfl ?_
    refine sx_RP.step (pc2 := 2) (ls2 := [(0, .long x), (2, .long y)]) (st2 := [.long y, .long x]) (w3 := w) rfl rfl ?_
    refine sx_RP.step (pc2 := 3) (ls2 := [(0, .long x), (2, .long y)]) (st2 := [.int (lg_cmp x y)]) (w3 := w) rfl rfl ?_
    refine sx_RP.br (p1 := 10) (l1 := [(0, .long x), (2, .long y)]) (s1 := []) (v1 := w) (p2 := 6) (l2 := [(0, .long x), (2, .long y)]) (s2 := []) (v2 := w) rfl rfl (fun q1 => ?_) (fun q1 => ?_)
    · replace q1 := of_decide_eq_true q1
      refine sx_RP.step (pc2 := 11) (ls2 := [(0, .long x), (2, .long y)]) (st2 := [.long y]) (w3 := w) rfl rfl ?_
      refine sx_RP.ret (r := (some (.long y))) rfl rfl ?_
      exact ⟨by first | rw [if_pos (Int32.not_lt.mp q1)] | rw [if_neg (Int32.not_le.mpr q1)], rfl⟩
    · replace q1 := of_decide_eq_false q1
      refine sx_RP.step (pc2 := 7) (ls2 := [(0, .long x), (2, .long y)]) (st2 := [.long x]) (w3 := w) rfl rfl ?_
      refine sx_RP.step (pc2 := 11) (ls2 := [(0, .long x), (2, .long y)]) (st2 := [.long x]) (w3 := w) rfl rfl ?_
      refine sx_RP.ret (r := (some (.long x))) rfl rfl ?_
      exact ⟨by first | rw [if_pos (Int32.not_lt.mp q1)] | rw [if_neg (Int32.not_le.mpr q1)], rfl⟩
  obtain ⟨r9, w2, h1, rfl, rfl⟩ := h
  exact h1
set_option maxRecDepth 20000 in
set_option maxHeartbeats 4000000 in
theorem y220B {xs : Option (List Int32)} {d : Nat} {n p : Nat} {X : Nat → Nat} {w : List sx_C} {lo hi : Nat} (hlo : lo < 2 ^ 31) (hhi : hi < 2 ^ 31) (hI : WI w) (hM : MT n X w) (ep : fi w 111 12 = nI p) (ef : fi w 111 13 = -1) {j v : Nat} (hj : j ≤ n) (hv : v ≤ 9999999) (kk : j < n → sx_RP xs (d + 3) 220 38 [(0, .ref 111), (1, .int (nI lo)), (2, .int (nI hi)), (3, .long (nI (min 9999999 (10 * v + (X j - 48)))).toInt64), (5, .int (nI (j + 1)))] [] w (fun r2 w2 => (r2 = some (.int (b01 (decide (lo ≤ (nuV 9999999 X (min 9999999 (10 * v + (X j - 48))) (j + 1) (rE digi n X (j + 1) - (j + 1))) ∧ (nuV 9999999 X (min 9999999 (10 * v + (X j - 48))) (j + 1) (rE digi n X (j + 1) - (j + 1))) ≤ hi)))) ∧ ((lo ≤ (nuV 9999999 X (min 9999999 (10 * v + (X j - 48))) (j + 1) (rE digi n X (j + 1) - (j + 1))) ∧ (nuV 9999999 X (min 9999999 (10 * v + (X j - 48))) (j + 1) (rE digi n X (j + 1) - (j + 1))) ≤ hi) → fi w2 111 12 = nI (rE digi n X (j + 1)) ∧ fi w2 111 14 = nI ((nuV 9999999 X (min 9999999 (10 * v + (X j - 48))) (j + 1) (rE digi n X (j + 1) - (j + 1)))) ∧ fi w2 111 13 = -1) ∧ (¬ (lo ≤ (nuV 9999999 X (min 9999999 (10 * v + (X j - 48))) (j + 1) (rE digi n X (j + 1) - (j + 1))) ∧ (nuV 9999999 X (min 9999999 (10 * v + (X j - 48))) (j + 1) (rE digi n X (j + 1) - (j + 1))) ≤ hi) → fi w2 111 13 = nI p)) ∧ WI w2 ∧ HS w w2)) : sx_RP xs (d + 3) 220 38 [(0, .ref 111), (1, .int (nI lo)), (2, .int (nI hi)), (3, .long (nI v).toInt64), (5, .int (nI j))] [] w (fun r2 w2 => (r2 = some (.int (b01 (decide (lo ≤ (nuV 9999999 X v j (rE digi n X j - j)) ∧ (nuV 9999999 X v j (rE digi n X j - j)) ≤ hi)))) ∧ ((lo ≤ (nuV 9999999 X v j (rE digi n X j - j)) ∧ (nuV 9999999 X v j (rE digi n X j - j)) ≤ hi) → fi w2 111 12 = nI (rE digi n X j) ∧ fi w2 111 14 = nI ((nuV 9999999 X v j (rE digi n X j - j))) ∧ fi w2 111 13 = -1) ∧ (¬ (lo ≤ (nuV 9999999 X v j (rE digi n X j - j)) ∧ (nuV 9999999 X v j (rE digi n X j - j)) ≤ hi) → fi w2 111 13 = nI p)) ∧ WI w2 ∧ HS w w2) := by
  have hn := hM.2.1
  refine sx_RP.step (pc2 := 39) (ls2 := [(0, .ref 111), (1, .int (nI lo)), (2, .int (nI hi)), (3, .long ((nI v).toInt64)), (5, .int (nI j))]) (st2 := [.ref 111]) (w3 := w) rfl rfl ?_
  refine sx_RP.step (pc2 := 41) (ls2 := [(0, .ref 111), (1, .int (nI lo)), (2, .int (nI hi)), (3, .long ((nI v).toInt64)), (5, .int (nI j))]) (st2 := [.int (nI j), .ref 111]) (w3 := w) rfl rfl ?_
  refine sx_RP.cu (as := [.ref 111, .int (nI j)]) (rest2 := []) (st3 := [.int (bA n X j)]) rfl rfl (sx_inv_v2 (mi := 220) (k := 215) (st := [.int (nI j), .ref 111]) (w := w) rfl rfl hI.1.o111 rfl rfl rfl) rfl rfl (y216 hI hM (by omega)) rfl ?_
  rcases Classical.em (j < n ∧ digi (X j) = true) with c1 | c1
  · refine sx_RP.cu (as := [.int (bA n X j)]) (rest2 := []) (st3 := [.int 1]) rfl rfl rfl rfl rfl (cx_221p ((bA_digi (fun z => hM.x z)).mpr c1)) rfl ?_
    refine sx_RP.step (pc2 := 50) (ls2 := [(0, .ref 111), (1, .int (nI lo)), (2, .int (nI hi)), (3, .long ((nI v).toInt64)), (5, .int (nI j))]) (st2 := []) (w3 := w) rfl rfl ?_
    refine sx_RP.step (pc2 := 53) (ls2 := [(0, .ref 111), (1, .int (nI lo)), (2, .int (nI hi)), (3, .long ((nI v).toInt64)), (5, .int (nI j))]) (st2 := [.long 9999999]) (w3 := w) rfl rfl ?_
    refine sx_RP.step (pc2 := 56) (ls2 := [(0, .ref 111), (1, .int (nI lo)), (2, .int (nI hi)), (3, .long ((nI v).toInt64)), (5, .int (nI j))]) (st2 := [.long 10, .long 9999999]) (w3 := w) rfl rfl ?_
    refine sx_RP.step (pc2 := 57) (ls2 := [(0, .ref 111), (1, .int (nI lo)), (2, .int (nI hi)), (3, .long ((nI v).toInt64)), (5, .int (nI j))]) (st2 := [.long ((nI v).toInt64), .long 10, .long 9999999]) (w3 := w) rfl rfl ?_
    refine sx_RP.step (pc2 := 58) (ls2 := [(0, .ref 111), (1, .int (nI lo)), (2, .int (nI hi)), (3, .long ((nI v).toInt64)), (5, .int (nI j))]) (st2 := [.long (10 * ((nI v).toInt64)), .long 9999999]) (w3 := w) rfl rfl ?_
    refine sx_RP.step (pc2 := 59) (ls2 := [(0, .ref 111), (1, .int (nI lo)), (2, .int (nI hi)), (3, .long ((nI v).toInt64)), (5, .int (nI j))]) (st2 := [.ref 111, .long (10 * ((nI v).toInt64)), .long 9999999]) (w3 := w) rfl rfl ?_
    refine sx_RP.step (pc2 := 61) (ls2 := [(0, .ref 111), (1, .int (nI lo)), (2, .int (nI hi)), (3, .long ((nI v).toInt64)), (5, .int (nI j))]) (st2 := [.int (nI j), .ref 111, .long (10 * ((nI v).toInt64)), .long 9999999]) (w3 := w) rfl rfl ?_
    refine sx_RP.cu (as := [.ref 111, .int (nI j)]) (rest2 := [.long (10 * ((nI v).toInt64)), .long 9999999]) (st3 := [.int (bA n X j), .long (10 * ((nI v).toInt64)), .long 9999999]) rfl rfl (sx_inv_v2 (mi := 220) (k := 215) (st := [.int (nI j), .ref 111, .long (10 * ((nI v).toInt64)), .long 9999999]) (w := w) rfl rfl hI.1.o111 rfl rfl rfl) rfl rfl (y216 hI hM (by omega)) rfl ?_
    refine sx_RP.step (pc2 := 65) (ls2 := [(0, .ref 111), (1, .int (nI lo)), (2, .int (nI hi)), (3, .long ((nI v).toInt64)), (5, .int (nI j))]) (st2 := [.long ((bA n X j).toInt64), .long (10 * ((nI v).toInt64)), .long 9999999]) (w3 := w) rfl rfl ?_
    refine sx_RP.step (pc2 := 66) (ls2 := [(0, .ref 111), (1, .int (nI lo)), (2, .int (nI hi)), (3, .long ((nI v).toInt64)), (5, .int (nI j))]) (st2 := [.long ((10 * ((nI v).toInt64)) + ((bA n X j).toInt64)), .long 9999999]) (w3 := w) rfl rfl ?_
    refine sx_RP.step (pc2 := 69) (ls2 := [(0, .ref 111), (1, .int (nI lo)), (2, .int (nI hi)), (3, .long ((nI v).toInt64)), (5, .int (nI j))]) (st2 := [.long 48, .long ((10 * ((nI v).toInt64)) + ((bA n X j).toInt64)), .long 9999999]) (w3 := w) rfl rfl ?_
    have hd := sgn_dig ⟨X j, hM.x c1.1⟩ c1.2
    replace hd : 48 ≤ X j ∧ X j ≤ 57 := hd.2
    refine sx_RP.step (pc2 := 70) (ls2 := [(0, .ref 111), (1, .int (nI lo)), (2, .int (nI hi)), (3, .long ((nI v).toInt64)), (5, .int (nI j))]) (st2 := [.long (((10 * ((nI v).toInt64)) + ((bA n X j).toInt64)) - 48), .long 9999999]) (w3 := w) rfl rfl ?_
    rw [show (((10 * ((nI v).toInt64)) + ((bA n X j).toInt64)) - 48 : Int64) = (nI (10 * v + (X j - 48))).toInt64 by rw [bA_y c1.1]; exact j_step hv hd.1 hd.2]
    refine sx_RP.cu (as := [.long 9999999, .long ((nI (10 * v + (X j - 48))).toInt64)]) (rest2 := []) (st3 := [.long ((nI (min 9999999 (10 * v + (X j - 48)))).toInt64)]) rfl rfl rfl rfl rfl ((by have c := y223 (xs := xs) (d := d + 2) hI (nI 9999999).toInt64 (nI (10 * v + (X j - 48))).toInt64; rw [minJ (by decide) (by omega)] at c; exact c)) rfl ?_
    refine sx_RP.step (pc2 := 74) (ls2 := [(3, .long ((nI (min 9999999 (10 * v + (X j - 48)))).toInt64)), (0, .ref 111), (1, .int (nI lo)), (2, .int (nI hi)), (5, .int (nI j))]) (st2 := []) (w3 := w) rfl rfl ?_
    refine sx_RP.step (pc2 := 77) (ls2 := [(5, .int ((nI j) + 1)), (3, .long ((nI (min 9999999 (10 * v + (X j - 48)))).toInt64)), (0, .ref 111), (1, .int (nI lo)), (2, .int (nI hi))]) (st2 := []) (w3 := w) rfl rfl ?_
    rw [nI_1 j]
    refine sx_RP.step (pc2 := 38) (ls2 := [(5, .int (nI (j + 1))), (3, .long ((nI (min 9999999 (10 * v + (X j - 48)))).toInt64)), (0, .ref 111), (1, .int (nI lo)), (2, .int (nI hi))]) (st2 := []) (w3 := w) rfl rfl ?_
    have hge := rE_ge (p := digi) (n := n) (X := X) (i := j + 1)
    rw [rE_y c1.1 c1.2, show rE digi n X (j + 1) - j = (rE digi n X (j + 1) - (j + 1)) + 1 by omega, show nuV 9999999 X v j ((rE digi n X (j + 1) - (j + 1)) + 1) = nuV 9999999 X (min 9999999 (10 * v + (X j - 48))) (j + 1) (rE digi n X (j + 1) - (j + 1)) from rfl]
    exact sx_RP.ls (sx_lr.cons rfl (sx_lr.cons rfl (sx_lr.cons rfl (sx_lr.cons rfl (sx_lr.cons rfl sx_lr.nil))))) (kk c1.1)
  · refine sx_RP.cu (as := [.int (bA n X j)]) (rest2 := []) (st3 := [.int 0]) rfl rfl rfl rfl rfl (cx_221n (fun z => c1 ((bA_digi (fun z => hM.x z)).mp z))) rfl ?_
    refine sx_RP.step (pc2 := 80) (ls2 := [(0, .ref 111), (1, .int (nI lo)), (2, .int (nI hi)), (3, .long ((nI v).toInt64)), (5, .int (nI j))]) (st2 := []) (w3 := w) rfl rfl ?_
    refine sx_RP.step (pc2 := 81) (ls2 := [(0, .ref 111), (1, .int (nI lo)), (2, .int (nI hi)), (3, .long ((nI v).toInt64)), (5, .int (nI j))]) (st2 := [.long ((nI v).toInt64)]) (w3 := w) rfl rfl ?_
    refine sx_RP.step (pc2 := 82) (ls2 := [(0, .ref 111), (1, .int (nI lo)), (2, .int (nI hi)), (3, .long ((nI v).toInt64)), (5, .int (nI j))]) (st2 := [.int (nI lo), .long ((nI v).toInt64)]) (w3 := w) rfl rfl ?_
    refine sx_RP.step (pc2 := 83) (ls2 := [(0, .ref 111), (1, .int (nI lo)), (2, .int (nI hi)), (3, .long ((nI v).toInt64)), (5, .int (nI j))]) (st2 := [.long ((nI lo).toInt64), .long ((nI v).toInt64)]) (w3 := w) rfl rfl ?_
    refine sx_RP.step (pc2 := 84) (ls2 := [(0, .ref 111), (1, .int (nI lo)), (2, .int (nI hi)), (3, .long ((nI v).toInt64)), (5, .int (nI j))]) (st2 := [.int (lg_cmp ((nI v).toInt64) ((nI lo).toInt64))]) (w3 := w) rfl rfl ?_
    refine sx_RP.br (p1 := 94) (l1 := [(0, .ref 111), (1, .int (nI lo)), (2, .int (nI hi)), (3, .long ((nI v).toInt64)), (5, .int (nI j))]) (s1 := []) (v1 := w) (p2 := 87) (l2 := [(0, .ref 111), (1, .int (nI lo)), (2, .int (nI hi)), (3, .long ((nI v).toInt64)), (5, .int (nI j))]) (s2 := []) (v2 := w) rfl rfl (fun q2 => ?_) (fun q2 => ?_)
    · replace q2 := of_decide_eq_true q2
      refine sx_RP.step (pc2 := 95) (ls2 := [(0, .ref 111), (1, .int (nI lo)), (2, .int (nI hi)), (3, .long ((nI v).toInt64)), (5, .int (nI j))]) (st2 := [.ref 111]) (w3 := w) rfl rfl ?_
      refine sx_RP.callp (as2 := [.ref 111]) (rest2 := []) rfl rfl (sx_inv_v2 (mi := 220) (k := 245) (st := [.ref 111]) (w := w) rfl rfl hI.1.o111 rfl rfl rfl) rfl rfl rfl (y222 (p := p) hI ef ep) (show _ = 98 from rfl) ?_
      rintro r4 w5 ⟨⟨rfl, hv3⟩, hI6, hO4⟩
      show sx_RP _ _ _ _ _ [.int 0] _ _
      refine sx_RP.ret (r := (some (.int 0))) rfl rfl ?_
      have z7 := (lg_ltN (x := v) (l := lo) (by omega) (by omega)).mp q2
      rw [rE_n c1, Nat.sub_self, show nuV 9999999 X v j 0 = v from rfl]
      rw [decide_eq_false (show ¬ (lo ≤ v ∧ v ≤ hi) by omega)]
      exact ⟨⟨rfl, fun z => absurd z (by omega), fun _ => hv3⟩, hI6, hO4.hs⟩
    · replace q2 := of_decide_eq_false q2
      refine sx_RP.step (pc2 := 88) (ls2 := [(0, .ref 111), (1, .int (nI lo)), (2, .int (nI hi)), (3, .long ((nI v).toInt64)), (5, .int (nI j))]) (st2 := [.long ((nI v).toInt64)]) (w3 := w) rfl rfl ?_
      refine sx_RP.step (pc2 := 89) (ls2 := [(0, .ref 111), (1, .int (nI lo)), (2, .int (nI hi)), (3, .long ((nI v).toInt64)), (5, .int (nI j))]) (st2 := [.int (nI hi), .long ((nI v).toInt64)]) (w3 := w) rfl rfl ?_
      refine sx_RP.step (pc2 := 90) (ls2 := [(0, .ref 111), (1, .int (nI lo)), (2, .int (nI hi)), (3, .long ((nI v).toInt64)), (5, .int (nI j))]) (st2 := [.long ((nI hi).toInt64), .long ((nI v).toInt64)]) (w3 := w) rfl rfl ?_
      refine sx_RP.step (pc2 := 91) (ls2 := [(0, .ref 111), (1, .int (nI lo)), (2, .int (nI hi)), (3, .long ((nI v).toInt64)), (5, .int (nI j))]) (st2 := [.int (lg_cmp ((nI v).toInt64) ((nI hi).toInt64))]) (w3 := w) rfl rfl ?_
      refine sx_RP.br (p1 := 99) (l1 := [(0, .ref 111), (1, .int (nI lo)), (2, .int (nI hi)), (3, .long ((nI v).toInt64)), (5, .int (nI j))]) (s1 := []) (v1 := w) (p2 := 94) (l2 := [(0, .ref 111), (1, .int (nI lo)), (2, .int (nI hi)), (3, .long ((nI v).toInt64)), (5, .int (nI j))]) (s2 := []) (v2 := w) rfl rfl (fun q8 => ?_) (fun q8 => ?_)
      · replace q8 := of_decide_eq_true q8
        refine sx_RP.step (pc2 := 100) (ls2 := [(0, .ref 111), (1, .int (nI lo)), (2, .int (nI hi)), (3, .long ((nI v).toInt64)), (5, .int (nI j))]) (st2 := [.ref 111]) (w3 := w) rfl rfl ?_
        refine sx_RP.step (pc2 := 102) (ls2 := [(0, .ref 111), (1, .int (nI lo)), (2, .int (nI hi)), (3, .long ((nI v).toInt64)), (5, .int (nI j))]) (st2 := [.int (nI j), .ref 111]) (w3 := w) rfl rfl ?_
        refine sx_RP.pm (k := 12) hI EM.rf rfl rfl (by decide) rfl (inR.n (show j ≤ 120 by omega)) (show _ = 105 from rfl) (fun w9 hI10 hE11 hv12 hr13 hs14 => ?_)
        refine sx_RP.step (pc2 := 106) (ls2 := [(0, .ref 111), (1, .int (nI lo)), (2, .int (nI hi)), (3, .long ((nI v).toInt64)), (5, .int (nI j))]) (st2 := [.ref 111]) (w3 := w9) rfl rfl ?_
        refine sx_RP.step (pc2 := 107) (ls2 := [(0, .ref 111), (1, .int (nI lo)), (2, .int (nI hi)), (3, .long ((nI v).toInt64)), (5, .int (nI j))]) (st2 := [.long ((nI v).toInt64), .ref 111]) (w3 := w9) rfl rfl ?_
        refine sx_RP.step (pc2 := 108) (ls2 := [(0, .ref 111), (1, .int (nI lo)), (2, .int (nI hi)), (3, .long ((nI v).toInt64)), (5, .int (nI j))]) (st2 := [.int (((nI v).toInt64).toInt32), .ref 111]) (w3 := w9) rfl rfl ?_
        rw [nJ_i (show v < 2 ^ 31 by omega)]
        refine sx_RP.pm (k := 14) hI10 EM.rf rfl rfl (by decide) rfl trivial (show _ = 111 from rfl) (fun w15 hI16 hE17 hv18 hr19 hs20 => ?_)
        refine sx_RP.step (pc2 := 112) (ls2 := [(0, .ref 111), (1, .int (nI lo)), (2, .int (nI hi)), (3, .long ((nI v).toInt64)), (5, .int (nI j))]) (st2 := [.int 1]) (w3 := w15) rfl rfl ?_
        refine sx_RP.ret (r := (some (.int 1))) rfl rfl ?_
        have z21 := mt (lg_ltN (x := v) (l := lo) (by omega) (by omega)).mpr q2
        have z22 := (lg_leN (x := v) (l := hi) (by omega) (by omega)).mp q8
        rw [rE_n c1, Nat.sub_self, show nuV 9999999 X v j 0 = v from rfl]
        rw [decide_eq_true (show lo ≤ v ∧ v ≤ hi by omega)]
        exact ⟨⟨rfl, fun _ => ⟨(hr19 12 (by decide)).trans hv12, hv18, (hr19 13 (by decide)).trans ((hr13 13 (by decide)).trans ef)⟩, fun z => absurd (show lo ≤ v ∧ v ≤ hi by omega) z⟩, hI16, ⟨fun a ha => (hs20 a ha).trans (hs14 a ha), fun j hj => (hr19 j (by omega)).trans (hr13 j (by omega))⟩⟩
      · replace q8 := of_decide_eq_false q8
        refine sx_RP.step (pc2 := 95) (ls2 := [(0, .ref 111), (1, .int (nI lo)), (2, .int (nI hi)), (3, .long ((nI v).toInt64)), (5, .int (nI j))]) (st2 := [.ref 111]) (w3 := w) rfl rfl ?_
        refine sx_RP.callp (as2 := [.ref 111]) (rest2 := []) rfl rfl (sx_inv_v2 (mi := 220) (k := 245) (st := [.ref 111]) (w := w) rfl rfl hI.1.o111 rfl rfl rfl) rfl rfl rfl (y222 (p := p) hI ef ep) (show _ = 98 from rfl) ?_
        rintro r4 w25 ⟨⟨rfl, hv23⟩, hI26, hO24⟩
        show sx_RP _ _ _ _ _ [.int 0] _ _
        refine sx_RP.ret (r := (some (.int 0))) rfl rfl ?_
        have z27 := mt (lg_ltN (x := v) (l := lo) (by omega) (by omega)).mpr q2
        have z28 := mt (lg_leN (x := v) (l := hi) (by omega) (by omega)).mpr q8
        rw [rE_n c1, Nat.sub_self, show nuV 9999999 X v j 0 = v from rfl]
        rw [decide_eq_false (show ¬ (lo ≤ v ∧ v ≤ hi) by omega)]
        exact ⟨⟨rfl, fun z => absurd z (by omega), fun _ => hv23⟩, hI26, hO24.hs⟩
theorem y220L {xs : Option (List Int32)} {d : Nat} {n p : Nat} {X : Nat → Nat} {w : List sx_C} {lo hi : Nat} (hlo : lo < 2 ^ 31) (hhi : hi < 2 ^ 31) (hI : WI w) (hM : MT n X w) (ep : fi w 111 12 = nI p) (ef : fi w 111 13 = -1) : ∀ (fz j v : Nat), n ≤ j + fz → j ≤ n → v ≤ 9999999 → sx_RP xs (d + 3) 220 38 [(0, .ref 111), (1, .int (nI lo)), (2, .int (nI hi)), (3, .long (nI v).toInt64), (5, .int (nI j))] [] w (fun r2 w2 => (r2 = some (.int (b01 (decide (lo ≤ (nuV 9999999 X v j (rE digi n X j - j)) ∧ (nuV 9999999 X v j (rE digi n X j - j)) ≤ hi)))) ∧ ((lo ≤ (nuV 9999999 X v j (rE digi n X j - j)) ∧ (nuV 9999999 X v j (rE digi n X j - j)) ≤ hi) → fi w2 111 12 = nI (rE digi n X j) ∧ fi w2 111 14 = nI ((nuV 9999999 X v j (rE digi n X j - j))) ∧ fi w2 111 13 = -1) ∧ (¬ (lo ≤ (nuV 9999999 X v j (rE digi n X j - j)) ∧ (nuV 9999999 X v j (rE digi n X j - j)) ≤ hi) → fi w2 111 13 = nI p)) ∧ WI w2 ∧ HS w w2)
  | 0, j, v, h, hj, hv => y220B hlo hhi hI hM ep ef hj hv (fun z => absurd z (by omega))
  | fz + 1, j, v, h, hj, hv => y220B hlo hhi hI hM ep ef hj hv (fun z => y220L hlo hhi hI hM ep ef fz (j + 1) _ (by omega) z (Nat.min_le_left _ _))
theorem so_digi {n p : Nat} {X : Nat → Nat} (hX : ∀ i, i < n → X i < 256) : soT n X p = 2 ↔ (p < n ∧ digi (X p) = true) := by
  unfold soT
  split
  · rename_i h
    rw [sort_2 ⟨X p, hX p h⟩]
    exact ⟨fun z => ⟨h, z⟩, fun z => z.2⟩
  · rename_i h
    exact ⟨fun z => absurd z (by decide), fun z => absurd z.1 h⟩
theorem be_digi {n p : Nat} {X : Nat → Nat} (hX : ∀ i, i < n → X i < 256) (h : p < n ∧ digi (X p) = true) : beT n X p = rE digi n X p ∧ vaT n X p = min 1000000 (nuV 9999999 X 0 p (rE digi n X p - p)) := by
  have h2 := (sort_2 ⟨X p, hX p h.1⟩).mpr h.2
  replace h2 : sortN (X p) = 2 := h2
  have hb : beT n X p = rE digi n X p := by
    unfold beT
    rw [if_pos h.1, h2, if_neg (by decide), if_pos rfl, rE_y h.1 h.2]
  refine ⟨hb, ?_⟩
  unfold vaT
  rw [if_pos ((so_digi hX).mpr h), hb]
  exact nuV_min (c1 := 1000000) (c2 := 9999999) (by decide) _ 0 p
theorem nm_no {n p lo hi : Nat} {X : Nat → Nat} (hX : ∀ i, i < n → X i < 256) (h : ¬ (p < n ∧ digi (X p) = true)) : nmT n X p lo hi = false := by
  unfold nmT
  rw [decide_eq_false (fun z => h ((so_digi hX).mp z)), Bool.false_and]
theorem nm_eq {n p lo hi : Nat} {X : Nat → Nat} (hX : ∀ i, i < n → X i < 256) (h : p < n ∧ digi (X p) = true) (hh : hi < 1000000) : nmT n X p lo hi = decide (lo ≤ nuV 9999999 X 0 p (rE digi n X p - p) ∧ nuV 9999999 X 0 p (rE digi n X p - p) ≤ hi) := by
  unfold nmT
  rw [decide_eq_true ((so_digi hX).mpr h), Bool.true_and, (be_digi hX h).2, ← Bool.decide_and]
  exact decide_eq_decide.mpr (by omega)
set_option maxRecDepth 20000 in
set_option maxHeartbeats 4000000 in
theorem y220 {xs : Option (List Int32)} {d : Nat} {w : List sx_C} (hI : WI w) {n p : Nat} {X : Nat → Nat} (hM : MT n X w) (hp : p ≤ n) (ep : fi w 111 12 = nI p) (ef : fi w 111 13 = -1) {lo hi : Nat} (hlo : lo < 2 ^ 31) (hhi : hi < 1000000) : sx_RP xs (d + 3) 220 0 (lv_args 0 [.ref 111, .int (nI lo), .int (nI hi)]) [] w (fun r w2 => (r = some (.int (b01 (nmT n X (rE blk n X p) lo hi))) ∧ (nmT n X (rE blk n X p) lo hi = true → fi w2 111 12 = nI (beT n X (rE blk n X p)) ∧ fi w2 111 14 = nI (vaT n X (rE blk n X p)) ∧ fi w2 111 13 = -1) ∧ (nmT n X (rE blk n X p) lo hi = false → fi w2 111 13 = nI (rE blk n X p))) ∧ WI w2 ∧ HS w w2) := by
  have hn := hM.2.1
  refine sx_RP.step (pc2 := 1) (ls2 := [(0, .ref 111), (1, .int (nI lo)), (2, .int (nI hi))]) (st2 := [.ref 111]) (w3 := w) rfl rfl ?_
  refine sx_RP.callp (as2 := [.ref 111]) (rest2 := []) rfl rfl (sx_inv_v2 (mi := 220) (k := 224) (st := [.ref 111]) (w := w) rfl rfl hI.1.o111 rfl rfl rfl) rfl rfl rfl (y215 hI hM hp ep) (show _ = 4 from rfl) ?_
  rintro r4 w3 ⟨⟨rfl, ep1⟩, hI4, hO2⟩
  show sx_RP _ _ _ _ _ [] _ _
  have hM2 := hM.hs hO2.hs
  have hq : rE blk n X p ≤ n := rE_le hp
  have ef2 := (hO2.2 13 (by decide)).trans ef
  refine sx_RP.step (pc2 := 5) (ls2 := [(0, .ref 111), (1, .int (nI lo)), (2, .int (nI hi))]) (st2 := [.ref 111]) (w3 := w3) rfl rfl ?_
  refine sx_RP.gf (v := .int (fi w3 111 13)) rfl rfl hI4.1.o111 rfl rfl (show _ = 8 from rfl) ?_
  rw [ef2]
  refine sx_RP.step (pc2 := 11) (ls2 := [(0, .ref 111), (1, .int (nI lo)), (2, .int (nI hi))]) (st2 := []) (w3 := w3) rfl rfl ?_
  refine sx_RP.step (pc2 := 12) (ls2 := [(0, .ref 111), (1, .int (nI lo)), (2, .int (nI hi))]) (st2 := [.ref 111]) (w3 := w3) rfl rfl ?_
  refine sx_RP.step (pc2 := 13) (ls2 := [(0, .ref 111), (1, .int (nI lo)), (2, .int (nI hi))]) (st2 := [.ref 111, .ref 111]) (w3 := w3) rfl rfl ?_
  refine sx_RP.gf (v := .int (fi w3 111 12)) rfl rfl hI4.1.o111 rfl rfl (show _ = 16 from rfl) ?_
  rw [ep1]
  refine sx_RP.cu (as := [.ref 111, .int (nI (rE blk n X p))]) (rest2 := []) (st3 := [.int (bA n X (rE blk n X p))]) rfl rfl (sx_inv_v2 (mi := 220) (k := 215) (st := [.int (nI (rE blk n X p)), .ref 111]) (w := w3) rfl rfl hI4.1.o111 rfl rfl rfl) rfl rfl (y216 hI4 hM2 (by omega)) rfl ?_
  rcases Classical.em (rE blk n X p < n ∧ digi (X (rE blk n X p)) = true) with c5 | c5
  · refine sx_RP.cu (as := [.int (bA n X (rE blk n X p))]) (rest2 := []) (st3 := [.int 1]) rfl rfl rfl rfl rfl (cx_221p ((bA_digi (fun z => hM.x z)).mpr c5)) rfl ?_
    refine sx_RP.step (pc2 := 30) (ls2 := [(0, .ref 111), (1, .int (nI lo)), (2, .int (nI hi))]) (st2 := []) (w3 := w3) rfl rfl ?_
    refine sx_RP.step (pc2 := 31) (ls2 := [(0, .ref 111), (1, .int (nI lo)), (2, .int (nI hi))]) (st2 := [.long 0]) (w3 := w3) rfl rfl ?_
    refine sx_RP.step (pc2 := 32) (ls2 := [(3, .long 0), (0, .ref 111), (1, .int (nI lo)), (2, .int (nI hi))]) (st2 := []) (w3 := w3) rfl rfl ?_
    refine sx_RP.step (pc2 := 33) (ls2 := [(3, .long 0), (0, .ref 111), (1, .int (nI lo)), (2, .int (nI hi))]) (st2 := [.ref 111]) (w3 := w3) rfl rfl ?_
    refine sx_RP.gf (v := .int (fi w3 111 12)) rfl rfl hI4.1.o111 rfl rfl (show _ = 36 from rfl) ?_
    rw [ep1]
    refine sx_RP.step (pc2 := 38) (ls2 := [(5, .int (nI (rE blk n X p))), (3, .long 0), (0, .ref 111), (1, .int (nI lo)), (2, .int (nI hi))]) (st2 := []) (w3 := w3) rfl rfl ?_
    have hbe := be_digi (fun i hi => hM.x hi) c5
    rw [nm_eq (fun i hi => hM.x hi) c5 hhi, hbe.1, hbe.2]
    refine sx_RP.ls (sx_lr.cons rfl (sx_lr.cons rfl (sx_lr.cons rfl (sx_lr.cons rfl (sx_lr.cons rfl sx_lr.nil))))) ((y220L hlo (Nat.lt_trans hhi (by decide)) hI4 hM2 ep1 ef2 n (rE blk n X p) 0 (by omega) hq (by decide)).mono9 ?_)
    rintro r9 w9 ⟨⟨h1, h2, h3⟩, h4, h5⟩
    refine ⟨⟨h1, fun z => ?_, fun z => h3 (of_decide_eq_false z)⟩, h4, hO2.hs.tr h5⟩
    have h6 := h2 (of_decide_eq_true z)
    have h7 := of_decide_eq_true z
    rw [Nat.min_eq_right (by omega)]
    exact h6
  · refine sx_RP.cu (as := [.int (bA n X (rE blk n X p))]) (rest2 := []) (st3 := [.int 0]) rfl rfl rfl rfl rfl (cx_221n (fun z => c5 ((bA_digi (fun z => hM.x z)).mp z))) rfl ?_
    refine sx_RP.step (pc2 := 25) (ls2 := [(0, .ref 111), (1, .int (nI lo)), (2, .int (nI hi))]) (st2 := []) (w3 := w3) rfl rfl ?_
    refine sx_RP.step (pc2 := 26) (ls2 := [(0, .ref 111), (1, .int (nI lo)), (2, .int (nI hi))]) (st2 := [.ref 111]) (w3 := w3) rfl rfl ?_
    refine sx_RP.callp (as2 := [.ref 111]) (rest2 := []) rfl rfl (sx_inv_v2 (mi := 220) (k := 245) (st := [.ref 111]) (w := w3) rfl rfl hI4.1.o111 rfl rfl rfl) rfl rfl rfl (y222 (p := rE blk n X p) hI4 ef2 ep1) (show _ = 29 from rfl) ?_
    rintro r4 w8 ⟨⟨rfl, hv6⟩, hI9, hO7⟩
    show sx_RP _ _ _ _ _ [.int 0] _ _
    refine sx_RP.ret (r := (some (.int 0))) rfl rfl ?_
    rw [nm_no (fun i hi => hM.x hi) c5]
    exact ⟨⟨rfl, fun z => absurd z (by decide), fun _ => hv6⟩, hI9, hO2.hs.tr hO7.hs⟩
