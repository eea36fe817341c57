-- isWord of the reference
theorem bA_y {n i : Nat} {X : Nat → Nat} (h : i < n) : bA n X i = nI (X i) := by unfold bA; rw [if_pos h]
theorem so_lett {n p : Nat} {X : Nat → Nat} (hX : ∀ i, i < n → X i < 256) : soT n X p = 1 ↔ (p < n ∧ lett (X p) = true) := by
  unfold soT
  split
  · rename_i h
    rw [sort_1 ⟨X p, hX p h⟩]
    exact ⟨fun z => ⟨h, z⟩, fun z => z.2⟩
  · rename_i h
    exact ⟨fun z => absurd z (by decide), fun z => absurd z.1 h⟩
theorem wd_end {n p : Nat} {X : Nat → Nat} {k : UInt32} (hX : ∀ i, i < n → X i < 256) (hw : 1 ≤ wl k) : wdT n X p k = (decide (rE lett n X p - p = wl k) && chE X p k (wl k) 0) := by
  unfold wdT
  by_cases h : soT n X p = 1
  · obtain ⟨h1, h2⟩ := (so_lett hX).mp h
    have hb : beT n X p = rE lett n X p := by
      unfold beT
      rw [if_pos h1, if_pos ((sort_1 ⟨X p, hX p h1⟩).mpr h2), rE_y h1 h2]
    rw [decide_eq_true h, Bool.true_and, hb]
  · rw [decide_eq_false h, Bool.false_and, rE_n (fun z => h ((so_lett hX).mpr z)), decide_eq_false (by omega), Bool.false_and]
set_option maxRecDepth 20000 in
set_option maxHeartbeats 4000000 in
theorem y214z {xs : Option (List Int32)} {d j : Nat} {w : List sx_C} (hI : WI w) {k : UInt32} {m : Nat} (hk : 100 ≤ k.toNat ∧ k.toNat < 120) (en : sx_sn.getD (k.toNat - 100) 0 = m) (hm : m ≤ 7) (hj : j ≤ 7) : sx_RP xs (d + 3) 214 28 [(0, .ref 111), (1, .float k), (2, .int 0), (3, .int (nI j))] [] w (fun r2 w2 => r2 = some (.int 0) ∧ w2 = w) := by
  refine sx_RP.step (pc2 := 29) (ls2 := [(0, .ref 111), (1, .float k), (2, .int 0), (3, .int (nI j))]) (st2 := [.int (nI j)]) (w3 := w) rfl rfl ?_
  refine sx_RP.step (pc2 := 30) (ls2 := [(0, .ref 111), (1, .float k), (2, .int 0), (3, .int (nI j))]) (st2 := [.float k, .int (nI j)]) (w3 := w) rfl rfl ?_
  refine sx_RP.slen (n := m) hk en rfl rfl rfl (show _ = 33 from rfl) ?_
  refine sx_RP.br (p1 := 70) (l1 := [(0, .ref 111), (1, .float k), (2, .int 0), (3, .int (nI j))]) (s1 := []) (v1 := w) (p2 := 36) (l2 := [(0, .ref 111), (1, .float k), (2, .int 0), (3, .int (nI j))]) (s2 := []) (v2 := w) rfl rfl (fun q1 => ?_) (fun q1 => ?_)
  · replace q1 := of_decide_eq_true q1
    replace q1 := (nI_leI (a := m) (b := j) (by omega) (by omega)).mp q1
    refine sx_RP.step (pc2 := 71) (ls2 := [(0, .ref 111), (1, .float k), (2, .int 0), (3, .int (nI j))]) (st2 := [.int 0]) (w3 := w) rfl rfl ?_
    refine sx_RP.ret (r := (some (.int 0))) rfl rfl ?_
    exact ⟨rfl, rfl⟩
  · replace q1 := of_decide_eq_false q1
    replace q1 := mt (nI_leI (a := m) (b := j) (by omega) (by omega)).mpr q1
    refine sx_RP.step (pc2 := 37) (ls2 := [(0, .ref 111), (1, .float k), (2, .int 0), (3, .int (nI j))]) (st2 := [.int 0]) (w3 := w) rfl rfl ?_
    refine sx_RP.step (pc2 := 70) (ls2 := [(0, .ref 111), (1, .float k), (2, .int 0), (3, .int (nI j))]) (st2 := []) (w3 := w) rfl rfl ?_
    refine sx_RP.step (pc2 := 71) (ls2 := [(0, .ref 111), (1, .float k), (2, .int 0), (3, .int (nI j))]) (st2 := [.int 0]) (w3 := w) rfl rfl ?_
    refine sx_RP.ret (r := (some (.int 0))) rfl rfl ?_
    exact ⟨rfl, rfl⟩
set_option maxRecDepth 20000 in
set_option maxHeartbeats 4000000 in
theorem y214L {xs : Option (List Int32)} {d n p : Nat} {X : Nat → Nat} {w : List sx_C} (hI : WI w) (hM : MT n X w) {k : UInt32} {m : Nat} (hk : 100 ≤ k.toNat ∧ k.toNat < 120) (en : sx_sn.getD (k.toNat - 100) 0 = m) (hm : m ≤ 7) (ep : fi w 111 12 = nI p) (hl : ∀ j, j < m → p + j < n) : ∀ (fz j : Nat), j + fz = m → sx_RP xs (d + 3) 214 28 [(0, .ref 111), (1, .float k), (2, .int 1), (3, .int (nI j))] [] w (fun r2 w2 => r2 = some (.int (b01 (chE X p k fz j))) ∧ w2 = w)
  | 0, j, hj => by
    obtain rfl : j = m := by omega
    refine sx_RP.step (pc2 := 29) (ls2 := [(0, .ref 111), (1, .float k), (2, .int 1), (3, .int (nI j))]) (st2 := [.int (nI j)]) (w3 := w) rfl rfl ?_
    refine sx_RP.step (pc2 := 30) (ls2 := [(0, .ref 111), (1, .float k), (2, .int 1), (3, .int (nI j))]) (st2 := [.float k, .int (nI j)]) (w3 := w) rfl rfl ?_
    refine sx_RP.slen (n := j) hk en rfl rfl rfl (show _ = 33 from rfl) ?_
    refine sx_RP.br (p1 := 70) (l1 := [(0, .ref 111), (1, .float k), (2, .int 1), (3, .int (nI j))]) (s1 := []) (v1 := w) rfl rfl (fun _ => ?_) (fun q => absurd (nI_le (a := j) (b := j) (by omega) (by omega)) (of_decide_eq_false q))
    refine sx_RP.step (pc2 := 71) (ls2 := [(0, .ref 111), (1, .float k), (2, .int 1), (3, .int (nI j))]) (st2 := [.int 1]) (w3 := w) rfl rfl ?_
    refine sx_RP.ret (r := (some (.int 1))) rfl rfl ?_
    exact ⟨rfl, rfl⟩
  | fz + 1, j, hj => by
    have hn := hM.2.1
    have hpj := hl j (by omega)
    refine sx_RP.step (pc2 := 29) (ls2 := [(0, .ref 111), (1, .float k), (2, .int 1), (3, .int (nI j))]) (st2 := [.int (nI j)]) (w3 := w) rfl rfl ?_
    refine sx_RP.step (pc2 := 30) (ls2 := [(0, .ref 111), (1, .float k), (2, .int 1), (3, .int (nI j))]) (st2 := [.float k, .int (nI j)]) (w3 := w) rfl rfl ?_
    refine sx_RP.slen (n := m) hk en rfl rfl rfl (show _ = 33 from rfl) ?_
    refine sx_RP.br (p2 := 36) (l2 := [(0, .ref 111), (1, .float k), (2, .int 1), (3, .int (nI j))]) (s2 := []) (v2 := w) rfl rfl (fun q => absurd (of_decide_eq_true q) (fun z => absurd ((nI_leI (a := m) (b := j) (by omega) (by omega)).mp z) (by omega))) (fun _ => ?_)
    refine sx_RP.step (pc2 := 37) (ls2 := [(0, .ref 111), (1, .float k), (2, .int 1), (3, .int (nI j))]) (st2 := [.int 1]) (w3 := w) rfl rfl ?_
    refine sx_RP.step (pc2 := 40) (ls2 := [(0, .ref 111), (1, .float k), (2, .int 1), (3, .int (nI j))]) (st2 := []) (w3 := w) rfl rfl ?_
    refine sx_RP.step (pc2 := 41) (ls2 := [(0, .ref 111), (1, .float k), (2, .int 1), (3, .int (nI j))]) (st2 := [.ref 111]) (w3 := w) rfl rfl ?_
    refine sx_RP.step (pc2 := 42) (ls2 := [(0, .ref 111), (1, .float k), (2, .int 1), (3, .int (nI j))]) (st2 := [.ref 111, .ref 111]) (w3 := w) rfl rfl ?_
    refine sx_RP.gf (v := .int (fi w 111 12)) rfl rfl hI.1.o111 rfl rfl (show _ = 45 from rfl) ?_
    rw [ep]
    refine sx_RP.step (pc2 := 46) (ls2 := [(0, .ref 111), (1, .float k), (2, .int 1), (3, .int (nI j))]) (st2 := [.int (nI j), .int (nI p), .ref 111]) (w3 := w) rfl rfl ?_
    refine sx_RP.step (pc2 := 47) (ls2 := [(0, .ref 111), (1, .float k), (2, .int 1), (3, .int (nI j))]) (st2 := [.int ((nI p) + (nI j)), .ref 111]) (w3 := w) rfl rfl ?_
    rw [show ((nI p) + (nI j) : Int32) = nI (p + j) from nI_add p j]
    refine sx_RP.cu (as := [.ref 111, .int (nI (p + j))]) (rest2 := []) (st3 := [.int (bA n X (p + j))]) rfl rfl (sx_inv_v2 (mi := 214) (k := 215) (st := [.int (nI (p + j)), .ref 111]) (w := w) rfl rfl hI.1.o111 rfl rfl rfl) rfl rfl (y216 hI hM (by omega)) rfl ?_
    refine sx_RP.step (pc2 := 51) (ls2 := [(0, .ref 111), (1, .float k), (2, .int 1), (3, .int (nI j))]) (st2 := [.float k, .int (bA n X (p + j))]) (w3 := w) rfl rfl ?_
    refine sx_RP.step (pc2 := 52) (ls2 := [(0, .ref 111), (1, .float k), (2, .int 1), (3, .int (nI j))]) (st2 := [.int (nI j), .float k, .int (bA n X (p + j))]) (w3 := w) rfl rfl ?_
    refine sx_RP.schr (n := m) (x := j) hk en hm (show j < m by omega) rfl rfl rfl (show _ = 55 from rfl) ?_
    refine sx_RP.br (p1 := 62) (l1 := [(0, .ref 111), (1, .float k), (2, .int 1), (3, .int (nI j))]) (s1 := []) (v1 := w) (p2 := 58) (l2 := [(0, .ref 111), (1, .float k), (2, .int 1), (3, .int (nI j))]) (s2 := []) (v2 := w) rfl rfl (fun q1 => ?_) (fun q1 => ?_)
    · replace q1 := of_decide_eq_true q1
      refine sx_RP.step (pc2 := 63) (ls2 := [(0, .ref 111), (1, .float k), (2, .int 1), (3, .int (nI j))]) (st2 := [.int 0]) (w3 := w) rfl rfl ?_
      refine sx_RP.step (pc2 := 64) (ls2 := [(2, .int 0), (0, .ref 111), (1, .float k), (3, .int (nI j))]) (st2 := []) (w3 := w) rfl rfl ?_
      refine sx_RP.step (pc2 := 67) (ls2 := [(3, .int ((nI j) + 1)), (2, .int 0), (0, .ref 111), (1, .float k)]) (st2 := []) (w3 := w) rfl rfl ?_
      rw [nI_1 j]
      refine sx_RP.step (pc2 := 28) (ls2 := [(3, .int (nI (j + 1))), (2, .int 0), (0, .ref 111), (1, .float k)]) (st2 := []) (w3 := w) rfl rfl ?_
      unfold chE
      rw [decide_eq_false (show ¬ nI (X (p + j)) = wc k j from fun z => q1 ((bA_y hpj).trans z)), Bool.false_and]
      exact sx_RP.ls (sx_lr.cons rfl (sx_lr.cons rfl (sx_lr.cons rfl (sx_lr.cons rfl sx_lr.nil)))) (y214z hI hk en hm (by omega))
    · replace q1 := Decidable.not_not.mp (of_decide_eq_false q1)
      refine sx_RP.step (pc2 := 59) (ls2 := [(0, .ref 111), (1, .float k), (2, .int 1), (3, .int (nI j))]) (st2 := [.int 1]) (w3 := w) rfl rfl ?_
      refine sx_RP.step (pc2 := 63) (ls2 := [(0, .ref 111), (1, .float k), (2, .int 1), (3, .int (nI j))]) (st2 := [.int 1]) (w3 := w) rfl rfl ?_
      refine sx_RP.step (pc2 := 64) (ls2 := [(2, .int 1), (0, .ref 111), (1, .float k), (3, .int (nI j))]) (st2 := []) (w3 := w) rfl rfl ?_
      refine sx_RP.step (pc2 := 67) (ls2 := [(3, .int ((nI j) + 1)), (2, .int 1), (0, .ref 111), (1, .float k)]) (st2 := []) (w3 := w) rfl rfl ?_
      rw [nI_1 j]
      refine sx_RP.step (pc2 := 28) (ls2 := [(3, .int (nI (j + 1))), (2, .int 1), (0, .ref 111), (1, .float k)]) (st2 := []) (w3 := w) rfl rfl ?_
      unfold chE
      rw [decide_eq_true (show nI (X (p + j)) = wc k j from (bA_y hpj).symm.trans q1), Bool.true_and]
      exact sx_RP.ls (sx_lr.cons rfl (sx_lr.cons rfl (sx_lr.cons rfl (sx_lr.cons rfl sx_lr.nil)))) (y214L hI hM hk en hm ep hl fz (j + 1) (by omega))
set_option maxRecDepth 20000 in
set_option maxHeartbeats 4000000 in
theorem y214 {xs : Option (List Int32)} {d : Nat} {w : List sx_C} (hI : WI w) {n p : Nat} {X : Nat → Nat} (hM : MT n X w) (hp : p ≤ n) (ep : fi w 111 12 = nI p) {k : UInt32} {m : Nat} (hk : 100 ≤ k.toNat ∧ k.toNat < 120) (en : sx_sn.getD (k.toNat - 100) 0 = m) (hm : m ≤ 7) (h1 : 1 ≤ m) : sx_RP xs (d + 3) 214 0 (lv_args 0 [.ref 111, .float k]) [] w (fun r w2 => (r = some (.int (b01 (wdT n X (rE blk n X p) k))) ∧ fi w2 111 12 = nI (rE blk n X p)) ∧ WI w2 ∧ H12 w w2) := by
  have hn := hM.2.1
  refine sx_RP.step (pc2 := 1) (ls2 := [(0, .ref 111), (1, .float k)]) (st2 := [.ref 111]) (w3 := w) rfl rfl ?_
  refine sx_RP.callp (as2 := [.ref 111]) (rest2 := []) rfl rfl (sx_inv_v2 (mi := 214) (k := 224) (st := [.ref 111]) (w := w) rfl rfl hI.1.o111 rfl rfl rfl) rfl rfl rfl (y215 hI hM hp ep) (show _ = 4 from rfl) ?_
  rintro r4 w3 ⟨⟨rfl, ep1⟩, hI4, hO2⟩
  show sx_RP _ _ _ _ _ [] _ _
  have hM2 := hM.hs hO2.hs
  have hq : rE blk n X p ≤ n := rE_le hp
  have hq2 : rE lett n X (rE blk n X p) ≤ n := rE_le hq
  have hq3 := rE_ge (p := lett) (n := n) (X := X) (i := rE blk n X p)
  have hwe := wd_end (p := rE blk n X p) (k := k) (fun i hi => hM.x hi) (show 1 ≤ wl k by rw [show wl k = m from en]; exact h1)
  rw [show wl k = m from en] at hwe
  refine sx_RP.step (pc2 := 5) (ls2 := [(0, .ref 111), (1, .float k)]) (st2 := [.ref 111]) (w3 := w3) rfl rfl ?_
  refine sx_RP.cu (as := [.ref 111]) (rest2 := []) (st3 := [.int (nI (rE lett n X (rE blk n X p)))]) rfl rfl (sx_inv_v2 (mi := 214) (k := 227) (st := [.ref 111]) (w := w3) rfl rfl hI4.1.o111 rfl rfl rfl) rfl rfl (y217 hI4 hM2 hq ep1) rfl ?_
  refine sx_RP.step (pc2 := 9) (ls2 := [(0, .ref 111), (1, .float k)]) (st2 := [.ref 111, .int (nI (rE lett n X (rE blk n X p)))]) (w3 := w3) rfl rfl ?_
  refine sx_RP.gf (v := .int (fi w3 111 12)) rfl rfl hI4.1.o111 rfl rfl (show _ = 12 from rfl) ?_
  rw [ep1]
  refine sx_RP.step (pc2 := 13) (ls2 := [(0, .ref 111), (1, .float k)]) (st2 := [.int ((nI (rE lett n X (rE blk n X p))) - (nI (rE blk n X p)))]) (w3 := w3) rfl rfl ?_
  rw [show ((nI (rE lett n X (rE blk n X p))) - (nI (rE blk n X p)) : Int32) = nI ((rE lett n X (rE blk n X p)) - (rE blk n X p)) from nI_sub (a := (rE lett n X (rE blk n X p))) (b := (rE blk n X p)) (by omega)]
  refine sx_RP.step (pc2 := 14) (ls2 := [(0, .ref 111), (1, .float k)]) (st2 := [.float k, .int (nI ((rE lett n X (rE blk n X p)) - (rE blk n X p)))]) (w3 := w3) rfl rfl ?_
  refine sx_RP.slen (n := m) hk en rfl rfl rfl (show _ = 17 from rfl) ?_
  refine sx_RP.br (p1 := 24) (l1 := [(0, .ref 111), (1, .float k)]) (s1 := []) (v1 := w3) (p2 := 20) (l2 := [(0, .ref 111), (1, .float k)]) (s2 := []) (v2 := w3) rfl rfl (fun q5 => ?_) (fun q5 => ?_)
  · replace q5 := of_decide_eq_true q5
    replace q5 := mt (nI_eq (a := ((rE lett n X (rE blk n X p)) - (rE blk n X p))) (b := m) (by omega) (by omega)).mpr q5
    refine sx_RP.step (pc2 := 25) (ls2 := [(0, .ref 111), (1, .float k)]) (st2 := [.int 0]) (w3 := w3) rfl rfl ?_
    refine sx_RP.step (pc2 := 26) (ls2 := [(2, .int 0), (0, .ref 111), (1, .float k)]) (st2 := []) (w3 := w3) rfl rfl ?_
    refine sx_RP.step (pc2 := 27) (ls2 := [(2, .int 0), (0, .ref 111), (1, .float k)]) (st2 := [.int 0]) (w3 := w3) rfl rfl ?_
    refine sx_RP.step (pc2 := 28) (ls2 := [(3, .int 0), (2, .int 0), (0, .ref 111), (1, .float k)]) (st2 := []) (w3 := w3) rfl rfl ?_
    rw [hwe, decide_eq_false (show ¬ rE lett n X (rE blk n X p) - rE blk n X p = m by omega), Bool.false_and]
    refine sx_RP.ls (sx_lr.cons rfl (sx_lr.cons rfl (sx_lr.cons rfl (sx_lr.cons rfl sx_lr.nil)))) ((y214z (j := 0) hI4 hk en hm (Nat.zero_le _)).mono9 ?_)
    rintro r9 w9 ⟨rfl, rfl⟩
    exact ⟨⟨rfl, ep1⟩, hI4, hO2⟩
  · replace q5 := Decidable.not_not.mp (of_decide_eq_false q5)
    replace q5 := (nI_eq (a := ((rE lett n X (rE blk n X p)) - (rE blk n X p))) (b := m) (by omega) (by omega)).mp q5
    refine sx_RP.step (pc2 := 21) (ls2 := [(0, .ref 111), (1, .float k)]) (st2 := [.int 1]) (w3 := w3) rfl rfl ?_
    refine sx_RP.step (pc2 := 25) (ls2 := [(0, .ref 111), (1, .float k)]) (st2 := [.int 1]) (w3 := w3) rfl rfl ?_
    refine sx_RP.step (pc2 := 26) (ls2 := [(2, .int 1), (0, .ref 111), (1, .float k)]) (st2 := []) (w3 := w3) rfl rfl ?_
    refine sx_RP.step (pc2 := 27) (ls2 := [(2, .int 1), (0, .ref 111), (1, .float k)]) (st2 := [.int 0]) (w3 := w3) rfl rfl ?_
    refine sx_RP.step (pc2 := 28) (ls2 := [(3, .int 0), (2, .int 1), (0, .ref 111), (1, .float k)]) (st2 := []) (w3 := w3) rfl rfl ?_
    rw [hwe, decide_eq_true (show rE lett n X (rE blk n X p) - rE blk n X p = m by omega), Bool.true_and]
    refine sx_RP.ls (sx_lr.cons rfl (sx_lr.cons rfl (sx_lr.cons rfl (sx_lr.cons rfl sx_lr.nil)))) ((y214L hI4 hM2 hk en hm ep1 (fun j hj => by omega) m 0 (by omega)).mono9 ?_)
    rintro r9 w9 ⟨rfl, rfl⟩
    exact ⟨⟨rfl, ep1⟩, hI4, hO2⟩
/-- fault alone may change -/
def H13 (w w2 : List sx_C) : Prop := (∀ a, a ≠ 111 → w2[a]? = w[a]?) ∧ ∀ j, j ≠ 13 → fi w2 111 j = fi w 111 j
theorem H13.hs {w w2 : List sx_C} (h : H13 w w2) : HS w w2 := ⟨h.1, fun j hj => h.2 j (by omega)⟩
set_option maxRecDepth 20000 in
set_option maxHeartbeats 4000000 in
theorem y222 {xs : Option (List Int32)} {d : Nat} {w : List sx_C} (hI : WI w) {p : Nat} (ef : fi w 111 13 = -1) (ep : fi w 111 12 = nI p) : sx_RP xs d 222 0 (lv_args 0 [.ref 111]) [] w (fun r w2 => (r = some (.int 0) ∧ fi w2 111 13 = nI p) ∧ WI w2 ∧ H13 w w2) := by
  refine sx_RP.step (pc2 := 1) (ls2 := [(0, .ref 111)]) (st2 := [.ref 111]) (w3 := w) rfl rfl ?_
  refine sx_RP.step (pc2 := 2) (ls2 := [(0, .ref 111)]) (st2 := [.ref 111, .ref 111]) (w3 := w) rfl rfl ?_
  refine sx_RP.gf (v := .int (fi w 111 13)) rfl rfl hI.1.o111 rfl rfl (show _ = 5 from rfl) ?_
  rw [ef]
  refine sx_RP.step (pc2 := 8) (ls2 := [(0, .ref 111)]) (st2 := [.ref 111]) (w3 := w) rfl rfl ?_
  refine sx_RP.step (pc2 := 9) (ls2 := [(0, .ref 111)]) (st2 := [.ref 111, .ref 111]) (w3 := w) rfl rfl ?_
  refine sx_RP.gf (v := .int (fi w 111 12)) rfl rfl hI.1.o111 rfl rfl (show _ = 12 from rfl) ?_
  rw [ep]
  refine sx_RP.step (pc2 := 19) (ls2 := [(0, .ref 111)]) (st2 := [.int (nI p), .ref 111]) (w3 := w) rfl rfl ?_
  refine sx_RP.pm (k := 13) hI EM.rf rfl rfl (by decide) rfl trivial (show _ = 22 from rfl) (fun w1 hI2 hE3 hv4 hr5 hs6 => ?_)
  refine sx_RP.step (pc2 := 23) (ls2 := [(0, .ref 111)]) (st2 := [.int 0]) (w3 := w1) rfl rfl ?_
  refine sx_RP.ret (r := (some (.int 0))) rfl rfl ?_
  exact ⟨⟨rfl, hv4⟩, hI2, ⟨hs6, hr5⟩⟩
theorem wd_to {n p : Nat} {X : Nat → Nat} {k : UInt32} (hX : ∀ i, i < n → X i < 256) (hp : p ≤ n) (hw : 1 ≤ wl k) (h : wdT n X p k = true) : p + wl k = beT n X p ∧ p + wl k ≤ n := by
  have hb := beT_ge (n := n) (p := p) (X := X)
  have hl := beT_le (X := X) hp
  unfold wdT at h
  rw [Bool.and_eq_true, Bool.and_eq_true, decide_eq_true_iff, decide_eq_true_iff] at h
  omega
set_option maxRecDepth 20000 in
set_option maxHeartbeats 4000000 in
theorem y213 {xs : Option (List Int32)} {d : Nat} {w : List sx_C} (hI : WI w) {n p : Nat} {X : Nat → Nat} (hM : MT n X w) (hp : p ≤ n) (ep : fi w 111 12 = nI p) (ef : fi w 111 13 = -1) {k : UInt32} {m : Nat} (hk : 100 ≤ k.toNat ∧ k.toNat < 120) (en : sx_sn.getD (k.toNat - 100) 0 = m) (hm : m ≤ 7) (h1 : 1 ≤ m) : sx_RP xs (d + 4) 213 0 (lv_args 0 [.ref 111, .float k]) [] w (fun r w2 => (r = some (.int (b01 (wdT n X (rE blk n X p) k))) ∧ fi w2 111 12 = nI (rE blk n X p + cond (wdT n X (rE blk n X p) k) m 0)) ∧ WI w2 ∧ H12 w w2) := by
  have hn := hM.2.1
  refine sx_RP.step (pc2 := 1) (ls2 := [(0, .ref 111), (1, .float k)]) (st2 := [.ref 111]) (w3 := w) rfl rfl ?_
  refine sx_RP.gf (v := .int (fi w 111 13)) rfl rfl hI.1.o111 rfl rfl (show _ = 4 from rfl) ?_
  rw [ef]
  refine sx_RP.step (pc2 := 7) (ls2 := [(0, .ref 111), (1, .float k)]) (st2 := []) (w3 := w) rfl rfl ?_
  refine sx_RP.step (pc2 := 8) (ls2 := [(0, .ref 111), (1, .float k)]) (st2 := [.ref 111]) (w3 := w) rfl rfl ?_
  refine sx_RP.step (pc2 := 9) (ls2 := [(0, .ref 111), (1, .float k)]) (st2 := [.float k, .ref 111]) (w3 := w) rfl rfl ?_
  refine sx_RP.callp (as2 := [.ref 111, .float k]) (rest2 := []) rfl rfl (sx_inv_v2 (mi := 213) (k := 239) (st := [.float k, .ref 111]) (w := w) rfl rfl hI.1.o111 rfl rfl rfl) rfl rfl rfl (y214 hI hM hp ep hk en hm h1) (show _ = 12 from rfl) ?_
  rintro r4 w3 ⟨⟨rfl, ep1⟩, hI4, hO2⟩
  show sx_RP _ _ _ _ _ [.int (b01 (wdT n X (rE blk n X p) k))] _ _
  have hq : rE blk n X p ≤ n := rE_le hp
  have hwt := wd_to (p := rE blk n X p) (k := k) (fun i hi => hM.x hi) hq (show 1 ≤ wl k by rw [show wl k = m from en]; exact h1)
  rw [show wl k = m from en] at hwt
  refine sx_RP.br (p1 := 19) (l1 := [(0, .ref 111), (1, .float k)]) (s1 := []) (v1 := w3) (p2 := 15) (l2 := [(0, .ref 111), (1, .float k)]) (s2 := []) (v2 := w3) rfl rfl (fun q5 => ?_) (fun q5 => ?_)
  · replace q5 := of_decide_eq_true q5
    refine sx_RP.step (pc2 := 20) (ls2 := [(0, .ref 111), (1, .float k)]) (st2 := [.int 0]) (w3 := w3) rfl rfl ?_
    refine sx_RP.step (pc2 := 21) (ls2 := [(2, .int 0), (0, .ref 111), (1, .float k)]) (st2 := []) (w3 := w3) rfl rfl ?_
    refine sx_RP.step (pc2 := 22) (ls2 := [(2, .int 0), (0, .ref 111), (1, .float k)]) (st2 := [.ref 111]) (w3 := w3) rfl rfl ?_
    refine sx_RP.step (pc2 := 23) (ls2 := [(2, .int 0), (0, .ref 111), (1, .float k)]) (st2 := [.ref 111, .ref 111]) (w3 := w3) rfl rfl ?_
    refine sx_RP.gf (v := .int (fi w3 111 12)) rfl rfl hI4.1.o111 rfl rfl (show _ = 26 from rfl) ?_
    rw [ep1]
    refine sx_RP.step (pc2 := 27) (ls2 := [(2, .int 0), (0, .ref 111), (1, .float k)]) (st2 := [.int 0, .int (nI (rE blk n X p)), .ref 111]) (w3 := w3) rfl rfl ?_
    refine sx_RP.step (pc2 := 37) (ls2 := [(2, .int 0), (0, .ref 111), (1, .float k)]) (st2 := [.int (nI (rE blk n X p)), .ref 111]) (w3 := w3) rfl rfl ?_
    refine sx_RP.step (pc2 := 38) (ls2 := [(2, .int 0), (0, .ref 111), (1, .float k)]) (st2 := [.int 0, .int (nI (rE blk n X p)), .ref 111]) (w3 := w3) rfl rfl ?_
    refine sx_RP.step (pc2 := 39) (ls2 := [(2, .int 0), (0, .ref 111), (1, .float k)]) (st2 := [.int ((nI (rE blk n X p)) + 0), .ref 111]) (w3 := w3) rfl rfl ?_
    rw [show ((nI (rE blk n X p)) + 0 : Int32) = nI ((rE blk n X p) + 0) from nI_add (rE blk n X p) 0]
    refine sx_RP.pm (k := 12) hI4 EM.rf rfl rfl (by decide) rfl (inR.n (show ((rE blk n X p) + 0) ≤ 120 by omega)) (show _ = 42 from rfl) (fun w6 hI7 hE8 hv9 hr10 hs11 => ?_)
    refine sx_RP.step (pc2 := 43) (ls2 := [(2, .int 0), (0, .ref 111), (1, .float k)]) (st2 := [.int 0]) (w3 := w6) rfl rfl ?_
    refine sx_RP.ret (r := (some (.int 0))) rfl rfl ?_
    rw [b01_f q5]
    exact ⟨⟨rfl, hv9⟩, hI7, hO2.tr ⟨hs11, hr10⟩⟩
  · replace q5 := of_decide_eq_false q5
    refine sx_RP.step (pc2 := 16) (ls2 := [(0, .ref 111), (1, .float k)]) (st2 := [.int 1]) (w3 := w3) rfl rfl ?_
    refine sx_RP.step (pc2 := 20) (ls2 := [(0, .ref 111), (1, .float k)]) (st2 := [.int 1]) (w3 := w3) rfl rfl ?_
    refine sx_RP.step (pc2 := 21) (ls2 := [(2, .int 1), (0, .ref 111), (1, .float k)]) (st2 := []) (w3 := w3) rfl rfl ?_
    refine sx_RP.step (pc2 := 22) (ls2 := [(2, .int 1), (0, .ref 111), (1, .float k)]) (st2 := [.ref 111]) (w3 := w3) rfl rfl ?_
    refine sx_RP.step (pc2 := 23) (ls2 := [(2, .int 1), (0, .ref 111), (1, .float k)]) (st2 := [.ref 111, .ref 111]) (w3 := w3) rfl rfl ?_
    refine sx_RP.gf (v := .int (fi w3 111 12)) rfl rfl hI4.1.o111 rfl rfl (show _ = 26 from rfl) ?_
    rw [ep1]
    refine sx_RP.step (pc2 := 27) (ls2 := [(2, .int 1), (0, .ref 111), (1, .float k)]) (st2 := [.int 1, .int (nI (rE blk n X p)), .ref 111]) (w3 := w3) rfl rfl ?_
    refine sx_RP.step (pc2 := 30) (ls2 := [(2, .int 1), (0, .ref 111), (1, .float k)]) (st2 := [.int (nI (rE blk n X p)), .ref 111]) (w3 := w3) rfl rfl ?_
    refine sx_RP.step (pc2 := 31) (ls2 := [(2, .int 1), (0, .ref 111), (1, .float k)]) (st2 := [.float k, .int (nI (rE blk n X p)), .ref 111]) (w3 := w3) rfl rfl ?_
    refine sx_RP.slen (n := m) hk en rfl rfl rfl (show _ = 34 from rfl) ?_
    refine sx_RP.step (pc2 := 38) (ls2 := [(2, .int 1), (0, .ref 111), (1, .float k)]) (st2 := [.int (nI m), .int (nI (rE blk n X p)), .ref 111]) (w3 := w3) rfl rfl ?_
    refine sx_RP.step (pc2 := 39) (ls2 := [(2, .int 1), (0, .ref 111), (1, .float k)]) (st2 := [.int ((nI (rE blk n X p)) + (nI m)), .ref 111]) (w3 := w3) rfl rfl ?_
    rw [show ((nI (rE blk n X p)) + (nI m) : Int32) = nI ((rE blk n X p) + m) from nI_add (rE blk n X p) m]
    have hwx := hwt (b01_t q5)
    refine sx_RP.pm (k := 12) hI4 EM.rf rfl rfl (by decide) rfl (inR.n (show ((rE blk n X p) + m) ≤ 120 by omega)) (show _ = 42 from rfl) (fun w12 hI13 hE14 hv15 hr16 hs17 => ?_)
    refine sx_RP.step (pc2 := 43) (ls2 := [(2, .int 1), (0, .ref 111), (1, .float k)]) (st2 := [.int 1]) (w3 := w12) rfl rfl ?_
    refine sx_RP.ret (r := (some (.int 1))) rfl rfl ?_
    rw [b01_t q5]
    exact ⟨⟨rfl, hv15⟩, hI13, hO2.tr ⟨hs17, hr16⟩⟩
