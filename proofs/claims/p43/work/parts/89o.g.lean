-- 89o.siege.lean.txt
section
theorem bA_y {n i : Nat} {X : Nat → Nat} (h : i < n) : bA n X i = nI (X i) := by unfold bA; rw [if_pos h]
theorem so_lett {n p : Nat} {X : Nat → Nat} (hX : ∀ i, i < n → X i < 256) : soT n X p = 1 ↔ (p < n ∧ lett (X p) = true) := by
  unfold soT
  split
  · rename_i h
    rw [sort_1 ⟨X p, hX p h⟩]
    exact ⟨fun z => ⟨h, z⟩, fun z => z.2⟩
  · rename_i h
    exact ⟨fun z => absurd z (by decide), fun z => absurd z.1 h⟩
theorem wd_end {n p : Nat} {X : Nat → Nat} {k : UInt32} (hX : ∀ i, i < n → X i < 256) (hw : 1 ≤ wl k) : wdT n X p k = (decide (rE lett n X p - p = wl k) && chE X p k (wl k) 0) := by
  unfold wdT
  by_cases h : soT n X p = 1
  · obtain ⟨h1, h2⟩ := (so_lett hX).mp h
    have hb : beT n X p = rE lett n X p := by
      unfold beT
      rw [if_pos h1, if_pos ((sort_1 ⟨X p, hX p h1⟩).mpr h2), rE_y h1 h2]
    rw [decide_eq_true h, Bool.true_and, hb]
  · rw [decide_eq_false h, Bool.false_and, rE_n (fun z => h ((so_lett hX).mpr z)), decide_eq_false (by omega), Bool.false_and]
set_option maxRecDepth 20000 in
set_option maxHeartbeats 4000000 in
theorem y214z {xs : Option (List Int32)} {d j : Nat} {w : List sx_C} (hI : WI w) {k : UInt32} {m : Nat} (hk : 100 ≤ k.toNat ∧ k.toNat < 120) (en : sx_sn.getD (k.toNat - 100) 0 = m) (hm : m ≤ 7) (hj : j ≤ 7) : sx_RP xs (d + 3) 214 28 [(0, .ref 111), (1, .float k), (2, .int 0), (3, .int (nI j))] [] w (fun r2 w2 => r2 = some (.int 0) ∧ w2 = w) := by
  refine sx_RP.step (pc2 := 29) (ls2 := [(0, .ref 111), (1, .float k), (2, .int 0), (3, .int (nI j))]) (st2 := [.int (nI j)]) (w3 := w) rfl rfl ?_
  refine sx_RP.step (pc2 := 30) (ls2 := [(0, .ref 111), (1, .float k), (2, .int 0), (3, .int (nI j))]) (st2 := [.float k, .int (nI j)]) (w3 := w) rfl rfl ?_
  refine sx_RP.slen (n := m) hk en rfl rfl rfl (show _ = 33 from rfl) ?_
  refine sx_RP.br (p1 := 70) (l1 := [(0, .ref 111), (1, .float k), (2, .int 0), (3, .int (nI j))]) (s1 := []) (v1 := w) (p2 := 36) (l2 := [(0, .ref 111), (1, .float k), (2, .int 0), (3, .int (nI j))]) (s2 := []) (v2 := w) rfl rfl (fun q1 => ?_) (fun q1 => ?_)
  · replace q1 := of_decide_eq_true q1
    replace q1 := (nI_leI (a := m) (b := j) (by omega) (by omega)).mp q1
    refine sx_RP.step (pc2 := 71) (ls2 := [(0, .ref 111), (1, .float k), (2, .int 0), (3, .int (nI j))]) (st2 := [.int 0]) (w3 := w) rfl rfl ?_
    refine sx_RP.ret (r := (some (.int 0))) rfl rfl ?_
    exact ⟨rfl, rfl⟩
  · replace q1 := of_decide_eq_false q1
    replace q1 := mt (nI_leI (a := m) (b := j) (by omega) (by omega)).mpr q1
    refine sx_RP.step (pc2 := 37) (ls2 := [(0, .ref 111), (1, .float k), (2, .int 0), (3, .int (nI j))]) (st2 := [.int 0]) (w3 := w) rfl rfl ?_
    refine sx_RP.step (pc2 := 70) (ls2 := [(0, .ref 111), (1, .float k), (2, .int 0), (3, .int (nI j))]) (st2 := []) (w3 := w) rfl rfl ?_
    refine sx_RP.step (pc2 := 71) (ls2 := [(0, .ref 111), (1, .float k), (2, .int 0), (3, .int (nI j))]) (st2 := [.int 0]) (w3 := w) rfl rfl ?_
    refine sx_RP.ret (r := (some (.int 0))) rfl rfl ?_
    exact ⟨rfl, rfl⟩
set_option maxRecDepth 20000 in
set_option maxHeartbeats 4000000 in
theorem y214L {xs : Option (List Int32)} {d n p : Nat} {X : Nat → Nat} {w : List sx_C} (hI : WI w) (hM : MT n X w) {k : UInt32} {m : Nat} (hk : 100 ≤ k.toNat ∧ k.toNat < 120) (en : sx_sn.getD (k.toNat - 100) 0 = m) (hm : m ≤ 7) (ep : fi w 111 12 = nI p) (hl : ∀ j, j < m → p + j < n) : ∀ (fz j : Nat), j + fz = m → sx_RP xs (d + 3) 214 28 [(0, .ref 111), (1, .float k), (2, .int 1), (3, .int (nI j))] [] w (fun r2 w2 => r2 = some (.int (b01 (chE X p k fz j))) ∧ w2 = w)
  | 0, j, hj => by
    obtain rfl : j = m := by omega
    refine sx_RP.step (pc2 := 29) (ls2 := [(0, .ref 111), (1, .float k), (2, .int 1), (3, .int (nI j))]) (st2 := [.int (nI j)]) (w3 := w) rfl rfl ?_
    refine sx_RP.step (pc2 := 30) (ls2 := [(0, .ref 111), (1, .float k), (2, .int 1), (3, .int (nI j))]) (st2 := [.float k, .int (nI j)]) (w3 := w) rfl rfl ?_
    refine sx_RP.slen (n := j) hk en rfl rfl rfl (show _ = 33 from rfl) ?_
    refine sx_RP.br (p1 := 70) (l1 := [(0, .ref 111), (1, .float k), (2, .int 1), (3, .int (nI j))]) (s1 := []) (v1 := w) rfl rfl (fun _ => ?_) (fun q => absurd (nI_le (a := j) (b := j) (by omega) (by omega)) (of_decide_eq_false q))
    refine sx_RP.step (pc2 := 71) (ls2 := [(0, .ref 111), (1, .float k), (2, .int 1), (3, .int (nI j))]) (st2 := [.int 1]) (w3 := w) rfl rfl ?_
    refine sx_RP.ret (r := (some (.int 1))) rfl rfl ?_
    exact ⟨rfl, rfl⟩
  | fz + 1, j, hj => by
    have hn := hM.2.1
    have hpj := hl j (by omega)
    refine sx_RP.step (pc2 := 29) (ls2 := [(0, .ref 111), (1, .float k), (2, .int 1), (3, .int (nI j))]) (st2 := [.int (nI j)]) (w3 := w) rfl rfl ?_
    refine sx_RP.step (pc2 := 30) (ls2 := [(0, .ref 111), (1, .float k), (2, .int 1), (3, .int (nI j))]) (st2 := [.float k, .int (nI j)]) (w3 := w) rfl rfl ?_
    refine sx_RP.slen (n := m) hk en rfl rfl rfl (show _ = 33 from rfl) ?_
    refine sx_RP.br (p2 := 36) (l2 := [(0, .ref 111), (1, .float k), (2, .int 1), (3, .int (nI j))]) (s2 := []) (v2 := w) rfl rfl (fun q => absurd (of_decide_eq_true q) (fun z => absurd ((nI_leI (a := m) (b := j) (by omega) (by omega)).mp z) (by omega))) (fun _ => ?_)
    refine sx_RP.step (pc2 := 37) (ls2 := [(0, .ref 111), (1, .float k), (2, .int 1), (3, .int (nI j))]) (st2 := [.int 1]) (w3 := w) rfl rfl ?_
    refine sx_RP.step (pc2 := 40) (ls2 := [(0, .ref 111), (1, .float k), (2, .int 1), (3, .int (nI j))]) (st2 := []) (w3 := w) rfl rfl ?_
    refine sx_RP.step (pc2 := 41) (ls2 := [(0, .ref 111), (1, .float k), (2, .int 1), (3, .int (nI j))]) (st2 := [.ref 111]) (w3 := w) rfl rfl ?_
    refine sx_RP.step (pc2 := 42) (ls2 := [(0, .ref 111), (1, .float k), (2, .int 1), (3, .int (nI j))]) (st2 := [.ref 111, .ref 111]) (w3 := w) rfl rfl ?_
    refine sx_RP.gf (v := .int (fi w 111 12)) rfl rfl hI.1.o111 rfl rfl (show _ = 45 from rfl) ?_
    rw [ep]
    refine sx_RP.step (pc2 := 46) (ls2 := [(0, .ref 111), (1, .float k), (2, .int 1), (3, .int (nI j))]) (st2 := [.int (nI j), .int (nI p), .ref 111]) (w3 := w) rfl rfl ?_
    refine sx_RP.step (pc2 := 47) (ls2 := [(0, .ref 111), (1, .float k), (2, .int 1), (3, .int (nI j))]) (st2 := [.int ((nI p) + (nI j)), .ref 111]) (w3 := w) rfl rfl ?_
    rw [show ((nI p) + (nI j) : Int32) = nI (p + j) from nI_add p j]
    refine sx_RP.cu (as := [.ref 111, .int (nI (p + j))]) (rest2 := []) (st3 := [.int (bA n X (p + j))]) rfl rfl (sx_inv_v2 (mi := 214) (k := 215) (st := [.int (nI (p + j)), .ref 111]) (w := w) rfl rfl hI.1.o111 rfl rfl rfl) rfl rfl (y216 hI hM (by omega)) rfl ?_
    refine sx_RP.step (pc2 := 51) (ls2 := [(0, .ref 111), (1, .float k), (2, .int 1), (3, .int (nI j))]) (st2 := [.float k, .int (bA n X (p + j))]) (w3 := w) rfl rfl ?_
    refine sx_RP.step (pc2 := 52) (ls2 := [(0, .ref 111), (1, .float k), (2, .int 1), (3, .int (nI j))]) (st2 := [.int (nI j), .float k, .int (bA n X (p + j))]) (w3 := w) rfl rfl ?_
    refine sx_RP.schr (n := m) (x := j) hk en hm (show j < m by omega) rfl rfl rfl (show _ = 55 from rfl) ?_
    refine sx_RP.br (p1 := 62) (l1 := [(0, .ref 111), (1, .float k), (2, .int 1), (3, .int (nI j))]) (s1 := []) (v1 := w) (p2 := 58) (l2 := [(0, .ref 111), (1, .float k), (2, .int 1), (3, .int (nI j))]) (s2 := []) (v2 := w) rfl rfl (fun q1 => ?_) (fun q1 => ?_)
    · replace q1 := of_decide_eq_true q1
      refine sx_RP.step (pc2 := 63) (ls2 := [(0, .ref 111), (1, .float k), (2, .int 1), (3, .int (nI j))]) (st2 := [.int 0]) (w3 := w) rfl rfl ?_
      refine sx_RP.step (pc2 := 64) (ls2 := [(2, .int 0), (0, .ref 111), (1, .float k), (3, .int (nI j))]) (st2 := []) (w3 := w) rfl rfl ?_
      refine sx_RP.step (pc2 := 67) (ls2 := [(3, .int ((nI j) + 1)), (2, .int 0), (0, .ref 111), (1, .float k)]) (st2 := []) (w3 := w) rfl rfl ?_
      rw [nI_1 j]
      refine sx_RP.step (pc2 := 28) (ls2 := [(3, .int (nI (j + 1))), (2, .int 0), (0, .ref 111), (1, .float k)]) (st2 := []) (w3 := w) rfl rfl ?_
      unfold chE
      rw [decide_eq_false (show ¬ nI (X (p + j)) = wc k j from fun z => q1 ((bA_y hpj).trans z)), Bool.false_and]
      exact sx_RP.ls (sx_lr.cons rfl (sx_lr.cons rfl (sx_lr.cons rfl (sx_lr.cons rfl sx_lr.nil)))) (y214z hI hk en hm (by omega))
    · replace q1 := Decidable.not_not.mp (of_decide_eq_false q1)
      refine sx_RP.step (pc2 := 59) (ls2 := [(0, .ref 111), (1, .float k), (2, .int 1), (3, .int (nI j))]) (st2 := [.int 1]) (w3 := w) rfl rfl ?_
      refine sx_RP.step (pc2 := 63) (ls2 := [(0, .ref 111), (1, .float k), (2, .int 1), (3, .int (nI j))]) (st2 := [.int 1]) (w3 := w) rfl rfl ?_
      refine sx_RP.step (pc2 := 64) (ls2 := [(2, .int 1), (0, .ref 111), (1, .float k), (3, .int (nI j))]) (st2 := []) (w3 := w) rfl rfl ?_
      refine sx_RP.step (pc2 := 67) (ls2 := [(3, .int ((nI j) + 1)), (2, .int 1), (0, .ref 111), (1, .float k)]) (st2 := []) (w3 := w) rfl rfl ?_
      rw [nI_1 j]
      refine sx_RP.step (pc2 := 28) (ls2 := [(3, .int (nI (j + 1))), (2, .int 1), (0, .ref 111), (1, .float k)]) (st2 := []) (w3 := w) rfl rfl ?_
      unfold chE
      rw [decide_eq_true (show nI (X (p + j)) = wc k j from (bA_y hpj).symm.trans q1), Bool.true_and]
      exact sx_RP.ls (sx_lr.cons rfl (sx_lr.cons rfl (sx_lr.cons rfl (sx_lr.cons rfl sx_lr.nil)))) (y214L hI hM hk en hm ep hl fz (j + 1) (by omega))
set_option maxRecDepth 20000 in
set_option maxHeartbeats 4000000 in
theorem y214 {xs : Option (List Int32)} {d : Nat} {w : List sx_C} (hI : WI w) {n p : Nat} {X : Nat → Nat} (hM : MT n X w) (hp : p ≤ n) (ep : fi w 111 12 = nI p) {k : UInt32} {m : Nat} (hk : 100 ≤ k.toNat ∧ k.toNat < 120) (en : sx_sn.getD (k.toNat - 100) 0 = m) (hm : m ≤ 7) (h1 : 1 ≤ m) : sx_RP xs (d + 3) 214 0 (lv_args 0 [.ref 111, .float k]) [] w (fun r w2 => (r = some (.int (b01 (wdT n X (rE blk n X p) k))) ∧ fi w2 111 12 = nI (rE blk n X p)) ∧ WI w2 ∧ H12 w w2) := by
  have hn := hM.2.1
  refine sx_RP.step (pc2 := 1) (ls2 := [(0, .ref 111), (1, .float k)]) (st2 := [.ref 111]) (w3 := w) rfl rfl ?_
  refine sx_RP.callp (as2 := [.ref 111]) (rest2 := []) rfl rfl (sx_inv_v2 (mi := 214) (k := 224) (st := [.ref 111]) (w := w) rfl rfl hI.1.o111 rfl rfl rfl) rfl rfl rfl (y215 hI hM hp ep) (show _ = 4 from rfl) ?_
  rintro r4 w3 ⟨⟨rfl, ep1⟩, hI4, hO2⟩
  show sx_RP _ _ _ _ _ [] _ _
  have hM2 := hM.hs hO2.hs
  have hq : rE blk n X p ≤ n := rE_le hp
  have hq2 : rE lett n X (rE blk n X p) ≤ n := rE_le hq
  have hq3 := rE_ge (p := lett) (n := n) (X := X) (i := rE blk n X p)
  have hwe := wd_end (p := rE blk n X p) (k := k) (fun i hi => hM.x hi) (show 1 ≤ wl k by rw [show wl k = m from en]; exact h1)
  rw [show wl k = m from en] at hwe
  refine sx_RP.step (pc2 := 5) (ls2 := [(0, .ref 111), (1, .float k)]) (st2 := [.ref 111]) (w3 := w3) rfl rfl ?_
  refine sx_RP.cu (as := [.ref 111]) (rest2 := []) (st3 := [.int (nI (rE lett n X (rE blk n X p)))]) rfl rfl (sx_inv_v2 (mi := 214) (k := 227) (st := [.ref 111]) (w := w3) rfl rfl hI4.1.o111 rfl rfl rfl) rfl rfl (y217 hI4 hM2 hq ep1) rfl ?_
  refine sx_RP.step (pc2 := 9) (ls2 := [(0, .ref 111), (1, .float k)]) (st2 := [.ref 111, .int (nI (rE lett n X (rE blk n X p)))]) (w3 := w3) rfl rfl ?_
  refine sx_RP.gf (v := .int (fi w3 111 12)) rfl rfl hI4.1.o111 rfl rfl (show _ = 12 from rfl) ?_
  rw [ep1]
  refine sx_RP.step (pc2 := 13) (ls2 := [(0, .ref 111), (1, .float k)]) (st2 := [.int ((nI (rE lett n X (rE blk n X p))) - (nI (rE blk n X p)))]) (w3 := w3) rfl rfl ?_
  rw [show ((nI (rE lett n X (rE blk n X p))) - (nI (rE blk n X p)) : Int32) = nI ((rE lett n X (rE blk n X p)) - (rE blk n X p)) from nI_sub (a := (rE lett n X (rE blk n X p))) (b := (rE blk n X p)) (by omega)]
  refine sx_RP.step (pc2 := 14) (ls2 := [(0, .ref 111), (1, .float k)]) (st2 := [.float k, .int (nI ((rE lett n X (rE blk n X p)) - (rE blk n X p)))]) (w3 := w3) rfl rfl ?_
  refine sx_RP.slen (n := m) hk en rfl rfl rfl (show _ = 17 from rfl) ?_
  refine sx_RP.br (p1 := 24) (l1 := [(0, .ref 111), (1, .float k)]) (s1 := []) (v1 := w3) (p2 := 20) (l2 := [(0, .ref 111), (1, .float k)]) (s2 := []) (v2 := w3) rfl rfl (fun q5 => ?_) (fun q5 => ?_)
  · replace q5 := of_decide_eq_true q5
    replace q5 := mt (nI_eq (a := ((rE lett n X (rE blk n X p)) - (rE blk n X p))) (b := m) (by omega) (by omega)).mpr q5
    refine sx_RP.step (pc2 := 25) (ls2 := [(0, .ref 111), (1, .float k)]) (st2 := [.int 0]) (w3 := w3) rfl rfl ?_
    refine sx_RP.step (pc2 := 26) (ls2 := [(2, .int 0), (0, .ref 111), (1, .float k)]) (st2 := []) (w3 := w3) rfl rfl ?_
    refine sx_RP.step (pc2 := 27) (ls2 := [(2, .int 0), (0, .ref 111), (1, .float k)]) (st2 := [.int 0]) (w3 := w3) rfl rfl ?_
    refine sx_RP.step (pc2 := 28) (ls2 := [(3, .int 0), (2, .int 0), (0, .ref 111), (1, .float k)]) (st2 := []) (w3 := w3) rfl rfl ?_
    rw [hwe, decide_eq_false (show ¬ rE lett n X (rE blk n X p) - rE blk n X p = m by omega), Bool.false_and]
    refine sx_RP.ls (sx_lr.cons rfl (sx_lr.cons rfl (sx_lr.cons rfl (sx_lr.cons rfl sx_lr.nil)))) ((y214z (j := 0) hI4 hk en hm (Nat.zero_le _)).mono9 ?_)
    rintro r9 w9 ⟨rfl, rfl⟩
    exact ⟨⟨rfl, ep1⟩, hI4, hO2⟩
  · replace q5 := Decidable.not_not.mp (of_decide_eq_false q5)
    replace q5 := (nI_eq (a := ((rE lett n X (rE blk n X p)) - (rE blk n X p))) (b := m) (by omega) (by omega)).mp q5
    refine sx_RP.step (pc2 := 21) (ls2 := [(0, .ref 111), (1, .float k)]) (st2 := [.int 1]) (w3 := w3) rfl rfl ?_
    refine sx_RP.step (pc2 := 25) (ls2 := [(0, .ref 111), (1, .float k)]) (st2 := [.int 1]) (w3 := w3) rfl rfl ?_
    refine sx_RP.step (pc2 := 26) (ls2 := [(2, .int 1), (0, .ref 111), (1, .float k)]) (st2 := []) (w3 := w3) rfl rfl ?_
    refine sx_RP.step (pc2 := 27) (ls2 := [(2, .int 1), (0, .ref 111), (1, .float k)]) (st2 := [.int 0]) (w3 := w3) rfl rfl ?_
    refine sx_RP.step (pc2 := 28) (ls2 := [(3, .int 0), (2, .int 1), (0, .ref 111), (1, .float k)]) (st2 := []) (w3 := w3) rfl rfl ?_
    rw [hwe, decide_eq_true (show rE lett n X (rE blk n X p) - rE blk n X p = m by omega), Bool.true_and]
    refine sx_RP.ls (sx_lr.cons rfl (sx_lr.cons rfl (sx_lr.cons rfl (sx_lr.cons rfl sx_lr.nil)))) ((y214L hI4 hM2 hk en hm ep1 (fun j hj => by omega) m 0 (by omega)).mono9 ?_)
    rintro r9 w9 ⟨rfl, rfl⟩
    exact ⟨⟨rfl, ep1⟩, hI4, hO2⟩
def H13 (w w2 : List sx_C) : Prop := (∀ a, a ≠ 111 → w2[a]? = w[a]?) ∧ ∀ j, j ≠ 13 → fi w2 111 j = fi w 111 j
theorem H13.hs {w w2 : List sx_C} (h : H13 w w2) : HS w w2 := ⟨h.1, fun j hj => h.2 j (by omega)⟩
set_option maxRecDepth 20000 in
set_option maxHeartbeats 4000000 in
theorem y222 {xs : Option (List Int32)} {d : Nat} {w : List sx_C} (hI : WI w) {p : Nat} (ef : fi w 111 13 = -1) (ep : fi w 111 12 = nI p) : sx_RP xs d 222 0 (lv_args 0 [.ref 111]) [] w (fun r w2 => (r = some (.int 0) ∧ fi w2 111 13 = nI p) ∧ WI w2 ∧ H13 w w2) := by
  refine sx_RP.step (pc2 := 1) (ls2 := [(0, .ref 111)]) (st2 := [.ref 111]) (w3 := w) rfl rfl ?_
  refine sx_RP.step (pc2 := 2) (ls2 := [(0, .ref 111)]) (st2 := [.ref 111, .ref 111]) (w3 := w) rfl rfl ?_
  refine sx_RP.gf (v := .int (fi w 111 13)) rfl rfl hI.1.o111 rfl rfl (show _ = 5 from rfl) ?_
  rw [ef]
  refine sx_RP.step (pc2 := 8) (ls2 := [(0, .ref 111)]) (st2 := [.ref 111]) (w3 := w) rfl rfl ?_
  refine sx_RP.step (pc2 := 9) (ls2 := [(0, .ref 111)]) (st2 := [.ref 111, .ref 111]) (w3 := w) rfl rfl ?_
  refine sx_RP.gf (v := .int (fi w 111 12)) rfl rfl hI.1.o111 rfl rfl (show _ = 12 from rfl) ?_
  rw [ep]
  refine sx_RP.step (pc2 := 19) (ls2 := [(0, .ref 111)]) (st2 := [.int (nI p), .ref 111]) (w3 := w) rfl rfl ?_
  refine sx_RP.pm (k := 13) hI EM.rf rfl rfl (by decide) rfl trivial (show _ = 22 from rfl) (fun w1 hI2 hE3 hv4 hr5 hs6 => ?_)
  refine sx_RP.step (pc2 := 23) (ls2 := [(0, .ref 111)]) (st2 := [.int 0]) (w3 := w1) rfl rfl ?_
  refine sx_RP.ret (r := (some (.int 0))) rfl rfl ?_
  exact ⟨⟨rfl, hv4⟩, hI2, ⟨hs6, hr5⟩⟩
theorem wd_to {n p : Nat} {X : Nat → Nat} {k : UInt32} (hX : ∀ i, i < n → X i < 256) (hp : p ≤ n) (hw : 1 ≤ wl k) (h : wdT n X p k = true) : p + wl k = beT n X p ∧ p + wl k ≤ n := by
  have hb := beT_ge (n := n) (p := p) (X := X)
  have hl := beT_le (X := X) hp
  unfold wdT at h
  rw [Bool.and_eq_true, Bool.and_eq_true, decide_eq_true_iff, decide_eq_true_iff] at h
  omega
set_option maxRecDepth 20000 in
set_option maxHeartbeats 4000000 in
theorem y213 {xs : Option (List Int32)} {d : Nat} {w : List sx_C} (hI : WI w) {n p : Nat} {X : Nat → Nat} (hM : MT n X w) (hp : p ≤ n) (ep : fi w 111 12 = nI p) (ef : fi w 111 13 = -1) {k : UInt32} {m : Nat} (hk : 100 ≤ k.toNat ∧ k.toNat < 120) (en : sx_sn.getD (k.toNat - 100) 0 = m) (hm : m ≤ 7) (h1 : 1 ≤ m) : sx_RP xs (d + 4) 213 0 (lv_args 0 [.ref 111, .float k]) [] w (fun r w2 => (r = some (.int (b01 (wdT n X (rE blk n X p) k))) ∧ fi w2 111 12 = nI (rE blk n X p + cond (wdT n X (rE blk n X p) k) m 0)) ∧ WI w2 ∧ H12 w w2) := by
  have hn := hM.2.1
  refine sx_RP.step (pc2 := 1) (ls2 := [(0, .ref 111), (1, .float k)]) (st2 := [.ref 111]) (w3 := w) rfl rfl ?_
  refine sx_RP.gf (v := .int (fi w 111 13)) rfl rfl hI.1.o111 rfl rfl (show _ = 4 from rfl) ?_
  rw [ef]
  refine sx_RP.step (pc2 := 7) (ls2 := [(0, .ref 111), (1, .float k)]) (st2 := []) (w3 := w) rfl rfl ?_
  refine sx_RP.step (pc2 := 8) (ls2 := [(0, .ref 111), (1, .float k)]) (st2 := [.ref 111]) (w3 := w) rfl rfl ?_
  refine sx_RP.step (pc2 := 9) (ls2 := [(0, .ref 111), (1, .float k)]) (st2 := [.float k, .ref 111]) (w3 := w) rfl rfl ?_
  refine sx_RP.callp (as2 := [.ref 111, .float k]) (rest2 := []) rfl rfl (sx_inv_v2 (mi := 213) (k := 239) (st := [.float k, .ref 111]) (w := w) rfl rfl hI.1.o111 rfl rfl rfl) rfl rfl rfl (y214 hI hM hp ep hk en hm h1) (show _ = 12 from rfl) ?_
  rintro r4 w3 ⟨⟨rfl, ep1⟩, hI4, hO2⟩
  show sx_RP _ _ _ _ _ [.int (b01 (wdT n X (rE blk n X p) k))] _ _
  have hq : rE blk n X p ≤ n := rE_le hp
  have hwt := wd_to (p := rE blk n X p) (k := k) (fun i hi => hM.x hi) hq (show 1 ≤ wl k by rw [show wl k = m from en]; exact h1)
  rw [show wl k = m from en] at hwt
  refine sx_RP.br (p1 := 19) (l1 := [(0, .ref 111), (1, .float k)]) (s1 := []) (v1 := w3) (p2 := 15) (l2 := [(0, .ref 111), (1, .float k)]) (s2 := []) (v2 := w3) rfl rfl (fun q5 => ?_) (fun q5 => ?_)
  · replace q5 := of_decide_eq_true q5
    refine sx_RP.step (pc2 := 20) (ls2 := [(0, .ref 111), (1, .float k)]) (st2 := [.int 0]) (w3 := w3) rfl rfl ?_
    refine sx_RP.step (pc2 := 21) (ls2 := [(2, .int 0), (0, .ref 111), (1, .float k)]) (st2 := []) (w3 := w3) rfl rfl ?_
    refine sx_RP.step (pc2 := 22) (ls2 := [(2, .int 0), (0, .ref 111), (1, .float k)]) (st2 := [.ref 111]) (w3 := w3) rfl rfl ?_
    refine sx_RP.step (pc2 := 23) (ls2 := [(2, .int 0), (0, .ref 111), (1, .float k)]) (st2 := [.ref 111, .ref 111]) (w3 := w3) rfl rfl ?_
    refine sx_RP.gf (v := .int (fi w3 111 12)) rfl rfl hI4.1.o111 rfl rfl (show _ = 26 from rfl) ?_
    rw [ep1]
    refine sx_RP.step (pc2 := 27) (ls2 := [(2, .int 0), (0, .ref 111), (1, .float k)]) (st2 := [.int 0, .int (nI (rE blk n X p)), .ref 111]) (w3 := w3) rfl rfl ?_
    refine sx_RP.step (pc2 := 37) (ls2 := [(2, .int 0), (0, .ref 111), (1, .float k)]) (st2 := [.int (nI (rE blk n X p)), .ref 111]) (w3 := w3) rfl rfl ?_
    refine sx_RP.step (pc2 := 38) (ls2 := [(2, .int 0), (0, .ref 111), (1, .float k)]) (st2 := [.int 0, .int (nI (rE blk n X p)), .ref 111]) (w3 := w3) rfl rfl ?_
    refine sx_RP.step (pc2 := 39) (ls2 := [(2, .int 0), (0, .ref 111), (1, .float k)]) (st2 := [.int ((nI (rE blk n X p)) + 0), .ref 111]) (w3 := w3) rfl rfl ?_
    rw [show ((nI (rE blk n X p)) + 0 : Int32) = nI ((rE blk n X p) + 0) from nI_add (rE blk n X p) 0]
    refine sx_RP.pm (k := 12) hI4 EM.rf rfl rfl (by decide) rfl (inR.n (show ((rE blk n X p) + 0) ≤ 120 by omega)) (show _ = 42 from rfl) (fun w6 hI7 hE8 hv9 hr10 hs11 => ?_)
    refine sx_RP.step (pc2 := 43) (ls2 := [(2, .int 0), (0, .ref 111), (1, .float k)]) (st2 := [.int 0]) (w3 := w6) rfl rfl ?_
    refine sx_RP.ret (r := (some (.int 0))) rfl rfl ?_
    rw [b01_f q5]
    exact ⟨⟨rfl, hv9⟩, hI7, hO2.tr ⟨hs11, hr10⟩⟩
  · replace q5 := of_decide_eq_false q5
    refine sx_RP.step (pc2 := 16) (ls2 := [(0, .ref 111), (1, .float k)]) (st2 := [.int 1]) (w3 := w3) rfl rfl ?_
    refine sx_RP.step (pc2 := 20) (ls2 := [(0, .ref 111), (1, .float k)]) (st2 := [.int 1]) (w3 := w3) rfl rfl ?_
    refine sx_RP.step (pc2 := 21) (ls2 := [(2, .int 1), (0, .ref 111), (1, .float k)]) (st2 := []) (w3 := w3) rfl rfl ?_
    refine sx_RP.step (pc2 := 22) (ls2 := [(2, .int 1), (0, .ref 111), (1, .float k)]) (st2 := [.ref 111]) (w3 := w3) rfl rfl ?_
    refine sx_RP.step (pc2 := 23) (ls2 := [(2, .int 1), (0, .ref 111), (1, .float k)]) (st2 := [.ref 111, .ref 111]) (w3 := w3) rfl rfl ?_
    refine sx_RP.gf (v := .int (fi w3 111 12)) rfl rfl hI4.1.o111 rfl rfl (show _ = 26 from rfl) ?_
    rw [ep1]
    refine sx_RP.step (pc2 := 27) (ls2 := [(2, .int 1), (0, .ref 111), (1, .float k)]) (st2 := [.int 1, .int (nI (rE blk n X p)), .ref 111]) (w3 := w3) rfl rfl ?_
    refine sx_RP.step (pc2 := 30) (ls2 := [(2, .int 1), (0, .ref 111), (1, .float k)]) (st2 := [.int (nI (rE blk n X p)), .ref 111]) (w3 := w3) rfl rfl ?_
    refine sx_RP.step (pc2 := 31) (ls2 := [(2, .int 1), (0, .ref 111), (1, .float k)]) (st2 := [.float k, .int (nI (rE blk n X p)), .ref 111]) (w3 := w3) rfl rfl ?_
    refine sx_RP.slen (n := m) hk en rfl rfl rfl (show _ = 34 from rfl) ?_
    refine sx_RP.step (pc2 := 38) (ls2 := [(2, .int 1), (0, .ref 111), (1, .float k)]) (st2 := [.int (nI m), .int (nI (rE blk n X p)), .ref 111]) (w3 := w3) rfl rfl ?_
    refine sx_RP.step (pc2 := 39) (ls2 := [(2, .int 1), (0, .ref 111), (1, .float k)]) (st2 := [.int ((nI (rE blk n X p)) + (nI m)), .ref 111]) (w3 := w3) rfl rfl ?_
    rw [show ((nI (rE blk n X p)) + (nI m) : Int32) = nI ((rE blk n X p) + m) from nI_add (rE blk n X p) m]
    have hwx := hwt (b01_t q5)
    refine sx_RP.pm (k := 12) hI4 EM.rf rfl rfl (by decide) rfl (inR.n (show ((rE blk n X p) + m) ≤ 120 by omega)) (show _ = 42 from rfl) (fun w12 hI13 hE14 hv15 hr16 hs17 => ?_)
    refine sx_RP.step (pc2 := 43) (ls2 := [(2, .int 1), (0, .ref 111), (1, .float k)]) (st2 := [.int 1]) (w3 := w12) rfl rfl ?_
    refine sx_RP.ret (r := (some (.int 1))) rfl rfl ?_
    rw [b01_t q5]
    exact ⟨⟨rfl, hv15⟩, hI13, hO2.tr ⟨hs17, hr16⟩⟩
end
-- 89p.siege.lean.txt
section
set_option maxRecDepth 20000 in
set_option maxHeartbeats 4000000 in
theorem y228 {xs : Option (List Int32)} {d : Nat} {w : List sx_C} (hI : WI w) {n p : Nat} {X : Nat → Nat} (hM : MT n X w) (hp : p ≤ n) (ep : fi w 111 12 = nI p) (ef : fi w 111 13 = -1) {k : UInt32} {m : Nat} (hk : 100 ≤ k.toNat ∧ k.toNat < 120) (en : sx_sn.getD (k.toNat - 100) 0 = m) (hm : m ≤ 7) (h1 : 1 ≤ m) : sx_RP xs (d + 5) 228 0 (lv_args 0 [.ref 111, .float k]) [] w (fun r w2 => (r = some (.int (b01 (wdT n X (rE blk n X p) k))) ∧ (wdT n X (rE blk n X p) k = true → fi w2 111 12 = nI (rE blk n X p + m) ∧ fi w2 111 13 = -1) ∧ (wdT n X (rE blk n X p) k = false → fi w2 111 13 = nI (rE blk n X p))) ∧ WI w2 ∧ HS w w2) := by
  refine sx_RP.step (pc2 := 1) (ls2 := [(0, .ref 111), (1, .float k)]) (st2 := [.ref 111]) (w3 := w) rfl rfl ?_
  refine sx_RP.step (pc2 := 2) (ls2 := [(0, .ref 111), (1, .float k)]) (st2 := [.float k, .ref 111]) (w3 := w) rfl rfl ?_
  refine sx_RP.callp (as2 := [.ref 111, .float k]) (rest2 := []) rfl rfl (sx_inv_v2 (mi := 228) (k := 243) (st := [.float k, .ref 111]) (w := w) rfl rfl hI.1.o111 rfl rfl rfl) rfl rfl rfl (y213 hI hM hp ep ef hk en hm h1) (show _ = 5 from rfl) ?_
  rintro r4 w3 ⟨⟨rfl, ep1⟩, hI4, hO2⟩
  show sx_RP _ _ _ _ _ [.int (b01 (wdT n X (rE blk n X p) k))] _ _
  refine sx_RP.br (p1 := 15) (l1 := [(0, .ref 111), (1, .float k)]) (s1 := []) (v1 := w3) (p2 := 8) (l2 := [(0, .ref 111), (1, .float k)]) (s2 := []) (v2 := w3) rfl rfl (fun q5 => ?_) (fun q5 => ?_)
  · replace q5 := of_decide_eq_true q5
    refine sx_RP.step (pc2 := 16) (ls2 := [(0, .ref 111), (1, .float k)]) (st2 := [.int 1]) (w3 := w3) rfl rfl ?_
    refine sx_RP.step (pc2 := 20) (ls2 := [(0, .ref 111), (1, .float k)]) (st2 := [.int 1]) (w3 := w3) rfl rfl ?_
    refine sx_RP.ret (r := (some (.int 1))) rfl rfl ?_
    rw [b01_t q5] at ep1
    rw [b01_t q5]
    exact ⟨⟨rfl, fun _ => ⟨ep1, (hO2.2 13 (by decide)).trans ef⟩, fun z => absurd z (by decide)⟩, hI4, hO2.hs⟩
  · replace q5 := Decidable.not_not.mp (of_decide_eq_false q5)
    refine sx_RP.step (pc2 := 9) (ls2 := [(0, .ref 111), (1, .float k)]) (st2 := [.ref 111]) (w3 := w3) rfl rfl ?_
    rw [b01_f q5] at ep1
    refine sx_RP.callp (as2 := [.ref 111]) (rest2 := []) rfl rfl (sx_inv_v2 (mi := 228) (k := 245) (st := [.ref 111]) (w := w3) rfl rfl hI4.1.o111 rfl rfl rfl) rfl rfl rfl (y222 (p := rE blk n X p) hI4 ((hO2.2 13 (by decide)).trans ef) ep1) (show _ = 12 from rfl) ?_
    rintro r4 w9 ⟨⟨rfl, hv6⟩, hI10, hO7⟩
    show sx_RP _ _ _ _ _ [.int 0] _ _
    refine sx_RP.step (pc2 := 19) (ls2 := [(0, .ref 111), (1, .float k)]) (st2 := []) (w3 := w9) rfl rfl ?_
    refine sx_RP.step (pc2 := 20) (ls2 := [(0, .ref 111), (1, .float k)]) (st2 := [.int 0]) (w3 := w9) rfl rfl ?_
    refine sx_RP.ret (r := (some (.int 0))) rfl rfl ?_
    rw [b01_f q5]
    exact ⟨⟨rfl, fun z => absurd z (by decide), fun _ => hv6⟩, hI10, hO2.hs.tr hO7.hs⟩
end
-- 89q.siege.lean.txt
section
theorem nJ_toInt {v : Nat} (h : v < 2 ^ 31) : (nI v).toInt64.toInt = (v : Int) := by rw [Int32.toInt_toInt64, nI_toInt h]
theorem lg_ltN {x l : Nat} (hx : x < 2 ^ 31) (hl : l < 2 ^ 31) : lg_cmp (nI x).toInt64 (nI l).toInt64 < 0 ↔ x < l := by
  have e1 : (nI l).toInt64 < (nI x).toInt64 ↔ l < x := by rw [Int64.lt_iff_toInt_lt, nJ_toInt hx, nJ_toInt hl]; omega
  have e2 : (nI x).toInt64 = (nI l).toInt64 ↔ x = l := by rw [← Int64.toInt_inj, nJ_toInt hx, nJ_toInt hl]; omega
  unfold lg_cmp
  by_cases h : l < x
  · rw [if_pos (e1.mpr h)]
    exact ⟨fun z => absurd z (by decide), fun z => by omega⟩
  · rw [if_neg (fun z => h (e1.mp z))]
    by_cases h2 : x = l
    · rw [if_pos (e2.mpr h2)]
      exact ⟨fun z => absurd z (by decide), fun z => by omega⟩
    · rw [if_neg (fun z => h2 (e2.mp z))]
      exact ⟨fun _ => by omega, fun _ => by decide⟩
theorem lg_leN {x l : Nat} (hx : x < 2 ^ 31) (hl : l < 2 ^ 31) : lg_cmp (nI x).toInt64 (nI l).toInt64 ≤ 0 ↔ x ≤ l := by
  have e1 : (nI l).toInt64 < (nI x).toInt64 ↔ l < x := by rw [Int64.lt_iff_toInt_lt, nJ_toInt hx, nJ_toInt hl]; omega
  unfold lg_cmp
  by_cases h : l < x
  · rw [if_pos (e1.mpr h)]
    exact ⟨fun z => absurd z (by decide), fun z => by omega⟩
  · rw [if_neg (fun z => h (e1.mp z))]
    split
    · exact ⟨fun _ => by omega, fun _ => by decide⟩
    · exact ⟨fun _ => by omega, fun _ => by decide⟩
theorem nJ_i {v : Nat} (h : v < 2 ^ 31) : (nI v).toInt64.toInt32 = nI v := by
  apply Int32.toInt_inj.mp
  rw [Int64.toInt_toInt32, nJ_toInt h, nI_toInt h, Int.bmod_def]
  split <;> omega
theorem j_step {v c : Nat} (hv : v ≤ 9999999) (h1 : 48 ≤ c) (h2 : c ≤ 57) : ((10 : Int64) * (nI v).toInt64 + (nI c).toInt64) - 48 = (nI (10 * v + (c - 48))).toInt64 := by
  apply Int64.toInt_inj.mp
  rw [Int64.toInt_sub, Int64.toInt_add, Int64.toInt_mul, nJ_toInt (by omega), nJ_toInt (by omega), nJ_toInt (by omega), show (10 : Int64).toInt = 10 by decide, show (48 : Int64).toInt = 48 by decide]
  rw [show Int.bmod (10 * (v : Int)) (2 ^ 64) = 10 * (v : Int) by rw [Int.bmod_def]; split <;> omega]
  rw [show Int.bmod (10 * (v : Int) + (c : Int)) (2 ^ 64) = 10 * (v : Int) + (c : Int) by rw [Int.bmod_def]; split <;> omega]
  rw [Int.bmod_def]
  split <;> omega
theorem minJ {a b : Nat} (ha : a < 2 ^ 31) (hb : b < 2 ^ 31) : (if lg_cmp (nI a).toInt64 (nI b).toInt64 ≤ 0 then (nI a).toInt64 else (nI b).toInt64) = (nI (min a b)).toInt64 := by
  by_cases h : a ≤ b
  · rw [if_pos ((lg_leN ha hb).mpr h), Nat.min_eq_left h]
  · rw [if_neg (fun z => h ((lg_leN ha hb).mp z)), Nat.min_eq_right (by omega)]
theorem nuV_min {c1 c2 : Nat} {X : Nat → Nat} (h : c1 ≤ c2) : ∀ f v i, nuV c1 X (min c1 v) i f = min c1 (nuV c2 X v i f)
  | 0, v, i => rfl
  | f + 1, v, i => by
    show nuV c1 X (min c1 (10 * min c1 v + (X i - 48))) (i + 1) f = min c1 (nuV c2 X (min c2 (10 * v + (X i - 48))) (i + 1) f)
    rw [← nuV_min h f (min c2 (10 * v + (X i - 48))) (i + 1)]
    rw [show min c1 (10 * min c1 v + (X i - 48)) = min c1 (min c2 (10 * v + (X i - 48))) by omega]
set_option maxRecDepth 20000 in
set_option maxHeartbeats 4000000 in
theorem y223 {xs : Option (List Int32)} {d : Nat} {w : List sx_C} (hI : WI w) (x y : Int64) : sx_RU xs d 223 0 (lv_args 0 [.long x, .long y]) [] w (some (.long (if lg_cmp x y ≤ 0 then x else y))) w := by
  have h : sx_RP xs d 223 0 (lv_args 0 [.long x, .long y]) [] w (fun r9 w2 => r9 = some (.long (if lg_cmp x y ≤ 0 then x else y)) ∧ w2 = w) := by
    refine sx_RP.step (pc2 := 1) (ls2 := [(0, .long x), (2, .long y)]) (st2 := [.long x]) (w3 := w) rfl rfl ?_
    refine sx_RP.step (pc2 := 2) (ls2 := [(0, .long x), (2, .long y)]) (st2 := [.long y, .long x]) (w3 := w) rfl rfl ?_
    refine sx_RP.step (pc2 := 3) (ls2 := [(0, .long x), (2, .long y)]) (st2 := [.int (lg_cmp x y)]) (w3 := w) rfl rfl ?_
    refine sx_RP.br (p1 := 10) (l1 := [(0, .long x), (2, .long y)]) (s1 := []) (v1 := w) (p2 := 6) (l2 := [(0, .long x), (2, .long y)]) (s2 := []) (v2 := w) rfl rfl (fun q1 => ?_) (fun q1 => ?_)
    · replace q1 := of_decide_eq_true q1
      refine sx_RP.step (pc2 := 11) (ls2 := [(0, .long x), (2, .long y)]) (st2 := [.long y]) (w3 := w) rfl rfl ?_
      refine sx_RP.ret (r := (some (.long y))) rfl rfl ?_
      exact ⟨by first | rw [if_pos (Int32.not_lt.mp q1)] | rw [if_neg (Int32.not_le.mpr q1)], rfl⟩
    · replace q1 := of_decide_eq_false q1
      refine sx_RP.step (pc2 := 7) (ls2 := [(0, .long x), (2, .long y)]) (st2 := [.long x]) (w3 := w) rfl rfl ?_
      refine sx_RP.step (pc2 := 11) (ls2 := [(0, .long x), (2, .long y)]) (st2 := [.long x]) (w3 := w) rfl rfl ?_
      refine sx_RP.ret (r := (some (.long x))) rfl rfl ?_
      exact ⟨by first | rw [if_pos (Int32.not_lt.mp q1)] | rw [if_neg (Int32.not_le.mpr q1)], rfl⟩
  obtain ⟨r9, w2, h1, rfl, rfl⟩ := h
  exact h1
set_option maxRecDepth 20000 in
set_option maxHeartbeats 4000000 in
theorem y220B {xs : Option (List Int32)} {d : Nat} {n p : Nat} {X : Nat → Nat} {w : List sx_C} {lo hi : Nat} (hlo : lo < 2 ^ 31) (hhi : hi < 2 ^ 31) (hI : WI w) (hM : MT n X w) (ep : fi w 111 12 = nI p) (ef : fi w 111 13 = -1) {j v : Nat} (hj : j ≤ n) (hv : v ≤ 9999999) (kk : j < n → sx_RP xs (d + 3) 220 38 [(0, .ref 111), (1, .int (nI lo)), (2, .int (nI hi)), (3, .long (nI (min 9999999 (10 * v + (X j - 48)))).toInt64), (5, .int (nI (j + 1)))] [] w (fun r2 w2 => (r2 = some (.int (b01 (decide (lo ≤ (nuV 9999999 X (min 9999999 (10 * v + (X j - 48))) (j + 1) (rE digi n X (j + 1) - (j + 1))) ∧ (nuV 9999999 X (min 9999999 (10 * v + (X j - 48))) (j + 1) (rE digi n X (j + 1) - (j + 1))) ≤ hi)))) ∧ ((lo ≤ (nuV 9999999 X (min 9999999 (10 * v + (X j - 48))) (j + 1) (rE digi n X (j + 1) - (j + 1))) ∧ (nuV 9999999 X (min 9999999 (10 * v + (X j - 48))) (j + 1) (rE digi n X (j + 1) - (j + 1))) ≤ hi) → fi w2 111 12 = nI (rE digi n X (j + 1)) ∧ fi w2 111 14 = nI ((nuV 9999999 X (min 9999999 (10 * v + (X j - 48))) (j + 1) (rE digi n X (j + 1) - (j + 1)))) ∧ fi w2 111 13 = -1) ∧ (¬ (lo ≤ (nuV 9999999 X (min 9999999 (10 * v + (X j - 48))) (j + 1) (rE digi n X (j + 1) - (j + 1))) ∧ (nuV 9999999 X (min 9999999 (10 * v + (X j - 48))) (j + 1) (rE digi n X (j + 1) - (j + 1))) ≤ hi) → fi w2 111 13 = nI p)) ∧ WI w2 ∧ HS w w2)) : sx_RP xs (d + 3) 220 38 [(0, .ref 111), (1, .int (nI lo)), (2, .int (nI hi)), (3, .long (nI v).toInt64), (5, .int (nI j))] [] w (fun r2 w2 => (r2 = some (.int (b01 (decide (lo ≤ (nuV 9999999 X v j (rE digi n X j - j)) ∧ (nuV 9999999 X v j (rE digi n X j - j)) ≤ hi)))) ∧ ((lo ≤ (nuV 9999999 X v j (rE digi n X j - j)) ∧ (nuV 9999999 X v j (rE digi n X j - j)) ≤ hi) → fi w2 111 12 = nI (rE digi n X j) ∧ fi w2 111 14 = nI ((nuV 9999999 X v j (rE digi n X j - j))) ∧ fi w2 111 13 = -1) ∧ (¬ (lo ≤ (nuV 9999999 X v j (rE digi n X j - j)) ∧ (nuV 9999999 X v j (rE digi n X j - j)) ≤ hi) → fi w2 111 13 = nI p)) ∧ WI w2 ∧ HS w w2) := by
  have hn := hM.2.1
  refine sx_RP.step (pc2 := 39) (ls2 := [(0, .ref 111), (1, .int (nI lo)), (2, .int (nI hi)), (3, .long ((nI v).toInt64)), (5, .int (nI j))]) (st2 := [.ref 111]) (w3 := w) rfl rfl ?_
  refine sx_RP.step (pc2 := 41) (ls2 := [(0, .ref 111), (1, .int (nI lo)), (2, .int (nI hi)), (3, .long ((nI v).toInt64)), (5, .int (nI j))]) (st2 := [.int (nI j), .ref 111]) (w3 := w) rfl rfl ?_
  refine sx_RP.cu (as := [.ref 111, .int (nI j)]) (rest2 := []) (st3 := [.int (bA n X j)]) rfl rfl (sx_inv_v2 (mi := 220) (k := 215) (st := [.int (nI j), .ref 111]) (w := w) rfl rfl hI.1.o111 rfl rfl rfl) rfl rfl (y216 hI hM (by omega)) rfl ?_
  rcases Classical.em (j < n ∧ digi (X j) = true) with c1 | c1
  · refine sx_RP.cu (as := [.int (bA n X j)]) (rest2 := []) (st3 := [.int 1]) rfl rfl rfl rfl rfl (cx_221p ((bA_digi (fun z => hM.x z)).mpr c1)) rfl ?_
    refine sx_RP.step (pc2 := 50) (ls2 := [(0, .ref 111), (1, .int (nI lo)), (2, .int (nI hi)), (3, .long ((nI v).toInt64)), (5, .int (nI j))]) (st2 := []) (w3 := w) rfl rfl ?_
    refine sx_RP.step (pc2 := 53) (ls2 := [(0, .ref 111), (1, .int (nI lo)), (2, .int (nI hi)), (3, .long ((nI v).toInt64)), (5, .int (nI j))]) (st2 := [.long 9999999]) (w3 := w) rfl rfl ?_
    refine sx_RP.step (pc2 := 56) (ls2 := [(0, .ref 111), (1, .int (nI lo)), (2, .int (nI hi)), (3, .long ((nI v).toInt64)), (5, .int (nI j))]) (st2 := [.long 10, .long 9999999]) (w3 := w) rfl rfl ?_
    refine sx_RP.step (pc2 := 57) (ls2 := [(0, .ref 111), (1, .int (nI lo)), (2, .int (nI hi)), (3, .long ((nI v).toInt64)), (5, .int (nI j))]) (st2 := [.long ((nI v).toInt64), .long 10, .long 9999999]) (w3 := w) rfl rfl ?_
    refine sx_RP.step (pc2 := 58) (ls2 := [(0, .ref 111), (1, .int (nI lo)), (2, .int (nI hi)), (3, .long ((nI v).toInt64)), (5, .int (nI j))]) (st2 := [.long (10 * ((nI v).toInt64)), .long 9999999]) (w3 := w) rfl rfl ?_
    refine sx_RP.step (pc2 := 59) (ls2 := [(0, .ref 111), (1, .int (nI lo)), (2, .int (nI hi)), (3, .long ((nI v).toInt64)), (5, .int (nI j))]) (st2 := [.ref 111, .long (10 * ((nI v).toInt64)), .long 9999999]) (w3 := w) rfl rfl ?_
    refine sx_RP.step (pc2 := 61) (ls2 := [(0, .ref 111), (1, .int (nI lo)), (2, .int (nI hi)), (3, .long ((nI v).toInt64)), (5, .int (nI j))]) (st2 := [.int (nI j), .ref 111, .long (10 * ((nI v).toInt64)), .long 9999999]) (w3 := w) rfl rfl ?_
    refine sx_RP.cu (as := [.ref 111, .int (nI j)]) (rest2 := [.long (10 * ((nI v).toInt64)), .long 9999999]) (st3 := [.int (bA n X j), .long (10 * ((nI v).toInt64)), .long 9999999]) rfl rfl (sx_inv_v2 (mi := 220) (k := 215) (st := [.int (nI j), .ref 111, .long (10 * ((nI v).toInt64)), .long 9999999]) (w := w) rfl rfl hI.1.o111 rfl rfl rfl) rfl rfl (y216 hI hM (by omega)) rfl ?_
    refine sx_RP.step (pc2 := 65) (ls2 := [(0, .ref 111), (1, .int (nI lo)), (2, .int (nI hi)), (3, .long ((nI v).toInt64)), (5, .int (nI j))]) (st2 := [.long ((bA n X j).toInt64), .long (10 * ((nI v).toInt64)), .long 9999999]) (w3 := w) rfl rfl ?_
    refine sx_RP.step (pc2 := 66) (ls2 := [(0, .ref 111), (1, .int (nI lo)), (2, .int (nI hi)), (3, .long ((nI v).toInt64)), (5, .int (nI j))]) (st2 := [.long ((10 * ((nI v).toInt64)) + ((bA n X j).toInt64)), .long 9999999]) (w3 := w) rfl rfl ?_
    refine sx_RP.step (pc2 := 69) (ls2 := [(0, .ref 111), (1, .int (nI lo)), (2, .int (nI hi)), (3, .long ((nI v).toInt64)), (5, .int (nI j))]) (st2 := [.long 48, .long ((10 * ((nI v).toInt64)) + ((bA n X j).toInt64)), .long 9999999]) (w3 := w) rfl rfl ?_
    have hd := sgn_dig ⟨X j, hM.x c1.1⟩ c1.2
    replace hd : 48 ≤ X j ∧ X j ≤ 57 := hd.2
    refine sx_RP.step (pc2 := 70) (ls2 := [(0, .ref 111), (1, .int (nI lo)), (2, .int (nI hi)), (3, .long ((nI v).toInt64)), (5, .int (nI j))]) (st2 := [.long (((10 * ((nI v).toInt64)) + ((bA n X j).toInt64)) - 48), .long 9999999]) (w3 := w) rfl rfl ?_
    rw [show (((10 * ((nI v).toInt64)) + ((bA n X j).toInt64)) - 48 : Int64) = (nI (10 * v + (X j - 48))).toInt64 by rw [bA_y c1.1]; exact j_step hv hd.1 hd.2]
    refine sx_RP.cu (as := [.long 9999999, .long ((nI (10 * v + (X j - 48))).toInt64)]) (rest2 := []) (st3 := [.long ((nI (min 9999999 (10 * v + (X j - 48)))).toInt64)]) rfl rfl rfl rfl rfl ((by have c := y223 (xs := xs) (d := d + 2) hI (nI 9999999).toInt64 (nI (10 * v + (X j - 48))).toInt64; rw [minJ (by decide) (by omega)] at c; exact c)) rfl ?_
    refine sx_RP.step (pc2 := 74) (ls2 := [(3, .long ((nI (min 9999999 (10 * v + (X j - 48)))).toInt64)), (0, .ref 111), (1, .int (nI lo)), (2, .int (nI hi)), (5, .int (nI j))]) (st2 := []) (w3 := w) rfl rfl ?_
    refine sx_RP.step (pc2 := 77) (ls2 := [(5, .int ((nI j) + 1)), (3, .long ((nI (min 9999999 (10 * v + (X j - 48)))).toInt64)), (0, .ref 111), (1, .int (nI lo)), (2, .int (nI hi))]) (st2 := []) (w3 := w) rfl rfl ?_
    rw [nI_1 j]
    refine sx_RP.step (pc2 := 38) (ls2 := [(5, .int (nI (j + 1))), (3, .long ((nI (min 9999999 (10 * v + (X j - 48)))).toInt64)), (0, .ref 111), (1, .int (nI lo)), (2, .int (nI hi))]) (st2 := []) (w3 := w) rfl rfl ?_
    have hge := rE_ge (p := digi) (n := n) (X := X) (i := j + 1)
    rw [rE_y c1.1 c1.2, show rE digi n X (j + 1) - j = (rE digi n X (j + 1) - (j + 1)) + 1 by omega, show nuV 9999999 X v j ((rE digi n X (j + 1) - (j + 1)) + 1) = nuV 9999999 X (min 9999999 (10 * v + (X j - 48))) (j + 1) (rE digi n X (j + 1) - (j + 1)) from rfl]
    exact sx_RP.ls (sx_lr.cons rfl (sx_lr.cons rfl (sx_lr.cons rfl (sx_lr.cons rfl (sx_lr.cons rfl sx_lr.nil))))) (kk c1.1)
  · refine sx_RP.cu (as := [.int (bA n X j)]) (rest2 := []) (st3 := [.int 0]) rfl rfl rfl rfl rfl (cx_221n (fun z => c1 ((bA_digi (fun z => hM.x z)).mp z))) rfl ?_
    refine sx_RP.step (pc2 := 80) (ls2 := [(0, .ref 111), (1, .int (nI lo)), (2, .int (nI hi)), (3, .long ((nI v).toInt64)), (5, .int (nI j))]) (st2 := []) (w3 := w) rfl rfl ?_
    refine sx_RP.step (pc2 := 81) (ls2 := [(0, .ref 111), (1, .int (nI lo)), (2, .int (nI hi)), (3, .long ((nI v).toInt64)), (5, .int (nI j))]) (st2 := [.long ((nI v).toInt64)]) (w3 := w) rfl rfl ?_
    refine sx_RP.step (pc2 := 82) (ls2 := [(0, .ref 111), (1, .int (nI lo)), (2, .int (nI hi)), (3, .long ((nI v).toInt64)), (5, .int (nI j))]) (st2 := [.int (nI lo), .long ((nI v).toInt64)]) (w3 := w) rfl rfl ?_
    refine sx_RP.step (pc2 := 83) (ls2 := [(0, .ref 111), (1, .int (nI lo)), (2, .int (nI hi)), (3, .long ((nI v).toInt64)), (5, .int (nI j))]) (st2 := [.long ((nI lo).toInt64), .long ((nI v).toInt64)]) (w3 := w) rfl rfl ?_
    refine sx_RP.step (pc2 := 84) (ls2 := [(0, .ref 111), (1, .int (nI lo)), (2, .int (nI hi)), (3, .long ((nI v).toInt64)), (5, .int (nI j))]) (st2 := [.int (lg_cmp ((nI v).toInt64) ((nI lo).toInt64))]) (w3 := w) rfl rfl ?_
    refine sx_RP.br (p1 := 94) (l1 := [(0, .ref 111), (1, .int (nI lo)), (2, .int (nI hi)), (3, .long ((nI v).toInt64)), (5, .int (nI j))]) (s1 := []) (v1 := w) (p2 := 87) (l2 := [(0, .ref 111), (1, .int (nI lo)), (2, .int (nI hi)), (3, .long ((nI v).toInt64)), (5, .int (nI j))]) (s2 := []) (v2 := w) rfl rfl (fun q2 => ?_) (fun q2 => ?_)
    · replace q2 := of_decide_eq_true q2
      refine sx_RP.step (pc2 := 95) (ls2 := [(0, .ref 111), (1, .int (nI lo)), (2, .int (nI hi)), (3, .long ((nI v).toInt64)), (5, .int (nI j))]) (st2 := [.ref 111]) (w3 := w) rfl rfl ?_
      refine sx_RP.callp (as2 := [.ref 111]) (rest2 := []) rfl rfl (sx_inv_v2 (mi := 220) (k := 245) (st := [.ref 111]) (w := w) rfl rfl hI.1.o111 rfl rfl rfl) rfl rfl rfl (y222 (p := p) hI ef ep) (show _ = 98 from rfl) ?_
      rintro r4 w5 ⟨⟨rfl, hv3⟩, hI6, hO4⟩
      show sx_RP _ _ _ _ _ [.int 0] _ _
      refine sx_RP.ret (r := (some (.int 0))) rfl rfl ?_
      have z7 := (lg_ltN (x := v) (l := lo) (by omega) (by omega)).mp q2
      rw [rE_n c1, Nat.sub_self, show nuV 9999999 X v j 0 = v from rfl]
      rw [decide_eq_false (show ¬ (lo ≤ v ∧ v ≤ hi) by omega)]
      exact ⟨⟨rfl, fun z => absurd z (by omega), fun _ => hv3⟩, hI6, hO4.hs⟩
    · replace q2 := of_decide_eq_false q2
      refine sx_RP.step (pc2 := 88) (ls2 := [(0, .ref 111), (1, .int (nI lo)), (2, .int (nI hi)), (3, .long ((nI v).toInt64)), (5, .int (nI j))]) (st2 := [.long ((nI v).toInt64)]) (w3 := w) rfl rfl ?_
      refine sx_RP.step (pc2 := 89) (ls2 := [(0, .ref 111), (1, .int (nI lo)), (2, .int (nI hi)), (3, .long ((nI v).toInt64)), (5, .int (nI j))]) (st2 := [.int (nI hi), .long ((nI v).toInt64)]) (w3 := w) rfl rfl ?_
      refine sx_RP.step (pc2 := 90) (ls2 := [(0, .ref 111), (1, .int (nI lo)), (2, .int (nI hi)), (3, .long ((nI v).toInt64)), (5, .int (nI j))]) (st2 := [.long ((nI hi).toInt64), .long ((nI v).toInt64)]) (w3 := w) rfl rfl ?_
      refine sx_RP.step (pc2 := 91) (ls2 := [(0, .ref 111), (1, .int (nI lo)), (2, .int (nI hi)), (3, .long ((nI v).toInt64)), (5, .int (nI j))]) (st2 := [.int (lg_cmp ((nI v).toInt64) ((nI hi).toInt64))]) (w3 := w) rfl rfl ?_
      refine sx_RP.br (p1 := 99) (l1 := [(0, .ref 111), (1, .int (nI lo)), (2, .int (nI hi)), (3, .long ((nI v).toInt64)), (5, .int (nI j))]) (s1 := []) (v1 := w) (p2 := 94) (l2 := [(0, .ref 111), (1, .int (nI lo)), (2, .int (nI hi)), (3, .long ((nI v).toInt64)), (5, .int (nI j))]) (s2 := []) (v2 := w) rfl rfl (fun q8 => ?_) (fun q8 => ?_)
      · replace q8 := of_decide_eq_true q8
        refine sx_RP.step (pc2 := 100) (ls2 := [(0, .ref 111), (1, .int (nI lo)), (2, .int (nI hi)), (3, .long ((nI v).toInt64)), (5, .int (nI j))]) (st2 := [.ref 111]) (w3 := w) rfl rfl ?_
        refine sx_RP.step (pc2 := 102) (ls2 := [(0, .ref 111), (1, .int (nI lo)), (2, .int (nI hi)), (3, .long ((nI v).toInt64)), (5, .int (nI j))]) (st2 := [.int (nI j), .ref 111]) (w3 := w) rfl rfl ?_
        refine sx_RP.pm (k := 12) hI EM.rf rfl rfl (by decide) rfl (inR.n (show j ≤ 120 by omega)) (show _ = 105 from rfl) (fun w9 hI10 hE11 hv12 hr13 hs14 => ?_)
        refine sx_RP.step (pc2 := 106) (ls2 := [(0, .ref 111), (1, .int (nI lo)), (2, .int (nI hi)), (3, .long ((nI v).toInt64)), (5, .int (nI j))]) (st2 := [.ref 111]) (w3 := w9) rfl rfl ?_
        refine sx_RP.step (pc2 := 107) (ls2 := [(0, .ref 111), (1, .int (nI lo)), (2, .int (nI hi)), (3, .long ((nI v).toInt64)), (5, .int (nI j))]) (st2 := [.long ((nI v).toInt64), .ref 111]) (w3 := w9) rfl rfl ?_
        refine sx_RP.step (pc2 := 108) (ls2 := [(0, .ref 111), (1, .int (nI lo)), (2, .int (nI hi)), (3, .long ((nI v).toInt64)), (5, .int (nI j))]) (st2 := [.int (((nI v).toInt64).toInt32), .ref 111]) (w3 := w9) rfl rfl ?_
        rw [nJ_i (show v < 2 ^ 31 by omega)]
        refine sx_RP.pm (k := 14) hI10 EM.rf rfl rfl (by decide) rfl trivial (show _ = 111 from rfl) (fun w15 hI16 hE17 hv18 hr19 hs20 => ?_)
        refine sx_RP.step (pc2 := 112) (ls2 := [(0, .ref 111), (1, .int (nI lo)), (2, .int (nI hi)), (3, .long ((nI v).toInt64)), (5, .int (nI j))]) (st2 := [.int 1]) (w3 := w15) rfl rfl ?_
        refine sx_RP.ret (r := (some (.int 1))) rfl rfl ?_
        have z21 := mt (lg_ltN (x := v) (l := lo) (by omega) (by omega)).mpr q2
        have z22 := (lg_leN (x := v) (l := hi) (by omega) (by omega)).mp q8
        rw [rE_n c1, Nat.sub_self, show nuV 9999999 X v j 0 = v from rfl]
        rw [decide_eq_true (show lo ≤ v ∧ v ≤ hi by omega)]
        exact ⟨⟨rfl, fun _ => ⟨(hr19 12 (by decide)).trans hv12, hv18, (hr19 13 (by decide)).trans ((hr13 13 (by decide)).trans ef)⟩, fun z => absurd (show lo ≤ v ∧ v ≤ hi by omega) z⟩, hI16, ⟨fun a ha => (hs20 a ha).trans (hs14 a ha), fun j hj => (hr19 j (by omega)).trans (hr13 j (by omega))⟩⟩
      · replace q8 := of_decide_eq_false q8
        refine sx_RP.step (pc2 := 95) (ls2 := [(0, .ref 111), (1, .int (nI lo)), (2, .int (nI hi)), (3, .long ((nI v).toInt64)), (5, .int (nI j))]) (st2 := [.ref 111]) (w3 := w) rfl rfl ?_
        refine sx_RP.callp (as2 := [.ref 111]) (rest2 := []) rfl rfl (sx_inv_v2 (mi := 220) (k := 245) (st := [.ref 111]) (w := w) rfl rfl hI.1.o111 rfl rfl rfl) rfl rfl rfl (y222 (p := p) hI ef ep) (show _ = 98 from rfl) ?_
        rintro r4 w25 ⟨⟨rfl, hv23⟩, hI26, hO24⟩
        show sx_RP _ _ _ _ _ [.int 0] _ _
        refine sx_RP.ret (r := (some (.int 0))) rfl rfl ?_
        have z27 := mt (lg_ltN (x := v) (l := lo) (by omega) (by omega)).mpr q2
        have z28 := mt (lg_leN (x := v) (l := hi) (by omega) (by omega)).mpr q8
        rw [rE_n c1, Nat.sub_self, show nuV 9999999 X v j 0 = v from rfl]
        rw [decide_eq_false (show ¬ (lo ≤ v ∧ v ≤ hi) by omega)]
        exact ⟨⟨rfl, fun z => absurd z (by omega), fun _ => hv23⟩, hI26, hO24.hs⟩
theorem y220L {xs : Option (List Int32)} {d : Nat} {n p : Nat} {X : Nat → Nat} {w : List sx_C} {lo hi : Nat} (hlo : lo < 2 ^ 31) (hhi : hi < 2 ^ 31) (hI : WI w) (hM : MT n X w) (ep : fi w 111 12 = nI p) (ef : fi w 111 13 = -1) : ∀ (fz j v : Nat), n ≤ j + fz → j ≤ n → v ≤ 9999999 → sx_RP xs (d + 3) 220 38 [(0, .ref 111), (1, .int (nI lo)), (2, .int (nI hi)), (3, .long (nI v).toInt64), (5, .int (nI j))] [] w (fun r2 w2 => (r2 = some (.int (b01 (decide (lo ≤ (nuV 9999999 X v j (rE digi n X j - j)) ∧ (nuV 9999999 X v j (rE digi n X j - j)) ≤ hi)))) ∧ ((lo ≤ (nuV 9999999 X v j (rE digi n X j - j)) ∧ (nuV 9999999 X v j (rE digi n X j - j)) ≤ hi) → fi w2 111 12 = nI (rE digi n X j) ∧ fi w2 111 14 = nI ((nuV 9999999 X v j (rE digi n X j - j))) ∧ fi w2 111 13 = -1) ∧ (¬ (lo ≤ (nuV 9999999 X v j (rE digi n X j - j)) ∧ (nuV 9999999 X v j (rE digi n X j - j)) ≤ hi) → fi w2 111 13 = nI p)) ∧ WI w2 ∧ HS w w2)
  | 0, j, v, h, hj, hv => y220B hlo hhi hI hM ep ef hj hv (fun z => absurd z (by omega))
  | fz + 1, j, v, h, hj, hv => y220B hlo hhi hI hM ep ef hj hv (fun z => y220L hlo hhi hI hM ep ef fz (j + 1) _ (by omega) z (Nat.min_le_left _ _))
theorem so_digi {n p : Nat} {X : Nat → Nat} (hX : ∀ i, i < n → X i < 256) : soT n X p = 2 ↔ (p < n ∧ digi (X p) = true) := by
  unfold soT
  split
  · rename_i h
    rw [sort_2 ⟨X p, hX p h⟩]
    exact ⟨fun z => ⟨h, z⟩, fun z => z.2⟩
  · rename_i h
    exact ⟨fun z => absurd z (by decide), fun z => absurd z.1 h⟩
theorem be_digi {n p : Nat} {X : Nat → Nat} (hX : ∀ i, i < n → X i < 256) (h : p < n ∧ digi (X p) = true) : beT n X p = rE digi n X p ∧ vaT n X p = min 1000000 (nuV 9999999 X 0 p (rE digi n X p - p)) := by
  have h2 := (sort_2 ⟨X p, hX p h.1⟩).mpr h.2
  replace h2 : sortN (X p) = 2 := h2
  have hb : beT n X p = rE digi n X p := by
    unfold beT
    rw [if_pos h.1, h2, if_neg (by decide), if_pos rfl, rE_y h.1 h.2]
  refine ⟨hb, ?_⟩
  unfold vaT
  rw [if_pos ((so_digi hX).mpr h), hb]
  exact nuV_min (c1 := 1000000) (c2 := 9999999) (by decide) _ 0 p
theorem nm_no {n p lo hi : Nat} {X : Nat → Nat} (hX : ∀ i, i < n → X i < 256) (h : ¬ (p < n ∧ digi (X p) = true)) : nmT n X p lo hi = false := by
  unfold nmT
  rw [decide_eq_false (fun z => h ((so_digi hX).mp z)), Bool.false_and]
theorem nm_eq {n p lo hi : Nat} {X : Nat → Nat} (hX : ∀ i, i < n → X i < 256) (h : p < n ∧ digi (X p) = true) (hh : hi < 1000000) : nmT n X p lo hi = decide (lo ≤ nuV 9999999 X 0 p (rE digi n X p - p) ∧ nuV 9999999 X 0 p (rE digi n X p - p) ≤ hi) := by
  unfold nmT
  rw [decide_eq_true ((so_digi hX).mpr h), Bool.true_and, (be_digi hX h).2, ← Bool.decide_and]
  exact decide_eq_decide.mpr (by omega)
set_option maxRecDepth 20000 in
set_option maxHeartbeats 4000000 in
theorem y220 {xs : Option (List Int32)} {d : Nat} {w : List sx_C} (hI : WI w) {n p : Nat} {X : Nat → Nat} (hM : MT n X w) (hp : p ≤ n) (ep : fi w 111 12 = nI p) (ef : fi w 111 13 = -1) {lo hi : Nat} (hlo : lo < 2 ^ 31) (hhi : hi < 1000000) : sx_RP xs (d + 3) 220 0 (lv_args 0 [.ref 111, .int (nI lo), .int (nI hi)]) [] w (fun r w2 => (r = some (.int (b01 (nmT n X (rE blk n X p) lo hi))) ∧ (nmT n X (rE blk n X p) lo hi = true → fi w2 111 12 = nI (beT n X (rE blk n X p)) ∧ fi w2 111 14 = nI (vaT n X (rE blk n X p)) ∧ fi w2 111 13 = -1) ∧ (nmT n X (rE blk n X p) lo hi = false → fi w2 111 13 = nI (rE blk n X p))) ∧ WI w2 ∧ HS w w2) := by
  have hn := hM.2.1
  refine sx_RP.step (pc2 := 1) (ls2 := [(0, .ref 111), (1, .int (nI lo)), (2, .int (nI hi))]) (st2 := [.ref 111]) (w3 := w) rfl rfl ?_
  refine sx_RP.callp (as2 := [.ref 111]) (rest2 := []) rfl rfl (sx_inv_v2 (mi := 220) (k := 224) (st := [.ref 111]) (w := w) rfl rfl hI.1.o111 rfl rfl rfl) rfl rfl rfl (y215 hI hM hp ep) (show _ = 4 from rfl) ?_
  rintro r4 w3 ⟨⟨rfl, ep1⟩, hI4, hO2⟩
  show sx_RP _ _ _ _ _ [] _ _
  have hM2 := hM.hs hO2.hs
  have hq : rE blk n X p ≤ n := rE_le hp
  have ef2 := (hO2.2 13 (by decide)).trans ef
  refine sx_RP.step (pc2 := 5) (ls2 := [(0, .ref 111), (1, .int (nI lo)), (2, .int (nI hi))]) (st2 := [.ref 111]) (w3 := w3) rfl rfl ?_
  refine sx_RP.gf (v := .int (fi w3 111 13)) rfl rfl hI4.1.o111 rfl rfl (show _ = 8 from rfl) ?_
  rw [ef2]
  refine sx_RP.step (pc2 := 11) (ls2 := [(0, .ref 111), (1, .int (nI lo)), (2, .int (nI hi))]) (st2 := []) (w3 := w3) rfl rfl ?_
  refine sx_RP.step (pc2 := 12) (ls2 := [(0, .ref 111), (1, .int (nI lo)), (2, .int (nI hi))]) (st2 := [.ref 111]) (w3 := w3) rfl rfl ?_
  refine sx_RP.step (pc2 := 13) (ls2 := [(0, .ref 111), (1, .int (nI lo)), (2, .int (nI hi))]) (st2 := [.ref 111, .ref 111]) (w3 := w3) rfl rfl ?_
  refine sx_RP.gf (v := .int (fi w3 111 12)) rfl rfl hI4.1.o111 rfl rfl (show _ = 16 from rfl) ?_
  rw [ep1]
  refine sx_RP.cu (as := [.ref 111, .int (nI (rE blk n X p))]) (rest2 := []) (st3 := [.int (bA n X (rE blk n X p))]) rfl rfl (sx_inv_v2 (mi := 220) (k := 215) (st := [.int (nI (rE blk n X p)), .ref 111]) (w := w3) rfl rfl hI4.1.o111 rfl rfl rfl) rfl rfl (y216 hI4 hM2 (by omega)) rfl ?_
  rcases Classical.em (rE blk n X p < n ∧ digi (X (rE blk n X p)) = true) with c5 | c5
  · refine sx_RP.cu (as := [.int (bA n X (rE blk n X p))]) (rest2 := []) (st3 := [.int 1]) rfl rfl rfl rfl rfl (cx_221p ((bA_digi (fun z => hM.x z)).mpr c5)) rfl ?_
    refine sx_RP.step (pc2 := 30) (ls2 := [(0, .ref 111), (1, .int (nI lo)), (2, .int (nI hi))]) (st2 := []) (w3 := w3) rfl rfl ?_
    refine sx_RP.step (pc2 := 31) (ls2 := [(0, .ref 111), (1, .int (nI lo)), (2, .int (nI hi))]) (st2 := [.long 0]) (w3 := w3) rfl rfl ?_
    refine sx_RP.step (pc2 := 32) (ls2 := [(3, .long 0), (0, .ref 111), (1, .int (nI lo)), (2, .int (nI hi))]) (st2 := []) (w3 := w3) rfl rfl ?_
    refine sx_RP.step (pc2 := 33) (ls2 := [(3, .long 0), (0, .ref 111), (1, .int (nI lo)), (2, .int (nI hi))]) (st2 := [.ref 111]) (w3 := w3) rfl rfl ?_
    refine sx_RP.gf (v := .int (fi w3 111 12)) rfl rfl hI4.1.o111 rfl rfl (show _ = 36 from rfl) ?_
    rw [ep1]
    refine sx_RP.step (pc2 := 38) (ls2 := [(5, .int (nI (rE blk n X p))), (3, .long 0), (0, .ref 111), (1, .int (nI lo)), (2, .int (nI hi))]) (st2 := []) (w3 := w3) rfl rfl ?_
    have hbe := be_digi (fun i hi => hM.x hi) c5
    rw [nm_eq (fun i hi => hM.x hi) c5 hhi, hbe.1, hbe.2]
    refine sx_RP.ls (sx_lr.cons rfl (sx_lr.cons rfl (sx_lr.cons rfl (sx_lr.cons rfl (sx_lr.cons rfl sx_lr.nil))))) ((y220L hlo (Nat.lt_trans hhi (by decide)) hI4 hM2 ep1 ef2 n (rE blk n X p) 0 (by omega) hq (by decide)).mono9 ?_)
    rintro r9 w9 ⟨⟨h1, h2, h3⟩, h4, h5⟩
    refine ⟨⟨h1, fun z => ?_, fun z => h3 (of_decide_eq_false z)⟩, h4, hO2.hs.tr h5⟩
    have h6 := h2 (of_decide_eq_true z)
    have h7 := of_decide_eq_true z
    rw [Nat.min_eq_right (by omega)]
    exact h6
  · refine sx_RP.cu (as := [.int (bA n X (rE blk n X p))]) (rest2 := []) (st3 := [.int 0]) rfl rfl rfl rfl rfl (cx_221n (fun z => c5 ((bA_digi (fun z => hM.x z)).mp z))) rfl ?_
    refine sx_RP.step (pc2 := 25) (ls2 := [(0, .ref 111), (1, .int (nI lo)), (2, .int (nI hi))]) (st2 := []) (w3 := w3) rfl rfl ?_
    refine sx_RP.step (pc2 := 26) (ls2 := [(0, .ref 111), (1, .int (nI lo)), (2, .int (nI hi))]) (st2 := [.ref 111]) (w3 := w3) rfl rfl ?_
    refine sx_RP.callp (as2 := [.ref 111]) (rest2 := []) rfl rfl (sx_inv_v2 (mi := 220) (k := 245) (st := [.ref 111]) (w := w3) rfl rfl hI4.1.o111 rfl rfl rfl) rfl rfl rfl (y222 (p := rE blk n X p) hI4 ef2 ep1) (show _ = 29 from rfl) ?_
    rintro r4 w8 ⟨⟨rfl, hv6⟩, hI9, hO7⟩
    show sx_RP _ _ _ _ _ [.int 0] _ _
    refine sx_RP.ret (r := (some (.int 0))) rfl rfl ?_
    rw [nm_no (fun i hi => hM.x hi) c5]
    exact ⟨⟨rfl, fun z => absurd z (by decide), fun _ => hv6⟩, hI9, hO2.hs.tr hO7.hs⟩
end
-- 89r.siege.lean.txt
section
def OM (w w2 : List sx_C) : Prop := (∀ a, a ≠ 111 → a ≠ 112 → w2[a]? = w[a]?) ∧ ∀ j, j < 12 → fi w2 111 j = fi w 111 j
theorem OM.rf {w : List sx_C} : OM w w := ⟨fun _ _ _ => rfl, fun _ _ => rfl⟩
theorem OM.tr {w w1 w2 : List sx_C} (h : OM w w1) (h2 : OM w1 w2) : OM w w2 := ⟨fun a h3 h4 => (h2.1 a h3 h4).trans (h.1 a h3 h4), fun j hj => (h2.2 j hj).trans (h.2 j hj)⟩
theorem HS.om {w w2 : List sx_C} (h : HS w w2) : OM w w2 := ⟨fun a h1 _ => h.1 a h1, h.2⟩
theorem OM.st {w w2 : List sx_C} (h : Same 112 w w2) : OM w w2 := ⟨fun a _ h2 => h a h2, fun j _ => fi_same j (h 111 (by decide))⟩
theorem MT.om {n : Nat} {X : Nat → Nat} {w w2 : List sx_C} (h : MT n X w) (e : OM w w2) : MT n X w2 := ⟨(e.2 11 (by decide)).trans h.1, h.2.1, fun i hi => by rw [ia_of (e.1 121 (by decide) (by decide))]; exact h.2.2 i hi⟩
theorem HS.row {w w2 : List sx_C} (h : HS w w2) : ia w2 112 = ia w 112 := ia_of (h.1 112 (by decide))
theorem y214t {xs : Option (List Int32)} {d n h q : Nat} {X : Nat → Nat} {w : List sx_C} (hI : WI w) (hM : MT n X w) (hp : h ≤ n) (ep : fi w 111 12 = nI h) {k : UInt32} {m : Nat} (hk : 100 ≤ k.toNat ∧ k.toNat < 120) (en : sx_sn.getD (k.toNat - 100) 0 = m) (hm : m ≤ 7) (h1 : 1 ≤ m) (hP : rE blk n X h = q) (c : wdT n X q k = true) : sx_RP xs (d + 3) 214 0 (lv_args 0 [.ref 111, .float k]) [] w (fun r w2 => (r = some (.int 1) ∧ fi w2 111 12 = nI q) ∧ WI w2 ∧ H12 w w2) := by
  subst hP
  have z := y214 (xs := xs) (d := d) hI hM hp ep hk en hm h1
  rw [c] at z
  exact z
theorem y214f {xs : Option (List Int32)} {d n h q : Nat} {X : Nat → Nat} {w : List sx_C} (hI : WI w) (hM : MT n X w) (hp : h ≤ n) (ep : fi w 111 12 = nI h) {k : UInt32} {m : Nat} (hk : 100 ≤ k.toNat ∧ k.toNat < 120) (en : sx_sn.getD (k.toNat - 100) 0 = m) (hm : m ≤ 7) (h1 : 1 ≤ m) (hP : rE blk n X h = q) (c : wdT n X q k = false) : sx_RP xs (d + 3) 214 0 (lv_args 0 [.ref 111, .float k]) [] w (fun r w2 => (r = some (.int 0) ∧ fi w2 111 12 = nI q) ∧ WI w2 ∧ H12 w w2) := by
  subst hP
  have z := y214 (xs := xs) (d := d) hI hM hp ep hk en hm h1
  rw [c] at z
  exact z
theorem y213t {xs : Option (List Int32)} {d n h q : Nat} {X : Nat → Nat} {w : List sx_C} (hI : WI w) (hM : MT n X w) (hp : h ≤ n) (ep : fi w 111 12 = nI h) (ef : fi w 111 13 = -1) {k : UInt32} {m : Nat} (hk : 100 ≤ k.toNat ∧ k.toNat < 120) (en : sx_sn.getD (k.toNat - 100) 0 = m) (hm : m ≤ 7) (h1 : 1 ≤ m) (hP : rE blk n X h = q) (c : wdT n X q k = true) : sx_RP xs (d + 4) 213 0 (lv_args 0 [.ref 111, .float k]) [] w (fun r w2 => (r = some (.int 1) ∧ fi w2 111 12 = nI (beT n X q)) ∧ WI w2 ∧ H12 w w2) := by
  subst hP
  have z := y213 (xs := xs) (d := d) hI hM hp ep ef hk en hm h1
  have t := wd_to (fun i hi => hM.x hi) (rE_le hp) (show 1 ≤ wl k by rw [show wl k = m from en]; exact h1) c
  rw [show wl k = m from en] at t
  rw [c, cond_true, t.1] at z
  exact z
theorem y213f {xs : Option (List Int32)} {d n h q : Nat} {X : Nat → Nat} {w : List sx_C} (hI : WI w) (hM : MT n X w) (hp : h ≤ n) (ep : fi w 111 12 = nI h) (ef : fi w 111 13 = -1) {k : UInt32} {m : Nat} (hk : 100 ≤ k.toNat ∧ k.toNat < 120) (en : sx_sn.getD (k.toNat - 100) 0 = m) (hm : m ≤ 7) (h1 : 1 ≤ m) (hP : rE blk n X h = q) (c : wdT n X q k = false) : sx_RP xs (d + 4) 213 0 (lv_args 0 [.ref 111, .float k]) [] w (fun r w2 => (r = some (.int 0) ∧ fi w2 111 12 = nI q) ∧ WI w2 ∧ H12 w w2) := by
  subst hP
  have z := y213 (xs := xs) (d := d) hI hM hp ep ef hk en hm h1
  rw [c, cond_false, Nat.add_zero] at z
  exact z
theorem y228t {xs : Option (List Int32)} {d n h q : Nat} {X : Nat → Nat} {w : List sx_C} (hI : WI w) (hM : MT n X w) (hp : h ≤ n) (ep : fi w 111 12 = nI h) (ef : fi w 111 13 = -1) {k : UInt32} {m : Nat} (hk : 100 ≤ k.toNat ∧ k.toNat < 120) (en : sx_sn.getD (k.toNat - 100) 0 = m) (hm : m ≤ 7) (h1 : 1 ≤ m) (hP : rE blk n X h = q) (c : wdT n X q k = true) : sx_RP xs (d + 5) 228 0 (lv_args 0 [.ref 111, .float k]) [] w (fun r w2 => (r = some (.int 1) ∧ fi w2 111 12 = nI (beT n X q) ∧ fi w2 111 13 = -1) ∧ WI w2 ∧ HS w w2) := by
  subst hP
  have t := wd_to (fun i hi => hM.x hi) (rE_le hp) (show 1 ≤ wl k by rw [show wl k = m from en]; exact h1) c
  rw [show wl k = m from en] at t
  refine (y228 (xs := xs) (d := d) hI hM hp ep ef hk en hm h1).mono9 ?_
  rintro r9 w9 ⟨⟨e1, e2, e3⟩, e4, e5⟩
  have e6 := e2 c
  rw [t.1] at e6
  rw [c] at e1
  exact ⟨⟨e1, e6⟩, e4, e5⟩
theorem y228f {xs : Option (List Int32)} {d n h q : Nat} {X : Nat → Nat} {w : List sx_C} (hI : WI w) (hM : MT n X w) (hp : h ≤ n) (ep : fi w 111 12 = nI h) (ef : fi w 111 13 = -1) {k : UInt32} {m : Nat} (hk : 100 ≤ k.toNat ∧ k.toNat < 120) (en : sx_sn.getD (k.toNat - 100) 0 = m) (hm : m ≤ 7) (h1 : 1 ≤ m) (hP : rE blk n X h = q) (c : wdT n X q k = false) : sx_RP xs (d + 5) 228 0 (lv_args 0 [.ref 111, .float k]) [] w (fun r w2 => (r = some (.int 0) ∧ fi w2 111 13 = nI q) ∧ WI w2 ∧ HS w w2) := by
  subst hP
  refine (y228 (xs := xs) (d := d) hI hM hp ep ef hk en hm h1).mono9 ?_
  rintro r9 w9 ⟨⟨e1, e2, e3⟩, e4, e5⟩
  rw [c] at e1
  exact ⟨⟨e1, e3 c⟩, e4, e5⟩
theorem y220t {xs : Option (List Int32)} {d n h q : Nat} {X : Nat → Nat} {w : List sx_C} (hI : WI w) (hM : MT n X w) (hp : h ≤ n) (ep : fi w 111 12 = nI h) (ef : fi w 111 13 = -1) {lo hi : Nat} (hlo : lo < 2 ^ 31) (hhi : hi < 1000000) (hP : rE blk n X h = q) (c : nmT n X q lo hi = true) : sx_RP xs (d + 3) 220 0 (lv_args 0 [.ref 111, .int (nI lo), .int (nI hi)]) [] w (fun r w2 => (r = some (.int 1) ∧ fi w2 111 12 = nI (beT n X q) ∧ fi w2 111 14 = nI (vaT n X q) ∧ fi w2 111 13 = -1) ∧ WI w2 ∧ HS w w2) := by
  subst hP
  refine (y220 (xs := xs) (d := d) hI hM hp ep ef hlo hhi).mono9 ?_
  rintro r9 w9 ⟨⟨e1, e2, e3⟩, e4, e5⟩
  rw [c] at e1
  exact ⟨⟨e1, e2 c⟩, e4, e5⟩
theorem y220f {xs : Option (List Int32)} {d n h q : Nat} {X : Nat → Nat} {w : List sx_C} (hI : WI w) (hM : MT n X w) (hp : h ≤ n) (ep : fi w 111 12 = nI h) (ef : fi w 111 13 = -1) {lo hi : Nat} (hlo : lo < 2 ^ 31) (hhi : hi < 1000000) (hP : rE blk n X h = q) (c : nmT n X q lo hi = false) : sx_RP xs (d + 3) 220 0 (lv_args 0 [.ref 111, .int (nI lo), .int (nI hi)]) [] w (fun r w2 => (r = some (.int 0) ∧ fi w2 111 13 = nI q) ∧ WI w2 ∧ HS w w2) := by
  subst hP
  refine (y220 (xs := xs) (d := d) hI hM hp ep ef hlo hhi).mono9 ?_
  rintro r9 w9 ⟨⟨e1, e2, e3⟩, e4, e5⟩
  rw [c] at e1
  exact ⟨⟨e1, e3 c⟩, e4, e5⟩
set_option maxRecDepth 20000 in
set_option maxHeartbeats 4000000 in
theorem y225 {xs : Option (List Int32)} {d : Nat} {w : List sx_C} (hI : WI w) {n p : Nat} {X : Nat → Nat} (hM : MT n X w) (hp : p ≤ n) (ep : fi w 111 12 = nI p) (ef : fi w 111 13 = -1) : sx_RP xs (d + 3) 225 0 (lv_args 0 [.ref 111]) [] w (fun r w2 => (r = some (.int (b01 (decide (soT n X (rE blk n X p) = 2)))) ∧ fi w2 111 12 = nI (rE blk n X p)) ∧ WI w2 ∧ H12 w w2) := by
  have hn := hM.2.1
  refine sx_RP.step (pc2 := 1) (ls2 := [(0, .ref 111)]) (st2 := [.ref 111]) (w3 := w) rfl rfl ?_
  refine sx_RP.callp (as2 := [.ref 111]) (rest2 := []) rfl rfl (sx_inv_v2 (mi := 225) (k := 224) (st := [.ref 111]) (w := w) rfl rfl hI.1.o111 rfl rfl rfl) rfl rfl rfl (y215 hI hM hp ep) (show _ = 4 from rfl) ?_
  rintro r4 w3 ⟨⟨rfl, ep1⟩, hI4, hO2⟩
  show sx_RP _ _ _ _ _ [] _ _
  have hM2 := hM.hs hO2.hs
  have hq : rE blk n X p ≤ n := rE_le hp
  have ef2 := (hO2.2 13 (by decide)).trans ef
  refine sx_RP.step (pc2 := 5) (ls2 := [(0, .ref 111)]) (st2 := [.ref 111]) (w3 := w3) rfl rfl ?_
  refine sx_RP.gf (v := .int (fi w3 111 13)) rfl rfl hI4.1.o111 rfl rfl (show _ = 8 from rfl) ?_
  rw [ef2]
  refine sx_RP.step (pc2 := 11) (ls2 := [(0, .ref 111)]) (st2 := []) (w3 := w3) rfl rfl ?_
  refine sx_RP.step (pc2 := 12) (ls2 := [(0, .ref 111)]) (st2 := [.ref 111]) (w3 := w3) rfl rfl ?_
  refine sx_RP.step (pc2 := 13) (ls2 := [(0, .ref 111)]) (st2 := [.ref 111, .ref 111]) (w3 := w3) rfl rfl ?_
  refine sx_RP.gf (v := .int (fi w3 111 12)) rfl rfl hI4.1.o111 rfl rfl (show _ = 16 from rfl) ?_
  rw [ep1]
  refine sx_RP.cu (as := [.ref 111, .int (nI (rE blk n X p))]) (rest2 := []) (st3 := [.int (bA n X (rE blk n X p))]) rfl rfl (sx_inv_v2 (mi := 225) (k := 215) (st := [.int (nI (rE blk n X p)), .ref 111]) (w := w3) rfl rfl hI4.1.o111 rfl rfl rfl) rfl rfl (y216 hI4 hM2 (by omega)) rfl ?_
  rcases Classical.em (rE blk n X p < n ∧ digi (X (rE blk n X p)) = true) with c5 | c5
  · refine sx_RP.cu (as := [.int (bA n X (rE blk n X p))]) (rest2 := []) (st3 := [.int 1]) rfl rfl rfl rfl rfl (cx_221p ((bA_digi (fun z => hM.x z)).mpr c5)) rfl ?_
    refine sx_RP.step (pc2 := 25) (ls2 := [(0, .ref 111)]) (st2 := []) (w3 := w3) rfl rfl ?_
    refine sx_RP.step (pc2 := 26) (ls2 := [(0, .ref 111)]) (st2 := [.int 1]) (w3 := w3) rfl rfl ?_
    refine sx_RP.step (pc2 := 30) (ls2 := [(0, .ref 111)]) (st2 := [.int 1]) (w3 := w3) rfl rfl ?_
    refine sx_RP.ret (r := (some (.int 1))) rfl rfl ?_
    rw [decide_eq_true ((so_digi (fun i hi => hM.x hi)).mpr c5)]
    exact ⟨⟨rfl, ep1⟩, hI4, hO2⟩
  · refine sx_RP.cu (as := [.int (bA n X (rE blk n X p))]) (rest2 := []) (st3 := [.int 0]) rfl rfl rfl rfl rfl (cx_221n (fun z => c5 ((bA_digi (fun z => hM.x z)).mp z))) rfl ?_
    refine sx_RP.step (pc2 := 29) (ls2 := [(0, .ref 111)]) (st2 := []) (w3 := w3) rfl rfl ?_
    refine sx_RP.step (pc2 := 30) (ls2 := [(0, .ref 111)]) (st2 := [.int 0]) (w3 := w3) rfl rfl ?_
    refine sx_RP.ret (r := (some (.int 0))) rfl rfl ?_
    rw [decide_eq_false (fun z => c5 ((so_digi (fun i hi => hM.x hi)).mp z))]
    exact ⟨⟨rfl, ep1⟩, hI4, hO2⟩
end
-- 89s.siege.lean.txt
section
def RdM (n : Nat) (X : Nat → Nat) (q : Bool × Nat × BB) (w : List sx_C) : Prop := (q.1 = true → fi w 111 13 = -1 ∧ rowB (ia w 112) = q.2.2 ∧ ∃ h, h ≤ n ∧ fi w 111 12 = nI h ∧ rE blk n X h = q.2.1) ∧ (q.1 = false → fi w 111 13 = nI q.2.1)
theorem RdM.t {n p h : Nat} {X : Nat → Nat} {b : BB} {w : List sx_C} (e1 : fi w 111 13 = -1) (e2 : rowB (ia w 112) = b) (e3 : h ≤ n) (e4 : fi w 111 12 = nI h) (e5 : rE blk n X h = p) : RdM n X (true, p, b) w := ⟨fun _ => ⟨e1, e2, h, e3, e4, e5⟩, fun z => absurd (show true = false from z) (by decide)⟩
theorem RdM.f {n p : Nat} {X : Nat → Nat} {b : BB} {w : List sx_C} (e1 : fi w 111 13 = nI p) : RdM n X (false, p, b) w := ⟨fun z => absurd (show false = true from z) (by decide), fun _ => e1⟩
def breS (n : Nat) (X : Nat → Nat) (p : Nat) (b : BB) : Bool × Nat × BB := if nmT n X p 0 999999 = true then br1 n X (nP n X p) (setO (nI (vaT n X p)) b) else (false, p, b)
def galS (n : Nat) (X : Nat → Nat) (k p : Nat) (b : BB) : Bool × Nat × BB := if wdT n X p 115 = true ∨ wdT n X p 109 = true then (if (wtT n X (nP n X p) 100 0 47).1 = true then (if (wtT n X (nP n X (wtT n X (nP n X p) 100 0 47).2) 119 0 3).1 = true then (true, nP n X (wtT n X (nP n X (wtT n X (nP n X p) 100 0 47).2) 119 0 3).2, addK (nI k) b) else (false, (wtT n X (nP n X (wtT n X (nP n X p) 100 0 47).2) 119 0 3).2, b)) else (false, (wtT n X (nP n X p) 100 0 47).2, b)) else (false, p, b)
theorem galT_S {n k p : Nat} {X : Nat → Nat} {b : BB} (h : b.1.length < 10) : galT n X k p b = galS n X k (nP n X p) b := by
  unfold galT
  rw [if_pos h]
  rfl
set_option maxRecDepth 20000 in
set_option maxHeartbeats 4000000 in
theorem y229 {xs : Option (List Int32)} {d : Nat} {w : List sx_C} (hI : WI w) {n h q : Nat} {X : Nat → Nat} {b : BB} (hM : MT n X w) (hp : h ≤ n) (ep : fi w 111 12 = nI h) (ef : fi w 111 13 = -1) (hP : rE blk n X h = q) (hB : rowB (ia w 112) = b) : sx_RP xs (d + 6) 229 0 (lv_args 0 [.ref 111]) [] w (fun r w2 => (r = some (.int (b01 (breS n X q b).1)) ∧ RdM n X (breS n X q b) w2) ∧ WI w2 ∧ OM w w2) := by
  have hn := hM.2.1
  have hpl : q ≤ n := by rw [← hP]; exact rE_le hp
  refine sx_RP.step (pc2 := 1) (ls2 := [(0, .ref 111)]) (st2 := [.ref 111]) (w3 := w) rfl rfl ?_
  refine sx_RP.step (pc2 := 2) (ls2 := [(0, .ref 111)]) (st2 := [.int 0, .ref 111]) (w3 := w) rfl rfl ?_
  refine sx_RP.step (pc2 := 4) (ls2 := [(0, .ref 111)]) (st2 := [.int 999999, .int 0, .ref 111]) (w3 := w) rfl rfl ?_
  rcases Bool.eq_false_or_eq_true (nmT n X q 0 999999) with c1 | c1
  · refine sx_RP.callp (as2 := [.ref 111, .int 0, .int 999999]) (rest2 := []) rfl rfl (sx_inv_v2 (mi := 229) (k := 267) (st := [.int 999999, .int 0, .ref 111]) (w := w) rfl rfl hI.1.o111 rfl rfl rfl) rfl rfl rfl (y220t (lo := 0) (hi := 999999) hI hM hp ep ef (by omega) (by decide) hP c1) (show _ = 7 from rfl) ?_
    rintro r4 w6 ⟨⟨rfl, ep2, ev5, ef4⟩, hI7, hO3⟩
    show sx_RP _ _ _ _ _ [.int 1] _ _
    have hp8 : beT n X q ≤ n := beT_le hpl
    have hp9 : nP n X q ≤ n := rE_le hp8
    have hr10 := nmT_in c1
    have hP11 : rE blk n X (beT n X q) = nP n X q := rfl
    have hM12 := hM.hs (hO3)
    have hO13 := OM.rf.tr (HS.om (hO3))
    have hB14 : rowB (ia w6 112) = b := by rw [HS.row (hO3)]; exact hB
    refine sx_RP.step (pc2 := 12) (ls2 := [(0, .ref 111)]) (st2 := []) (w3 := w6) rfl rfl ?_
    refine sx_RP.step (pc2 := 13) (ls2 := [(0, .ref 111)]) (st2 := [.ref 111]) (w3 := w6) rfl rfl ?_
    refine sx_RP.gf (v := .ref 112) rfl rfl hI7.1.o111 rfl rfl (show _ = 16 from rfl) ?_
    refine sx_RP.step (pc2 := 17) (ls2 := [(0, .ref 111)]) (st2 := [.int 4, .ref 112]) (w3 := w6) rfl rfl ?_
    refine sx_RP.step (pc2 := 18) (ls2 := [(0, .ref 111)]) (st2 := [.ref 111, .int 4, .ref 112]) (w3 := w6) rfl rfl ?_
    refine sx_RP.gf (v := .int (fi w6 111 14)) rfl rfl hI7.1.o111 rfl rfl (show _ = 21 from rfl) ?_
    rw [ev5]
    refine sx_RP.xM (k := 4) hI7 (by decide) rfl (by omega) (eOK_n (by omega)) (show _ = 22 from rfl) (fun w15 hI16 hs17 hv18 => ?_)
    have hB19 : rowB (ia w15 112) = setO (nI (vaT n X q)) (b) := by rw [hv18, show (4 : Nat) = 4 + 0 from rfl, rowB_setF hI7.1.a112.2 (Or.inl rfl) (hI7.manyM (by decide)), if_pos rfl, hB14]
    have ep20 := (fi_same 12 (hs17 111 (by decide))).trans ep2
    have ef21 := (fi_same 13 (hs17 111 (by decide))).trans ef4
    have hM22 := hM12.om (OM.st hs17)
    have hO23 := hO13.tr (OM.st hs17)
    refine sx_RP.step (pc2 := 23) (ls2 := [(0, .ref 111)]) (st2 := [.ref 111]) (w3 := w15) rfl rfl ?_
    refine sx_RP.step (pc2 := 26) (ls2 := [(0, .ref 111)]) (st2 := [.float 108, .ref 111]) (w3 := w15) rfl rfl ?_
    rcases Bool.eq_false_or_eq_true (wdT n X (nP n X q) (108 : UInt32)) with c24 | c24
    · refine sx_RP.callp (as2 := [.ref 111, .float 108]) (rest2 := []) rfl rfl (sx_inv_v2 (mi := 229) (k := 243) (st := [.float 108, .ref 111]) (w := w15) rfl rfl hI16.1.o111 rfl rfl rfl) rfl rfl rfl (y213t (k := (108 : UInt32)) (m := 6) hI16 hM22 hp8 ep20 ef21 (by decide) rfl (by decide) (by decide) hP11 c24) (show _ = 29 from rfl) ?_
      rintro r4 w28 ⟨⟨rfl, ep25⟩, hI29, hO26⟩
      show sx_RP _ _ _ _ _ [.int 1] _ _
      have ef27 := (hO26.2 13 (by decide)).trans ef21
      have hp30 : beT n X (nP n X q) ≤ n := beT_le hp9
      have hp31 : nP n X (nP n X q) ≤ n := rE_le hp30
      have hP32 : rE blk n X (beT n X (nP n X q)) = nP n X (nP n X q) := rfl
      have hM33 := hM22.hs (hO26.hs)
      have hO34 := hO23.tr (HS.om (hO26.hs))
      have hB35 : rowB (ia w28 112) = setO (nI (vaT n X q)) (b) := by rw [HS.row (hO26.hs)]; exact hB19
      refine sx_RP.step (pc2 := 32) (ls2 := [(0, .ref 111)]) (st2 := []) (w3 := w28) rfl rfl ?_
      refine sx_RP.step (pc2 := 33) (ls2 := [(0, .ref 111)]) (st2 := [.ref 111]) (w3 := w28) rfl rfl ?_
      refine sx_RP.step (pc2 := 34) (ls2 := [(0, .ref 111)]) (st2 := [.int 1, .ref 111]) (w3 := w28) rfl rfl ?_
      refine sx_RP.step (pc2 := 37) (ls2 := [(0, .ref 111)]) (st2 := [.int 999, .int 1, .ref 111]) (w3 := w28) rfl rfl ?_
      rcases Bool.eq_false_or_eq_true (nmT n X (nP n X (nP n X q)) 1 999) with c36 | c36
      · refine sx_RP.callp (as2 := [.ref 111, .int 1, .int 999]) (rest2 := []) rfl rfl (sx_inv_v2 (mi := 229) (k := 267) (st := [.int 999, .int 1, .ref 111]) (w := w28) rfl rfl hI29.1.o111 rfl rfl rfl) rfl rfl rfl (y220t (lo := 1) (hi := 999) hI29 hM33 hp30 ep25 ef27 (by omega) (by decide) hP32 c36) (show _ = 40 from rfl) ?_
        rintro r4 w41 ⟨⟨rfl, ep37, ev40, ef39⟩, hI42, hO38⟩
        show sx_RP _ _ _ _ _ [.int 1] _ _
        have hp43 : beT n X (nP n X (nP n X q)) ≤ n := beT_le hp31
        have hp44 : nP n X (nP n X (nP n X q)) ≤ n := rE_le hp43
        have hr45 := nmT_in c36
        have hP46 : rE blk n X (beT n X (nP n X (nP n X q))) = nP n X (nP n X (nP n X q)) := rfl
        have hM47 := hM33.hs (hO38)
        have hO48 := hO34.tr (HS.om (hO38))
        have hB49 : rowB (ia w41 112) = setO (nI (vaT n X q)) (b) := by rw [HS.row (hO38)]; exact hB35
        refine sx_RP.step (pc2 := 45) (ls2 := [(0, .ref 111)]) (st2 := []) (w3 := w41) rfl rfl ?_
        refine sx_RP.step (pc2 := 46) (ls2 := [(0, .ref 111)]) (st2 := [.ref 111]) (w3 := w41) rfl rfl ?_
        refine sx_RP.gf (v := .ref 112) rfl rfl hI42.1.o111 rfl rfl (show _ = 49 from rfl) ?_
        refine sx_RP.step (pc2 := 50) (ls2 := [(0, .ref 111)]) (st2 := [.int 5, .ref 112]) (w3 := w41) rfl rfl ?_
        refine sx_RP.step (pc2 := 51) (ls2 := [(0, .ref 111)]) (st2 := [.ref 111, .int 5, .ref 112]) (w3 := w41) rfl rfl ?_
        refine sx_RP.gf (v := .int (fi w41 111 14)) rfl rfl hI42.1.o111 rfl rfl (show _ = 54 from rfl) ?_
        rw [ev40]
        refine sx_RP.xM (k := 5) hI42 (by decide) rfl (by omega) (eOK_n (by omega)) (show _ = 55 from rfl) (fun w50 hI51 hs52 hv53 => ?_)
        have hB54 : rowB (ia w50 112) = setM (nI (vaT n X (nP n X (nP n X q)))) (setO (nI (vaT n X q)) (b)) := by rw [hv53, show (5 : Nat) = 4 + 1 from rfl, rowB_setF hI42.1.a112.2 (Or.inr (Or.inl rfl)) (hI42.manyM (by decide)), if_neg (by decide), if_pos rfl, hB49]
        have ep55 := (fi_same 12 (hs52 111 (by decide))).trans ep37
        have ef56 := (fi_same 13 (hs52 111 (by decide))).trans ef39
        have hM57 := hM47.om (OM.st hs52)
        have hO58 := hO48.tr (OM.st hs52)
        refine sx_RP.step (pc2 := 56) (ls2 := [(0, .ref 111)]) (st2 := [.ref 111]) (w3 := w50) rfl rfl ?_
        refine sx_RP.step (pc2 := 59) (ls2 := [(0, .ref 111)]) (st2 := [.float 111, .ref 111]) (w3 := w50) rfl rfl ?_
        rcases Bool.eq_false_or_eq_true (wdT n X (nP n X (nP n X (nP n X q))) (111 : UInt32)) with c59 | c59
        · refine sx_RP.callp (as2 := [.ref 111, .float 111]) (rest2 := []) rfl rfl (sx_inv_v2 (mi := 229) (k := 243) (st := [.float 111, .ref 111]) (w := w50) rfl rfl hI51.1.o111 rfl rfl rfl) rfl rfl rfl (y213t (k := (111 : UInt32)) (m := 6) hI51 hM57 hp43 ep55 ef56 (by decide) rfl (by decide) (by decide) hP46 c59) (show _ = 62 from rfl) ?_
          rintro r4 w63 ⟨⟨rfl, ep60⟩, hI64, hO61⟩
          show sx_RP _ _ _ _ _ [.int 1] _ _
          have ef62 := (hO61.2 13 (by decide)).trans ef56
          have hp65 : beT n X (nP n X (nP n X (nP n X q))) ≤ n := beT_le hp44
          have hp66 : nP n X (nP n X (nP n X (nP n X q))) ≤ n := rE_le hp65
          have hP67 : rE blk n X (beT n X (nP n X (nP n X (nP n X q)))) = nP n X (nP n X (nP n X (nP n X q))) := rfl
          have hM68 := hM57.hs (hO61.hs)
          have hO69 := hO58.tr (HS.om (hO61.hs))
          have hB70 : rowB (ia w63 112) = setM (nI (vaT n X (nP n X (nP n X q)))) (setO (nI (vaT n X q)) (b)) := by rw [HS.row (hO61.hs)]; exact hB54
          refine sx_RP.step (pc2 := 65) (ls2 := [(0, .ref 111)]) (st2 := []) (w3 := w63) rfl rfl ?_
          refine sx_RP.step (pc2 := 66) (ls2 := [(0, .ref 111)]) (st2 := [.ref 111]) (w3 := w63) rfl rfl ?_
          refine sx_RP.step (pc2 := 67) (ls2 := [(0, .ref 111)]) (st2 := [.int 1, .ref 111]) (w3 := w63) rfl rfl ?_
          refine sx_RP.step (pc2 := 69) (ls2 := [(0, .ref 111)]) (st2 := [.int 99, .int 1, .ref 111]) (w3 := w63) rfl rfl ?_
          rcases Bool.eq_false_or_eq_true (nmT n X (nP n X (nP n X (nP n X (nP n X q)))) 1 99) with c71 | c71
          · refine sx_RP.callp (as2 := [.ref 111, .int 1, .int 99]) (rest2 := []) rfl rfl (sx_inv_v2 (mi := 229) (k := 267) (st := [.int 99, .int 1, .ref 111]) (w := w63) rfl rfl hI64.1.o111 rfl rfl rfl) rfl rfl rfl (y220t (lo := 1) (hi := 99) hI64 hM68 hp65 ep60 ef62 (by omega) (by decide) hP67 c71) (show _ = 72 from rfl) ?_
            rintro r4 w76 ⟨⟨rfl, ep72, ev75, ef74⟩, hI77, hO73⟩
            show sx_RP _ _ _ _ _ [.int 1] _ _
            have hp78 : beT n X (nP n X (nP n X (nP n X (nP n X q)))) ≤ n := beT_le hp66
            have hp79 : nP n X (nP n X (nP n X (nP n X (nP n X q)))) ≤ n := rE_le hp78
            have hr80 := nmT_in c71
            have hP81 : rE blk n X (beT n X (nP n X (nP n X (nP n X (nP n X q))))) = nP n X (nP n X (nP n X (nP n X (nP n X q)))) := rfl
            have hM82 := hM68.hs (hO73)
            have hO83 := hO69.tr (HS.om (hO73))
            have hB84 : rowB (ia w76 112) = setM (nI (vaT n X (nP n X (nP n X q)))) (setO (nI (vaT n X q)) (b)) := by rw [HS.row (hO73)]; exact hB70
            refine sx_RP.step (pc2 := 77) (ls2 := [(0, .ref 111)]) (st2 := []) (w3 := w76) rfl rfl ?_
            refine sx_RP.step (pc2 := 78) (ls2 := [(0, .ref 111)]) (st2 := [.ref 111]) (w3 := w76) rfl rfl ?_
            refine sx_RP.gf (v := .ref 112) rfl rfl hI77.1.o111 rfl rfl (show _ = 81 from rfl) ?_
            refine sx_RP.step (pc2 := 83) (ls2 := [(0, .ref 111)]) (st2 := [.int 6, .ref 112]) (w3 := w76) rfl rfl ?_
            refine sx_RP.step (pc2 := 84) (ls2 := [(0, .ref 111)]) (st2 := [.ref 111, .int 6, .ref 112]) (w3 := w76) rfl rfl ?_
            refine sx_RP.gf (v := .int (fi w76 111 14)) rfl rfl hI77.1.o111 rfl rfl (show _ = 87 from rfl) ?_
            rw [ev75]
            refine sx_RP.xM (k := 6) hI77 (by decide) rfl (by omega) (eOK_n (by omega)) (show _ = 88 from rfl) (fun w85 hI86 hs87 hv88 => ?_)
            have hB89 : rowB (ia w85 112) = setR (nI (vaT n X (nP n X (nP n X (nP n X (nP n X q)))))) (setM (nI (vaT n X (nP n X (nP n X q)))) (setO (nI (vaT n X q)) (b))) := by rw [hv88, show (6 : Nat) = 4 + 2 from rfl, rowB_setF hI77.1.a112.2 (Or.inr (Or.inr rfl)) (hI77.manyM (by decide)), if_neg (by decide), if_neg (by decide), hB84]
            have ep90 := (fi_same 12 (hs87 111 (by decide))).trans ep72
            have ef91 := (fi_same 13 (hs87 111 (by decide))).trans ef74
            have hM92 := hM82.om (OM.st hs87)
            have hO93 := hO83.tr (OM.st hs87)
            refine sx_RP.step (pc2 := 89) (ls2 := [(0, .ref 111)]) (st2 := [.int 1]) (w3 := w85) rfl rfl ?_
            refine sx_RP.ret (r := (some (.int 1))) rfl rfl ?_
            have eR : breS n X q b = (true, nP n X (nP n X (nP n X (nP n X (nP n X q)))), setR (nI (vaT n X (nP n X (nP n X (nP n X (nP n X q)))))) (setM (nI (vaT n X (nP n X (nP n X q)))) (setO (nI (vaT n X q)) (b)))) := by simp only [breS, br1, br2, wtT, c1, c24, c36, c59, c71, if_true, if_false, Bool.false_eq_true, ite_true, ite_false, true_or, or_true, or_false, false_or]
            rw [eR]
            exact ⟨⟨rfl, RdM.t ef91 hB89 hp78 ep90 hP81⟩, hI86, hO93⟩
          · refine sx_RP.callp (as2 := [.ref 111, .int 1, .int 99]) (rest2 := []) rfl rfl (sx_inv_v2 (mi := 229) (k := 267) (st := [.int 99, .int 1, .ref 111]) (w := w63) rfl rfl hI64.1.o111 rfl rfl rfl) rfl rfl rfl (y220f (lo := 1) (hi := 99) hI64 hM68 hp65 ep60 ef62 (by omega) (by decide) hP67 c71) (show _ = 72 from rfl) ?_
            rintro r4 w98 ⟨⟨rfl, ep94⟩, hI99, hO95⟩
            show sx_RP _ _ _ _ _ [.int 0] _ _
            have hO100 := hO69.tr (HS.om hO95)
            refine sx_RP.step (pc2 := 75) (ls2 := [(0, .ref 111)]) (st2 := []) (w3 := w98) rfl rfl ?_
            refine sx_RP.step (pc2 := 76) (ls2 := [(0, .ref 111)]) (st2 := [.int 0]) (w3 := w98) rfl rfl ?_
            refine sx_RP.ret (r := (some (.int 0))) rfl rfl ?_
            have eR : breS n X q b = (false, nP n X (nP n X (nP n X (nP n X q))), setM (nI (vaT n X (nP n X (nP n X q)))) (setO (nI (vaT n X q)) (b))) := by simp only [breS, br1, br2, wtT, c1, c24, c36, c59, c71, if_true, if_false, Bool.false_eq_true, ite_true, ite_false, true_or, or_true, or_false, false_or]
            rw [eR]
            exact ⟨⟨rfl, RdM.f ep94⟩, hI99, hO100⟩
        · refine sx_RP.callp (as2 := [.ref 111, .float 111]) (rest2 := []) rfl rfl (sx_inv_v2 (mi := 229) (k := 243) (st := [.float 111, .ref 111]) (w := w50) rfl rfl hI51.1.o111 rfl rfl rfl) rfl rfl rfl (y213f (k := (111 : UInt32)) (m := 6) hI51 hM57 hp43 ep55 ef56 (by decide) rfl (by decide) (by decide) hP46 c59) (show _ = 62 from rfl) ?_
          rintro r4 w104 ⟨⟨rfl, ep101⟩, hI105, hO102⟩
          show sx_RP _ _ _ _ _ [.int 0] _ _
          have ef103 := (hO102.2 13 (by decide)).trans ef56
          have hP106 : rE blk n X (nP n X (nP n X (nP n X q))) = (nP n X (nP n X (nP n X q))) := by rw [← hP46]; exact rE_rE
          have hM107 := hM57.hs (hO102.hs)
          have hO108 := hO58.tr (HS.om (hO102.hs))
          have hB109 : rowB (ia w104 112) = setM (nI (vaT n X (nP n X (nP n X q)))) (setO (nI (vaT n X q)) (b)) := by rw [HS.row (hO102.hs)]; exact hB54
          refine sx_RP.step (pc2 := 88) (ls2 := [(0, .ref 111)]) (st2 := []) (w3 := w104) rfl rfl ?_
          refine sx_RP.step (pc2 := 89) (ls2 := [(0, .ref 111)]) (st2 := [.int 1]) (w3 := w104) rfl rfl ?_
          refine sx_RP.ret (r := (some (.int 1))) rfl rfl ?_
          have eR : breS n X q b = (true, nP n X (nP n X (nP n X q)), setM (nI (vaT n X (nP n X (nP n X q)))) (setO (nI (vaT n X q)) (b))) := by simp only [breS, br1, br2, wtT, c1, c24, c36, c59, if_true, if_false, Bool.false_eq_true, ite_true, ite_false, true_or, or_true, or_false, false_or]
          rw [eR]
          exact ⟨⟨rfl, RdM.t ef103 hB109 hp44 ep101 hP106⟩, hI105, hO108⟩
      · refine sx_RP.callp (as2 := [.ref 111, .int 1, .int 999]) (rest2 := []) rfl rfl (sx_inv_v2 (mi := 229) (k := 267) (st := [.int 999, .int 1, .ref 111]) (w := w28) rfl rfl hI29.1.o111 rfl rfl rfl) rfl rfl rfl (y220f (lo := 1) (hi := 999) hI29 hM33 hp30 ep25 ef27 (by omega) (by decide) hP32 c36) (show _ = 40 from rfl) ?_
        rintro r4 w114 ⟨⟨rfl, ep110⟩, hI115, hO111⟩
        show sx_RP _ _ _ _ _ [.int 0] _ _
        have hO116 := hO34.tr (HS.om hO111)
        refine sx_RP.step (pc2 := 43) (ls2 := [(0, .ref 111)]) (st2 := []) (w3 := w114) rfl rfl ?_
        refine sx_RP.step (pc2 := 44) (ls2 := [(0, .ref 111)]) (st2 := [.int 0]) (w3 := w114) rfl rfl ?_
        refine sx_RP.ret (r := (some (.int 0))) rfl rfl ?_
        have eR : breS n X q b = (false, nP n X (nP n X q), setO (nI (vaT n X q)) (b)) := by simp only [breS, br1, br2, wtT, c1, c24, c36, if_true, if_false, Bool.false_eq_true, ite_true, ite_false, true_or, or_true, or_false, false_or]
        rw [eR]
        exact ⟨⟨rfl, RdM.f ep110⟩, hI115, hO116⟩
    · refine sx_RP.callp (as2 := [.ref 111, .float 108]) (rest2 := []) rfl rfl (sx_inv_v2 (mi := 229) (k := 243) (st := [.float 108, .ref 111]) (w := w15) rfl rfl hI16.1.o111 rfl rfl rfl) rfl rfl rfl (y213f (k := (108 : UInt32)) (m := 6) hI16 hM22 hp8 ep20 ef21 (by decide) rfl (by decide) (by decide) hP11 c24) (show _ = 29 from rfl) ?_
      rintro r4 w120 ⟨⟨rfl, ep117⟩, hI121, hO118⟩
      show sx_RP _ _ _ _ _ [.int 0] _ _
      have ef119 := (hO118.2 13 (by decide)).trans ef21
      have hP122 : rE blk n X (nP n X q) = (nP n X q) := by rw [← hP11]; exact rE_rE
      have hM123 := hM22.hs (hO118.hs)
      have hO124 := hO23.tr (HS.om (hO118.hs))
      have hB125 : rowB (ia w120 112) = setO (nI (vaT n X q)) (b) := by rw [HS.row (hO118.hs)]; exact hB19
      refine sx_RP.step (pc2 := 55) (ls2 := [(0, .ref 111)]) (st2 := []) (w3 := w120) rfl rfl ?_
      refine sx_RP.step (pc2 := 56) (ls2 := [(0, .ref 111)]) (st2 := [.ref 111]) (w3 := w120) rfl rfl ?_
      refine sx_RP.step (pc2 := 59) (ls2 := [(0, .ref 111)]) (st2 := [.float 111, .ref 111]) (w3 := w120) rfl rfl ?_
      rcases Bool.eq_false_or_eq_true (wdT n X (nP n X q) (111 : UInt32)) with c126 | c126
      · refine sx_RP.callp (as2 := [.ref 111, .float 111]) (rest2 := []) rfl rfl (sx_inv_v2 (mi := 229) (k := 243) (st := [.float 111, .ref 111]) (w := w120) rfl rfl hI121.1.o111 rfl rfl rfl) rfl rfl rfl (y213t (k := (111 : UInt32)) (m := 6) hI121 hM123 hp9 ep117 ef119 (by decide) rfl (by decide) (by decide) hP122 c126) (show _ = 62 from rfl) ?_
        rintro r4 w130 ⟨⟨rfl, ep127⟩, hI131, hO128⟩
        show sx_RP _ _ _ _ _ [.int 1] _ _
        have ef129 := (hO128.2 13 (by decide)).trans ef119
        have hp132 : beT n X (nP n X q) ≤ n := beT_le hp9
        have hp133 : nP n X (nP n X q) ≤ n := rE_le hp132
        have hP134 : rE blk n X (beT n X (nP n X q)) = nP n X (nP n X q) := rfl
        have hM135 := hM123.hs (hO128.hs)
        have hO136 := hO124.tr (HS.om (hO128.hs))
        have hB137 : rowB (ia w130 112) = setO (nI (vaT n X q)) (b) := by rw [HS.row (hO128.hs)]; exact hB125
        refine sx_RP.step (pc2 := 65) (ls2 := [(0, .ref 111)]) (st2 := []) (w3 := w130) rfl rfl ?_
        refine sx_RP.step (pc2 := 66) (ls2 := [(0, .ref 111)]) (st2 := [.ref 111]) (w3 := w130) rfl rfl ?_
        refine sx_RP.step (pc2 := 67) (ls2 := [(0, .ref 111)]) (st2 := [.int 1, .ref 111]) (w3 := w130) rfl rfl ?_
        refine sx_RP.step (pc2 := 69) (ls2 := [(0, .ref 111)]) (st2 := [.int 99, .int 1, .ref 111]) (w3 := w130) rfl rfl ?_
        rcases Bool.eq_false_or_eq_true (nmT n X (nP n X (nP n X q)) 1 99) with c138 | c138
        · refine sx_RP.callp (as2 := [.ref 111, .int 1, .int 99]) (rest2 := []) rfl rfl (sx_inv_v2 (mi := 229) (k := 267) (st := [.int 99, .int 1, .ref 111]) (w := w130) rfl rfl hI131.1.o111 rfl rfl rfl) rfl rfl rfl (y220t (lo := 1) (hi := 99) hI131 hM135 hp132 ep127 ef129 (by omega) (by decide) hP134 c138) (show _ = 72 from rfl) ?_
          rintro r4 w143 ⟨⟨rfl, ep139, ev142, ef141⟩, hI144, hO140⟩
          show sx_RP _ _ _ _ _ [.int 1] _ _
          have hp145 : beT n X (nP n X (nP n X q)) ≤ n := beT_le hp133
          have hp146 : nP n X (nP n X (nP n X q)) ≤ n := rE_le hp145
          have hr147 := nmT_in c138
          have hP148 : rE blk n X (beT n X (nP n X (nP n X q))) = nP n X (nP n X (nP n X q)) := rfl
          have hM149 := hM135.hs (hO140)
          have hO150 := hO136.tr (HS.om (hO140))
          have hB151 : rowB (ia w143 112) = setO (nI (vaT n X q)) (b) := by rw [HS.row (hO140)]; exact hB137
          refine sx_RP.step (pc2 := 77) (ls2 := [(0, .ref 111)]) (st2 := []) (w3 := w143) rfl rfl ?_
          refine sx_RP.step (pc2 := 78) (ls2 := [(0, .ref 111)]) (st2 := [.ref 111]) (w3 := w143) rfl rfl ?_
          refine sx_RP.gf (v := .ref 112) rfl rfl hI144.1.o111 rfl rfl (show _ = 81 from rfl) ?_
          refine sx_RP.step (pc2 := 83) (ls2 := [(0, .ref 111)]) (st2 := [.int 6, .ref 112]) (w3 := w143) rfl rfl ?_
          refine sx_RP.step (pc2 := 84) (ls2 := [(0, .ref 111)]) (st2 := [.ref 111, .int 6, .ref 112]) (w3 := w143) rfl rfl ?_
          refine sx_RP.gf (v := .int (fi w143 111 14)) rfl rfl hI144.1.o111 rfl rfl (show _ = 87 from rfl) ?_
          rw [ev142]
          refine sx_RP.xM (k := 6) hI144 (by decide) rfl (by omega) (eOK_n (by omega)) (show _ = 88 from rfl) (fun w152 hI153 hs154 hv155 => ?_)
          have hB156 : rowB (ia w152 112) = setR (nI (vaT n X (nP n X (nP n X q)))) (setO (nI (vaT n X q)) (b)) := by rw [hv155, show (6 : Nat) = 4 + 2 from rfl, rowB_setF hI144.1.a112.2 (Or.inr (Or.inr rfl)) (hI144.manyM (by decide)), if_neg (by decide), if_neg (by decide), hB151]
          have ep157 := (fi_same 12 (hs154 111 (by decide))).trans ep139
          have ef158 := (fi_same 13 (hs154 111 (by decide))).trans ef141
          have hM159 := hM149.om (OM.st hs154)
          have hO160 := hO150.tr (OM.st hs154)
          refine sx_RP.step (pc2 := 89) (ls2 := [(0, .ref 111)]) (st2 := [.int 1]) (w3 := w152) rfl rfl ?_
          refine sx_RP.ret (r := (some (.int 1))) rfl rfl ?_
          have eR : breS n X q b = (true, nP n X (nP n X (nP n X q)), setR (nI (vaT n X (nP n X (nP n X q)))) (setO (nI (vaT n X q)) (b))) := by simp only [breS, br1, br2, wtT, c1, c24, c126, c138, if_true, if_false, Bool.false_eq_true, ite_true, ite_false, true_or, or_true, or_false, false_or]
          rw [eR]
          exact ⟨⟨rfl, RdM.t ef158 hB156 hp145 ep157 hP148⟩, hI153, hO160⟩
        · refine sx_RP.callp (as2 := [.ref 111, .int 1, .int 99]) (rest2 := []) rfl rfl (sx_inv_v2 (mi := 229) (k := 267) (st := [.int 99, .int 1, .ref 111]) (w := w130) rfl rfl hI131.1.o111 rfl rfl rfl) rfl rfl rfl (y220f (lo := 1) (hi := 99) hI131 hM135 hp132 ep127 ef129 (by omega) (by decide) hP134 c138) (show _ = 72 from rfl) ?_
          rintro r4 w165 ⟨⟨rfl, ep161⟩, hI166, hO162⟩
          show sx_RP _ _ _ _ _ [.int 0] _ _
          have hO167 := hO136.tr (HS.om hO162)
          refine sx_RP.step (pc2 := 75) (ls2 := [(0, .ref 111)]) (st2 := []) (w3 := w165) rfl rfl ?_
          refine sx_RP.step (pc2 := 76) (ls2 := [(0, .ref 111)]) (st2 := [.int 0]) (w3 := w165) rfl rfl ?_
          refine sx_RP.ret (r := (some (.int 0))) rfl rfl ?_
          have eR : breS n X q b = (false, nP n X (nP n X q), setO (nI (vaT n X q)) (b)) := by simp only [breS, br1, br2, wtT, c1, c24, c126, c138, if_true, if_false, Bool.false_eq_true, ite_true, ite_false, true_or, or_true, or_false, false_or]
          rw [eR]
          exact ⟨⟨rfl, RdM.f ep161⟩, hI166, hO167⟩
      · refine sx_RP.callp (as2 := [.ref 111, .float 111]) (rest2 := []) rfl rfl (sx_inv_v2 (mi := 229) (k := 243) (st := [.float 111, .ref 111]) (w := w120) rfl rfl hI121.1.o111 rfl rfl rfl) rfl rfl rfl (y213f (k := (111 : UInt32)) (m := 6) hI121 hM123 hp9 ep117 ef119 (by decide) rfl (by decide) (by decide) hP122 c126) (show _ = 62 from rfl) ?_
        rintro r4 w171 ⟨⟨rfl, ep168⟩, hI172, hO169⟩
        show sx_RP _ _ _ _ _ [.int 0] _ _
        have ef170 := (hO169.2 13 (by decide)).trans ef119
        have hP173 : rE blk n X (nP n X q) = (nP n X q) := by rw [← hP122]; exact rE_rE
        have hM174 := hM123.hs (hO169.hs)
        have hO175 := hO124.tr (HS.om (hO169.hs))
        have hB176 : rowB (ia w171 112) = setO (nI (vaT n X q)) (b) := by rw [HS.row (hO169.hs)]; exact hB125
        refine sx_RP.step (pc2 := 88) (ls2 := [(0, .ref 111)]) (st2 := []) (w3 := w171) rfl rfl ?_
        refine sx_RP.step (pc2 := 89) (ls2 := [(0, .ref 111)]) (st2 := [.int 1]) (w3 := w171) rfl rfl ?_
        refine sx_RP.ret (r := (some (.int 1))) rfl rfl ?_
        have eR : breS n X q b = (true, nP n X q, setO (nI (vaT n X q)) (b)) := by simp only [breS, br1, br2, wtT, c1, c24, c126, if_true, if_false, Bool.false_eq_true, ite_true, ite_false, true_or, or_true, or_false, false_or]
        rw [eR]
        exact ⟨⟨rfl, RdM.t ef170 hB176 hp9 ep168 hP173⟩, hI172, hO175⟩
  · refine sx_RP.callp (as2 := [.ref 111, .int 0, .int 999999]) (rest2 := []) rfl rfl (sx_inv_v2 (mi := 229) (k := 267) (st := [.int 999999, .int 0, .ref 111]) (w := w) rfl rfl hI.1.o111 rfl rfl rfl) rfl rfl rfl (y220f (lo := 0) (hi := 999999) hI hM hp ep ef (by omega) (by decide) hP c1) (show _ = 7 from rfl) ?_
    rintro r4 w181 ⟨⟨rfl, ep177⟩, hI182, hO178⟩
    show sx_RP _ _ _ _ _ [.int 0] _ _
    have hO183 := OM.rf.tr (HS.om hO178)
    refine sx_RP.step (pc2 := 10) (ls2 := [(0, .ref 111)]) (st2 := []) (w3 := w181) rfl rfl ?_
    refine sx_RP.step (pc2 := 11) (ls2 := [(0, .ref 111)]) (st2 := [.int 0]) (w3 := w181) rfl rfl ?_
    refine sx_RP.ret (r := (some (.int 0))) rfl rfl ?_
    have eR : breS n X q b = (false, q, b) := by simp only [breS, br1, br2, wtT, c1, if_true, if_false, Bool.false_eq_true, ite_true, ite_false, true_or, or_true, or_false, false_or]
    rw [eR]
    exact ⟨⟨rfl, RdM.f ep177⟩, hI182, hO183⟩
theorem row_len {w : List sx_C} {b : BB} {u : Nat} (hI : WI w) (hB : rowB (ia w 112) = b) (hu : b.1.length = u) (h : u ≤ 10) : (ia w 112).getD 1 0 = nI u := by
  obtain ⟨j, hj, e⟩ := (hI.sA (a := 112) (by decide) 1 (by decide)).1 rfl
  have z : (rowB (ia w 112)).1.length = j := by
    unfold rowB
    rw [mkB_len1, e, iN_n (by omega)]
  rw [e, ← hu, ← hB, z]
set_option maxRecDepth 20000 in
set_option maxHeartbeats 4000000 in
theorem y227 {xs : Option (List Int32)} {d : Nat} {w : List sx_C} (hI : WI w) {n h q : Nat} {X : Nat → Nat} {b : BB} (hM : MT n X w) (hp : h ≤ n) (ep : fi w 111 12 = nI h) (ef : fi w 111 13 = -1) (hP : rE blk n X h = q) (hB : rowB (ia w 112) = b) {k u : Nat} (hk : k ≤ 5) (hu : b.1.length = u) (hu9 : u ≤ 9) : sx_RP xs (d + 6) 227 0 (lv_args 0 [.ref 111, .int (nI k)]) [] w (fun r w2 => (r = some (.int (b01 (galS n X k q b).1)) ∧ RdM n X (galS n X k q b) w2) ∧ WI w2 ∧ OM w w2) := by
  have hn := hM.2.1
  have hpl : q ≤ n := by rw [← hP]; exact rE_le hp
  refine sx_RP.step (pc2 := 1) (ls2 := [(0, .ref 111), (1, .int (nI k))]) (st2 := [.ref 111]) (w3 := w) rfl rfl ?_
  refine sx_RP.step (pc2 := 4) (ls2 := [(0, .ref 111), (1, .int (nI k))]) (st2 := [.float 115, .ref 111]) (w3 := w) rfl rfl ?_
  rcases Bool.eq_false_or_eq_true (wdT n X q (115 : UInt32)) with c1 | c1
  · refine sx_RP.callp (as2 := [.ref 111, .float 115]) (rest2 := []) rfl rfl (sx_inv_v2 (mi := 227) (k := 243) (st := [.float 115, .ref 111]) (w := w) rfl rfl hI.1.o111 rfl rfl rfl) rfl rfl rfl (y213t (k := (115 : UInt32)) (m := 6) hI hM hp ep ef (by decide) rfl (by decide) (by decide) hP c1) (show _ = 7 from rfl) ?_
    rintro r4 w5 ⟨⟨rfl, ep2⟩, hI6, hO3⟩
    show sx_RP _ _ _ _ _ [.int 1] _ _
    have ef4 := (hO3.2 13 (by decide)).trans ef
    have hp7 : beT n X q ≤ n := beT_le hpl
    have hp8 : nP n X q ≤ n := rE_le hp7
    have hP9 : rE blk n X (beT n X q) = nP n X q := rfl
    have hM10 := hM.hs (hO3.hs)
    have hO11 := OM.rf.tr (HS.om (hO3.hs))
    have hB12 : rowB (ia w5 112) = b := by rw [HS.row (hO3.hs)]; exact hB
    refine sx_RP.step (pc2 := 10) (ls2 := [(0, .ref 111), (1, .int (nI k))]) (st2 := []) (w3 := w5) rfl rfl ?_
    refine sx_RP.step (pc2 := 11) (ls2 := [(0, .ref 111), (1, .int (nI k))]) (st2 := [.int 0]) (w3 := w5) rfl rfl ?_
    refine sx_RP.step (pc2 := 15) (ls2 := [(0, .ref 111), (1, .int (nI k))]) (st2 := [.int 0]) (w3 := w5) rfl rfl ?_
    refine sx_RP.step (pc2 := 16) (ls2 := [(2, .int 0), (0, .ref 111), (1, .int (nI k))]) (st2 := []) (w3 := w5) rfl rfl ?_
    refine sx_RP.step (pc2 := 17) (ls2 := [(2, .int 0), (0, .ref 111), (1, .int (nI k))]) (st2 := [.int 0]) (w3 := w5) rfl rfl ?_
    refine sx_RP.step (pc2 := 18) (ls2 := [(2, .int 0), (0, .ref 111), (1, .int (nI k))]) (st2 := [.int 1, .int 0]) (w3 := w5) rfl rfl ?_
    refine sx_RP.step (pc2 := 33) (ls2 := [(2, .int 0), (0, .ref 111), (1, .int (nI k))]) (st2 := []) (w3 := w5) rfl rfl ?_
    refine sx_RP.step (pc2 := 34) (ls2 := [(2, .int 0), (0, .ref 111), (1, .int (nI k))]) (st2 := [.ref 111]) (w3 := w5) rfl rfl ?_
    refine sx_RP.step (pc2 := 37) (ls2 := [(2, .int 0), (0, .ref 111), (1, .int (nI k))]) (st2 := [.float 100, .ref 111]) (w3 := w5) rfl rfl ?_
    rcases Bool.eq_false_or_eq_true (wdT n X (nP n X q) (100 : UInt32)) with c13 | c13
    · refine sx_RP.callp (as2 := [.ref 111, .float 100]) (rest2 := []) rfl rfl (sx_inv_v2 (mi := 227) (k := 282) (st := [.float 100, .ref 111]) (w := w5) rfl rfl hI6.1.o111 rfl rfl rfl) rfl rfl rfl (y228t (k := (100 : UInt32)) (m := 2) hI6 hM10 hp7 ep2 ef4 (by decide) rfl (by decide) (by decide) hP9 c13) (show _ = 40 from rfl) ?_
      rintro r4 w17 ⟨⟨rfl, ep14, ef16⟩, hI18, hO15⟩
      show sx_RP _ _ _ _ _ [.int 1] _ _
      have hp19 : beT n X (nP n X q) ≤ n := beT_le hp8
      have hp20 : nP n X (nP n X q) ≤ n := rE_le hp19
      have hP21 : rE blk n X (beT n X (nP n X q)) = nP n X (nP n X q) := rfl
      have hM22 := hM10.hs (hO15)
      have hO23 := hO11.tr (HS.om (hO15))
      have hB24 : rowB (ia w17 112) = b := by rw [HS.row (hO15)]; exact hB12
      refine sx_RP.step (pc2 := 43) (ls2 := [(2, .int 0), (0, .ref 111), (1, .int (nI k))]) (st2 := []) (w3 := w17) rfl rfl ?_
      refine sx_RP.step (pc2 := 44) (ls2 := [(2, .int 0), (0, .ref 111), (1, .int (nI k))]) (st2 := [.ref 111]) (w3 := w17) rfl rfl ?_
      refine sx_RP.step (pc2 := 45) (ls2 := [(2, .int 0), (0, .ref 111), (1, .int (nI k))]) (st2 := [.int 0, .ref 111]) (w3 := w17) rfl rfl ?_
      refine sx_RP.step (pc2 := 47) (ls2 := [(2, .int 0), (0, .ref 111), (1, .int (nI k))]) (st2 := [.int 47, .int 0, .ref 111]) (w3 := w17) rfl rfl ?_
      rcases Bool.eq_false_or_eq_true (nmT n X (nP n X (nP n X q)) 0 47) with c25 | c25
      · refine sx_RP.callp (as2 := [.ref 111, .int 0, .int 47]) (rest2 := []) rfl rfl (sx_inv_v2 (mi := 227) (k := 267) (st := [.int 47, .int 0, .ref 111]) (w := w17) rfl rfl hI18.1.o111 rfl rfl rfl) rfl rfl rfl (y220t (lo := 0) (hi := 47) hI18 hM22 hp19 ep14 ef16 (by omega) (by decide) hP21 c25) (show _ = 50 from rfl) ?_
        rintro r4 w30 ⟨⟨rfl, ep26, ev29, ef28⟩, hI31, hO27⟩
        show sx_RP _ _ _ _ _ [.int 1] _ _
        have hp32 : beT n X (nP n X (nP n X q)) ≤ n := beT_le hp20
        have hp33 : nP n X (nP n X (nP n X q)) ≤ n := rE_le hp32
        have hr34 := nmT_in c25
        have hP35 : rE blk n X (beT n X (nP n X (nP n X q))) = nP n X (nP n X (nP n X q)) := rfl
        have hM36 := hM22.hs (hO27)
        have hO37 := hO23.tr (HS.om (hO27))
        have hB38 : rowB (ia w30 112) = b := by rw [HS.row (hO27)]; exact hB24
        refine sx_RP.step (pc2 := 55) (ls2 := [(2, .int 0), (0, .ref 111), (1, .int (nI k))]) (st2 := []) (w3 := w30) rfl rfl ?_
        refine sx_RP.step (pc2 := 56) (ls2 := [(2, .int 0), (0, .ref 111), (1, .int (nI k))]) (st2 := [.ref 111]) (w3 := w30) rfl rfl ?_
        refine sx_RP.gf (v := .int (fi w30 111 14)) rfl rfl hI31.1.o111 rfl rfl (show _ = 59 from rfl) ?_
        rw [ev29]
        refine sx_RP.step (pc2 := 60) (ls2 := [(3, .int (nI (vaT n X (nP n X (nP n X q))))), (2, .int 0), (0, .ref 111), (1, .int (nI k))]) (st2 := []) (w3 := w30) rfl rfl ?_
        refine sx_RP.step (pc2 := 61) (ls2 := [(3, .int (nI (vaT n X (nP n X (nP n X q))))), (2, .int 0), (0, .ref 111), (1, .int (nI k))]) (st2 := [.ref 111]) (w3 := w30) rfl rfl ?_
        refine sx_RP.step (pc2 := 64) (ls2 := [(3, .int (nI (vaT n X (nP n X (nP n X q))))), (2, .int 0), (0, .ref 111), (1, .int (nI k))]) (st2 := [.float 119, .ref 111]) (w3 := w30) rfl rfl ?_
        rcases Bool.eq_false_or_eq_true (wdT n X (nP n X (nP n X (nP n X q))) (119 : UInt32)) with c39 | c39
        · refine sx_RP.callp (as2 := [.ref 111, .float 119]) (rest2 := []) rfl rfl (sx_inv_v2 (mi := 227) (k := 282) (st := [.float 119, .ref 111]) (w := w30) rfl rfl hI31.1.o111 rfl rfl rfl) rfl rfl rfl (y228t (k := (119 : UInt32)) (m := 3) hI31 hM36 hp32 ep26 ef28 (by decide) rfl (by decide) (by decide) hP35 c39) (show _ = 67 from rfl) ?_
          rintro r4 w43 ⟨⟨rfl, ep40, ef42⟩, hI44, hO41⟩
          show sx_RP _ _ _ _ _ [.int 1] _ _
          have hp45 : beT n X (nP n X (nP n X (nP n X q))) ≤ n := beT_le hp33
          have hp46 : nP n X (nP n X (nP n X (nP n X q))) ≤ n := rE_le hp45
          have hP47 : rE blk n X (beT n X (nP n X (nP n X (nP n X q)))) = nP n X (nP n X (nP n X (nP n X q))) := rfl
          have hM48 := hM36.hs (hO41)
          have hO49 := hO37.tr (HS.om (hO41))
          have hB50 : rowB (ia w43 112) = b := by rw [HS.row (hO41)]; exact hB38
          refine sx_RP.step (pc2 := 70) (ls2 := [(3, .int (nI (vaT n X (nP n X (nP n X q))))), (2, .int 0), (0, .ref 111), (1, .int (nI k))]) (st2 := []) (w3 := w43) rfl rfl ?_
          refine sx_RP.step (pc2 := 71) (ls2 := [(3, .int (nI (vaT n X (nP n X (nP n X q))))), (2, .int 0), (0, .ref 111), (1, .int (nI k))]) (st2 := [.ref 111]) (w3 := w43) rfl rfl ?_
          refine sx_RP.step (pc2 := 72) (ls2 := [(3, .int (nI (vaT n X (nP n X (nP n X q))))), (2, .int 0), (0, .ref 111), (1, .int (nI k))]) (st2 := [.int 0, .ref 111]) (w3 := w43) rfl rfl ?_
          refine sx_RP.step (pc2 := 73) (ls2 := [(3, .int (nI (vaT n X (nP n X (nP n X q))))), (2, .int 0), (0, .ref 111), (1, .int (nI k))]) (st2 := [.int 3, .int 0, .ref 111]) (w3 := w43) rfl rfl ?_
          rcases Bool.eq_false_or_eq_true (nmT n X (nP n X (nP n X (nP n X (nP n X q)))) 0 3) with c51 | c51
          · refine sx_RP.callp (as2 := [.ref 111, .int 0, .int 3]) (rest2 := []) rfl rfl (sx_inv_v2 (mi := 227) (k := 267) (st := [.int 3, .int 0, .ref 111]) (w := w43) rfl rfl hI44.1.o111 rfl rfl rfl) rfl rfl rfl (y220t (lo := 0) (hi := 3) hI44 hM48 hp45 ep40 ef42 (by omega) (by decide) hP47 c51) (show _ = 76 from rfl) ?_
            rintro r4 w56 ⟨⟨rfl, ep52, ev55, ef54⟩, hI57, hO53⟩
            show sx_RP _ _ _ _ _ [.int 1] _ _
            have hp58 : beT n X (nP n X (nP n X (nP n X (nP n X q)))) ≤ n := beT_le hp46
            have hp59 : nP n X (nP n X (nP n X (nP n X (nP n X q)))) ≤ n := rE_le hp58
            have hr60 := nmT_in c51
            have hP61 : rE blk n X (beT n X (nP n X (nP n X (nP n X (nP n X q))))) = nP n X (nP n X (nP n X (nP n X (nP n X q)))) := rfl
            have hM62 := hM48.hs (hO53)
            have hO63 := hO49.tr (HS.om (hO53))
            have hB64 : rowB (ia w56 112) = b := by rw [HS.row (hO53)]; exact hB50
            refine sx_RP.step (pc2 := 81) (ls2 := [(3, .int (nI (vaT n X (nP n X (nP n X q))))), (2, .int 0), (0, .ref 111), (1, .int (nI k))]) (st2 := []) (w3 := w56) rfl rfl ?_
            refine sx_RP.step (pc2 := 82) (ls2 := [(3, .int (nI (vaT n X (nP n X (nP n X q))))), (2, .int 0), (0, .ref 111), (1, .int (nI k))]) (st2 := [.ref 111]) (w3 := w56) rfl rfl ?_
            refine sx_RP.step (pc2 := 83) (ls2 := [(3, .int (nI (vaT n X (nP n X (nP n X q))))), (2, .int 0), (0, .ref 111), (1, .int (nI k))]) (st2 := [.int (nI k), .ref 111]) (w3 := w56) rfl rfl ?_
            refine sx_RP.step (pc2 := 84) (ls2 := [(3, .int (nI (vaT n X (nP n X (nP n X q))))), (2, .int 0), (0, .ref 111), (1, .int (nI k))]) (st2 := [.int 0, .int (nI k), .ref 111]) (w3 := w56) rfl rfl ?_
            refine sx_RP.step (pc2 := 85) (ls2 := [(3, .int (nI (vaT n X (nP n X (nP n X q))))), (2, .int 0), (0, .ref 111), (1, .int (nI k))]) (st2 := [.int (nI (vaT n X (nP n X (nP n X q)))), .int 0, .int (nI k), .ref 111]) (w3 := w56) rfl rfl ?_
            refine sx_RP.step (pc2 := 86) (ls2 := [(3, .int (nI (vaT n X (nP n X (nP n X q))))), (2, .int 0), (0, .ref 111), (1, .int (nI k))]) (st2 := [.ref 111, .int (nI (vaT n X (nP n X (nP n X q)))), .int 0, .int (nI k), .ref 111]) (w3 := w56) rfl rfl ?_
            refine sx_RP.gf (v := .int (fi w56 111 14)) rfl rfl hI57.1.o111 rfl rfl (show _ = 89 from rfl) ?_
            rw [ev55]
            have hen : (ia w56 112).getD 1 0 = nI u := row_len hI57 hB64 hu (by omega)
            refine sx_RP.callp (as2 := [.ref 111, .int (nI k), .int 0, .int (nI (vaT n X (nP n X (nP n X q)))), .int (nI (vaT n X (nP n X (nP n X (nP n X (nP n X q))))))]) (rest2 := []) rfl rfl (sx_inv_v2 (mi := 227) (k := 120) (st := [.int (nI (vaT n X (nP n X (nP n X (nP n X (nP n X q)))))), .int (nI (vaT n X (nP n X (nP n X q)))), .int 0, .int (nI k), .ref 111]) (w := w56) rfl rfl hI57.1.o111 rfl rfl rfl) rfl rfl rfl (X153 hI57 (by omega) hen (show k ≤ 5 by omega) (show 0 ≤ 1 by omega) (show (vaT n X (nP n X (nP n X q))) < 48 by omega) (show (vaT n X (nP n X (nP n X (nP n X (nP n X q))))) ≤ 3 by omega)) (show _ = 92 from rfl) ?_
            rintro r4 w68 ⟨⟨rfl, hc65⟩, hI69, hs66⟩
            show sx_RP _ _ _ _ _ [] _ _
            have hB67 : rowB (ia w68 112) = addK (nI k) (b) := by rw [hc65, addRow_b hI57.1.a112.2 hen (by omega), hB64]
            have ep70 := (fi_same 12 (hs66 111 (by decide))).trans ep52
            have ef71 := (fi_same 13 (hs66 111 (by decide))).trans ef54
            have hM72 := hM62.om (OM.st hs66)
            have hO73 := hO63.tr (OM.st hs66)
            refine sx_RP.step (pc2 := 93) (ls2 := [(3, .int (nI (vaT n X (nP n X (nP n X q))))), (2, .int 0), (0, .ref 111), (1, .int (nI k))]) (st2 := [.int 1]) (w3 := w68) rfl rfl ?_
            refine sx_RP.ret (r := (some (.int 1))) rfl rfl ?_
            have eR : galS n X k q b = (true, nP n X (nP n X (nP n X (nP n X (nP n X q)))), addK (nI k) (b)) := by simp only [galS, wtT, c1, c13, c25, c39, c51, if_true, if_false, Bool.false_eq_true, ite_true, ite_false, true_or, or_true, or_false, false_or]
            rw [eR]
            exact ⟨⟨rfl, RdM.t ef71 hB67 hp58 ep70 hP61⟩, hI69, hO73⟩
          · refine sx_RP.callp (as2 := [.ref 111, .int 0, .int 3]) (rest2 := []) rfl rfl (sx_inv_v2 (mi := 227) (k := 267) (st := [.int 3, .int 0, .ref 111]) (w := w43) rfl rfl hI44.1.o111 rfl rfl rfl) rfl rfl rfl (y220f (lo := 0) (hi := 3) hI44 hM48 hp45 ep40 ef42 (by omega) (by decide) hP47 c51) (show _ = 76 from rfl) ?_
            rintro r4 w78 ⟨⟨rfl, ep74⟩, hI79, hO75⟩
            show sx_RP _ _ _ _ _ [.int 0] _ _
            have hO80 := hO49.tr (HS.om hO75)
            refine sx_RP.step (pc2 := 79) (ls2 := [(3, .int (nI (vaT n X (nP n X (nP n X q))))), (2, .int 0), (0, .ref 111), (1, .int (nI k))]) (st2 := []) (w3 := w78) rfl rfl ?_
            refine sx_RP.step (pc2 := 80) (ls2 := [(3, .int (nI (vaT n X (nP n X (nP n X q))))), (2, .int 0), (0, .ref 111), (1, .int (nI k))]) (st2 := [.int 0]) (w3 := w78) rfl rfl ?_
            refine sx_RP.ret (r := (some (.int 0))) rfl rfl ?_
            have eR : galS n X k q b = (false, nP n X (nP n X (nP n X (nP n X q))), b) := by simp only [galS, wtT, c1, c13, c25, c39, c51, if_true, if_false, Bool.false_eq_true, ite_true, ite_false, true_or, or_true, or_false, false_or]
            rw [eR]
            exact ⟨⟨rfl, RdM.f ep74⟩, hI79, hO80⟩
        · refine sx_RP.callp (as2 := [.ref 111, .float 119]) (rest2 := []) rfl rfl (sx_inv_v2 (mi := 227) (k := 282) (st := [.float 119, .ref 111]) (w := w30) rfl rfl hI31.1.o111 rfl rfl rfl) rfl rfl rfl (y228f (k := (119 : UInt32)) (m := 3) hI31 hM36 hp32 ep26 ef28 (by decide) rfl (by decide) (by decide) hP35 c39) (show _ = 67 from rfl) ?_
          rintro r4 w84 ⟨⟨rfl, ep81⟩, hI85, hO82⟩
          show sx_RP _ _ _ _ _ [.int 0] _ _
          have hO86 := hO37.tr (HS.om hO82)
          refine sx_RP.step (pc2 := 79) (ls2 := [(3, .int (nI (vaT n X (nP n X (nP n X q))))), (2, .int 0), (0, .ref 111), (1, .int (nI k))]) (st2 := []) (w3 := w84) rfl rfl ?_
          refine sx_RP.step (pc2 := 80) (ls2 := [(3, .int (nI (vaT n X (nP n X (nP n X q))))), (2, .int 0), (0, .ref 111), (1, .int (nI k))]) (st2 := [.int 0]) (w3 := w84) rfl rfl ?_
          refine sx_RP.ret (r := (some (.int 0))) rfl rfl ?_
          have eR : galS n X k q b = (false, nP n X (nP n X (nP n X q)), b) := by simp only [galS, wtT, c1, c13, c25, c39, if_true, if_false, Bool.false_eq_true, ite_true, ite_false, true_or, or_true, or_false, false_or]
          rw [eR]
          exact ⟨⟨rfl, RdM.f ep81⟩, hI85, hO86⟩
      · refine sx_RP.callp (as2 := [.ref 111, .int 0, .int 47]) (rest2 := []) rfl rfl (sx_inv_v2 (mi := 227) (k := 267) (st := [.int 47, .int 0, .ref 111]) (w := w17) rfl rfl hI18.1.o111 rfl rfl rfl) rfl rfl rfl (y220f (lo := 0) (hi := 47) hI18 hM22 hp19 ep14 ef16 (by omega) (by decide) hP21 c25) (show _ = 50 from rfl) ?_
        rintro r4 w91 ⟨⟨rfl, ep87⟩, hI92, hO88⟩
        show sx_RP _ _ _ _ _ [.int 0] _ _
        have hO93 := hO23.tr (HS.om hO88)
        refine sx_RP.step (pc2 := 53) (ls2 := [(2, .int 0), (0, .ref 111), (1, .int (nI k))]) (st2 := []) (w3 := w91) rfl rfl ?_
        refine sx_RP.step (pc2 := 54) (ls2 := [(2, .int 0), (0, .ref 111), (1, .int (nI k))]) (st2 := [.int 0]) (w3 := w91) rfl rfl ?_
        refine sx_RP.ret (r := (some (.int 0))) rfl rfl ?_
        have eR : galS n X k q b = (false, nP n X (nP n X q), b) := by simp only [galS, wtT, c1, c13, c25, if_true, if_false, Bool.false_eq_true, ite_true, ite_false, true_or, or_true, or_false, false_or]
        rw [eR]
        exact ⟨⟨rfl, RdM.f ep87⟩, hI92, hO93⟩
    · refine sx_RP.callp (as2 := [.ref 111, .float 100]) (rest2 := []) rfl rfl (sx_inv_v2 (mi := 227) (k := 282) (st := [.float 100, .ref 111]) (w := w5) rfl rfl hI6.1.o111 rfl rfl rfl) rfl rfl rfl (y228f (k := (100 : UInt32)) (m := 2) hI6 hM10 hp7 ep2 ef4 (by decide) rfl (by decide) (by decide) hP9 c13) (show _ = 40 from rfl) ?_
      rintro r4 w97 ⟨⟨rfl, ep94⟩, hI98, hO95⟩
      show sx_RP _ _ _ _ _ [.int 0] _ _
      have hO99 := hO11.tr (HS.om hO95)
      refine sx_RP.step (pc2 := 53) (ls2 := [(2, .int 0), (0, .ref 111), (1, .int (nI k))]) (st2 := []) (w3 := w97) rfl rfl ?_
      refine sx_RP.step (pc2 := 54) (ls2 := [(2, .int 0), (0, .ref 111), (1, .int (nI k))]) (st2 := [.int 0]) (w3 := w97) rfl rfl ?_
      refine sx_RP.ret (r := (some (.int 0))) rfl rfl ?_
      have eR : galS n X k q b = (false, nP n X q, b) := by simp only [galS, wtT, c1, c13, if_true, if_false, Bool.false_eq_true, ite_true, ite_false, true_or, or_true, or_false, false_or]
      rw [eR]
      exact ⟨⟨rfl, RdM.f ep94⟩, hI98, hO99⟩
  · refine sx_RP.callp (as2 := [.ref 111, .float 115]) (rest2 := []) rfl rfl (sx_inv_v2 (mi := 227) (k := 243) (st := [.float 115, .ref 111]) (w := w) rfl rfl hI.1.o111 rfl rfl rfl) rfl rfl rfl (y213f (k := (115 : UInt32)) (m := 6) hI hM hp ep ef (by decide) rfl (by decide) (by decide) hP c1) (show _ = 7 from rfl) ?_
    rintro r4 w103 ⟨⟨rfl, ep100⟩, hI104, hO101⟩
    show sx_RP _ _ _ _ _ [.int 0] _ _
    have ef102 := (hO101.2 13 (by decide)).trans ef
    have hP105 : rE blk n X q = q := by rw [← hP]; exact rE_rE
    have hM106 := hM.hs (hO101.hs)
    have hO107 := OM.rf.tr (HS.om (hO101.hs))
    have hB108 : rowB (ia w103 112) = b := by rw [HS.row (hO101.hs)]; exact hB
    refine sx_RP.step (pc2 := 14) (ls2 := [(0, .ref 111), (1, .int (nI k))]) (st2 := []) (w3 := w103) rfl rfl ?_
    refine sx_RP.step (pc2 := 15) (ls2 := [(0, .ref 111), (1, .int (nI k))]) (st2 := [.int 1]) (w3 := w103) rfl rfl ?_
    refine sx_RP.step (pc2 := 16) (ls2 := [(2, .int 1), (0, .ref 111), (1, .int (nI k))]) (st2 := []) (w3 := w103) rfl rfl ?_
    refine sx_RP.step (pc2 := 17) (ls2 := [(2, .int 1), (0, .ref 111), (1, .int (nI k))]) (st2 := [.int 1]) (w3 := w103) rfl rfl ?_
    refine sx_RP.step (pc2 := 18) (ls2 := [(2, .int 1), (0, .ref 111), (1, .int (nI k))]) (st2 := [.int 1, .int 1]) (w3 := w103) rfl rfl ?_
    refine sx_RP.step (pc2 := 21) (ls2 := [(2, .int 1), (0, .ref 111), (1, .int (nI k))]) (st2 := []) (w3 := w103) rfl rfl ?_
    refine sx_RP.step (pc2 := 22) (ls2 := [(2, .int 1), (0, .ref 111), (1, .int (nI k))]) (st2 := [.ref 111]) (w3 := w103) rfl rfl ?_
    refine sx_RP.step (pc2 := 25) (ls2 := [(2, .int 1), (0, .ref 111), (1, .int (nI k))]) (st2 := [.float 109, .ref 111]) (w3 := w103) rfl rfl ?_
    rcases Bool.eq_false_or_eq_true (wdT n X q (109 : UInt32)) with c109 | c109
    · refine sx_RP.callp (as2 := [.ref 111, .float 109]) (rest2 := []) rfl rfl (sx_inv_v2 (mi := 227) (k := 282) (st := [.float 109, .ref 111]) (w := w103) rfl rfl hI104.1.o111 rfl rfl rfl) rfl rfl rfl (y228t (k := (109 : UInt32)) (m := 4) hI104 hM106 hpl ep100 ef102 (by decide) rfl (by decide) (by decide) hP105 c109) (show _ = 28 from rfl) ?_
      rintro r4 w113 ⟨⟨rfl, ep110, ef112⟩, hI114, hO111⟩
      show sx_RP _ _ _ _ _ [.int 1] _ _
      have hp115 : beT n X q ≤ n := beT_le hpl
      have hp116 : nP n X q ≤ n := rE_le hp115
      have hP117 : rE blk n X (beT n X q) = nP n X q := rfl
      have hM118 := hM106.hs (hO111)
      have hO119 := hO107.tr (HS.om (hO111))
      have hB120 : rowB (ia w113 112) = b := by rw [HS.row (hO111)]; exact hB108
      refine sx_RP.step (pc2 := 33) (ls2 := [(2, .int 1), (0, .ref 111), (1, .int (nI k))]) (st2 := []) (w3 := w113) rfl rfl ?_
      refine sx_RP.step (pc2 := 34) (ls2 := [(2, .int 1), (0, .ref 111), (1, .int (nI k))]) (st2 := [.ref 111]) (w3 := w113) rfl rfl ?_
      refine sx_RP.step (pc2 := 37) (ls2 := [(2, .int 1), (0, .ref 111), (1, .int (nI k))]) (st2 := [.float 100, .ref 111]) (w3 := w113) rfl rfl ?_
      rcases Bool.eq_false_or_eq_true (wdT n X (nP n X q) (100 : UInt32)) with c121 | c121
      · refine sx_RP.callp (as2 := [.ref 111, .float 100]) (rest2 := []) rfl rfl (sx_inv_v2 (mi := 227) (k := 282) (st := [.float 100, .ref 111]) (w := w113) rfl rfl hI114.1.o111 rfl rfl rfl) rfl rfl rfl (y228t (k := (100 : UInt32)) (m := 2) hI114 hM118 hp115 ep110 ef112 (by decide) rfl (by decide) (by decide) hP117 c121) (show _ = 40 from rfl) ?_
        rintro r4 w125 ⟨⟨rfl, ep122, ef124⟩, hI126, hO123⟩
        show sx_RP _ _ _ _ _ [.int 1] _ _
        have hp127 : beT n X (nP n X q) ≤ n := beT_le hp116
        have hp128 : nP n X (nP n X q) ≤ n := rE_le hp127
        have hP129 : rE blk n X (beT n X (nP n X q)) = nP n X (nP n X q) := rfl
        have hM130 := hM118.hs (hO123)
        have hO131 := hO119.tr (HS.om (hO123))
        have hB132 : rowB (ia w125 112) = b := by rw [HS.row (hO123)]; exact hB120
        refine sx_RP.step (pc2 := 43) (ls2 := [(2, .int 1), (0, .ref 111), (1, .int (nI k))]) (st2 := []) (w3 := w125) rfl rfl ?_
        refine sx_RP.step (pc2 := 44) (ls2 := [(2, .int 1), (0, .ref 111), (1, .int (nI k))]) (st2 := [.ref 111]) (w3 := w125) rfl rfl ?_
        refine sx_RP.step (pc2 := 45) (ls2 := [(2, .int 1), (0, .ref 111), (1, .int (nI k))]) (st2 := [.int 0, .ref 111]) (w3 := w125) rfl rfl ?_
        refine sx_RP.step (pc2 := 47) (ls2 := [(2, .int 1), (0, .ref 111), (1, .int (nI k))]) (st2 := [.int 47, .int 0, .ref 111]) (w3 := w125) rfl rfl ?_
        rcases Bool.eq_false_or_eq_true (nmT n X (nP n X (nP n X q)) 0 47) with c133 | c133
        · refine sx_RP.callp (as2 := [.ref 111, .int 0, .int 47]) (rest2 := []) rfl rfl (sx_inv_v2 (mi := 227) (k := 267) (st := [.int 47, .int 0, .ref 111]) (w := w125) rfl rfl hI126.1.o111 rfl rfl rfl) rfl rfl rfl (y220t (lo := 0) (hi := 47) hI126 hM130 hp127 ep122 ef124 (by omega) (by decide) hP129 c133) (show _ = 50 from rfl) ?_
          rintro r4 w138 ⟨⟨rfl, ep134, ev137, ef136⟩, hI139, hO135⟩
          show sx_RP _ _ _ _ _ [.int 1] _ _
          have hp140 : beT n X (nP n X (nP n X q)) ≤ n := beT_le hp128
          have hp141 : nP n X (nP n X (nP n X q)) ≤ n := rE_le hp140
          have hr142 := nmT_in c133
          have hP143 : rE blk n X (beT n X (nP n X (nP n X q))) = nP n X (nP n X (nP n X q)) := rfl
          have hM144 := hM130.hs (hO135)
          have hO145 := hO131.tr (HS.om (hO135))
          have hB146 : rowB (ia w138 112) = b := by rw [HS.row (hO135)]; exact hB132
          refine sx_RP.step (pc2 := 55) (ls2 := [(2, .int 1), (0, .ref 111), (1, .int (nI k))]) (st2 := []) (w3 := w138) rfl rfl ?_
          refine sx_RP.step (pc2 := 56) (ls2 := [(2, .int 1), (0, .ref 111), (1, .int (nI k))]) (st2 := [.ref 111]) (w3 := w138) rfl rfl ?_
          refine sx_RP.gf (v := .int (fi w138 111 14)) rfl rfl hI139.1.o111 rfl rfl (show _ = 59 from rfl) ?_
          rw [ev137]
          refine sx_RP.step (pc2 := 60) (ls2 := [(3, .int (nI (vaT n X (nP n X (nP n X q))))), (2, .int 1), (0, .ref 111), (1, .int (nI k))]) (st2 := []) (w3 := w138) rfl rfl ?_
          refine sx_RP.step (pc2 := 61) (ls2 := [(3, .int (nI (vaT n X (nP n X (nP n X q))))), (2, .int 1), (0, .ref 111), (1, .int (nI k))]) (st2 := [.ref 111]) (w3 := w138) rfl rfl ?_
          refine sx_RP.step (pc2 := 64) (ls2 := [(3, .int (nI (vaT n X (nP n X (nP n X q))))), (2, .int 1), (0, .ref 111), (1, .int (nI k))]) (st2 := [.float 119, .ref 111]) (w3 := w138) rfl rfl ?_
          rcases Bool.eq_false_or_eq_true (wdT n X (nP n X (nP n X (nP n X q))) (119 : UInt32)) with c147 | c147
          · refine sx_RP.callp (as2 := [.ref 111, .float 119]) (rest2 := []) rfl rfl (sx_inv_v2 (mi := 227) (k := 282) (st := [.float 119, .ref 111]) (w := w138) rfl rfl hI139.1.o111 rfl rfl rfl) rfl rfl rfl (y228t (k := (119 : UInt32)) (m := 3) hI139 hM144 hp140 ep134 ef136 (by decide) rfl (by decide) (by decide) hP143 c147) (show _ = 67 from rfl) ?_
            rintro r4 w151 ⟨⟨rfl, ep148, ef150⟩, hI152, hO149⟩
            show sx_RP _ _ _ _ _ [.int 1] _ _
            have hp153 : beT n X (nP n X (nP n X (nP n X q))) ≤ n := beT_le hp141
            have hp154 : nP n X (nP n X (nP n X (nP n X q))) ≤ n := rE_le hp153
            have hP155 : rE blk n X (beT n X (nP n X (nP n X (nP n X q)))) = nP n X (nP n X (nP n X (nP n X q))) := rfl
            have hM156 := hM144.hs (hO149)
            have hO157 := hO145.tr (HS.om (hO149))
            have hB158 : rowB (ia w151 112) = b := by rw [HS.row (hO149)]; exact hB146
            refine sx_RP.step (pc2 := 70) (ls2 := [(3, .int (nI (vaT n X (nP n X (nP n X q))))), (2, .int 1), (0, .ref 111), (1, .int (nI k))]) (st2 := []) (w3 := w151) rfl rfl ?_
            refine sx_RP.step (pc2 := 71) (ls2 := [(3, .int (nI (vaT n X (nP n X (nP n X q))))), (2, .int 1), (0, .ref 111), (1, .int (nI k))]) (st2 := [.ref 111]) (w3 := w151) rfl rfl ?_
            refine sx_RP.step (pc2 := 72) (ls2 := [(3, .int (nI (vaT n X (nP n X (nP n X q))))), (2, .int 1), (0, .ref 111), (1, .int (nI k))]) (st2 := [.int 0, .ref 111]) (w3 := w151) rfl rfl ?_
            refine sx_RP.step (pc2 := 73) (ls2 := [(3, .int (nI (vaT n X (nP n X (nP n X q))))), (2, .int 1), (0, .ref 111), (1, .int (nI k))]) (st2 := [.int 3, .int 0, .ref 111]) (w3 := w151) rfl rfl ?_
            rcases Bool.eq_false_or_eq_true (nmT n X (nP n X (nP n X (nP n X (nP n X q)))) 0 3) with c159 | c159
            · refine sx_RP.callp (as2 := [.ref 111, .int 0, .int 3]) (rest2 := []) rfl rfl (sx_inv_v2 (mi := 227) (k := 267) (st := [.int 3, .int 0, .ref 111]) (w := w151) rfl rfl hI152.1.o111 rfl rfl rfl) rfl rfl rfl (y220t (lo := 0) (hi := 3) hI152 hM156 hp153 ep148 ef150 (by omega) (by decide) hP155 c159) (show _ = 76 from rfl) ?_
              rintro r4 w164 ⟨⟨rfl, ep160, ev163, ef162⟩, hI165, hO161⟩
              show sx_RP _ _ _ _ _ [.int 1] _ _
              have hp166 : beT n X (nP n X (nP n X (nP n X (nP n X q)))) ≤ n := beT_le hp154
              have hp167 : nP n X (nP n X (nP n X (nP n X (nP n X q)))) ≤ n := rE_le hp166
              have hr168 := nmT_in c159
              have hP169 : rE blk n X (beT n X (nP n X (nP n X (nP n X (nP n X q))))) = nP n X (nP n X (nP n X (nP n X (nP n X q)))) := rfl
              have hM170 := hM156.hs (hO161)
              have hO171 := hO157.tr (HS.om (hO161))
              have hB172 : rowB (ia w164 112) = b := by rw [HS.row (hO161)]; exact hB158
              refine sx_RP.step (pc2 := 81) (ls2 := [(3, .int (nI (vaT n X (nP n X (nP n X q))))), (2, .int 1), (0, .ref 111), (1, .int (nI k))]) (st2 := []) (w3 := w164) rfl rfl ?_
              refine sx_RP.step (pc2 := 82) (ls2 := [(3, .int (nI (vaT n X (nP n X (nP n X q))))), (2, .int 1), (0, .ref 111), (1, .int (nI k))]) (st2 := [.ref 111]) (w3 := w164) rfl rfl ?_
              refine sx_RP.step (pc2 := 83) (ls2 := [(3, .int (nI (vaT n X (nP n X (nP n X q))))), (2, .int 1), (0, .ref 111), (1, .int (nI k))]) (st2 := [.int (nI k), .ref 111]) (w3 := w164) rfl rfl ?_
              refine sx_RP.step (pc2 := 84) (ls2 := [(3, .int (nI (vaT n X (nP n X (nP n X q))))), (2, .int 1), (0, .ref 111), (1, .int (nI k))]) (st2 := [.int 1, .int (nI k), .ref 111]) (w3 := w164) rfl rfl ?_
              refine sx_RP.step (pc2 := 85) (ls2 := [(3, .int (nI (vaT n X (nP n X (nP n X q))))), (2, .int 1), (0, .ref 111), (1, .int (nI k))]) (st2 := [.int (nI (vaT n X (nP n X (nP n X q)))), .int 1, .int (nI k), .ref 111]) (w3 := w164) rfl rfl ?_
              refine sx_RP.step (pc2 := 86) (ls2 := [(3, .int (nI (vaT n X (nP n X (nP n X q))))), (2, .int 1), (0, .ref 111), (1, .int (nI k))]) (st2 := [.ref 111, .int (nI (vaT n X (nP n X (nP n X q)))), .int 1, .int (nI k), .ref 111]) (w3 := w164) rfl rfl ?_
              refine sx_RP.gf (v := .int (fi w164 111 14)) rfl rfl hI165.1.o111 rfl rfl (show _ = 89 from rfl) ?_
              rw [ev163]
              have hen : (ia w164 112).getD 1 0 = nI u := row_len hI165 hB172 hu (by omega)
              refine sx_RP.callp (as2 := [.ref 111, .int (nI k), .int 1, .int (nI (vaT n X (nP n X (nP n X q)))), .int (nI (vaT n X (nP n X (nP n X (nP n X (nP n X q))))))]) (rest2 := []) rfl rfl (sx_inv_v2 (mi := 227) (k := 120) (st := [.int (nI (vaT n X (nP n X (nP n X (nP n X (nP n X q)))))), .int (nI (vaT n X (nP n X (nP n X q)))), .int 1, .int (nI k), .ref 111]) (w := w164) rfl rfl hI165.1.o111 rfl rfl rfl) rfl rfl rfl (X153 hI165 (by omega) hen (show k ≤ 5 by omega) (show 1 ≤ 1 by omega) (show (vaT n X (nP n X (nP n X q))) < 48 by omega) (show (vaT n X (nP n X (nP n X (nP n X (nP n X q))))) ≤ 3 by omega)) (show _ = 92 from rfl) ?_
              rintro r4 w176 ⟨⟨rfl, hc173⟩, hI177, hs174⟩
              show sx_RP _ _ _ _ _ [] _ _
              have hB175 : rowB (ia w176 112) = addK (nI k) (b) := by rw [hc173, addRow_b hI165.1.a112.2 hen (by omega), hB172]
              have ep178 := (fi_same 12 (hs174 111 (by decide))).trans ep160
              have ef179 := (fi_same 13 (hs174 111 (by decide))).trans ef162
              have hM180 := hM170.om (OM.st hs174)
              have hO181 := hO171.tr (OM.st hs174)
              refine sx_RP.step (pc2 := 93) (ls2 := [(3, .int (nI (vaT n X (nP n X (nP n X q))))), (2, .int 1), (0, .ref 111), (1, .int (nI k))]) (st2 := [.int 1]) (w3 := w176) rfl rfl ?_
              refine sx_RP.ret (r := (some (.int 1))) rfl rfl ?_
              have eR : galS n X k q b = (true, nP n X (nP n X (nP n X (nP n X (nP n X q)))), addK (nI k) (b)) := by simp only [galS, wtT, c1, c109, c121, c133, c147, c159, if_true, if_false, Bool.false_eq_true, ite_true, ite_false, true_or, or_true, or_false, false_or]
              rw [eR]
              exact ⟨⟨rfl, RdM.t ef179 hB175 hp166 ep178 hP169⟩, hI177, hO181⟩
            · refine sx_RP.callp (as2 := [.ref 111, .int 0, .int 3]) (rest2 := []) rfl rfl (sx_inv_v2 (mi := 227) (k := 267) (st := [.int 3, .int 0, .ref 111]) (w := w151) rfl rfl hI152.1.o111 rfl rfl rfl) rfl rfl rfl (y220f (lo := 0) (hi := 3) hI152 hM156 hp153 ep148 ef150 (by omega) (by decide) hP155 c159) (show _ = 76 from rfl) ?_
              rintro r4 w186 ⟨⟨rfl, ep182⟩, hI187, hO183⟩
              show sx_RP _ _ _ _ _ [.int 0] _ _
              have hO188 := hO157.tr (HS.om hO183)
              refine sx_RP.step (pc2 := 79) (ls2 := [(3, .int (nI (vaT n X (nP n X (nP n X q))))), (2, .int 1), (0, .ref 111), (1, .int (nI k))]) (st2 := []) (w3 := w186) rfl rfl ?_
              refine sx_RP.step (pc2 := 80) (ls2 := [(3, .int (nI (vaT n X (nP n X (nP n X q))))), (2, .int 1), (0, .ref 111), (1, .int (nI k))]) (st2 := [.int 0]) (w3 := w186) rfl rfl ?_
              refine sx_RP.ret (r := (some (.int 0))) rfl rfl ?_
              have eR : galS n X k q b = (false, nP n X (nP n X (nP n X (nP n X q))), b) := by simp only [galS, wtT, c1, c109, c121, c133, c147, c159, if_true, if_false, Bool.false_eq_true, ite_true, ite_false, true_or, or_true, or_false, false_or]
              rw [eR]
              exact ⟨⟨rfl, RdM.f ep182⟩, hI187, hO188⟩
          · refine sx_RP.callp (as2 := [.ref 111, .float 119]) (rest2 := []) rfl rfl (sx_inv_v2 (mi := 227) (k := 282) (st := [.float 119, .ref 111]) (w := w138) rfl rfl hI139.1.o111 rfl rfl rfl) rfl rfl rfl (y228f (k := (119 : UInt32)) (m := 3) hI139 hM144 hp140 ep134 ef136 (by decide) rfl (by decide) (by decide) hP143 c147) (show _ = 67 from rfl) ?_
            rintro r4 w192 ⟨⟨rfl, ep189⟩, hI193, hO190⟩
            show sx_RP _ _ _ _ _ [.int 0] _ _
            have hO194 := hO145.tr (HS.om hO190)
            refine sx_RP.step (pc2 := 79) (ls2 := [(3, .int (nI (vaT n X (nP n X (nP n X q))))), (2, .int 1), (0, .ref 111), (1, .int (nI k))]) (st2 := []) (w3 := w192) rfl rfl ?_
            refine sx_RP.step (pc2 := 80) (ls2 := [(3, .int (nI (vaT n X (nP n X (nP n X q))))), (2, .int 1), (0, .ref 111), (1, .int (nI k))]) (st2 := [.int 0]) (w3 := w192) rfl rfl ?_
            refine sx_RP.ret (r := (some (.int 0))) rfl rfl ?_
            have eR : galS n X k q b = (false, nP n X (nP n X (nP n X q)), b) := by simp only [galS, wtT, c1, c109, c121, c133, c147, if_true, if_false, Bool.false_eq_true, ite_true, ite_false, true_or, or_true, or_false, false_or]
            rw [eR]
            exact ⟨⟨rfl, RdM.f ep189⟩, hI193, hO194⟩
        · refine sx_RP.callp (as2 := [.ref 111, .int 0, .int 47]) (rest2 := []) rfl rfl (sx_inv_v2 (mi := 227) (k := 267) (st := [.int 47, .int 0, .ref 111]) (w := w125) rfl rfl hI126.1.o111 rfl rfl rfl) rfl rfl rfl (y220f (lo := 0) (hi := 47) hI126 hM130 hp127 ep122 ef124 (by omega) (by decide) hP129 c133) (show _ = 50 from rfl) ?_
          rintro r4 w199 ⟨⟨rfl, ep195⟩, hI200, hO196⟩
          show sx_RP _ _ _ _ _ [.int 0] _ _
          have hO201 := hO131.tr (HS.om hO196)
          refine sx_RP.step (pc2 := 53) (ls2 := [(2, .int 1), (0, .ref 111), (1, .int (nI k))]) (st2 := []) (w3 := w199) rfl rfl ?_
          refine sx_RP.step (pc2 := 54) (ls2 := [(2, .int 1), (0, .ref 111), (1, .int (nI k))]) (st2 := [.int 0]) (w3 := w199) rfl rfl ?_
          refine sx_RP.ret (r := (some (.int 0))) rfl rfl ?_
          have eR : galS n X k q b = (false, nP n X (nP n X q), b) := by simp only [galS, wtT, c1, c109, c121, c133, if_true, if_false, Bool.false_eq_true, ite_true, ite_false, true_or, or_true, or_false, false_or]
          rw [eR]
          exact ⟨⟨rfl, RdM.f ep195⟩, hI200, hO201⟩
      · refine sx_RP.callp (as2 := [.ref 111, .float 100]) (rest2 := []) rfl rfl (sx_inv_v2 (mi := 227) (k := 282) (st := [.float 100, .ref 111]) (w := w113) rfl rfl hI114.1.o111 rfl rfl rfl) rfl rfl rfl (y228f (k := (100 : UInt32)) (m := 2) hI114 hM118 hp115 ep110 ef112 (by decide) rfl (by decide) (by decide) hP117 c121) (show _ = 40 from rfl) ?_
        rintro r4 w205 ⟨⟨rfl, ep202⟩, hI206, hO203⟩
        show sx_RP _ _ _ _ _ [.int 0] _ _
        have hO207 := hO119.tr (HS.om hO203)
        refine sx_RP.step (pc2 := 53) (ls2 := [(2, .int 1), (0, .ref 111), (1, .int (nI k))]) (st2 := []) (w3 := w205) rfl rfl ?_
        refine sx_RP.step (pc2 := 54) (ls2 := [(2, .int 1), (0, .ref 111), (1, .int (nI k))]) (st2 := [.int 0]) (w3 := w205) rfl rfl ?_
        refine sx_RP.ret (r := (some (.int 0))) rfl rfl ?_
        have eR : galS n X k q b = (false, nP n X q, b) := by simp only [galS, wtT, c1, c109, c121, if_true, if_false, Bool.false_eq_true, ite_true, ite_false, true_or, or_true, or_false, false_or]
        rw [eR]
        exact ⟨⟨rfl, RdM.f ep202⟩, hI206, hO207⟩
    · refine sx_RP.callp (as2 := [.ref 111, .float 109]) (rest2 := []) rfl rfl (sx_inv_v2 (mi := 227) (k := 282) (st := [.float 109, .ref 111]) (w := w103) rfl rfl hI104.1.o111 rfl rfl rfl) rfl rfl rfl (y228f (k := (109 : UInt32)) (m := 4) hI104 hM106 hpl ep100 ef102 (by decide) rfl (by decide) (by decide) hP105 c109) (show _ = 28 from rfl) ?_
      rintro r4 w211 ⟨⟨rfl, ep208⟩, hI212, hO209⟩
      show sx_RP _ _ _ _ _ [.int 0] _ _
      have hO213 := hO107.tr (HS.om hO209)
      refine sx_RP.step (pc2 := 31) (ls2 := [(2, .int 1), (0, .ref 111), (1, .int (nI k))]) (st2 := []) (w3 := w211) rfl rfl ?_
      refine sx_RP.step (pc2 := 32) (ls2 := [(2, .int 1), (0, .ref 111), (1, .int (nI k))]) (st2 := [.int 0]) (w3 := w211) rfl rfl ?_
      refine sx_RP.ret (r := (some (.int 0))) rfl rfl ?_
      have eR : galS n X k q b = (false, q, b) := by simp only [galS, wtT, c1, c109, if_true, if_false, Bool.false_eq_true, ite_true, ite_false, true_or, or_true, or_false, false_or]
      rw [eR]
      exact ⟨⟨rfl, RdM.f ep208⟩, hI212, hO213⟩
end
-- 89t.siege.lean.txt
section
theorem row_set {l : List Int32} {i : Nat} {v : Int32} (hi : ¬ bk i) (hn : iN (l.getD 1 0) ≤ 10) : rowB (l.set i v) = rowB l := rowB_bk (fun k hk => gd_ne (fun e => hi (e ▸ hk))) hn
set_option maxRecDepth 20000 in
set_option maxHeartbeats 4000000 in
theorem y224 {xs : Option (List Int32)} {d : Nat} {w : List sx_C} (hI : WI w) {c u : Nat} (hc : c < 48) (hu : u ≤ 4) : sx_RP xs d 224 0 (lv_args 0 [.ref 111, .int (nI c), .int (nI u)]) [] w (fun r w2 => (r = none ∧ rowB (ia w2 112) = rowB (ia w 112)) ∧ WI w2 ∧ Same 112 w w2) := by
  refine sx_RP.step (pc2 := 1) (ls2 := [(0, .ref 111), (1, .int (nI c)), (2, .int (nI u))]) (st2 := [.int (nI u)]) (w3 := w) rfl rfl ?_
  refine sx_RP.step (pc2 := 2) (ls2 := [(0, .ref 111), (1, .int (nI c)), (2, .int (nI u))]) (st2 := [.int 4, .int (nI u)]) (w3 := w) rfl rfl ?_
  refine sx_RP.br (p1 := 18) (l1 := [(0, .ref 111), (1, .int (nI c)), (2, .int (nI u))]) (s1 := []) (v1 := w) (p2 := 5) (l2 := [(0, .ref 111), (1, .int (nI c)), (2, .int (nI u))]) (s2 := []) (v2 := w) rfl rfl (fun q1 => ?_) (fun q1 => ?_)
  · replace q1 := of_decide_eq_true q1
    replace q1 := mt (nI_eq (a := u) (b := 4) (by omega) (by omega)).mpr q1
    refine sx_RP.step (pc2 := 19) (ls2 := [(0, .ref 111), (1, .int (nI c)), (2, .int (nI u))]) (st2 := [.ref 111]) (w3 := w) rfl rfl ?_
    refine sx_RP.gf (v := .ref 112) rfl rfl hI.1.o111 rfl rfl (show _ = 22 from rfl) ?_
    refine sx_RP.step (pc2 := 24) (ls2 := [(0, .ref 111), (1, .int (nI c)), (2, .int (nI u))]) (st2 := [.int 7, .ref 112]) (w3 := w) rfl rfl ?_
    refine sx_RP.step (pc2 := 25) (ls2 := [(0, .ref 111), (1, .int (nI c)), (2, .int (nI u))]) (st2 := [.int (nI c), .int 7, .ref 112]) (w3 := w) rfl rfl ?_
    refine sx_RP.step (pc2 := 26) (ls2 := [(0, .ref 111), (1, .int (nI c)), (2, .int (nI u))]) (st2 := [.int (7 + (nI c)), .ref 112]) (w3 := w) rfl rfl ?_
    rw [show (7 + (nI c) : Int32) = nI (7 + c) from nI_add 7 c]
    refine sx_RP.step (pc2 := 27) (ls2 := [(0, .ref 111), (1, .int (nI c)), (2, .int (nI u))]) (st2 := [.int (nI u), .int (nI (7 + c)), .ref 112]) (w3 := w) rfl rfl ?_
    refine sx_RP.xM (k := (7 + c)) hI (by decide) rfl (by omega) (eOK_st (by omega) ⟨u, by omega, rfl⟩) (show _ = 28 from rfl) (fun w2 hI3 hs4 hv5 => ?_)
    refine sx_RP.ret (r := none) rfl rfl ?_
    exact ⟨⟨rfl, by rw [hv5]; exact row_set (by unfold bk; omega) (hI.manyM (by decide))⟩, hI3, hs4⟩
  · replace q1 := Decidable.not_not.mp (of_decide_eq_false q1)
    replace q1 := (nI_eq (a := u) (b := 4) (by omega) (by omega)).mp q1
    refine sx_RP.step (pc2 := 6) (ls2 := [(0, .ref 111), (1, .int (nI c)), (2, .int (nI u))]) (st2 := [.ref 111]) (w3 := w) rfl rfl ?_
    refine sx_RP.gf (v := .ref 112) rfl rfl hI.1.o111 rfl rfl (show _ = 9 from rfl) ?_
    refine sx_RP.step (pc2 := 11) (ls2 := [(0, .ref 111), (1, .int (nI c)), (2, .int (nI u))]) (st2 := [.int 55, .ref 112]) (w3 := w) rfl rfl ?_
    refine sx_RP.step (pc2 := 12) (ls2 := [(0, .ref 111), (1, .int (nI c)), (2, .int (nI u))]) (st2 := [.int (nI c), .int 55, .ref 112]) (w3 := w) rfl rfl ?_
    refine sx_RP.step (pc2 := 13) (ls2 := [(0, .ref 111), (1, .int (nI c)), (2, .int (nI u))]) (st2 := [.int (55 + (nI c)), .ref 112]) (w3 := w) rfl rfl ?_
    rw [show (55 + (nI c) : Int32) = nI (55 + c) from nI_add 55 c]
    refine sx_RP.step (pc2 := 14) (ls2 := [(0, .ref 111), (1, .int (nI c)), (2, .int (nI u))]) (st2 := [.int 1, .int (nI (55 + c)), .ref 112]) (w3 := w) rfl rfl ?_
    refine sx_RP.xM (k := (55 + c)) hI (by decide) rfl (by omega) (eOK_n (by omega)) (show _ = 15 from rfl) (fun w6 hI7 hs8 hv9 => ?_)
    refine sx_RP.step (pc2 := 28) (ls2 := [(0, .ref 111), (1, .int (nI c)), (2, .int (nI u))]) (st2 := []) (w3 := w6) rfl rfl ?_
    refine sx_RP.ret (r := none) rfl rfl ?_
    exact ⟨⟨rfl, by rw [hv9]; exact row_set (by unfold bk; omega) (hI.manyM (by decide))⟩, hI7, hs8⟩
set_option maxRecDepth 20000 in
set_option maxHeartbeats 4000000 in
theorem y219B {xs : Option (List Int32)} {d i : Nat} {n h q v u : Nat} {X : Nat → Nat} {b : BB} {l : Int32} {w0 : List sx_C} (hu : u ≤ 4) (hv : v ≤ 47) (hp : h ≤ n) (hP : rE blk n X h = q) {w : List sx_C} (hI : WI w) (hM : MT n X w) (ep : fi w 111 12 = nI h) (ef : fi w 111 13 = -1) (ev : fi w 111 14 = nI v) (hB : rowB (ia w 112) = b) (hO : OM w0 w) (hi : i ≤ 48) (kk : ∀ w, i ≤ v → WI w → MT n X w → fi w 111 12 = nI h → fi w 111 13 = -1 → fi w 111 14 = nI v → rowB (ia w 112) = b → OM w0 w → sx_RP xs (d + 6) 219 62 [(0, .ref 111), (1, .int (nI u)), (2, .int l), (3, .int (nI (i + 1)))] [] w (fun r w2 => (r = some (.int 1) ∧ RdM n X (true, q, b) w2) ∧ WI w2 ∧ OM w0 w2)) : sx_RP xs (d + 6) 219 62 [(0, .ref 111), (1, .int (nI u)), (2, .int l), (3, .int (nI i))] [] w (fun r w2 => (r = some (.int 1) ∧ RdM n X (true, q, b) w2) ∧ WI w2 ∧ OM w0 w2) := by
  have hn := hM.2.1
  refine sx_RP.step (pc2 := 63) (ls2 := [(0, .ref 111), (1, .int (nI u)), (2, .int l), (3, .int (nI i))]) (st2 := [.int (nI i)]) (w3 := w) rfl rfl ?_
  refine sx_RP.step (pc2 := 64) (ls2 := [(0, .ref 111), (1, .int (nI u)), (2, .int l), (3, .int (nI i))]) (st2 := [.ref 111, .int (nI i)]) (w3 := w) rfl rfl ?_
  refine sx_RP.gf (v := .int (fi w 111 14)) rfl rfl hI.1.o111 rfl rfl (show _ = 67 from rfl) ?_
  rw [ev]
  refine sx_RP.br (p1 := 82) (l1 := [(0, .ref 111), (1, .int (nI u)), (2, .int l), (3, .int (nI i))]) (s1 := []) (v1 := w) (p2 := 70) (l2 := [(0, .ref 111), (1, .int (nI u)), (2, .int l), (3, .int (nI i))]) (s2 := []) (v2 := w) rfl rfl (fun q1 => ?_) (fun q1 => ?_)
  · replace q1 := of_decide_eq_true q1
    replace q1 := (nI_ltI (a := v) (b := i) (by omega) (by omega)).mp q1
    refine sx_RP.step (pc2 := 83) (ls2 := [(0, .ref 111), (1, .int (nI u)), (2, .int l), (3, .int (nI i))]) (st2 := [.int 1]) (w3 := w) rfl rfl ?_
    refine sx_RP.ret (r := (some (.int 1))) rfl rfl ?_
    exact ⟨⟨rfl, RdM.t ef hB hp ep hP⟩, hI, hO⟩
  · replace q1 := of_decide_eq_false q1
    replace q1 := mt (nI_ltI (a := v) (b := i) (by omega) (by omega)).mpr q1
    refine sx_RP.step (pc2 := 71) (ls2 := [(0, .ref 111), (1, .int (nI u)), (2, .int l), (3, .int (nI i))]) (st2 := [.ref 111]) (w3 := w) rfl rfl ?_
    refine sx_RP.step (pc2 := 72) (ls2 := [(0, .ref 111), (1, .int (nI u)), (2, .int l), (3, .int (nI i))]) (st2 := [.int (nI i), .ref 111]) (w3 := w) rfl rfl ?_
    refine sx_RP.step (pc2 := 73) (ls2 := [(0, .ref 111), (1, .int (nI u)), (2, .int l), (3, .int (nI i))]) (st2 := [.int (nI u), .int (nI i), .ref 111]) (w3 := w) rfl rfl ?_
    refine sx_RP.callp (as2 := [.ref 111, .int (nI i), .int (nI u)]) (rest2 := []) rfl rfl (sx_inv_v2 (mi := 219) (k := 270) (st := [.int (nI u), .int (nI i), .ref 111]) (w := w) rfl rfl hI.1.o111 rfl rfl rfl) rfl rfl rfl (y224 (c := i) (u := u) hI (by omega) (by omega)) (show _ = 76 from rfl) ?_
    rintro r4 w5 ⟨⟨rfl, hb2⟩, hI6, hs3⟩
    show sx_RP _ _ _ _ _ [] _ _
    have hB4 := hb2.trans hB
    have ep7 := (fi_same 12 (hs3 111 (by decide))).trans ep
    have ef8 := (fi_same 13 (hs3 111 (by decide))).trans ef
    have hM9 := hM.om (OM.st hs3)
    have hO10 := hO.tr (OM.st hs3)
    have ev11 := (fi_same 14 (hs3 111 (by decide))).trans ev
    refine sx_RP.step (pc2 := 79) (ls2 := [(3, .int ((nI i) + 1)), (0, .ref 111), (1, .int (nI u)), (2, .int l)]) (st2 := []) (w3 := w5) rfl rfl ?_
    rw [nI_1 i]
    refine sx_RP.step (pc2 := 62) (ls2 := [(3, .int (nI (i + 1))), (0, .ref 111), (1, .int (nI u)), (2, .int l)]) (st2 := []) (w3 := w5) rfl rfl ?_
    exact sx_RP.ls (sx_lr.cons rfl (sx_lr.cons rfl (sx_lr.cons rfl (sx_lr.cons rfl sx_lr.nil)))) (kk w5 (by omega) hI6 hM9 ep7 ef8 ev11 hB4 hO10)
theorem y219I {xs : Option (List Int32)} {d : Nat} {n h q v u : Nat} {X : Nat → Nat} {b : BB} {l : Int32} {w0 : List sx_C} (hu : u ≤ 4) (hv : v ≤ 47) (hp : h ≤ n) (hP : rE blk n X h = q) : ∀ (fz i : Nat) (w : List sx_C), 48 ≤ i + fz → i ≤ 48 → WI w → MT n X w → fi w 111 12 = nI h → fi w 111 13 = -1 → fi w 111 14 = nI v → rowB (ia w 112) = b → OM w0 w → sx_RP xs (d + 6) 219 62 [(0, .ref 111), (1, .int (nI u)), (2, .int l), (3, .int (nI i))] [] w (fun r w2 => (r = some (.int 1) ∧ RdM n X (true, q, b) w2) ∧ WI w2 ∧ OM w0 w2)
  | 0, i, w, h0, hi, hI, hM, ep, ef, ev, hB, hO => y219B hu hv hp hP hI hM ep ef ev hB hO hi (fun _ z => absurd z (by omega))
  | fz + 1, i, w, h0, hi, hI, hM, ep, ef, ev, hB, hO => y219B hu hv hp hP hI hM ep ef ev hB hO hi (fun w2 z => y219I hu hv hp hP fz (i + 1) w2 (by omega) (by omega))
theorem y225t {xs : Option (List Int32)} {d n h q : Nat} {X : Nat → Nat} {w : List sx_C} (hI : WI w) (hM : MT n X w) (hp : h ≤ n) (ep : fi w 111 12 = nI h) (ef : fi w 111 13 = -1) (hP : rE blk n X h = q) (c : soT n X q = 2) : sx_RP xs (d + 3) 225 0 (lv_args 0 [.ref 111]) [] w (fun r w2 => (r = some (.int 1) ∧ fi w2 111 12 = nI q) ∧ WI w2 ∧ H12 w w2) := by
  subst hP
  have z := y225 (xs := xs) (d := d) hI hM hp ep ef
  rw [decide_eq_true c] at z
  exact z
theorem y225f {xs : Option (List Int32)} {d n h q : Nat} {X : Nat → Nat} {w : List sx_C} (hI : WI w) (hM : MT n X w) (hp : h ≤ n) (ep : fi w 111 12 = nI h) (ef : fi w 111 13 = -1) (hP : rE blk n X h = q) (c : ¬ soT n X q = 2) : sx_RP xs (d + 3) 225 0 (lv_args 0 [.ref 111]) [] w (fun r w2 => (r = some (.int 0) ∧ fi w2 111 12 = nI q) ∧ WI w2 ∧ H12 w w2) := by
  subst hP
  have z := y225 (xs := xs) (d := d) hI hM hp ep ef
  rw [decide_eq_false c] at z
  exact z
set_option maxRecDepth 20000 in
set_option maxHeartbeats 4000000 in
theorem y219L {xs : Option (List Int32)} {d n u : Nat} {X : Nat → Nat} {b : BB} {w0 : List sx_C} (hu : u ≤ 4) : ∀ (fz last h q : Nat) (w : List sx_C), 48 ≤ last + fz → last ≤ 47 → h ≤ n → rE blk n X h = q → WI w → MT n X w → fi w 111 12 = nI h → fi w 111 13 = -1 → rowB (ia w 112) = b → OM w0 w → sx_RP xs (d + 6) 219 27 [(0, .ref 111), (1, .int (nI u)), (2, .int (nI last))] [] w (fun r w2 => (r = some (.int (b01 (grL n X b fz last q).1)) ∧ RdM n X (grL n X b fz last q) w2) ∧ WI w2 ∧ OM w0 w2)
  | 0, last, h, q, w, h0, hl, hp, hP, hI, hM, ep, ef, hB, hO => absurd h0 (by omega)
  | fz + 1, last, h, q, w, h0, hl, hp, hP, hI, hM, ep, ef, hB, hO => by
    have hn := hM.2.1
    have hpl : q ≤ n := by rw [← hP]; exact rE_le hp
    refine sx_RP.step (pc2 := 28) (ls2 := [(0, .ref 111), (1, .int (nI u)), (2, .int (nI last))]) (st2 := [.ref 111]) (w3 := w) rfl rfl ?_
    rcases Decidable.em (soT n X q = 2) with c1 | c1
    · refine sx_RP.callp (as2 := [.ref 111]) (rest2 := []) rfl rfl (sx_inv_v2 (mi := 219) (k := 273) (st := [.ref 111]) (w := w) rfl rfl hI.1.o111 rfl rfl rfl) rfl rfl rfl (y225t hI hM hp ep ef hP c1) (show _ = 31 from rfl) ?_
      rintro r4 w5 ⟨⟨rfl, ep2⟩, hI6, hO3⟩
      show sx_RP _ _ _ _ _ [.int 1] _ _
      have ef4 := (hO3.2 13 (by decide)).trans ef
      have hP7 : rE blk n X q = q := by rw [← hP]; exact rE_rE
      have hM8 := hM.hs (hO3.hs)
      have hO9 := hO.tr (HS.om (hO3.hs))
      have hB10 : rowB (ia w5 112) = b := by rw [HS.row (hO3.hs)]; exact hB
      refine sx_RP.step (pc2 := 2) (ls2 := [(0, .ref 111), (1, .int (nI u)), (2, .int (nI last))]) (st2 := []) (w3 := w5) rfl rfl ?_
      refine sx_RP.step (pc2 := 3) (ls2 := [(0, .ref 111), (1, .int (nI u)), (2, .int (nI last))]) (st2 := [.ref 111]) (w3 := w5) rfl rfl ?_
      refine sx_RP.step (pc2 := 4) (ls2 := [(0, .ref 111), (1, .int (nI u)), (2, .int (nI last))]) (st2 := [.int (nI last), .ref 111]) (w3 := w5) rfl rfl ?_
      refine sx_RP.step (pc2 := 5) (ls2 := [(0, .ref 111), (1, .int (nI u)), (2, .int (nI last))]) (st2 := [.int 1, .int (nI last), .ref 111]) (w3 := w5) rfl rfl ?_
      refine sx_RP.step (pc2 := 6) (ls2 := [(0, .ref 111), (1, .int (nI u)), (2, .int (nI last))]) (st2 := [.int ((nI last) + 1), .ref 111]) (w3 := w5) rfl rfl ?_
      rw [show ((nI last) + 1 : Int32) = nI (last + 1) from nI_add last 1]
      refine sx_RP.step (pc2 := 8) (ls2 := [(0, .ref 111), (1, .int (nI u)), (2, .int (nI last))]) (st2 := [.int 47, .int (nI (last + 1)), .ref 111]) (w3 := w5) rfl rfl ?_
      rcases Bool.eq_false_or_eq_true (nmT n X q (last + 1) 47) with c11 | c11
      · refine sx_RP.callp (as2 := [.ref 111, .int (nI (last + 1)), .int 47]) (rest2 := []) rfl rfl (sx_inv_v2 (mi := 219) (k := 267) (st := [.int 47, .int (nI (last + 1)), .ref 111]) (w := w5) rfl rfl hI6.1.o111 rfl rfl rfl) rfl rfl rfl (y220t (lo := (last + 1)) (hi := 47) hI6 hM8 hpl ep2 ef4 (by omega) (by decide) hP7 c11) (show _ = 11 from rfl) ?_
        rintro r4 w16 ⟨⟨rfl, ep12, ev15, ef14⟩, hI17, hO13⟩
        show sx_RP _ _ _ _ _ [.int 1] _ _
        have hp18 : beT n X q ≤ n := beT_le hpl
        have hp19 : nP n X q ≤ n := rE_le hp18
        have hr20 := nmT_in c11
        have hP21 : rE blk n X (beT n X q) = nP n X q := rfl
        have hM22 := hM8.hs (hO13)
        have hO23 := hO9.tr (HS.om (hO13))
        have hB24 : rowB (ia w16 112) = b := by rw [HS.row (hO13)]; exact hB10
        refine sx_RP.step (pc2 := 16) (ls2 := [(0, .ref 111), (1, .int (nI u)), (2, .int (nI last))]) (st2 := []) (w3 := w16) rfl rfl ?_
        refine sx_RP.step (pc2 := 17) (ls2 := [(0, .ref 111), (1, .int (nI u)), (2, .int (nI last))]) (st2 := [.ref 111]) (w3 := w16) rfl rfl ?_
        refine sx_RP.gf (v := .int (fi w16 111 14)) rfl rfl hI17.1.o111 rfl rfl (show _ = 20 from rfl) ?_
        rw [ev15]
        refine sx_RP.step (pc2 := 21) (ls2 := [(2, .int (nI (vaT n X q))), (0, .ref 111), (1, .int (nI u))]) (st2 := []) (w3 := w16) rfl rfl ?_
        refine sx_RP.step (pc2 := 22) (ls2 := [(2, .int (nI (vaT n X q))), (0, .ref 111), (1, .int (nI u))]) (st2 := [.ref 111]) (w3 := w16) rfl rfl ?_
        refine sx_RP.step (pc2 := 23) (ls2 := [(2, .int (nI (vaT n X q))), (0, .ref 111), (1, .int (nI u))]) (st2 := [.int (nI (vaT n X q)), .ref 111]) (w3 := w16) rfl rfl ?_
        refine sx_RP.step (pc2 := 24) (ls2 := [(2, .int (nI (vaT n X q))), (0, .ref 111), (1, .int (nI u))]) (st2 := [.int (nI u), .int (nI (vaT n X q)), .ref 111]) (w3 := w16) rfl rfl ?_
        refine sx_RP.callp (as2 := [.ref 111, .int (nI (vaT n X q)), .int (nI u)]) (rest2 := []) rfl rfl (sx_inv_v2 (mi := 219) (k := 270) (st := [.int (nI u), .int (nI (vaT n X q)), .ref 111]) (w := w16) rfl rfl hI17.1.o111 rfl rfl rfl) rfl rfl rfl (y224 (c := (vaT n X q)) (u := u) hI17 (by omega) (by omega)) (show _ = 27 from rfl) ?_
        rintro r4 w28 ⟨⟨rfl, hb25⟩, hI29, hs26⟩
        show sx_RP _ _ _ _ _ [] _ _
        have hB27 := hb25.trans hB24
        have ep30 := (fi_same 12 (hs26 111 (by decide))).trans ep12
        have ef31 := (fi_same 13 (hs26 111 (by decide))).trans ef14
        have hM32 := hM22.om (OM.st hs26)
        have hO33 := hO23.tr (OM.st hs26)
        have eR : grL n X b (fz + 1) last q = grL n X b fz ((vaT n X q)) (nP n X q) := by
          conv => lhs; unfold grL
          simp only [grT, c1, c11, if_true, if_false, Bool.false_eq_true, ite_true, ite_false, true_or, or_true, or_false, false_or]
        rw [eR]
        exact sx_RP.ls (sx_lr.cons rfl (sx_lr.cons rfl (sx_lr.cons rfl sx_lr.nil))) (y219L hu fz ((vaT n X q)) (beT n X q) (nP n X q) w28 (by omega) (by omega) hp18 hP21 hI29 hM32 ep30 ef31 hB27 hO33)
      · refine sx_RP.callp (as2 := [.ref 111, .int (nI (last + 1)), .int 47]) (rest2 := []) rfl rfl (sx_inv_v2 (mi := 219) (k := 267) (st := [.int 47, .int (nI (last + 1)), .ref 111]) (w := w5) rfl rfl hI6.1.o111 rfl rfl rfl) rfl rfl rfl (y220f (lo := (last + 1)) (hi := 47) hI6 hM8 hpl ep2 ef4 (by omega) (by decide) hP7 c11) (show _ = 11 from rfl) ?_
        rintro r4 w38 ⟨⟨rfl, ep34⟩, hI39, hO35⟩
        show sx_RP _ _ _ _ _ [.int 0] _ _
        have hO40 := hO9.tr (HS.om hO35)
        refine sx_RP.step (pc2 := 14) (ls2 := [(0, .ref 111), (1, .int (nI u)), (2, .int (nI last))]) (st2 := []) (w3 := w38) rfl rfl ?_
        refine sx_RP.step (pc2 := 15) (ls2 := [(0, .ref 111), (1, .int (nI u)), (2, .int (nI last))]) (st2 := [.int 0]) (w3 := w38) rfl rfl ?_
        refine sx_RP.ret (r := (some (.int 0))) rfl rfl ?_
        have eR : grL n X b (fz + 1) last q = (false, q, b) := by
          conv => lhs; unfold grL
          simp only [grT, c1, c11, if_true, if_false, Bool.false_eq_true, ite_true, ite_false, true_or, or_true, or_false, false_or]
        rw [eR]
        exact ⟨⟨rfl, RdM.f ep34⟩, hI39, hO40⟩
    · refine sx_RP.callp (as2 := [.ref 111]) (rest2 := []) rfl rfl (sx_inv_v2 (mi := 219) (k := 273) (st := [.ref 111]) (w := w) rfl rfl hI.1.o111 rfl rfl rfl) rfl rfl rfl (y225f hI hM hp ep ef hP c1) (show _ = 31 from rfl) ?_
      rintro r4 w44 ⟨⟨rfl, ep41⟩, hI45, hO42⟩
      show sx_RP _ _ _ _ _ [.int 0] _ _
      have ef43 := (hO42.2 13 (by decide)).trans ef
      have hP46 : rE blk n X q = q := by rw [← hP]; exact rE_rE
      have hM47 := hM.hs (hO42.hs)
      have hO48 := hO.tr (HS.om (hO42.hs))
      have hB49 : rowB (ia w44 112) = b := by rw [HS.row (hO42.hs)]; exact hB
      refine sx_RP.step (pc2 := 34) (ls2 := [(0, .ref 111), (1, .int (nI u)), (2, .int (nI last))]) (st2 := []) (w3 := w44) rfl rfl ?_
      refine sx_RP.step (pc2 := 35) (ls2 := [(0, .ref 111), (1, .int (nI u)), (2, .int (nI last))]) (st2 := [.ref 111]) (w3 := w44) rfl rfl ?_
      refine sx_RP.step (pc2 := 38) (ls2 := [(0, .ref 111), (1, .int (nI u)), (2, .int (nI last))]) (st2 := [.float 116, .ref 111]) (w3 := w44) rfl rfl ?_
      rcases Bool.eq_false_or_eq_true (wdT n X q (116 : UInt32)) with c50 | c50
      · refine sx_RP.callp (as2 := [.ref 111, .float 116]) (rest2 := []) rfl rfl (sx_inv_v2 (mi := 219) (k := 243) (st := [.float 116, .ref 111]) (w := w44) rfl rfl hI45.1.o111 rfl rfl rfl) rfl rfl rfl (y213t (k := (116 : UInt32)) (m := 2) hI45 hM47 hpl ep41 ef43 (by decide) rfl (by decide) (by decide) hP46 c50) (show _ = 41 from rfl) ?_
        rintro r4 w54 ⟨⟨rfl, ep51⟩, hI55, hO52⟩
        show sx_RP _ _ _ _ _ [.int 1] _ _
        have ef53 := (hO52.2 13 (by decide)).trans ef43
        have hp56 : beT n X q ≤ n := beT_le hpl
        have hp57 : nP n X q ≤ n := rE_le hp56
        have hP58 : rE blk n X (beT n X q) = nP n X q := rfl
        have hM59 := hM47.hs (hO52.hs)
        have hO60 := hO48.tr (HS.om (hO52.hs))
        have hB61 : rowB (ia w54 112) = b := by rw [HS.row (hO52.hs)]; exact hB49
        refine sx_RP.step (pc2 := 46) (ls2 := [(0, .ref 111), (1, .int (nI u)), (2, .int (nI last))]) (st2 := []) (w3 := w54) rfl rfl ?_
        refine sx_RP.step (pc2 := 47) (ls2 := [(0, .ref 111), (1, .int (nI u)), (2, .int (nI last))]) (st2 := [.ref 111]) (w3 := w54) rfl rfl ?_
        refine sx_RP.step (pc2 := 48) (ls2 := [(0, .ref 111), (1, .int (nI u)), (2, .int (nI last))]) (st2 := [.int (nI last), .ref 111]) (w3 := w54) rfl rfl ?_
        refine sx_RP.step (pc2 := 49) (ls2 := [(0, .ref 111), (1, .int (nI u)), (2, .int (nI last))]) (st2 := [.int 1, .int (nI last), .ref 111]) (w3 := w54) rfl rfl ?_
        refine sx_RP.step (pc2 := 50) (ls2 := [(0, .ref 111), (1, .int (nI u)), (2, .int (nI last))]) (st2 := [.int ((nI last) + 1), .ref 111]) (w3 := w54) rfl rfl ?_
        rw [show ((nI last) + 1 : Int32) = nI (last + 1) from nI_add last 1]
        refine sx_RP.step (pc2 := 52) (ls2 := [(0, .ref 111), (1, .int (nI u)), (2, .int (nI last))]) (st2 := [.int 47, .int (nI (last + 1)), .ref 111]) (w3 := w54) rfl rfl ?_
        rcases Bool.eq_false_or_eq_true (nmT n X (nP n X q) (last + 1) 47) with c62 | c62
        · refine sx_RP.callp (as2 := [.ref 111, .int (nI (last + 1)), .int 47]) (rest2 := []) rfl rfl (sx_inv_v2 (mi := 219) (k := 267) (st := [.int 47, .int (nI (last + 1)), .ref 111]) (w := w54) rfl rfl hI55.1.o111 rfl rfl rfl) rfl rfl rfl (y220t (lo := (last + 1)) (hi := 47) hI55 hM59 hp56 ep51 ef53 (by omega) (by decide) hP58 c62) (show _ = 55 from rfl) ?_
          rintro r4 w67 ⟨⟨rfl, ep63, ev66, ef65⟩, hI68, hO64⟩
          show sx_RP _ _ _ _ _ [.int 1] _ _
          have hp69 : beT n X (nP n X q) ≤ n := beT_le hp57
          have hp70 : nP n X (nP n X q) ≤ n := rE_le hp69
          have hr71 := nmT_in c62
          have hP72 : rE blk n X (beT n X (nP n X q)) = nP n X (nP n X q) := rfl
          have hM73 := hM59.hs (hO64)
          have hO74 := hO60.tr (HS.om (hO64))
          have hB75 : rowB (ia w67 112) = b := by rw [HS.row (hO64)]; exact hB61
          refine sx_RP.step (pc2 := 60) (ls2 := [(0, .ref 111), (1, .int (nI u)), (2, .int (nI last))]) (st2 := []) (w3 := w67) rfl rfl ?_
          refine sx_RP.step (pc2 := 61) (ls2 := [(0, .ref 111), (1, .int (nI u)), (2, .int (nI last))]) (st2 := [.int (nI last)]) (w3 := w67) rfl rfl ?_
          refine sx_RP.step (pc2 := 62) (ls2 := [(3, .int (nI last)), (0, .ref 111), (1, .int (nI u)), (2, .int (nI last))]) (st2 := []) (w3 := w67) rfl rfl ?_
          have eR : grL n X b (fz + 1) last q = (true, nP n X (nP n X q), b) := by
            conv => lhs; unfold grL
            simp only [grT, c1, c50, c62, if_true, if_false, Bool.false_eq_true, ite_true, ite_false, true_or, or_true, or_false, false_or]
          rw [eR]
          exact sx_RP.ls (sx_lr.cons rfl (sx_lr.cons rfl (sx_lr.cons rfl (sx_lr.cons rfl sx_lr.nil)))) (y219I hu (by omega) hp69 hP72 48 last w67 (by omega) (by omega) hI68 hM73 ep63 ef65 ev66 hB75 hO74)
        · refine sx_RP.callp (as2 := [.ref 111, .int (nI (last + 1)), .int 47]) (rest2 := []) rfl rfl (sx_inv_v2 (mi := 219) (k := 267) (st := [.int 47, .int (nI (last + 1)), .ref 111]) (w := w54) rfl rfl hI55.1.o111 rfl rfl rfl) rfl rfl rfl (y220f (lo := (last + 1)) (hi := 47) hI55 hM59 hp56 ep51 ef53 (by omega) (by decide) hP58 c62) (show _ = 55 from rfl) ?_
          rintro r4 w80 ⟨⟨rfl, ep76⟩, hI81, hO77⟩
          show sx_RP _ _ _ _ _ [.int 0] _ _
          have hO82 := hO60.tr (HS.om hO77)
          refine sx_RP.step (pc2 := 58) (ls2 := [(0, .ref 111), (1, .int (nI u)), (2, .int (nI last))]) (st2 := []) (w3 := w80) rfl rfl ?_
          refine sx_RP.step (pc2 := 59) (ls2 := [(0, .ref 111), (1, .int (nI u)), (2, .int (nI last))]) (st2 := [.int 0]) (w3 := w80) rfl rfl ?_
          refine sx_RP.ret (r := (some (.int 0))) rfl rfl ?_
          have eR : grL n X b (fz + 1) last q = (false, nP n X q, b) := by
            conv => lhs; unfold grL
            simp only [grT, c1, c50, c62, if_true, if_false, Bool.false_eq_true, ite_true, ite_false, true_or, or_true, or_false, false_or]
          rw [eR]
          exact ⟨⟨rfl, RdM.f ep76⟩, hI81, hO82⟩
      · refine sx_RP.callp (as2 := [.ref 111, .float 116]) (rest2 := []) rfl rfl (sx_inv_v2 (mi := 219) (k := 243) (st := [.float 116, .ref 111]) (w := w44) rfl rfl hI45.1.o111 rfl rfl rfl) rfl rfl rfl (y213f (k := (116 : UInt32)) (m := 2) hI45 hM47 hpl ep41 ef43 (by decide) rfl (by decide) (by decide) hP46 c50) (show _ = 41 from rfl) ?_
        rintro r4 w86 ⟨⟨rfl, ep83⟩, hI87, hO84⟩
        show sx_RP _ _ _ _ _ [.int 0] _ _
        have ef85 := (hO84.2 13 (by decide)).trans ef43
        have hP88 : rE blk n X q = q := by rw [← hP46]; exact rE_rE
        have hM89 := hM47.hs (hO84.hs)
        have hO90 := hO48.tr (HS.om (hO84.hs))
        have hB91 : rowB (ia w86 112) = b := by rw [HS.row (hO84.hs)]; exact hB49
        refine sx_RP.step (pc2 := 44) (ls2 := [(0, .ref 111), (1, .int (nI u)), (2, .int (nI last))]) (st2 := []) (w3 := w86) rfl rfl ?_
        refine sx_RP.step (pc2 := 45) (ls2 := [(0, .ref 111), (1, .int (nI u)), (2, .int (nI last))]) (st2 := [.int 1]) (w3 := w86) rfl rfl ?_
        refine sx_RP.ret (r := (some (.int 1))) rfl rfl ?_
        have eR : grL n X b (fz + 1) last q = (true, q, b) := by
          conv => lhs; unfold grL
          simp only [grT, c1, c50, if_true, if_false, Bool.false_eq_true, ite_true, ite_false, true_or, or_true, or_false, false_or]
        rw [eR]
        exact ⟨⟨rfl, RdM.t ef85 hB91 hpl ep83 hP88⟩, hI87, hO90⟩
def groS (n : Nat) (X : Nat → Nat) (p : Nat) (b : BB) : Bool × Nat × BB := if nmT n X p 0 47 = true then grL n X b 48 (vaT n X p) (nP n X p) else (false, p, b)
set_option maxRecDepth 20000 in
set_option maxHeartbeats 4000000 in
theorem y219 {xs : Option (List Int32)} {d : Nat} {w : List sx_C} (hI : WI w) {n h q : Nat} {X : Nat → Nat} {b : BB} (hM : MT n X w) (hp : h ≤ n) (ep : fi w 111 12 = nI h) (ef : fi w 111 13 = -1) (hP : rE blk n X h = q) (hB : rowB (ia w 112) = b) {u : Nat} (hu : u ≤ 4) : sx_RP xs (d + 6) 219 0 (lv_args 0 [.ref 111, .int (nI u)]) [] w (fun r w2 => (r = some (.int (b01 (groS n X q b).1)) ∧ RdM n X (groS n X q b) w2) ∧ WI w2 ∧ OM w w2) := by
  have hn := hM.2.1
  have hpl : q ≤ n := by rw [← hP]; exact rE_le hp
  refine sx_RP.step (pc2 := 1) (ls2 := [(0, .ref 111), (1, .int (nI u))]) (st2 := [.int (-1)]) (w3 := w) rfl rfl ?_
  refine sx_RP.step (pc2 := 2) (ls2 := [(2, .int (-1)), (0, .ref 111), (1, .int (nI u))]) (st2 := []) (w3 := w) rfl rfl ?_
  refine sx_RP.step (pc2 := 3) (ls2 := [(2, .int (-1)), (0, .ref 111), (1, .int (nI u))]) (st2 := [.ref 111]) (w3 := w) rfl rfl ?_
  refine sx_RP.step (pc2 := 4) (ls2 := [(2, .int (-1)), (0, .ref 111), (1, .int (nI u))]) (st2 := [.int (-1), .ref 111]) (w3 := w) rfl rfl ?_
  refine sx_RP.step (pc2 := 5) (ls2 := [(2, .int (-1)), (0, .ref 111), (1, .int (nI u))]) (st2 := [.int 1, .int (-1), .ref 111]) (w3 := w) rfl rfl ?_
  refine sx_RP.step (pc2 := 6) (ls2 := [(2, .int (-1)), (0, .ref 111), (1, .int (nI u))]) (st2 := [.int 0, .ref 111]) (w3 := w) rfl rfl ?_
  refine sx_RP.step (pc2 := 8) (ls2 := [(2, .int (-1)), (0, .ref 111), (1, .int (nI u))]) (st2 := [.int 47, .int 0, .ref 111]) (w3 := w) rfl rfl ?_
  rcases Bool.eq_false_or_eq_true (nmT n X q 0 47) with c1 | c1
  · refine sx_RP.callp (as2 := [.ref 111, .int 0, .int 47]) (rest2 := []) rfl rfl (sx_inv_v2 (mi := 219) (k := 267) (st := [.int 47, .int 0, .ref 111]) (w := w) rfl rfl hI.1.o111 rfl rfl rfl) rfl rfl rfl (y220t (lo := 0) (hi := 47) hI hM hp ep ef (by omega) (by decide) hP c1) (show _ = 11 from rfl) ?_
    rintro r4 w6 ⟨⟨rfl, ep2, ev5, ef4⟩, hI7, hO3⟩
    show sx_RP _ _ _ _ _ [.int 1] _ _
    have hp8 : beT n X q ≤ n := beT_le hpl
    have hp9 : nP n X q ≤ n := rE_le hp8
    have hr10 := nmT_in c1
    have hP11 : rE blk n X (beT n X q) = nP n X q := rfl
    have hM12 := hM.hs (hO3)
    have hO13 := OM.rf.tr (HS.om (hO3))
    have hB14 : rowB (ia w6 112) = b := by rw [HS.row (hO3)]; exact hB
    refine sx_RP.step (pc2 := 16) (ls2 := [(2, .int (-1)), (0, .ref 111), (1, .int (nI u))]) (st2 := []) (w3 := w6) rfl rfl ?_
    refine sx_RP.step (pc2 := 17) (ls2 := [(2, .int (-1)), (0, .ref 111), (1, .int (nI u))]) (st2 := [.ref 111]) (w3 := w6) rfl rfl ?_
    refine sx_RP.gf (v := .int (fi w6 111 14)) rfl rfl hI7.1.o111 rfl rfl (show _ = 20 from rfl) ?_
    rw [ev5]
    refine sx_RP.step (pc2 := 21) (ls2 := [(2, .int (nI (vaT n X q))), (0, .ref 111), (1, .int (nI u))]) (st2 := []) (w3 := w6) rfl rfl ?_
    refine sx_RP.step (pc2 := 22) (ls2 := [(2, .int (nI (vaT n X q))), (0, .ref 111), (1, .int (nI u))]) (st2 := [.ref 111]) (w3 := w6) rfl rfl ?_
    refine sx_RP.step (pc2 := 23) (ls2 := [(2, .int (nI (vaT n X q))), (0, .ref 111), (1, .int (nI u))]) (st2 := [.int (nI (vaT n X q)), .ref 111]) (w3 := w6) rfl rfl ?_
    refine sx_RP.step (pc2 := 24) (ls2 := [(2, .int (nI (vaT n X q))), (0, .ref 111), (1, .int (nI u))]) (st2 := [.int (nI u), .int (nI (vaT n X q)), .ref 111]) (w3 := w6) rfl rfl ?_
    refine sx_RP.callp (as2 := [.ref 111, .int (nI (vaT n X q)), .int (nI u)]) (rest2 := []) rfl rfl (sx_inv_v2 (mi := 219) (k := 270) (st := [.int (nI u), .int (nI (vaT n X q)), .ref 111]) (w := w6) rfl rfl hI7.1.o111 rfl rfl rfl) rfl rfl rfl (y224 (c := (vaT n X q)) (u := u) hI7 (by omega) (by omega)) (show _ = 27 from rfl) ?_
    rintro r4 w18 ⟨⟨rfl, hb15⟩, hI19, hs16⟩
    show sx_RP _ _ _ _ _ [] _ _
    have hB17 := hb15.trans hB14
    have ep20 := (fi_same 12 (hs16 111 (by decide))).trans ep2
    have ef21 := (fi_same 13 (hs16 111 (by decide))).trans ef4
    have hM22 := hM12.om (OM.st hs16)
    have hO23 := hO13.tr (OM.st hs16)
    have eR : groS n X q b = grL n X b 48 ((vaT n X q)) (nP n X q) := by simp only [groS, c1, if_true, if_false, Bool.false_eq_true, ite_true, ite_false, true_or, or_true, or_false, false_or]
    rw [eR]
    exact sx_RP.ls (sx_lr.cons rfl (sx_lr.cons rfl (sx_lr.cons rfl sx_lr.nil))) (y219L hu 48 ((vaT n X q)) (beT n X q) (nP n X q) w18 (by omega) (by omega) hp8 hP11 hI19 hM22 ep20 ef21 hB17 hO23)
  · refine sx_RP.callp (as2 := [.ref 111, .int 0, .int 47]) (rest2 := []) rfl rfl (sx_inv_v2 (mi := 219) (k := 267) (st := [.int 47, .int 0, .ref 111]) (w := w) rfl rfl hI.1.o111 rfl rfl rfl) rfl rfl rfl (y220f (lo := 0) (hi := 47) hI hM hp ep ef (by omega) (by decide) hP c1) (show _ = 11 from rfl) ?_
    rintro r4 w28 ⟨⟨rfl, ep24⟩, hI29, hO25⟩
    show sx_RP _ _ _ _ _ [.int 0] _ _
    have hO30 := OM.rf.tr (HS.om hO25)
    refine sx_RP.step (pc2 := 14) (ls2 := [(2, .int (-1)), (0, .ref 111), (1, .int (nI u))]) (st2 := []) (w3 := w28) rfl rfl ?_
    refine sx_RP.step (pc2 := 15) (ls2 := [(2, .int (-1)), (0, .ref 111), (1, .int (nI u))]) (st2 := [.int 0]) (w3 := w28) rfl rfl ?_
    refine sx_RP.ret (r := (some (.int 0))) rfl rfl ?_
    have eR : groS n X q b = (false, q, b) := by simp only [groS, c1, if_true, if_false, Bool.false_eq_true, ite_true, ite_false, true_or, or_true, or_false, false_or]
    rw [eR]
    exact ⟨⟨rfl, RdM.f ep24⟩, hI29, hO30⟩
end
