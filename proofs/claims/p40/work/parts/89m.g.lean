-- 89m.siege.lean.txt
section
def sieX (t : BT) (i : Nat) : Nat := iN (t.2.2.2.getD i 0)
def TBy (w : List sx_C) : Prop := ∀ i, ∃ j, j < 256 ∧ (ia w 97).getD i 0 = sgn j
theorem sgn_and : ∀ c : Fin 256, sgn c.val &&& 255 = nI c.val := by decide +kernel
theorem TBy.same {w w2 : List sx_C} (h : TBy w) (e : w2[97]? = w[97]?) : TBy w2 := by
  unfold TBy
  rw [ia_of e]
  exact h
theorem CT_of {w : List sx_C} (hI : WI w) (hY : TBy w) : CT (FCb w).2.2.2.length (sieX (FCb w)) w := by
  obtain ⟨n, hn, en⟩ := hI.t.1
  have el := tapC_len en hn
  rw [el]
  refine ⟨en, hn, fun i hi => ?_⟩
  obtain ⟨j, hj, e⟩ := hY i
  have ex : sieX (FCb w) i = j := by
    show iN ((tapC w).getD i 0) = j
    unfold tapC
    rw [map_at (by rw [en, iN_n (by omega)]; exact hi), e, sgn_and ⟨j, hj⟩, iN_n (by show j < 2 ^ 31; omega)]
  rw [ex]
  exact ⟨e, hj⟩
end
-- 89n.siege.lean.txt
section
def MT (n : Nat) (X : Nat → Nat) (w : List sx_C) : Prop := fi w 111 11 = nI n ∧ n ≤ 120 ∧ ∀ i, i < n → (ia w 121).getD i 0 = nI (X i) ∧ X i < 256
def HS (w w2 : List sx_C) : Prop := (∀ a, a ≠ 111 → w2[a]? = w[a]?) ∧ ∀ j, j < 12 → fi w2 111 j = fi w 111 j
theorem HS.rf {w : List sx_C} : HS w w := ⟨fun _ _ => rfl, fun _ _ => rfl⟩
theorem HS.tr {w w1 w2 : List sx_C} (h : HS w w1) (h2 : HS w1 w2) : HS w w2 := ⟨fun a ha => (h2.1 a ha).trans (h.1 a ha), fun j hj => (h2.2 j hj).trans (h.2 j hj)⟩
theorem MT.hs {n : Nat} {X : Nat → Nat} {w w2 : List sx_C} (h : MT n X w) (e : HS w w2) : MT n X w2 := ⟨(e.2 11 (by decide)).trans h.1, h.2.1, fun i hi => by rw [ia_of (e.1 121 (by decide))]; exact h.2.2 i hi⟩
def bA (n : Nat) (X : Nat → Nat) (i : Nat) : Int32 := if i < n then nI (X i) else -1
theorem bA_blk {n i : Nat} {X : Nat → Nat} (hX : i < n → X i < 256) : bA n X i = 32 ↔ (i < n ∧ blk (X i) = true) := by
  unfold bA
  split
  · rename_i h
    unfold blk
    rw [show (32 : Int32) = nI 32 from rfl, nI_eq (by have := hX h; omega) (by decide), beq_iff_eq]
    exact ⟨fun z => ⟨h, z⟩, fun z => z.2⟩
  · rename_i h
    exact ⟨fun z => absurd z (by decide), fun z => absurd z.1 h⟩
theorem bA_in {n i lo hi : Nat} {X : Nat → Nat} (hh : hi < 256) (hX : i < n → X i < 256) : (nI lo ≤ bA n X i ∧ bA n X i ≤ nI hi) ↔ (lo ≤ hi ∧ i < n ∧ lo ≤ X i ∧ X i ≤ hi) ∨ (hi < lo ∧ nI lo ≤ bA n X i ∧ bA n X i ≤ nI hi) := by
  by_cases e : lo ≤ hi
  · unfold bA
    split
    · rename_i h
      have := hX h
      rw [nI_leI (by omega) (by omega), nI_leI (by omega) (by omega)]
      omega
    · rename_i h
      refine ⟨fun z => absurd z.1 (Int32.not_le.mpr ?_), fun z => by omega⟩
      rw [Int32.lt_iff_toInt_lt, nI_toInt (by omega), show (-1 : Int32).toInt = -1 by decide]
      omega
  · exact ⟨fun z => Or.inr ⟨by omega, z⟩, fun z => by
      rcases z with z | z
      · omega
      · exact z.2⟩
theorem bA_lett {n i : Nat} {X : Nat → Nat} (hX : i < n → X i < 256) : ((97 : Int32) ≤ bA n X i ∧ bA n X i ≤ 122) ↔ (i < n ∧ lett (X i) = true) := by
  rw [show (97 : Int32) = nI 97 from rfl, show (122 : Int32) = nI 122 from rfl, bA_in (by decide) hX]
  unfold lett
  rw [Bool.and_eq_true, Nat.ble_eq, Nat.ble_eq]
  omega
theorem bA_digi {n i : Nat} {X : Nat → Nat} (hX : i < n → X i < 256) : ((48 : Int32) ≤ bA n X i ∧ bA n X i ≤ 57) ↔ (i < n ∧ digi (X i) = true) := by
  rw [show (48 : Int32) = nI 48 from rfl, show (57 : Int32) = nI 57 from rfl, bA_in (by decide) hX]
  unfold digi
  rw [Bool.and_eq_true, Nat.ble_eq, Nat.ble_eq]
  omega
theorem MT.x {n i : Nat} {X : Nat → Nat} {w : List sx_C} (h : MT n X w) (hi : i < n) : X i < 256 := (h.2.2 i hi).2
def H12 (w w2 : List sx_C) : Prop := (∀ a, a ≠ 111 → w2[a]? = w[a]?) ∧ ∀ j, j ≠ 12 → fi w2 111 j = fi w 111 j
theorem H12.rf {w : List sx_C} : H12 w w := ⟨fun _ _ => rfl, fun _ _ => rfl⟩
theorem H12.tr {w w1 w2 : List sx_C} (h : H12 w w1) (h2 : H12 w1 w2) : H12 w w2 := ⟨fun a ha => (h2.1 a ha).trans (h.1 a ha), fun j hj => (h2.2 j hj).trans (h.2 j hj)⟩
theorem H12.hs {w w2 : List sx_C} (h : H12 w w2) : HS w w2 := ⟨h.1, fun j hj => h.2 j (by omega)⟩
set_option maxRecDepth 20000 in
set_option maxHeartbeats 4000000 in
theorem y216 {xs : Option (List Int32)} {d : Nat} {w : List sx_C} (hI : WI w) {n i : Nat} {X : Nat → Nat} (hM : MT n X w) (hi : i < 2 ^ 31) : sx_RU xs d 216 0 (lv_args 0 [.ref 111, .int (nI i)]) [] w (some (.int (bA n X i))) w := by
  have hn := hM.2.1
  have h : sx_RP xs d 216 0 (lv_args 0 [.ref 111, .int (nI i)]) [] w (fun r9 w2 => r9 = some (.int (bA n X i)) ∧ w2 = w) := by
    refine sx_RP.step (pc2 := 1) (ls2 := [(0, .ref 111), (1, .int (nI i))]) (st2 := [.int (nI i)]) (w3 := w) rfl rfl ?_
    refine sx_RP.step (pc2 := 2) (ls2 := [(0, .ref 111), (1, .int (nI i))]) (st2 := [.ref 111, .int (nI i)]) (w3 := w) rfl rfl ?_
    refine sx_RP.gf (v := .int (fi w 111 11)) rfl rfl hI.1.o111 rfl rfl (show _ = 5 from rfl) ?_
    rw [hM.1]
    refine sx_RP.br (p1 := 17) (l1 := [(0, .ref 111), (1, .int (nI i))]) (s1 := []) (v1 := w) (p2 := 8) (l2 := [(0, .ref 111), (1, .int (nI i))]) (s2 := []) (v2 := w) rfl rfl (fun q1 => ?_) (fun q1 => ?_)
    · replace q1 := of_decide_eq_true q1
      replace q1 := (nI_leI (a := n) (b := i) (by omega) (by omega)).mp q1
      refine sx_RP.step (pc2 := 18) (ls2 := [(0, .ref 111), (1, .int (nI i))]) (st2 := [.int (-1)]) (w3 := w) rfl rfl ?_
      refine sx_RP.ret (r := (some (.int (-1)))) rfl rfl ?_
      exact ⟨by unfold bA; rw [if_neg (by omega)], rfl⟩
    · replace q1 := of_decide_eq_false q1
      replace q1 := mt (nI_leI (a := n) (b := i) (by omega) (by omega)).mpr q1
      refine sx_RP.step (pc2 := 9) (ls2 := [(0, .ref 111), (1, .int (nI i))]) (st2 := [.ref 111]) (w3 := w) rfl rfl ?_
      refine sx_RP.gf (v := .ref 121) rfl rfl hI.1.o111 rfl rfl (show _ = 12 from rfl) ?_
      refine sx_RP.step (pc2 := 13) (ls2 := [(0, .ref 111), (1, .int (nI i))]) (st2 := [.int (nI i), .ref 121]) (w3 := w) rfl rfl ?_
      refine sx_RP.ild (c := i) rfl hI.1.a121.1 hI.1.a121.2 (sx_in_nI (show i < 120 by omega) (by decide)) (nI_clamp (by omega)) (show _ = 14 from rfl) ?_
      rw [(hM.2.2 (i) (by omega)).1]
      refine sx_RP.step (pc2 := 18) (ls2 := [(0, .ref 111), (1, .int (nI i))]) (st2 := [.int (nI (X (i)))]) (w3 := w) rfl rfl ?_
      refine sx_RP.ret (r := (some (.int (nI (X (i)))))) rfl rfl ?_
      exact ⟨by unfold bA; rw [if_pos (by omega)], rfl⟩
  obtain ⟨r9, w2, h1, rfl, rfl⟩ := h
  exact h1
set_option maxRecDepth 20000 in
set_option maxHeartbeats 4000000 in
theorem y215B {xs : Option (List Int32)} {d n p : Nat} {X : Nat → Nat} {w w0 : List sx_C} (hI : WI w) (hM : MT n X w) (hp : p ≤ n) (ep : fi w 111 12 = nI p) (hO : H12 w0 w) (kk : ∀ w2, WI w2 → MT n X w2 → fi w2 111 12 = nI (p + 1) → H12 w0 w2 → p < n → sx_RP xs (d + 1) 215 0 [(0, .ref 111)] [] w2 (fun r w2 => (r = none ∧ fi w2 111 12 = nI (rE blk n X (p + 1))) ∧ WI w2 ∧ H12 w0 w2)) : sx_RP xs (d + 1) 215 0 [(0, .ref 111)] [] w (fun r w2 => (r = none ∧ fi w2 111 12 = nI (rE blk n X p)) ∧ WI w2 ∧ H12 w0 w2) := by
  have hn := hM.2.1
  refine sx_RP.step (pc2 := 1) (ls2 := [(0, .ref 111)]) (st2 := [.ref 111]) (w3 := w) rfl rfl ?_
  refine sx_RP.step (pc2 := 2) (ls2 := [(0, .ref 111)]) (st2 := [.ref 111, .ref 111]) (w3 := w) rfl rfl ?_
  refine sx_RP.gf (v := .int (fi w 111 12)) rfl rfl hI.1.o111 rfl rfl (show _ = 5 from rfl) ?_
  rw [ep]
  refine sx_RP.cu (as := [.ref 111, .int (nI p)]) (rest2 := []) (st3 := [.int (bA n X p)]) rfl rfl (sx_inv_v2 (mi := 215) (k := 215) (st := [.int (nI p), .ref 111]) (w := w) rfl rfl hI.1.o111 rfl rfl rfl) rfl rfl (y216 hI hM (by omega)) rfl ?_
  refine sx_RP.step (pc2 := 10) (ls2 := [(0, .ref 111)]) (st2 := [.int 32, .int (bA n X p)]) (w3 := w) rfl rfl ?_
  refine sx_RP.br (p1 := 26) (l1 := [(0, .ref 111)]) (s1 := []) (v1 := w) (p2 := 13) (l2 := [(0, .ref 111)]) (s2 := []) (v2 := w) rfl rfl (fun q1 => ?_) (fun q1 => ?_)
  · replace q1 := of_decide_eq_true q1
    refine sx_RP.ret (r := none) rfl rfl ?_
    exact ⟨⟨rfl, by rw [ep, rE_n (fun z => q1 ((bA_blk (fun z => hM.x z)).mpr z))]⟩, hI, hO⟩
  · replace q1 := Decidable.not_not.mp (of_decide_eq_false q1)
    refine sx_RP.step (pc2 := 14) (ls2 := [(0, .ref 111)]) (st2 := [.ref 111]) (w3 := w) rfl rfl ?_
    refine sx_RP.step (pc2 := 15) (ls2 := [(0, .ref 111)]) (st2 := [.ref 111, .ref 111]) (w3 := w) rfl rfl ?_
    refine sx_RP.gf (v := .int (fi w 111 12)) rfl rfl hI.1.o111 rfl rfl (show _ = 18 from rfl) ?_
    rw [ep]
    refine sx_RP.step (pc2 := 19) (ls2 := [(0, .ref 111)]) (st2 := [.int 1, .int (nI p), .ref 111]) (w3 := w) rfl rfl ?_
    refine sx_RP.step (pc2 := 20) (ls2 := [(0, .ref 111)]) (st2 := [.int ((nI p) + 1), .ref 111]) (w3 := w) rfl rfl ?_
    rw [show ((nI p) + 1 : Int32) = nI (p + 1) from nI_add p 1]
    have hb := (bA_blk (fun z => hM.x z)).mp q1
    refine sx_RP.pm (k := 12) hI EM.rf rfl rfl (by decide) rfl (inR.n (show (p + 1) ≤ 120 by omega)) (show _ = 23 from rfl) (fun w2 hI3 hE4 hv5 hr6 hs7 => ?_)
    refine sx_RP.step (pc2 := 0) (ls2 := [(0, .ref 111)]) (st2 := []) (w3 := w2) rfl rfl ?_
    have hO2 : H12 w w2 := ⟨hs7, hr6⟩
    rw [rE_y hb.1 hb.2]
    exact sx_RP.ls (sx_lr.cons rfl sx_lr.nil) (kk w2 hI3 (hM.hs hO2.hs) hv5 (hO.tr hO2) hb.1)
theorem y215L {xs : Option (List Int32)} {d n : Nat} {X : Nat → Nat} {w0 : List sx_C} : ∀ (fz p : Nat) (w : List sx_C), n ≤ p + fz → p ≤ n → WI w → MT n X w → fi w 111 12 = nI p → H12 w0 w → sx_RP xs (d + 1) 215 0 [(0, .ref 111)] [] w (fun r w2 => (r = none ∧ fi w2 111 12 = nI (rE blk n X p)) ∧ WI w2 ∧ H12 w0 w2)
  | 0, p, w, h, hp, hI, hM, ep, hO => y215B hI hM hp ep hO (fun _ _ _ _ _ z => absurd z (by omega))
  | fz + 1, p, w, h, hp, hI, hM, ep, hO => y215B hI hM hp ep hO (fun w2 a b c e z => y215L fz (p + 1) w2 (by omega) z a b c e)
theorem y215 {xs : Option (List Int32)} {d n p : Nat} {X : Nat → Nat} {w : List sx_C} (hI : WI w) (hM : MT n X w) (hp : p ≤ n) (ep : fi w 111 12 = nI p) : sx_RP xs (d + 1) 215 0 (lv_args 0 [.ref 111]) [] w (fun r w2 => (r = none ∧ fi w2 111 12 = nI (rE blk n X p)) ∧ WI w2 ∧ H12 w w2) := y215L n p w (by omega) hp hI hM ep H12.rf
set_option maxRecDepth 20000 in
set_option maxHeartbeats 4000000 in
theorem y217B {xs : Option (List Int32)} {d n j : Nat} {X : Nat → Nat} {w : List sx_C} (hI : WI w) (hM : MT n X w) (hj : j ≤ n) (kk : j < n → sx_RP xs (d + 2) 217 5 [(0, .ref 111), (1, .int (nI (j + 1)))] [] w (fun r w2 => r = some (.int (nI (rE lett n X (j + 1)))) ∧ w2 = w)) : sx_RP xs (d + 2) 217 5 [(0, .ref 111), (1, .int (nI j))] [] w (fun r w2 => r = some (.int (nI (rE lett n X j))) ∧ w2 = w) := by
  have hn := hM.2.1
  refine sx_RP.step (pc2 := 6) (ls2 := [(0, .ref 111), (1, .int (nI j))]) (st2 := [.ref 111]) (w3 := w) rfl rfl ?_
  refine sx_RP.step (pc2 := 7) (ls2 := [(0, .ref 111), (1, .int (nI j))]) (st2 := [.int (nI j), .ref 111]) (w3 := w) rfl rfl ?_
  refine sx_RP.cu (as := [.ref 111, .int (nI j)]) (rest2 := []) (st3 := [.int (bA n X j)]) rfl rfl (sx_inv_v2 (mi := 217) (k := 215) (st := [.int (nI j), .ref 111]) (w := w) rfl rfl hI.1.o111 rfl rfl rfl) rfl rfl (y216 hI hM (by omega)) rfl ?_
  rcases Classical.em (j < n ∧ lett (X j) = true) with c1 | c1
  · refine sx_RP.cu (as := [.int (bA n X j)]) (rest2 := []) (st3 := [.int 1]) rfl rfl rfl rfl rfl (cx_218p ((bA_lett (fun z => hM.x z)).mpr c1)) rfl ?_
    refine sx_RP.step (pc2 := 16) (ls2 := [(0, .ref 111), (1, .int (nI j))]) (st2 := []) (w3 := w) rfl rfl ?_
    refine sx_RP.step (pc2 := 19) (ls2 := [(1, .int ((nI j) + 1)), (0, .ref 111)]) (st2 := []) (w3 := w) rfl rfl ?_
    rw [nI_1 j]
    refine sx_RP.step (pc2 := 5) (ls2 := [(1, .int (nI (j + 1))), (0, .ref 111)]) (st2 := []) (w3 := w) rfl rfl ?_
    rw [rE_y c1.1 c1.2]
    exact sx_RP.ls (sx_lr.cons rfl (sx_lr.cons rfl sx_lr.nil)) (kk c1.1)
  · refine sx_RP.cu (as := [.int (bA n X j)]) (rest2 := []) (st3 := [.int 0]) rfl rfl rfl rfl rfl (cx_218n (fun z => c1 ((bA_lett (fun z => hM.x z)).mp z))) rfl ?_
    refine sx_RP.step (pc2 := 22) (ls2 := [(0, .ref 111), (1, .int (nI j))]) (st2 := []) (w3 := w) rfl rfl ?_
    refine sx_RP.step (pc2 := 23) (ls2 := [(0, .ref 111), (1, .int (nI j))]) (st2 := [.int (nI j)]) (w3 := w) rfl rfl ?_
    refine sx_RP.ret (r := (some (.int (nI j)))) rfl rfl ?_
    exact ⟨by rw [rE_n c1], rfl⟩
theorem y217L {xs : Option (List Int32)} {d n : Nat} {X : Nat → Nat} {w : List sx_C} (hI : WI w) (hM : MT n X w) : ∀ (fz j : Nat), n ≤ j + fz → j ≤ n → sx_RP xs (d + 2) 217 5 [(0, .ref 111), (1, .int (nI j))] [] w (fun r w2 => r = some (.int (nI (rE lett n X j))) ∧ w2 = w)
  | 0, j, h, hj => y217B hI hM hj (fun z => absurd z (by omega))
  | fz + 1, j, h, hj => y217B hI hM hj (fun z => y217L hI hM fz (j + 1) (by omega) z)
set_option maxRecDepth 20000 in
set_option maxHeartbeats 4000000 in
theorem y217 {xs : Option (List Int32)} {d : Nat} {w : List sx_C} (hI : WI w) {n p : Nat} {X : Nat → Nat} (hM : MT n X w) (hp : p ≤ n) (ep : fi w 111 12 = nI p) : sx_RU xs (d + 2) 217 0 (lv_args 0 [.ref 111]) [] w (some (.int (nI (rE lett n X p)))) w := by
  have h : sx_RP xs (d + 2) 217 0 (lv_args 0 [.ref 111]) [] w (fun r9 w2 => r9 = some (.int (nI (rE lett n X p))) ∧ w2 = w) := by
    refine sx_RP.step (pc2 := 1) (ls2 := [(0, .ref 111)]) (st2 := [.ref 111]) (w3 := w) rfl rfl ?_
    refine sx_RP.gf (v := .int (fi w 111 12)) rfl rfl hI.1.o111 rfl rfl (show _ = 4 from rfl) ?_
    rw [ep]
    refine sx_RP.step (pc2 := 5) (ls2 := [(1, .int (nI p)), (0, .ref 111)]) (st2 := []) (w3 := w) rfl rfl ?_
    exact sx_RP.ls (sx_lr.cons rfl (sx_lr.cons rfl sx_lr.nil)) (y217L hI hM n p (by omega) hp)
  obtain ⟨r9, w2, h1, rfl, rfl⟩ := h
  exact h1
end
-- 89o.siege.lean.txt
section
theorem bA_y {n i : Nat} {X : Nat → Nat} (h : i < n) : bA n X i = nI (X i) := by unfold bA; rw [if_pos h]
theorem so_lett {n p : Nat} {X : Nat → Nat} (hX : ∀ i, i < n → X i < 256) : soT n X p = 1 ↔ (p < n ∧ lett (X p) = true) := by
  unfold soT
  split
  · rename_i h
    rw [sort_1 ⟨X p, hX p h⟩]
    exact ⟨fun z => ⟨h, z⟩, fun z => z.2⟩
  · rename_i h
    exact ⟨fun z => absurd z (by decide), fun z => absurd z.1 h⟩
theorem wd_end {n p : Nat} {X : Nat → Nat} {k : UInt32} (hX : ∀ i, i < n → X i < 256) (hw : 1 ≤ wl k) : wdT n X p k = (decide (rE lett n X p - p = wl k) && chE X p k (wl k) 0) := by
  unfold wdT
  by_cases h : soT n X p = 1
  · obtain ⟨h1, h2⟩ := (so_lett hX).mp h
    have hb : beT n X p = rE lett n X p := by
      unfold beT
      rw [if_pos h1, if_pos ((sort_1 ⟨X p, hX p h1⟩).mpr h2), rE_y h1 h2]
    rw [decide_eq_true h, Bool.true_and, hb]
  · rw [decide_eq_false h, Bool.false_and, rE_n (fun z => h ((so_lett hX).mpr z)), decide_eq_false (by omega), Bool.false_and]
set_option maxRecDepth 20000 in
set_option maxHeartbeats 4000000 in
theorem y214z {xs : Option (List Int32)} {d j : Nat} {w : List sx_C} (hI : WI w) {k : UInt32} {m : Nat} (hk : 100 ≤ k.toNat ∧ k.toNat < 120) (en : sx_sn.getD (k.toNat - 100) 0 = m) (hm : m ≤ 7) (hj : j ≤ 7) : sx_RP xs (d + 3) 214 28 [(0, .ref 111), (1, .float k), (2, .int 0), (3, .int (nI j))] [] w (fun r2 w2 => r2 = some (.int 0) ∧ w2 = w) := by
  refine sx_RP.step (pc2 := 29) (ls2 := [(0, .ref 111), (1, .float k), (2, .int 0), (3, .int (nI j))]) (st2 := [.int (nI j)]) (w3 := w) rfl rfl ?_
  refine sx_RP.step (pc2 := 30) (ls2 := [(0, .ref 111), (1, .float k), (2, .int 0), (3, .int (nI j))]) (st2 := [.float k, .int (nI j)]) (w3 := w) rfl rfl ?_
  refine sx_RP.slen (n := m) hk en rfl rfl rfl (show _ = 33 from rfl) ?_
  refine sx_RP.br (p1 := 70) (l1 := [(0, .ref 111), (1, .float k), (2, .int 0), (3, .int (nI j))]) (s1 := []) (v1 := w) (p2 := 36) (l2 := [(0, .ref 111), (1, .float k), (2, .int 0), (3, .int (nI j))]) (s2 := []) (v2 := w) rfl rfl (fun q1 => ?_) (fun q1 => ?_)
  · replace q1 := of_decide_eq_true q1
    replace q1 := (nI_leI (a := m) (b := j) (by omega) (by omega)).mp q1
    refine sx_RP.step (pc2 := 71) (ls2 := [(0, .ref 111), (1, .float k), (2, .int 0), (3, .int (nI j))]) (st2 := [.int 0]) (w3 := w) rfl rfl ?_
    refine sx_RP.ret (r := (some (.int 0))) rfl rfl ?_
    exact ⟨rfl, rfl⟩
  · replace q1 := of_decide_eq_false q1
    replace q1 := mt (nI_leI (a := m) (b := j) (by omega) (by omega)).mpr q1
    refine sx_RP.step (pc2 := 37) (ls2 := [(0, .ref 111), (1, .float k), (2, .int 0), (3, .int (nI j))]) (st2 := [.int 0]) (w3 := w) rfl rfl ?_
    refine sx_RP.step (pc2 := 70) (ls2 := [(0, .ref 111), (1, .float k), (2, .int 0), (3, .int (nI j))]) (st2 := []) (w3 := w) rfl rfl ?_
    refine sx_RP.step (pc2 := 71) (ls2 := [(0, .ref 111), (1, .float k), (2, .int 0), (3, .int (nI j))]) (st2 := [.int 0]) (w3 := w) rfl rfl ?_
    refine sx_RP.ret (r := (some (.int 0))) rfl rfl ?_
    exact ⟨rfl, rfl⟩
set_option maxRecDepth 20000 in
set_option maxHeartbeats 4000000 in
theorem y214L {xs : Option (List Int32)} {d n p : Nat} {X : Nat → Nat} {w : List sx_C} (hI : WI w) (hM : MT n X w) {k : UInt32} {m : Nat} (hk : 100 ≤ k.toNat ∧ k.toNat < 120) (en : sx_sn.getD (k.toNat - 100) 0 = m) (hm : m ≤ 7) (ep : fi w 111 12 = nI p) (hl : ∀ j, j < m → p + j < n) : ∀ (fz j : Nat), j + fz = m → sx_RP xs (d + 3) 214 28 [(0, .ref 111), (1, .float k), (2, .int 1), (3, .int (nI j))] [] w (fun r2 w2 => r2 = some (.int (b01 (chE X p k fz j))) ∧ w2 = w)
  | 0, j, hj => by
    obtain rfl : j = m := by omega
    refine sx_RP.step (pc2 := 29) (ls2 := [(0, .ref 111), (1, .float k), (2, .int 1), (3, .int (nI j))]) (st2 := [.int (nI j)]) (w3 := w) rfl rfl ?_
    refine sx_RP.step (pc2 := 30) (ls2 := [(0, .ref 111), (1, .float k), (2, .int 1), (3, .int (nI j))]) (st2 := [.float k, .int (nI j)]) (w3 := w) rfl rfl ?_
    refine sx_RP.slen (n := j) hk en rfl rfl rfl (show _ = 33 from rfl) ?_
    refine sx_RP.br (p1 := 70) (l1 := [(0, .ref 111), (1, .float k), (2, .int 1), (3, .int (nI j))]) (s1 := []) (v1 := w) rfl rfl (fun _ => ?_) (fun q => absurd (nI_le (a := j) (b := j) (by omega) (by omega)) (of_decide_eq_false q))
    refine sx_RP.step (pc2 := 71) (ls2 := [(0, .ref 111), (1, .float k), (2, .int 1), (3, .int (nI j))]) (st2 := [.int 1]) (w3 := w) rfl rfl ?_
    refine sx_RP.ret (r := (some (.int 1))) rfl rfl ?_
    exact ⟨rfl, rfl⟩
  | fz + 1, j, hj => by
    have hn := hM.2.1
    have hpj := hl j (by omega)
    refine sx_RP.step (pc2 := 29) (ls2 := [(0, .ref 111), (1, .float k), (2, .int 1), (3, .int (nI j))]) (st2 := [.int (nI j)]) (w3 := w) rfl rfl ?_
    refine sx_RP.step (pc2 := 30) (ls2 := [(0, .ref 111), (1, .float k), (2, .int 1), (3, .int (nI j))]) (st2 := [.float k, .int (nI j)]) (w3 := w) rfl rfl ?_
    refine sx_RP.slen (n := m) hk en rfl rfl rfl (show _ = 33 from rfl) ?_
    refine sx_RP.br (p2 := 36) (l2 := [(0, .ref 111), (1, .float k), (2, .int 1), (3, .int (nI j))]) (s2 := []) (v2 := w) rfl rfl (fun q => absurd (of_decide_eq_true q) (fun z => absurd ((nI_leI (a := m) (b := j) (by omega) (by omega)).mp z) (by omega))) (fun _ => ?_)
    refine sx_RP.step (pc2 := 37) (ls2 := [(0, .ref 111), (1, .float k), (2, .int 1), (3, .int (nI j))]) (st2 := [.int 1]) (w3 := w) rfl rfl ?_
    refine sx_RP.step (pc2 := 40) (ls2 := [(0, .ref 111), (1, .float k), (2, .int 1), (3, .int (nI j))]) (st2 := []) (w3 := w) rfl rfl ?_
    refine sx_RP.step (pc2 := 41) (ls2 := [(0, .ref 111), (1, .float k), (2, .int 1), (3, .int (nI j))]) (st2 := [.ref 111]) (w3 := w) rfl rfl ?_
    refine sx_RP.step (pc2 := 42) (ls2 := [(0, .ref 111), (1, .float k), (2, .int 1), (3, .int (nI j))]) (st2 := [.ref 111, .ref 111]) (w3 := w) rfl rfl ?_
    refine sx_RP.gf (v := .int (fi w 111 12)) rfl rfl hI.1.o111 rfl rfl (show _ = 45 from rfl) ?_
    rw [ep]
    refine sx_RP.step (pc2 := 46) (ls2 := [(0, .ref 111), (1, .float k), (2, .int 1), (3, .int (nI j))]) (st2 := [.int (nI j), .int (nI p), .ref 111]) (w3 := w) rfl rfl ?_
    refine sx_RP.step (pc2 := 47) (ls2 := [(0, .ref 111), (1, .float k), (2, .int 1), (3, .int (nI j))]) (st2 := [.int ((nI p) + (nI j)), .ref 111]) (w3 := w) rfl rfl ?_
    rw [show ((nI p) + (nI j) : Int32) = nI (p + j) from nI_add p j]
    refine sx_RP.cu (as := [.ref 111, .int (nI (p + j))]) (rest2 := []) (st3 := [.int (bA n X (p + j))]) rfl rfl (sx_inv_v2 (mi := 214) (k := 215) (st := [.int (nI (p + j)), .ref 111]) (w := w) rfl rfl hI.1.o111 rfl rfl rfl) rfl rfl (y216 hI hM (by omega)) rfl ?_
    refine sx_RP.step (pc2 := 51) (ls2 := [(0, .ref 111), (1, .float k), (2, .int 1), (3, .int (nI j))]) (st2 := [.float k, .int (bA n X (p + j))]) (w3 := w) rfl rfl ?_
    refine sx_RP.step (pc2 := 52) (ls2 := [(0, .ref 111), (1, .float k), (2, .int 1), (3, .int (nI j))]) (st2 := [.int (nI j), .float k, .int (bA n X (p + j))]) (w3 := w) rfl rfl ?_
    refine sx_RP.schr (n := m) (x := j) hk en hm (show j < m by omega) rfl rfl rfl (show _ = 55 from rfl) ?_
    refine sx_RP.br (p1 := 62) (l1 := [(0, .ref 111), (1, .float k), (2, .int 1), (3, .int (nI j))]) (s1 := []) (v1 := w) (p2 := 58) (l2 := [(0, .ref 111), (1, .float k), (2, .int 1), (3, .int (nI j))]) (s2 := []) (v2 := w) rfl rfl (fun q1 => ?_) (fun q1 => ?_)
    · replace q1 := of_decide_eq_true q1
      refine sx_RP.step (pc2 := 63) (ls2 := [(0, .ref 111), (1, .float k), (2, .int 1), (3, .int (nI j))]) (st2 := [.int 0]) (w3 := w) rfl rfl ?_
      refine sx_RP.step (pc2 := 64) (ls2 := [(2, .int 0), (0, .ref 111), (1, .float k), (3, .int (nI j))]) (st2 := []) (w3 := w) rfl rfl ?_
      refine sx_RP.step (pc2 := 67) (ls2 := [(3, .int ((nI j) + 1)), (2, .int 0), (0, .ref 111), (1, .float k)]) (st2 := []) (w3 := w) rfl rfl ?_
      rw [nI_1 j]
      refine sx_RP.step (pc2 := 28) (ls2 := [(3, .int (nI (j + 1))), (2, .int 0), (0, .ref 111), (1, .float k)]) (st2 := []) (w3 := w) rfl rfl ?_
      unfold chE
      rw [decide_eq_false (show ¬ nI (X (p + j)) = wc k j from fun z => q1 ((bA_y hpj).trans z)), Bool.false_and]
      exact sx_RP.ls (sx_lr.cons rfl (sx_lr.cons rfl (sx_lr.cons rfl (sx_lr.cons rfl sx_lr.nil)))) (y214z hI hk en hm (by omega))
    · replace q1 := Decidable.not_not.mp (of_decide_eq_false q1)
      refine sx_RP.step (pc2 := 59) (ls2 := [(0, .ref 111), (1, .float k), (2, .int 1), (3, .int (nI j))]) (st2 := [.int 1]) (w3 := w) rfl rfl ?_
      refine sx_RP.step (pc2 := 63) (ls2 := [(0, .ref 111), (1, .float k), (2, .int 1), (3, .int (nI j))]) (st2 := [.int 1]) (w3 := w) rfl rfl ?_
      refine sx_RP.step (pc2 := 64) (ls2 := [(2, .int 1), (0, .ref 111), (1, .float k), (3, .int (nI j))]) (st2 := []) (w3 := w) rfl rfl ?_
      refine sx_RP.step (pc2 := 67) (ls2 := [(3, .int ((nI j) + 1)), (2, .int 1), (0, .ref 111), (1, .float k)]) (st2 := []) (w3 := w) rfl rfl ?_
      rw [nI_1 j]
      refine sx_RP.step (pc2 := 28) (ls2 := [(3, .int (nI (j + 1))), (2, .int 1), (0, .ref 111), (1, .float k)]) (st2 := []) (w3 := w) rfl rfl ?_
      unfold chE
      rw [decide_eq_true (show nI (X (p + j)) = wc k j from (bA_y hpj).symm.trans q1), Bool.true_and]
      exact sx_RP.ls (sx_lr.cons rfl (sx_lr.cons rfl (sx_lr.cons rfl (sx_lr.cons rfl sx_lr.nil)))) (y214L hI hM hk en hm ep hl fz (j + 1) (by omega))
set_option maxRecDepth 20000 in
set_option maxHeartbeats 4000000 in
theorem y214 {xs : Option (List Int32)} {d : Nat} {w : List sx_C} (hI : WI w) {n p : Nat} {X : Nat → Nat} (hM : MT n X w) (hp : p ≤ n) (ep : fi w 111 12 = nI p) {k : UInt32} {m : Nat} (hk : 100 ≤ k.toNat ∧ k.toNat < 120) (en : sx_sn.getD (k.toNat - 100) 0 = m) (hm : m ≤ 7) (h1 : 1 ≤ m) : sx_RP xs (d + 3) 214 0 (lv_args 0 [.ref 111, .float k]) [] w (fun r w2 => (r = some (.int (b01 (wdT n X (rE blk n X p) k))) ∧ fi w2 111 12 = nI (rE blk n X p)) ∧ WI w2 ∧ H12 w w2) := by
  have hn := hM.2.1
  refine sx_RP.step (pc2 := 1) (ls2 := [(0, .ref 111), (1, .float k)]) (st2 := [.ref 111]) (w3 := w) rfl rfl ?_
  refine sx_RP.callp (as2 := [.ref 111]) (rest2 := []) rfl rfl (sx_inv_v2 (mi := 214) (k := 224) (st := [.ref 111]) (w := w) rfl rfl hI.1.o111 rfl rfl rfl) rfl rfl rfl (y215 hI hM hp ep) (show _ = 4 from rfl) ?_
  rintro r4 w3 ⟨⟨rfl, ep1⟩, hI4, hO2⟩
  show sx_RP _ _ _ _ _ [] _ _
  have hM2 := hM.hs hO2.hs
  have hq : rE blk n X p ≤ n := rE_le hp
  have hq2 : rE lett n X (rE blk n X p) ≤ n := rE_le hq
  have hq3 := rE_ge (p := lett) (n := n) (X := X) (i := rE blk n X p)
  have hwe := wd_end (p := rE blk n X p) (k := k) (fun i hi => hM.x hi) (show 1 ≤ wl k by rw [show wl k = m from en]; exact h1)
  rw [show wl k = m from en] at hwe
  refine sx_RP.step (pc2 := 5) (ls2 := [(0, .ref 111), (1, .float k)]) (st2 := [.ref 111]) (w3 := w3) rfl rfl ?_
  refine sx_RP.cu (as := [.ref 111]) (rest2 := []) (st3 := [.int (nI (rE lett n X (rE blk n X p)))]) rfl rfl (sx_inv_v2 (mi := 214) (k := 227) (st := [.ref 111]) (w := w3) rfl rfl hI4.1.o111 rfl rfl rfl) rfl rfl (y217 hI4 hM2 hq ep1) rfl ?_
  refine sx_RP.step (pc2 := 9) (ls2 := [(0, .ref 111), (1, .float k)]) (st2 := [.ref 111, .int (nI (rE lett n X (rE blk n X p)))]) (w3 := w3) rfl rfl ?_
  refine sx_RP.gf (v := .int (fi w3 111 12)) rfl rfl hI4.1.o111 rfl rfl (show _ = 12 from rfl) ?_
  rw [ep1]
  refine sx_RP.step (pc2 := 13) (ls2 := [(0, .ref 111), (1, .float k)]) (st2 := [.int ((nI (rE lett n X (rE blk n X p))) - (nI (rE blk n X p)))]) (w3 := w3) rfl rfl ?_
  rw [show ((nI (rE lett n X (rE blk n X p))) - (nI (rE blk n X p)) : Int32) = nI ((rE lett n X (rE blk n X p)) - (rE blk n X p)) from nI_sub (a := (rE lett n X (rE blk n X p))) (b := (rE blk n X p)) (by omega)]
  refine sx_RP.step (pc2 := 14) (ls2 := [(0, .ref 111), (1, .float k)]) (st2 := [.float k, .int (nI ((rE lett n X (rE blk n X p)) - (rE blk n X p)))]) (w3 := w3) rfl rfl ?_
  refine sx_RP.slen (n := m) hk en rfl rfl rfl (show _ = 17 from rfl) ?_
  refine sx_RP.br (p1 := 24) (l1 := [(0, .ref 111), (1, .float k)]) (s1 := []) (v1 := w3) (p2 := 20) (l2 := [(0, .ref 111), (1, .float k)]) (s2 := []) (v2 := w3) rfl rfl (fun q5 => ?_) (fun q5 => ?_)
  · replace q5 := of_decide_eq_true q5
    replace q5 := mt (nI_eq (a := ((rE lett n X (rE blk n X p)) - (rE blk n X p))) (b := m) (by omega) (by omega)).mpr q5
    refine sx_RP.step (pc2 := 25) (ls2 := [(0, .ref 111), (1, .float k)]) (st2 := [.int 0]) (w3 := w3) rfl rfl ?_
    refine sx_RP.step (pc2 := 26) (ls2 := [(2, .int 0), (0, .ref 111), (1, .float k)]) (st2 := []) (w3 := w3) rfl rfl ?_
    refine sx_RP.step (pc2 := 27) (ls2 := [(2, .int 0), (0, .ref 111), (1, .float k)]) (st2 := [.int 0]) (w3 := w3) rfl rfl ?_
    refine sx_RP.step (pc2 := 28) (ls2 := [(3, .int 0), (2, .int 0), (0, .ref 111), (1, .float k)]) (st2 := []) (w3 := w3) rfl rfl ?_
    rw [hwe, decide_eq_false (show ¬ rE lett n X (rE blk n X p) - rE blk n X p = m by omega), Bool.false_and]
    refine sx_RP.ls (sx_lr.cons rfl (sx_lr.cons rfl (sx_lr.cons rfl (sx_lr.cons rfl sx_lr.nil)))) ((y214z (j := 0) hI4 hk en hm (Nat.zero_le _)).mono9 ?_)
    rintro r9 w9 ⟨rfl, rfl⟩
    exact ⟨⟨rfl, ep1⟩, hI4, hO2⟩
  · replace q5 := Decidable.not_not.mp (of_decide_eq_false q5)
    replace q5 := (nI_eq (a := ((rE lett n X (rE blk n X p)) - (rE blk n X p))) (b := m) (by omega) (by omega)).mp q5
    refine sx_RP.step (pc2 := 21) (ls2 := [(0, .ref 111), (1, .float k)]) (st2 := [.int 1]) (w3 := w3) rfl rfl ?_
    refine sx_RP.step (pc2 := 25) (ls2 := [(0, .ref 111), (1, .float k)]) (st2 := [.int 1]) (w3 := w3) rfl rfl ?_
    refine sx_RP.step (pc2 := 26) (ls2 := [(2, .int 1), (0, .ref 111), (1, .float k)]) (st2 := []) (w3 := w3) rfl rfl ?_
    refine sx_RP.step (pc2 := 27) (ls2 := [(2, .int 1), (0, .ref 111), (1, .float k)]) (st2 := [.int 0]) (w3 := w3) rfl rfl ?_
    refine sx_RP.step (pc2 := 28) (ls2 := [(3, .int 0), (2, .int 1), (0, .ref 111), (1, .float k)]) (st2 := []) (w3 := w3) rfl rfl ?_
    rw [hwe, decide_eq_true (show rE lett n X (rE blk n X p) - rE blk n X p = m by omega), Bool.true_and]
    refine sx_RP.ls (sx_lr.cons rfl (sx_lr.cons rfl (sx_lr.cons rfl (sx_lr.cons rfl sx_lr.nil)))) ((y214L hI4 hM2 hk en hm ep1 (fun j hj => by omega) m 0 (by omega)).mono9 ?_)
    rintro r9 w9 ⟨rfl, rfl⟩
    exact ⟨⟨rfl, ep1⟩, hI4, hO2⟩
def H13 (w w2 : List sx_C) : Prop := (∀ a, a ≠ 111 → w2[a]? = w[a]?) ∧ ∀ j, j ≠ 13 → fi w2 111 j = fi w 111 j
theorem H13.hs {w w2 : List sx_C} (h : H13 w w2) : HS w w2 := ⟨h.1, fun j hj => h.2 j (by omega)⟩
set_option maxRecDepth 20000 in
set_option maxHeartbeats 4000000 in
theorem y222 {xs : Option (List Int32)} {d : Nat} {w : List sx_C} (hI : WI w) {p : Nat} (ef : fi w 111 13 = -1) (ep : fi w 111 12 = nI p) : sx_RP xs d 222 0 (lv_args 0 [.ref 111]) [] w (fun r w2 => (r = some (.int 0) ∧ fi w2 111 13 = nI p) ∧ WI w2 ∧ H13 w w2) := by
  refine sx_RP.step (pc2 := 1) (ls2 := [(0, .ref 111)]) (st2 := [.ref 111]) (w3 := w) rfl rfl ?_
  refine sx_RP.step (pc2 := 2) (ls2 := [(0, .ref 111)]) (st2 := [.ref 111, .ref 111]) (w3 := w) rfl rfl ?_
  refine sx_RP.gf (v := .int (fi w 111 13)) rfl rfl hI.1.o111 rfl rfl (show _ = 5 from rfl) ?_
  rw [ef]
  refine sx_RP.step (pc2 := 8) (ls2 := [(0, .ref 111)]) (st2 := [.ref 111]) (w3 := w) rfl rfl ?_
  refine sx_RP.step (pc2 := 9) (ls2 := [(0, .ref 111)]) (st2 := [.ref 111, .ref 111]) (w3 := w) rfl rfl ?_
  refine sx_RP.gf (v := .int (fi w 111 12)) rfl rfl hI.1.o111 rfl rfl (show _ = 12 from rfl) ?_
  rw [ep]
  refine sx_RP.step (pc2 := 19) (ls2 := [(0, .ref 111)]) (st2 := [.int (nI p), .ref 111]) (w3 := w) rfl rfl ?_
  refine sx_RP.pm (k := 13) hI EM.rf rfl rfl (by decide) rfl trivial (show _ = 22 from rfl) (fun w1 hI2 hE3 hv4 hr5 hs6 => ?_)
  refine sx_RP.step (pc2 := 23) (ls2 := [(0, .ref 111)]) (st2 := [.int 0]) (w3 := w1) rfl rfl ?_
  refine sx_RP.ret (r := (some (.int 0))) rfl rfl ?_
  exact ⟨⟨rfl, hv4⟩, hI2, ⟨hs6, hr5⟩⟩
theorem wd_to {n p : Nat} {X : Nat → Nat} {k : UInt32} (hX : ∀ i, i < n → X i < 256) (hp : p ≤ n) (hw : 1 ≤ wl k) (h : wdT n X p k = true) : p + wl k = beT n X p ∧ p + wl k ≤ n := by
  have hb := beT_ge (n := n) (p := p) (X := X)
  have hl := beT_le (X := X) hp
  unfold wdT at h
  rw [Bool.and_eq_true, Bool.and_eq_true, decide_eq_true_iff, decide_eq_true_iff] at h
  omega
set_option maxRecDepth 20000 in
set_option maxHeartbeats 4000000 in
theorem y213 {xs : Option (List Int32)} {d : Nat} {w : List sx_C} (hI : WI w) {n p : Nat} {X : Nat → Nat} (hM : MT n X w) (hp : p ≤ n) (ep : fi w 111 12 = nI p) (ef : fi w 111 13 = -1) {k : UInt32} {m : Nat} (hk : 100 ≤ k.toNat ∧ k.toNat < 120) (en : sx_sn.getD (k.toNat - 100) 0 = m) (hm : m ≤ 7) (h1 : 1 ≤ m) : sx_RP xs (d + 4) 213 0 (lv_args 0 [.ref 111, .float k]) [] w (fun r w2 => (r = some (.int (b01 (wdT n X (rE blk n X p) k))) ∧ fi w2 111 12 = nI (rE blk n X p + cond (wdT n X (rE blk n X p) k) m 0)) ∧ WI w2 ∧ H12 w w2) := by
  have hn := hM.2.1
  refine sx_RP.step (pc2 := 1) (ls2 := [(0, .ref 111), (1, .float k)]) (st2 := [.ref 111]) (w3 := w) rfl rfl ?_
  refine sx_RP.gf (v := .int (fi w 111 13)) rfl rfl hI.1.o111 rfl rfl (show _ = 4 from rfl) ?_
  rw [ef]
  refine sx_RP.step (pc2 := 7) (ls2 := [(0, .ref 111), (1, .float k)]) (st2 := []) (w3 := w) rfl rfl ?_
  refine sx_RP.step (pc2 := 8) (ls2 := [(0, .ref 111), (1, .float k)]) (st2 := [.ref 111]) (w3 := w) rfl rfl ?_
  refine sx_RP.step (pc2 := 9) (ls2 := [(0, .ref 111), (1, .float k)]) (st2 := [.float k, .ref 111]) (w3 := w) rfl rfl ?_
  refine sx_RP.callp (as2 := [.ref 111, .float k]) (rest2 := []) rfl rfl (sx_inv_v2 (mi := 213) (k := 239) (st := [.float k, .ref 111]) (w := w) rfl rfl hI.1.o111 rfl rfl rfl) rfl rfl rfl (y214 hI hM hp ep hk en hm h1) (show _ = 12 from rfl) ?_
  rintro r4 w3 ⟨⟨rfl, ep1⟩, hI4, hO2⟩
  show sx_RP _ _ _ _ _ [.int (b01 (wdT n X (rE blk n X p) k))] _ _
  have hq : rE blk n X p ≤ n := rE_le hp
  have hwt := wd_to (p := rE blk n X p) (k := k) (fun i hi => hM.x hi) hq (show 1 ≤ wl k by rw [show wl k = m from en]; exact h1)
  rw [show wl k = m from en] at hwt
  refine sx_RP.br (p1 := 19) (l1 := [(0, .ref 111), (1, .float k)]) (s1 := []) (v1 := w3) (p2 := 15) (l2 := [(0, .ref 111), (1, .float k)]) (s2 := []) (v2 := w3) rfl rfl (fun q5 => ?_) (fun q5 => ?_)
  · replace q5 := of_decide_eq_true q5
    refine sx_RP.step (pc2 := 20) (ls2 := [(0, .ref 111), (1, .float k)]) (st2 := [.int 0]) (w3 := w3) rfl rfl ?_
    refine sx_RP.step (pc2 := 21) (ls2 := [(2, .int 0), (0, .ref 111), (1, .float k)]) (st2 := []) (w3 := w3) rfl rfl ?_
    refine sx_RP.step (pc2 := 22) (ls2 := [(2, .int 0), (0, .ref 111), (1, .float k)]) (st2 := [.ref 111]) (w3 := w3) rfl rfl ?_
    refine sx_RP.step (pc2 := 23) (ls2 := [(2, .int 0), (0, .ref 111), (1, .float k)]) (st2 := [.ref 111, .ref 111]) (w3 := w3) rfl rfl ?_
    refine sx_RP.gf (v := .int (fi w3 111 12)) rfl rfl hI4.1.o111 rfl rfl (show _ = 26 from rfl) ?_
    rw [ep1]
    refine sx_RP.step (pc2 := 27) (ls2 := [(2, .int 0), (0, .ref 111), (1, .float k)]) (st2 := [.int 0, .int (nI (rE blk n X p)), .ref 111]) (w3 := w3) rfl rfl ?_
    refine sx_RP.step (pc2 := 37) (ls2 := [(2, .int 0), (0, .ref 111), (1, .float k)]) (st2 := [.int (nI (rE blk n X p)), .ref 111]) (w3 := w3) rfl rfl ?_
    refine sx_RP.step (pc2 := 38) (ls2 := [(2, .int 0), (0, .ref 111), (1, .float k)]) (st2 := [.int 0, .int (nI (rE blk n X p)), .ref 111]) (w3 := w3) rfl rfl ?_
    refine sx_RP.step (pc2 := 39) (ls2 := [(2, .int 0), (0, .ref 111), (1, .float k)]) (st2 := [.int ((nI (rE blk n X p)) + 0), .ref 111]) (w3 := w3) rfl rfl ?_
    rw [show ((nI (rE blk n X p)) + 0 : Int32) = nI ((rE blk n X p) + 0) from nI_add (rE blk n X p) 0]
    refine sx_RP.pm (k := 12) hI4 EM.rf rfl rfl (by decide) rfl (inR.n (show ((rE blk n X p) + 0) ≤ 120 by omega)) (show _ = 42 from rfl) (fun w6 hI7 hE8 hv9 hr10 hs11 => ?_)
    refine sx_RP.step (pc2 := 43) (ls2 := [(2, .int 0), (0, .ref 111), (1, .float k)]) (st2 := [.int 0]) (w3 := w6) rfl rfl ?_
    refine sx_RP.ret (r := (some (.int 0))) rfl rfl ?_
    rw [b01_f q5]
    exact ⟨⟨rfl, hv9⟩, hI7, hO2.tr ⟨hs11, hr10⟩⟩
  · replace q5 := of_decide_eq_false q5
    refine sx_RP.step (pc2 := 16) (ls2 := [(0, .ref 111), (1, .float k)]) (st2 := [.int 1]) (w3 := w3) rfl rfl ?_
    refine sx_RP.step (pc2 := 20) (ls2 := [(0, .ref 111), (1, .float k)]) (st2 := [.int 1]) (w3 := w3) rfl rfl ?_
    refine sx_RP.step (pc2 := 21) (ls2 := [(2, .int 1), (0, .ref 111), (1, .float k)]) (st2 := []) (w3 := w3) rfl rfl ?_
    refine sx_RP.step (pc2 := 22) (ls2 := [(2, .int 1), (0, .ref 111), (1, .float k)]) (st2 := [.ref 111]) (w3 := w3) rfl rfl ?_
    refine sx_RP.step (pc2 := 23) (ls2 := [(2, .int 1), (0, .ref 111), (1, .float k)]) (st2 := [.ref 111, .ref 111]) (w3 := w3) rfl rfl ?_
    refine sx_RP.gf (v := .int (fi w3 111 12)) rfl rfl hI4.1.o111 rfl rfl (show _ = 26 from rfl) ?_
    rw [ep1]
    refine sx_RP.step (pc2 := 27) (ls2 := [(2, .int 1), (0, .ref 111), (1, .float k)]) (st2 := [.int 1, .int (nI (rE blk n X p)), .ref 111]) (w3 := w3) rfl rfl ?_
    refine sx_RP.step (pc2 := 30) (ls2 := [(2, .int 1), (0, .ref 111), (1, .float k)]) (st2 := [.int (nI (rE blk n X p)), .ref 111]) (w3 := w3) rfl rfl ?_
    refine sx_RP.step (pc2 := 31) (ls2 := [(2, .int 1), (0, .ref 111), (1, .float k)]) (st2 := [.float k, .int (nI (rE blk n X p)), .ref 111]) (w3 := w3) rfl rfl ?_
    refine sx_RP.slen (n := m) hk en rfl rfl rfl (show _ = 34 from rfl) ?_
    refine sx_RP.step (pc2 := 38) (ls2 := [(2, .int 1), (0, .ref 111), (1, .float k)]) (st2 := [.int (nI m), .int (nI (rE blk n X p)), .ref 111]) (w3 := w3) rfl rfl ?_
    refine sx_RP.step (pc2 := 39) (ls2 := [(2, .int 1), (0, .ref 111), (1, .float k)]) (st2 := [.int ((nI (rE blk n X p)) + (nI m)), .ref 111]) (w3 := w3) rfl rfl ?_
    rw [show ((nI (rE blk n X p)) + (nI m) : Int32) = nI ((rE blk n X p) + m) from nI_add (rE blk n X p) m]
    have hwx := hwt (b01_t q5)
    refine sx_RP.pm (k := 12) hI4 EM.rf rfl rfl (by decide) rfl (inR.n (show ((rE blk n X p) + m) ≤ 120 by omega)) (show _ = 42 from rfl) (fun w12 hI13 hE14 hv15 hr16 hs17 => ?_)
    refine sx_RP.step (pc2 := 43) (ls2 := [(2, .int 1), (0, .ref 111), (1, .float k)]) (st2 := [.int 1]) (w3 := w12) rfl rfl ?_
    refine sx_RP.ret (r := (some (.int 1))) rfl rfl ?_
    rw [b01_t q5]
    exact ⟨⟨rfl, hv15⟩, hI13, hO2.tr ⟨hs17, hr16⟩⟩
end
-- 89p.siege.lean.txt
section
set_option maxRecDepth 20000 in
set_option maxHeartbeats 4000000 in
theorem y228 {xs : Option (List Int32)} {d : Nat} {w : List sx_C} (hI : WI w) {n p : Nat} {X : Nat → Nat} (hM : MT n X w) (hp : p ≤ n) (ep : fi w 111 12 = nI p) (ef : fi w 111 13 = -1) {k : UInt32} {m : Nat} (hk : 100 ≤ k.toNat ∧ k.toNat < 120) (en : sx_sn.getD (k.toNat - 100) 0 = m) (hm : m ≤ 7) (h1 : 1 ≤ m) : sx_RP xs (d + 5) 228 0 (lv_args 0 [.ref 111, .float k]) [] w (fun r w2 => (r = some (.int (b01 (wdT n X (rE blk n X p) k))) ∧ (wdT n X (rE blk n X p) k = true → fi w2 111 12 = nI (rE blk n X p + m) ∧ fi w2 111 13 = -1) ∧ (wdT n X (rE blk n X p) k = false → fi w2 111 13 = nI (rE blk n X p))) ∧ WI w2 ∧ HS w w2) := by
  refine sx_RP.step (pc2 := 1) (ls2 := [(0, .ref 111), (1, .float k)]) (st2 := [.ref 111]) (w3 := w) rfl rfl ?_
  refine sx_RP.step (pc2 := 2) (ls2 := [(0, .ref 111), (1, .float k)]) (st2 := [.float k, .ref 111]) (w3 := w) rfl rfl ?_
  refine sx_RP.callp (as2 := [.ref 111, .float k]) (rest2 := []) rfl rfl (sx_inv_v2 (mi := 228) (k := 243) (st := [.float k, .ref 111]) (w := w) rfl rfl hI.1.o111 rfl rfl rfl) rfl rfl rfl (y213 hI hM hp ep ef hk en hm h1) (show _ = 5 from rfl) ?_
  rintro r4 w3 ⟨⟨rfl, ep1⟩, hI4, hO2⟩
  show sx_RP _ _ _ _ _ [.int (b01 (wdT n X (rE blk n X p) k))] _ _
  refine sx_RP.br (p1 := 15) (l1 := [(0, .ref 111), (1, .float k)]) (s1 := []) (v1 := w3) (p2 := 8) (l2 := [(0, .ref 111), (1, .float k)]) (s2 := []) (v2 := w3) rfl rfl (fun q5 => ?_) (fun q5 => ?_)
  · replace q5 := of_decide_eq_true q5
    refine sx_RP.step (pc2 := 16) (ls2 := [(0, .ref 111), (1, .float k)]) (st2 := [.int 1]) (w3 := w3) rfl rfl ?_
    refine sx_RP.step (pc2 := 20) (ls2 := [(0, .ref 111), (1, .float k)]) (st2 := [.int 1]) (w3 := w3) rfl rfl ?_
    refine sx_RP.ret (r := (some (.int 1))) rfl rfl ?_
    rw [b01_t q5] at ep1
    rw [b01_t q5]
    exact ⟨⟨rfl, fun _ => ⟨ep1, (hO2.2 13 (by decide)).trans ef⟩, fun z => absurd z (by decide)⟩, hI4, hO2.hs⟩
  · replace q5 := Decidable.not_not.mp (of_decide_eq_false q5)
    refine sx_RP.step (pc2 := 9) (ls2 := [(0, .ref 111), (1, .float k)]) (st2 := [.ref 111]) (w3 := w3) rfl rfl ?_
    rw [b01_f q5] at ep1
    refine sx_RP.callp (as2 := [.ref 111]) (rest2 := []) rfl rfl (sx_inv_v2 (mi := 228) (k := 245) (st := [.ref 111]) (w := w3) rfl rfl hI4.1.o111 rfl rfl rfl) rfl rfl rfl (y222 (p := rE blk n X p) hI4 ((hO2.2 13 (by decide)).trans ef) ep1) (show _ = 12 from rfl) ?_
    rintro r4 w9 ⟨⟨rfl, hv6⟩, hI10, hO7⟩
    show sx_RP _ _ _ _ _ [.int 0] _ _
    refine sx_RP.step (pc2 := 19) (ls2 := [(0, .ref 111), (1, .float k)]) (st2 := []) (w3 := w9) rfl rfl ?_
    refine sx_RP.step (pc2 := 20) (ls2 := [(0, .ref 111), (1, .float k)]) (st2 := [.int 0]) (w3 := w9) rfl rfl ?_
    refine sx_RP.ret (r := (some (.int 0))) rfl rfl ?_
    rw [b01_f q5]
    exact ⟨⟨rfl, fun z => absurd z (by decide), fun _ => hv6⟩, hI10, hO2.hs.tr hO7.hs⟩
end
-- 89q.siege.lean.txt
section
theorem nJ_toInt {v : Nat} (h : v < 2 ^ 31) : (nI v).toInt64.toInt = (v : Int) := by rw [Int32.toInt_toInt64, nI_toInt h]
theorem lg_ltN {x l : Nat} (hx : x < 2 ^ 31) (hl : l < 2 ^ 31) : lg_cmp (nI x).toInt64 (nI l).toInt64 < 0 ↔ x < l := by
  have e1 : (nI l).toInt64 < (nI x).toInt64 ↔ l < x := by rw [Int64.lt_iff_toInt_lt, nJ_toInt hx, nJ_toInt hl]; omega
  have e2 : (nI x).toInt64 = (nI l).toInt64 ↔ x = l := by rw [← Int64.toInt_inj, nJ_toInt hx, nJ_toInt hl]; omega
  unfold lg_cmp
  by_cases h : l < x
  · rw [if_pos (e1.mpr h)]
    exact ⟨fun z => absurd z (by decide), fun z => by omega⟩
  · rw [if_neg (fun z => h (e1.mp z))]
    by_cases h2 : x = l
    · rw [if_pos (e2.mpr h2)]
      exact ⟨fun z => absurd z (by decide), fun z => by omega⟩
    · rw [if_neg (fun z => h2 (e2.mp z))]
      exact ⟨fun _ => by omega, fun _ => by decide⟩
theorem lg_leN {x l : Nat} (hx : x < 2 ^ 31) (hl : l < 2 ^ 31) : lg_cmp (nI x).toInt64 (nI l).toInt64 ≤ 0 ↔ x ≤ l := by
  have e1 : (nI l).toInt64 < (nI x).toInt64 ↔ l < x := by rw [Int64.lt_iff_toInt_lt, nJ_toInt hx, nJ_toInt hl]; omega
  unfold lg_cmp
  by_cases h : l < x
  · rw [if_pos (e1.mpr h)]
    exact ⟨fun z => absurd z (by decide), fun z => by omega⟩
  · rw [if_neg (fun z => h (e1.mp z))]
    split
    · exact ⟨fun _ => by omega, fun _ => by decide⟩
    · exact ⟨fun _ => by omega, fun _ => by decide⟩
theorem nJ_i {v : Nat} (h : v < 2 ^ 31) : (nI v).toInt64.toInt32 = nI v := by
  apply Int32.toInt_inj.mp
  rw [Int64.toInt_toInt32, nJ_toInt h, nI_toInt h, Int.bmod_def]
  split <;> omega
theorem j_step {v c : Nat} (hv : v ≤ 9999999) (h1 : 48 ≤ c) (h2 : c ≤ 57) : ((10 : Int64) * (nI v).toInt64 + (nI c).toInt64) - 48 = (nI (10 * v + (c - 48))).toInt64 := by
  apply Int64.toInt_inj.mp
  rw [Int64.toInt_sub, Int64.toInt_add, Int64.toInt_mul, nJ_toInt (by omega), nJ_toInt (by omega), nJ_toInt (by omega), show (10 : Int64).toInt = 10 by decide, show (48 : Int64).toInt = 48 by decide]
  rw [show Int.bmod (10 * (v : Int)) (2 ^ 64) = 10 * (v : Int) by rw [Int.bmod_def]; split <;> omega]
  rw [show Int.bmod (10 * (v : Int) + (c : Int)) (2 ^ 64) = 10 * (v : Int) + (c : Int) by rw [Int.bmod_def]; split <;> omega]
  rw [Int.bmod_def]
  split <;> omega
theorem minJ {a b : Nat} (ha : a < 2 ^ 31) (hb : b < 2 ^ 31) : (if lg_cmp (nI a).toInt64 (nI b).toInt64 ≤ 0 then (nI a).toInt64 else (nI b).toInt64) = (nI (min a b)).toInt64 := by
  by_cases h : a ≤ b
  · rw [if_pos ((lg_leN ha hb).mpr h), Nat.min_eq_left h]
  · rw [if_neg (fun z => h ((lg_leN ha hb).mp z)), Nat.min_eq_right (by omega)]
theorem nuV_min {c1 c2 : Nat} {X : Nat → Nat} (h : c1 ≤ c2) : ∀ f v i, nuV c1 X (min c1 v) i f = min c1 (nuV c2 X v i f)
  | 0, v, i => rfl
  | f + 1, v, i => by
    show nuV c1 X (min c1 (10 * min c1 v + (X i - 48))) (i + 1) f = min c1 (nuV c2 X (min c2 (10 * v + (X i - 48))) (i + 1) f)
    rw [← nuV_min h f (min c2 (10 * v + (X i - 48))) (i + 1)]
    rw [show min c1 (10 * min c1 v + (X i - 48)) = min c1 (min c2 (10 * v + (X i - 48))) by omega]
set_option maxRecDepth 20000 in
set_option maxHeartbeats 4000000 in
theorem y223 {xs : Option (List Int32)} {d : Nat} {w : List sx_C} (hI : WI w) (x y : Int64) : sx_RU xs d 223 0 (lv_args 0 [.long x, .long y]) [] w (some (.long (if lg_cmp x y ≤ 0 then x else y))) w := by
  have h : sx_RP xs d 223 0 (lv_args 0 [.long x, .long y]) [] w (fun r9 w2 => r9 = some (.long (if lg_cmp x y ≤ 0 then x else y)) ∧ w2 = w) := by
    refine sx_RP.step (pc2 := 1) (ls2 := [(0, .long x), (2, .long y)]) (st2 := [.long x]) (w3 := w) rfl rfl ?_
    refine sx_RP.step (pc2 := 2) (ls2 := [(0, .long x), (2, .long y)]) (st2 := [.long y, .long x]) (w3 := w) rfl rfl ?_
    refine sx_RP.step (pc2 := 3) (ls2 := [(0, .long x), (2, .long y)]) (st2 := [.int (lg_cmp x y)]) (w3 := w) rfl rfl ?_
    refine sx_RP.br (p1 := 10) (l1 := [(0, .long x), (2, .long y)]) (s1 := []) (v1 := w) (p2 := 6) (l2 := [(0, .long x), (2, .long y)]) (s2 := []) (v2 := w) rfl rfl (fun q1 => ?_) (fun q1 => ?_)
    · replace q1 := of_decide_eq_true q1
      refine sx_RP.step (pc2 := 11) (ls2 := [(0, .long x), (2, .long y)]) (st2 := [.long y]) (w3 := w) rfl rfl ?_
      refine sx_RP.ret (r := (some (.long y))) rfl rfl ?_
      exact ⟨by first | rw [if_pos (Int32.not_lt.mp q1)] | rw [if_neg (Int32.not_le.mpr q1)], rfl⟩
    · replace q1 := of_decide_eq_false q1
      refine sx_RP.step (pc2 := 7) (ls2 := [(0, .long x), (2, .long y)]) (st2 := [.long x]) (w3 := w) rfl rfl ?_
      refine sx_RP.step (pc2 := 11) (ls2 := [(0, .long x), (2, .long y)]) (st2 := [.long x]) (w3 := w) rfl rfl ?_
      refine sx_RP.ret (r := (some (.long x))) rfl rfl ?_
      exact ⟨by first | rw [if_pos (Int32.not_lt.mp q1)] | rw [if_neg (Int32.not_le.mpr q1)], rfl⟩
  obtain ⟨r9, w2, h1, rfl, rfl⟩ := h
  exact h1
set_option maxRecDepth 20000 in
set_option maxHeartbeats 4000000 in
theorem y220B {xs : Option (List Int32)} {d : Nat} {n p : Nat} {X : Nat → Nat} {w : List sx_C} {lo hi : Nat} (hlo : lo < 2 ^ 31) (hhi : hi < 2 ^ 31) (hI : WI w) (hM : MT n X w) (ep : fi w 111 12 = nI p) (ef : fi w 111 13 = -1) {j v : Nat} (hj : j ≤ n) (hv : v ≤ 9999999) (kk : j < n → sx_RP xs (d + 3) 220 38 [(0, .ref 111), (1, .int (nI lo)), (2, .int (nI hi)), (3, .long (nI (min 9999999 (10 * v + (X j - 48)))).toInt64), (5, .int (nI (j + 1)))] [] w (fun r2 w2 => (r2 = some (.int (b01 (decide (lo ≤ (nuV 9999999 X (min 9999999 (10 * v + (X j - 48))) (j + 1) (rE digi n X (j + 1) - (j + 1))) ∧ (nuV 9999999 X (min 9999999 (10 * v + (X j - 48))) (j + 1) (rE digi n X (j + 1) - (j + 1))) ≤ hi)))) ∧ ((lo ≤ (nuV 9999999 X (min 9999999 (10 * v + (X j - 48))) (j + 1) (rE digi n X (j + 1) - (j + 1))) ∧ (nuV 9999999 X (min 9999999 (10 * v + (X j - 48))) (j + 1) (rE digi n X (j + 1) - (j + 1))) ≤ hi) → fi w2 111 12 = nI (rE digi n X (j + 1)) ∧ fi w2 111 14 = nI ((nuV 9999999 X (min 9999999 (10 * v + (X j - 48))) (j + 1) (rE digi n X (j + 1) - (j + 1)))) ∧ fi w2 111 13 = -1) ∧ (¬ (lo ≤ (nuV 9999999 X (min 9999999 (10 * v + (X j - 48))) (j + 1) (rE digi n X (j + 1) - (j + 1))) ∧ (nuV 9999999 X (min 9999999 (10 * v + (X j - 48))) (j + 1) (rE digi n X (j + 1) - (j + 1))) ≤ hi) → fi w2 111 13 = nI p)) ∧ WI w2 ∧ HS w w2)) : sx_RP xs (d + 3) 220 38 [(0, .ref 111), (1, .int (nI lo)), (2, .int (nI hi)), (3, .long (nI v).toInt64), (5, .int (nI j))] [] w (fun r2 w2 => (r2 = some (.int (b01 (decide (lo ≤ (nuV 9999999 X v j (rE digi n X j - j)) ∧ (nuV 9999999 X v j (rE digi n X j - j)) ≤ hi)))) ∧ ((lo ≤ (nuV 9999999 X v j (rE digi n X j - j)) ∧ (nuV 9999999 X v j (rE digi n X j - j)) ≤ hi) → fi w2 111 12 = nI (rE digi n X j) ∧ fi w2 111 14 = nI ((nuV 9999999 X v j (rE digi n X j - j))) ∧ fi w2 111 13 = -1) ∧ (¬ (lo ≤ (nuV 9999999 X v j (rE digi n X j - j)) ∧ (nuV 9999999 X v j (rE digi n X j - j)) ≤ hi) → fi w2 111 13 = nI p)) ∧ WI w2 ∧ HS w w2) := by
  have hn := hM.2.1
  refine sx_RP.step (pc2 := 39) (ls2 := [(0, .ref 111), (1, .int (nI lo)), (2, .int (nI hi)), (3, .long ((nI v).toInt64)), (5, .int (nI j))]) (st2 := [.ref 111]) (w3 := w) rfl rfl ?_
  refine sx_RP.step (pc2 := 41) (ls2 := [(0, .ref 111), (1, .int (nI lo)), (2, .int (nI hi)), (3, .long ((nI v).toInt64)), (5, .int (nI j))]) (st2 := [.int (nI j), .ref 111]) (w3 := w) rfl rfl ?_
  refine sx_RP.cu (as := [.ref 111, .int (nI j)]) (rest2 := []) (st3 := [.int (bA n X j)]) rfl rfl (sx_inv_v2 (mi := 220) (k := 215) (st := [.int (nI j), .ref 111]) (w := w) rfl rfl hI.1.o111 rfl rfl rfl) rfl rfl (y216 hI hM (by omega)) rfl ?_
  rcases Classical.em (j < n ∧ digi (X j) = true) with c1 | c1
  · refine sx_RP.cu (as := [.int (bA n X j)]) (rest2 := []) (st3 := [.int 1]) rfl rfl rfl rfl rfl (cx_221p ((bA_digi (fun z => hM.x z)).mpr c1)) rfl ?_
    refine sx_RP.step (pc2 := 50) (ls2 := [(0, .ref 111), (1, .int (nI lo)), (2, .int (nI hi)), (3, .long ((nI v).toInt64)), (5, .int (nI j))]) (st2 := []) (w3 := w) rfl rfl ?_
    refine sx_RP.step (pc2 := 53) (ls2 := [(0, .ref 111), (1, .int (nI lo)), (2, .int (nI hi)), (3, .long ((nI v).toInt64)), (5, .int (nI j))]) (st2 := [.long 9999999]) (w3 := w) rfl rfl ?_
    refine sx_RP.step (pc2 := 56) (ls2 := [(0, .ref 111), (1, .int (nI lo)), (2, .int (nI hi)), (3, .long ((nI v).toInt64)), (5, .int (nI j))]) (st2 := [.long 10, .long 9999999]) (w3 := w) rfl rfl ?_
    refine sx_RP.step (pc2 := 57) (ls2 := [(0, .ref 111), (1, .int (nI lo)), (2, .int (nI hi)), (3, .long ((nI v).toInt64)), (5, .int (nI j))]) (st2 := [.long ((nI v).toInt64), .long 10, .long 9999999]) (w3 := w) rfl rfl ?_
    refine sx_RP.step (pc2 := 58) (ls2 := [(0, .ref 111), (1, .int (nI lo)), (2, .int (nI hi)), (3, .long ((nI v).toInt64)), (5, .int (nI j))]) (st2 := [.long (10 * ((nI v).toInt64)), .long 9999999]) (w3 := w) rfl rfl ?_
    refine sx_RP.step (pc2 := 59) (ls2 := [(0, .ref 111), (1, .int (nI lo)), (2, .int (nI hi)), (3, .long ((nI v).toInt64)), (5, .int (nI j))]) (st2 := [.ref 111, .long (10 * ((nI v).toInt64)), .long 9999999]) (w3 := w) rfl rfl ?_
    refine sx_RP.step (pc2 := 61) (ls2 := [(0, .ref 111), (1, .int (nI lo)), (2, .int (nI hi)), (3, .long ((nI v).toInt64)), (5, .int (nI j))]) (st2 := [.int (nI j), .ref 111, .long (10 * ((nI v).toInt64)), .long 9999999]) (w3 := w) rfl rfl ?_
    refine sx_RP.cu (as := [.ref 111, .int (nI j)]) (rest2 := [.long (10 * ((nI v).toInt64)), .long 9999999]) (st3 := [.int (bA n X j), .long (10 * ((nI v).toInt64)), .long 9999999]) rfl rfl (sx_inv_v2 (mi := 220) (k := 215) (st := [.int (nI j), .ref 111, .long (10 * ((nI v).toInt64)), .long 9999999]) (w := w) rfl rfl hI.1.o111 rfl rfl rfl) rfl rfl (y216 hI hM (by omega)) rfl ?_
    refine sx_RP.step (pc2 := 65) (ls2 := [(0, .ref 111), (1, .int (nI lo)), (2, .int (nI hi)), (3, .long ((nI v).toInt64)), (5, .int (nI j))]) (st2 := [.long ((bA n X j).toInt64), .long (10 * ((nI v).toInt64)), .long 9999999]) (w3 := w) rfl rfl ?_
    refine sx_RP.step (pc2 := 66) (ls2 := [(0, .ref 111), (1, .int (nI lo)), (2, .int (nI hi)), (3, .long ((nI v).toInt64)), (5, .int (nI j))]) (st2 := [.long ((10 * ((nI v).toInt64)) + ((bA n X j).toInt64)), .long 9999999]) (w3 := w) rfl rfl ?_
    refine sx_RP.step (pc2 := 69) (ls2 := [(0, .ref 111), (1, .int (nI lo)), (2, .int (nI hi)), (3, .long ((nI v).toInt64)), (5, .int (nI j))]) (st2 := [.long 48, .long ((10 * ((nI v).toInt64)) + ((bA n X j).toInt64)), .long 9999999]) (w3 := w) rfl rfl ?_
    have hd := sgn_dig ⟨X j, hM.x c1.1⟩ c1.2
    replace hd : 48 ≤ X j ∧ X j ≤ 57 := hd.2
    refine sx_RP.step (pc2 := 70) (ls2 := [(0, .ref 111), (1, .int (nI lo)), (2, .int (nI hi)), (3, .long ((nI v).toInt64)), (5, .int (nI j))]) (st2 := [.long (((10 * ((nI v).toInt64)) + ((bA n X j).toInt64)) - 48), .long 9999999]) (w3 := w) rfl rfl ?_
    rw [show (((10 * ((nI v).toInt64)) + ((bA n X j).toInt64)) - 48 : Int64) = (nI (10 * v + (X j - 48))).toInt64 by rw [bA_y c1.1]; exact j_step hv hd.1 hd.2]
    refine sx_RP.cu (as := [.long 9999999, .long ((nI (10 * v + (X j - 48))).toInt64)]) (rest2 := []) (st3 := [.long ((nI (min 9999999 (10 * v + (X j - 48)))).toInt64)]) rfl rfl rfl rfl rfl ((by have c := y223 (xs := xs) (d := d + 2) hI (nI 9999999).toInt64 (nI (10 * v + (X j - 48))).toInt64; rw [minJ (by decide) (by omega)] at c; exact c)) rfl ?_
    refine sx_RP.step (pc2 := 74) (ls2 := [(3, .long ((nI (min 9999999 (10 * v + (X j - 48)))).toInt64)), (0, .ref 111), (1, .int (nI lo)), (2, .int (nI hi)), (5, .int (nI j))]) (st2 := []) (w3 := w) rfl rfl ?_
    refine sx_RP.step (pc2 := 77) (ls2 := [(5, .int ((nI j) + 1)), (3, .long ((nI (min 9999999 (10 * v + (X j - 48)))).toInt64)), (0, .ref 111), (1, .int (nI lo)), (2, .int (nI hi))]) (st2 := []) (w3 := w) rfl rfl ?_
    rw [nI_1 j]
    refine sx_RP.step (pc2 := 38) (ls2 := [(5, .int (nI (j + 1))), (3, .long ((nI (min 9999999 (10 * v + (X j - 48)))).toInt64)), (0, .ref 111), (1, .int (nI lo)), (2, .int (nI hi))]) (st2 := []) (w3 := w) rfl rfl ?_
    have hge := rE_ge (p := digi) (n := n) (X := X) (i := j + 1)
    rw [rE_y c1.1 c1.2, show rE digi n X (j + 1) - j = (rE digi n X (j + 1) - (j + 1)) + 1 by omega, show nuV 9999999 X v j ((rE digi n X (j + 1) - (j + 1)) + 1) = nuV 9999999 X (min 9999999 (10 * v + (X j - 48))) (j + 1) (rE digi n X (j + 1) - (j + 1)) from rfl]
    exact sx_RP.ls (sx_lr.cons rfl (sx_lr.cons rfl (sx_lr.cons rfl (sx_lr.cons rfl (sx_lr.cons rfl sx_lr.nil))))) (kk c1.1)
  · refine sx_RP.cu (as := [.int (bA n X j)]) (rest2 := []) (st3 := [.int 0]) rfl rfl rfl rfl rfl (cx_221n (fun z => c1 ((bA_digi (fun z => hM.x z)).mp z))) rfl ?_
    refine sx_RP.step (pc2 := 80) (ls2 := [(0, .ref 111), (1, .int (nI lo)), (2, .int (nI hi)), (3, .long ((nI v).toInt64)), (5, .int (nI j))]) (st2 := []) (w3 := w) rfl rfl ?_
    refine sx_RP.step (pc2 := 81) (ls2 := [(0, .ref 111), (1, .int (nI lo)), (2, .int (nI hi)), (3, .long ((nI v).toInt64)), (5, .int (nI j))]) (st2 := [.long ((nI v).toInt64)]) (w3 := w) rfl rfl ?_
    refine sx_RP.step (pc2 := 82) (ls2 := [(0, .ref 111), (1, .int (nI lo)), (2, .int (nI hi)), (3, .long ((nI v).toInt64)), (5, .int (nI j))]) (st2 := [.int (nI lo), .long ((nI v).toInt64)]) (w3 := w) rfl rfl ?_
    refine sx_RP.step (pc2 := 83) (ls2 := [(0, .ref 111), (1, .int (nI lo)), (2, .int (nI hi)), (3, .long ((nI v).toInt64)), (5, .int (nI j))]) (st2 := [.long ((nI lo).toInt64), .long ((nI v).toInt64)]) (w3 := w) rfl rfl ?_
    refine sx_RP.step (pc2 := 84) (ls2 := [(0, .ref 111), (1, .int (nI lo)), (2, .int (nI hi)), (3, .long ((nI v).toInt64)), (5, .int (nI j))]) (st2 := [.int (lg_cmp ((nI v).toInt64) ((nI lo).toInt64))]) (w3 := w) rfl rfl ?_
    refine sx_RP.br (p1 := 94) (l1 := [(0, .ref 111), (1, .int (nI lo)), (2, .int (nI hi)), (3, .long ((nI v).toInt64)), (5, .int (nI j))]) (s1 := []) (v1 := w) (p2 := 87) (l2 := [(0, .ref 111), (1, .int (nI lo)), (2, .int (nI hi)), (3, .long ((nI v).toInt64)), (5, .int (nI j))]) (s2 := []) (v2 := w) rfl rfl (fun q2 => ?_) (fun q2 => ?_)
    · replace q2 := of_decide_eq_true q2
      refine sx_RP.step (pc2 := 95) (ls2 := [(0, .ref 111), (1, .int (nI lo)), (2, .int (nI hi)), (3, .long ((nI v).toInt64)), (5, .int (nI j))]) (st2 := [.ref 111]) (w3 := w) rfl rfl ?_
      refine sx_RP.callp (as2 := [.ref 111]) (rest2 := []) rfl rfl (sx_inv_v2 (mi := 220) (k := 245) (st := [.ref 111]) (w := w) rfl rfl hI.1.o111 rfl rfl rfl) rfl rfl rfl (y222 (p := p) hI ef ep) (show _ = 98 from rfl) ?_
      rintro r4 w5 ⟨⟨rfl, hv3⟩, hI6, hO4⟩
      show sx_RP _ _ _ _ _ [.int 0] _ _
      refine sx_RP.ret (r := (some (.int 0))) rfl rfl ?_
      have z7 := (lg_ltN (x := v) (l := lo) (by omega) (by omega)).mp q2
      rw [rE_n c1, Nat.sub_self, show nuV 9999999 X v j 0 = v from rfl]
      rw [decide_eq_false (show ¬ (lo ≤ v ∧ v ≤ hi) by omega)]
      exact ⟨⟨rfl, fun z => absurd z (by omega), fun _ => hv3⟩, hI6, hO4.hs⟩
    · replace q2 := of_decide_eq_false q2
      refine sx_RP.step (pc2 := 88) (ls2 := [(0, .ref 111), (1, .int (nI lo)), (2, .int (nI hi)), (3, .long ((nI v).toInt64)), (5, .int (nI j))]) (st2 := [.long ((nI v).toInt64)]) (w3 := w) rfl rfl ?_
      refine sx_RP.step (pc2 := 89) (ls2 := [(0, .ref 111), (1, .int (nI lo)), (2, .int (nI hi)), (3, .long ((nI v).toInt64)), (5, .int (nI j))]) (st2 := [.int (nI hi), .long ((nI v).toInt64)]) (w3 := w) rfl rfl ?_
      refine sx_RP.step (pc2 := 90) (ls2 := [(0, .ref 111), (1, .int (nI lo)), (2, .int (nI hi)), (3, .long ((nI v).toInt64)), (5, .int (nI j))]) (st2 := [.long ((nI hi).toInt64), .long ((nI v).toInt64)]) (w3 := w) rfl rfl ?_
      refine sx_RP.step (pc2 := 91) (ls2 := [(0, .ref 111), (1, .int (nI lo)), (2, .int (nI hi)), (3, .long ((nI v).toInt64)), (5, .int (nI j))]) (st2 := [.int (lg_cmp ((nI v).toInt64) ((nI hi).toInt64))]) (w3 := w) rfl rfl ?_
      refine sx_RP.br (p1 := 99) (l1 := [(0, .ref 111), (1, .int (nI lo)), (2, .int (nI hi)), (3, .long ((nI v).toInt64)), (5, .int (nI j))]) (s1 := []) (v1 := w) (p2 := 94) (l2 := [(0, .ref 111), (1, .int (nI lo)), (2, .int (nI hi)), (3, .long ((nI v).toInt64)), (5, .int (nI j))]) (s2 := []) (v2 := w) rfl rfl (fun q8 => ?_) (fun q8 => ?_)
      · replace q8 := of_decide_eq_true q8
        refine sx_RP.step (pc2 := 100) (ls2 := [(0, .ref 111), (1, .int (nI lo)), (2, .int (nI hi)), (3, .long ((nI v).toInt64)), (5, .int (nI j))]) (st2 := [.ref 111]) (w3 := w) rfl rfl ?_
        refine sx_RP.step (pc2 := 102) (ls2 := [(0, .ref 111), (1, .int (nI lo)), (2, .int (nI hi)), (3, .long ((nI v).toInt64)), (5, .int (nI j))]) (st2 := [.int (nI j), .ref 111]) (w3 := w) rfl rfl ?_
        refine sx_RP.pm (k := 12) hI EM.rf rfl rfl (by decide) rfl (inR.n (show j ≤ 120 by omega)) (show _ = 105 from rfl) (fun w9 hI10 hE11 hv12 hr13 hs14 => ?_)
        refine sx_RP.step (pc2 := 106) (ls2 := [(0, .ref 111), (1, .int (nI lo)), (2, .int (nI hi)), (3, .long ((nI v).toInt64)), (5, .int (nI j))]) (st2 := [.ref 111]) (w3 := w9) rfl rfl ?_
        refine sx_RP.step (pc2 := 107) (ls2 := [(0, .ref 111), (1, .int (nI lo)), (2, .int (nI hi)), (3, .long ((nI v).toInt64)), (5, .int (nI j))]) (st2 := [.long ((nI v).toInt64), .ref 111]) (w3 := w9) rfl rfl ?_
        refine sx_RP.step (pc2 := 108) (ls2 := [(0, .ref 111), (1, .int (nI lo)), (2, .int (nI hi)), (3, .long ((nI v).toInt64)), (5, .int (nI j))]) (st2 := [.int (((nI v).toInt64).toInt32), .ref 111]) (w3 := w9) rfl rfl ?_
        rw [nJ_i (show v < 2 ^ 31 by omega)]
        refine sx_RP.pm (k := 14) hI10 EM.rf rfl rfl (by decide) rfl trivial (show _ = 111 from rfl) (fun w15 hI16 hE17 hv18 hr19 hs20 => ?_)
        refine sx_RP.step (pc2 := 112) (ls2 := [(0, .ref 111), (1, .int (nI lo)), (2, .int (nI hi)), (3, .long ((nI v).toInt64)), (5, .int (nI j))]) (st2 := [.int 1]) (w3 := w15) rfl rfl ?_
        refine sx_RP.ret (r := (some (.int 1))) rfl rfl ?_
        have z21 := mt (lg_ltN (x := v) (l := lo) (by omega) (by omega)).mpr q2
        have z22 := (lg_leN (x := v) (l := hi) (by omega) (by omega)).mp q8
        rw [rE_n c1, Nat.sub_self, show nuV 9999999 X v j 0 = v from rfl]
        rw [decide_eq_true (show lo ≤ v ∧ v ≤ hi by omega)]
        exact ⟨⟨rfl, fun _ => ⟨(hr19 12 (by decide)).trans hv12, hv18, (hr19 13 (by decide)).trans ((hr13 13 (by decide)).trans ef)⟩, fun z => absurd (show lo ≤ v ∧ v ≤ hi by omega) z⟩, hI16, ⟨fun a ha => (hs20 a ha).trans (hs14 a ha), fun j hj => (hr19 j (by omega)).trans (hr13 j (by omega))⟩⟩
      · replace q8 := of_decide_eq_false q8
        refine sx_RP.step (pc2 := 95) (ls2 := [(0, .ref 111), (1, .int (nI lo)), (2, .int (nI hi)), (3, .long ((nI v).toInt64)), (5, .int (nI j))]) (st2 := [.ref 111]) (w3 := w) rfl rfl ?_
        refine sx_RP.callp (as2 := [.ref 111]) (rest2 := []) rfl rfl (sx_inv_v2 (mi := 220) (k := 245) (st := [.ref 111]) (w := w) rfl rfl hI.1.o111 rfl rfl rfl) rfl rfl rfl (y222 (p := p) hI ef ep) (show _ = 98 from rfl) ?_
        rintro r4 w25 ⟨⟨rfl, hv23⟩, hI26, hO24⟩
        show sx_RP _ _ _ _ _ [.int 0] _ _
        refine sx_RP.ret (r := (some (.int 0))) rfl rfl ?_
        have z27 := mt (lg_ltN (x := v) (l := lo) (by omega) (by omega)).mpr q2
        have z28 := mt (lg_leN (x := v) (l := hi) (by omega) (by omega)).mpr q8
        rw [rE_n c1, Nat.sub_self, show nuV 9999999 X v j 0 = v from rfl]
        rw [decide_eq_false (show ¬ (lo ≤ v ∧ v ≤ hi) by omega)]
        exact ⟨⟨rfl, fun z => absurd z (by omega), fun _ => hv23⟩, hI26, hO24.hs⟩
theorem y220L {xs : Option (List Int32)} {d : Nat} {n p : Nat} {X : Nat → Nat} {w : List sx_C} {lo hi : Nat} (hlo : lo < 2 ^ 31) (hhi : hi < 2 ^ 31) (hI : WI w) (hM : MT n X w) (ep : fi w 111 12 = nI p) (ef : fi w 111 13 = -1) : ∀ (fz j v : Nat), n ≤ j + fz → j ≤ n → v ≤ 9999999 → sx_RP xs (d + 3) 220 38 [(0, .ref 111), (1, .int (nI lo)), (2, .int (nI hi)), (3, .long (nI v).toInt64), (5, .int (nI j))] [] w (fun r2 w2 => (r2 = some (.int (b01 (decide (lo ≤ (nuV 9999999 X v j (rE digi n X j - j)) ∧ (nuV 9999999 X v j (rE digi n X j - j)) ≤ hi)))) ∧ ((lo ≤ (nuV 9999999 X v j (rE digi n X j - j)) ∧ (nuV 9999999 X v j (rE digi n X j - j)) ≤ hi) → fi w2 111 12 = nI (rE digi n X j) ∧ fi w2 111 14 = nI ((nuV 9999999 X v j (rE digi n X j - j))) ∧ fi w2 111 13 = -1) ∧ (¬ (lo ≤ (nuV 9999999 X v j (rE digi n X j - j)) ∧ (nuV 9999999 X v j (rE digi n X j - j)) ≤ hi) → fi w2 111 13 = nI p)) ∧ WI w2 ∧ HS w w2)
  | 0, j, v, h, hj, hv => y220B hlo hhi hI hM ep ef hj hv (fun z => absurd z (by omega))
  | fz + 1, j, v, h, hj, hv => y220B hlo hhi hI hM ep ef hj hv (fun z => y220L hlo hhi hI hM ep ef fz (j + 1) _ (by omega) z (Nat.min_le_left _ _))
theorem so_digi {n p : Nat} {X : Nat → Nat} (hX : ∀ i, i < n → X i < 256) : soT n X p = 2 ↔ (p < n ∧ digi (X p) = true) := by
  unfold soT
  split
  · rename_i h
    rw [sort_2 ⟨X p, hX p h⟩]
    exact ⟨fun z => ⟨h, z⟩, fun z => z.2⟩
  · rename_i h
    exact ⟨fun z => absurd z (by decide), fun z => absurd z.1 h⟩
theorem be_digi {n p : Nat} {X : Nat → Nat} (hX : ∀ i, i < n → X i < 256) (h : p < n ∧ digi (X p) = true) : beT n X p = rE digi n X p ∧ vaT n X p = min 1000000 (nuV 9999999 X 0 p (rE digi n X p - p)) := by
  have h2 := (sort_2 ⟨X p, hX p h.1⟩).mpr h.2
  replace h2 : sortN (X p) = 2 := h2
  have hb : beT n X p = rE digi n X p := by
    unfold beT
    rw [if_pos h.1, h2, if_neg (by decide), if_pos rfl, rE_y h.1 h.2]
  refine ⟨hb, ?_⟩
  unfold vaT
  rw [if_pos ((so_digi hX).mpr h), hb]
  exact nuV_min (c1 := 1000000) (c2 := 9999999) (by decide) _ 0 p
theorem nm_no {n p lo hi : Nat} {X : Nat → Nat} (hX : ∀ i, i < n → X i < 256) (h : ¬ (p < n ∧ digi (X p) = true)) : nmT n X p lo hi = false := by
  unfold nmT
  rw [decide_eq_false (fun z => h ((so_digi hX).mp z)), Bool.false_and]
theorem nm_eq {n p lo hi : Nat} {X : Nat → Nat} (hX : ∀ i, i < n → X i < 256) (h : p < n ∧ digi (X p) = true) (hh : hi < 1000000) : nmT n X p lo hi = decide (lo ≤ nuV 9999999 X 0 p (rE digi n X p - p) ∧ nuV 9999999 X 0 p (rE digi n X p - p) ≤ hi) := by
  unfold nmT
  rw [decide_eq_true ((so_digi hX).mpr h), Bool.true_and, (be_digi hX h).2, ← Bool.decide_and]
  exact decide_eq_decide.mpr (by omega)
set_option maxRecDepth 20000 in
set_option maxHeartbeats 4000000 in
theorem y220 {xs : Option (List Int32)} {d : Nat} {w : List sx_C} (hI : WI w) {n p : Nat} {X : Nat → Nat} (hM : MT n X w) (hp : p ≤ n) (ep : fi w 111 12 = nI p) (ef : fi w 111 13 = -1) {lo hi : Nat} (hlo : lo < 2 ^ 31) (hhi : hi < 1000000) : sx_RP xs (d + 3) 220 0 (lv_args 0 [.ref 111, .int (nI lo), .int (nI hi)]) [] w (fun r w2 => (r = some (.int (b01 (nmT n X (rE blk n X p) lo hi))) ∧ (nmT n X (rE blk n X p) lo hi = true → fi w2 111 12 = nI (beT n X (rE blk n X p)) ∧ fi w2 111 14 = nI (vaT n X (rE blk n X p)) ∧ fi w2 111 13 = -1) ∧ (nmT n X (rE blk n X p) lo hi = false → fi w2 111 13 = nI (rE blk n X p))) ∧ WI w2 ∧ HS w w2) := by
  have hn := hM.2.1
  refine sx_RP.step (pc2 := 1) (ls2 := [(0, .ref 111), (1, .int (nI lo)), (2, .int (nI hi))]) (st2 := [.ref 111]) (w3 := w) rfl rfl ?_
  refine sx_RP.callp (as2 := [.ref 111]) (rest2 := []) rfl rfl (sx_inv_v2 (mi := 220) (k := 224) (st := [.ref 111]) (w := w) rfl rfl hI.1.o111 rfl rfl rfl) rfl rfl rfl (y215 hI hM hp ep) (show _ = 4 from rfl) ?_
  rintro r4 w3 ⟨⟨rfl, ep1⟩, hI4, hO2⟩
  show sx_RP _ _ _ _ _ [] _ _
  have hM2 := hM.hs hO2.hs
  have hq : rE blk n X p ≤ n := rE_le hp
  have ef2 := (hO2.2 13 (by decide)).trans ef
  refine sx_RP.step (pc2 := 5) (ls2 := [(0, .ref 111), (1, .int (nI lo)), (2, .int (nI hi))]) (st2 := [.ref 111]) (w3 := w3) rfl rfl ?_
  refine sx_RP.gf (v := .int (fi w3 111 13)) rfl rfl hI4.1.o111 rfl rfl (show _ = 8 from rfl) ?_
  rw [ef2]
  refine sx_RP.step (pc2 := 11) (ls2 := [(0, .ref 111), (1, .int (nI lo)), (2, .int (nI hi))]) (st2 := []) (w3 := w3) rfl rfl ?_
  refine sx_RP.step (pc2 := 12) (ls2 := [(0, .ref 111), (1, .int (nI lo)), (2, .int (nI hi))]) (st2 := [.ref 111]) (w3 := w3) rfl rfl ?_
  refine sx_RP.step (pc2 := 13) (ls2 := [(0, .ref 111), (1, .int (nI lo)), (2, .int (nI hi))]) (st2 := [.ref 111, .ref 111]) (w3 := w3) rfl rfl ?_
  refine sx_RP.gf (v := .int (fi w3 111 12)) rfl rfl hI4.1.o111 rfl rfl (show _ = 16 from rfl) ?_
  rw [ep1]
  refine sx_RP.cu (as := [.ref 111, .int (nI (rE blk n X p))]) (rest2 := []) (st3 := [.int (bA n X (rE blk n X p))]) rfl rfl (sx_inv_v2 (mi := 220) (k := 215) (st := [.int (nI (rE blk n X p)), .ref 111]) (w := w3) rfl rfl hI4.1.o111 rfl rfl rfl) rfl rfl (y216 hI4 hM2 (by omega)) rfl ?_
  rcases Classical.em (rE blk n X p < n ∧ digi (X (rE blk n X p)) = true) with c5 | c5
  · refine sx_RP.cu (as := [.int (bA n X (rE blk n X p))]) (rest2 := []) (st3 := [.int 1]) rfl rfl rfl rfl rfl (cx_221p ((bA_digi (fun z => hM.x z)).mpr c5)) rfl ?_
    refine sx_RP.step (pc2 := 30) (ls2 := [(0, .ref 111), (1, .int (nI lo)), (2, .int (nI hi))]) (st2 := []) (w3 := w3) rfl rfl ?_
    refine sx_RP.step (pc2 := 31) (ls2 := [(0, .ref 111), (1, .int (nI lo)), (2, .int (nI hi))]) (st2 := [.long 0]) (w3 := w3) rfl rfl ?_
    refine sx_RP.step (pc2 := 32) (ls2 := [(3, .long 0), (0, .ref 111), (1, .int (nI lo)), (2, .int (nI hi))]) (st2 := []) (w3 := w3) rfl rfl ?_
    refine sx_RP.step (pc2 := 33) (ls2 := [(3, .long 0), (0, .ref 111), (1, .int (nI lo)), (2, .int (nI hi))]) (st2 := [.ref 111]) (w3 := w3) rfl rfl ?_
    refine sx_RP.gf (v := .int (fi w3 111 12)) rfl rfl hI4.1.o111 rfl rfl (show _ = 36 from rfl) ?_
    rw [ep1]
    refine sx_RP.step (pc2 := 38) (ls2 := [(5, .int (nI (rE blk n X p))), (3, .long 0), (0, .ref 111), (1, .int (nI lo)), (2, .int (nI hi))]) (st2 := []) (w3 := w3) rfl rfl ?_
    have hbe := be_digi (fun i hi => hM.x hi) c5
    rw [nm_eq (fun i hi => hM.x hi) c5 hhi, hbe.1, hbe.2]
    refine sx_RP.ls (sx_lr.cons rfl (sx_lr.cons rfl (sx_lr.cons rfl (sx_lr.cons rfl (sx_lr.cons rfl sx_lr.nil))))) ((y220L hlo (Nat.lt_trans hhi (by decide)) hI4 hM2 ep1 ef2 n (rE blk n X p) 0 (by omega) hq (by decide)).mono9 ?_)
    rintro r9 w9 ⟨⟨h1, h2, h3⟩, h4, h5⟩
    refine ⟨⟨h1, fun z => ?_, fun z => h3 (of_decide_eq_false z)⟩, h4, hO2.hs.tr h5⟩
    have h6 := h2 (of_decide_eq_true z)
    have h7 := of_decide_eq_true z
    rw [Nat.min_eq_right (by omega)]
    exact h6
  · refine sx_RP.cu (as := [.int (bA n X (rE blk n X p))]) (rest2 := []) (st3 := [.int 0]) rfl rfl rfl rfl rfl (cx_221n (fun z => c5 ((bA_digi (fun z => hM.x z)).mp z))) rfl ?_
    refine sx_RP.step (pc2 := 25) (ls2 := [(0, .ref 111), (1, .int (nI lo)), (2, .int (nI hi))]) (st2 := []) (w3 := w3) rfl rfl ?_
    refine sx_RP.step (pc2 := 26) (ls2 := [(0, .ref 111), (1, .int (nI lo)), (2, .int (nI hi))]) (st2 := [.ref 111]) (w3 := w3) rfl rfl ?_
    refine sx_RP.callp (as2 := [.ref 111]) (rest2 := []) rfl rfl (sx_inv_v2 (mi := 220) (k := 245) (st := [.ref 111]) (w := w3) rfl rfl hI4.1.o111 rfl rfl rfl) rfl rfl rfl (y222 (p := rE blk n X p) hI4 ef2 ep1) (show _ = 29 from rfl) ?_
    rintro r4 w8 ⟨⟨rfl, hv6⟩, hI9, hO7⟩
    show sx_RP _ _ _ _ _ [.int 0] _ _
    refine sx_RP.ret (r := (some (.int 0))) rfl rfl ?_
    rw [nm_no (fun i hi => hM.x hi) c5]
    exact ⟨⟨rfl, fun z => absurd z (by decide), fun _ => hv6⟩, hI9, hO2.hs.tr hO7.hs⟩
end
-- 89r.siege.lean.txt
section
def OM (w w2 : List sx_C) : Prop := (∀ a, a ≠ 111 → a ≠ 112 → w2[a]? = w[a]?) ∧ ∀ j, j < 12 → fi w2 111 j = fi w 111 j
theorem OM.rf {w : List sx_C} : OM w w := ⟨fun _ _ _ => rfl, fun _ _ => rfl⟩
theorem OM.tr {w w1 w2 : List sx_C} (h : OM w w1) (h2 : OM w1 w2) : OM w w2 := ⟨fun a h3 h4 => (h2.1 a h3 h4).trans (h.1 a h3 h4), fun j hj => (h2.2 j hj).trans (h.2 j hj)⟩
theorem HS.om {w w2 : List sx_C} (h : HS w w2) : OM w w2 := ⟨fun a h1 _ => h.1 a h1, h.2⟩
theorem OM.st {w w2 : List sx_C} (h : Same 112 w w2) : OM w w2 := ⟨fun a _ h2 => h a h2, fun j _ => fi_same j (h 111 (by decide))⟩
theorem MT.om {n : Nat} {X : Nat → Nat} {w w2 : List sx_C} (h : MT n X w) (e : OM w w2) : MT n X w2 := ⟨(e.2 11 (by decide)).trans h.1, h.2.1, fun i hi => by rw [ia_of (e.1 121 (by decide) (by decide))]; exact h.2.2 i hi⟩
theorem HS.row {w w2 : List sx_C} (h : HS w w2) : ia w2 112 = ia w 112 := ia_of (h.1 112 (by decide))
theorem y214t {xs : Option (List Int32)} {d n h q : Nat} {X : Nat → Nat} {w : List sx_C} (hI : WI w) (hM : MT n X w) (hp : h ≤ n) (ep : fi w 111 12 = nI h) {k : UInt32} {m : Nat} (hk : 100 ≤ k.toNat ∧ k.toNat < 120) (en : sx_sn.getD (k.toNat - 100) 0 = m) (hm : m ≤ 7) (h1 : 1 ≤ m) (hP : rE blk n X h = q) (c : wdT n X q k = true) : sx_RP xs (d + 3) 214 0 (lv_args 0 [.ref 111, .float k]) [] w (fun r w2 => (r = some (.int 1) ∧ fi w2 111 12 = nI q) ∧ WI w2 ∧ H12 w w2) := by
  subst hP
  have z := y214 (xs := xs) (d := d) hI hM hp ep hk en hm h1
  rw [c] at z
  exact z
theorem y214f {xs : Option (List Int32)} {d n h q : Nat} {X : Nat → Nat} {w : List sx_C} (hI : WI w) (hM : MT n X w) (hp : h ≤ n) (ep : fi w 111 12 = nI h) {k : UInt32} {m : Nat} (hk : 100 ≤ k.toNat ∧ k.toNat < 120) (en : sx_sn.getD (k.toNat - 100) 0 = m) (hm : m ≤ 7) (h1 : 1 ≤ m) (hP : rE blk n X h = q) (c : wdT n X q k = false) : sx_RP xs (d + 3) 214 0 (lv_args 0 [.ref 111, .float k]) [] w (fun r w2 => (r = some (.int 0) ∧ fi w2 111 12 = nI q) ∧ WI w2 ∧ H12 w w2) := by
  subst hP
  have z := y214 (xs := xs) (d := d) hI hM hp ep hk en hm h1
  rw [c] at z
  exact z
theorem y213t {xs : Option (List Int32)} {d n h q : Nat} {X : Nat → Nat} {w : List sx_C} (hI : WI w) (hM : MT n X w) (hp : h ≤ n) (ep : fi w 111 12 = nI h) (ef : fi w 111 13 = -1) {k : UInt32} {m : Nat} (hk : 100 ≤ k.toNat ∧ k.toNat < 120) (en : sx_sn.getD (k.toNat - 100) 0 = m) (hm : m ≤ 7) (h1 : 1 ≤ m) (hP : rE blk n X h = q) (c : wdT n X q k = true) : sx_RP xs (d + 4) 213 0 (lv_args 0 [.ref 111, .float k]) [] w (fun r w2 => (r = some (.int 1) ∧ fi w2 111 12 = nI (beT n X q)) ∧ WI w2 ∧ H12 w w2) := by
  subst hP
  have z := y213 (xs := xs) (d := d) hI hM hp ep ef hk en hm h1
  have t := wd_to (fun i hi => hM.x hi) (rE_le hp) (show 1 ≤ wl k by rw [show wl k = m from en]; exact h1) c
  rw [show wl k = m from en] at t
  rw [c, cond_true, t.1] at z
  exact z
theorem y213f {xs : Option (List Int32)} {d n h q : Nat} {X : Nat → Nat} {w : List sx_C} (hI : WI w) (hM : MT n X w) (hp : h ≤ n) (ep : fi w 111 12 = nI h) (ef : fi w 111 13 = -1) {k : UInt32} {m : Nat} (hk : 100 ≤ k.toNat ∧ k.toNat < 120) (en : sx_sn.getD (k.toNat - 100) 0 = m) (hm : m ≤ 7) (h1 : 1 ≤ m) (hP : rE blk n X h = q) (c : wdT n X q k = false) : sx_RP xs (d + 4) 213 0 (lv_args 0 [.ref 111, .float k]) [] w (fun r w2 => (r = some (.int 0) ∧ fi w2 111 12 = nI q) ∧ WI w2 ∧ H12 w w2) := by
  subst hP
  have z := y213 (xs := xs) (d := d) hI hM hp ep ef hk en hm h1
  rw [c, cond_false, Nat.add_zero] at z
  exact z
theorem y228t {xs : Option (List Int32)} {d n h q : Nat} {X : Nat → Nat} {w : List sx_C} (hI : WI w) (hM : MT n X w) (hp : h ≤ n) (ep : fi w 111 12 = nI h) (ef : fi w 111 13 = -1) {k : UInt32} {m : Nat} (hk : 100 ≤ k.toNat ∧ k.toNat < 120) (en : sx_sn.getD (k.toNat - 100) 0 = m) (hm : m ≤ 7) (h1 : 1 ≤ m) (hP : rE blk n X h = q) (c : wdT n X q k = true) : sx_RP xs (d + 5) 228 0 (lv_args 0 [.ref 111, .float k]) [] w (fun r w2 => (r = some (.int 1) ∧ fi w2 111 12 = nI (beT n X q) ∧ fi w2 111 13 = -1) ∧ WI w2 ∧ HS w w2) := by
  subst hP
  have t := wd_to (fun i hi => hM.x hi) (rE_le hp) (show 1 ≤ wl k by rw [show wl k = m from en]; exact h1) c
  rw [show wl k = m from en] at t
  refine (y228 (xs := xs) (d := d) hI hM hp ep ef hk en hm h1).mono9 ?_
  rintro r9 w9 ⟨⟨e1, e2, e3⟩, e4, e5⟩
  have e6 := e2 c
  rw [t.1] at e6
  rw [c] at e1
  exact ⟨⟨e1, e6⟩, e4, e5⟩
theorem y228f {xs : Option (List Int32)} {d n h q : Nat} {X : Nat → Nat} {w : List sx_C} (hI : WI w) (hM : MT n X w) (hp : h ≤ n) (ep : fi w 111 12 = nI h) (ef : fi w 111 13 = -1) {k : UInt32} {m : Nat} (hk : 100 ≤ k.toNat ∧ k.toNat < 120) (en : sx_sn.getD (k.toNat - 100) 0 = m) (hm : m ≤ 7) (h1 : 1 ≤ m) (hP : rE blk n X h = q) (c : wdT n X q k = false) : sx_RP xs (d + 5) 228 0 (lv_args 0 [.ref 111, .float k]) [] w (fun r w2 => (r = some (.int 0) ∧ fi w2 111 13 = nI q) ∧ WI w2 ∧ HS w w2) := by
  subst hP
  refine (y228 (xs := xs) (d := d) hI hM hp ep ef hk en hm h1).mono9 ?_
  rintro r9 w9 ⟨⟨e1, e2, e3⟩, e4, e5⟩
  rw [c] at e1
  exact ⟨⟨e1, e3 c⟩, e4, e5⟩
theorem y220t {xs : Option (List Int32)} {d n h q : Nat} {X : Nat → Nat} {w : List sx_C} (hI : WI w) (hM : MT n X w) (hp : h ≤ n) (ep : fi w 111 12 = nI h) (ef : fi w 111 13 = -1) {lo hi : Nat} (hlo : lo < 2 ^ 31) (hhi : hi < 1000000) (hP : rE blk n X h = q) (c : nmT n X q lo hi = true) : sx_RP xs (d + 3) 220 0 (lv_args 0 [.ref 111, .int (nI lo), .int (nI hi)]) [] w (fun r w2 => (r = some (.int 1) ∧ fi w2 111 12 = nI (beT n X q) ∧ fi w2 111 14 = nI (vaT n X q) ∧ fi w2 111 13 = -1) ∧ WI w2 ∧ HS w w2) := by
  subst hP
  refine (y220 (xs := xs) (d := d) hI hM hp ep ef hlo hhi).mono9 ?_
  rintro r9 w9 ⟨⟨e1, e2, e3⟩, e4, e5⟩
  rw [c] at e1
  exact ⟨⟨e1, e2 c⟩, e4, e5⟩
theorem y220f {xs : Option (List Int32)} {d n h q : Nat} {X : Nat → Nat} {w : List sx_C} (hI : WI w) (hM : MT n X w) (hp : h ≤ n) (ep : fi w 111 12 = nI h) (ef : fi w 111 13 = -1) {lo hi : Nat} (hlo : lo < 2 ^ 31) (hhi : hi < 1000000) (hP : rE blk n X h = q) (c : nmT n X q lo hi = false) : sx_RP xs (d + 3) 220 0 (lv_args 0 [.ref 111, .int (nI lo), .int (nI hi)]) [] w (fun r w2 => (r = some (.int 0) ∧ fi w2 111 13 = nI q) ∧ WI w2 ∧ HS w w2) := by
  subst hP
  refine (y220 (xs := xs) (d := d) hI hM hp ep ef hlo hhi).mono9 ?_
  rintro r9 w9 ⟨⟨e1, e2, e3⟩, e4, e5⟩
  rw [c] at e1
  exact ⟨⟨e1, e3 c⟩, e4, e5⟩
set_option maxRecDepth 20000 in
set_option maxHeartbeats 4000000 in
theorem y225 {xs : Option (List Int32)} {d : Nat} {w : List sx_C} (hI : WI w) {n p : Nat} {X : Nat → Nat} (hM : MT n X w) (hp : p ≤ n) (ep : fi w 111 12 = nI p) (ef : fi w 111 13 = -1) : sx_RP xs (d + 3) 225 0 (lv_args 0 [.ref 111]) [] w (fun r w2 => (r = some (.int (b01 (decide (soT n X (rE blk n X p) = 2)))) ∧ fi w2 111 12 = nI (rE blk n X p)) ∧ WI w2 ∧ H12 w w2) := by
  have hn := hM.2.1
  refine sx_RP.step (pc2 := 1) (ls2 := [(0, .ref 111)]) (st2 := [.ref 111]) (w3 := w) rfl rfl ?_
  refine sx_RP.callp (as2 := [.ref 111]) (rest2 := []) rfl rfl (sx_inv_v2 (mi := 225) (k := 224) (st := [.ref 111]) (w := w) rfl rfl hI.1.o111 rfl rfl rfl) rfl rfl rfl (y215 hI hM hp ep) (show _ = 4 from rfl) ?_
  rintro r4 w3 ⟨⟨rfl, ep1⟩, hI4, hO2⟩
  show sx_RP _ _ _ _ _ [] _ _
  have hM2 := hM.hs hO2.hs
  have hq : rE blk n X p ≤ n := rE_le hp
  have ef2 := (hO2.2 13 (by decide)).trans ef
  refine sx_RP.step (pc2 := 5) (ls2 := [(0, .ref 111)]) (st2 := [.ref 111]) (w3 := w3) rfl rfl ?_
  refine sx_RP.gf (v := .int (fi w3 111 13)) rfl rfl hI4.1.o111 rfl rfl (show _ = 8 from rfl) ?_
  rw [ef2]
  refine sx_RP.step (pc2 := 11) (ls2 := [(0, .ref 111)]) (st2 := []) (w3 := w3) rfl rfl ?_
  refine sx_RP.step (pc2 := 12) (ls2 := [(0, .ref 111)]) (st2 := [.ref 111]) (w3 := w3) rfl rfl ?_
  refine sx_RP.step (pc2 := 13) (ls2 := [(0, .ref 111)]) (st2 := [.ref 111, .ref 111]) (w3 := w3) rfl rfl ?_
  refine sx_RP.gf (v := .int (fi w3 111 12)) rfl rfl hI4.1.o111 rfl rfl (show _ = 16 from rfl) ?_
  rw [ep1]
  refine sx_RP.cu (as := [.ref 111, .int (nI (rE blk n X p))]) (rest2 := []) (st3 := [.int (bA n X (rE blk n X p))]) rfl rfl (sx_inv_v2 (mi := 225) (k := 215) (st := [.int (nI (rE blk n X p)), .ref 111]) (w := w3) rfl rfl hI4.1.o111 rfl rfl rfl) rfl rfl (y216 hI4 hM2 (by omega)) rfl ?_
  rcases Classical.em (rE blk n X p < n ∧ digi (X (rE blk n X p)) = true) with c5 | c5
  · refine sx_RP.cu (as := [.int (bA n X (rE blk n X p))]) (rest2 := []) (st3 := [.int 1]) rfl rfl rfl rfl rfl (cx_221p ((bA_digi (fun z => hM.x z)).mpr c5)) rfl ?_
    refine sx_RP.step (pc2 := 25) (ls2 := [(0, .ref 111)]) (st2 := []) (w3 := w3) rfl rfl ?_
    refine sx_RP.step (pc2 := 26) (ls2 := [(0, .ref 111)]) (st2 := [.int 1]) (w3 := w3) rfl rfl ?_
    refine sx_RP.step (pc2 := 30) (ls2 := [(0, .ref 111)]) (st2 := [.int 1]) (w3 := w3) rfl rfl ?_
    refine sx_RP.ret (r := (some (.int 1))) rfl rfl ?_
    rw [decide_eq_true ((so_digi (fun i hi => hM.x hi)).mpr c5)]
    exact ⟨⟨rfl, ep1⟩, hI4, hO2⟩
  · refine sx_RP.cu (as := [.int (bA n X (rE blk n X p))]) (rest2 := []) (st3 := [.int 0]) rfl rfl rfl rfl rfl (cx_221n (fun z => c5 ((bA_digi (fun z => hM.x z)).mp z))) rfl ?_
    refine sx_RP.step (pc2 := 29) (ls2 := [(0, .ref 111)]) (st2 := []) (w3 := w3) rfl rfl ?_
    refine sx_RP.step (pc2 := 30) (ls2 := [(0, .ref 111)]) (st2 := [.int 0]) (w3 := w3) rfl rfl ?_
    refine sx_RP.ret (r := (some (.int 0))) rfl rfl ?_
    rw [decide_eq_false (fun z => c5 ((so_digi (fun i hi => hM.x hi)).mp z))]
    exact ⟨⟨rfl, ep1⟩, hI4, hO2⟩
end
-- 89s.siege.lean.txt
section
def RdM (n : Nat) (X : Nat → Nat) (q : Bool × Nat × BB) (w : List sx_C) : Prop := (q.1 = true → fi w 111 13 = -1 ∧ rowB (ia w 112) = q.2.2 ∧ ∃ h, h ≤ n ∧ fi w 111 12 = nI h ∧ rE blk n X h = q.2.1) ∧ (q.1 = false → fi w 111 13 = nI q.2.1)
theorem RdM.t {n p h : Nat} {X : Nat → Nat} {b : BB} {w : List sx_C} (e1 : fi w 111 13 = -1) (e2 : rowB (ia w 112) = b) (e3 : h ≤ n) (e4 : fi w 111 12 = nI h) (e5 : rE blk n X h = p) : RdM n X (true, p, b) w := ⟨fun _ => ⟨e1, e2, h, e3, e4, e5⟩, fun z => absurd (show true = false from z) (by decide)⟩
theorem RdM.f {n p : Nat} {X : Nat → Nat} {b : BB} {w : List sx_C} (e1 : fi w 111 13 = nI p) : RdM n X (false, p, b) w := ⟨fun z => absurd (show false = true from z) (by decide), fun _ => e1⟩
end
-- 89t.siege.lean.txt
section
theorem y225t {xs : Option (List Int32)} {d n h q : Nat} {X : Nat → Nat} {w : List sx_C} (hI : WI w) (hM : MT n X w) (hp : h ≤ n) (ep : fi w 111 12 = nI h) (ef : fi w 111 13 = -1) (hP : rE blk n X h = q) (c : soT n X q = 2) : sx_RP xs (d + 3) 225 0 (lv_args 0 [.ref 111]) [] w (fun r w2 => (r = some (.int 1) ∧ fi w2 111 12 = nI q) ∧ WI w2 ∧ H12 w w2) := by
  subst hP
  have z := y225 (xs := xs) (d := d) hI hM hp ep ef
  rw [decide_eq_true c] at z
  exact z
theorem y225f {xs : Option (List Int32)} {d n h q : Nat} {X : Nat → Nat} {w : List sx_C} (hI : WI w) (hM : MT n X w) (hp : h ≤ n) (ep : fi w 111 12 = nI h) (ef : fi w 111 13 = -1) (hP : rE blk n X h = q) (c : ¬ soT n X q = 2) : sx_RP xs (d + 3) 225 0 (lv_args 0 [.ref 111]) [] w (fun r w2 => (r = some (.int 0) ∧ fi w2 111 12 = nI q) ∧ WI w2 ∧ H12 w w2) := by
  subst hP
  have z := y225 (xs := xs) (d := d) hI hM hp ep ef
  rw [decide_eq_false c] at z
  exact z
end
-- 89u.siege.lean.txt
section
theorem b01_in (b : Bool) : inR (b01 b) 1 := by
  cases b
  · exact ⟨0, by decide, rfl⟩
  · exact ⟨1, by decide, rfl⟩
end
-- 89v.siege.lean.txt
section
theorem nP_ge {n p z : Nat} {X : Nat → Nat} (h : z ≤ p) : z ≤ nP n X p := Nat.le_trans h (Nat.le_trans beT_ge rE_ge)
theorem wtT_ge {n p lo hi z : Nat} {X : Nat → Nat} {k : UInt32} (h : z ≤ p) : z ≤ (wtT n X p k lo hi).2 := by
  unfold wtT
  split
  · exact nP_ge h
  · exact h
theorem bA_59 {n i : Nat} {X : Nat → Nat} (hX : i < n → X i < 256) : bA n X i = 59 ↔ (i < n ∧ X i = 59) := by
  unfold bA
  split
  · rename_i h
    rw [show (59 : Int32) = nI 59 from rfl, nI_eq (by have := hX h; omega) (by decide)]
    exact ⟨fun z => ⟨h, z⟩, fun z => z.2⟩
  · rename_i h
    exact ⟨fun z => absurd z (by decide), fun z => absurd z.1 h⟩
theorem sort_3 : ∀ c : Fin 256, sortN c.val = 3 ↔ c.val = 59 := by decide +kernel
theorem so_3 {n p : Nat} {X : Nat → Nat} (hX : ∀ i, i < n → X i < 256) : soT n X p = 3 ↔ (p < n ∧ X p = 59) := by
  unfold soT
  split
  · rename_i h
    rw [sort_3 ⟨X p, hX p h⟩]
    exact ⟨fun z => ⟨h, z⟩, fun z => z.2⟩
  · rename_i h
    exact ⟨fun z => absurd z (by decide), fun z => absurd z.1 h⟩
theorem so_0 {n p : Nat} {X : Nat → Nat} (hX : ∀ i, i < n → X i < 256) : soT n X p = 0 ↔ ¬ p < n := by
  unfold soT
  split
  · rename_i h
    have := (sort_le ⟨X p, hX p h⟩).1
    exact ⟨fun z => absurd z (by show ¬ sortN (X p) = 0; have t : 1 ≤ sortN (X p) := this; omega), fun z => absurd h z⟩
  · rename_i h
    exact ⟨fun _ => h, fun _ => rfl⟩
theorem be_3 {n p : Nat} {X : Nat → Nat} (h : p < n) (h3 : sortN (X p) = 3) : beT n X p = p + 1 := by
  unfold beT
  rw [if_pos h, h3, if_neg (by decide), if_neg (by decide)]
def OE (w w2 : List sx_C) : Prop := (∀ a, a ≠ 111 → a ≠ 112 → w2[a]? = w[a]?) ∧ ∀ j, j < 11 → fi w2 111 j = fi w 111 j
theorem OM.oe {w w2 : List sx_C} (h : OM w w2) : OE w w2 := ⟨h.1, fun j hj => h.2 j (by omega)⟩
theorem OE.tr {w w1 w2 : List sx_C} (h : OE w w1) (h2 : OE w1 w2) : OE w w2 := ⟨fun a h3 h4 => (h2.1 a h3 h4).trans (h.1 a h3 h4), fun j hj => (h2.2 j hj).trans (h.2 j hj)⟩
theorem OE.st {w w2 : List sx_C} (h : Same 112 w w2) : OE w w2 := (OM.st h).oe
set_option maxRecDepth 20000 in
set_option maxHeartbeats 4000000 in
theorem y210a {xs : Option (List Int32)} {d : Nat} {w : List sx_C} (hI : WI w) {n p : Nat} {X : Nat → Nat} {c f : Int32} (hM : MT n X w) (hp : p ≤ n) (ef : fi w 111 13 = nI p) : sx_RP xs (d + 8) 210 83 [(0, .ref 111), (1, .int c), (2, .int f)] [] w (fun r w2 => (r = some (.int (-1 - nI p)) ∧ ia w2 112 = ia w 115 ∧ fi w2 111 11 = 0) ∧ WI w2 ∧ OE w w2) := by
  have hn := hM.2.1
  refine sx_RP.step (pc2 := 84) (ls2 := [(0, .ref 111), (1, .int c), (2, .int f)]) (st2 := [.ref 111]) (w3 := w) rfl rfl ?_
  refine sx_RP.gf (v := .int (fi w 111 13)) rfl rfl hI.1.o111 rfl rfl (show _ = 87 from rfl) ?_
  rw [ef]
  refine sx_RP.br (p1 := 106) (l1 := [(0, .ref 111), (1, .int c), (2, .int f)]) (s1 := []) (v1 := w) rfl rfl (fun _ => ?_) (fun q => absurd (nI_le (a := 0) (b := p) (Nat.zero_le _) (by omega)) (of_decide_eq_false q))
  refine sx_RP.step (pc2 := 107) (ls2 := [(0, .ref 111), (1, .int c), (2, .int f)]) (st2 := [.ref 111]) (w3 := w) rfl rfl ?_
  refine sx_RP.step (pc2 := 108) (ls2 := [(0, .ref 111), (1, .int c), (2, .int f)]) (st2 := [.int 0, .ref 111]) (w3 := w) rfl rfl ?_
  refine sx_RP.xJ (k := 11) hI rfl rfl (by decide) rfl ⟨0, by decide, rfl⟩ (show _ = 111 from rfl) (fun w1 hI2 hs3 hv4 hr5 => ?_)
  have hO6 := OE.tr (OM.rf.oe) (⟨fun a h1 _ => hs3 a h1, fun j hj => hr5 j (by omega)⟩ : OE w w1)
  have ex7 := (hr5 13 (by decide)).trans ef
  refine sx_RP.step (pc2 := 112) (ls2 := [(0, .ref 111), (1, .int c), (2, .int f)]) (st2 := [.ref 111]) (w3 := w1) rfl rfl ?_
  refine sx_RP.gf (v := .int (fi w1 111 13)) rfl rfl hI2.1.o111 rfl rfl (show _ = 115 from rfl) ?_
  rw [ex7]
  refine sx_RP.br (p2 := 118) (l2 := [(0, .ref 111), (1, .int c), (2, .int f)]) (s2 := []) (v2 := w1) rfl rfl (fun q => absurd (of_decide_eq_true q) (fun z => absurd z (Int32.not_lt.mpr (nI_le (a := 0) (b := p) (Nat.zero_le _) (by omega))))) (fun _ => ?_)
  refine sx_RP.step (pc2 := 119) (ls2 := [(0, .ref 111), (1, .int c), (2, .int f)]) (st2 := [.ref 111]) (w3 := w1) rfl rfl ?_
  refine sx_RP.gf (v := .ref 115) rfl rfl hI2.1.o111 rfl rfl (show _ = 122 from rfl) ?_
  refine sx_RP.step (pc2 := 123) (ls2 := [(0, .ref 111), (1, .int c), (2, .int f)]) (st2 := [.ref 111, .ref 115]) (w3 := w1) rfl rfl ?_
  refine sx_RP.gf (v := .ref 112) rfl rfl hI2.1.o111 rfl rfl (show _ = 126 from rfl) ?_
  refine sx_RP.callp (as2 := [.ref 115, .ref 112]) (rest2 := []) rfl rfl rfl rfl rfl rfl (K175 hI2 (a := 115) (b := 112) (by decide) (by decide) (by decide)) (show _ = 129 from rfl) ?_
  rintro r4 w12 ⟨rfl, hI13, hl8⟩
  show sx_RP _ _ _ _ _ [] _ _
  have hO9 := OE.tr hO6 (OE.st hl8.1)
  have ex10 := (fi_same 13 (hl8.1 111 (by decide))).trans ex7
  have ex11 := (fi_same 11 (hl8.1 111 (by decide))).trans hv4
  refine sx_RP.step (pc2 := 130) (ls2 := [(0, .ref 111), (1, .int c), (2, .int f)]) (st2 := [.int (-1)]) (w3 := w12) rfl rfl ?_
  refine sx_RP.step (pc2 := 131) (ls2 := [(0, .ref 111), (1, .int c), (2, .int f)]) (st2 := [.ref 111, .int (-1)]) (w3 := w12) rfl rfl ?_
  refine sx_RP.gf (v := .int (fi w12 111 13)) rfl rfl hI13.1.o111 rfl rfl (show _ = 134 from rfl) ?_
  rw [ex10]
  refine sx_RP.step (pc2 := 135) (ls2 := [(0, .ref 111), (1, .int c), (2, .int f)]) (st2 := [.int ((-1) - (nI p))]) (w3 := w12) rfl rfl ?_
  refine sx_RP.ret (r := (some (.int ((-1) - (nI p))))) rfl rfl ?_
  exact ⟨⟨rfl, hl8.2.trans (ia_of (hO6.1 115 (by decide) (by decide))), ex11⟩, hI13, hO9⟩
set_option maxRecDepth 20000 in
set_option maxHeartbeats 4000000 in
theorem y210b {xs : Option (List Int32)} {d : Nat} {w : List sx_C} (hI : WI w) {n p : Nat} {X : Nat → Nat} {c f : Int32} (hM : MT n X w) (hp : p ≤ n) (ef : fi w 111 13 = -1) (ep : fi w 111 12 = nI p) (hl : p < n) : sx_RP xs (d + 8) 210 83 [(0, .ref 111), (1, .int c), (2, .int f)] [] w (fun r w2 => (r = some (.int (-1 - nI p)) ∧ ia w2 112 = ia w 115 ∧ fi w2 111 11 = 0) ∧ WI w2 ∧ OE w w2) := by
  have hn := hM.2.1
  refine sx_RP.step (pc2 := 84) (ls2 := [(0, .ref 111), (1, .int c), (2, .int f)]) (st2 := [.ref 111]) (w3 := w) rfl rfl ?_
  refine sx_RP.gf (v := .int (fi w 111 13)) rfl rfl hI.1.o111 rfl rfl (show _ = 87 from rfl) ?_
  rw [ef]
  refine sx_RP.step (pc2 := 90) (ls2 := [(0, .ref 111), (1, .int c), (2, .int f)]) (st2 := []) (w3 := w) rfl rfl ?_
  refine sx_RP.step (pc2 := 91) (ls2 := [(0, .ref 111), (1, .int c), (2, .int f)]) (st2 := [.ref 111]) (w3 := w) rfl rfl ?_
  refine sx_RP.gf (v := .int (fi w 111 12)) rfl rfl hI.1.o111 rfl rfl (show _ = 94 from rfl) ?_
  rw [ep]
  refine sx_RP.step (pc2 := 95) (ls2 := [(0, .ref 111), (1, .int c), (2, .int f)]) (st2 := [.ref 111, .int (nI p)]) (w3 := w) rfl rfl ?_
  refine sx_RP.gf (v := .int (fi w 111 11)) rfl rfl hI.1.o111 rfl rfl (show _ = 98 from rfl) ?_
  rw [hM.1]
  refine sx_RP.br (p2 := 101) (l2 := [(0, .ref 111), (1, .int c), (2, .int f)]) (s2 := []) (v2 := w) rfl rfl (fun q => absurd (of_decide_eq_true q) (fun z => absurd ((nI_leI (a := n) (b := p) (by omega) (by omega)).mp z) (by omega))) (fun _ => ?_)
  refine sx_RP.step (pc2 := 102) (ls2 := [(0, .ref 111), (1, .int c), (2, .int f)]) (st2 := [.ref 111]) (w3 := w) rfl rfl ?_
  refine sx_RP.callp (as2 := [.ref 111]) (rest2 := []) rfl rfl (sx_inv_v2 (mi := 210) (k := 245) (st := [.ref 111]) (w := w) rfl rfl hI.1.o111 rfl rfl rfl) rfl rfl rfl (y222 (p := p) hI ef ep) (show _ = 105 from rfl) ?_
  rintro r4 w3 ⟨⟨rfl, hv1⟩, hI4, hO2⟩
  show sx_RP _ _ _ _ _ [.int 0] _ _
  have hx1 := (HS.om hO2.hs).oe
  have hx3 := HS.row hO2.hs
  refine sx_RP.step (pc2 := 106) (ls2 := [(0, .ref 111), (1, .int c), (2, .int f)]) (st2 := []) (w3 := w3) rfl rfl ?_
  refine sx_RP.step (pc2 := 107) (ls2 := [(0, .ref 111), (1, .int c), (2, .int f)]) (st2 := [.ref 111]) (w3 := w3) rfl rfl ?_
  refine sx_RP.step (pc2 := 108) (ls2 := [(0, .ref 111), (1, .int c), (2, .int f)]) (st2 := [.int 0, .ref 111]) (w3 := w3) rfl rfl ?_
  refine sx_RP.xJ (k := 11) hI4 rfl rfl (by decide) rfl ⟨0, by decide, rfl⟩ (show _ = 111 from rfl) (fun w5 hI6 hs7 hv8 hr9 => ?_)
  have hO10 := OE.tr (hx1) (⟨fun a h1 _ => hs7 a h1, fun j hj => hr9 j (by omega)⟩ : OE w3 w5)
  have ex11 := (hr9 13 (by decide)).trans hv1
  refine sx_RP.step (pc2 := 112) (ls2 := [(0, .ref 111), (1, .int c), (2, .int f)]) (st2 := [.ref 111]) (w3 := w5) rfl rfl ?_
  refine sx_RP.gf (v := .int (fi w5 111 13)) rfl rfl hI6.1.o111 rfl rfl (show _ = 115 from rfl) ?_
  rw [ex11]
  refine sx_RP.br (p2 := 118) (l2 := [(0, .ref 111), (1, .int c), (2, .int f)]) (s2 := []) (v2 := w5) rfl rfl (fun q => absurd (of_decide_eq_true q) (fun z => absurd z (Int32.not_lt.mpr (nI_le (a := 0) (b := p) (Nat.zero_le _) (by omega))))) (fun _ => ?_)
  refine sx_RP.step (pc2 := 119) (ls2 := [(0, .ref 111), (1, .int c), (2, .int f)]) (st2 := [.ref 111]) (w3 := w5) rfl rfl ?_
  refine sx_RP.gf (v := .ref 115) rfl rfl hI6.1.o111 rfl rfl (show _ = 122 from rfl) ?_
  refine sx_RP.step (pc2 := 123) (ls2 := [(0, .ref 111), (1, .int c), (2, .int f)]) (st2 := [.ref 111, .ref 115]) (w3 := w5) rfl rfl ?_
  refine sx_RP.gf (v := .ref 112) rfl rfl hI6.1.o111 rfl rfl (show _ = 126 from rfl) ?_
  refine sx_RP.callp (as2 := [.ref 115, .ref 112]) (rest2 := []) rfl rfl rfl rfl rfl rfl (K175 hI6 (a := 115) (b := 112) (by decide) (by decide) (by decide)) (show _ = 129 from rfl) ?_
  rintro r4 w16 ⟨rfl, hI17, hl12⟩
  show sx_RP _ _ _ _ _ [] _ _
  have hO13 := OE.tr hO10 (OE.st hl12.1)
  have ex14 := (fi_same 13 (hl12.1 111 (by decide))).trans ex11
  have ex15 := (fi_same 11 (hl12.1 111 (by decide))).trans hv8
  refine sx_RP.step (pc2 := 130) (ls2 := [(0, .ref 111), (1, .int c), (2, .int f)]) (st2 := [.int (-1)]) (w3 := w16) rfl rfl ?_
  refine sx_RP.step (pc2 := 131) (ls2 := [(0, .ref 111), (1, .int c), (2, .int f)]) (st2 := [.ref 111, .int (-1)]) (w3 := w16) rfl rfl ?_
  refine sx_RP.gf (v := .int (fi w16 111 13)) rfl rfl hI17.1.o111 rfl rfl (show _ = 134 from rfl) ?_
  rw [ex14]
  refine sx_RP.step (pc2 := 135) (ls2 := [(0, .ref 111), (1, .int c), (2, .int f)]) (st2 := [.int ((-1) - (nI p))]) (w3 := w16) rfl rfl ?_
  refine sx_RP.ret (r := (some (.int ((-1) - (nI p))))) rfl rfl ?_
  exact ⟨⟨rfl, hl12.2.trans (ia_of (hO10.1 115 (by decide) (by decide))), ex15⟩, hI17, hO13⟩
set_option maxRecDepth 20000 in
set_option maxHeartbeats 4000000 in
theorem y210c {xs : Option (List Int32)} {d : Nat} {w : List sx_C} (hI : WI w) {n p : Nat} {X : Nat → Nat} {c f : Int32} (hM : MT n X w) (hp : p ≤ n) (ef : fi w 111 13 = -1) (ep : fi w 111 12 = nI p) (hl : ¬ p < n) : sx_RP xs (d + 8) 210 83 [(0, .ref 111), (1, .int c), (2, .int f)] [] w (fun r w2 => (r = some (.int c) ∧ ia w2 112 = ia w 112 ∧ fi w2 111 11 = 0) ∧ WI w2 ∧ OE w w2) := by
  have hn := hM.2.1
  refine sx_RP.step (pc2 := 84) (ls2 := [(0, .ref 111), (1, .int c), (2, .int f)]) (st2 := [.ref 111]) (w3 := w) rfl rfl ?_
  refine sx_RP.gf (v := .int (fi w 111 13)) rfl rfl hI.1.o111 rfl rfl (show _ = 87 from rfl) ?_
  rw [ef]
  refine sx_RP.step (pc2 := 90) (ls2 := [(0, .ref 111), (1, .int c), (2, .int f)]) (st2 := []) (w3 := w) rfl rfl ?_
  refine sx_RP.step (pc2 := 91) (ls2 := [(0, .ref 111), (1, .int c), (2, .int f)]) (st2 := [.ref 111]) (w3 := w) rfl rfl ?_
  refine sx_RP.gf (v := .int (fi w 111 12)) rfl rfl hI.1.o111 rfl rfl (show _ = 94 from rfl) ?_
  rw [ep]
  refine sx_RP.step (pc2 := 95) (ls2 := [(0, .ref 111), (1, .int c), (2, .int f)]) (st2 := [.ref 111, .int (nI p)]) (w3 := w) rfl rfl ?_
  refine sx_RP.gf (v := .int (fi w 111 11)) rfl rfl hI.1.o111 rfl rfl (show _ = 98 from rfl) ?_
  rw [hM.1]
  refine sx_RP.br (p1 := 106) (l1 := [(0, .ref 111), (1, .int c), (2, .int f)]) (s1 := []) (v1 := w) rfl rfl (fun _ => ?_) (fun q => absurd (nI_le (a := n) (b := p) (by omega) (by omega)) (of_decide_eq_false q))
  refine sx_RP.step (pc2 := 107) (ls2 := [(0, .ref 111), (1, .int c), (2, .int f)]) (st2 := [.ref 111]) (w3 := w) rfl rfl ?_
  refine sx_RP.step (pc2 := 108) (ls2 := [(0, .ref 111), (1, .int c), (2, .int f)]) (st2 := [.int 0, .ref 111]) (w3 := w) rfl rfl ?_
  refine sx_RP.xJ (k := 11) hI rfl rfl (by decide) rfl ⟨0, by decide, rfl⟩ (show _ = 111 from rfl) (fun w1 hI2 hs3 hv4 hr5 => ?_)
  have hO6 := OE.tr (OM.rf.oe) (⟨fun a h1 _ => hs3 a h1, fun j hj => hr5 j (by omega)⟩ : OE w w1)
  have ex7 := (hr5 13 (by decide)).trans ef
  refine sx_RP.step (pc2 := 112) (ls2 := [(0, .ref 111), (1, .int c), (2, .int f)]) (st2 := [.ref 111]) (w3 := w1) rfl rfl ?_
  refine sx_RP.gf (v := .int (fi w1 111 13)) rfl rfl hI2.1.o111 rfl rfl (show _ = 115 from rfl) ?_
  rw [ex7]
  refine sx_RP.step (pc2 := 136) (ls2 := [(0, .ref 111), (1, .int c), (2, .int f)]) (st2 := []) (w3 := w1) rfl rfl ?_
  refine sx_RP.step (pc2 := 137) (ls2 := [(0, .ref 111), (1, .int c), (2, .int f)]) (st2 := [.int c]) (w3 := w1) rfl rfl ?_
  refine sx_RP.ret (r := (some (.int c))) rfl rfl ?_
  exact ⟨⟨rfl, ia_of (hs3 112 (by decide)), hv4⟩, hI2, hO6⟩
end
-- 89w.siegeM.lean.txt
section
def TBm (t : BT) : Prop := ∀ i, i < t.2.2.2.length → ∃ j, j < 256 ∧ t.2.2.2.getD i 0 = nI j
theorem tapM_len9 {w : List sx_C} {n : Nat} (en : fi w 111 11 = nI n) (hn : n ≤ 120) : (FMb w).2.2.2.length = n := by
  show (tapM w).length = n
  unfold tapM
  rw [List.length_map, List.length_range, en, iN_n (by omega)]
theorem MT_of {w : List sx_C} (hI : WI w) (hY : TBm (FMb w)) : MT (FMb w).2.2.2.length (sieX (FMb w)) w := by
  obtain ⟨n, hn, en⟩ := hI.m.2.1
  have el := tapM_len9 en hn
  have hY2 := hY
  unfold TBm at hY2
  rw [el] at hY2 ⊢
  refine ⟨en, hn, fun i hi => ?_⟩
  obtain ⟨j, hj, e⟩ := hY2 i hi
  have ea : (tapM w).getD i 0 = (ia w 121).getD i 0 := by
    unfold tapM
    rw [map_at (by rw [en, iN_n (by omega)]; exact hi)]
  have ex : sieX (FMb w) i = j := by
    show iN ((tapM w).getD i 0) = j
    rw [show (tapM w).getD i 0 = nI j from e, iN_n (by omega)]
  rw [ex]
  exact ⟨ea.symm.trans e, hj⟩
end
-- 89x.keeps.lean.txt
section
theorem BR.same {b b2 : BB} (h : BR b) (e : b2.2.2 = b.2.2) : BR b2 := by
  unfold BR at h ⊢
  rw [e]
  exact h
theorem BR.o {b : BB} {o : Nat} (h : BR b) (ho : o ≤ 999999) : BR (setO (nI o) b) := by
  obtain ⟨_, m, r, _, _, h3⟩ := h
  exact ⟨o, m, r, rfl, ho, h3⟩
theorem BR.m {b : BB} {m : Nat} (h : BR b) (h1 : 1 ≤ m) (h2 : m ≤ 999) : BR (setM (nI m) b) := by
  obtain ⟨o, _, r, q1, q2, _, _, _, q6⟩ := h
  exact ⟨o, m, r, q1, q2, rfl, h1, h2, q6⟩
theorem BR.r {b : BB} {r : Nat} (h : BR b) (h1 : 1 ≤ r) (h2 : r ≤ 99) : BR (setR (nI r) b) := by
  obtain ⟨o, m, _, q1, q2, q3, q4, q5, _⟩ := h
  exact ⟨o, m, r, q1, q2, q3, q4, q5, rfl, h1, h2⟩
def GT (t : BT) : Prop := BR t.1 ∧ (t.2.1 = 1 → BR t.2.2.1)
section SXGT
variable {t : BT}
theorem GT.c {b : BB} (h : GT t) (hb : BR b) : GT (b, t.2) := ⟨hb, h.2⟩
end SXGT
section SXBT
variable {n : Nat} {X : Nat → Nat}
end SXBT
def bOK (w : List sx_C) : Prop := ∀ (a : Nat) (l : List Int32), w[a]? = some (.inl (2, l)) → ∀ v, v ∈ l → ∃ j, j < 256 ∧ v = sgn j
def sx_by (w w2 : List sx_C) : Prop := bOK w → bOK w2
theorem sx_by.rf (w : List sx_C) : sx_by w w := id
theorem sx_by.of {w w2 : List sx_C} (h : w2 = w) : sx_by w w2 := by subst h; exact sx_by.rf w2
theorem sx_by.tr {a b c : List sx_C} (h : sx_by a b) (h2 : sx_by b c) : sx_by a c := fun z => h2 (h z)
theorem sx_by.set {w : List sx_C} {a : Nat} {c : sx_C} (hc : bOK w → ∀ l : List Int32, c = .inl (2, l) → ∀ v, v ∈ l → ∃ j, j < 256 ∧ v = sgn j) : sx_by w (w.set a c) := by
  intro hb b l hl
  by_cases e : a = b
  · subst e
    have hlt : a < w.length := by
      have := (List.getElem?_eq_some_iff.mp hl).1
      rwa [List.length_set] at this
    rw [List.getElem?_set_self hlt] at hl
    exact hc hb l (Option.some.inj hl)
  · rw [List.getElem?_set_ne e] at hl
    exact hb b l hl
theorem nar_back : ∀ c : Fin 256, (nI c.val).toInt8.toBitVec = BitVec.ofNat 8 c.val := by decide +kernel
theorem nar_sgn (x : Int32) : ∃ j, j < 256 ∧ vp_nar .byte x = sgn j := by
  have hlt : x.toInt8.toBitVec.toNat < 256 := x.toInt8.toBitVec.isLt
  refine ⟨x.toInt8.toBitVec.toNat, hlt, ?_⟩
  rw [vp_nar_byte]
  unfold sgn
  congr 1
  apply Int8.toBitVec_inj.mp
  rw [nar_back ⟨_, hlt⟩]
  simp
theorem sx_y_pf {mi : Nat} {idx : Nat} {ls : sx_L} {pc : Nat} {st : List Value} {w : List sx_C} {F : sx_F} (h : sx_pf mi idx ls pc st w = some F) : sx_by w F.2.2.2 := by
  simp only [sx_pf, Bool.cond_eq_ite] at h
  (repeat' split at h) <;> first | (cases h; done) | (cases h; exact sx_by.set (fun _ l e => by cases e))
theorem sx_y_iast {ls : sx_L} {pc : Nat} {st : List Value} {w : List sx_C} {F : sx_F} (h : sx_iast ls pc st w = some F) : sx_by w F.2.2.2 := by
  simp only [sx_iast, Bool.cond_eq_ite] at h
  (repeat' split at h) <;> first | (cases h; done) | (cases h; exact sx_by.set (fun _ l e => absurd (Prod.mk.inj (Sum.inl.inj e)).1 (by decide)))
theorem sx_y_bast {ls : sx_L} {pc : Nat} {st : List Value} {w : List sx_C} {F : sx_F} (h : sx_bast ls pc st w = some F) : sx_by w F.2.2.2 := by
  simp only [sx_bast, Bool.cond_eq_ite] at h
  (repeat' split at h) <;> first | (cases h; done) | (cases h; exact sx_by.set (fun _ l e => absurd (Prod.mk.inj (Sum.inl.inj e)).1 (by decide))) | skip
  rename_i x i a r l0 hl0 hin
  cases h
  refine sx_by.set (fun hb l e v hv => ?_)
  have e2 := (Prod.mk.inj (Sum.inl.inj e)).2
  subst e2
  rcases List.mem_or_eq_of_mem_set hv with q | q
  · exact hb _ _ hl0 v q
  · rw [q]
    exact nar_sgn _
theorem sx_y_last {ls : sx_L} {pc : Nat} {st : List Value} {w : List sx_C} {F : sx_F} (h : sx_last ls pc st w = some F) : sx_by w F.2.2.2 := by
  simp only [sx_last, Bool.cond_eq_ite] at h
  (repeat' split at h) <;> first | (cases h; done) | (cases h; exact sx_by.set (fun _ l e => by cases e))
theorem sx_y_aast {ls : sx_L} {pc : Nat} {st : List Value} {w : List sx_C} {F : sx_F} (h : sx_aast ls pc st w = some F) : sx_by w F.2.2.2 := by
  simp only [sx_aast, Bool.cond_eq_ite] at h
  (repeat' split at h) <;> first | (cases h; done) | (cases h; exact sx_by.set (fun _ l e => by cases e))
theorem sx_y_acp {o idx : Nat} {ls : sx_L} {pc : Nat} {st : List Value} {w : List sx_C} {F : sx_F} (h : sx_acp o idx ls pc st w = some F) : sx_by w F.2.2.2 := by
  simp only [sx_acp, Bool.cond_eq_ite] at h
  (repeat' split at h) <;> first | (cases h; done) | (cases h; exact sx_by.set (fun _ l e => by cases e)) | (cases h; exact sx_by.set (fun _ l e => absurd (Prod.mk.inj (Sum.inl.inj e)).1 (by decide)))
set_option maxHeartbeats 4000000 in
theorem sx_y_step {md : Bool} (hm : md = false) {xs : Option (List Int32)} {mi pc n : Nat} {i : Instr} {ls : sx_L} {st : List Value} {w : List sx_C} {F : sx_F} (h : sx_step md xs mi pc i n ls st w = some F) : sx_by w F.2.2.2 := by
  unfold sx_step at h
  split at h
  · cases h; exact sx_by.rf _
  · cases h; exact sx_by.rf _
  · cases h; exact sx_by.rf _
  · cases h; exact sx_by.rf _
  · exact sx_by.of (sx_w_kc h)
  · exact sx_by.of (sx_w_kc h)
  · exact sx_by.of (sx_w_kj h)
  · exact sx_by.of (sx_w_ldi h)
  · exact sx_by.of (sx_w_ldi h)
  · exact sx_by.of (sx_w_ldl h)
  · exact sx_by.of (sx_w_ldl h)
  · exact sx_by.of (sx_w_lda h)
  · exact sx_by.of (sx_w_lda h)
  · exact sx_by.of (sx_w_sti h)
  · exact sx_by.of (sx_w_sti h)
  · exact sx_by.of (sx_w_stl h)
  · exact sx_by.of (sx_w_stl h)
  · exact sx_by.of (sx_w_sta h)
  · exact sx_by.of (sx_w_sta h)
  · exact sx_by.of (sx_w_inc h)
  · exact sx_by.of (sx_w_ii h)
  · exact sx_by.of (sx_w_ii h)
  · exact sx_by.of (sx_w_ii h)
  · exact sx_by.of (sx_w_ii h)
  · exact sx_by.of (sx_w_ii h)
  · exact sx_by.of (sx_w_ii h)
  · exact sx_by.of (sx_w_iz h)
  · exact sx_by.of (sx_w_iz h)
  · exact sx_by.of (sx_w_i1 h)
  · exact sx_by.of (sx_w_i1 h)
  · exact sx_by.of (sx_w_i1 h)
  · exact sx_by.of (sx_w_jj h)
  · exact sx_by.of (sx_w_jj h)
  · exact sx_by.of (sx_w_jj h)
  · exact sx_by.of (sx_w_jj h)
  · exact sx_by.of (sx_w_jj h)
  · exact sx_by.of (sx_w_jj h)
  · exact sx_by.of (sx_w_ji h)
  · exact sx_by.of (sx_w_ji h)
  · split at h
    · cases h; exact sx_by.rf _
    · cases h
  · split at h
    · cases h; exact sx_by.rf _
    · cases h
  · split at h
    · cases h; exact sx_by.rf _
    · cases h
  · exact sx_by.of (sx_w_dup h)
  · exact sx_by.of (sx_w_pop h)
  · exact sx_by.of (sx_w_dup2 h)
  · exact sx_by.of (sx_w_pop2 h)
  · exact sx_by.of (sx_w_b1 h)
  · exact sx_by.of (sx_w_b2 h)
  · exact sx_by.of (sx_w_b1 h)
  · exact sx_by.of (sx_w_b2 h)
  · exact sx_by.of (sx_w_b1 h)
  · exact sx_by.of (sx_w_b2 h)
  · exact sx_by.of (sx_w_b1 h)
  · exact sx_by.of (sx_w_b2 h)
  · exact sx_by.of (sx_w_b1 h)
  · exact sx_by.of (sx_w_b2 h)
  · exact sx_by.of (sx_w_b1 h)
  · exact sx_by.of (sx_w_b2 h)
  · split at h
    · cases h; exact sx_by.rf _
    · cases h
  · exact sx_by.of (sx_w_sw h)
  · exact sx_by.of (sx_w_gf h)
  · exact sx_y_pf h
  · exact sx_by.of (sx_w_gs h)
  · exact sx_by.of (sx_w_iald h)
  · exact sx_by.of (sx_w_bald h)
  · exact sx_by.of (sx_w_lald h)
  · exact sx_by.of (sx_w_aald h)
  · exact sx_y_iast h
  · exact sx_y_bast h
  · exact sx_y_last h
  · exact sx_y_aast h
  · exact sx_by.of (sx_w_len h)
  · cases md with
    | false => cases h
    | true => cases hm
  · cases md with
    | false => cases h
    | true => cases hm
  · cases md with
    | false => cases h
    | true => cases hm
  · cases md with
    | false => cases h
    | true => cases hm
  · exact sx_by.of (sx_w_obj h)
  · cases md with
    | true => cases h
    | false => exact sx_y_acp h
  · exact sx_by.of (sx_w_str h)
  · cases h
theorem sx_y_run (xs : Option (List Int32)) : ∀ (f d mi pc : Nat) (ls : sx_L) (st : List Value) (w : List sx_C) (r : Option Value) (w2 : List sx_C), sx_run false xs f d mi pc ls st w = some (r, w2) → sx_by w w2
  | 0, d, mi, pc, ls, st, w, r, w2, h => by cases h
  | f + 1, d, mi, pc, ls, st, w, r, w2, h => by
    unfold sx_run at h
    split at h
    · cases h
    · rename_i i n hi
      split at h
      · rename_i pc2 ls2 st2 w3 hs
        exact (sx_y_step rfl hs).tr (sx_y_run xs f d mi pc2 ls2 st2 w3 r w2 h)
      · split at h
        · cases h
          exact sx_by.rf _
        · split at h
          · rename_i mi2 as rest d2 hinv
            simp only [Bool.cond_eq_ite] at h
            split at h
            · split at h
              · rename_i r2 w4 hc
                exact (sx_y_run xs f d2 mi2 0 _ [] w r2 w4 hc).tr (sx_y_run xs f (d2 + 1) mi (pc + 3) ls _ w4 r w2 h)
              · cases h
            · cases h
          · cases h
theorem sx_RP.byk {xs : Option (List Int32)} {d mi pc : Nat} {ls : sx_L} {st : List Value} {w : List sx_C} {P : Option Value → List sx_C → Prop} (h : sx_RP xs d mi pc ls st w P) : sx_RP xs d mi pc ls st w (fun r w2 => P r w2 ∧ (bOK w → bOK w2)) := by
  obtain ⟨r, w2, ⟨f, hf⟩, hp⟩ := h
  exact ⟨r, w2, ⟨f, hf⟩, hp, sx_y_run xs f d mi pc ls st w r w2 hf⟩
theorem sgn_0 : sgn 0 = 0 := by decide
theorem TBy_of {w : List sx_C} (hI : WI w) (hb : bOK w) : TBy w := by
  intro i
  by_cases hi : i < (ia w 97).length
  · have hm : (ia w 97).getD i 0 ∈ ia w 97 := by
      rw [List.getD_eq_getElem?_getD, List.getElem?_eq_getElem hi]
      exact List.getElem_mem hi
    obtain ⟨j, hj, e⟩ := hb 97 _ hI.1.a97.1 _ hm
    exact ⟨j, hj, e⟩
  · refine ⟨0, by decide, ?_⟩
    rw [List.getD_eq_getElem?_getD, List.getElem?_eq_none (by omega), sgn_0]
    rfl
end
-- 89y01.far1.lean.txt
section
def nb (c n : Nat) : Prop := ∃ j, j < 4 ∧ bsd c j = nI n
def nbb (c n : Nat) : Bool := (List.range 4).any (fun j => bsd c j == nI n)
theorem nbb_iff {c n : Nat} : nbb c n = true ↔ nb c n := by
  unfold nbb nb
  rw [List.any_eq_true]
  constructor
  · rintro ⟨j, hj, e⟩
    exact ⟨j, List.mem_range.mp hj, eq_of_beq e⟩
  · rintro ⟨j, hj, e⟩
    exact ⟨j, List.mem_range.mpr hj, by rw [e]; exact beq_self_eq_true _⟩
theorem nbb_sym : ∀ c, c < 48 → ∀ n, n < 48 → nbb c n = true → nbb n c = true := by decide +kernel
theorem nb.sym {c n : Nat} (hc : c < 48) (hn : n < 48) (h : nb c n) : nb n c := nbb_iff.mp (nbb_sym c hc n hn (nbb_iff.mpr h))
theorem nb.ne {c n : Nat} (hc : c < 48) (h : nb c n) : n ≠ c := by
  obtain ⟨j, hj, e⟩ := h
  intro z
  rw [z] at e
  exact bsd_self c hc j hj e
def rlx (k : Nat → Nat) (op : Nat → Bool) (D : Nat → Nat) : Prop := ∀ c n, c < 48 → n < 48 → nb c n → op n = true → D n ≤ D c + k n
def slt (k : Nat → Nat) (op : Nat → Bool) (src : Nat) (D : Nat → Nat) : Prop := D src = 0 ∧ (∀ c, c < 48 → D c ≤ 1000000) ∧ rlx k op D ∧ ∀ c, c < 48 → c ≠ src → D c < 1000000 → op c = true ∧ ∃ n, n < 48 ∧ nb n c ∧ D n + k c ≤ D c
section SXLS
variable {k : Nat → Nat} {op : Nat → Bool} {src : Nat} {D E G : Nat → Nat}
theorem slt_le (hk : ∀ c, c < 48 → op c = true → 1 ≤ k c) (hE : rlx k op E) (hG : ∀ c, c < 48 → E c ≤ G c ∨ (op c = true ∧ ∃ n, n < 48 ∧ nb n c ∧ G n + k c ≤ G c)) : ∀ c, c < 48 → E c ≤ G c := by
  have key : ∀ v c, c < 48 → G c ≤ v → E c ≤ G c := by
    intro v
    induction v with
    | zero =>
      intro c hc h
      rcases hG c hc with q | ⟨ho, n, hn, hb, q⟩
      · exact q
      · have := hk c hc ho
        omega
    | succ v ih =>
      intro c hc h
      rcases hG c hc with q | ⟨ho, n, hn, hb, q⟩
      · exact q
      · have h1 := hk c hc ho
        have h2 := ih n hn (by omega)
        have h3 := hE n c hn hc hb ho
        omega
  exact fun c hc => key _ c hc (Nat.le_refl _)
theorem slt.le (hk : ∀ c, c < 48 → op c = true → 1 ≤ k c) (h1 : slt k op src D) (h2 : slt k op src E) : ∀ c, c < 48 → D c ≤ E c := by
  refine slt_le hk h1.2.2.1 (fun c hc => ?_)
  by_cases e : c = src
  · subst e
    exact Or.inl (by rw [h1.1]; exact Nat.zero_le _)
  · by_cases hi : E c < 1000000
    · exact Or.inr (h2.2.2.2 c hc e hi)
    · have := h1.2.1 c hc
      exact Or.inl (by omega)
theorem slt.eq (hk : ∀ c, c < 48 → op c = true → 1 ≤ k c) (h1 : slt k op src D) (h2 : slt k op src E) : ∀ c, c < 48 → D c = E c := fun c hc => Nat.le_antisymm (h1.le hk h2 c hc) (h2.le hk h1 c hc)
end SXLS
section SXLR
variable {k : Nat → Nat} {D : Nat → Nat → Nat}
def all1 (_ : Nat) : Bool := true
theorem slt_first (hD : ∀ t, t < 48 → slt k all1 t (D t)) (hF : ∀ t c, t < 48 → c < 48 → D t c < 1000000) (hk : ∀ c, c < 48 → 1 ≤ k c) {t : Nat} (ht : t < 48) : ∀ v c, c < 48 → c ≠ t → D t c ≤ v → ∃ n, n < 48 ∧ nb t n ∧ D n c + k n ≤ D t c := by
  intro v
  induction v with
  | zero =>
    intro c hc hne h
    obtain ⟨_, m, hm, hb, q⟩ := (hD t ht).2.2.2 c hc hne (hF t c ht hc)
    have := hk c hc
    omega
  | succ v ih =>
    intro c hc hne h
    obtain ⟨_, m, hm, hb, q⟩ := (hD t ht).2.2.2 c hc hne (hF t c ht hc)
    have h1 := hk c hc
    by_cases e : m = t
    · subst e
      refine ⟨c, hc, hb, ?_⟩
      rw [(hD c hc).1]
      omega
    · obtain ⟨n, hn, hb2, q2⟩ := ih m hm e (by omega)
      have h3 := (hD n hn).2.2.1 m c hm hc hb rfl
      exact ⟨n, hn, hb2, by omega⟩
theorem slt_step (hD : ∀ t, t < 48 → slt k all1 t (D t)) (hF : ∀ t c, t < 48 → c < 48 → D t c < 1000000) (hk : ∀ c, c < 48 → 1 ≤ k c) {c n : Nat} (hc : c < 48) (hn : n < 48) (hb : nb c n) : ∀ x, x < 48 → D n x ≤ D c x + k c := by
  refine slt_le (k := k) (op := all1) (fun c hc _ => hk c hc) (hD n hn).2.2.1 (G := fun x => D c x + k c) (fun x hx => ?_)
  by_cases e : x = c
  · subst e
    refine Or.inl ?_
    have h1 := (hD n hn).2.2.1 n x hn hx (hb.sym hx hn) rfl
    rw [(hD n hn).1] at h1
    show D n x ≤ D x x + k x
    omega
  · obtain ⟨_, m, hm, hb2, q⟩ := (hD c hc).2.2.2 x hx e (hF c x hc hx)
    exact Or.inr ⟨rfl, m, hm, hb2, by show D c m + k c + k x ≤ D c x + k c; omega⟩
theorem slt_rev (hD : ∀ t, t < 48 → slt k all1 t (D t)) (hF : ∀ t c, t < 48 → c < 48 → D t c < 1000000) (hk : ∀ c, c < 48 → 1 ≤ k c) {f t : Nat} (hf : f < 48) (ht : t < 48) : D t f + k t = D f t + k f := by
  have hE : rlx k all1 (fun t => D t f + k t) := by
    intro c n hc hn hb _
    have := slt_step hD hF hk hc hn hb f hf
    show D n f + k n ≤ D c f + k c + k n
    omega
  have hG : rlx k all1 (fun t => D f t + k f) := by
    intro c n hc hn hb _
    have := (hD f hf).2.2.1 c n hc hn hb rfl
    show D f n + k f ≤ D f c + k f + k n
    omega
  apply Nat.le_antisymm
  · refine slt_le (k := k) (op := all1) (fun c hc _ => hk c hc) hE (G := fun t => D f t + k f) (fun x hx => ?_) t ht
    by_cases e : x = f
    · subst e
      exact Or.inl (Nat.le_refl _)
    · obtain ⟨_, m, hm, hb2, q⟩ := (hD f hf).2.2.2 x hx e (hF f x hf hx)
      exact Or.inr ⟨rfl, m, hm, hb2, by show D f m + k f + k x ≤ D f x + k f; omega⟩
  · refine slt_le (k := k) (op := all1) (fun c hc _ => hk c hc) hG (G := fun t => D t f + k t) (fun x hx => ?_) t ht
    by_cases e : x = f
    · subst e
      exact Or.inl (Nat.le_refl _)
    · obtain ⟨n, hn, hb2, q⟩ := slt_first hD hF hk hx _ f hf (Ne.symm e) (Nat.le_refl _)
      exact Or.inr ⟨rfl, n, hn, hb2.sym hx hn, by show D n f + k n + k x ≤ D x f + k x; omega⟩
end SXLR
def wr1G (kf : Nat → Int32) (c : Nat) (wy : List Int32) (n : Int32) : List Int32 := if n < 0 then wy else if kf n.toNatClampNeg = -1 then wy else if wy.getD n.toNatClampNeg 0 < 0 then wy.set n.toNatClampNeg (wy.getD c 0 + kf n.toNatClampNeg) else if wy.getD n.toNatClampNeg 0 ≤ wy.getD c 0 + kf n.toNatClampNeg then wy else wy.set n.toNatClampNeg (wy.getD c 0 + kf n.toNatClampNeg)
def wrG (kf : Nat → Int32) (c : Nat) : Nat → Nat → List Int32 → List Int32
  | 0, _, wy => wy
  | k + 1, j, wy => wrG kf c k (j + 1) (wr1G kf c wy (bsd c j))
def wkG (kf : Nat → Int32) : Nat → Int32 → List Int32 → List Int32 → List Int32 × List Int32
  | 0, _, wy, su => (wy, su)
  | f + 1, b, wy, su => if b < 0 then (wy, su) else wkG kf f (nrF (wrG kf b.toNatClampNeg 4 0 wy) (su.set b.toNatClampNeg 1) 48 0 (-1)) (wrG kf b.toNatClampNeg 4 0 wy) (su.set b.toNatClampNeg 1)
def crK (s : List Int32) (n : Nat) : Int32 := crF (s.getD (7 + n) 0)
theorem crF_ne (x : Int32) : ¬ crF x = -1 := by
  obtain ⟨j, h1, h2, e⟩ := crF_n x
  rw [e]
  exact nI_ne1 (by omega)
theorem wr1_G {s : List Int32} {c : Nat} {wy : List Int32} {n : Int32} : wr1 s c wy n = wr1G (crK s) c wy n := by
  unfold wr1 wr1G
  rw [if_neg (show ¬ crK s n.toNatClampNeg = -1 from crF_ne _)]
  rfl
theorem wrF_G {s : List Int32} {c : Nat} : ∀ (k j : Nat) (wy : List Int32), wrF s c k j wy = wrG (crK s) c k j wy
  | 0, _, _ => rfl
  | k + 1, j, wy => by
    show wrF s c k (j + 1) (wr1 s c wy (bsd c j)) = wrG (crK s) c k (j + 1) (wr1G (crK s) c wy (bsd c j))
    rw [wr1_G]
    exact wrF_G k (j + 1) _
theorem wkF_G {s : List Int32} : ∀ (f : Nat) (b : Int32) (wy su : List Int32), wkF s f b wy su = wkG (crK s) f b wy su
  | 0, _, _, _ => rfl
  | f + 1, b, wy, su => by
    unfold wkF wkG
    split
    · rfl
    · rw [wrF_G]
      exact wkF_G f _ _ _
def kfr (kf : Nat → Int32) (k : Nat → Nat) (op : Nat → Bool) : Prop := ∀ n, n < 48 → (op n = false ∧ kf n = -1) ∨ (op n = true ∧ 1 ≤ k n ∧ k n ≤ 9 ∧ kf n = nI (k n))
def rep (B : Nat) (wy : List Int32) (D : Nat → Nat) : Prop := wy.length = 48 ∧ ∀ c, c < 48 → (D c = 1000000 ∧ wy.getD c 0 = -1) ∨ (D c ≤ B ∧ wy.getD c 0 = nI (D c))
def updN (D : Nat → Nat) (n v : Nat) : Nat → Nat := fun x => if x = n then v else D x
section SXDJ
variable {kf : Nat → Int32} {k : Nat → Nat} {op : Nat → Bool} {D : Nat → Nat} {wy su : List Int32} {B c : Nat}
theorem rep.up {B2 : Nat} (h : rep B wy D) (hb : B ≤ B2) : rep B2 wy D := ⟨h.1, fun c hc => by
  rcases h.2 c hc with q | q
  · exact Or.inl q
  · exact Or.inr ⟨by omega, q.2⟩⟩
theorem rep.fin (h : rep B wy D) (hc : c < 48) (hB : B < 1000000) : ¬ wy.getD c 0 < 0 ↔ D c < 1000000 := by
  rcases h.2 c hc with ⟨q1, q2⟩ | ⟨q1, q2⟩
  · rw [q2, q1]
    exact ⟨fun z => absurd (show (-1 : Int32) < 0 by decide) z, fun z => absurd z (by omega)⟩
  · rw [q2]
    exact ⟨fun _ => by omega, fun _ => nI_pos (by omega)⟩
theorem rep.at (h : rep B wy D) (hc : c < 48) (hf : D c < 1000000) : D c ≤ B ∧ wy.getD c 0 = nI (D c) := by
  rcases h.2 c hc with ⟨q1, _⟩ | q
  · omega
  · exact q
theorem rep.put {n v : Nat} (h : rep B wy D) (hn : n < 48) (hv : v ≤ B) : rep B (wy.set n (nI v)) (updN D n v) := by
  refine ⟨by rw [List.length_set]; exact h.1, fun c hc => ?_⟩
  rw [gd_set (by rw [h.1]; exact hn)]
  unfold updN
  by_cases e : c = n
  · rw [if_pos e, if_pos e]
    exact Or.inr ⟨hv, rfl⟩
  · rw [if_neg e, if_neg e]
    exact h.2 c hc
theorem wr1G_rep {n : Nat} (hkf : kfr kf k op) (h : rep B wy D) (hB : B < 500000) (hc : c < 48) (hf : D c < 1000000) (hcB : D c + 9 ≤ B) (hn : n < 48) (hne : n ≠ c) : ∃ D2, rep B (wr1G kf c wy (nI n)) D2 ∧ (∀ x, x ≠ n → D2 x = D x) ∧ (op n = true → D2 n ≤ D c + k n) ∧ (D2 n = D n ∨ (op n = true ∧ D2 n = D c + k n)) ∧ D2 n ≤ D n := by
  unfold wr1G
  rw [if_neg (nI_pos (by omega)), nI_clamp (by omega)]
  rcases hkf n hn with ⟨ho, hk⟩ | ⟨ho, hk1, hk9, hk⟩
  · rw [if_pos hk]
    exact ⟨D, h, fun _ _ => rfl, fun z => absurd (z.symm.trans ho) (by decide), Or.inl rfl, Nat.le_refl _⟩
  · obtain ⟨hc1, hc2⟩ := h.at hc hf
    rw [hk, if_neg (nI_ne1 (by omega)), hc2, nI_add]
    have key : ∀ (hlt : D c + k n ≤ D n), ∃ D2, rep B (wy.set n (nI (D c + k n))) D2 ∧ (∀ x, x ≠ n → D2 x = D x) ∧ (op n = true → D2 n ≤ D c + k n) ∧ (D2 n = D n ∨ (op n = true ∧ D2 n = D c + k n)) ∧ D2 n ≤ D n := by
      intro hlt
      refine ⟨updN D n (D c + k n), h.put hn (by omega), fun x hx => by unfold updN; rw [if_neg hx], ?_, ?_, ?_⟩
      · intro _
        unfold updN
        rw [if_pos rfl]
        exact Nat.le_refl _
      · exact Or.inr ⟨ho, by unfold updN; rw [if_pos rfl]⟩
      · unfold updN
        rw [if_pos rfl]
        exact hlt
    rcases h.2 n hn with ⟨q1, q2⟩ | ⟨q1, q2⟩
    · rw [q2, if_pos (by decide)]
      exact key (by omega)
    · rw [q2, if_neg (nI_pos (by omega))]
      by_cases hle : D n ≤ D c + k n
      · rw [if_pos ((nI_leI (by omega) (by omega)).mpr hle)]
        exact ⟨D, h, fun _ _ => rfl, fun _ => hle, Or.inl rfl, Nat.le_refl _⟩
      · rw [if_neg (fun z => hle ((nI_leI (by omega) (by omega)).mp z))]
        exact key (by omega)
theorem wrG_rep (hkf : kfr kf k op) (hB : B < 500000) (hc : c < 48) : ∀ (q j : Nat) (wy : List Int32) (D : Nat → Nat), j + q = 4 → rep B wy D → D c < 1000000 → D c + 9 ≤ B → ∃ D2, rep B (wrG kf c q j wy) D2 ∧ D2 c = D c ∧ (∀ x, x < 48 → D2 x ≤ D x) ∧ (∀ x, x < 48 → D2 x = D x ∨ (nb c x ∧ op x = true ∧ D2 x = D c + k x)) ∧ ∀ i, j ≤ i → i < 4 → ∀ x, x < 48 → bsd c i = nI x → op x = true → D2 x ≤ D c + k x
  | 0, j, wy, D, hj, h, hf, hcB => ⟨D, h, rfl, fun _ _ => Nat.le_refl _, fun _ _ => Or.inl rfl, fun i h1 h2 => by omega⟩
  | q + 1, j, wy, D, hj, h, hf, hcB => by
    show ∃ D2, rep B (wrG kf c q (j + 1) (wr1G kf c wy (bsd c j))) D2 ∧ _
    rcases bsd_nat c hc j (by omega) with e | ⟨hn, e⟩
    · have e1 : wr1G kf c wy (bsd c j) = wy := by
        unfold wr1G
        rw [e]
        exact if_pos (by decide)
      rw [e1]
      obtain ⟨D2, h1, h2, h3, h4, h5⟩ := wrG_rep hkf hB hc q (j + 1) wy D (by omega) h hf hcB
      refine ⟨D2, h1, h2, h3, h4, fun i hi1 hi2 x hx hb ho => ?_⟩
      by_cases ei : i = j
      · rw [ei, e] at hb
        exact absurd hb.symm (nI_ne1 (by omega))
      · exact h5 i (by omega) hi2 x hx hb ho
    · have hnb : nb c (bsd c j).toNatClampNeg := ⟨j, by omega, e⟩
      have hne : (bsd c j).toNatClampNeg ≠ c := hnb.ne hc
      obtain ⟨D1, g1, g2, g3, g4, g5⟩ := wr1G_rep (n := (bsd c j).toNatClampNeg) hkf h hB hc hf hcB hn hne
      rw [← e] at g1
      have hc1 : D1 c = D c := g2 c (Ne.symm hne)
      obtain ⟨D2, h1, h2, h3, h4, h5⟩ := wrG_rep hkf hB hc q (j + 1) _ D1 (by omega) g1 (by omega) (by omega)
      have hle : ∀ x, x < 48 → D1 x ≤ D x := by
        intro x hx
        by_cases ex : x = (bsd c j).toNatClampNeg
        · rw [ex]
          exact g5
        · rw [g2 x ex]
          exact Nat.le_refl _
      refine ⟨D2, h1, h2.trans hc1, fun x hx => Nat.le_trans (h3 x hx) (hle x hx), fun x hx => ?_, fun i hi1 hi2 x hx hb ho => ?_⟩
      · rcases h4 x hx with z | ⟨z1, z2, z3⟩
        · by_cases ex : x = (bsd c j).toNatClampNeg
          · rw [z, ex]
            rcases g4 with y | ⟨y1, y2⟩
            · exact Or.inl y
            · exact Or.inr ⟨hnb, y1, y2⟩
          · exact Or.inl (z.trans (g2 x ex))
        · exact Or.inr ⟨z1, z2, by rw [z3, hc1]⟩
      · by_cases ei : i = j
        · subst ei
          have ex : x = (bsd c i).toNatClampNeg := by
            rw [hb, nI_clamp (by omega)]
          have := h3 x hx
          rw [ex] at this ho ⊢
          exact Nat.le_trans this (g3 ho)
        · have := h5 i (by omega) hi2 x hx hb ho
          rw [hc1] at this
          exact this
theorem nrF_near (h : rep B wy D) (hB : B < 500000) : ∀ (q c : Nat) (b : Int32), c + q = 48 → ((b < 0 ∧ ∀ x, x < c → ¬ su.getD x 0 = 0 ∨ D x = 1000000) ∨ ∃ x, x < 48 ∧ b = nI x ∧ su.getD x 0 = 0 ∧ D x < 1000000 ∧ ∀ y, y < c → su.getD y 0 = 0 → D x ≤ D y) → ((nrF wy su q c b < 0 ∧ ∀ x, x < 48 → ¬ su.getD x 0 = 0 ∨ D x = 1000000) ∨ ∃ x, x < 48 ∧ nrF wy su q c b = nI x ∧ su.getD x 0 = 0 ∧ D x < 1000000 ∧ ∀ y, y < 48 → su.getD y 0 = 0 → D x ≤ D y)
  | 0, c, b, hc, hb => by
    obtain rfl : c = 48 := by omega
    exact hb
  | q + 1, c, b, hc, hb => by
    refine nrF_near h hB q (c + 1) (nr1 wy su b c) (by omega) ?_
    have hi : D c = 1000000 ∨ D c < 1000000 := by
      rcases h.2 c (by omega) with z | z
      · exact Or.inl z.1
      · exact Or.inr (by omega)
    unfold nr1
    by_cases h1 : su.getD c 0 = 0
    · rw [if_neg (fun z => z h1)]
      by_cases h2 : wy.getD c 0 < 0
      · rw [if_pos h2]
        have hI : D c = 1000000 := by
          rcases hi with z | z
          · exact z
          · exact absurd h2 ((h.fin (by omega) (by omega)).mpr z)
        rcases hb with ⟨z1, z2⟩ | ⟨x, hx, z1, z2, z3, z4⟩
        · exact Or.inl ⟨z1, fun x hx => by
            by_cases e : x = c
            · rw [e]
              exact Or.inr hI
            · exact z2 x (by omega)⟩
        · exact Or.inr ⟨x, hx, z1, z2, z3, fun y hy hs => by
            by_cases e : y = c
            · rw [e, hI]
              omega
            · exact z4 y (by omega) hs⟩
      · rw [if_neg h2]
        have hF : D c < 1000000 := (h.fin (by omega) (by omega)).mp h2
        rcases hb with ⟨z1, z2⟩ | ⟨x, hx, z1, z2, z3, z4⟩
        · rw [if_pos z1]
          exact Or.inr ⟨c, by omega, rfl, h1, hF, fun y hy hs => by
            by_cases e : y = c
            · rw [e]
              exact Nat.le_refl _
            · rcases z2 y (by omega) with u | u
              · exact absurd hs u
              · rw [u]
                omega⟩
        · rw [z1, if_neg (nI_pos (by omega)), nI_clamp (by omega), (h.at hx z3).2, (h.at (by omega) hF).2]
          have b1 := (h.at hx z3).1
          have b2 := (h.at (c := c) (by omega) hF).1
          by_cases hle : D x ≤ D c
          · rw [if_pos ((nI_leI (by omega) (by omega)).mpr hle)]
            exact Or.inr ⟨x, hx, rfl, z2, z3, fun y hy hs => by
              by_cases e : y = c
              · rw [e]
                exact hle
              · exact z4 y (by omega) hs⟩
          · rw [if_neg (fun z => hle ((nI_leI (by omega) (by omega)).mp z))]
            exact Or.inr ⟨c, by omega, rfl, h1, hF, fun y hy hs => by
              by_cases e : y = c
              · rw [e]
                exact Nat.le_refl _
              · have := z4 y (by omega) hs
                omega⟩
    · rw [if_pos h1]
      rcases hb with ⟨z1, z2⟩ | ⟨x, hx, z1, z2, z3, z4⟩
      · exact Or.inl ⟨z1, fun x hx => by
          by_cases e : x = c
          · rw [e]
            exact Or.inl h1
          · exact z2 x (by omega)⟩
      · exact Or.inr ⟨x, hx, z1, z2, z3, fun y hy hs => by
          by_cases e : y = c
          · rw [e] at hs
            exact absurd hs h1
          · exact z4 y (by omega) hs⟩
end SXDJ
section SXDK
variable {kf : Nat → Int32} {k : Nat → Nat} {op : Nat → Bool} {src : Nat}
theorem wkG_slt (hkf : kfr kf k op) (hsrc : src < 48) : ∀ (f : Nat) (b : Int32) (wy su : List Int32) (M : Nat) (D : Nat → Nat), M + 9 * f ≤ 2000 → su.length = 48 → su.count 0 < f → rep (M + 9) wy D → D src = 0 → (∀ c, c < 48 → ¬ su.getD c 0 = 0 → D c ≤ M) → (∀ c, c < 48 → su.getD c 0 = 0 → M ≤ D c) → (∀ c, c < 48 → ¬ su.getD c 0 = 0 → ∀ n, n < 48 → nb c n → op n = true → D n ≤ D c + k n) → (∀ c, c < 48 → c ≠ src → D c < 1000000 → op c = true ∧ ∃ m, m < 48 ∧ ¬ su.getD m 0 = 0 ∧ nb m c ∧ D m + k c ≤ D c) → ((b < 0 ∧ ∀ x, x < 48 → ¬ su.getD x 0 = 0 ∨ D x = 1000000) ∨ ∃ x, x < 48 ∧ b = nI x ∧ su.getD x 0 = 0 ∧ D x < 1000000 ∧ ∀ y, y < 48 → su.getD y 0 = 0 → D x ≤ D y) → ∃ D2, rep 3000 (wkG kf f b wy su).1 D2 ∧ slt k op src D2
  | 0, _, _, _, _, _, _, _, hf, _, _, _, _, _, _, _ => absurd hf (by omega)
  | f + 1, b, wy, su, M, D, hM, hs, hf, hr, h0, hc1, hd1, he1, hf1, hb => by
    rw [wkG]
    rcases hb with ⟨h1, h2⟩ | ⟨c, hc, rfl, hsu, hfin, hmin⟩
    · rw [if_pos h1]
      refine ⟨D, hr.up (by omega), h0, fun c hc => ?_, fun c n hc hn hb ho => ?_, fun c hc hne hfin => ?_⟩
      · rcases hr.2 c hc with z | z
        · omega
        · omega
      · rcases h2 c hc with z | z
        · exact he1 c hc z n hn hb ho
        · rcases hr.2 n hn with y | y
          · omega
          · omega
      · obtain ⟨g1, m, hm, _, hb, q⟩ := hf1 c hc hne hfin
        exact ⟨g1, m, hm, hb, q⟩
    · rw [if_neg (nI_pos (by omega)), nI_clamp (by omega)]
      have hcM := (hr.at hc hfin).1
      have hMc := hd1 c hc hsu
      obtain ⟨D2, g1, g2, g3, g4, g5⟩ := wrG_rep (B := D c + 9) hkf (by omega) hc 4 0 wy D rfl (hr.up (by omega)) hfin (Nat.le_refl _)
      have hsu2 : ∀ x, x < 48 → ¬ (su.set c 1).getD x 0 = 0 → x = c ∨ ¬ su.getD x 0 = 0 := by
        intro x hx h
        rw [gd_set (by omega)] at h
        by_cases e : x = c
        · exact Or.inl e
        · rw [if_neg e] at h
          exact Or.inr h
      have hsu3 : ∀ x, x < 48 → (su.set c 1).getD x 0 = 0 → x ≠ c ∧ su.getD x 0 = 0 := by
        intro x hx h
        rw [gd_set (by omega)] at h
        by_cases e : x = c
        · rw [if_pos e] at h
          exact absurd h (by decide)
        · rw [if_neg e] at h
          exact ⟨e, h⟩
      have hsu4 : ∀ x, x < 48 → ¬ su.getD x 0 = 0 → ¬ (su.set c 1).getD x 0 = 0 := by
        intro x hx h
        rw [gd_set (by omega)]
        split
        · decide
        · exact h
      have hkeep : ∀ x, x < 48 → ¬ su.getD x 0 = 0 → D2 x = D x := by
        intro x hx h
        rcases g4 x hx with z | ⟨_, z2, z3⟩
        · exact z
        · have y1 := hc1 x hx h
          have y2 := g3 x hx
          rcases hkf x hx with ⟨u, _⟩ | ⟨_, u1, _, _⟩
          · exact absurd (u.symm.trans z2) (by decide)
          · omega
      refine wkG_slt hkf hsrc f _ _ _ (D c) D2 (by omega) (sx_ls hs) ?_ g1 ?_ ?_ ?_ ?_ ?_ (nrF_near (B := D c + 9) g1 (by omega) 48 0 (-1) rfl (Or.inl ⟨by decide, fun x hx => absurd hx (by omega)⟩))
      · have h5 := cnt_pos (su := su) (c := c) (by omega) hsu
        have h6 : (su.set c 1).count 0 ≤ su.count 0 - 1 := cnt_set (f := su.count 0 - 1) (by omega) hsu (by omega)
        omega
      · have := g3 src hsrc
        omega
      · intro x hx h
        rcases hsu2 x hx h with rfl | h
        · omega
        · have := hkeep x hx h
          have := hc1 x hx h
          omega
      · intro x hx h
        obtain ⟨e1, e2⟩ := hsu3 x hx h
        rcases g4 x hx with z | ⟨_, z2, z3⟩
        · rw [z]
          exact hmin x hx e2
        · omega
      · intro x hx h n hn hb ho
        rcases hsu2 x hx h with rfl | h
        · obtain ⟨j, hj, e⟩ := hb
          have := g5 j (Nat.zero_le _) hj n hn e ho
          omega
        · have y1 := he1 x hx h n hn hb ho
          have y2 := hkeep x hx h
          have y3 := g3 n hn
          omega
      · intro x hx hne hfx
        rcases g4 x hx with z | ⟨z1, z2, z3⟩
        · obtain ⟨y1, m, hm, hsm, hbm, q⟩ := hf1 x hx hne (by omega)
          have := g3 m hm
          exact ⟨y1, m, hm, hsu4 m hm hsm, hbm, by omega⟩
        · exact ⟨z2, c, hc, by rw [gd_set (by omega), if_pos rfl]; decide, z1, by omega⟩
def wlG (kf : Nat → Int32) (src : Nat) (wy0 su0 : List Int32) : List Int32 × List Int32 := wkG kf 49 (nI src) (wiF src 48 0 wy0) (flF 0 48 0 su0)
theorem wlG_slt {wy0 su0 : List Int32} (hkf : kfr kf k op) (hsrc : src < 48) (h1 : wy0.length = 48) (h2 : su0.length = 48) : ∃ D, rep 3000 (wlG kf src wy0 su0).1 D ∧ slt k op src D := by
  unfold wlG
  have hw : ∀ c, c < 48 → (wiF src 48 0 wy0).getD c 0 = if nI c = nI src then 0 else -1 := fun c hc => (wiF_at 48 0 wy0 (by omega) c (by omega)).1 (Nat.zero_le _)
  have hsz : ∀ c, c < 48 → (flF 0 48 0 su0).getD c 0 = 0 := fun c hc => (flF_at 48 0 su0 (by omega) c (by omega)).1 (Nat.zero_le _)
  refine wkG_slt hkf hsrc 49 (nI src) _ _ 0 (fun c => if c = src then 0 else 1000000) (by decide) (flF_len 48 0 _ h2) ?_ ⟨wiF_len 48 0 _ h1, fun c hc => ?_⟩ (if_pos rfl) ?_ ?_ ?_ ?_ ?_
  · exact Nat.lt_succ_of_le (Nat.le_trans List.count_le_length (by rw [flF_len 48 0 _ h2]; exact Nat.le_refl _))
  · rw [hw c hc]
    by_cases e : c = src
    · subst e
      exact Or.inr ⟨by simp only [if_true]; omega, by simp only [if_true]; rfl⟩
    · exact Or.inl ⟨by simp only [if_neg e], by rw [if_neg (fun z => e ((nI_eq (by omega) (by omega)).mp z))]⟩
  · intro c hc h
    exact absurd (hsz c hc) h
  · intro c hc _
    exact Nat.zero_le _
  · intro c hc h
    exact absurd (hsz c hc) h
  · intro c hc hne hfin
    rw [if_neg hne] at hfin
    omega
  · refine Or.inr ⟨src, hsrc, rfl, hsz src hsrc, ?_, fun y hy _ => ?_⟩
    · rw [if_pos rfl]
      decide
    · rw [if_pos rfl]
      exact Nat.zero_le _
end SXDK
end
-- 89y02.far2.lean.txt
section
def cnt (f : Nat → Bool) : Nat → Nat
  | 0 => 0
  | n + 1 => cnt f n + (if f n = true then 1 else 0)
theorem cnt_le {f g : Nat → Bool} : ∀ n, (∀ x, x < n → f x = true → g x = true) → cnt f n ≤ cnt g n
  | 0, _ => Nat.le_refl _
  | n + 1, h => by
    have h1 := cnt_le n (fun x hx => h x (by omega))
    unfold cnt
    by_cases e : f n = true
    · rw [if_pos e, if_pos (h n (by omega) e)]
      omega
    · rw [if_neg e]
      omega
theorem cnt_lt {f g : Nat → Bool} {y : Nat} (h1 : g y = true) (h2 : ¬ f y = true) : ∀ n, y < n → (∀ x, x < n → f x = true → g x = true) → cnt f n < cnt g n
  | 0, hy, _ => absurd hy (by omega)
  | n + 1, hy, h => by
    unfold cnt
    by_cases e : y = n
    · subst e
      have h3 := cnt_le (f := f) (g := g) y (fun x hx => h x (by omega))
      rw [if_neg h2, if_pos h1]
      omega
    · have h3 := cnt_lt h1 h2 n (by omega) (fun x hx => h x (by omega))
      by_cases e2 : f n = true
      · rw [if_pos e2, if_pos (h n (by omega) e2)]
        omega
      · rw [if_neg e2]
        omega
theorem cnt_0 {f : Nat → Bool} : ∀ n, (∀ x, x < n → ¬ f x = true) → cnt f n = 0
  | 0, _ => rfl
  | n + 1, h => by
    unfold cnt
    rw [cnt_0 n (fun x hx => h x (by omega)), if_neg (h n (by omega))]
theorem cnt_t : ∀ n, cnt (fun _ => true) n = n
  | 0 => rfl
  | n + 1 => by
    unfold cnt
    rw [cnt_t n, if_pos rfl]
def rank (D : Nat → Nat) (c : Nat) : Nat := cnt (fun x => decide (D x < D c)) 48
theorem rank_le {D : Nat → Nat} {c : Nat} (hc : c < 48) : rank D c ≤ 47 := by
  have := cnt_lt (f := fun x => decide (D x < D c)) (g := fun _ => true) (y := c) rfl (by simp) 48 hc (fun _ _ _ => rfl)
  rw [cnt_t] at this
  unfold rank
  omega
theorem rank_lt {D : Nat → Nat} {c n : Nat} (hn : n < 48) (h : D n < D c) : rank D n < rank D c := cnt_lt (y := n) (decide_eq_true h) (by simp) 48 hn (fun x _ hx => decide_eq_true (Nat.lt_trans (of_decide_eq_true hx) h))
def repC (s : List Int32) (V : Nat → Nat) : Prop := s.length = 48 ∧ ∀ c, c < 48 → V c ≤ 1000000 ∧ s.getD c 0 = nI (V c)
section SXBF
variable {k : Nat → Nat} {op : Nat → Bool} {src : Nat} {D V : Nat → Nat} {cs s : List Int32}
theorem repC.put {n v : Nat} (h : repC s V) (hn : n < 48) (hv : v ≤ 1000000) : repC (s.set n (nI v)) (updN V n v) := by
  refine ⟨by rw [List.length_set]; exact h.1, fun c hc => ?_⟩
  rw [gd_set (by rw [h.1]; exact hn)]
  unfold updN
  by_cases e : c = n
  · rw [if_pos e, if_pos e]
    exact ⟨hv, rfl⟩
  · rw [if_neg e, if_neg e]
    exact h.2 c hc
theorem lb_rep {c : Nat} (h : repC s V) (hc : c < 48) : ∀ (q j m : Nat), j + q = 4 → m ≤ 1000000 → ∃ m2, lbF s c q j (nI m) = nI m2 ∧ m2 ≤ m ∧ (m2 = m ∨ ∃ n, n < 48 ∧ nb c n ∧ m2 = V n) ∧ ∀ i, j ≤ i → i < 4 → ∀ n, n < 48 → bsd c i = nI n → m2 ≤ V n
  | 0, j, m, hj, hm => ⟨m, rfl, Nat.le_refl _, Or.inl rfl, fun i h1 h2 => by omega⟩
  | q + 1, j, m, hj, hm => by
    show ∃ m2, lbF s c q (j + 1) (lb1 s (bsd c j) (nI m)) = nI m2 ∧ _
    rcases bsd_nat c hc j (by omega) with e | ⟨hn, e⟩
    · rw [show lb1 s (bsd c j) (nI m) = nI m from if_pos e]
      obtain ⟨m2, h1, h2, h3, h4⟩ := lb_rep h hc q (j + 1) m (by omega) hm
      refine ⟨m2, h1, h2, h3, fun i hi1 hi2 n hn hb => ?_⟩
      by_cases ei : i = j
      · rw [ei, e] at hb
        exact absurd hb.symm (nI_ne1 (by omega))
      · exact h4 i (by omega) hi2 n hn hb
    · have hv := h.2 _ hn
      have hne : ¬ bsd c j = -1 := by
        rw [e]
        exact nI_ne1 (by omega)
      have last : ∀ i n, i = j → n < 48 → bsd c i = nI n → n = (bsd c j).toNatClampNeg := by
        intro i n ei hn2 hb
        rw [← ei, hb, nI_clamp (by omega)]
      unfold lb1
      rw [if_neg hne, hv.2]
      by_cases hle : m ≤ V (bsd c j).toNatClampNeg
      · rw [if_pos ((nI_leI (by omega) (by omega)).mpr hle)]
        obtain ⟨m2, h1, h2, h3, h4⟩ := lb_rep h hc q (j + 1) m (by omega) hm
        refine ⟨m2, h1, h2, h3, fun i hi1 hi2 n hn2 hb => ?_⟩
        by_cases ei : i = j
        · rw [last i n ei hn2 hb]
          omega
        · exact h4 i (by omega) hi2 n hn2 hb
      · rw [if_neg (fun z => hle ((nI_leI (by omega) (by omega)).mp z))]
        obtain ⟨m2, h1, h2, h3, h4⟩ := lb_rep h hc q (j + 1) (V (bsd c j).toNatClampNeg) (by omega) hv.1
        refine ⟨m2, h1, by omega, ?_, fun i hi1 hi2 n hn2 hb => ?_⟩
        · rcases h3 with z | z
          · exact Or.inr ⟨_, hn, ⟨j, by omega, e⟩, z⟩
          · exact Or.inr z
        · by_cases ei : i = j
          · rw [last i n ei hn2 hb]
            exact h2
          · exact h4 i (by omega) hi2 n hn2 hb
theorem rx_rep {c : Nat} {fl : Int32} (hcs : kfr (fun n => cs.getD n 0) k op) (h : repC s V) (hc : c < 48) : ∃ V2, repC (rx cs (s, fl) c).1 V2 ∧ (∀ x, x ≠ c → V2 x = V x) ∧ V2 c ≤ V c ∧ (op c = true → ∀ n, n < 48 → nb c n → V2 c ≤ V n + k c) ∧ (V2 c = V c ∨ (op c = true ∧ ∃ n, n < 48 ∧ nb c n ∧ V2 c = V n + k c)) ∧ ((rx cs (s, fl) c).2 = 0 → fl = 0 ∧ V2 c = V c) := by
  unfold rx
  rcases hcs c hc with ⟨ho, hk⟩ | ⟨ho, hk1, hk9, hk⟩
  · rw [if_pos hk]
    exact ⟨V, h, fun _ _ => rfl, Nat.le_refl _, fun z => absurd (z.symm.trans ho) (by decide), Or.inl rfl, fun z => ⟨z, rfl⟩⟩
  · replace hk : cs.getD c 0 = nI (k c) := hk
    obtain ⟨m2, h1, h2, h3, h4⟩ := lb_rep h hc 4 0 1000000 rfl (Nat.le_refl _)
    replace h1 : lbF s c 4 0 1000000 = nI m2 := h1
    have hv := h.2 c hc
    rw [hk, if_neg (nI_ne1 (by omega)), h1, nI_add]
    simp only
    rw [hv.2]
    by_cases hle : V c ≤ m2 + k c
    · rw [if_pos ((nI_leI (by omega) (by omega)).mpr hle)]
      refine ⟨V, h, fun _ _ => rfl, Nat.le_refl _, fun _ n hn hb => ?_, Or.inl rfl, fun z => ⟨z, rfl⟩⟩
      obtain ⟨j, hj, e⟩ := hb
      have := h4 j (Nat.zero_le _) hj n hn e
      omega
    · rw [if_neg (fun z => hle ((nI_leI (by omega) (by omega)).mp z))]
      refine ⟨updN V c (m2 + k c), h.put hc (by omega), fun x hx => by unfold updN; rw [if_neg hx], ?_, ?_, ?_, fun z => absurd (show (1 : Int32) = 0 from z) (by decide)⟩
      · unfold updN
        rw [if_pos rfl]
        omega
      · intro _ n hn hb
        obtain ⟨j, hj, e⟩ := hb
        have := h4 j (Nat.zero_le _) hj n hn e
        unfold updN
        rw [if_pos rfl]
        omega
      · rcases h3 with z | ⟨n, hn, hb, z⟩
        · omega
        · exact Or.inr ⟨ho, n, hn, hb, by unfold updN; rw [if_pos rfl, z]⟩
theorem sw_rep {e : Bool} (hcs : kfr (fun n => cs.getD n 0) k op) (hR : rlx k op D) : ∀ (q i : Nat) (s : List Int32) (fl : Int32) (V : Nat → Nat), i + q = 48 → repC s V → (∀ x, x < 48 → D x ≤ V x) → ∃ V2, repC (swF cs e q i (s, fl)).1 V2 ∧ (∀ x, x < 48 → V2 x ≤ V x) ∧ (∀ x, x < 48 → D x ≤ V2 x) ∧ (∀ i2, i ≤ i2 → i2 < 48 → op (cond e i2 (47 - i2)) = true → ∀ n, n < 48 → nb (cond e i2 (47 - i2)) n → V2 (cond e i2 (47 - i2)) ≤ V n + k (cond e i2 (47 - i2))) ∧ ((swF cs e q i (s, fl)).2 = 0 → fl = 0 ∧ ∀ x, x < 48 → V2 x = V x)
  | 0, i, s, fl, V, hi, h, hD => ⟨V, h, fun _ _ => Nat.le_refl _, hD, fun i2 h1 h2 => by omega, fun z => ⟨z, fun _ _ => rfl⟩⟩
  | q + 1, i, s, fl, V, hi, h, hD => by
    have hc : cond e i (47 - i) < 48 := by
      cases e
      · show 47 - i < 48
        omega
      · show i < 48
        omega
    obtain ⟨V1, g1, g2, g3, g4, g5, g6⟩ := rx_rep (fl := fl) hcs h hc
    have hD1 : ∀ x, x < 48 → D x ≤ V1 x := by
      intro x hx
      by_cases ex : x = cond e i (47 - i)
      · rw [ex]
        rcases g5 with z | ⟨ho, n, hn, hb, z⟩
        · rw [z]
          exact hD _ hc
        · have y1 := hR n _ hn hc (hb.sym hc hn) ho
          have y2 := hD n hn
          omega
      · rw [g2 x ex]
        exact hD x hx
    have hle : ∀ x, x < 48 → V1 x ≤ V x := by
      intro x hx
      by_cases ex : x = cond e i (47 - i)
      · rw [ex]
        exact g3
      · rw [g2 x ex]
        exact Nat.le_refl _
    obtain ⟨V2, h1, h2, h3, h4, h5⟩ := sw_rep hcs hR q (i + 1) (rx cs (s, fl) (cond e i (47 - i))).1 (rx cs (s, fl) (cond e i (47 - i))).2 V1 (by omega) g1 hD1
    refine ⟨V2, h1, fun x hx => Nat.le_trans (h2 x hx) (hle x hx), h3, fun i2 hi1 hi2 ho n hn hb => ?_, fun z => ?_⟩
    · by_cases ei : i2 = i
      · rw [ei] at ho hb ⊢
        have := h2 _ hc
        have := g4 ho n hn hb
        omega
      · have := h4 i2 (by omega) hi2 ho n hn hb
        have := hle n hn
        omega
    · obtain ⟨z1, z2⟩ := h5 z
      obtain ⟨z3, z4⟩ := g6 z1
      refine ⟨z3, fun x hx => ?_⟩
      rw [z2 x hx]
      by_cases ex : x = cond e i (47 - i)
      · rw [ex]
        exact z4
      · exact g2 x ex
theorem cell_at (e : Bool) {c : Nat} (hc : c < 48) : ∃ i, i < 48 ∧ cond e i (47 - i) = c := by
  cases e
  · exact ⟨47 - c, by omega, by show 47 - (47 - c) = c; omega⟩
  · exact ⟨c, hc, rfl⟩
theorem rd_slt (hcs : kfr (fun n => cs.getD n 0) k op) (hsrc : src < 48) (hS : slt k op src D) : ∀ (q r : Nat) (p : List Int32 × Int32) (V : Nat → Nat), r + q = 48 → repC p.1 V → (∀ x, x < 48 → D x ≤ V x) → (∀ c, c < 48 → rank D c ≤ r → V c = D c) → (p.2 = 0 → rlx k op V) → ∀ c, c < 48 → (rdF cs q r p).getD c 0 = nI (D c)
  | 0, r, p, V, hr, h, hD, hk, hz, c, hc => by
    show p.1.getD c 0 = nI (D c)
    rw [(h.2 c hc).2, hk c hc (by have := rank_le (D := D) hc; omega)]
  | q + 1, r, p, V, hr, h, hD, hk, hz, c, hc => by
    have hk1 : ∀ x, x < 48 → op x = true → 1 ≤ k x := by
      intro x hx ho
      rcases hcs x hx with ⟨u, _⟩ | ⟨_, u, _⟩
      · exact absurd (u.symm.trans ho) (by decide)
      · exact u
    unfold rdF
    split
    · rename_i e
      have hle := slt_le hk1 (hz e) (G := D) (fun x hx => by
        by_cases ex : x = src
        · refine Or.inl ?_
          rw [ex, hk src hsrc ?_]
          · exact Nat.le_refl _
          · have : rank D src = 0 := cnt_0 48 (fun x _ => by rw [hS.1]; simp)
            omega
        · by_cases hf : D x < 1000000
          · exact Or.inr (hS.2.2.2 x hx ex hf)
          · have := (h.2 x hx).1
            exact Or.inl (by omega)) c hc
      rw [(h.2 c hc).2, Nat.le_antisymm hle (hD c hc)]
    · obtain ⟨V2, h1, h2, h3, h4, h5⟩ := sw_rep (e := evn r) hcs hS.2.2.1 48 0 p.1 0 V rfl h hD
      have hall : ∀ x, x < 48 → op x = true → ∀ n, n < 48 → nb x n → V2 x ≤ V n + k x := by
        intro x hx ho n hn hb
        obtain ⟨i, hi, ei⟩ := cell_at (evn r) hx
        have := h4 i (Nat.zero_le _) hi
        rw [ei] at this
        exact this ho n hn hb
      refine rd_slt hcs hsrc hS q (r + 1) _ V2 (by omega) h1 h3 (fun x hx hrk => ?_) (fun z => ?_) c hc
      · have a1 := h3 x hx
        have a2 := h2 x hx
        by_cases hle : rank D x ≤ r
        · have := hk x hx hle
          omega
        · by_cases hf : D x < 1000000
          · by_cases ex : x = src
            · have : rank D src = 0 := cnt_0 48 (fun x _ => by rw [hS.1]; simp)
              rw [ex] at hle
              omega
            · obtain ⟨ho, n, hn, hb, q2⟩ := hS.2.2.2 x hx ex hf
              have b1 := hk1 x hx ho
              have b2 := rank_lt (D := D) (c := x) hn (by omega)
              have b3 := hk n hn (by omega)
              have b4 := hall x hx ho n hn (hb.sym hn hx)
              omega
          · have := (h1.2 x hx).1
            omega
      · obtain ⟨_, z2⟩ := h5 z
        intro x n hx hn hb ho
        have := hall n hn ho x hx (hb.sym hx hn)
        rw [← z2 x hx] at this
        exact this
theorem spF_slt {l : List Int32} (hcs : kfr (fun n => cs.getD n 0) k op) (hsrc : src < 48) (hS : slt k op src D) (hl : l.length = 48) : ∀ c, c < 48 → (spF cs src l).getD c 0 = nI (D c) := by
  have hfl : ∀ c, c < 48 → (flF 1000000 48 0 l).getD c 0 = 1000000 := fun c hc => (flF_at 48 0 l (by omega) c (by omega)).1 (Nat.zero_le _)
  have hlen : (flF 1000000 48 0 l).length = 48 := flF_len 48 0 l hl
  have hk1 : ∀ x, x < 48 → op x = true → 1 ≤ k x := by
    intro x hx ho
    rcases hcs x hx with ⟨u, _⟩ | ⟨_, u, _⟩
    · exact absurd (u.symm.trans ho) (by decide)
    · exact u
  unfold spF
  refine rd_slt hcs hsrc hS 48 0 _ (fun c => if c = src then 0 else 1000000) rfl ⟨by rw [List.length_set]; exact hlen, fun c hc => ?_⟩ (fun x hx => ?_) (fun c hc hr => ?_) (fun z => absurd (show (1 : Int32) = 0 from z) (by decide))
  · rw [gd_set (by rw [hlen]; exact hsrc)]
    by_cases e : c = src
    · simp only [if_pos e]
      exact ⟨by omega, rfl⟩
    · simp only [if_neg e]
      exact ⟨Nat.le_refl _, hfl c hc⟩
  · by_cases e : x = src
    · simp only [if_pos e]
      rw [e, hS.1]
      exact Nat.le_refl _
    · simp only [if_neg e]
      exact hS.2.1 x hx
  · by_cases e : c = src
    · simp only [if_pos e]
      rw [e, hS.1]
    · exfalso
      have hpos : D src < D c := by
        rw [hS.1]
        by_cases hf : D c < 1000000
        · obtain ⟨ho, n, hn, hb, q2⟩ := hS.2.2.2 c hc e hf
          have := hk1 c hc ho
          omega
        · omega
      have := rank_lt (D := D) hsrc hpos
      omega
end SXBF
def dst (kf : Nat → Int32) (src c : Nat) : Nat := if (wlG kf src (List.replicate 48 0) (List.replicate 48 0)).1.getD c 0 < 0 then 1000000 else iN ((wlG kf src (List.replicate 48 0) (List.replicate 48 0)).1.getD c 0)
section SXDS
variable {kf : Nat → Int32} {k : Nat → Nat} {op : Nat → Bool} {src : Nat}
theorem slt.congr {D E : Nat → Nat} (hsrc : src < 48) (h : slt k op src D) (e : ∀ c, c < 48 → E c = D c) : slt k op src E := by
  refine ⟨by rw [e src hsrc]; exact h.1, fun c hc => by rw [e c hc]; exact h.2.1 c hc, fun c n hc hn hb ho => by rw [e c hc, e n hn]; exact h.2.2.1 c n hc hn hb ho, fun c hc hne hf => ?_⟩
  rw [e c hc] at hf
  obtain ⟨h1, n, hn, hb, q⟩ := h.2.2.2 c hc hne hf
  exact ⟨h1, n, hn, hb, by rw [e c hc, e n hn]; exact q⟩
theorem rep_val {B : Nat} {wy : List Int32} {D : Nat → Nat} {c : Nat} (h : rep B wy D) (hB : B < 1000000) (hc : c < 48) : (if wy.getD c 0 < 0 then 1000000 else iN (wy.getD c 0)) = D c := by
  rcases h.2 c hc with ⟨q1, q2⟩ | ⟨q1, q2⟩
  · rw [q2, if_pos (by decide), q1]
  · rw [q2, if_neg (nI_pos (by omega)), iN_n (by omega)]
theorem dst_slt (hkf : kfr kf k op) (hsrc : src < 48) : slt k op src (dst kf src) := by
  obtain ⟨D, h1, h2⟩ := wlG_slt (wy0 := List.replicate 48 0) (su0 := List.replicate 48 0) hkf hsrc rfl rfl
  exact h2.congr hsrc (fun c hc => rep_val h1 (by decide) hc)
theorem kfr.k1 (hkf : kfr kf k op) : ∀ c, c < 48 → op c = true → 1 ≤ k c := by
  intro x hx ho
  rcases hkf x hx with ⟨u, _⟩ | ⟨_, u, _⟩
  · exact absurd (u.symm.trans ho) (by decide)
  · exact u
theorem wlG_dst {wy0 su0 : List Int32} (hkf : kfr kf k op) (hsrc : src < 48) (h1 : wy0.length = 48) (h2 : su0.length = 48) : rep 3000 (wlG kf src wy0 su0).1 (dst kf src) := by
  obtain ⟨D, g1, g2⟩ := wlG_slt hkf hsrc h1 h2
  have e := (dst_slt hkf hsrc).eq hkf.k1 g2
  refine ⟨g1.1, fun c hc => ?_⟩
  rw [e c hc]
  exact g1.2 c hc
theorem spF_dst {cs l : List Int32} (hkf : kfr kf k op) (hcs : ∀ c, c < 48 → cs.getD c 0 = kf c) (hsrc : src < 48) (hl : l.length = 48) : ∀ c, c < 48 → (spF cs src l).getD c 0 = nI (dst kf src c) := spF_slt (k := k) (op := op) (fun n hn => by show (op n = false ∧ cs.getD n 0 = -1) ∨ (op n = true ∧ 1 ≤ k n ∧ k n ≤ 9 ∧ cs.getD n 0 = nI (k n)); rw [hcs n hn]; exact hkf n hn) hsrc (dst_slt hkf hsrc) hl
end SXDS
def gk (g : List Int32) (c : Nat) : Int32 := crF (g.getD c 0)
def farN (g : List Int32) (f t : Nat) : Nat := dst (gk g) f t
theorem crF_iN (x : Int32) : crF x = nI (iN (crF x)) ∧ 1 ≤ iN (crF x) ∧ iN (crF x) ≤ 4 := by
  obtain ⟨j, h1, h2, e⟩ := crF_n x
  rw [e, iN_n (by omega)]
  exact ⟨rfl, h1, h2⟩
theorem gk_kfr (g : List Int32) : kfr (gk g) (fun c => iN (gk g c)) all1 := fun n _ => Or.inr ⟨rfl, (crF_iN _).2.1, by have := (crF_iN (g.getD n 0)).2.2; show iN (crF (g.getD n 0)) ≤ 9; omega, (crF_iN _).1⟩
theorem crK_kfr (s : List Int32) : kfr (crK s) (fun c => iN (crK s c)) all1 := fun n _ => Or.inr ⟨rfl, (crF_iN _).2.1, by have := (crF_iN (s.getD (7 + n) 0)).2.2; show iN (crF (s.getD (7 + n) 0)) ≤ 9; omega, (crF_iN _).1⟩
theorem dst_congr {kf kf2 : Nat → Int32} {k k2 : Nat → Nat} {op op2 : Nat → Bool} {src : Nat} (h1 : kfr kf k op) (h2 : kfr kf2 k2 op2) (hsrc : src < 48) (e : ∀ c, c < 48 → kf c = kf2 c) : ∀ c, c < 48 → dst kf src c = dst kf2 src c := by
  have h3 : kfr kf2 k op := fun n hn => by rw [← e n hn]; exact h1 n hn
  exact (dst_slt h1 hsrc).eq h1.k1 (dst_slt h3 hsrc)
theorem wlF_far {s wy0 su0 g : List Int32} {src : Nat} (hsrc : src < 48) (h1 : wy0.length = 48) (h2 : su0.length = 48) (e : ∀ c, c < 48 → g.getD c 0 = s.getD (7 + c) 0) : ∀ c, c < 48 → (wlF s src wy0 su0).1.getD c 0 = nI (farN g src c) ∧ farN g src c ≤ 3000 := by
  have hG : wlF s src wy0 su0 = wlG (crK s) src wy0 su0 := wkF_G _ _ _ _
  have hd := wlG_dst (crK_kfr s) hsrc h1 h2
  rw [← hG] at hd
  have hne := (wlF_inv (s := s) hsrc h1 h2).2
  have hc2 := dst_congr (gk_kfr g) (crK_kfr s) hsrc (fun c hc => by unfold gk crK; rw [e c hc])
  intro c hc
  unfold farN
  rw [hc2 c hc]
  rcases hd.2 c hc with ⟨_, q⟩ | q
  · exact absurd q (hne c hc)
  · exact ⟨q.2, q.1⟩
theorem far_fin (g : List Int32) {f t : Nat} (hf : f < 48) (ht : t < 48) : farN g f t ≤ 3000 := (wlF_far (s := List.replicate 7 0 ++ g) (wy0 := List.replicate 48 0) (su0 := List.replicate 48 0) (g := g) hf rfl rfl (fun c hc => by
  rw [List.getD_eq_getElem?_getD, List.getD_eq_getElem?_getD, List.getElem?_append_right (by rw [List.length_replicate]; omega), List.length_replicate, Nat.add_sub_cancel_left]) t ht).2
theorem far_rev (g : List Int32) {f t : Nat} (hf : f < 48) (ht : t < 48) : farN g t f + iN (gk g t) = farN g f t + iN (gk g f) := slt_rev (k := fun c => iN (gk g c)) (D := fun t c => farN g t c) (fun t ht => dst_slt (gk_kfr g) ht) (fun t c h1 h2 => by have := far_fin g h1 h2; show farN g t c < 1000000; omega) (fun c hc => (crF_iN _).2.1) hf ht
theorem nI_back {a b c d : Nat} (h : a + b = d + c) : nI a + (nI b - nI c) = nI d := by
  rw [Int32.sub_eq_add_neg, ← Int32.add_assoc, nI_add, h, ← nI_add, Int32.add_assoc, Int32.add_right_neg, Int32.add_zero]
theorem adF_at {ls : List Int32} {t : Nat} : ∀ (q j : Nat) (l : List Int32), j + q = l.length → ∀ c, c < l.length → (j ≤ c → (adF ls t q j l).getD c 0 = l.getD c 0 + (ls.getD t 0 - ls.getD c 0)) ∧ (c < j → (adF ls t q j l).getD c 0 = l.getD c 0)
  | 0, j, l, h, c, hc => ⟨fun z => by omega, fun _ => rfl⟩
  | q + 1, j, l, h, c, hc => by
    have IH := adF_at (ls := ls) (t := t) q (j + 1) (l.set j (l.getD j 0 + (ls.getD t 0 - ls.getD j 0))) (by rw [List.length_set]; omega) c (by rw [List.length_set]; exact hc)
    refine ⟨fun z => ?_, fun z => ?_⟩
    · by_cases e : c = j
      · subst e
        show (adF ls t q (c + 1) (l.set c (l.getD c 0 + (ls.getD t 0 - ls.getD c 0)))).getD c 0 = _
        rw [IH.2 (by omega), gd_set hc, if_pos rfl]
      · show (adF ls t q (j + 1) (l.set j (l.getD j 0 + (ls.getD t 0 - ls.getD j 0)))).getD c 0 = _
        rw [IH.1 (by omega), gd_set (by omega), if_neg e]
    · show (adF ls t q (j + 1) (l.set j (l.getD j 0 + (ls.getD t 0 - ls.getD j 0)))).getD c 0 = l.getD c 0
      rw [IH.2 (by omega), gd_set (by omega), if_neg (by omega)]
theorem row_far {g ls row : List Int32} {t : Nat} (ht : t < 48) (hr : row.length = 48) (e : ∀ c, c < 48 → ls.getD c 0 = gk g c) : ∀ f, f < 48 → (adF ls t 48 0 (spF ls t row)).getD f 0 = nI (farN g f t) := by
  intro f hf
  have hl : (spF ls t row).length = 48 := spF_len hr
  rw [((adF_at (ls := ls) (t := t) 48 0 (spF ls t row) (by omega) f (by omega)).1 (Nat.zero_le _)), spF_dst (gk_kfr g) e ht hr f hf, e t ht, e f hf]
  have h1 : gk g t = nI (iN (gk g t)) := (crF_iN _).1
  have h2 : gk g f = nI (iN (gk g f)) := (crF_iN _).1
  rw [h1, h2]
  exact nI_back (far_rev g hf ht)
end
-- 89y03.rel.lean.txt
section
theorem sh_amt : ∀ c : Fin 64, ((nI c.val).toInt64.toUInt64 &&& Int64.toUInt64 63).toBitVec % 64 = BitVec.ofNat 64 c.val := by decide +kernel
theorem sh_one : ∀ c : Fin 64, ((1 : Int64) <<< ((nI c.val).toInt64 &&& 63)).toBitVec = BitVec.twoPow 64 c.val := by decide +kernel
def bitL (v : Int64) (c : Nat) : Bool := v.toBitVec.getLsbD c
theorem bit_1 {v : Int64} {c : Nat} (hc : c < 64) : lg_cmp ((((v).toUInt64 >>> ((nI c).toInt64.toUInt64 &&& Int64.toUInt64 63)).toInt64) &&& 1) 1 = 0 ↔ bitL v c = true := by
  rw [lg_cmp_eq, ← Int64.toBitVec_inj]
  have e : ((((v).toUInt64 >>> ((nI c).toInt64.toUInt64 &&& Int64.toUInt64 63)).toInt64) &&& 1).toBitVec = BitVec.setWidth 64 (BitVec.ofBool (bitL v c)) := by
    show (v.toBitVec >>> (((nI c).toInt64.toUInt64 &&& Int64.toUInt64 63).toBitVec % 64)) &&& 1#64 = _
    rw [sh_amt ⟨c, hc⟩, BitVec.and_one_eq_setWidth_ofBool_getLsbD]
    congr 2
    show (v.toBitVec >>> (BitVec.ofNat 64 c).toNat).getLsbD 0 = _
    rw [BitVec.getLsbD_ushiftRight, BitVec.toNat_ofNat, Nat.mod_eq_of_lt (by omega)]
    rfl
  rw [e]
  cases bitL v c <;> decide
theorem bit_xor {v : Int64} {c j : Nat} (hc : c < 64) : bitL (v ^^^ ((1 : Int64) <<< ((nI c).toInt64 &&& 63))) j = (bitL v j ^^ decide (c = j)) := by
  unfold bitL
  rw [Int64.toBitVec_xor, BitVec.getLsbD_xor, sh_one ⟨c, hc⟩, BitVec.getLsbD_twoPow, decide_eq_true (show c < 64 from hc), Bool.true_and]
theorem bit_or {v : Int64} {c j : Nat} (hc : c < 64) : bitL (v ||| ((1 : Int64) <<< ((nI c).toInt64 &&& 63))) j = (bitL v j || decide (c = j)) := by
  unfold bitL
  rw [Int64.toBitVec_or, BitVec.getLsbD_or, sh_one ⟨c, hc⟩, BitVec.getLsbD_twoPow, decide_eq_true (show c < 64 from hc), Bool.true_and]
theorem bit_andn {v u : Int64} {j : Nat} (hj : j < 64) : bitL (v &&& (u ^^^ (-1))) j = (bitL v j && !(bitL u j)) := by
  unfold bitL
  rw [Int64.toBitVec_and, BitVec.getLsbD_and, Int64.toBitVec_xor, BitVec.getLsbD_xor, show ((-1 : Int64)).toBitVec = BitVec.allOnes 64 from rfl, BitVec.getLsbD_allOnes, decide_eq_true hj, Bool.xor_true]
theorem bit_0 {j : Nat} : bitL 0 j = false := by
  unfold bitL
  exact BitVec.getLsbD_zero
def wbt (v : Int64) (c : Nat) : Int32 := b01 (bitL v c)
def wlr (l : List Int32) (c : Nat) : Int32 := if c < 48 then l.getD (55 + c) 0 else 0
def rel (w : List sx_C) (A : Nat) (l : List Int32) : Prop := l.length = 172 ∧ (fi w A 6 = l.getD 0 0 ∧ fi w A 3 = l.getD 1 0 ∧ fi w A 5 = l.getD 2 0 ∧ fi w A 7 = l.getD 3 0 ∧ fi w A 8 = l.getD 4 0 ∧ fi w A 9 = l.getD 5 0 ∧ fi w A 10 = l.getD 6 0) ∧ (∀ c, c < 48 → (ia w (A + 1)).getD c 0 = l.getD (7 + c) 0) ∧ (∀ c, c < 64 → wbt (fj w A 1) c = wlr l c) ∧ (∀ i, i < iN (l.getD 1 0) → ∀ k, k < 6 → fi w (A + 4 + i) k = l.getD (103 + 6 * i + k) 0) ∧ ∀ d, d < iN (l.getD 2 0) → (ia w (A + 3)).getD d 0 = l.getD (163 + d) 0
section SXRL
variable {w w2 : List sx_C} {A : Nat} {l : List Int32}
theorem rel.len (h : rel w A l) : l.length = 172 := h.1
theorem rel.night (h : rel w A l) : fi w A 6 = l.getD 0 0 := h.2.1.1
theorem rel.many (h : rel w A l) : fi w A 3 = l.getD 1 0 := h.2.1.2.1
theorem rel.dished (h : rel w A l) : fi w A 5 = l.getD 2 0 := h.2.1.2.2.1
theorem rel.met (h : rel w A l) : fi w A 7 = l.getD 3 0 := h.2.1.2.2.2.1
theorem rel.gr (h : rel w A l) {c : Nat} (hc : c < 48) : (ia w (A + 1)).getD c 0 = l.getD (7 + c) 0 := h.2.2.1 c hc
theorem rel.wl (h : rel w A l) {c : Nat} (hc : c < 64) : wbt (fj w A 1) c = wlr l c := h.2.2.2.1 c hc
theorem rel.ga (h : rel w A l) {i k : Nat} (hi : i < iN (l.getD 1 0)) (hk : k < 6) : fi w (A + 4 + i) k = l.getD (103 + 6 * i + k) 0 := h.2.2.2.2.1 i hi k hk
theorem rel.di (h : rel w A l) {d : Nat} (hd : d < iN (l.getD 2 0)) : (ia w (A + 3)).getD d 0 = l.getD (163 + d) 0 := h.2.2.2.2.2 d hd
theorem rel.w48 (h : rel w A l) {c : Nat} (hc : c < 48) : b01 (bitL (fj w A 1) c) = l.getD (55 + c) 0 := by
  have := h.wl (c := c) (by omega)
  unfold wlr at this
  rw [if_pos hc] at this
  exact this
theorem rel.n10 (h : rel w A l) (hI : WI w) (hA : isA A) : ∃ n, n ≤ 10 ∧ l.getD 1 0 = nI n := by
  obtain ⟨n, hn, e⟩ := (hI.c hA).1
  exact ⟨n, hn, h.many.symm.trans e⟩
theorem rel.m9 (h : rel w A l) (hI : WI w) (hA : isA A) : ∃ n, n ≤ 9 ∧ l.getD 2 0 = nI n := by
  obtain ⟨n, hn, e⟩ := (hI.c hA).2
  exact ⟨n, hn, h.dished.symm.trans e⟩
theorem rel.same (h : rel w A l) (hI : WI w) (hA : isA A) (hs : ∀ a, A ≤ a → a < A + 14 → w2[a]? = w[a]?) : rel w2 A l := by
  obtain ⟨n, hn, en⟩ := h.n10 hI hA
  obtain ⟨h0, ⟨h1, h2, h3, h4, h5, h6, h7⟩, h8, h9, h10, h11⟩ := h
  have ea := hs A (by omega) (by omega)
  refine ⟨h0, ⟨(fi_same 6 ea).trans h1, (fi_same 3 ea).trans h2, (fi_same 5 ea).trans h3, (fi_same 7 ea).trans h4, (fi_same 8 ea).trans h5, (fi_same 9 ea).trans h6, (fi_same 10 ea).trans h7⟩, fun c hc => ?_, fun c hc => ?_, fun i hi k hk => ?_, fun d hd => ?_⟩
  · rw [ia_of (hs (A + 1) (by omega) (by omega))]
    exact h8 c hc
  · rw [fj_same 1 ea]
    exact h9 c hc
  · have hi2 := hi
    rw [en, iN_n (by omega)] at hi2
    exact (fi_same k (hs _ (by omega) (by omega))).trans (h10 i hi k hk)
  · rw [ia_of (hs (A + 3) (by omega) (by omega))]
    exact h11 d hd
theorem rel.sGr {c : Nat} {v : Int32} (h : rel w A l) (hI : WI w) (hA : isA A) (hc : c < 48) (hs : Same (A + 1) w w2) (hv : ia w2 (A + 1) = (ia w (A + 1)).set c v) : rel w2 A (l.set (7 + c) v) := by
  have hl := (hI.1.aS hA).2
  obtain ⟨h0, ⟨h1, h2, h3, h4, h5, h6, h7⟩, h8, h9, h10, h11⟩ := h
  have ea := hs A (by omega)
  refine ⟨by rw [List.length_set]; exact h0, ⟨(fi_same 6 ea).trans (h1.trans (gd_ne (by omega)).symm), (fi_same 3 ea).trans (h2.trans (gd_ne (by omega)).symm), (fi_same 5 ea).trans (h3.trans (gd_ne (by omega)).symm), (fi_same 7 ea).trans (h4.trans (gd_ne (by omega)).symm), (fi_same 8 ea).trans (h5.trans (gd_ne (by omega)).symm), (fi_same 9 ea).trans (h6.trans (gd_ne (by omega)).symm), (fi_same 10 ea).trans (h7.trans (gd_ne (by omega)).symm)⟩, fun b hb => ?_, fun b hb => ?_, fun i hi k hk => ?_, fun d hd => ?_⟩
  · rw [hv, gd_set (by omega), gd_set (by omega)]
    by_cases e : b = c
    · rw [if_pos e, if_pos (by omega)]
    · rw [if_neg e, if_neg (by omega)]
      exact h8 b hb
  · rw [fj_same 1 ea]
    have := h9 b hb
    rw [this]
    unfold wlr
    split
    · exact (gd_ne (by omega)).symm
    · rfl
  · rw [gd_ne (by omega)] at hi
    exact (fi_same k (hs _ (by omega))).trans ((h10 i hi k hk).trans (gd_ne (by omega)).symm)
  · rw [gd_ne (by omega)] at hd
    exact (congrArg (fun q => List.getD q d 0) (ia_of (hs (A + 3) (by omega)))).trans ((h11 d hd).trans (gd_ne (by omega)).symm)
theorem rel.sWl {c : Nat} {v : Int32} (h : rel w A l) (hc : c < 48) (hs : Same A w w2) (hr : ∀ j, fi w2 A j = fi w A j) (hv : ∀ b, b < 64 → wbt (fj w2 A 1) b = if b = c then v else wbt (fj w A 1) b) : rel w2 A (l.set (55 + c) v) := by
  obtain ⟨h0, ⟨h1, h2, h3, h4, h5, h6, h7⟩, h8, h9, h10, h11⟩ := h
  refine ⟨by rw [List.length_set]; exact h0, ⟨(hr 6).trans (h1.trans (gd_ne (by omega)).symm), (hr 3).trans (h2.trans (gd_ne (by omega)).symm), (hr 5).trans (h3.trans (gd_ne (by omega)).symm), (hr 7).trans (h4.trans (gd_ne (by omega)).symm), (hr 8).trans (h5.trans (gd_ne (by omega)).symm), (hr 9).trans (h6.trans (gd_ne (by omega)).symm), (hr 10).trans (h7.trans (gd_ne (by omega)).symm)⟩, fun b hb => ?_, fun b hb => ?_, fun i hi k hk => ?_, fun d hd => ?_⟩
  · rw [ia_of (hs (A + 1) (by omega)), gd_ne (by omega)]
    exact h8 b hb
  · rw [hv b hb]
    unfold wlr
    by_cases e : b = c
    · rw [if_pos e, if_pos (by omega), gd_set (by omega), if_pos (by omega)]
    · rw [if_neg e, h9 b hb]
      unfold wlr
      split
      · exact (gd_ne (by omega)).symm
      · rfl
  · rw [gd_ne (by omega)] at hi
    exact (fi_same k (hs _ (by omega))).trans ((h10 i hi k hk).trans (gd_ne (by omega)).symm)
  · rw [gd_ne (by omega)] at hd
    exact (congrArg (fun q => List.getD q d 0) (ia_of (hs (A + 3) (by omega)))).trans ((h11 d hd).trans (gd_ne (by omega)).symm)
theorem rel.sGa {i k : Nat} {v : Int32} (h : rel w A l) (hi10 : i < 10) (hk6 : k < 6) (hs : Same (A + 4 + i) w w2) (hv : fi w2 (A + 4 + i) k = v) (hr : ∀ j, j ≠ k → fi w2 (A + 4 + i) j = fi w (A + 4 + i) j) : rel w2 A (l.set (103 + 6 * i + k) v) := by
  obtain ⟨h0, ⟨h1, h2, h3, h4, h5, h6, h7⟩, h8, h9, h10, h11⟩ := h
  have ea := hs A (by omega)
  refine ⟨by rw [List.length_set]; exact h0, ⟨(fi_same 6 ea).trans (h1.trans (gd_ne (by omega)).symm), (fi_same 3 ea).trans (h2.trans (gd_ne (by omega)).symm), (fi_same 5 ea).trans (h3.trans (gd_ne (by omega)).symm), (fi_same 7 ea).trans (h4.trans (gd_ne (by omega)).symm), (fi_same 8 ea).trans (h5.trans (gd_ne (by omega)).symm), (fi_same 9 ea).trans (h6.trans (gd_ne (by omega)).symm), (fi_same 10 ea).trans (h7.trans (gd_ne (by omega)).symm)⟩, fun b hb => ?_, fun b hb => ?_, fun i2 hi k2 hk => ?_, fun d hd => ?_⟩
  · rw [ia_of (hs (A + 1) (by omega)), gd_ne (by omega)]
    exact h8 b hb
  · rw [fj_same 1 ea, h9 b hb]
    unfold wlr
    split
    · exact (gd_ne (by omega)).symm
    · rfl
  · rw [gd_ne (by omega)] at hi
    rw [gd_set (by omega)]
    by_cases e : i2 = i
    · subst e
      by_cases e2 : k2 = k
      · subst e2
        rw [if_pos rfl]
        exact hv
      · rw [if_neg (by omega), hr k2 e2]
        exact h10 i2 hi k2 hk
    · rw [if_neg (by omega)]
      exact (fi_same k2 (hs _ (by omega))).trans (h10 i2 hi k2 hk)
  · rw [gd_ne (by omega)] at hd
    exact (congrArg (fun q => List.getD q d 0) (ia_of (hs (A + 3) (by omega)))).trans ((h11 d hd).trans (gd_ne (by omega)).symm)
theorem rel.sDi {d : Nat} {v : Int32} (h : rel w A l) (hI : WI w) (hA : isA A) (hd9 : d < 9) (hs : Same (A + 3) w w2) (hv : ia w2 (A + 3) = (ia w (A + 3)).set d v) : rel w2 A (l.set (163 + d) v) := by
  have hl := (hI.1.aD hA).2
  obtain ⟨n, hn, en⟩ := h.n10 hI hA
  obtain ⟨h0, ⟨h1, h2, h3, h4, h5, h6, h7⟩, h8, h9, h10, h11⟩ := h
  have ea := hs A (by omega)
  refine ⟨by rw [List.length_set]; exact h0, ⟨(fi_same 6 ea).trans (h1.trans (gd_ne (by omega)).symm), (fi_same 3 ea).trans (h2.trans (gd_ne (by omega)).symm), (fi_same 5 ea).trans (h3.trans (gd_ne (by omega)).symm), (fi_same 7 ea).trans (h4.trans (gd_ne (by omega)).symm), (fi_same 8 ea).trans (h5.trans (gd_ne (by omega)).symm), (fi_same 9 ea).trans (h6.trans (gd_ne (by omega)).symm), (fi_same 10 ea).trans (h7.trans (gd_ne (by omega)).symm)⟩, fun b hb => ?_, fun b hb => ?_, fun i hi k hk => ?_, fun e he => ?_⟩
  · rw [ia_of (hs (A + 1) (by omega)), gd_ne (by omega)]
    exact h8 b hb
  · rw [fj_same 1 ea, h9 b hb]
    unfold wlr
    split
    · exact (gd_ne (by omega)).symm
    · rfl
  · rw [gd_ne (by omega)] at hi
    have hi2 := hi
    rw [en, iN_n (by omega)] at hi2
    exact (fi_same k (hs _ (by omega))).trans ((h10 i hi k hk).trans (gd_ne (by omega)).symm)
  · rw [gd_ne (by omega)] at he
    rw [hv, gd_set (by omega), gd_set (by omega)]
    by_cases e2 : e = d
    · rw [if_pos e2, if_pos (by omega)]
    · rw [if_neg e2, if_neg (by omega)]
      exact h11 e he
def fkR (k : Nat) : Nat := if k = 6 then 0 else if k = 3 then 1 else if k = 5 then 2 else if k = 7 then 3 else k - 4
theorem rel.sFi {k : Nat} {v : Int32} (h : rel w A l) (hk : k = 6 ∨ k = 7 ∨ k = 8 ∨ k = 9 ∨ k = 10) (hs : Same A w w2) (hv : fi w2 A k = v) (hr : ∀ j, j ≠ k → fi w2 A j = fi w A j) (hj : fj w2 A 1 = fj w A 1) : rel w2 A (l.set (fkR k) v) := by
  obtain ⟨h0, ⟨h1, h2, h3, h4, h5, h6, h7⟩, h8, h9, h10, h11⟩ := h
  have rest : ∀ p, p ≠ 1 → p ≠ 2 → p < 7 → (∀ c, c < 48 → (ia w2 (A + 1)).getD c 0 = (l.set p v).getD (7 + c) 0) ∧ (∀ c, c < 64 → wbt (fj w2 A 1) c = wlr (l.set p v) c) ∧ (∀ i, i < iN ((l.set p v).getD 1 0) → ∀ k, k < 6 → fi w2 (A + 4 + i) k = (l.set p v).getD (103 + 6 * i + k) 0) ∧ ∀ d, d < iN ((l.set p v).getD 2 0) → (ia w2 (A + 3)).getD d 0 = (l.set p v).getD (163 + d) 0 := by
    intro p hp1 hp2 hp7
    refine ⟨fun b hb => ?_, fun b hb => ?_, fun i hi k hk => ?_, fun d hd => ?_⟩
    · rw [ia_of (hs (A + 1) (by omega)), gd_ne (by omega)]
      exact h8 b hb
    · rw [hj, h9 b hb]
      unfold wlr
      split
      · exact (gd_ne (by omega)).symm
      · rfl
    · rw [gd_ne (by omega)] at hi
      exact (fi_same k (hs _ (by omega))).trans ((h10 i hi k hk).trans (gd_ne (by omega)).symm)
    · rw [gd_ne (by omega)] at hd
      exact (congrArg (fun q => List.getD q d 0) (ia_of (hs (A + 3) (by omega)))).trans ((h11 d hd).trans (gd_ne (by omega)).symm)
  rcases hk with rfl | rfl | rfl | rfl | rfl
  · show rel w2 A (l.set 0 v)
    exact ⟨by rw [List.length_set]; exact h0, ⟨hv.trans (gd_eq (by omega)).symm, (hr 3 (by decide)).trans (h2.trans (gd_ne (by decide)).symm), (hr 5 (by decide)).trans (h3.trans (gd_ne (by decide)).symm), (hr 7 (by decide)).trans (h4.trans (gd_ne (by decide)).symm), (hr 8 (by decide)).trans (h5.trans (gd_ne (by decide)).symm), (hr 9 (by decide)).trans (h6.trans (gd_ne (by decide)).symm), (hr 10 (by decide)).trans (h7.trans (gd_ne (by decide)).symm)⟩, rest 0 (by decide) (by decide) (by decide)⟩
  · show rel w2 A (l.set 3 v)
    exact ⟨by rw [List.length_set]; exact h0, ⟨(hr 6 (by decide)).trans (h1.trans (gd_ne (by decide)).symm), (hr 3 (by decide)).trans (h2.trans (gd_ne (by decide)).symm), (hr 5 (by decide)).trans (h3.trans (gd_ne (by decide)).symm), hv.trans (gd_eq (by omega)).symm, (hr 8 (by decide)).trans (h5.trans (gd_ne (by decide)).symm), (hr 9 (by decide)).trans (h6.trans (gd_ne (by decide)).symm), (hr 10 (by decide)).trans (h7.trans (gd_ne (by decide)).symm)⟩, rest 3 (by decide) (by decide) (by decide)⟩
  · show rel w2 A (l.set 4 v)
    exact ⟨by rw [List.length_set]; exact h0, ⟨(hr 6 (by decide)).trans (h1.trans (gd_ne (by decide)).symm), (hr 3 (by decide)).trans (h2.trans (gd_ne (by decide)).symm), (hr 5 (by decide)).trans (h3.trans (gd_ne (by decide)).symm), (hr 7 (by decide)).trans (h4.trans (gd_ne (by decide)).symm), hv.trans (gd_eq (by omega)).symm, (hr 9 (by decide)).trans (h6.trans (gd_ne (by decide)).symm), (hr 10 (by decide)).trans (h7.trans (gd_ne (by decide)).symm)⟩, rest 4 (by decide) (by decide) (by decide)⟩
  · show rel w2 A (l.set 5 v)
    exact ⟨by rw [List.length_set]; exact h0, ⟨(hr 6 (by decide)).trans (h1.trans (gd_ne (by decide)).symm), (hr 3 (by decide)).trans (h2.trans (gd_ne (by decide)).symm), (hr 5 (by decide)).trans (h3.trans (gd_ne (by decide)).symm), (hr 7 (by decide)).trans (h4.trans (gd_ne (by decide)).symm), (hr 8 (by decide)).trans (h5.trans (gd_ne (by decide)).symm), hv.trans (gd_eq (by omega)).symm, (hr 10 (by decide)).trans (h7.trans (gd_ne (by decide)).symm)⟩, rest 5 (by decide) (by decide) (by decide)⟩
  · show rel w2 A (l.set 6 v)
    exact ⟨by rw [List.length_set]; exact h0, ⟨(hr 6 (by decide)).trans (h1.trans (gd_ne (by decide)).symm), (hr 3 (by decide)).trans (h2.trans (gd_ne (by decide)).symm), (hr 5 (by decide)).trans (h3.trans (gd_ne (by decide)).symm), (hr 7 (by decide)).trans (h4.trans (gd_ne (by decide)).symm), (hr 8 (by decide)).trans (h5.trans (gd_ne (by decide)).symm), (hr 9 (by decide)).trans (h6.trans (gd_ne (by decide)).symm), hv.trans (gd_eq (by omega)).symm⟩, rest 6 (by decide) (by decide) (by decide)⟩
theorem rel.sMany {n : Nat} (h : rel w A l) (hn : n ≤ 9) (en : l.getD 1 0 = nI n) (hnew : ∀ k, k < 6 → fi w (A + 4 + n) k = l.getD (103 + 6 * n + k) 0) (hs : Same A w w2) (hv : fi w2 A 3 = nI (n + 1)) (hr : ∀ j, j ≠ 3 → fi w2 A j = fi w A j) (hj : fj w2 A 1 = fj w A 1) : rel w2 A (l.set 1 (nI (n + 1))) := by
  obtain ⟨h0, ⟨h1, h2, h3, h4, h5, h6, h7⟩, h8, h9, h10, h11⟩ := h
  refine ⟨by rw [List.length_set]; exact h0, ⟨(hr 6 (by decide)).trans (h1.trans (gd_ne (by decide)).symm), hv.trans (gd_eq (by omega)).symm, (hr 5 (by decide)).trans (h3.trans (gd_ne (by decide)).symm), (hr 7 (by decide)).trans (h4.trans (gd_ne (by decide)).symm), (hr 8 (by decide)).trans (h5.trans (gd_ne (by decide)).symm), (hr 9 (by decide)).trans (h6.trans (gd_ne (by decide)).symm), (hr 10 (by decide)).trans (h7.trans (gd_ne (by decide)).symm)⟩, fun b hb => ?_, fun b hb => ?_, fun i hi k hk => ?_, fun d hd => ?_⟩
  · rw [ia_of (hs (A + 1) (by omega)), gd_ne (by omega)]
    exact h8 b hb
  · rw [hj, h9 b hb]
    unfold wlr
    split
    · exact (gd_ne (by omega)).symm
    · rfl
  · rw [gd_eq (by omega), iN_n (by omega)] at hi
    rw [gd_ne (by omega)]
    refine (fi_same k (hs _ (by omega))).trans ?_
    by_cases e : i = n
    · rw [e]
      exact hnew k hk
    · exact h10 i (by rw [en, iN_n (by omega)]; omega) k hk
  · rw [gd_ne (by decide)] at hd
    exact (congrArg (fun q => List.getD q d 0) (ia_of (hs (A + 3) (by omega)))).trans ((h11 d hd).trans (gd_ne (by omega)).symm)
theorem rel.sDished {n : Nat} (h : rel w A l) (hn : n ≤ 8) (en : l.getD 2 0 = nI n) (hnew : (ia w (A + 3)).getD n 0 = l.getD (163 + n) 0) (hs : Same A w w2) (hv : fi w2 A 5 = nI (n + 1)) (hr : ∀ j, j ≠ 5 → fi w2 A j = fi w A j) (hj : fj w2 A 1 = fj w A 1) : rel w2 A (l.set 2 (nI (n + 1))) := by
  obtain ⟨h0, ⟨h1, h2, h3, h4, h5, h6, h7⟩, h8, h9, h10, h11⟩ := h
  refine ⟨by rw [List.length_set]; exact h0, ⟨(hr 6 (by decide)).trans (h1.trans (gd_ne (by decide)).symm), (hr 3 (by decide)).trans (h2.trans (gd_ne (by decide)).symm), hv.trans (gd_eq (by omega)).symm, (hr 7 (by decide)).trans (h4.trans (gd_ne (by decide)).symm), (hr 8 (by decide)).trans (h5.trans (gd_ne (by decide)).symm), (hr 9 (by decide)).trans (h6.trans (gd_ne (by decide)).symm), (hr 10 (by decide)).trans (h7.trans (gd_ne (by decide)).symm)⟩, fun b hb => ?_, fun b hb => ?_, fun i hi k hk => ?_, fun d hd => ?_⟩
  · rw [ia_of (hs (A + 1) (by omega)), gd_ne (by omega)]
    exact h8 b hb
  · rw [hj, h9 b hb]
    unfold wlr
    split
    · exact (gd_ne (by omega)).symm
    · rfl
  · rw [gd_ne (by decide)] at hi
    exact (fi_same k (hs _ (by omega))).trans ((h10 i hi k hk).trans (gd_ne (by omega)).symm)
  · rw [gd_eq (by omega), iN_n (by omega)] at hd
    rw [ia_of (hs (A + 3) (by omega)), gd_ne (by omega)]
    by_cases e : d = n
    · rw [e]
      exact hnew
    · exact h11 d (by rw [en, iN_n (by omega)]; omega)
theorem rel.took {B : Nat} (h : rel w B l) (ht : Took A B w w2) : rel w2 A l := by
  obtain ⟨h0, ⟨h1, h2, h3, h4, h5, h6, h7⟩, h8, h9, h10, h11⟩ := h
  obtain ⟨-, t1, t2, t3, t4, t5⟩ := ht
  refine ⟨h0, ⟨(t3 6 (by omega)).trans h1, (t3 3 (by omega)).trans h2, (t3 5 (by omega)).trans h3, (t3 7 (by omega)).trans h4, (t3 8 (by omega)).trans h5, (t3 9 (by omega)).trans h6, (t3 10 (by omega)).trans h7⟩, fun c hc => by rw [t1]; exact h8 c hc, fun c hc => by rw [t2]; exact h9 c hc, fun i hi k hk => ?_, fun d hd => by rw [t4]; exact h11 d hd⟩
  exact (t5 i (by rw [h2]; exact hi) k hk).trans (h10 i hi k hk)
end SXRL
end
