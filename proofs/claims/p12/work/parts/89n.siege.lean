-- the text of the reference, exactly
/-- the text of the reference -/
def MT (n : Nat) (X : Nat → Nat) (w : List sx_C) : Prop := fi w 111 11 = nI n ∧ n ≤ 120 ∧ ∀ i, i < n → (ia w 121).getD i 0 = nI (X i) ∧ X i < 256
/-- the reference's text and all else but here, fault and value stand -/
def HS (w w2 : List sx_C) : Prop := (∀ a, a ≠ 111 → w2[a]? = w[a]?) ∧ ∀ j, j < 12 → fi w2 111 j = fi w 111 j
theorem HS.rf {w : List sx_C} : HS w w := ⟨fun _ _ => rfl, fun _ _ => rfl⟩
theorem HS.tr {w w1 w2 : List sx_C} (h : HS w w1) (h2 : HS w1 w2) : HS w w2 := ⟨fun a ha => (h2.1 a ha).trans (h.1 a ha), fun j hj => (h2.2 j hj).trans (h.2 j hj)⟩
theorem MT.hs {n : Nat} {X : Nat → Nat} {w w2 : List sx_C} (h : MT n X w) (e : HS w w2) : MT n X w2 := ⟨(e.2 11 (by decide)).trans h.1, h.2.1, fun i hi => by rw [ia_of (e.1 121 (by decide))]; exact h.2.2 i hi⟩
def bA (n : Nat) (X : Nat → Nat) (i : Nat) : Int32 := if i < n then nI (X i) else -1
theorem bA_blk {n i : Nat} {X : Nat → Nat} (hX : i < n → X i < 256) : bA n X i = 32 ↔ (i < n ∧ blk (X i) = true) := by
  unfold bA
  split
  · rename_i h
    unfold blk
    rw [show (32 : Int32) = nI 32 from rfl, nI_eq (by have := hX h; omega) (by decide), beq_iff_eq]
    exact ⟨fun z => ⟨h, z⟩, fun z => z.2⟩
  · rename_i h
    exact ⟨fun z => absurd z (by decide), fun z => absurd z.1 h⟩
theorem bA_in {n i lo hi : Nat} {X : Nat → Nat} (hh : hi < 256) (hX : i < n → X i < 256) : (nI lo ≤ bA n X i ∧ bA n X i ≤ nI hi) ↔ (lo ≤ hi ∧ i < n ∧ lo ≤ X i ∧ X i ≤ hi) ∨ (hi < lo ∧ nI lo ≤ bA n X i ∧ bA n X i ≤ nI hi) := by
  by_cases e : lo ≤ hi
  · unfold bA
    split
    · rename_i h
      have := hX h
      rw [nI_leI (by omega) (by omega), nI_leI (by omega) (by omega)]
      omega
    · rename_i h
      refine ⟨fun z => absurd z.1 (Int32.not_le.mpr ?_), fun z => by omega⟩
      rw [Int32.lt_iff_toInt_lt, nI_toInt (by omega), show (-1 : Int32).toInt = -1 by decide]
      omega
  · exact ⟨fun z => Or.inr ⟨by omega, z⟩, fun z => by
      rcases z with z | z
      · omega
      · exact z.2⟩
theorem bA_lett {n i : Nat} {X : Nat → Nat} (hX : i < n → X i < 256) : ((97 : Int32) ≤ bA n X i ∧ bA n X i ≤ 122) ↔ (i < n ∧ lett (X i) = true) := by
  rw [show (97 : Int32) = nI 97 from rfl, show (122 : Int32) = nI 122 from rfl, bA_in (by decide) hX]
  unfold lett
  rw [Bool.and_eq_true, Nat.ble_eq, Nat.ble_eq]
  omega
theorem bA_digi {n i : Nat} {X : Nat → Nat} (hX : i < n → X i < 256) : ((48 : Int32) ≤ bA n X i ∧ bA n X i ≤ 57) ↔ (i < n ∧ digi (X i) = true) := by
  rw [show (48 : Int32) = nI 48 from rfl, show (57 : Int32) = nI 57 from rfl, bA_in (by decide) hX]
  unfold digi
  rw [Bool.and_eq_true, Nat.ble_eq, Nat.ble_eq]
  omega
theorem MT.x {n i : Nat} {X : Nat → Nat} {w : List sx_C} (h : MT n X w) (hi : i < n) : X i < 256 := (h.2.2 i hi).2
/-- here alone may change -/
def H12 (w w2 : List sx_C) : Prop := (∀ a, a ≠ 111 → w2[a]? = w[a]?) ∧ ∀ j, j ≠ 12 → fi w2 111 j = fi w 111 j
theorem H12.rf {w : List sx_C} : H12 w w := ⟨fun _ _ => rfl, fun _ _ => rfl⟩
theorem H12.tr {w w1 w2 : List sx_C} (h : H12 w w1) (h2 : H12 w1 w2) : H12 w w2 := ⟨fun a ha => (h2.1 a ha).trans (h.1 a ha), fun j hj => (h2.2 j hj).trans (h.2 j hj)⟩
theorem H12.hs {w w2 : List sx_C} (h : H12 w w2) : HS w w2 := ⟨h.1, fun j hj => h.2 j (by omega)⟩
set_option maxRecDepth 20000 in
set_option maxHeartbeats 4000000 in
theorem y216 {xs : Option (List Int32)} {d : Nat} {w : List sx_C} (hI : WI w) {n i : Nat} {X : Nat → Nat} (hM : MT n X w) (hi : i < 2 ^ 31) : sx_RU xs d 216 0 (lv_args 0 [.ref 111, .int (nI i)]) [] w (some (.int (bA n X i))) w := by
  have hn := hM.2.1
  have h : sx_RP xs d 216 0 (lv_args 0 [.ref 111, .int (nI i)]) [] w (fun r9 w2 => r9 = some (.int (bA n X i)) ∧ w2 = w) := by
    refine sx_RP.step (pc2 := 1) (ls2 := [(0, .ref 111), (1, .int (nI i))]) (st2 := [.int (nI i)]) (w3 := w) rfl rfl ?_
    refine sx_RP.step (pc2 := 2) (ls2 := [(0, .ref 111), (1, .int (nI i))]) (st2 := [.ref 111, .int (nI i)]) (w3 := w) rfl rfl ?_
    refine sx_RP.gf (v := .int (fi w 111 11)) rfl rfl hI.1.o111 rfl rfl (show _ = 5 from rfl) ?_
    rw [hM.1]
    refine sx_RP.br (p1 := 17) (l1 := [(0, .ref 111), (1, .int (nI i))]) (s1 := []) (v1 := w) (p2 := 8) (l2 := [(0, .ref 111), (1, .int (nI i))]) (s2 := []) (v2 := w) rfl rfl (fun q1 => ?_) (fun q1 => ?_)
    · replace q1 := of_decide_eq_true q1
      replace q1 := (nI_leI (a := n) (b := i) (by omega) (by omega)).mp q1
      refine sx_RP.step (pc2 := 18) (ls2 := [(0, .ref 111), (1, .int (nI i))]) (st2 := [.int (-1)]) (w3 := w) rfl rfl ?_
      refine sx_RP.ret (r := (some (.int (-1)))) rfl rfl ?_
      exact ⟨by unfold bA; rw [if_neg (by omega)], rfl⟩
    · replace q1 := of_decide_eq_false q1
      replace q1 := mt (nI_leI (a := n) (b := i) (by omega) (by omega)).mpr q1
      refine sx_RP.step (pc2 := 9) (ls2 := [(0, .ref 111), (1, .int (nI i))]) (st2 := [.ref 111]) (w3 := w) rfl rfl ?_
      refine sx_RP.gf (v := .ref 121) rfl rfl hI.1.o111 rfl rfl (show _ = 12 from rfl) ?_
      refine sx_RP.step (pc2 := 13) (ls2 := [(0, .ref 111), (1, .int (nI i))]) (st2 := [.int (nI i), .ref 121]) (w3 := w) rfl rfl ?_
      refine sx_RP.ild (c := i) rfl hI.1.a121.1 hI.1.a121.2 (sx_in_nI (show i < 120 by omega) (by decide)) (nI_clamp (by omega)) (show _ = 14 from rfl) ?_
      rw [(hM.2.2 (i) (by omega)).1]
      refine sx_RP.step (pc2 := 18) (ls2 := [(0, .ref 111), (1, .int (nI i))]) (st2 := [.int (nI (X (i)))]) (w3 := w) rfl rfl ?_
      refine sx_RP.ret (r := (some (.int (nI (X (i)))))) rfl rfl ?_
      exact ⟨by unfold bA; rw [if_pos (by omega)], rfl⟩
  obtain ⟨r9, w2, h1, rfl, rfl⟩ := h
  exact h1
set_option maxRecDepth 20000 in
set_option maxHeartbeats 4000000 in
theorem y132 {xs : Option (List Int32)} {d : Nat} {w : List sx_C} (hI : WI w) (x lo hi : Int32) : sx_RU xs d 132 0 (lv_args 0 [.int x, .int lo, .int hi]) [] w (some (.int (if lo ≤ x ∧ x ≤ hi then 1 else 0))) w := by
  have h : sx_RP xs d 132 0 (lv_args 0 [.int x, .int lo, .int hi]) [] w (fun r9 w2 => r9 = some (.int (if lo ≤ x ∧ x ≤ hi then 1 else 0)) ∧ w2 = w) := by
    refine sx_RP.step (pc2 := 1) (ls2 := [(0, .int x), (1, .int lo), (2, .int hi)]) (st2 := [.int x]) (w3 := w) rfl rfl ?_
    refine sx_RP.step (pc2 := 2) (ls2 := [(0, .int x), (1, .int lo), (2, .int hi)]) (st2 := [.int lo, .int x]) (w3 := w) rfl rfl ?_
    refine sx_RP.br (p1 := 14) (l1 := [(0, .int x), (1, .int lo), (2, .int hi)]) (s1 := []) (v1 := w) (p2 := 5) (l2 := [(0, .int x), (1, .int lo), (2, .int hi)]) (s2 := []) (v2 := w) rfl rfl (fun q1 => ?_) (fun q1 => ?_)
    · replace q1 := of_decide_eq_true q1
      refine sx_RP.step (pc2 := 15) (ls2 := [(0, .int x), (1, .int lo), (2, .int hi)]) (st2 := [.int 0]) (w3 := w) rfl rfl ?_
      refine sx_RP.ret (r := (some (.int 0))) rfl rfl ?_
      exact ⟨by rw [if_neg (fun z => absurd z.1 (Int32.not_le.mpr q1))], rfl⟩
    · replace q1 := of_decide_eq_false q1
      refine sx_RP.step (pc2 := 6) (ls2 := [(0, .int x), (1, .int lo), (2, .int hi)]) (st2 := [.int x]) (w3 := w) rfl rfl ?_
      refine sx_RP.step (pc2 := 7) (ls2 := [(0, .int x), (1, .int lo), (2, .int hi)]) (st2 := [.int hi, .int x]) (w3 := w) rfl rfl ?_
      refine sx_RP.br (p1 := 14) (l1 := [(0, .int x), (1, .int lo), (2, .int hi)]) (s1 := []) (v1 := w) (p2 := 10) (l2 := [(0, .int x), (1, .int lo), (2, .int hi)]) (s2 := []) (v2 := w) rfl rfl (fun q2 => ?_) (fun q2 => ?_)
      · replace q2 := of_decide_eq_true q2
        refine sx_RP.step (pc2 := 15) (ls2 := [(0, .int x), (1, .int lo), (2, .int hi)]) (st2 := [.int 0]) (w3 := w) rfl rfl ?_
        refine sx_RP.ret (r := (some (.int 0))) rfl rfl ?_
        exact ⟨by rw [if_neg (fun z => absurd z.2 (Int32.not_le.mpr q2))], rfl⟩
      · replace q2 := of_decide_eq_false q2
        refine sx_RP.step (pc2 := 11) (ls2 := [(0, .int x), (1, .int lo), (2, .int hi)]) (st2 := [.int 1]) (w3 := w) rfl rfl ?_
        refine sx_RP.step (pc2 := 15) (ls2 := [(0, .int x), (1, .int lo), (2, .int hi)]) (st2 := [.int 1]) (w3 := w) rfl rfl ?_
        refine sx_RP.ret (r := (some (.int 1))) rfl rfl ?_
        exact ⟨by rw [if_pos ⟨Int32.not_lt.mp q1, Int32.not_lt.mp q2⟩], rfl⟩
  obtain ⟨r9, w2, h1, rfl, rfl⟩ := h
  exact h1
set_option maxRecDepth 20000 in
set_option maxHeartbeats 4000000 in
theorem y215B {xs : Option (List Int32)} {d n p : Nat} {X : Nat → Nat} {w w0 : List sx_C} (hI : WI w) (hM : MT n X w) (hp : p ≤ n) (ep : fi w 111 12 = nI p) (hO : H12 w0 w) (kk : ∀ w2, WI w2 → MT n X w2 → fi w2 111 12 = nI (p + 1) → H12 w0 w2 → p < n → sx_RP xs (d + 1) 215 0 [(0, .ref 111)] [] w2 (fun r w2 => (r = none ∧ fi w2 111 12 = nI (rE blk n X (p + 1))) ∧ WI w2 ∧ H12 w0 w2)) : sx_RP xs (d + 1) 215 0 [(0, .ref 111)] [] w (fun r w2 => (r = none ∧ fi w2 111 12 = nI (rE blk n X p)) ∧ WI w2 ∧ H12 w0 w2) := by
  have hn := hM.2.1
  refine sx_RP.step (pc2 := 1) (ls2 := [(0, .ref 111)]) (st2 := [.ref 111]) (w3 := w) rfl rfl ?_
  refine sx_RP.step (pc2 := 2) (ls2 := [(0, .ref 111)]) (st2 := [.ref 111, .ref 111]) (w3 := w) rfl rfl ?_
  refine sx_RP.gf (v := .int (fi w 111 12)) rfl rfl hI.1.o111 rfl rfl (show _ = 5 from rfl) ?_
  rw [ep]
  refine sx_RP.cu (as := [.ref 111, .int (nI p)]) (rest2 := []) (st3 := [.int (bA n X p)]) rfl rfl (sx_inv_v2 (mi := 215) (k := 215) (st := [.int (nI p), .ref 111]) (w := w) rfl rfl hI.1.o111 rfl rfl rfl) rfl rfl (y216 hI hM (by omega)) rfl ?_
  refine sx_RP.step (pc2 := 10) (ls2 := [(0, .ref 111)]) (st2 := [.int 32, .int (bA n X p)]) (w3 := w) rfl rfl ?_
  refine sx_RP.br (p1 := 26) (l1 := [(0, .ref 111)]) (s1 := []) (v1 := w) (p2 := 13) (l2 := [(0, .ref 111)]) (s2 := []) (v2 := w) rfl rfl (fun q1 => ?_) (fun q1 => ?_)
  · replace q1 := of_decide_eq_true q1
    refine sx_RP.ret (r := none) rfl rfl ?_
    exact ⟨⟨rfl, by rw [ep, rE_n (fun z => q1 ((bA_blk (fun z => hM.x z)).mpr z))]⟩, hI, hO⟩
  · replace q1 := Decidable.not_not.mp (of_decide_eq_false q1)
    refine sx_RP.step (pc2 := 14) (ls2 := [(0, .ref 111)]) (st2 := [.ref 111]) (w3 := w) rfl rfl ?_
    refine sx_RP.step (pc2 := 15) (ls2 := [(0, .ref 111)]) (st2 := [.ref 111, .ref 111]) (w3 := w) rfl rfl ?_
    refine sx_RP.gf (v := .int (fi w 111 12)) rfl rfl hI.1.o111 rfl rfl (show _ = 18 from rfl) ?_
    rw [ep]
    refine sx_RP.step (pc2 := 19) (ls2 := [(0, .ref 111)]) (st2 := [.int 1, .int (nI p), .ref 111]) (w3 := w) rfl rfl ?_
    refine sx_RP.step (pc2 := 20) (ls2 := [(0, .ref 111)]) (st2 := [.int ((nI p) + 1), .ref 111]) (w3 := w) rfl rfl ?_
    rw [show ((nI p) + 1 : Int32) = nI (p + 1) from nI_add p 1]
    have hb := (bA_blk (fun z => hM.x z)).mp q1
    refine sx_RP.pm (k := 12) hI EM.rf rfl rfl (by decide) rfl (inR.n (show (p + 1) ≤ 120 by omega)) (show _ = 23 from rfl) (fun w2 hI3 hE4 hv5 hr6 hs7 => ?_)
    refine sx_RP.step (pc2 := 0) (ls2 := [(0, .ref 111)]) (st2 := []) (w3 := w2) rfl rfl ?_
    have hO2 : H12 w w2 := ⟨hs7, hr6⟩
    rw [rE_y hb.1 hb.2]
    exact sx_RP.ls (sx_lr.cons rfl sx_lr.nil) (kk w2 hI3 (hM.hs hO2.hs) hv5 (hO.tr hO2) hb.1)
theorem y215L {xs : Option (List Int32)} {d n : Nat} {X : Nat → Nat} {w0 : List sx_C} : ∀ (fz p : Nat) (w : List sx_C), n ≤ p + fz → p ≤ n → WI w → MT n X w → fi w 111 12 = nI p → H12 w0 w → sx_RP xs (d + 1) 215 0 [(0, .ref 111)] [] w (fun r w2 => (r = none ∧ fi w2 111 12 = nI (rE blk n X p)) ∧ WI w2 ∧ H12 w0 w2)
  | 0, p, w, h, hp, hI, hM, ep, hO => y215B hI hM hp ep hO (fun _ _ _ _ _ z => absurd z (by omega))
  | fz + 1, p, w, h, hp, hI, hM, ep, hO => y215B hI hM hp ep hO (fun w2 a b c e z => y215L fz (p + 1) w2 (by omega) z a b c e)
theorem y215 {xs : Option (List Int32)} {d n p : Nat} {X : Nat → Nat} {w : List sx_C} (hI : WI w) (hM : MT n X w) (hp : p ≤ n) (ep : fi w 111 12 = nI p) : sx_RP xs (d + 1) 215 0 (lv_args 0 [.ref 111]) [] w (fun r w2 => (r = none ∧ fi w2 111 12 = nI (rE blk n X p)) ∧ WI w2 ∧ H12 w w2) := y215L n p w (by omega) hp hI hM ep H12.rf
set_option maxRecDepth 20000 in
set_option maxHeartbeats 4000000 in
theorem y217B {xs : Option (List Int32)} {d n j : Nat} {X : Nat → Nat} {w : List sx_C} (hI : WI w) (hM : MT n X w) (hj : j ≤ n) (kk : j < n → sx_RP xs (d + 2) 217 5 [(0, .ref 111), (1, .int (nI (j + 1)))] [] w (fun r w2 => r = some (.int (nI (rE lett n X (j + 1)))) ∧ w2 = w)) : sx_RP xs (d + 2) 217 5 [(0, .ref 111), (1, .int (nI j))] [] w (fun r w2 => r = some (.int (nI (rE lett n X j))) ∧ w2 = w) := by
  have hn := hM.2.1
  refine sx_RP.step (pc2 := 6) (ls2 := [(0, .ref 111), (1, .int (nI j))]) (st2 := [.ref 111]) (w3 := w) rfl rfl ?_
  refine sx_RP.step (pc2 := 7) (ls2 := [(0, .ref 111), (1, .int (nI j))]) (st2 := [.int (nI j), .ref 111]) (w3 := w) rfl rfl ?_
  refine sx_RP.cu (as := [.ref 111, .int (nI j)]) (rest2 := []) (st3 := [.int (bA n X j)]) rfl rfl (sx_inv_v2 (mi := 217) (k := 215) (st := [.int (nI j), .ref 111]) (w := w) rfl rfl hI.1.o111 rfl rfl rfl) rfl rfl (y216 hI hM (by omega)) rfl ?_
  rcases Classical.em (j < n ∧ lett (X j) = true) with c1 | c1
  · refine sx_RP.cu (as := [.int (bA n X j)]) (rest2 := []) (st3 := [.int 1]) rfl rfl rfl rfl rfl (cx_218p ((bA_lett (fun z => hM.x z)).mpr c1)) rfl ?_
    refine sx_RP.step (pc2 := 16) (ls2 := [(0, .ref 111), (1, .int (nI j))]) (st2 := []) (w3 := w) rfl rfl ?_
    refine sx_RP.step (pc2 := 19) (ls2 := [(1, .int ((nI j) + 1)), (0, .ref 111)]) (st2 := []) (w3 := w) rfl rfl ?_
    rw [nI_1 j]
    refine sx_RP.step (pc2 := 5) (ls2 := [(1, .int (nI (j + 1))), (0, .ref 111)]) (st2 := []) (w3 := w) rfl rfl ?_
    rw [rE_y c1.1 c1.2]
    exact sx_RP.ls (sx_lr.cons rfl (sx_lr.cons rfl sx_lr.nil)) (kk c1.1)
  · refine sx_RP.cu (as := [.int (bA n X j)]) (rest2 := []) (st3 := [.int 0]) rfl rfl rfl rfl rfl (cx_218n (fun z => c1 ((bA_lett (fun z => hM.x z)).mp z))) rfl ?_
    refine sx_RP.step (pc2 := 22) (ls2 := [(0, .ref 111), (1, .int (nI j))]) (st2 := []) (w3 := w) rfl rfl ?_
    refine sx_RP.step (pc2 := 23) (ls2 := [(0, .ref 111), (1, .int (nI j))]) (st2 := [.int (nI j)]) (w3 := w) rfl rfl ?_
    refine sx_RP.ret (r := (some (.int (nI j)))) rfl rfl ?_
    exact ⟨by rw [rE_n c1], rfl⟩
theorem y217L {xs : Option (List Int32)} {d n : Nat} {X : Nat → Nat} {w : List sx_C} (hI : WI w) (hM : MT n X w) : ∀ (fz j : Nat), n ≤ j + fz → j ≤ n → sx_RP xs (d + 2) 217 5 [(0, .ref 111), (1, .int (nI j))] [] w (fun r w2 => r = some (.int (nI (rE lett n X j))) ∧ w2 = w)
  | 0, j, h, hj => y217B hI hM hj (fun z => absurd z (by omega))
  | fz + 1, j, h, hj => y217B hI hM hj (fun z => y217L hI hM fz (j + 1) (by omega) z)
set_option maxRecDepth 20000 in
set_option maxHeartbeats 4000000 in
theorem y217 {xs : Option (List Int32)} {d : Nat} {w : List sx_C} (hI : WI w) {n p : Nat} {X : Nat → Nat} (hM : MT n X w) (hp : p ≤ n) (ep : fi w 111 12 = nI p) : sx_RU xs (d + 2) 217 0 (lv_args 0 [.ref 111]) [] w (some (.int (nI (rE lett n X p)))) w := by
  have h : sx_RP xs (d + 2) 217 0 (lv_args 0 [.ref 111]) [] w (fun r9 w2 => r9 = some (.int (nI (rE lett n X p))) ∧ w2 = w) := by
    refine sx_RP.step (pc2 := 1) (ls2 := [(0, .ref 111)]) (st2 := [.ref 111]) (w3 := w) rfl rfl ?_
    refine sx_RP.gf (v := .int (fi w 111 12)) rfl rfl hI.1.o111 rfl rfl (show _ = 4 from rfl) ?_
    rw [ep]
    refine sx_RP.step (pc2 := 5) (ls2 := [(1, .int (nI p)), (0, .ref 111)]) (st2 := []) (w3 := w) rfl rfl ?_
    exact sx_RP.ls (sx_lr.cons rfl (sx_lr.cons rfl sx_lr.nil)) (y217L hI hM n p (by omega) hp)
  obtain ⟨r9, w2, h1, rfl, rfl⟩ := h
  exact h1
