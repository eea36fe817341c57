-- the readers
def nP (n : Nat) (X : Nat → Nat) (p : Nat) : Nat := rE blk n X (beT n X p)
theorem nP_le {n p : Nat} {X : Nat → Nat} (h : p ≤ n) : nP n X p ≤ n := rE_le (beT_le h)
def nmT (n : Nat) (X : Nat → Nat) (p lo hi : Nat) : Bool := decide (soT n X p = 2) && (decide (lo ≤ vaT n X p) && decide (vaT n X p ≤ hi))
theorem vaT_le {n p : Nat} {X : Nat → Nat} : vaT n X p ≤ 1000000 := by
  unfold vaT
  split
  · exact nuV_le _ _ _ (by omega)
  · omega
theorem soT_le {n p : Nat} {X : Nat → Nat} {w : List sx_C} (hC : CT n X w) : soT n X p ≤ 4 := by
  unfold soT
  split
  · rename_i h
    exact (sort_le ⟨X p, hC.lt h⟩).2
  · decide
theorem nmT_in {n p lo hi : Nat} {X : Nat → Nat} (h : nmT n X p lo hi = true) : lo ≤ vaT n X p ∧ vaT n X p ≤ hi := by
  unfold nmT at h
  simp only [Bool.and_eq_true, decide_eq_true_eq] at h
  exact h.2
/-- all but the text's own cell and the camp that is told to -/
def OffT (w w2 : List sx_C) : Prop := ∀ a, a ≠ 96 → (a < 29 ∨ 43 ≤ a) → w2[a]? = w[a]?
theorem OffT.rf {w : List sx_C} : OffT w w := fun _ _ _ => rfl
theorem OffT.tr {w w1 w2 : List sx_C} (h : OffT w w1) (h2 : OffT w1 w2) : OffT w w2 := fun a h3 h4 => (h2 a h3 h4).trans (h a h3 h4)
theorem Same.offT {w w2 : List sx_C} (h : Same 96 w w2) : OffT w w2 := fun a h1 _ => h a h1
theorem Out.offT {w w2 : List sx_C} (h : Out 29 w w2) : OffT w w2 := fun a _ h2 => h a (by omega)
theorem CT.out {n : Nat} {X : Nat → Nat} {w w2 : List sx_C} (h : CT n X w) (ho : Out 29 w w2) : CT n X w2 := h.same (fi_same 1 (ho 96 (by omega))) (ia_of (ho 97 (by omega)))
theorem TK'.out {n p : Nat} {X : Nat → Nat} {w w2 : List sx_C} (h : TK' n X p w) (ho : Out 29 w w2) : TK' n X p w2 := ⟨(fi_same 3 (ho 96 (by omega))).trans h.1, (fi_same 2 (ho 96 (by omega))).trans h.2.1, (fi_same 4 (ho 96 (by omega))).trans h.2.2.1, (fi_same 5 (ho 96 (by omega))).trans h.2.2.2⟩
theorem isA29 : isA 29 := Or.inr (Or.inr rfl)
theorem campB_96 {w w2 : List sx_C} (hI : WI w) (h : Same 96 w w2) : campB w2 29 = campB w 29 := campB_same (fun a h1 h2 => h a (by omega)) (hI.many isA29)
set_option maxRecDepth 20000 in
set_option maxHeartbeats 4000000 in
theorem x103 {xs : Option (List Int32)} {d : Nat} {w : List sx_C} (hI : WI w) {n p lo hi : Nat} {X : Nat → Nat} (hC : CT n X w) (hT : TK' n X p w) (hlo : lo ≤ 1000000) (hhi : hi ≤ 1000000) : sx_RU xs d 103 0 (lv_args 0 [.ref 96, .int (nI lo), .int (nI hi)]) [] w (some (.int (b01 (nmT n X p lo hi)))) w := by
  have h : sx_RP xs d 103 0 (lv_args 0 [.ref 96, .int (nI lo), .int (nI hi)]) [] w (fun r9 w2 => r9 = some (.int (b01 (nmT n X p lo hi))) ∧ w2 = w) := by
    have hv := vaT_le (n := n) (p := p) (X := X)
    have hs4 := soT_le (p := p) hC
    refine sx_RP.step (pc2 := 1) (ls2 := [(0, .ref 96), (1, .int (nI lo)), (2, .int (nI hi))]) (st2 := [.ref 96]) (w3 := w) rfl rfl ?_
    refine sx_RP.gt (k := 2) hI rfl rfl (by decide) (show _ = 4 from rfl) ?_
    rw [hT.2.1]
    refine sx_RP.step (pc2 := 5) (ls2 := [(0, .ref 96), (1, .int (nI lo)), (2, .int (nI hi))]) (st2 := [.int 2, .int (nI (soT n X p))]) (w3 := w) rfl rfl ?_
    refine sx_RP.br (p1 := 28) (l1 := [(0, .ref 96), (1, .int (nI lo)), (2, .int (nI hi))]) (s1 := []) (v1 := w) (p2 := 8) (l2 := [(0, .ref 96), (1, .int (nI lo)), (2, .int (nI hi))]) (s2 := []) (v2 := w) rfl rfl (fun q1 => ?_) (fun q1 => ?_)
    · replace q1 := of_decide_eq_true q1
      replace q1 := mt (nI_eq (a := (soT n X p)) (b := 2) (by omega) (by omega)).mpr q1
      refine sx_RP.step (pc2 := 29) (ls2 := [(0, .ref 96), (1, .int (nI lo)), (2, .int (nI hi))]) (st2 := [.int 0]) (w3 := w) rfl rfl ?_
      refine sx_RP.ret (r := (some (.int 0))) rfl rfl ?_
      exact ⟨by unfold nmT; rw [decide_eq_false (show ¬ soT n X p = 2 by omega)]; rfl, rfl⟩
    · replace q1 := Decidable.not_not.mp (of_decide_eq_false q1)
      replace q1 := (nI_eq (a := (soT n X p)) (b := 2) (by omega) (by omega)).mp q1
      refine sx_RP.step (pc2 := 9) (ls2 := [(0, .ref 96), (1, .int (nI lo)), (2, .int (nI hi))]) (st2 := [.ref 96]) (w3 := w) rfl rfl ?_
      refine sx_RP.gt (k := 5) hI rfl rfl (by decide) (show _ = 12 from rfl) ?_
      rw [hT.2.2.2]
      refine sx_RP.step (pc2 := 13) (ls2 := [(0, .ref 96), (1, .int (nI lo)), (2, .int (nI hi))]) (st2 := [.int (nI lo), .int (nI (vaT n X p))]) (w3 := w) rfl rfl ?_
      refine sx_RP.br (p1 := 28) (l1 := [(0, .ref 96), (1, .int (nI lo)), (2, .int (nI hi))]) (s1 := []) (v1 := w) (p2 := 16) (l2 := [(0, .ref 96), (1, .int (nI lo)), (2, .int (nI hi))]) (s2 := []) (v2 := w) rfl rfl (fun q2 => ?_) (fun q2 => ?_)
      · replace q2 := of_decide_eq_true q2
        replace q2 := (nI_ltI (a := (vaT n X p)) (b := lo) (by omega) (by omega)).mp q2
        refine sx_RP.step (pc2 := 29) (ls2 := [(0, .ref 96), (1, .int (nI lo)), (2, .int (nI hi))]) (st2 := [.int 0]) (w3 := w) rfl rfl ?_
        refine sx_RP.ret (r := (some (.int 0))) rfl rfl ?_
        exact ⟨by unfold nmT; rw [decide_eq_false (show ¬ lo ≤ vaT n X p by omega), Bool.false_and, Bool.and_false]; rfl, rfl⟩
      · replace q2 := of_decide_eq_false q2
        replace q2 := mt (nI_ltI (a := (vaT n X p)) (b := lo) (by omega) (by omega)).mpr q2
        refine sx_RP.step (pc2 := 17) (ls2 := [(0, .ref 96), (1, .int (nI lo)), (2, .int (nI hi))]) (st2 := [.ref 96]) (w3 := w) rfl rfl ?_
        refine sx_RP.gt (k := 5) hI rfl rfl (by decide) (show _ = 20 from rfl) ?_
        rw [hT.2.2.2]
        refine sx_RP.step (pc2 := 21) (ls2 := [(0, .ref 96), (1, .int (nI lo)), (2, .int (nI hi))]) (st2 := [.int (nI hi), .int (nI (vaT n X p))]) (w3 := w) rfl rfl ?_
        refine sx_RP.br (p1 := 28) (l1 := [(0, .ref 96), (1, .int (nI lo)), (2, .int (nI hi))]) (s1 := []) (v1 := w) (p2 := 24) (l2 := [(0, .ref 96), (1, .int (nI lo)), (2, .int (nI hi))]) (s2 := []) (v2 := w) rfl rfl (fun q3 => ?_) (fun q3 => ?_)
        · replace q3 := of_decide_eq_true q3
          replace q3 := (nI_ltI (a := hi) (b := (vaT n X p)) (by omega) (by omega)).mp q3
          refine sx_RP.step (pc2 := 29) (ls2 := [(0, .ref 96), (1, .int (nI lo)), (2, .int (nI hi))]) (st2 := [.int 0]) (w3 := w) rfl rfl ?_
          refine sx_RP.ret (r := (some (.int 0))) rfl rfl ?_
          exact ⟨by unfold nmT; rw [decide_eq_false (show ¬ vaT n X p ≤ hi by omega), Bool.and_false, Bool.and_false]; rfl, rfl⟩
        · replace q3 := of_decide_eq_false q3
          replace q3 := mt (nI_ltI (a := hi) (b := (vaT n X p)) (by omega) (by omega)).mpr q3
          refine sx_RP.step (pc2 := 25) (ls2 := [(0, .ref 96), (1, .int (nI lo)), (2, .int (nI hi))]) (st2 := [.int 1]) (w3 := w) rfl rfl ?_
          refine sx_RP.step (pc2 := 29) (ls2 := [(0, .ref 96), (1, .int (nI lo)), (2, .int (nI hi))]) (st2 := [.int 1]) (w3 := w) rfl rfl ?_
          refine sx_RP.ret (r := (some (.int 1))) rfl rfl ?_
          exact ⟨by unfold nmT; rw [decide_eq_true (show soT n X p = 2 by omega), decide_eq_true (show lo ≤ vaT n X p by omega), decide_eq_true (show vaT n X p ≤ hi by omega)]; rfl, rfl⟩
  obtain ⟨r9, w2, h1, rfl, rfl⟩ := h
  exact h1
theorem x103t {xs : Option (List Int32)} {d n p lo hi : Nat} {X : Nat → Nat} {w : List sx_C} (hI : WI w) (hC : CT n X w) (hT : TK' n X p w) (hlo : lo ≤ 1000000) (hhi : hi ≤ 1000000) (h : nmT n X p lo hi = true) : sx_RU xs d 103 0 (lv_args 0 [.ref 96, .int (nI lo), .int (nI hi)]) [] w (some (.int 1)) w := by
  have c := x103 (xs := xs) (d := d) hI hC hT hlo hhi
  rw [h] at c
  exact c
theorem x101t {xs : Option (List Int32)} {d n p : Nat} {X : Nat → Nat} {w : List sx_C} {k : UInt32} {m : Nat} (hI : WI w) (hC : CT n X w) (hT : TK' n X p w) (hpn : p ≤ n) (hk : 100 ≤ k.toNat ∧ k.toNat < 120) (en : sx_sn.getD (k.toNat - 100) 0 = m) (hm : m ≤ 7) (h : wdT n X p k = true) : sx_RU xs d 101 0 (lv_args 0 [.ref 96, .float k]) [] w (some (.int 1)) w := by
  have c := x101 (xs := xs) (d := d) hI hC hT hpn hk en hm
  rw [h] at c
  exact c
theorem x103f {xs : Option (List Int32)} {d n p lo hi : Nat} {X : Nat → Nat} {w : List sx_C} (hI : WI w) (hC : CT n X w) (hT : TK' n X p w) (hlo : lo ≤ 1000000) (hhi : hi ≤ 1000000) (h : nmT n X p lo hi = false) : sx_RU xs d 103 0 (lv_args 0 [.ref 96, .int (nI lo), .int (nI hi)]) [] w (some (.int 0)) w := by
  have c := x103 (xs := xs) (d := d) hI hC hT hlo hhi
  rw [h] at c
  exact c
theorem x101f {xs : Option (List Int32)} {d n p : Nat} {X : Nat → Nat} {w : List sx_C} {k : UInt32} {m : Nat} (hI : WI w) (hC : CT n X w) (hT : TK' n X p w) (hpn : p ≤ n) (hk : 100 ≤ k.toNat ∧ k.toNat < 120) (en : sx_sn.getD (k.toNat - 100) 0 = m) (hm : m ≤ 7) (h : wdT n X p k = false) : sx_RU xs d 101 0 (lv_args 0 [.ref 96, .float k]) [] w (some (.int 0)) w := by
  have c := x101 (xs := xs) (d := d) hI hC hT hpn hk en hm
  rw [h] at c
  exact c
def disT (n : Nat) (X : Nat → Nat) (p : Nat) (b : BB) : Bool × Nat × BB := if b.2.1.length < 9 then (if nmT n X (nP n X p) 0 47 = true then (true, nP n X (nP n X p), addD (nI (vaT n X (nP n X p))) b) else (false, nP n X p, b)) else (false, p, b)
/-- what a reader leaves: the token behind it and the camp, or the token that can't stand -/
def Rd (n : Nat) (X : Nat → Nat) (q : Bool × Nat × BB) (w : List sx_C) : Prop := TK' n X q.2.1 w ∧ (q.1 = true → campB w 29 = q.2.2)
set_option maxRecDepth 20000 in
set_option maxHeartbeats 4000000 in
theorem X109 {xs : Option (List Int32)} {d : Nat} {w : List sx_C} (hI : WI w) {n p : Nat} {X : Nat → Nat} {b : BB} (hC : CT n X w) (hT : TK' n X p w) (hp : p ≤ n) (hB : campB w 29 = b) : sx_RP xs (d + 3) 109 0 (lv_args 0 [.ref 96, .ref 29]) [] w (fun r w2 => (r = some (.int (b01 (disT n X p b).1)) ∧ Rd n X (disT n X p b) w2) ∧ WI w2 ∧ CT n X w2 ∧ OffT w w2) := by
  obtain ⟨m, hm, en⟩ := (hI.c isA29).2
  refine sx_RP.step (pc2 := 1) (ls2 := [(0, .ref 96), (1, .ref 29)]) (st2 := [.ref 29]) (w3 := w) rfl rfl ?_
  rcases Decidable.em (m < 9) with c1 | c1
  · refine sx_RP.cu (as := [.ref 29]) (rest2 := []) (st3 := [.int 1]) rfl rfl (sx_inv_v2 (mi := 109) (k := 100) (st := [.ref 29]) (w := w) rfl rfl (hI.1.oC (Or.inr (Or.inr rfl))) rfl rfl rfl) rfl rfl (p63y hI isA29 en hm c1) rfl ?_
    refine sx_RP.step (pc2 := 9) (ls2 := [(0, .ref 96), (1, .ref 29)]) (st2 := []) (w3 := w) rfl rfl ?_
    refine sx_RP.step (pc2 := 10) (ls2 := [(0, .ref 96), (1, .ref 29)]) (st2 := [.ref 96]) (w3 := w) rfl rfl ?_
    refine sx_RP.callp (as2 := [.ref 96]) (rest2 := []) rfl rfl (sx_inv_v2 (mi := 109) (k := 29) (st := [.ref 96]) (w := w) rfl rfl hI.1.o96 rfl rfl rfl) rfl rfl rfl (X94 hI hC hT.2.2.1 (beT_le hp)) (show _ = 13 from rfl) ?_
    rintro r4 w5 ⟨⟨rfl, hT2, h13⟩, hI6, hs4⟩
    show sx_RP _ _ _ _ _ [] _ _
    have hT11 : TK' n X (nP n X p) w5 := hT2
    have hC7 := hC.same h13 (ia_of (hs4 97 (by decide)))
    have hp8 : nP n X p ≤ n := nP_le hp
    have hB9 := (campB_96 hI hs4).trans hB
    have hO10 := OffT.rf.tr hs4.offT
    have en12 : fi w5 29 5 = nI m := (fi_same 5 (hs4 29 (by decide))).trans en
    refine sx_RP.step (pc2 := 14) (ls2 := [(0, .ref 96), (1, .ref 29)]) (st2 := [.ref 96]) (w3 := w5) rfl rfl ?_
    refine sx_RP.step (pc2 := 15) (ls2 := [(0, .ref 96), (1, .ref 29)]) (st2 := [.int 0, .ref 96]) (w3 := w5) rfl rfl ?_
    refine sx_RP.step (pc2 := 17) (ls2 := [(0, .ref 96), (1, .ref 29)]) (st2 := [.int 47, .int 0, .ref 96]) (w3 := w5) rfl rfl ?_
    rcases Bool.eq_false_or_eq_true (nmT n X (nP n X p) 0 47) with c13 | c13
    · refine sx_RP.cu (as := [.ref 96, .int 0, .int 47]) (rest2 := []) (st3 := [.int 1]) rfl rfl (sx_inv_v2 (mi := 109) (k := 66) (st := [.int 47, .int 0, .ref 96]) (w := w5) rfl rfl hI6.1.o96 rfl rfl rfl) rfl rfl (x103t (lo := 0) (hi := 47) hI6 hC7 hT11 (by omega) (by omega) c13) rfl ?_
      refine sx_RP.step (pc2 := 25) (ls2 := [(0, .ref 96), (1, .ref 29)]) (st2 := []) (w3 := w5) rfl rfl ?_
      refine sx_RP.step (pc2 := 26) (ls2 := [(0, .ref 96), (1, .ref 29)]) (st2 := [.ref 29]) (w3 := w5) rfl rfl ?_
      refine sx_RP.step (pc2 := 27) (ls2 := [(0, .ref 96), (1, .ref 29)]) (st2 := [.ref 96, .ref 29]) (w3 := w5) rfl rfl ?_
      refine sx_RP.gt (k := 5) hI6 rfl rfl (by decide) (show _ = 30 from rfl) ?_
      rw [hT11.2.2.2]
      have hv := nmT_in c13
      refine sx_RP.callp (as2 := [.ref 29, .int (nI (vaT n X (nP n X p)))]) (rest2 := []) rfl rfl (sx_inv_v2 (mi := 109) (k := 103) (st := [.int (nI (vaT n X (nP n X p))), .ref 29]) (w := w5) rfl rfl (hI6.1.oC (Or.inr (Or.inr rfl))) rfl rfl rfl) rfl rfl rfl (X64 hI6 isA29 (n := m) (c := (vaT n X (nP n X p))) (by omega) en12 (by omega)) (show _ = 33 from rfl) ?_
      rintro r4 w16 ⟨⟨rfl, hc14⟩, hI17, ho15⟩
      show sx_RP _ _ _ _ _ [.int (nI m)] _ _
      have hC18 := hC7.out ho15
      have hT19 := hT11.out ho15
      have hB20 := hc14.trans (congrArg (addD (nI ((vaT n X (nP n X p))))) hB9)
      have hO21 := hO10.tr ho15.offT
      refine sx_RP.step (pc2 := 34) (ls2 := [(0, .ref 96), (1, .ref 29)]) (st2 := []) (w3 := w16) rfl rfl ?_
      refine sx_RP.step (pc2 := 35) (ls2 := [(0, .ref 96), (1, .ref 29)]) (st2 := [.ref 96]) (w3 := w16) rfl rfl ?_
      refine sx_RP.callp (as2 := [.ref 96]) (rest2 := []) rfl rfl (sx_inv_v2 (mi := 109) (k := 29) (st := [.ref 96]) (w := w16) rfl rfl hI17.1.o96 rfl rfl rfl) rfl rfl rfl (X94 hI17 hC18 hT19.2.2.1 (beT_le hp8)) (show _ = 38 from rfl) ?_
      rintro r4 w25 ⟨⟨rfl, hT22, h123⟩, hI26, hs24⟩
      show sx_RP _ _ _ _ _ [] _ _
      have hT31 : TK' n X (nP n X (nP n X p)) w25 := hT22
      have hC27 := hC18.same h123 (ia_of (hs24 97 (by decide)))
      have hp28 : nP n X (nP n X p) ≤ n := nP_le hp8
      have hB29 := (campB_96 hI17 hs24).trans hB20
      have hO30 := hO21.tr hs24.offT
      refine sx_RP.step (pc2 := 39) (ls2 := [(0, .ref 96), (1, .ref 29)]) (st2 := [.int 1]) (w3 := w25) rfl rfl ?_
      refine sx_RP.ret (r := (some (.int 1))) rfl rfl ?_
      have hlen : b.2.1.length = m := by rw [← hB]; unfold campB; rw [mkB_len2, en, iN_n (by omega)]
      rw [show disT n X p b = (true, nP n X (nP n X p), addD (nI (vaT n X (nP n X p))) b) by unfold disT; rw [if_pos (by rw [hlen]; exact c1), if_pos c13]]
      exact ⟨⟨rfl, hT31, fun _ => hB29⟩, hI26, hC27, hO30⟩
    · refine sx_RP.cu (as := [.ref 96, .int 0, .int 47]) (rest2 := []) (st3 := [.int 0]) rfl rfl (sx_inv_v2 (mi := 109) (k := 66) (st := [.int 47, .int 0, .ref 96]) (w := w5) rfl rfl hI6.1.o96 rfl rfl rfl) rfl rfl (x103f (lo := 0) (hi := 47) hI6 hC7 hT11 (by omega) (by omega) c13) rfl ?_
      refine sx_RP.step (pc2 := 23) (ls2 := [(0, .ref 96), (1, .ref 29)]) (st2 := []) (w3 := w5) rfl rfl ?_
      refine sx_RP.step (pc2 := 24) (ls2 := [(0, .ref 96), (1, .ref 29)]) (st2 := [.int 0]) (w3 := w5) rfl rfl ?_
      refine sx_RP.ret (r := (some (.int 0))) rfl rfl ?_
      have hlen : b.2.1.length = m := by rw [← hB]; unfold campB; rw [mkB_len2, en, iN_n (by omega)]
      rw [show disT n X p b = (false, nP n X p, b) by unfold disT; rw [if_pos (by rw [hlen]; exact c1), if_neg (by rw [c13]; decide)]]
      exact ⟨⟨rfl, hT11, fun z => absurd (show false = true from z) (by decide)⟩, hI6, hC7, hO10⟩
  · refine sx_RP.cu (as := [.ref 29]) (rest2 := []) (st3 := [.int 0]) rfl rfl (sx_inv_v2 (mi := 109) (k := 100) (st := [.ref 29]) (w := w) rfl rfl (hI.1.oC (Or.inr (Or.inr rfl))) rfl rfl rfl) rfl rfl (p63n hI isA29 en hm c1) rfl ?_
    refine sx_RP.step (pc2 := 7) (ls2 := [(0, .ref 96), (1, .ref 29)]) (st2 := []) (w3 := w) rfl rfl ?_
    refine sx_RP.step (pc2 := 8) (ls2 := [(0, .ref 96), (1, .ref 29)]) (st2 := [.int 0]) (w3 := w) rfl rfl ?_
    refine sx_RP.ret (r := (some (.int 0))) rfl rfl ?_
    have hlen : b.2.1.length = m := by rw [← hB]; unfold campB; rw [mkB_len2, en, iN_n (by omega)]
    rw [show disT n X p b = (false, p, b) by unfold disT; rw [if_neg (by rw [hlen]; exact c1)]]
    exact ⟨⟨rfl, hT, fun z => absurd (show false = true from z) (by decide)⟩, hI, hC, OffT.rf⟩
def wtT (n : Nat) (X : Nat → Nat) (p : Nat) (k : UInt32) (lo hi : Nat) : Bool × Nat := if wdT n X p k = true then (nmT n X (nP n X p) lo hi, nP n X p) else (false, p)
theorem b01_t {b : Bool} (h : ¬ b01 b = 0) : b = true := by cases b <;> first | rfl | exact absurd rfl h
theorem b01_f {b : Bool} (h : b01 b = 0) : b = false := by cases b <;> first | rfl | exact absurd h (by decide)
theorem wtT_t {n p lo hi : Nat} {X : Nat → Nat} {k : UInt32} (h : (wtT n X p k lo hi).1 = true) : wdT n X p k = true ∧ nmT n X (nP n X p) lo hi = true ∧ (wtT n X p k lo hi).2 = nP n X p := by
  unfold wtT at h ⊢
  by_cases c : wdT n X p k = true
  · rw [if_pos c] at h ⊢
    exact ⟨c, h, rfl⟩
  · rw [if_neg c] at h
    exact absurd (show false = true from h) (by decide)
theorem wtT_le {n p lo hi : Nat} {X : Nat → Nat} {k : UInt32} (h : p ≤ n) : (wtT n X p k lo hi).2 ≤ n := by
  unfold wtT
  split
  · exact nP_le h
  · exact h
set_option maxRecDepth 20000 in
set_option maxHeartbeats 4000000 in
theorem X108 {xs : Option (List Int32)} {d : Nat} {w : List sx_C} (hI : WI w) {n p lo hi : Nat} {X : Nat → Nat} (hC : CT n X w) (hT : TK' n X p w) (hp : p ≤ n) {k : UInt32} {m : Nat} (hk : 100 ≤ k.toNat ∧ k.toNat < 120) (en : sx_sn.getD (k.toNat - 100) 0 = m) (hm : m ≤ 7) (hlo : lo ≤ 1000000) (hhi : hi ≤ 1000000) : sx_RP xs (d + 3) 108 0 (lv_args 0 [.ref 96, .float k, .int (nI lo), .int (nI hi)]) [] w (fun r w2 => (r = some (.int (b01 (wtT n X p k lo hi).1)) ∧ TK' n X (wtT n X p k lo hi).2 w2 ∧ fi w2 96 1 = fi w 96 1) ∧ WI w2 ∧ Same 96 w w2) := by
  refine sx_RP.step (pc2 := 1) (ls2 := [(0, .ref 96), (1, .float k), (2, .int (nI lo)), (3, .int (nI hi))]) (st2 := [.ref 96]) (w3 := w) rfl rfl ?_
  refine sx_RP.step (pc2 := 2) (ls2 := [(0, .ref 96), (1, .float k), (2, .int (nI lo)), (3, .int (nI hi))]) (st2 := [.float k, .ref 96]) (w3 := w) rfl rfl ?_
  rcases Bool.eq_false_or_eq_true (wdT n X p k) with c1 | c1
  · refine sx_RP.cu (as := [.ref 96, .float k]) (rest2 := []) (st3 := [.int 1]) rfl rfl (sx_inv_v2 (mi := 108) (k := 52) (st := [.float k, .ref 96]) (w := w) rfl rfl hI.1.o96 rfl rfl rfl) rfl rfl (x101t (k := k) (m := m) hI hC hT hp hk en hm c1) rfl ?_
    refine sx_RP.step (pc2 := 10) (ls2 := [(0, .ref 96), (1, .float k), (2, .int (nI lo)), (3, .int (nI hi))]) (st2 := []) (w3 := w) rfl rfl ?_
    refine sx_RP.step (pc2 := 11) (ls2 := [(0, .ref 96), (1, .float k), (2, .int (nI lo)), (3, .int (nI hi))]) (st2 := [.ref 96]) (w3 := w) rfl rfl ?_
    refine sx_RP.callp (as2 := [.ref 96]) (rest2 := []) rfl rfl (sx_inv_v2 (mi := 108) (k := 29) (st := [.ref 96]) (w := w) rfl rfl hI.1.o96 rfl rfl rfl) rfl rfl rfl (X94 hI hC hT.2.2.1 (beT_le hp)) (show _ = 14 from rfl) ?_
    rintro r4 w5 ⟨⟨rfl, hT2, h13⟩, hI6, hs4⟩
    show sx_RP _ _ _ _ _ [] _ _
    have hT11 : TK' n X (nP n X p) w5 := hT2
    have hC7 := hC.same h13 (ia_of (hs4 97 (by decide)))
    have hp8 : nP n X p ≤ n := nP_le hp
    refine sx_RP.step (pc2 := 15) (ls2 := [(0, .ref 96), (1, .float k), (2, .int (nI lo)), (3, .int (nI hi))]) (st2 := [.ref 96]) (w3 := w5) rfl rfl ?_
    refine sx_RP.step (pc2 := 16) (ls2 := [(0, .ref 96), (1, .float k), (2, .int (nI lo)), (3, .int (nI hi))]) (st2 := [.int (nI lo), .ref 96]) (w3 := w5) rfl rfl ?_
    refine sx_RP.step (pc2 := 17) (ls2 := [(0, .ref 96), (1, .float k), (2, .int (nI lo)), (3, .int (nI hi))]) (st2 := [.int (nI hi), .int (nI lo), .ref 96]) (w3 := w5) rfl rfl ?_
    rcases Bool.eq_false_or_eq_true (nmT n X (nP n X p) lo hi) with c12 | c12
    · refine sx_RP.cu (as := [.ref 96, .int (nI lo), .int (nI hi)]) (rest2 := []) (st3 := [.int 1]) rfl rfl (sx_inv_v2 (mi := 108) (k := 66) (st := [.int (nI hi), .int (nI lo), .ref 96]) (w := w5) rfl rfl hI6.1.o96 rfl rfl rfl) rfl rfl (x103t (lo := lo) (hi := hi) hI6 hC7 hT11 (by omega) (by omega) c12) rfl ?_
      refine sx_RP.ret (r := (some (.int 1))) rfl rfl ?_
      rw [show wtT n X p k lo hi = (true, nP n X p) by unfold wtT; rw [if_pos c1, c12]]
      exact ⟨⟨rfl, hT11, h13⟩, hI6, hs4⟩
    · refine sx_RP.cu (as := [.ref 96, .int (nI lo), .int (nI hi)]) (rest2 := []) (st3 := [.int 0]) rfl rfl (sx_inv_v2 (mi := 108) (k := 66) (st := [.int (nI hi), .int (nI lo), .ref 96]) (w := w5) rfl rfl hI6.1.o96 rfl rfl rfl) rfl rfl (x103f (lo := lo) (hi := hi) hI6 hC7 hT11 (by omega) (by omega) c12) rfl ?_
      refine sx_RP.ret (r := (some (.int 0))) rfl rfl ?_
      rw [show wtT n X p k lo hi = (false, nP n X p) by unfold wtT; rw [if_pos c1, c12]]
      exact ⟨⟨rfl, hT11, h13⟩, hI6, hs4⟩
  · refine sx_RP.cu (as := [.ref 96, .float k]) (rest2 := []) (st3 := [.int 0]) rfl rfl (sx_inv_v2 (mi := 108) (k := 52) (st := [.float k, .ref 96]) (w := w) rfl rfl hI.1.o96 rfl rfl rfl) rfl rfl (x101f (k := k) (m := m) hI hC hT hp hk en hm c1) rfl ?_
    refine sx_RP.step (pc2 := 8) (ls2 := [(0, .ref 96), (1, .float k), (2, .int (nI lo)), (3, .int (nI hi))]) (st2 := []) (w3 := w) rfl rfl ?_
    refine sx_RP.step (pc2 := 9) (ls2 := [(0, .ref 96), (1, .float k), (2, .int (nI lo)), (3, .int (nI hi))]) (st2 := [.int 0]) (w3 := w) rfl rfl ?_
    refine sx_RP.ret (r := (some (.int 0))) rfl rfl ?_
    rw [show wtT n X p k lo hi = (false, p) by unfold wtT; rw [if_neg (by rw [c1]; decide)]]
    exact ⟨⟨rfl, hT, rfl⟩, hI, Same.rf⟩
def galT (n : Nat) (X : Nat → Nat) (k p : Nat) (b : BB) : Bool × Nat × BB := if b.1.length < 10 then (if wdT n X (nP n X p) 115 = true ∨ wdT n X (nP n X p) 109 = true then (if (wtT n X (nP n X (nP n X p)) 100 0 47).1 = true then (if (wtT n X (nP n X (wtT n X (nP n X (nP n X p)) 100 0 47).2) 119 0 3).1 = true then (true, nP n X (wtT n X (nP n X (wtT n X (nP n X (nP n X p)) 100 0 47).2) 119 0 3).2, addK (nI k) b) else (false, (wtT n X (nP n X (wtT n X (nP n X (nP n X p)) 100 0 47).2) 119 0 3).2, b)) else (false, (wtT n X (nP n X (nP n X p)) 100 0 47).2, b)) else (false, nP n X p, b)) else (false, p, b)
set_option maxRecDepth 20000 in
set_option maxHeartbeats 4000000 in
theorem X107 {xs : Option (List Int32)} {d : Nat} {w : List sx_C} (hI : WI w) {n p k : Nat} {X : Nat → Nat} {b : BB} (hk5 : k ≤ 5) (hC : CT n X w) (hT : TK' n X p w) (hp : p ≤ n) (hB : campB w 29 = b) : sx_RP xs (d + 4) 107 0 (lv_args 0 [.ref 96, .int (nI k), .ref 29]) [] w (fun r w2 => (r = some (.int (b01 (galT n X k p b).1)) ∧ Rd n X (galT n X k p b) w2) ∧ WI w2 ∧ CT n X w2 ∧ OffT w w2) := by
  obtain ⟨m, hm, en⟩ := (hI.c isA29).1
  refine sx_RP.step (pc2 := 1) (ls2 := [(0, .ref 96), (1, .int (nI k)), (2, .ref 29)]) (st2 := [.ref 29]) (w3 := w) rfl rfl ?_
  rcases Decidable.em (m < 10) with c1 | c1
  · refine sx_RP.cu (as := [.ref 29]) (rest2 := []) (st3 := [.int 1]) rfl rfl (sx_inv_v2 (mi := 107) (k := 78) (st := [.ref 29]) (w := w) rfl rfl (hI.1.oC (Or.inr (Or.inr rfl))) rfl rfl rfl) rfl rfl (p24y hI isA29 en hm c1) rfl ?_
    refine sx_RP.step (pc2 := 9) (ls2 := [(0, .ref 96), (1, .int (nI k)), (2, .ref 29)]) (st2 := []) (w3 := w) rfl rfl ?_
    refine sx_RP.step (pc2 := 10) (ls2 := [(0, .ref 96), (1, .int (nI k)), (2, .ref 29)]) (st2 := [.ref 96]) (w3 := w) rfl rfl ?_
    refine sx_RP.callp (as2 := [.ref 96]) (rest2 := []) rfl rfl (sx_inv_v2 (mi := 107) (k := 29) (st := [.ref 96]) (w := w) rfl rfl hI.1.o96 rfl rfl rfl) rfl rfl rfl (X94 hI hC hT.2.2.1 (beT_le hp)) (show _ = 13 from rfl) ?_
    rintro r4 w5 ⟨⟨rfl, hT2, h13⟩, hI6, hs4⟩
    show sx_RP _ _ _ _ _ [] _ _
    have hT11 : TK' n X (nP n X p) w5 := hT2
    have hC7 := hC.same h13 (ia_of (hs4 97 (by decide)))
    have hp8 : nP n X p ≤ n := nP_le hp
    have hB9 := (campB_96 hI hs4).trans hB
    have hO10 := OffT.rf.tr hs4.offT
    have en12 : fi w5 29 3 = nI m := (fi_same 3 (hs4 29 (by decide))).trans en
    refine sx_RP.step (pc2 := 14) (ls2 := [(0, .ref 96), (1, .int (nI k)), (2, .ref 29)]) (st2 := [.ref 96]) (w3 := w5) rfl rfl ?_
    refine sx_RP.step (pc2 := 16) (ls2 := [(0, .ref 96), (1, .int (nI k)), (2, .ref 29)]) (st2 := [.float 115, .ref 96]) (w3 := w5) rfl rfl ?_
    rcases Bool.eq_false_or_eq_true (wdT n X (nP n X p) (115 : UInt32)) with c13 | c13
    · refine sx_RP.cu (as := [.ref 96, .float 115]) (rest2 := []) (st3 := [.int 1]) rfl rfl (sx_inv_v2 (mi := 107) (k := 52) (st := [.float 115, .ref 96]) (w := w5) rfl rfl hI6.1.o96 rfl rfl rfl) rfl rfl (x101t (k := (115 : UInt32)) (m := 6) hI6 hC7 hT11 hp8 (by decide) rfl (by decide) c13) rfl ?_
      refine sx_RP.step (pc2 := 22) (ls2 := [(0, .ref 96), (1, .int (nI k)), (2, .ref 29)]) (st2 := []) (w3 := w5) rfl rfl ?_
      refine sx_RP.step (pc2 := 23) (ls2 := [(0, .ref 96), (1, .int (nI k)), (2, .ref 29)]) (st2 := [.int 0]) (w3 := w5) rfl rfl ?_
      refine sx_RP.step (pc2 := 27) (ls2 := [(0, .ref 96), (1, .int (nI k)), (2, .ref 29)]) (st2 := [.int 0]) (w3 := w5) rfl rfl ?_
      refine sx_RP.step (pc2 := 28) (ls2 := [(3, .int 0), (0, .ref 96), (1, .int (nI k)), (2, .ref 29)]) (st2 := []) (w3 := w5) rfl rfl ?_
      refine sx_RP.step (pc2 := 29) (ls2 := [(3, .int 0), (0, .ref 96), (1, .int (nI k)), (2, .ref 29)]) (st2 := [.int 0]) (w3 := w5) rfl rfl ?_
      refine sx_RP.step (pc2 := 30) (ls2 := [(3, .int 0), (0, .ref 96), (1, .int (nI k)), (2, .ref 29)]) (st2 := [.int 1, .int 0]) (w3 := w5) rfl rfl ?_
      refine sx_RP.step (pc2 := 44) (ls2 := [(3, .int 0), (0, .ref 96), (1, .int (nI k)), (2, .ref 29)]) (st2 := []) (w3 := w5) rfl rfl ?_
      refine sx_RP.step (pc2 := 45) (ls2 := [(3, .int 0), (0, .ref 96), (1, .int (nI k)), (2, .ref 29)]) (st2 := [.ref 96]) (w3 := w5) rfl rfl ?_
      refine sx_RP.callp (as2 := [.ref 96]) (rest2 := []) rfl rfl (sx_inv_v2 (mi := 107) (k := 29) (st := [.ref 96]) (w := w5) rfl rfl hI6.1.o96 rfl rfl rfl) rfl rfl rfl (X94 hI6 hC7 hT11.2.2.1 (beT_le hp8)) (show _ = 48 from rfl) ?_
      rintro r4 w17 ⟨⟨rfl, hT14, h115⟩, hI18, hs16⟩
      show sx_RP _ _ _ _ _ [] _ _
      have hT23 : TK' n X (nP n X (nP n X p)) w17 := hT14
      have hC19 := hC7.same h115 (ia_of (hs16 97 (by decide)))
      have hp20 : nP n X (nP n X p) ≤ n := nP_le hp8
      have hB21 := (campB_96 hI6 hs16).trans hB9
      have hO22 := hO10.tr hs16.offT
      have en24 : fi w17 29 3 = nI m := (fi_same 3 (hs16 29 (by decide))).trans en12
      refine sx_RP.step (pc2 := 49) (ls2 := [(3, .int 0), (0, .ref 96), (1, .int (nI k)), (2, .ref 29)]) (st2 := [.ref 96]) (w3 := w17) rfl rfl ?_
      refine sx_RP.step (pc2 := 51) (ls2 := [(3, .int 0), (0, .ref 96), (1, .int (nI k)), (2, .ref 29)]) (st2 := [.float 100, .ref 96]) (w3 := w17) rfl rfl ?_
      refine sx_RP.step (pc2 := 52) (ls2 := [(3, .int 0), (0, .ref 96), (1, .int (nI k)), (2, .ref 29)]) (st2 := [.int 0, .float 100, .ref 96]) (w3 := w17) rfl rfl ?_
      refine sx_RP.step (pc2 := 54) (ls2 := [(3, .int 0), (0, .ref 96), (1, .int (nI k)), (2, .ref 29)]) (st2 := [.int 47, .int 0, .float 100, .ref 96]) (w3 := w17) rfl rfl ?_
      refine sx_RP.callp (as2 := [.ref 96, .float 100, .int 0, .int 47]) (rest2 := []) rfl rfl (sx_inv_v2 (mi := 107) (k := 90) (st := [.int 47, .int 0, .float 100, .ref 96]) (w := w17) rfl rfl hI18.1.o96 rfl rfl rfl) rfl rfl rfl (X108 (k := 100) (m := 2) (lo := 0) (hi := 47) hI18 hC19 hT23 hp20 (by decide) rfl (by decide) (by decide) (by decide)) (show _ = 57 from rfl) ?_
      rintro r4 w28 ⟨⟨rfl, hT25, h126⟩, hI29, hs27⟩
      show sx_RP _ _ _ _ _ [.int (b01 (wtT n X (nP n X (nP n X p)) 100 0 47).1)] _ _
      have hC30 := hC19.same h126 (ia_of (hs27 97 (by decide)))
      have hp31 : (wtT n X (nP n X (nP n X p)) 100 0 47).2 ≤ n := wtT_le hp20
      have hB32 := (campB_96 hI18 hs27).trans hB21
      have hO33 := hO22.tr hs27.offT
      have en34 : fi w28 29 3 = nI m := (fi_same 3 (hs27 29 (by decide))).trans en24
      refine sx_RP.br (p1 := 62) (l1 := [(3, .int 0), (0, .ref 96), (1, .int (nI k)), (2, .ref 29)]) (s1 := []) (v1 := w28) (p2 := 60) (l2 := [(3, .int 0), (0, .ref 96), (1, .int (nI k)), (2, .ref 29)]) (s2 := []) (v2 := w28) rfl rfl (fun q35 => ?_) (fun q35 => ?_)
      · replace q35 := of_decide_eq_true q35
        refine sx_RP.step (pc2 := 63) (ls2 := [(3, .int 0), (0, .ref 96), (1, .int (nI k)), (2, .ref 29)]) (st2 := [.ref 96]) (w3 := w28) rfl rfl ?_
        refine sx_RP.gt (k := 5) hI29 rfl rfl (by decide) (show _ = 66 from rfl) ?_
        rw [hT25.2.2.2]
        refine sx_RP.step (pc2 := 68) (ls2 := [(4, .int (nI (vaT n X (wtT n X (nP n X (nP n X p)) 100 0 47).2))), (3, .int 0), (0, .ref 96), (1, .int (nI k)), (2, .ref 29)]) (st2 := []) (w3 := w28) rfl rfl ?_
        refine sx_RP.step (pc2 := 69) (ls2 := [(4, .int (nI (vaT n X (wtT n X (nP n X (nP n X p)) 100 0 47).2))), (3, .int 0), (0, .ref 96), (1, .int (nI k)), (2, .ref 29)]) (st2 := [.ref 96]) (w3 := w28) rfl rfl ?_
        refine sx_RP.callp (as2 := [.ref 96]) (rest2 := []) rfl rfl (sx_inv_v2 (mi := 107) (k := 29) (st := [.ref 96]) (w := w28) rfl rfl hI29.1.o96 rfl rfl rfl) rfl rfl rfl (X94 hI29 hC30 hT25.2.2.1 (beT_le hp31)) (show _ = 72 from rfl) ?_
        rintro r4 w39 ⟨⟨rfl, hT36, h137⟩, hI40, hs38⟩
        show sx_RP _ _ _ _ _ [] _ _
        have hT45 : TK' n X (nP n X ((wtT n X (nP n X (nP n X p)) 100 0 47).2)) w39 := hT36
        have hC41 := hC30.same h137 (ia_of (hs38 97 (by decide)))
        have hp42 : nP n X ((wtT n X (nP n X (nP n X p)) 100 0 47).2) ≤ n := nP_le hp31
        have hB43 := (campB_96 hI29 hs38).trans hB32
        have hO44 := hO33.tr hs38.offT
        have en46 : fi w39 29 3 = nI m := (fi_same 3 (hs38 29 (by decide))).trans en34
        refine sx_RP.step (pc2 := 73) (ls2 := [(4, .int (nI (vaT n X (wtT n X (nP n X (nP n X p)) 100 0 47).2))), (3, .int 0), (0, .ref 96), (1, .int (nI k)), (2, .ref 29)]) (st2 := [.ref 96]) (w3 := w39) rfl rfl ?_
        refine sx_RP.step (pc2 := 75) (ls2 := [(4, .int (nI (vaT n X (wtT n X (nP n X (nP n X p)) 100 0 47).2))), (3, .int 0), (0, .ref 96), (1, .int (nI k)), (2, .ref 29)]) (st2 := [.float 119, .ref 96]) (w3 := w39) rfl rfl ?_
        refine sx_RP.step (pc2 := 76) (ls2 := [(4, .int (nI (vaT n X (wtT n X (nP n X (nP n X p)) 100 0 47).2))), (3, .int 0), (0, .ref 96), (1, .int (nI k)), (2, .ref 29)]) (st2 := [.int 0, .float 119, .ref 96]) (w3 := w39) rfl rfl ?_
        refine sx_RP.step (pc2 := 77) (ls2 := [(4, .int (nI (vaT n X (wtT n X (nP n X (nP n X p)) 100 0 47).2))), (3, .int 0), (0, .ref 96), (1, .int (nI k)), (2, .ref 29)]) (st2 := [.int 3, .int 0, .float 119, .ref 96]) (w3 := w39) rfl rfl ?_
        refine sx_RP.callp (as2 := [.ref 96, .float 119, .int 0, .int 3]) (rest2 := []) rfl rfl (sx_inv_v2 (mi := 107) (k := 90) (st := [.int 3, .int 0, .float 119, .ref 96]) (w := w39) rfl rfl hI40.1.o96 rfl rfl rfl) rfl rfl rfl (X108 (k := 119) (m := 3) (lo := 0) (hi := 3) hI40 hC41 hT45 hp42 (by decide) rfl (by decide) (by decide) (by decide)) (show _ = 80 from rfl) ?_
        rintro r4 w50 ⟨⟨rfl, hT47, h148⟩, hI51, hs49⟩
        show sx_RP _ _ _ _ _ [.int (b01 (wtT n X (nP n X ((wtT n X (nP n X (nP n X p)) 100 0 47).2)) 119 0 3).1)] _ _
        have hC52 := hC41.same h148 (ia_of (hs49 97 (by decide)))
        have hp53 : (wtT n X (nP n X ((wtT n X (nP n X (nP n X p)) 100 0 47).2)) 119 0 3).2 ≤ n := wtT_le hp42
        have hB54 := (campB_96 hI40 hs49).trans hB43
        have hO55 := hO44.tr hs49.offT
        have en56 : fi w50 29 3 = nI m := (fi_same 3 (hs49 29 (by decide))).trans en46
        refine sx_RP.br (p1 := 85) (l1 := [(4, .int (nI (vaT n X (wtT n X (nP n X (nP n X p)) 100 0 47).2))), (3, .int 0), (0, .ref 96), (1, .int (nI k)), (2, .ref 29)]) (s1 := []) (v1 := w50) (p2 := 83) (l2 := [(4, .int (nI (vaT n X (wtT n X (nP n X (nP n X p)) 100 0 47).2))), (3, .int 0), (0, .ref 96), (1, .int (nI k)), (2, .ref 29)]) (s2 := []) (v2 := w50) rfl rfl (fun q57 => ?_) (fun q57 => ?_)
        · replace q57 := of_decide_eq_true q57
          refine sx_RP.step (pc2 := 86) (ls2 := [(4, .int (nI (vaT n X (wtT n X (nP n X (nP n X p)) 100 0 47).2))), (3, .int 0), (0, .ref 96), (1, .int (nI k)), (2, .ref 29)]) (st2 := [.ref 29]) (w3 := w50) rfl rfl ?_
          refine sx_RP.step (pc2 := 87) (ls2 := [(4, .int (nI (vaT n X (wtT n X (nP n X (nP n X p)) 100 0 47).2))), (3, .int 0), (0, .ref 96), (1, .int (nI k)), (2, .ref 29)]) (st2 := [.int (nI k), .ref 29]) (w3 := w50) rfl rfl ?_
          refine sx_RP.step (pc2 := 88) (ls2 := [(4, .int (nI (vaT n X (wtT n X (nP n X (nP n X p)) 100 0 47).2))), (3, .int 0), (0, .ref 96), (1, .int (nI k)), (2, .ref 29)]) (st2 := [.int 0, .int (nI k), .ref 29]) (w3 := w50) rfl rfl ?_
          refine sx_RP.step (pc2 := 90) (ls2 := [(4, .int (nI (vaT n X (wtT n X (nP n X (nP n X p)) 100 0 47).2))), (3, .int 0), (0, .ref 96), (1, .int (nI k)), (2, .ref 29)]) (st2 := [.int (nI (vaT n X (wtT n X (nP n X (nP n X p)) 100 0 47).2)), .int 0, .int (nI k), .ref 29]) (w3 := w50) rfl rfl ?_
          refine sx_RP.step (pc2 := 91) (ls2 := [(4, .int (nI (vaT n X (wtT n X (nP n X (nP n X p)) 100 0 47).2))), (3, .int 0), (0, .ref 96), (1, .int (nI k)), (2, .ref 29)]) (st2 := [.ref 96, .int (nI (vaT n X (wtT n X (nP n X (nP n X p)) 100 0 47).2)), .int 0, .int (nI k), .ref 29]) (w3 := w50) rfl rfl ?_
          refine sx_RP.gt (k := 5) hI51 rfl rfl (by decide) (show _ = 94 from rfl) ?_
          rw [hT47.2.2.2]
          have ht58 := wtT_t (b01_t q35)
          have ht59 := wtT_t (b01_t q57)
          have hv1 := nmT_in ht58.2.1
          have hv2 := nmT_in ht59.2.1
          rw [← ht58.2.2] at hv1
          rw [← ht59.2.2] at hv2
          refine sx_RP.callp (as2 := [.ref 29, .int (nI k), .int 0, .int (nI (vaT n X (wtT n X (nP n X (nP n X p)) 100 0 47).2)), .int (nI (vaT n X (wtT n X (nP n X ((wtT n X (nP n X (nP n X p)) 100 0 47).2)) 119 0 3).2))]) (rest2 := []) rfl rfl (sx_inv_v2 (mi := 107) (k := 96) (st := [.int (nI (vaT n X (wtT n X (nP n X ((wtT n X (nP n X (nP n X p)) 100 0 47).2)) 119 0 3).2)), .int (nI (vaT n X (wtT n X (nP n X (nP n X p)) 100 0 47).2)), .int 0, .int (nI k), .ref 29]) (w := w50) rfl rfl (hI51.1.oC (Or.inr (Or.inr rfl))) rfl rfl rfl) rfl rfl rfl (X25 hI51 isA29 (n := m) (k := k) (s := 0) (c := (vaT n X (wtT n X (nP n X (nP n X p)) 100 0 47).2)) (y := (vaT n X (wtT n X (nP n X ((wtT n X (nP n X (nP n X p)) 100 0 47).2)) 119 0 3).2)) (by omega) en56 (by omega) (by omega) (by omega) (by omega)) (show _ = 97 from rfl) ?_
          rintro r4 w62 ⟨⟨rfl, hc60⟩, hI63, ho61⟩
          show sx_RP _ _ _ _ _ [.int (nI m)] _ _
          have hC64 := hC52.out ho61
          have hT65 := hT47.out ho61
          have hB66 := hc60.trans (congrArg (addK (nI (k))) hB54)
          have hO67 := hO55.tr ho61.offT
          refine sx_RP.step (pc2 := 98) (ls2 := [(4, .int (nI (vaT n X (wtT n X (nP n X (nP n X p)) 100 0 47).2))), (3, .int 0), (0, .ref 96), (1, .int (nI k)), (2, .ref 29)]) (st2 := []) (w3 := w62) rfl rfl ?_
          refine sx_RP.step (pc2 := 99) (ls2 := [(4, .int (nI (vaT n X (wtT n X (nP n X (nP n X p)) 100 0 47).2))), (3, .int 0), (0, .ref 96), (1, .int (nI k)), (2, .ref 29)]) (st2 := [.ref 96]) (w3 := w62) rfl rfl ?_
          refine sx_RP.callp (as2 := [.ref 96]) (rest2 := []) rfl rfl (sx_inv_v2 (mi := 107) (k := 29) (st := [.ref 96]) (w := w62) rfl rfl hI63.1.o96 rfl rfl rfl) rfl rfl rfl (X94 hI63 hC64 hT65.2.2.1 (beT_le hp53)) (show _ = 102 from rfl) ?_
          rintro r4 w71 ⟨⟨rfl, hT68, h169⟩, hI72, hs70⟩
          show sx_RP _ _ _ _ _ [] _ _
          have hT77 : TK' n X (nP n X ((wtT n X (nP n X ((wtT n X (nP n X (nP n X p)) 100 0 47).2)) 119 0 3).2)) w71 := hT68
          have hC73 := hC64.same h169 (ia_of (hs70 97 (by decide)))
          have hp74 : nP n X ((wtT n X (nP n X ((wtT n X (nP n X (nP n X p)) 100 0 47).2)) 119 0 3).2) ≤ n := nP_le hp53
          have hB75 := (campB_96 hI63 hs70).trans hB66
          have hO76 := hO67.tr hs70.offT
          refine sx_RP.step (pc2 := 103) (ls2 := [(4, .int (nI (vaT n X (wtT n X (nP n X (nP n X p)) 100 0 47).2))), (3, .int 0), (0, .ref 96), (1, .int (nI k)), (2, .ref 29)]) (st2 := [.int 1]) (w3 := w71) rfl rfl ?_
          refine sx_RP.ret (r := (some (.int 1))) rfl rfl ?_
          have hlen : b.1.length = m := by rw [← hB]; unfold campB; rw [mkB_len1, en, iN_n (by omega)]
          rw [show galT n X k p b = (true, nP n X (wtT n X (nP n X (wtT n X (nP n X (nP n X p)) 100 0 47).2) 119 0 3).2, addK (nI k) b) by unfold galT; rw [if_pos (by rw [hlen]; exact c1), if_pos (Or.inl c13), if_pos (b01_t q35), if_pos (b01_t q57)]]
          exact ⟨⟨rfl, hT77, fun _ => hB75⟩, hI72, hC73, hO76⟩
        · replace q57 := Decidable.not_not.mp (of_decide_eq_false q57)
          refine sx_RP.step (pc2 := 84) (ls2 := [(4, .int (nI (vaT n X (wtT n X (nP n X (nP n X p)) 100 0 47).2))), (3, .int 0), (0, .ref 96), (1, .int (nI k)), (2, .ref 29)]) (st2 := [.int 0]) (w3 := w50) rfl rfl ?_
          refine sx_RP.ret (r := (some (.int 0))) rfl rfl ?_
          have hlen : b.1.length = m := by rw [← hB]; unfold campB; rw [mkB_len1, en, iN_n (by omega)]
          rw [show galT n X k p b = (false, (wtT n X (nP n X (wtT n X (nP n X (nP n X p)) 100 0 47).2) 119 0 3).2, b) by unfold galT; rw [if_pos (by rw [hlen]; exact c1), if_pos (Or.inl c13), if_pos (b01_t q35), if_neg (by rw [b01_f q57]; decide)]]
          exact ⟨⟨rfl, hT47, fun z => absurd (show false = true from z) (by decide)⟩, hI51, hC52, hO55⟩
      · replace q35 := Decidable.not_not.mp (of_decide_eq_false q35)
        refine sx_RP.step (pc2 := 61) (ls2 := [(3, .int 0), (0, .ref 96), (1, .int (nI k)), (2, .ref 29)]) (st2 := [.int 0]) (w3 := w28) rfl rfl ?_
        refine sx_RP.ret (r := (some (.int 0))) rfl rfl ?_
        have hlen : b.1.length = m := by rw [← hB]; unfold campB; rw [mkB_len1, en, iN_n (by omega)]
        rw [show galT n X k p b = (false, (wtT n X (nP n X (nP n X p)) 100 0 47).2, b) by unfold galT; rw [if_pos (by rw [hlen]; exact c1), if_pos (Or.inl c13), if_neg (by rw [b01_f q35]; decide)]]
        exact ⟨⟨rfl, hT25, fun z => absurd (show false = true from z) (by decide)⟩, hI29, hC30, hO33⟩
    · refine sx_RP.cu (as := [.ref 96, .float 115]) (rest2 := []) (st3 := [.int 0]) rfl rfl (sx_inv_v2 (mi := 107) (k := 52) (st := [.float 115, .ref 96]) (w := w5) rfl rfl hI6.1.o96 rfl rfl rfl) rfl rfl (x101f (k := (115 : UInt32)) (m := 6) hI6 hC7 hT11 hp8 (by decide) rfl (by decide) c13) rfl ?_
      refine sx_RP.step (pc2 := 26) (ls2 := [(0, .ref 96), (1, .int (nI k)), (2, .ref 29)]) (st2 := []) (w3 := w5) rfl rfl ?_
      refine sx_RP.step (pc2 := 27) (ls2 := [(0, .ref 96), (1, .int (nI k)), (2, .ref 29)]) (st2 := [.int 1]) (w3 := w5) rfl rfl ?_
      refine sx_RP.step (pc2 := 28) (ls2 := [(3, .int 1), (0, .ref 96), (1, .int (nI k)), (2, .ref 29)]) (st2 := []) (w3 := w5) rfl rfl ?_
      refine sx_RP.step (pc2 := 29) (ls2 := [(3, .int 1), (0, .ref 96), (1, .int (nI k)), (2, .ref 29)]) (st2 := [.int 1]) (w3 := w5) rfl rfl ?_
      refine sx_RP.step (pc2 := 30) (ls2 := [(3, .int 1), (0, .ref 96), (1, .int (nI k)), (2, .ref 29)]) (st2 := [.int 1, .int 1]) (w3 := w5) rfl rfl ?_
      refine sx_RP.step (pc2 := 33) (ls2 := [(3, .int 1), (0, .ref 96), (1, .int (nI k)), (2, .ref 29)]) (st2 := []) (w3 := w5) rfl rfl ?_
      refine sx_RP.step (pc2 := 34) (ls2 := [(3, .int 1), (0, .ref 96), (1, .int (nI k)), (2, .ref 29)]) (st2 := [.ref 96]) (w3 := w5) rfl rfl ?_
      refine sx_RP.step (pc2 := 36) (ls2 := [(3, .int 1), (0, .ref 96), (1, .int (nI k)), (2, .ref 29)]) (st2 := [.float 109, .ref 96]) (w3 := w5) rfl rfl ?_
      rcases Bool.eq_false_or_eq_true (wdT n X (nP n X p) (109 : UInt32)) with c78 | c78
      · refine sx_RP.cu (as := [.ref 96, .float 109]) (rest2 := []) (st3 := [.int 1]) rfl rfl (sx_inv_v2 (mi := 107) (k := 52) (st := [.float 109, .ref 96]) (w := w5) rfl rfl hI6.1.o96 rfl rfl rfl) rfl rfl (x101t (k := (109 : UInt32)) (m := 4) hI6 hC7 hT11 hp8 (by decide) rfl (by decide) c78) rfl ?_
        refine sx_RP.step (pc2 := 44) (ls2 := [(3, .int 1), (0, .ref 96), (1, .int (nI k)), (2, .ref 29)]) (st2 := []) (w3 := w5) rfl rfl ?_
        refine sx_RP.step (pc2 := 45) (ls2 := [(3, .int 1), (0, .ref 96), (1, .int (nI k)), (2, .ref 29)]) (st2 := [.ref 96]) (w3 := w5) rfl rfl ?_
        refine sx_RP.callp (as2 := [.ref 96]) (rest2 := []) rfl rfl (sx_inv_v2 (mi := 107) (k := 29) (st := [.ref 96]) (w := w5) rfl rfl hI6.1.o96 rfl rfl rfl) rfl rfl rfl (X94 hI6 hC7 hT11.2.2.1 (beT_le hp8)) (show _ = 48 from rfl) ?_
        rintro r4 w82 ⟨⟨rfl, hT79, h180⟩, hI83, hs81⟩
        show sx_RP _ _ _ _ _ [] _ _
        have hT88 : TK' n X (nP n X (nP n X p)) w82 := hT79
        have hC84 := hC7.same h180 (ia_of (hs81 97 (by decide)))
        have hp85 : nP n X (nP n X p) ≤ n := nP_le hp8
        have hB86 := (campB_96 hI6 hs81).trans hB9
        have hO87 := hO10.tr hs81.offT
        have en89 : fi w82 29 3 = nI m := (fi_same 3 (hs81 29 (by decide))).trans en12
        refine sx_RP.step (pc2 := 49) (ls2 := [(3, .int 1), (0, .ref 96), (1, .int (nI k)), (2, .ref 29)]) (st2 := [.ref 96]) (w3 := w82) rfl rfl ?_
        refine sx_RP.step (pc2 := 51) (ls2 := [(3, .int 1), (0, .ref 96), (1, .int (nI k)), (2, .ref 29)]) (st2 := [.float 100, .ref 96]) (w3 := w82) rfl rfl ?_
        refine sx_RP.step (pc2 := 52) (ls2 := [(3, .int 1), (0, .ref 96), (1, .int (nI k)), (2, .ref 29)]) (st2 := [.int 0, .float 100, .ref 96]) (w3 := w82) rfl rfl ?_
        refine sx_RP.step (pc2 := 54) (ls2 := [(3, .int 1), (0, .ref 96), (1, .int (nI k)), (2, .ref 29)]) (st2 := [.int 47, .int 0, .float 100, .ref 96]) (w3 := w82) rfl rfl ?_
        refine sx_RP.callp (as2 := [.ref 96, .float 100, .int 0, .int 47]) (rest2 := []) rfl rfl (sx_inv_v2 (mi := 107) (k := 90) (st := [.int 47, .int 0, .float 100, .ref 96]) (w := w82) rfl rfl hI83.1.o96 rfl rfl rfl) rfl rfl rfl (X108 (k := 100) (m := 2) (lo := 0) (hi := 47) hI83 hC84 hT88 hp85 (by decide) rfl (by decide) (by decide) (by decide)) (show _ = 57 from rfl) ?_
        rintro r4 w93 ⟨⟨rfl, hT90, h191⟩, hI94, hs92⟩
        show sx_RP _ _ _ _ _ [.int (b01 (wtT n X (nP n X (nP n X p)) 100 0 47).1)] _ _
        have hC95 := hC84.same h191 (ia_of (hs92 97 (by decide)))
        have hp96 : (wtT n X (nP n X (nP n X p)) 100 0 47).2 ≤ n := wtT_le hp85
        have hB97 := (campB_96 hI83 hs92).trans hB86
        have hO98 := hO87.tr hs92.offT
        have en99 : fi w93 29 3 = nI m := (fi_same 3 (hs92 29 (by decide))).trans en89
        refine sx_RP.br (p1 := 62) (l1 := [(3, .int 1), (0, .ref 96), (1, .int (nI k)), (2, .ref 29)]) (s1 := []) (v1 := w93) (p2 := 60) (l2 := [(3, .int 1), (0, .ref 96), (1, .int (nI k)), (2, .ref 29)]) (s2 := []) (v2 := w93) rfl rfl (fun q100 => ?_) (fun q100 => ?_)
        · replace q100 := of_decide_eq_true q100
          refine sx_RP.step (pc2 := 63) (ls2 := [(3, .int 1), (0, .ref 96), (1, .int (nI k)), (2, .ref 29)]) (st2 := [.ref 96]) (w3 := w93) rfl rfl ?_
          refine sx_RP.gt (k := 5) hI94 rfl rfl (by decide) (show _ = 66 from rfl) ?_
          rw [hT90.2.2.2]
          refine sx_RP.step (pc2 := 68) (ls2 := [(4, .int (nI (vaT n X (wtT n X (nP n X (nP n X p)) 100 0 47).2))), (3, .int 1), (0, .ref 96), (1, .int (nI k)), (2, .ref 29)]) (st2 := []) (w3 := w93) rfl rfl ?_
          refine sx_RP.step (pc2 := 69) (ls2 := [(4, .int (nI (vaT n X (wtT n X (nP n X (nP n X p)) 100 0 47).2))), (3, .int 1), (0, .ref 96), (1, .int (nI k)), (2, .ref 29)]) (st2 := [.ref 96]) (w3 := w93) rfl rfl ?_
          refine sx_RP.callp (as2 := [.ref 96]) (rest2 := []) rfl rfl (sx_inv_v2 (mi := 107) (k := 29) (st := [.ref 96]) (w := w93) rfl rfl hI94.1.o96 rfl rfl rfl) rfl rfl rfl (X94 hI94 hC95 hT90.2.2.1 (beT_le hp96)) (show _ = 72 from rfl) ?_
          rintro r4 w104 ⟨⟨rfl, hT101, h1102⟩, hI105, hs103⟩
          show sx_RP _ _ _ _ _ [] _ _
          have hT110 : TK' n X (nP n X ((wtT n X (nP n X (nP n X p)) 100 0 47).2)) w104 := hT101
          have hC106 := hC95.same h1102 (ia_of (hs103 97 (by decide)))
          have hp107 : nP n X ((wtT n X (nP n X (nP n X p)) 100 0 47).2) ≤ n := nP_le hp96
          have hB108 := (campB_96 hI94 hs103).trans hB97
          have hO109 := hO98.tr hs103.offT
          have en111 : fi w104 29 3 = nI m := (fi_same 3 (hs103 29 (by decide))).trans en99
          refine sx_RP.step (pc2 := 73) (ls2 := [(4, .int (nI (vaT n X (wtT n X (nP n X (nP n X p)) 100 0 47).2))), (3, .int 1), (0, .ref 96), (1, .int (nI k)), (2, .ref 29)]) (st2 := [.ref 96]) (w3 := w104) rfl rfl ?_
          refine sx_RP.step (pc2 := 75) (ls2 := [(4, .int (nI (vaT n X (wtT n X (nP n X (nP n X p)) 100 0 47).2))), (3, .int 1), (0, .ref 96), (1, .int (nI k)), (2, .ref 29)]) (st2 := [.float 119, .ref 96]) (w3 := w104) rfl rfl ?_
          refine sx_RP.step (pc2 := 76) (ls2 := [(4, .int (nI (vaT n X (wtT n X (nP n X (nP n X p)) 100 0 47).2))), (3, .int 1), (0, .ref 96), (1, .int (nI k)), (2, .ref 29)]) (st2 := [.int 0, .float 119, .ref 96]) (w3 := w104) rfl rfl ?_
          refine sx_RP.step (pc2 := 77) (ls2 := [(4, .int (nI (vaT n X (wtT n X (nP n X (nP n X p)) 100 0 47).2))), (3, .int 1), (0, .ref 96), (1, .int (nI k)), (2, .ref 29)]) (st2 := [.int 3, .int 0, .float 119, .ref 96]) (w3 := w104) rfl rfl ?_
          refine sx_RP.callp (as2 := [.ref 96, .float 119, .int 0, .int 3]) (rest2 := []) rfl rfl (sx_inv_v2 (mi := 107) (k := 90) (st := [.int 3, .int 0, .float 119, .ref 96]) (w := w104) rfl rfl hI105.1.o96 rfl rfl rfl) rfl rfl rfl (X108 (k := 119) (m := 3) (lo := 0) (hi := 3) hI105 hC106 hT110 hp107 (by decide) rfl (by decide) (by decide) (by decide)) (show _ = 80 from rfl) ?_
          rintro r4 w115 ⟨⟨rfl, hT112, h1113⟩, hI116, hs114⟩
          show sx_RP _ _ _ _ _ [.int (b01 (wtT n X (nP n X ((wtT n X (nP n X (nP n X p)) 100 0 47).2)) 119 0 3).1)] _ _
          have hC117 := hC106.same h1113 (ia_of (hs114 97 (by decide)))
          have hp118 : (wtT n X (nP n X ((wtT n X (nP n X (nP n X p)) 100 0 47).2)) 119 0 3).2 ≤ n := wtT_le hp107
          have hB119 := (campB_96 hI105 hs114).trans hB108
          have hO120 := hO109.tr hs114.offT
          have en121 : fi w115 29 3 = nI m := (fi_same 3 (hs114 29 (by decide))).trans en111
          refine sx_RP.br (p1 := 85) (l1 := [(4, .int (nI (vaT n X (wtT n X (nP n X (nP n X p)) 100 0 47).2))), (3, .int 1), (0, .ref 96), (1, .int (nI k)), (2, .ref 29)]) (s1 := []) (v1 := w115) (p2 := 83) (l2 := [(4, .int (nI (vaT n X (wtT n X (nP n X (nP n X p)) 100 0 47).2))), (3, .int 1), (0, .ref 96), (1, .int (nI k)), (2, .ref 29)]) (s2 := []) (v2 := w115) rfl rfl (fun q122 => ?_) (fun q122 => ?_)
          · replace q122 := of_decide_eq_true q122
            refine sx_RP.step (pc2 := 86) (ls2 := [(4, .int (nI (vaT n X (wtT n X (nP n X (nP n X p)) 100 0 47).2))), (3, .int 1), (0, .ref 96), (1, .int (nI k)), (2, .ref 29)]) (st2 := [.ref 29]) (w3 := w115) rfl rfl ?_
            refine sx_RP.step (pc2 := 87) (ls2 := [(4, .int (nI (vaT n X (wtT n X (nP n X (nP n X p)) 100 0 47).2))), (3, .int 1), (0, .ref 96), (1, .int (nI k)), (2, .ref 29)]) (st2 := [.int (nI k), .ref 29]) (w3 := w115) rfl rfl ?_
            refine sx_RP.step (pc2 := 88) (ls2 := [(4, .int (nI (vaT n X (wtT n X (nP n X (nP n X p)) 100 0 47).2))), (3, .int 1), (0, .ref 96), (1, .int (nI k)), (2, .ref 29)]) (st2 := [.int 1, .int (nI k), .ref 29]) (w3 := w115) rfl rfl ?_
            refine sx_RP.step (pc2 := 90) (ls2 := [(4, .int (nI (vaT n X (wtT n X (nP n X (nP n X p)) 100 0 47).2))), (3, .int 1), (0, .ref 96), (1, .int (nI k)), (2, .ref 29)]) (st2 := [.int (nI (vaT n X (wtT n X (nP n X (nP n X p)) 100 0 47).2)), .int 1, .int (nI k), .ref 29]) (w3 := w115) rfl rfl ?_
            refine sx_RP.step (pc2 := 91) (ls2 := [(4, .int (nI (vaT n X (wtT n X (nP n X (nP n X p)) 100 0 47).2))), (3, .int 1), (0, .ref 96), (1, .int (nI k)), (2, .ref 29)]) (st2 := [.ref 96, .int (nI (vaT n X (wtT n X (nP n X (nP n X p)) 100 0 47).2)), .int 1, .int (nI k), .ref 29]) (w3 := w115) rfl rfl ?_
            refine sx_RP.gt (k := 5) hI116 rfl rfl (by decide) (show _ = 94 from rfl) ?_
            rw [hT112.2.2.2]
            have ht123 := wtT_t (b01_t q100)
            have ht124 := wtT_t (b01_t q122)
            have hv1 := nmT_in ht123.2.1
            have hv2 := nmT_in ht124.2.1
            rw [← ht123.2.2] at hv1
            rw [← ht124.2.2] at hv2
            refine sx_RP.callp (as2 := [.ref 29, .int (nI k), .int 1, .int (nI (vaT n X (wtT n X (nP n X (nP n X p)) 100 0 47).2)), .int (nI (vaT n X (wtT n X (nP n X ((wtT n X (nP n X (nP n X p)) 100 0 47).2)) 119 0 3).2))]) (rest2 := []) rfl rfl (sx_inv_v2 (mi := 107) (k := 96) (st := [.int (nI (vaT n X (wtT n X (nP n X ((wtT n X (nP n X (nP n X p)) 100 0 47).2)) 119 0 3).2)), .int (nI (vaT n X (wtT n X (nP n X (nP n X p)) 100 0 47).2)), .int 1, .int (nI k), .ref 29]) (w := w115) rfl rfl (hI116.1.oC (Or.inr (Or.inr rfl))) rfl rfl rfl) rfl rfl rfl (X25 hI116 isA29 (n := m) (k := k) (s := 1) (c := (vaT n X (wtT n X (nP n X (nP n X p)) 100 0 47).2)) (y := (vaT n X (wtT n X (nP n X ((wtT n X (nP n X (nP n X p)) 100 0 47).2)) 119 0 3).2)) (by omega) en121 (by omega) (by omega) (by omega) (by omega)) (show _ = 97 from rfl) ?_
            rintro r4 w127 ⟨⟨rfl, hc125⟩, hI128, ho126⟩
            show sx_RP _ _ _ _ _ [.int (nI m)] _ _
            have hC129 := hC117.out ho126
            have hT130 := hT112.out ho126
            have hB131 := hc125.trans (congrArg (addK (nI (k))) hB119)
            have hO132 := hO120.tr ho126.offT
            refine sx_RP.step (pc2 := 98) (ls2 := [(4, .int (nI (vaT n X (wtT n X (nP n X (nP n X p)) 100 0 47).2))), (3, .int 1), (0, .ref 96), (1, .int (nI k)), (2, .ref 29)]) (st2 := []) (w3 := w127) rfl rfl ?_
            refine sx_RP.step (pc2 := 99) (ls2 := [(4, .int (nI (vaT n X (wtT n X (nP n X (nP n X p)) 100 0 47).2))), (3, .int 1), (0, .ref 96), (1, .int (nI k)), (2, .ref 29)]) (st2 := [.ref 96]) (w3 := w127) rfl rfl ?_
            refine sx_RP.callp (as2 := [.ref 96]) (rest2 := []) rfl rfl (sx_inv_v2 (mi := 107) (k := 29) (st := [.ref 96]) (w := w127) rfl rfl hI128.1.o96 rfl rfl rfl) rfl rfl rfl (X94 hI128 hC129 hT130.2.2.1 (beT_le hp118)) (show _ = 102 from rfl) ?_
            rintro r4 w136 ⟨⟨rfl, hT133, h1134⟩, hI137, hs135⟩
            show sx_RP _ _ _ _ _ [] _ _
            have hT142 : TK' n X (nP n X ((wtT n X (nP n X ((wtT n X (nP n X (nP n X p)) 100 0 47).2)) 119 0 3).2)) w136 := hT133
            have hC138 := hC129.same h1134 (ia_of (hs135 97 (by decide)))
            have hp139 : nP n X ((wtT n X (nP n X ((wtT n X (nP n X (nP n X p)) 100 0 47).2)) 119 0 3).2) ≤ n := nP_le hp118
            have hB140 := (campB_96 hI128 hs135).trans hB131
            have hO141 := hO132.tr hs135.offT
            refine sx_RP.step (pc2 := 103) (ls2 := [(4, .int (nI (vaT n X (wtT n X (nP n X (nP n X p)) 100 0 47).2))), (3, .int 1), (0, .ref 96), (1, .int (nI k)), (2, .ref 29)]) (st2 := [.int 1]) (w3 := w136) rfl rfl ?_
            refine sx_RP.ret (r := (some (.int 1))) rfl rfl ?_
            have hlen : b.1.length = m := by rw [← hB]; unfold campB; rw [mkB_len1, en, iN_n (by omega)]
            rw [show galT n X k p b = (true, nP n X (wtT n X (nP n X (wtT n X (nP n X (nP n X p)) 100 0 47).2) 119 0 3).2, addK (nI k) b) by unfold galT; rw [if_pos (by rw [hlen]; exact c1), if_pos (Or.inr c78), if_pos (b01_t q100), if_pos (b01_t q122)]]
            exact ⟨⟨rfl, hT142, fun _ => hB140⟩, hI137, hC138, hO141⟩
          · replace q122 := Decidable.not_not.mp (of_decide_eq_false q122)
            refine sx_RP.step (pc2 := 84) (ls2 := [(4, .int (nI (vaT n X (wtT n X (nP n X (nP n X p)) 100 0 47).2))), (3, .int 1), (0, .ref 96), (1, .int (nI k)), (2, .ref 29)]) (st2 := [.int 0]) (w3 := w115) rfl rfl ?_
            refine sx_RP.ret (r := (some (.int 0))) rfl rfl ?_
            have hlen : b.1.length = m := by rw [← hB]; unfold campB; rw [mkB_len1, en, iN_n (by omega)]
            rw [show galT n X k p b = (false, (wtT n X (nP n X (wtT n X (nP n X (nP n X p)) 100 0 47).2) 119 0 3).2, b) by unfold galT; rw [if_pos (by rw [hlen]; exact c1), if_pos (Or.inr c78), if_pos (b01_t q100), if_neg (by rw [b01_f q122]; decide)]]
            exact ⟨⟨rfl, hT112, fun z => absurd (show false = true from z) (by decide)⟩, hI116, hC117, hO120⟩
        · replace q100 := Decidable.not_not.mp (of_decide_eq_false q100)
          refine sx_RP.step (pc2 := 61) (ls2 := [(3, .int 1), (0, .ref 96), (1, .int (nI k)), (2, .ref 29)]) (st2 := [.int 0]) (w3 := w93) rfl rfl ?_
          refine sx_RP.ret (r := (some (.int 0))) rfl rfl ?_
          have hlen : b.1.length = m := by rw [← hB]; unfold campB; rw [mkB_len1, en, iN_n (by omega)]
          rw [show galT n X k p b = (false, (wtT n X (nP n X (nP n X p)) 100 0 47).2, b) by unfold galT; rw [if_pos (by rw [hlen]; exact c1), if_pos (Or.inr c78), if_neg (by rw [b01_f q100]; decide)]]
          exact ⟨⟨rfl, hT90, fun z => absurd (show false = true from z) (by decide)⟩, hI94, hC95, hO98⟩
      · refine sx_RP.cu (as := [.ref 96, .float 109]) (rest2 := []) (st3 := [.int 0]) rfl rfl (sx_inv_v2 (mi := 107) (k := 52) (st := [.float 109, .ref 96]) (w := w5) rfl rfl hI6.1.o96 rfl rfl rfl) rfl rfl (x101f (k := (109 : UInt32)) (m := 4) hI6 hC7 hT11 hp8 (by decide) rfl (by decide) c78) rfl ?_
        refine sx_RP.step (pc2 := 42) (ls2 := [(3, .int 1), (0, .ref 96), (1, .int (nI k)), (2, .ref 29)]) (st2 := []) (w3 := w5) rfl rfl ?_
        refine sx_RP.step (pc2 := 43) (ls2 := [(3, .int 1), (0, .ref 96), (1, .int (nI k)), (2, .ref 29)]) (st2 := [.int 0]) (w3 := w5) rfl rfl ?_
        refine sx_RP.ret (r := (some (.int 0))) rfl rfl ?_
        have hlen : b.1.length = m := by rw [← hB]; unfold campB; rw [mkB_len1, en, iN_n (by omega)]
        rw [show galT n X k p b = (false, nP n X p, b) by unfold galT; rw [if_pos (by rw [hlen]; exact c1), if_neg (fun z => z.elim (by rw [c13]; decide) (by rw [c78]; decide))]]
        exact ⟨⟨rfl, hT11, fun z => absurd (show false = true from z) (by decide)⟩, hI6, hC7, hO10⟩
  · refine sx_RP.cu (as := [.ref 29]) (rest2 := []) (st3 := [.int 0]) rfl rfl (sx_inv_v2 (mi := 107) (k := 78) (st := [.ref 29]) (w := w) rfl rfl (hI.1.oC (Or.inr (Or.inr rfl))) rfl rfl rfl) rfl rfl (p24n hI isA29 en hm c1) rfl ?_
    refine sx_RP.step (pc2 := 7) (ls2 := [(0, .ref 96), (1, .int (nI k)), (2, .ref 29)]) (st2 := []) (w3 := w) rfl rfl ?_
    refine sx_RP.step (pc2 := 8) (ls2 := [(0, .ref 96), (1, .int (nI k)), (2, .ref 29)]) (st2 := [.int 0]) (w3 := w) rfl rfl ?_
    refine sx_RP.ret (r := (some (.int 0))) rfl rfl ?_
    have hlen : b.1.length = m := by rw [← hB]; unfold campB; rw [mkB_len1, en, iN_n (by omega)]
    rw [show galT n X k p b = (false, p, b) by unfold galT; rw [if_neg (by rw [hlen]; exact c1)]]
    exact ⟨⟨rfl, hT, fun z => absurd (show false = true from z) (by decide)⟩, hI, hC, OffT.rf⟩
