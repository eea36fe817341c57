-- 89y45.ansC.lean.txt
section
theorem cb_y {D : Nat → Nat} {h n q j t : Nat} (ht : t < 48) (hb : bsd h j = nI t) (hd : D t ≤ n) : cbF D h n (q + 1) j = true := by
  show ((if bsd h j = -1 then false else decide (D (iN (bsd h j)) ≤ n)) || cbF D h n q (j + 1)) = true
  rw [hb, if_neg (nI_ne1 (by omega)), iN_n (by omega), decide_eq_true hd, Bool.true_or]
theorem cb_n1 {D : Nat → Nat} {h n q j : Nat} (hb : bsd h j = -1) : cbF D h n (q + 1) j = cbF D h n q (j + 1) := by
  show ((if bsd h j = -1 then false else decide (D (iN (bsd h j)) ≤ n)) || cbF D h n q (j + 1)) = _
  rw [if_pos hb, Bool.false_or]
theorem cb_n2 {D : Nat → Nat} {h n q j t : Nat} (ht : t < 48) (hb : bsd h j = nI t) (hd : ¬ D t ≤ n) : cbF D h n (q + 1) j = cbF D h n q (j + 1) := by
  show ((if bsd h j = -1 then false else decide (D (iN (bsd h j)) ≤ n)) || cbF D h n q (j + 1)) = _
  rw [hb, if_neg (nI_ne1 (by omega)), iN_n (by omega), decide_eq_false hd, Bool.false_or]
theorem cbB_y {D : Nat → Nat} {h n : Nat} (hd : D h ≤ n) : cbB D h n = true := by
  unfold cbB
  rw [decide_eq_true hd, Bool.true_or]
theorem cbB_n {D : Nat → Nat} {h n : Nat} (hd : ¬ D h ≤ n) : cbB D h n = cbF D h n 4 0 := by
  unfold cbB
  rw [decide_eq_false hd, Bool.false_or]
theorem nmV_lt {l : List Int32} {g t : Nat} (h : ¬ 0 ≤ nmV l g t) : nmV l g t = -1 := by
  rcases nmV_r l g t with e | ⟨x, hx, e⟩
  · exact e
  · rw [e] at h
    exact absurd (nI_le (a := 0) (Nat.zero_le _) (by omega)) h
theorem hdw {w : List sx_C} (hI : WI w) : ∀ i, i < 10 → iN (gF (ia w 112) i 2) < 48 ∧ iN (gF (ia w 112) i 3) < 4 := by
  intro i hi
  obtain ⟨a, ha, ea⟩ : inR ((ia w 112).getD (103 + 6 * i + 2) 0) 47 := (hI.s (103 + 6 * i + 2) (by omega)).2.2.2.2.2.1 (by omega)
  obtain ⟨b, hb, eb⟩ : inR ((ia w 112).getD (103 + 6 * i + 3) 0) 3 := (hI.s (103 + 6 * i + 3) (by omega)).2.2.2.2.2.2.1 (by omega)
  rw [show gF (ia w 112) i 2 = nI a from ea, show gF (ia w 112) i 3 = nI b from eb, iN_n (by omega), iN_n (by omega)]
  exact ⟨by omega, by omega⟩
theorem Mi.wb {gr wl : Nat → Int32} {N t k y h : Nat} {m : List Int32} {dn e : Int32} (hm : Mi gr wl N t k y m h dn e) (hW : ∀ c, c < 48 → ∃ b, b < 2 ∧ wl c = nI b) : WB m := fun c hc => by
  obtain ⟨b, hb, eb⟩ := hW c hc
  exact ⟨b, hb, (hm.2.2.1 c hc).2.trans eb⟩
theorem nmV_at {l : List Int32} {g t k h k2 h2 y2 : Nat} (hk : k < 6) (hh : h < 48) (ek : gF l g 0 = nI k) (eh : gF l g 2 = nI h) (hk2 : k2 < 6) (hh2 : h2 < 48) (hy2 : y2 < 4) (e0 : gF l t 0 = nI k2) (e2 : gF l t 2 = nI h2) (e3 : gF l t 3 = nI y2) : nmV l g t = nmF (dst (dgK l k) h) (gdL l) (wlL l) k2 y2 61 0 h2 (gF l t 4) (gF l t 5) := by
  unfold nmV
  rw [comD_at hk hh ek eh, e0, e2, e3, iN_n (by omega), iN_n (by omega), iN_n (by omega)]
set_option maxRecDepth 20000 in
set_option maxHeartbeats 4000000 in
theorem x60L {xs : Option (List Int32)} {d : Nat} {w : List sx_C} (hI : WI w) {D : Nat → Nat} (hD : ∀ c, c < 48 → (ia w 101).getD c 0 = nI (D c) ∧ D c ≤ 1000000) {h n : Nat} (hh : h < 48) (hn : n ≤ 60) : ∀ (q j : Nat), j + q = 4 → sx_RP xs (d + 1) 60 14 [(0, .ref 0), (1, .int (nI h)), (2, .int (nI n)), (3, .int (nI j))] [] w (fun r w2 => r = some (.int (b01 (cbF D h n q j))) ∧ w2 = w)
  | 0, j, hj => by
    obtain rfl : j = 4 := by omega
    refine sx_RP.step (pc2 := 15) (ls2 := [(0, .ref 0), (1, .int (nI h)), (2, .int (nI n)), (3, .int 4)]) (st2 := [.int 4]) (w3 := w) rfl rfl ?_
    refine sx_RP.step (pc2 := 16) (ls2 := [(0, .ref 0), (1, .int (nI h)), (2, .int (nI n)), (3, .int 4)]) (st2 := [.int 4, .int 4]) (w3 := w) rfl rfl ?_
    refine sx_RP.step (pc2 := 51) (ls2 := [(0, .ref 0), (1, .int (nI h)), (2, .int (nI n)), (3, .int 4)]) (st2 := []) (w3 := w) rfl rfl ?_
    refine sx_RP.step (pc2 := 52) (ls2 := [(0, .ref 0), (1, .int (nI h)), (2, .int (nI n)), (3, .int 4)]) (st2 := [.int 0]) (w3 := w) rfl rfl ?_
    refine sx_RP.ret (r := (some (.int 0))) rfl rfl ?_
    exact ⟨rfl, rfl⟩
  | q + 1, j, hj => by
    refine sx_RP.step (pc2 := 15) (ls2 := [(0, .ref 0), (1, .int (nI h)), (2, .int (nI n)), (3, .int (nI j))]) (st2 := [.int (nI j)]) (w3 := w) rfl rfl ?_
    refine sx_RP.step (pc2 := 16) (ls2 := [(0, .ref 0), (1, .int (nI h)), (2, .int (nI n)), (3, .int (nI j))]) (st2 := [.int 4, .int (nI j)]) (w3 := w) rfl rfl ?_
    refine sx_RP.br (p2 := 19) (l2 := [(0, .ref 0), (1, .int (nI h)), (2, .int (nI n)), (3, .int (nI j))]) (s2 := []) (v2 := w) rfl rfl (fun q => absurd (of_decide_eq_true q) (fun z => absurd ((nI_leI (a := 4) (b := j) (by omega) (by omega)).mp z) (by omega))) (fun _ => ?_)
    refine sx_RP.step (pc2 := 20) (ls2 := [(0, .ref 0), (1, .int (nI h)), (2, .int (nI n)), (3, .int (nI j))]) (st2 := [.int (nI h)]) (w3 := w) rfl rfl ?_
    refine sx_RP.step (pc2 := 21) (ls2 := [(0, .ref 0), (1, .int (nI h)), (2, .int (nI n)), (3, .int (nI j))]) (st2 := [.int (nI j), .int (nI h)]) (w3 := w) rfl rfl ?_
    rcases bsd_or hh (show j < 4 by omega) with hb | ⟨t, ht, hb⟩
    · refine sx_RP.cu (as := [.int (nI h), .int (nI j)]) (rest2 := []) (st3 := [.int (-1)]) rfl rfl rfl rfl rfl (cb20e hh (by omega) hb) rfl ?_
      refine sx_RP.step (pc2 := 26) (ls2 := [(4, .int (-1)), (0, .ref 0), (1, .int (nI h)), (2, .int (nI n)), (3, .int (nI j))]) (st2 := []) (w3 := w) rfl rfl ?_
      refine sx_RP.step (pc2 := 28) (ls2 := [(4, .int (-1)), (0, .ref 0), (1, .int (nI h)), (2, .int (nI n)), (3, .int (nI j))]) (st2 := [.int (-1)]) (w3 := w) rfl rfl ?_
      refine sx_RP.step (pc2 := 29) (ls2 := [(4, .int (-1)), (0, .ref 0), (1, .int (nI h)), (2, .int (nI n)), (3, .int (nI j))]) (st2 := [.int (-1), .int (-1)]) (w3 := w) rfl rfl ?_
      refine sx_RP.step (pc2 := 45) (ls2 := [(4, .int (-1)), (0, .ref 0), (1, .int (nI h)), (2, .int (nI n)), (3, .int (nI j))]) (st2 := []) (w3 := w) rfl rfl ?_
      refine sx_RP.step (pc2 := 48) (ls2 := [(3, .int ((nI j) + 1)), (4, .int (-1)), (0, .ref 0), (1, .int (nI h)), (2, .int (nI n))]) (st2 := []) (w3 := w) rfl rfl ?_
      rw [nI_1 j]
      refine sx_RP.step (pc2 := 14) (ls2 := [(3, .int (nI (j + 1))), (4, .int (-1)), (0, .ref 0), (1, .int (nI h)), (2, .int (nI n))]) (st2 := []) (w3 := w) rfl rfl ?_
      rw [cb_n1 hb]
      exact sx_RP.ls (sx_lr.cons rfl (sx_lr.cons rfl (sx_lr.cons rfl (sx_lr.cons rfl sx_lr.nil)))) (x60L hI hD hh hn q (j + 1) (by omega))
    · have bt := hD t ht
      refine sx_RP.cu (as := [.int (nI h), .int (nI j)]) (rest2 := []) (st3 := [.int (nI t)]) rfl rfl rfl rfl rfl (cb20e hh (by omega) hb) rfl ?_
      refine sx_RP.step (pc2 := 26) (ls2 := [(4, .int (nI t)), (0, .ref 0), (1, .int (nI h)), (2, .int (nI n)), (3, .int (nI j))]) (st2 := []) (w3 := w) rfl rfl ?_
      refine sx_RP.step (pc2 := 28) (ls2 := [(4, .int (nI t)), (0, .ref 0), (1, .int (nI h)), (2, .int (nI n)), (3, .int (nI j))]) (st2 := [.int (nI t)]) (w3 := w) rfl rfl ?_
      refine sx_RP.step (pc2 := 29) (ls2 := [(4, .int (nI t)), (0, .ref 0), (1, .int (nI h)), (2, .int (nI n)), (3, .int (nI j))]) (st2 := [.int (-1), .int (nI t)]) (w3 := w) rfl rfl ?_
      refine sx_RP.br (p2 := 32) (l2 := [(4, .int (nI t)), (0, .ref 0), (1, .int (nI h)), (2, .int (nI n)), (3, .int (nI j))]) (s2 := []) (v2 := w) rfl rfl (fun q => absurd (of_decide_eq_true q) (nI_ne1 (by omega))) (fun _ => ?_)
      refine sx_RP.step (pc2 := 33) (ls2 := [(4, .int (nI t)), (0, .ref 0), (1, .int (nI h)), (2, .int (nI n)), (3, .int (nI j))]) (st2 := [.ref 0]) (w3 := w) rfl rfl ?_
      refine sx_RP.gf (v := .ref 101) rfl rfl hI.1.o0 rfl rfl (show _ = 36 from rfl) ?_
      refine sx_RP.step (pc2 := 38) (ls2 := [(4, .int (nI t)), (0, .ref 0), (1, .int (nI h)), (2, .int (nI n)), (3, .int (nI j))]) (st2 := [.int (nI t), .ref 101]) (w3 := w) rfl rfl ?_
      refine sx_RP.ild (c := t) rfl hI.1.a101.1 hI.1.a101.2 (sx_in_nI (show t < 48 by omega) (by decide)) (show (nI t).toNatClampNeg = t from nI_clamp (by omega)) (show _ = 39 from rfl) ?_
      rw [bt.1]
      refine sx_RP.step (pc2 := 40) (ls2 := [(4, .int (nI t)), (0, .ref 0), (1, .int (nI h)), (2, .int (nI n)), (3, .int (nI j))]) (st2 := [.int (nI n), .int (nI (D t))]) (w3 := w) rfl rfl ?_
      refine sx_RP.br (p1 := 45) (l1 := [(4, .int (nI t)), (0, .ref 0), (1, .int (nI h)), (2, .int (nI n)), (3, .int (nI j))]) (s1 := []) (v1 := w) (p2 := 43) (l2 := [(4, .int (nI t)), (0, .ref 0), (1, .int (nI h)), (2, .int (nI n)), (3, .int (nI j))]) (s2 := []) (v2 := w) rfl rfl (fun q1 => ?_) (fun q1 => ?_)
      · replace q1 := of_decide_eq_true q1
        replace q1 := (nI_ltI (a := n) (b := (D t)) (by omega) (by omega)).mp q1
        refine sx_RP.step (pc2 := 48) (ls2 := [(3, .int ((nI j) + 1)), (4, .int (nI t)), (0, .ref 0), (1, .int (nI h)), (2, .int (nI n))]) (st2 := []) (w3 := w) rfl rfl ?_
        rw [nI_1 j]
        refine sx_RP.step (pc2 := 14) (ls2 := [(3, .int (nI (j + 1))), (4, .int (nI t)), (0, .ref 0), (1, .int (nI h)), (2, .int (nI n))]) (st2 := []) (w3 := w) rfl rfl ?_
        rw [cb_n2 ht hb (by omega)]
        exact sx_RP.ls (sx_lr.cons rfl (sx_lr.cons rfl (sx_lr.cons rfl (sx_lr.cons rfl sx_lr.nil)))) (x60L hI hD hh hn q (j + 1) (by omega))
      · replace q1 := of_decide_eq_false q1
        replace q1 := mt (nI_ltI (a := n) (b := (D t)) (by omega) (by omega)).mpr q1
        refine sx_RP.step (pc2 := 44) (ls2 := [(4, .int (nI t)), (0, .ref 0), (1, .int (nI h)), (2, .int (nI n)), (3, .int (nI j))]) (st2 := [.int 1]) (w3 := w) rfl rfl ?_
        refine sx_RP.ret (r := (some (.int 1))) rfl rfl ?_
        exact ⟨by rw [cb_y ht hb (by omega)]; rfl, rfl⟩
set_option maxRecDepth 20000 in
set_option maxHeartbeats 4000000 in
theorem x60 {xs : Option (List Int32)} {d : Nat} {w : List sx_C} (hI : WI w) {D : Nat → Nat} (hD : ∀ c, c < 48 → (ia w 101).getD c 0 = nI (D c) ∧ D c ≤ 1000000) {h n : Nat} (hh : h < 48) (hn : n ≤ 60) : sx_RU xs (d + 1) 60 0 (lv_args 0 [.ref 0, .int (nI h), .int (nI n)]) [] w (some (.int (b01 (cbB D h n)))) w := by
  have h : sx_RP xs (d + 1) 60 0 (lv_args 0 [.ref 0, .int (nI h), .int (nI n)]) [] w (fun r9 w2 => r9 = some (.int (b01 (cbB D h n))) ∧ w2 = w) := by
    have bh := hD h hh
    refine sx_RP.step (pc2 := 1) (ls2 := [(0, .ref 0), (1, .int (nI h)), (2, .int (nI n))]) (st2 := [.ref 0]) (w3 := w) rfl rfl ?_
    refine sx_RP.gf (v := .ref 101) rfl rfl hI.1.o0 rfl rfl (show _ = 4 from rfl) ?_
    refine sx_RP.step (pc2 := 5) (ls2 := [(0, .ref 0), (1, .int (nI h)), (2, .int (nI n))]) (st2 := [.int (nI h), .ref 101]) (w3 := w) rfl rfl ?_
    refine sx_RP.ild (c := h) rfl hI.1.a101.1 hI.1.a101.2 (sx_in_nI (show h < 48 by omega) (by decide)) (show (nI h).toNatClampNeg = h from nI_clamp (by omega)) (show _ = 6 from rfl) ?_
    rw [bh.1]
    refine sx_RP.step (pc2 := 7) (ls2 := [(0, .ref 0), (1, .int (nI h)), (2, .int (nI n))]) (st2 := [.int (nI n), .int (nI (D h))]) (w3 := w) rfl rfl ?_
    refine sx_RP.br (p1 := 12) (l1 := [(0, .ref 0), (1, .int (nI h)), (2, .int (nI n))]) (s1 := []) (v1 := w) (p2 := 10) (l2 := [(0, .ref 0), (1, .int (nI h)), (2, .int (nI n))]) (s2 := []) (v2 := w) rfl rfl (fun q1 => ?_) (fun q1 => ?_)
    · replace q1 := of_decide_eq_true q1
      replace q1 := (nI_ltI (a := n) (b := (D h)) (by omega) (by omega)).mp q1
      refine sx_RP.step (pc2 := 13) (ls2 := [(0, .ref 0), (1, .int (nI h)), (2, .int (nI n))]) (st2 := [.int 0]) (w3 := w) rfl rfl ?_
      refine sx_RP.step (pc2 := 14) (ls2 := [(3, .int 0), (0, .ref 0), (1, .int (nI h)), (2, .int (nI n))]) (st2 := []) (w3 := w) rfl rfl ?_
      rw [cbB_n (by omega)]
      exact sx_RP.ls (sx_lr.cons rfl (sx_lr.cons rfl (sx_lr.cons rfl (sx_lr.cons rfl sx_lr.nil)))) (x60L hI hD hh hn 4 0 (by omega))
    · replace q1 := of_decide_eq_false q1
      replace q1 := mt (nI_ltI (a := n) (b := (D h)) (by omega) (by omega)).mpr q1
      refine sx_RP.step (pc2 := 11) (ls2 := [(0, .ref 0), (1, .int (nI h)), (2, .int (nI n))]) (st2 := [.int 1]) (w3 := w) rfl rfl ?_
      refine sx_RP.ret (r := (some (.int 1))) rfl rfl ?_
      exact ⟨by rw [cbB_y (by omega)]; rfl, rfl⟩
  obtain ⟨r9, w2, h1, rfl, rfl⟩ := h
  exact h1
set_option maxRecDepth 20000 in
set_option maxHeartbeats 4000000 in
theorem X59L {xs : Option (List Int32)} {d : Nat} {w0 : List sx_C} {l : List Int32} {D : Nat → Nat} {g t k y : Nat} (hR0 : rel w0 1 l ∧ WI w0) (hD : ∀ c, c < 48 → (ia w0 101).getD c 0 = nI (D c) ∧ D c ≤ 1000000) (hk : k ≤ 5) (hy : y ≤ 3) : ∀ (q n : Nat) (w : List sx_C) (h : Nat) (dn e : Int32), n + q = 61 → WI w → Same 43 w0 w → h < 48 → (fi w 43 0 = nI k ∧ fi w 43 2 = nI h ∧ fi w 43 3 = nI y ∧ fi w 43 4 = dn ∧ fi w 43 5 = e) → sx_RP xs (d + 5) 59 15 [(0, .ref 0), (1, .ref (1 + 4 + g)), (2, .ref (1 + 4 + t)), (3, .int (nI n))] [] w (fun r w2 => r = some (.int (nmF D (gdL l) (wlL l) k y q n h dn e)) ∧ WI w2 ∧ Same 43 w0 w2)
  | 0, n, w, h, dn, e, hn, hI, hO, hh, he => by
    obtain rfl : n = 61 := by omega
    refine sx_RP.step (pc2 := 16) (ls2 := [(0, .ref 0), (1, .ref (1 + 4 + g)), (2, .ref (1 + 4 + t)), (3, .int 61)]) (st2 := [.int 61]) (w3 := w) rfl rfl ?_
    refine sx_RP.step (pc2 := 18) (ls2 := [(0, .ref 0), (1, .ref (1 + 4 + g)), (2, .ref (1 + 4 + t)), (3, .int 61)]) (st2 := [.int 60, .int 61]) (w3 := w) rfl rfl ?_
    refine sx_RP.step (pc2 := 65) (ls2 := [(0, .ref 0), (1, .ref (1 + 4 + g)), (2, .ref (1 + 4 + t)), (3, .int 61)]) (st2 := []) (w3 := w) rfl rfl ?_
    refine sx_RP.step (pc2 := 66) (ls2 := [(0, .ref 0), (1, .ref (1 + 4 + g)), (2, .ref (1 + 4 + t)), (3, .int 61)]) (st2 := [.int (-1)]) (w3 := w) rfl rfl ?_
    refine sx_RP.ret (r := (some (.int (-1)))) rfl rfl ?_
    exact ⟨rfl, hI, hO⟩
  | q + 1, n, w, h, dn, e, hn, hI, hO, hh, he => by
    have hRw : rel w 1 l := hR0.1.same hR0.2 (Or.inl rfl) (fun a h1 h2 => hO a (by omega))
    have hD1 : ∀ c, c < 48 → (ia w 101).getD c 0 = nI (D c) ∧ D c ≤ 1000000 := fun c hc => by rw [ia_of (hO 101 (by decide))]; exact hD c hc
    refine sx_RP.step (pc2 := 16) (ls2 := [(0, .ref 0), (1, .ref (1 + 4 + g)), (2, .ref (1 + 4 + t)), (3, .int (nI n))]) (st2 := [.int (nI n)]) (w3 := w) rfl rfl ?_
    refine sx_RP.step (pc2 := 18) (ls2 := [(0, .ref 0), (1, .ref (1 + 4 + g)), (2, .ref (1 + 4 + t)), (3, .int (nI n))]) (st2 := [.int 60, .int (nI n)]) (w3 := w) rfl rfl ?_
    refine sx_RP.br (p2 := 21) (l2 := [(0, .ref 0), (1, .ref (1 + 4 + g)), (2, .ref (1 + 4 + t)), (3, .int (nI n))]) (s2 := []) (v2 := w) rfl rfl (fun q => absurd (of_decide_eq_true q) (fun z => absurd ((nI_ltI (a := 60) (b := n) (by omega) (by omega)).mp z) (by omega))) (fun _ => ?_)
    refine sx_RP.step (pc2 := 22) (ls2 := [(0, .ref 0), (1, .ref (1 + 4 + g)), (2, .ref (1 + 4 + t)), (3, .int (nI n))]) (st2 := [.ref 0]) (w3 := w) rfl rfl ?_
    refine sx_RP.gf (v := .ref 43) rfl rfl hI.1.o0 rfl rfl (show _ = 25 from rfl) ?_
    refine sx_RP.gg (k := 5) hI gAd.t rfl rfl (by decide) (show _ = 28 from rfl) ?_
    obtain ⟨x1, hx2, ex3⟩ : inR (fi w 43 5) 1 := hI.gk (k := 5) gAd.t (by decide)
    rw [ex3]
    refine sx_RP.br (p1 := 65) (l1 := [(0, .ref 0), (1, .ref (1 + 4 + g)), (2, .ref (1 + 4 + t)), (3, .int (nI n))]) (s1 := []) (v1 := w) (p2 := 31) (l2 := [(0, .ref 0), (1, .ref (1 + 4 + g)), (2, .ref (1 + 4 + t)), (3, .int (nI n))]) (s2 := []) (v2 := w) rfl rfl (fun q4 => ?_) (fun q4 => ?_)
    · replace q4 := of_decide_eq_true q4
      replace q4 := mt (nI_eq (a := x1) (b := 0) (by omega) (by omega)).mpr q4
      refine sx_RP.step (pc2 := 66) (ls2 := [(0, .ref 0), (1, .ref (1 + 4 + g)), (2, .ref (1 + 4 + t)), (3, .int (nI n))]) (st2 := [.int (-1)]) (w3 := w) rfl rfl ?_
      refine sx_RP.ret (r := (some (.int (-1)))) rfl rfl ?_
      exact ⟨by rw [nm_l (fun z => q4 ((nI_eq (a := x1) (b := 0) (by omega) (by decide)).mp ((he.2.2.2.2.symm.trans ex3).symm.trans z)))], hI, hO⟩
    · replace q4 := Decidable.not_not.mp (of_decide_eq_false q4)
      replace q4 := (nI_eq (a := x1) (b := 0) (by omega) (by omega)).mp q4
      refine sx_RP.step (pc2 := 32) (ls2 := [(0, .ref 0), (1, .ref (1 + 4 + g)), (2, .ref (1 + 4 + t)), (3, .int (nI n))]) (st2 := [.ref 0]) (w3 := w) rfl rfl ?_
      refine sx_RP.step (pc2 := 33) (ls2 := [(0, .ref 0), (1, .ref (1 + 4 + g)), (2, .ref (1 + 4 + t)), (3, .int (nI n))]) (st2 := [.ref 0, .ref 0]) (w3 := w) rfl rfl ?_
      refine sx_RP.gf (v := .ref 43) rfl rfl hI.1.o0 rfl rfl (show _ = 36 from rfl) ?_
      refine sx_RP.gg (k := 2) hI gAd.t rfl rfl (by decide) (show _ = 39 from rfl) ?_
      rw [he.2.1]
      refine sx_RP.step (pc2 := 40) (ls2 := [(0, .ref 0), (1, .ref (1 + 4 + g)), (2, .ref (1 + 4 + t)), (3, .int (nI n))]) (st2 := [.int (nI n), .int (nI h), .ref 0]) (w3 := w) rfl rfl ?_
      rcases Bool.eq_false_or_eq_true (cbB D h n) with hB | hB
      · refine sx_RP.cu (as := [.ref 0, .int (nI h), .int (nI n)]) (rest2 := []) (st3 := [.int 1]) rfl rfl (sx_inv_v2 (mi := 59) (k := 210) (st := [.int (nI n), .int (nI h), .ref 0]) (w := w) rfl rfl hI.1.o0 rfl rfl rfl) rfl rfl ((by have z := x60 (xs := xs) (d := d + 3) hI hD1 hh (show n ≤ 60 by omega); rw [hB] at z; exact z)) rfl ?_
        refine sx_RP.step (pc2 := 46) (ls2 := [(0, .ref 0), (1, .ref (1 + 4 + g)), (2, .ref (1 + 4 + t)), (3, .int (nI n))]) (st2 := []) (w3 := w) rfl rfl ?_
        refine sx_RP.step (pc2 := 47) (ls2 := [(0, .ref 0), (1, .ref (1 + 4 + g)), (2, .ref (1 + 4 + t)), (3, .int (nI n))]) (st2 := [.int (nI n)]) (w3 := w) rfl rfl ?_
        refine sx_RP.ret (r := (some (.int (nI n)))) rfl rfl ?_
        exact ⟨by rw [nm_y ((he.2.2.2.2.symm.trans ex3).trans (by rw [q4]; rfl)) hB], hI, hO⟩
      · refine sx_RP.cu (as := [.ref 0, .int (nI h), .int (nI n)]) (rest2 := []) (st3 := [.int 0]) rfl rfl (sx_inv_v2 (mi := 59) (k := 210) (st := [.int (nI n), .int (nI h), .ref 0]) (w := w) rfl rfl hI.1.o0 rfl rfl rfl) rfl rfl ((by have z := x60 (xs := xs) (d := d + 3) hI hD1 hh (show n ≤ 60 by omega); rw [hB] at z; exact z)) rfl ?_
        refine sx_RP.step (pc2 := 48) (ls2 := [(0, .ref 0), (1, .ref (1 + 4 + g)), (2, .ref (1 + 4 + t)), (3, .int (nI n))]) (st2 := []) (w3 := w) rfl rfl ?_
        refine sx_RP.step (pc2 := 49) (ls2 := [(0, .ref 0), (1, .ref (1 + 4 + g)), (2, .ref (1 + 4 + t)), (3, .int (nI n))]) (st2 := [.ref 0]) (w3 := w) rfl rfl ?_
        refine sx_RP.gf (v := .ref 1) rfl rfl hI.1.o0 rfl rfl (show _ = 52 from rfl) ?_
        refine sx_RP.step (pc2 := 53) (ls2 := [(0, .ref 0), (1, .ref (1 + 4 + g)), (2, .ref (1 + 4 + t)), (3, .int (nI n))]) (st2 := [.ref 0, .ref 1]) (w3 := w) rfl rfl ?_
        refine sx_RP.gf (v := .ref 43) rfl rfl hI.1.o0 rfl rfl (show _ = 56 from rfl) ?_
        refine sx_RP.callp (as2 := [.ref 1, .ref 43]) (rest2 := []) rfl rfl (sx_inv_v2 (mi := 59) (k := 213) (st := [.ref 43, .ref 1]) (w := w) rfl rfl (hI.1.oC (Or.inl rfl)) rfl rfl rfl) rfl rfl rfl (X44g (d := d + 1) (A := 1) (ga := 43) hI (Or.inl rfl) gAd.t (Or.inr (by decide)) hk hh hy he.1 he.2.1 he.2.2.1) (show _ = 59 from rfl) ?_
        rintro r4 w12 ⟨⟨rfl, hf5, hf6, hf7, hf8, hf9, hf10⟩, hI13, hf11⟩
        show sx_RP _ _ _ _ _ [] _ _
        refine sx_RP.step (pc2 := 62) (ls2 := [(3, .int ((nI n) + 1)), (0, .ref 0), (1, .ref (1 + 4 + g)), (2, .ref (1 + 4 + t))]) (st2 := []) (w3 := w12) rfl rfl ?_
        rw [nI_1 n]
        refine sx_RP.step (pc2 := 15) (ls2 := [(3, .int (nI (n + 1))), (0, .ref 0), (1, .ref (1 + 4 + g)), (2, .ref (1 + 4 + t))]) (st2 := []) (w3 := w12) rfl rfl ?_
        have eT : dgT (fun c => (ia w (1 + 1)).getD c 0) (fun c => b01 (bitL (fj w 1 1) c)) k h y (fi w 43 4) (fi w 43 5) = dgT (gdL l) (wlL l) k h y dn e := by rw [he.2.2.2.1, he.2.2.2.2]; exact dgT_congr hh (by omega) (fun c hc => hRw.gr hc) (fun c hc => hRw.w48 hc)
        obtain ⟨hd, hhd, ehd⟩ := dgT_hd (gr := gdL l) (wl := wlL l) (k := k) (dn := dn) (e := e) hh (show y < 4 by omega)
        rw [eT] at hf5
        rw [eT] at hf6
        rw [eT] at hf7
        rw [ehd] at hf5
        rw [nm_s ((he.2.2.2.2.symm.trans ex3).trans (by rw [q4]; rfl)) hB, ehd, iN_n (by omega)]
        exact sx_RP.ls (sx_lr.cons rfl (sx_lr.cons rfl (sx_lr.cons rfl (sx_lr.cons rfl sx_lr.nil)))) (X59L hR0 hD hk hy q (n + 1) w12 hd _ _ (by omega) hI13 (hO.tr hf11) hhd ⟨hf8, hf5, hf9, hf6, hf7⟩)
set_option maxRecDepth 20000 in
set_option maxHeartbeats 4000000 in
theorem X59 {xs : Option (List Int32)} {d : Nat} {w : List sx_C} (hI : WI w) (l : List Int32) (hR : rel w 1 l) {g t n : Nat} (hn : n ≤ 10) (en : l.getD 1 0 = nI n) (hgn : g < n) (htn : t < n) : sx_RP xs (d + 5) 59 0 (lv_args 0 [.ref 0, .ref (1 + 4 + g), .ref (1 + 4 + t)]) [] w (fun r w2 => r = some (.int (nmV l g t)) ∧ WI w2 ∧ ∀ a, a ≠ 43 → a ≠ 100 → a ≠ 101 → w2[a]? = w[a]?) := by
  have hg : g < 10 := by omega
  have ht : t < 10 := by omega
  obtain ⟨k9, hk9, ek⟩ : inR (fi w (1 + 4 + g) 0) 5 := hI.gk (k := 0) (gAd.of (Or.inl rfl) hg) (by decide)
  obtain ⟨h9, hh9, eh⟩ : inR (fi w (1 + 4 + g) 2) 47 := hI.gk (k := 2) (gAd.of (Or.inl rfl) hg) (by decide)
  obtain ⟨k8, hk8, e0⟩ : inR (fi w (1 + 4 + t) 0) 5 := hI.gk (k := 0) (gAd.of (Or.inl rfl) ht) (by decide)
  obtain ⟨h8, hh8, e2⟩ : inR (fi w (1 + 4 + t) 2) 47 := hI.gk (k := 2) (gAd.of (Or.inl rfl) ht) (by decide)
  obtain ⟨y8, hy8, e3⟩ : inR (fi w (1 + 4 + t) 3) 3 := hI.gk (k := 3) (gAd.of (Or.inl rfl) ht) (by decide)
  refine sx_RP.step (pc2 := 1) (ls2 := [(0, .ref 0), (1, .ref (1 + 4 + g)), (2, .ref (1 + 4 + t))]) (st2 := [.ref 0]) (w3 := w) rfl rfl ?_
  refine sx_RP.step (pc2 := 2) (ls2 := [(0, .ref 0), (1, .ref (1 + 4 + g)), (2, .ref (1 + 4 + t))]) (st2 := [.ref (1 + 4 + g), .ref 0]) (w3 := w) rfl rfl ?_
  refine sx_RP.callp (as2 := [.ref 0, .ref (1 + 4 + g)]) (rest2 := []) rfl rfl (sx_inv_v2 (mi := 59) (k := 189) (st := [.ref (1 + 4 + g), .ref 0]) (w := w) rfl rfl hI.1.o0 rfl rfl rfl) rfl rfl rfl (X56 (d := d) hI l hR hg (show k9 ≤ 5 by omega) ek (show h9 < 48 by omega) eh) (show _ = 5 from rfl) ?_
  rintro r4 w3 ⟨⟨rfl, hd1⟩, hI4, hf2⟩
  show sx_RP _ _ _ _ _ [] _ _
  refine sx_RP.step (pc2 := 6) (ls2 := [(0, .ref 0), (1, .ref (1 + 4 + g)), (2, .ref (1 + 4 + t))]) (st2 := [.ref 0]) (w3 := w3) rfl rfl ?_
  refine sx_RP.gf (v := .ref 43) rfl rfl hI4.1.o0 rfl rfl (show _ = 9 from rfl) ?_
  refine sx_RP.step (pc2 := 10) (ls2 := [(0, .ref 0), (1, .ref (1 + 4 + g)), (2, .ref (1 + 4 + t))]) (st2 := [.ref (1 + 4 + t), .ref 43]) (w3 := w3) rfl rfl ?_
  refine sx_RP.callp (as2 := [.ref 43, .ref (1 + 4 + t)]) (rest2 := []) rfl rfl (sx_inv_v2 (mi := 59) (k := 208) (st := [.ref (1 + 4 + t), .ref 43]) (w := w3) rfl rfl (hI4.1.oG gAd.t) rfl rfl rfl) rfl rfl rfl (X51 hI4 gAd.t (gAd.of (Or.inl rfl) (show t < 10 by omega)) (by omega)) (show _ = 13 from rfl) ?_
  rintro r4 w7 ⟨⟨rfl, hf5⟩, hI8, hs6⟩
  show sx_RP _ _ _ _ _ [] _ _
  refine sx_RP.step (pc2 := 14) (ls2 := [(0, .ref 0), (1, .ref (1 + 4 + g)), (2, .ref (1 + 4 + t))]) (st2 := [.int 0]) (w3 := w7) rfl rfl ?_
  refine sx_RP.step (pc2 := 15) (ls2 := [(3, .int 0), (0, .ref 0), (1, .ref (1 + 4 + g)), (2, .ref (1 + 4 + t))]) (st2 := []) (w3 := w7) rfl rfl ?_
  have hRA : rel w3 1 l := hR.same hI (Or.inl rfl) (fun a h1 h2 => hf2 a (by omega) (by omega))
  have hRB : rel w7 1 l := hRA.same hI4 (Or.inl rfl) (fun a h1 h2 => hs6 a (by omega))
  have hDB : ∀ c, c < 48 → (ia w7 101).getD c 0 = nI (dst (dgK l k9) h9 c) ∧ dst (dgK l k9) h9 c ≤ 1000000 := fun c hc => ⟨by rw [ia_of (hs6 101 (by decide))]; exact hd1 c hc, (dst_slt (dgK_kfr (show k9 < 6 by omega) (GRo.rel hI hR) hR.wb) (show h9 < 48 by omega)).2.1 c hc⟩
  have ff : ∀ k, k < 6 → fi w7 43 k = fi w (1 + 4 + t) k := fun k hk => (hf5 k hk).trans (fi_same k (hf2 _ (by omega) (by omega)))
  have gg : ∀ k, k < 6 → fi w (1 + 4 + t) k = gF l t k := fun k hk => hR.ga (i := t) (by rw [en, iN_n (by omega)]; omega) hk
  have ga : ∀ k, k < 6 → fi w (1 + 4 + g) k = gF l g k := fun k hk => hR.ga (i := g) (by rw [en, iN_n (by omega)]; omega) hk
  have eV := nmV_at (l := l) (g := g) (t := t) (show k9 < 6 by omega) (show h9 < 48 by omega) ((ga 0 (by decide)).symm.trans ek) ((ga 2 (by decide)).symm.trans eh) (show k8 < 6 by omega) (show h8 < 48 by omega) (show y8 < 4 by omega) ((gg 0 (by decide)).symm.trans e0) ((gg 2 (by decide)).symm.trans e2) ((gg 3 (by decide)).symm.trans e3)
  rw [eV]
  refine sx_RP.ls (sx_lr.cons rfl (sx_lr.cons rfl (sx_lr.cons rfl (sx_lr.cons rfl sx_lr.nil)))) ((X59L (d := d) (g := g) (t := t) ⟨hRB, hI8⟩ hDB (show k8 ≤ 5 by omega) (show y8 ≤ 3 by omega) 61 0 w7 h8 (gF l t 4) (gF l t 5) (by omega) hI8 (fun _ _ => rfl) (by omega) ⟨(ff 0 (by decide)).trans e0, (ff 2 (by decide)).trans e2, (ff 3 (by decide)).trans e3, (ff 4 (by decide)).trans (gg 4 (by decide)), (ff 5 (by decide)).trans (gg 5 (by decide))⟩).mono9 (fun r w2 z => ⟨z.1, z.2.1, fun a h1 h2 h3 => ?_⟩))
  exact (z.2.2 a h1).trans ((hs6 a h1).trans (hf2 a h2 h3))
set_option maxRecDepth 20000 in
set_option maxHeartbeats 4000000 in
theorem X61L {xs : Option (List Int32)} {d n t : Nat} {w0 : List sx_C} {l : List Int32} (hR0 : rel w0 1 l ∧ WI w0) (hn : n ≤ 10) (en : l.getD 1 0 = nI n) (ht : t < n) : ∀ (q j : Nat) (w : List sx_C) (s b : Int32), j + q = n → WI w → (∀ a, a ≠ 43 → a ≠ 100 → a ≠ 101 → w[a]? = w0[a]?) → (b = -1 ∨ ∃ k, k < 48 ∧ b = nI k) → sx_RP xs (d + 7) 61 64 [(0, .ref 0), (1, .int (nI t)), (2, .ref (1 + 4 + t)), (3, .int s), (4, .int b), (5, .int (nI j))] [] w (fun r w2 => r = some (.int (mnA (whF (whV l t) q j s b))) ∧ WI w2)
  | 0, j, w, s, b, hj, hI, hO, hb => by
    obtain rfl : j = n := by omega
    have hRw : rel w 1 l := hR0.1.same hR0.2 (Or.inl rfl) (fun a h1 h2 => hO a (by omega) (by omega) (by omega))
    have en1 : fi w 1 3 = nI j := hRw.many.trans en
    rcases hb with rfl | ⟨k, hk, rfl⟩
    · refine sx_RP.step (pc2 := 66) (ls2 := [(0, .ref 0), (1, .int (nI t)), (2, .ref (1 + 4 + t)), (3, .int s), (4, .int (-1)), (5, .int (nI j))]) (st2 := [.int (nI j)]) (w3 := w) rfl rfl ?_
      refine sx_RP.step (pc2 := 67) (ls2 := [(0, .ref 0), (1, .int (nI t)), (2, .ref (1 + 4 + t)), (3, .int s), (4, .int (-1)), (5, .int (nI j))]) (st2 := [.ref 0, .int (nI j)]) (w3 := w) rfl rfl ?_
      refine sx_RP.gf (v := .ref 1) rfl rfl hI.1.o0 rfl rfl (show _ = 70 from rfl) ?_
      refine sx_RP.gc (k := 3) hI (Or.inl rfl) rfl rfl (by omega) (show _ = 73 from rfl) ?_
      rw [en1]
      refine sx_RP.br (p1 := 135) (l1 := [(0, .ref 0), (1, .int (nI t)), (2, .ref (1 + 4 + t)), (3, .int s), (4, .int (-1)), (5, .int (nI j))]) (s1 := []) (v1 := w) rfl rfl (fun _ => ?_) (fun q => absurd (nI_le (a := j) (b := j) (by omega) (by omega)) (of_decide_eq_false q))
      refine sx_RP.step (pc2 := 137) (ls2 := [(0, .ref 0), (1, .int (nI t)), (2, .ref (1 + 4 + t)), (3, .int s), (4, .int (-1)), (5, .int (nI j))]) (st2 := [.int (-1)]) (w3 := w) rfl rfl ?_
      refine sx_RP.step (pc2 := 138) (ls2 := [(0, .ref 0), (1, .int (nI t)), (2, .ref (1 + 4 + t)), (3, .int s), (4, .int (-1)), (5, .int (nI j))]) (st2 := [.int (-1), .int (-1)]) (w3 := w) rfl rfl ?_
      refine sx_RP.step (pc2 := 141) (ls2 := [(0, .ref 0), (1, .int (nI t)), (2, .ref (1 + 4 + t)), (3, .int s), (4, .int (-1)), (5, .int (nI j))]) (st2 := []) (w3 := w) rfl rfl ?_
      refine sx_RP.step (pc2 := 142) (ls2 := [(0, .ref 0), (1, .int (nI t)), (2, .ref (1 + 4 + t)), (3, .int s), (4, .int (-1)), (5, .int (nI j))]) (st2 := [.ref 0]) (w3 := w) rfl rfl ?_
      refine sx_RP.step (pc2 := 144) (ls2 := [(0, .ref 0), (1, .int (nI t)), (2, .ref (1 + 4 + t)), (3, .int s), (4, .int (-1)), (5, .int (nI j))]) (st2 := [.int (-1000000004), .ref 0]) (w3 := w) rfl rfl ?_
      refine sx_RP.callp (as2 := [.ref 0, .int (-1000000004)]) (rest2 := []) rfl rfl (sx_inv_v2 (mi := 61) (k := 78) (st := [.int (-1000000004), .ref 0]) (w := w) rfl rfl hI.1.o0 rfl rfl rfl) rfl rfl rfl (S9_3 hI) (show _ = 147 from rfl) ?_
      rintro r4 w2 ⟨rfl, hI3, hs1⟩
      show sx_RP _ _ _ _ _ [.int (-1000000004)] _ _
      refine sx_RP.step (pc2 := 152) (ls2 := [(0, .ref 0), (1, .int (nI t)), (2, .ref (1 + 4 + t)), (3, .int s), (4, .int (-1)), (5, .int (nI j))]) (st2 := [.int (-1000000004)]) (w3 := w2) rfl rfl ?_
      refine sx_RP.ret (r := (some (.int (-1000000004)))) rfl rfl ?_
      exact ⟨rfl, hI3⟩
    · refine sx_RP.step (pc2 := 66) (ls2 := [(0, .ref 0), (1, .int (nI t)), (2, .ref (1 + 4 + t)), (3, .int s), (4, .int (nI k)), (5, .int (nI j))]) (st2 := [.int (nI j)]) (w3 := w) rfl rfl ?_
      refine sx_RP.step (pc2 := 67) (ls2 := [(0, .ref 0), (1, .int (nI t)), (2, .ref (1 + 4 + t)), (3, .int s), (4, .int (nI k)), (5, .int (nI j))]) (st2 := [.ref 0, .int (nI j)]) (w3 := w) rfl rfl ?_
      refine sx_RP.gf (v := .ref 1) rfl rfl hI.1.o0 rfl rfl (show _ = 70 from rfl) ?_
      refine sx_RP.gc (k := 3) hI (Or.inl rfl) rfl rfl (by omega) (show _ = 73 from rfl) ?_
      rw [en1]
      refine sx_RP.br (p1 := 135) (l1 := [(0, .ref 0), (1, .int (nI t)), (2, .ref (1 + 4 + t)), (3, .int s), (4, .int (nI k)), (5, .int (nI j))]) (s1 := []) (v1 := w) rfl rfl (fun _ => ?_) (fun q => absurd (nI_le (a := j) (b := j) (by omega) (by omega)) (of_decide_eq_false q))
      refine sx_RP.step (pc2 := 137) (ls2 := [(0, .ref 0), (1, .int (nI t)), (2, .ref (1 + 4 + t)), (3, .int s), (4, .int (nI k)), (5, .int (nI j))]) (st2 := [.int (nI k)]) (w3 := w) rfl rfl ?_
      refine sx_RP.step (pc2 := 138) (ls2 := [(0, .ref 0), (1, .int (nI t)), (2, .ref (1 + 4 + t)), (3, .int s), (4, .int (nI k)), (5, .int (nI j))]) (st2 := [.int (-1), .int (nI k)]) (w3 := w) rfl rfl ?_
      refine sx_RP.br (p1 := 150) (l1 := [(0, .ref 0), (1, .int (nI t)), (2, .ref (1 + 4 + t)), (3, .int s), (4, .int (nI k)), (5, .int (nI j))]) (s1 := []) (v1 := w) rfl rfl (fun _ => ?_) (fun q => absurd (nI_ne1 (by omega)) (of_decide_eq_false q))
      refine sx_RP.step (pc2 := 152) (ls2 := [(0, .ref 0), (1, .int (nI t)), (2, .ref (1 + 4 + t)), (3, .int s), (4, .int (nI k)), (5, .int (nI j))]) (st2 := [.int (nI k)]) (w3 := w) rfl rfl ?_
      refine sx_RP.ret (r := (some (.int (nI k)))) rfl rfl ?_
      exact ⟨by show _ = some (Value.int (mnA (nI k))); rw [mnA_k hk], hI⟩
  | q + 1, j, w, s, b, hj, hI, hO, hb => by
    have hRw : rel w 1 l := hR0.1.same hR0.2 (Or.inl rfl) (fun a h1 h2 => hO a (by omega) (by omega) (by omega))
    have en1 : fi w 1 3 = nI n := hRw.many.trans en
    refine sx_RP.step (pc2 := 66) (ls2 := [(0, .ref 0), (1, .int (nI t)), (2, .ref (1 + 4 + t)), (3, .int s), (4, .int b), (5, .int (nI j))]) (st2 := [.int (nI j)]) (w3 := w) rfl rfl ?_
    refine sx_RP.step (pc2 := 67) (ls2 := [(0, .ref 0), (1, .int (nI t)), (2, .ref (1 + 4 + t)), (3, .int s), (4, .int b), (5, .int (nI j))]) (st2 := [.ref 0, .int (nI j)]) (w3 := w) rfl rfl ?_
    refine sx_RP.gf (v := .ref 1) rfl rfl hI.1.o0 rfl rfl (show _ = 70 from rfl) ?_
    refine sx_RP.gc (k := 3) hI (Or.inl rfl) rfl rfl (by omega) (show _ = 73 from rfl) ?_
    rw [en1]
    refine sx_RP.br (p2 := 76) (l2 := [(0, .ref 0), (1, .int (nI t)), (2, .ref (1 + 4 + t)), (3, .int s), (4, .int b), (5, .int (nI j))]) (s2 := []) (v2 := w) rfl rfl (fun q => absurd (of_decide_eq_true q) (fun z => absurd ((nI_leI (a := n) (b := j) (by omega) (by omega)).mp z) (by omega))) (fun _ => ?_)
    refine sx_RP.step (pc2 := 77) (ls2 := [(0, .ref 0), (1, .int (nI t)), (2, .ref (1 + 4 + t)), (3, .int s), (4, .int b), (5, .int (nI j))]) (st2 := [.ref 0]) (w3 := w) rfl rfl ?_
    refine sx_RP.gf (v := .ref 1) rfl rfl hI.1.o0 rfl rfl (show _ = 80 from rfl) ?_
    refine sx_RP.gref (k := 2) (b := 3) hI (Or.inl rfl) rfl rfl (by omega) (show _ = 83 from rfl) ?_
    refine sx_RP.step (pc2 := 85) (ls2 := [(0, .ref 0), (1, .int (nI t)), (2, .ref (1 + 4 + t)), (3, .int s), (4, .int b), (5, .int (nI j))]) (st2 := [.int (nI j), .ref 3]) (w3 := w) rfl rfl ?_
    refine sx_RP.ald (v := .ref (1 + 4 + j)) rfl (hI.1.aG (Or.inl rfl)) rfl (grA_at (show j < 10 by omega)) (show _ = 86 from rfl) ?_
    refine sx_RP.step (pc2 := 88) (ls2 := [(6, .ref (1 + 4 + j)), (0, .ref 0), (1, .int (nI t)), (2, .ref (1 + 4 + t)), (3, .int s), (4, .int b), (5, .int (nI j))]) (st2 := []) (w3 := w) rfl rfl ?_
    refine sx_RP.step (pc2 := 90) (ls2 := [(6, .ref (1 + 4 + j)), (0, .ref 0), (1, .int (nI t)), (2, .ref (1 + 4 + t)), (3, .int s), (4, .int b), (5, .int (nI j))]) (st2 := [.ref (1 + 4 + j)]) (w3 := w) rfl rfl ?_
    refine sx_RP.step (pc2 := 91) (ls2 := [(6, .ref (1 + 4 + j)), (0, .ref 0), (1, .int (nI t)), (2, .ref (1 + 4 + t)), (3, .int s), (4, .int b), (5, .int (nI j))]) (st2 := [.int 1, .ref (1 + 4 + j)]) (w3 := w) rfl rfl ?_
    rcases Decidable.em (gF l j 1 = 1 ∧ gF l j 5 = 0) with hclf1 | hclf1
    · refine sx_RP.cu (as := [.ref (1 + 4 + j), .int 1]) (rest2 := []) (st3 := [.int 1]) rfl rfl (sx_inv_v2 (mi := 61) (k := 186) (st := [.int 1, .ref (1 + 4 + j)]) (w := w) rfl rfl (hI.1.oG (gAd.of (Or.inl rfl) (show j < 10 by omega))) rfl rfl rfl) rfl rfl (x43y hI (gAd.of (Or.inl rfl) (show j < 10 by omega)) ⟨(hRw.ga (by rw [en, iN_n (by omega)]; omega) (by decide)).trans hclf1.1, (hRw.ga (by rw [en, iN_n (by omega)]; omega) (by decide)).trans hclf1.2⟩) rfl ?_
      refine sx_RP.step (pc2 := 97) (ls2 := [(6, .ref (1 + 4 + j)), (0, .ref 0), (1, .int (nI t)), (2, .ref (1 + 4 + t)), (3, .int s), (4, .int b), (5, .int (nI j))]) (st2 := []) (w3 := w) rfl rfl ?_
      refine sx_RP.step (pc2 := 98) (ls2 := [(6, .ref (1 + 4 + j)), (0, .ref 0), (1, .int (nI t)), (2, .ref (1 + 4 + t)), (3, .int s), (4, .int b), (5, .int (nI j))]) (st2 := [.ref 0]) (w3 := w) rfl rfl ?_
      refine sx_RP.step (pc2 := 100) (ls2 := [(6, .ref (1 + 4 + j)), (0, .ref 0), (1, .int (nI t)), (2, .ref (1 + 4 + t)), (3, .int s), (4, .int b), (5, .int (nI j))]) (st2 := [.ref (1 + 4 + j), .ref 0]) (w3 := w) rfl rfl ?_
      refine sx_RP.step (pc2 := 101) (ls2 := [(6, .ref (1 + 4 + j)), (0, .ref 0), (1, .int (nI t)), (2, .ref (1 + 4 + t)), (3, .int s), (4, .int b), (5, .int (nI j))]) (st2 := [.ref (1 + 4 + t), .ref (1 + 4 + j), .ref 0]) (w3 := w) rfl rfl ?_
      refine sx_RP.callp (as2 := [.ref 0, .ref (1 + 4 + j), .ref (1 + 4 + t)]) (rest2 := []) rfl rfl (sx_inv_v2 (mi := 61) (k := 194) (st := [.ref (1 + 4 + t), .ref (1 + 4 + j), .ref 0]) (w := w) rfl rfl hI.1.o0 rfl rfl rfl) rfl rfl rfl (X59 (d := d + 1) hI l hRw hn en (show j < n by omega) (show t < n by omega)) (show _ = 104 from rfl) ?_
      rintro r4 w2 ⟨rfl, hI3, hf1⟩
      show sx_RP _ _ _ _ _ [.int (nmV l j t)] _ _
      refine sx_RP.step (pc2 := 108) (ls2 := [(6, .ref (1 + 4 + j)), (0, .ref 0), (1, .int (nI t)), (2, .ref (1 + 4 + t)), (3, .int s), (4, .int b), (5, .int (nI j))]) (st2 := [.int (nmV l j t)]) (w3 := w2) rfl rfl ?_
      refine sx_RP.step (pc2 := 110) (ls2 := [(7, .int (nmV l j t)), (6, .ref (1 + 4 + j)), (0, .ref 0), (1, .int (nI t)), (2, .ref (1 + 4 + t)), (3, .int s), (4, .int b), (5, .int (nI j))]) (st2 := []) (w3 := w2) rfl rfl ?_
      refine sx_RP.step (pc2 := 112) (ls2 := [(7, .int (nmV l j t)), (6, .ref (1 + 4 + j)), (0, .ref 0), (1, .int (nI t)), (2, .ref (1 + 4 + t)), (3, .int s), (4, .int b), (5, .int (nI j))]) (st2 := [.int (nmV l j t)]) (w3 := w2) rfl rfl ?_
      refine sx_RP.step (pc2 := 113) (ls2 := [(7, .int (nmV l j t)), (6, .ref (1 + 4 + j)), (0, .ref 0), (1, .int (nI t)), (2, .ref (1 + 4 + t)), (3, .int s), (4, .int b), (5, .int (nI j))]) (st2 := [.int (-1), .int (nmV l j t)]) (w3 := w2) rfl rfl ?_
      refine sx_RP.br (p1 := 129) (l1 := [(7, .int (nmV l j t)), (6, .ref (1 + 4 + j)), (0, .ref 0), (1, .int (nI t)), (2, .ref (1 + 4 + t)), (3, .int s), (4, .int b), (5, .int (nI j))]) (s1 := []) (v1 := w2) (p2 := 116) (l2 := [(7, .int (nmV l j t)), (6, .ref (1 + 4 + j)), (0, .ref 0), (1, .int (nI t)), (2, .ref (1 + 4 + t)), (3, .int s), (4, .int b), (5, .int (nI j))]) (s2 := []) (v2 := w2) rfl rfl (fun q4 => ?_) (fun q4 => ?_)
      · replace q4 := of_decide_eq_true q4
        refine sx_RP.step (pc2 := 132) (ls2 := [(5, .int ((nI j) + 1)), (7, .int (nmV l j t)), (6, .ref (1 + 4 + j)), (0, .ref 0), (1, .int (nI t)), (2, .ref (1 + 4 + t)), (3, .int s), (4, .int b)]) (st2 := []) (w3 := w2) rfl rfl ?_
        rw [nI_1 j]
        refine sx_RP.step (pc2 := 64) (ls2 := [(5, .int (nI (j + 1))), (7, .int (nmV l j t)), (6, .ref (1 + 4 + j)), (0, .ref 0), (1, .int (nI t)), (2, .ref (1 + 4 + t)), (3, .int s), (4, .int b)]) (st2 := []) (w3 := w2) rfl rfl ?_
        have eV : whV l t j = nmV l j t := if_pos hclf1
        rw [wh_1 (f := whV l t) (eV.trans q4)]
        exact sx_RP.ls (sx_lr.cons rfl (sx_lr.cons rfl (sx_lr.cons rfl (sx_lr.cons rfl (sx_lr.cons rfl (sx_lr.cons rfl sx_lr.nil)))))) (X61L hR0 hn en ht q (j + 1) w2 s b (by omega) hI3 (fun a h1 h2 h3 => (hf1 a h1 h2 h3).trans (hO a h1 h2 h3)) hb)
      · replace q4 := of_decide_eq_false q4
        refine sx_RP.step (pc2 := 118) (ls2 := [(7, .int (nmV l j t)), (6, .ref (1 + 4 + j)), (0, .ref 0), (1, .int (nI t)), (2, .ref (1 + 4 + t)), (3, .int s), (4, .int b), (5, .int (nI j))]) (st2 := [.int (nmV l j t)]) (w3 := w2) rfl rfl ?_
        refine sx_RP.step (pc2 := 119) (ls2 := [(7, .int (nmV l j t)), (6, .ref (1 + 4 + j)), (0, .ref 0), (1, .int (nI t)), (2, .ref (1 + 4 + t)), (3, .int s), (4, .int b), (5, .int (nI j))]) (st2 := [.int s, .int (nmV l j t)]) (w3 := w2) rfl rfl ?_
        refine sx_RP.br (p1 := 129) (l1 := [(7, .int (nmV l j t)), (6, .ref (1 + 4 + j)), (0, .ref 0), (1, .int (nI t)), (2, .ref (1 + 4 + t)), (3, .int s), (4, .int b), (5, .int (nI j))]) (s1 := []) (v1 := w2) (p2 := 122) (l2 := [(7, .int (nmV l j t)), (6, .ref (1 + 4 + j)), (0, .ref 0), (1, .int (nI t)), (2, .ref (1 + 4 + t)), (3, .int s), (4, .int b), (5, .int (nI j))]) (s2 := []) (v2 := w2) rfl rfl (fun q5 => ?_) (fun q5 => ?_)
        · replace q5 := of_decide_eq_true q5
          refine sx_RP.step (pc2 := 132) (ls2 := [(5, .int ((nI j) + 1)), (7, .int (nmV l j t)), (6, .ref (1 + 4 + j)), (0, .ref 0), (1, .int (nI t)), (2, .ref (1 + 4 + t)), (3, .int s), (4, .int b)]) (st2 := []) (w3 := w2) rfl rfl ?_
          rw [nI_1 j]
          refine sx_RP.step (pc2 := 64) (ls2 := [(5, .int (nI (j + 1))), (7, .int (nmV l j t)), (6, .ref (1 + 4 + j)), (0, .ref 0), (1, .int (nI t)), (2, .ref (1 + 4 + t)), (3, .int s), (4, .int b)]) (st2 := []) (w3 := w2) rfl rfl ?_
          have eV : whV l t j = nmV l j t := if_pos hclf1
          rw [wh_2 (f := whV l t) (by rw [eV]; exact Int32.not_lt.mpr q5)]
          exact sx_RP.ls (sx_lr.cons rfl (sx_lr.cons rfl (sx_lr.cons rfl (sx_lr.cons rfl (sx_lr.cons rfl (sx_lr.cons rfl sx_lr.nil)))))) (X61L hR0 hn en ht q (j + 1) w2 s b (by omega) hI3 (fun a h1 h2 h3 => (hf1 a h1 h2 h3).trans (hO a h1 h2 h3)) hb)
        · replace q5 := of_decide_eq_false q5
          refine sx_RP.step (pc2 := 124) (ls2 := [(7, .int (nmV l j t)), (6, .ref (1 + 4 + j)), (0, .ref 0), (1, .int (nI t)), (2, .ref (1 + 4 + t)), (3, .int s), (4, .int b), (5, .int (nI j))]) (st2 := [.int (nmV l j t)]) (w3 := w2) rfl rfl ?_
          refine sx_RP.step (pc2 := 125) (ls2 := [(3, .int (nmV l j t)), (7, .int (nmV l j t)), (6, .ref (1 + 4 + j)), (0, .ref 0), (1, .int (nI t)), (2, .ref (1 + 4 + t)), (4, .int b), (5, .int (nI j))]) (st2 := []) (w3 := w2) rfl rfl ?_
          refine sx_RP.step (pc2 := 127) (ls2 := [(3, .int (nmV l j t)), (7, .int (nmV l j t)), (6, .ref (1 + 4 + j)), (0, .ref 0), (1, .int (nI t)), (2, .ref (1 + 4 + t)), (4, .int b), (5, .int (nI j))]) (st2 := [.int (nI j)]) (w3 := w2) rfl rfl ?_
          refine sx_RP.step (pc2 := 129) (ls2 := [(4, .int (nI j)), (3, .int (nmV l j t)), (7, .int (nmV l j t)), (6, .ref (1 + 4 + j)), (0, .ref 0), (1, .int (nI t)), (2, .ref (1 + 4 + t)), (5, .int (nI j))]) (st2 := []) (w3 := w2) rfl rfl ?_
          refine sx_RP.step (pc2 := 132) (ls2 := [(5, .int ((nI j) + 1)), (4, .int (nI j)), (3, .int (nmV l j t)), (7, .int (nmV l j t)), (6, .ref (1 + 4 + j)), (0, .ref 0), (1, .int (nI t)), (2, .ref (1 + 4 + t))]) (st2 := []) (w3 := w2) rfl rfl ?_
          rw [nI_1 j]
          refine sx_RP.step (pc2 := 64) (ls2 := [(5, .int (nI (j + 1))), (4, .int (nI j)), (3, .int (nmV l j t)), (7, .int (nmV l j t)), (6, .ref (1 + 4 + j)), (0, .ref 0), (1, .int (nI t)), (2, .ref (1 + 4 + t))]) (st2 := []) (w3 := w2) rfl rfl ?_
          have eV : whV l t j = nmV l j t := if_pos hclf1
          rw [wh_y (f := whV l t) (by rw [eV]; exact q4) (by rw [eV]; exact Int32.not_le.mp q5), eV]
          exact sx_RP.ls (sx_lr.cons rfl (sx_lr.cons rfl (sx_lr.cons rfl (sx_lr.cons rfl (sx_lr.cons rfl (sx_lr.cons rfl sx_lr.nil)))))) (X61L hR0 hn en ht q (j + 1) w2 _ _ (by omega) hI3 (fun a h1 h2 h3 => (hf1 a h1 h2 h3).trans (hO a h1 h2 h3)) (Or.inr ⟨j, by omega, rfl⟩))
    · refine sx_RP.cu (as := [.ref (1 + 4 + j), .int 1]) (rest2 := []) (st3 := [.int 0]) rfl rfl (sx_inv_v2 (mi := 61) (k := 186) (st := [.int 1, .ref (1 + 4 + j)]) (w := w) rfl rfl (hI.1.oG (gAd.of (Or.inl rfl) (show j < 10 by omega))) rfl rfl rfl) rfl rfl (x43n hI (gAd.of (Or.inl rfl) (show j < 10 by omega)) (fun z => hclf1 ⟨(hRw.ga (by rw [en, iN_n (by omega)]; omega) (by decide)).symm.trans z.1, (hRw.ga (by rw [en, iN_n (by omega)]; omega) (by decide)).symm.trans z.2⟩)) rfl ?_
      refine sx_RP.step (pc2 := 107) (ls2 := [(6, .ref (1 + 4 + j)), (0, .ref 0), (1, .int (nI t)), (2, .ref (1 + 4 + t)), (3, .int s), (4, .int b), (5, .int (nI j))]) (st2 := []) (w3 := w) rfl rfl ?_
      refine sx_RP.step (pc2 := 108) (ls2 := [(6, .ref (1 + 4 + j)), (0, .ref 0), (1, .int (nI t)), (2, .ref (1 + 4 + t)), (3, .int s), (4, .int b), (5, .int (nI j))]) (st2 := [.int (-1)]) (w3 := w) rfl rfl ?_
      refine sx_RP.step (pc2 := 110) (ls2 := [(7, .int (-1)), (6, .ref (1 + 4 + j)), (0, .ref 0), (1, .int (nI t)), (2, .ref (1 + 4 + t)), (3, .int s), (4, .int b), (5, .int (nI j))]) (st2 := []) (w3 := w) rfl rfl ?_
      refine sx_RP.step (pc2 := 112) (ls2 := [(7, .int (-1)), (6, .ref (1 + 4 + j)), (0, .ref 0), (1, .int (nI t)), (2, .ref (1 + 4 + t)), (3, .int s), (4, .int b), (5, .int (nI j))]) (st2 := [.int (-1)]) (w3 := w) rfl rfl ?_
      refine sx_RP.step (pc2 := 113) (ls2 := [(7, .int (-1)), (6, .ref (1 + 4 + j)), (0, .ref 0), (1, .int (nI t)), (2, .ref (1 + 4 + t)), (3, .int s), (4, .int b), (5, .int (nI j))]) (st2 := [.int (-1), .int (-1)]) (w3 := w) rfl rfl ?_
      refine sx_RP.step (pc2 := 129) (ls2 := [(7, .int (-1)), (6, .ref (1 + 4 + j)), (0, .ref 0), (1, .int (nI t)), (2, .ref (1 + 4 + t)), (3, .int s), (4, .int b), (5, .int (nI j))]) (st2 := []) (w3 := w) rfl rfl ?_
      refine sx_RP.step (pc2 := 132) (ls2 := [(5, .int ((nI j) + 1)), (7, .int (-1)), (6, .ref (1 + 4 + j)), (0, .ref 0), (1, .int (nI t)), (2, .ref (1 + 4 + t)), (3, .int s), (4, .int b)]) (st2 := []) (w3 := w) rfl rfl ?_
      rw [nI_1 j]
      refine sx_RP.step (pc2 := 64) (ls2 := [(5, .int (nI (j + 1))), (7, .int (-1)), (6, .ref (1 + 4 + j)), (0, .ref 0), (1, .int (nI t)), (2, .ref (1 + 4 + t)), (3, .int s), (4, .int b)]) (st2 := []) (w3 := w) rfl rfl ?_
      rw [wh_1 (f := whV l t) (show whV l t j = -1 from if_neg hclf1)]
      exact sx_RP.ls (sx_lr.cons rfl (sx_lr.cons rfl (sx_lr.cons rfl (sx_lr.cons rfl (sx_lr.cons rfl (sx_lr.cons rfl sx_lr.nil)))))) (X61L hR0 hn en ht q (j + 1) w s b (by omega) hI hO hb)
set_option maxRecDepth 20000 in
set_option maxHeartbeats 4000000 in
theorem A61 {xs : Option (List Int32)} {d : Nat} {w : List sx_C} (hI : WI w) (l : List Int32) (hR : rel w 1 l) (a1 : Int32) : sx_RP xs (d + 7) 61 0 (lv_args 0 [.ref 0, .int a1]) [] w (fun r w2 => r = some (.int (whoA l a1)) ∧ WI w2) := by
  obtain ⟨n, hn, en⟩ := hR.n10 hI (Or.inl rfl)
  have en0 := hR.many.trans en
  refine sx_RP.step (pc2 := 1) (ls2 := [(0, .ref 0), (1, .int a1)]) (st2 := [.ref 0]) (w3 := w) rfl rfl ?_
  refine sx_RP.gf (v := .ref 1) rfl rfl hI.1.o0 rfl rfl (show _ = 4 from rfl) ?_
  refine sx_RP.step (pc2 := 5) (ls2 := [(0, .ref 0), (1, .int a1)]) (st2 := [.int a1, .ref 1]) (w3 := w) rfl rfl ?_
  rcases Decidable.em (0 ≤ a1 ∧ a1 < nI n) with c1 | c1
  · obtain ⟨x2, hx3, rfl⟩ := idx_get c1 (by omega)
    refine sx_RP.cu (as := [.ref 1, .int (nI x2)]) (rest2 := []) (st3 := [.int 1]) rfl rfl (sx_inv_v2 (mi := 61) (k := 120) (st := [.int (nI x2), .ref 1]) (w := w) rfl rfl (hI.1.oC (Or.inl rfl)) rfl rfl rfl) rfl rfl (p27y hI (Or.inl rfl) en0 hn c1) rfl ?_
    refine sx_RP.step (pc2 := 18) (ls2 := [(0, .ref 0), (1, .int (nI x2))]) (st2 := []) (w3 := w) rfl rfl ?_
    refine sx_RP.step (pc2 := 19) (ls2 := [(0, .ref 0), (1, .int (nI x2))]) (st2 := [.ref 0]) (w3 := w) rfl rfl ?_
    refine sx_RP.gf (v := .ref 1) rfl rfl hI.1.o0 rfl rfl (show _ = 22 from rfl) ?_
    refine sx_RP.gref (k := 2) (b := 3) hI (Or.inl rfl) rfl rfl (by omega) (show _ = 25 from rfl) ?_
    refine sx_RP.step (pc2 := 26) (ls2 := [(0, .ref 0), (1, .int (nI x2))]) (st2 := [.int (nI x2), .ref 3]) (w3 := w) rfl rfl ?_
    refine sx_RP.ald (v := .ref (1 + 4 + x2)) rfl (hI.1.aG (Or.inl rfl)) rfl (grA_at (show x2 < 10 by omega)) (show _ = 27 from rfl) ?_
    refine sx_RP.step (pc2 := 28) (ls2 := [(2, .ref (1 + 4 + x2)), (0, .ref 0), (1, .int (nI x2))]) (st2 := []) (w3 := w) rfl rfl ?_
    refine sx_RP.step (pc2 := 29) (ls2 := [(2, .ref (1 + 4 + x2)), (0, .ref 0), (1, .int (nI x2))]) (st2 := [.ref (1 + 4 + x2)]) (w3 := w) rfl rfl ?_
    refine sx_RP.step (pc2 := 30) (ls2 := [(2, .ref (1 + 4 + x2)), (0, .ref 0), (1, .int (nI x2))]) (st2 := [.int 0, .ref (1 + 4 + x2)]) (w3 := w) rfl rfl ?_
    rcases Decidable.em (gF l x2 1 = 0 ∧ gF l x2 5 = 0) with hclf0 | hclf0
    · refine sx_RP.cu (as := [.ref (1 + 4 + x2), .int 0]) (rest2 := []) (st3 := [.int 1]) rfl rfl (sx_inv_v2 (mi := 61) (k := 186) (st := [.int 0, .ref (1 + 4 + x2)]) (w := w) rfl rfl (hI.1.oG (gAd.of (Or.inl rfl) (show x2 < 10 by omega))) rfl rfl rfl) rfl rfl (x43y hI (gAd.of (Or.inl rfl) (show x2 < 10 by omega)) ⟨(hR.ga (by rw [en, iN_n (by omega)]; omega) (by decide)).trans hclf0.1, (hR.ga (by rw [en, iN_n (by omega)]; omega) (by decide)).trans hclf0.2⟩) rfl ?_
      refine sx_RP.step (pc2 := 36) (ls2 := [(2, .ref (1 + 4 + x2)), (0, .ref 0), (1, .int (nI x2))]) (st2 := []) (w3 := w) rfl rfl ?_
      refine sx_RP.step (pc2 := 37) (ls2 := [(2, .ref (1 + 4 + x2)), (0, .ref 0), (1, .int (nI x2))]) (st2 := [.ref 0]) (w3 := w) rfl rfl ?_
      refine sx_RP.gf (v := .ref 1) rfl rfl hI.1.o0 rfl rfl (show _ = 40 from rfl) ?_
      refine sx_RP.step (pc2 := 42) (ls2 := [(2, .ref (1 + 4 + x2)), (0, .ref 0), (1, .int (nI x2))]) (st2 := [.int 60, .ref 1]) (w3 := w) rfl rfl ?_
      rcases Decidable.em (l.getD 0 0 + 60 ≤ 999) with hc | hc
      · refine sx_RP.cu (as := [.ref 1, .int 60]) (rest2 := []) (st3 := [.int 1]) rfl rfl (sx_inv_v2 (mi := 61) (k := 163) (st := [.int 60, .ref 1]) (w := w) rfl rfl (hI.1.oC (Or.inl rfl)) rfl rfl rfl) rfl rfl (x40y hI (Or.inl rfl) (by rw [hR.night]; exact hc)) rfl ?_
        refine sx_RP.step (pc2 := 55) (ls2 := [(2, .ref (1 + 4 + x2)), (0, .ref 0), (1, .int (nI x2))]) (st2 := []) (w3 := w) rfl rfl ?_
        refine sx_RP.step (pc2 := 57) (ls2 := [(2, .ref (1 + 4 + x2)), (0, .ref 0), (1, .int (nI x2))]) (st2 := [.int 61]) (w3 := w) rfl rfl ?_
        refine sx_RP.step (pc2 := 58) (ls2 := [(3, .int 61), (2, .ref (1 + 4 + x2)), (0, .ref 0), (1, .int (nI x2))]) (st2 := []) (w3 := w) rfl rfl ?_
        refine sx_RP.step (pc2 := 59) (ls2 := [(3, .int 61), (2, .ref (1 + 4 + x2)), (0, .ref 0), (1, .int (nI x2))]) (st2 := [.int (-1)]) (w3 := w) rfl rfl ?_
        refine sx_RP.step (pc2 := 61) (ls2 := [(4, .int (-1)), (3, .int 61), (2, .ref (1 + 4 + x2)), (0, .ref 0), (1, .int (nI x2))]) (st2 := []) (w3 := w) rfl rfl ?_
        refine sx_RP.step (pc2 := 62) (ls2 := [(4, .int (-1)), (3, .int 61), (2, .ref (1 + 4 + x2)), (0, .ref 0), (1, .int (nI x2))]) (st2 := [.int 0]) (w3 := w) rfl rfl ?_
        refine sx_RP.step (pc2 := 64) (ls2 := [(5, .int 0), (4, .int (-1)), (3, .int 61), (2, .ref (1 + 4 + x2)), (0, .ref 0), (1, .int (nI x2))]) (st2 := []) (w3 := w) rfl rfl ?_
        rw [whoA_y en hn (by omega) c1 ⟨hclf0, hc⟩]
        exact sx_RP.ls (sx_lr.cons rfl (sx_lr.cons rfl (sx_lr.cons rfl (sx_lr.cons rfl (sx_lr.cons rfl (sx_lr.cons rfl sx_lr.nil)))))) (X61L (w0 := w) ⟨hR, hI⟩ hn en (show x2 < n by omega) n 0 w 61 (-1) (by omega) hI (fun _ _ _ _ => rfl) (Or.inl rfl))
      · refine sx_RP.cu (as := [.ref 1, .int 60]) (rest2 := []) (st3 := [.int 0]) rfl rfl (sx_inv_v2 (mi := 61) (k := 163) (st := [.int 60, .ref 1]) (w := w) rfl rfl (hI.1.oC (Or.inl rfl)) rfl rfl rfl) rfl rfl (x40n hI (Or.inl rfl) (by rw [hR.night]; exact hc)) rfl ?_
        refine sx_RP.step (pc2 := 48) (ls2 := [(2, .ref (1 + 4 + x2)), (0, .ref 0), (1, .int (nI x2))]) (st2 := []) (w3 := w) rfl rfl ?_
        refine sx_RP.step (pc2 := 49) (ls2 := [(2, .ref (1 + 4 + x2)), (0, .ref 0), (1, .int (nI x2))]) (st2 := [.ref 0]) (w3 := w) rfl rfl ?_
        refine sx_RP.step (pc2 := 51) (ls2 := [(2, .ref (1 + 4 + x2)), (0, .ref 0), (1, .int (nI x2))]) (st2 := [.int (-1000000005), .ref 0]) (w3 := w) rfl rfl ?_
        refine sx_RP.callp (as2 := [.ref 0, .int (-1000000005)]) (rest2 := []) rfl rfl (sx_inv_v2 (mi := 61) (k := 78) (st := [.int (-1000000005), .ref 0]) (w := w) rfl rfl hI.1.o0 rfl rfl rfl) rfl rfl rfl (S9_4 hI) (show _ = 54 from rfl) ?_
        rintro r4 w5 ⟨rfl, hI6, hs4⟩
        show sx_RP _ _ _ _ _ [.int (-1000000005)] _ _
        refine sx_RP.ret (r := (some (.int (-1000000005)))) rfl rfl ?_
        exact ⟨by rw [whoA_2 en (by omega) c1 (fun z => hc z.2)], hI6⟩
    · refine sx_RP.cu (as := [.ref (1 + 4 + x2), .int 0]) (rest2 := []) (st3 := [.int 0]) rfl rfl (sx_inv_v2 (mi := 61) (k := 186) (st := [.int 0, .ref (1 + 4 + x2)]) (w := w) rfl rfl (hI.1.oG (gAd.of (Or.inl rfl) (show x2 < 10 by omega))) rfl rfl rfl) rfl rfl (x43n hI (gAd.of (Or.inl rfl) (show x2 < 10 by omega)) (fun z => hclf0 ⟨(hR.ga (by rw [en, iN_n (by omega)]; omega) (by decide)).symm.trans z.1, (hR.ga (by rw [en, iN_n (by omega)]; omega) (by decide)).symm.trans z.2⟩)) rfl ?_
      refine sx_RP.step (pc2 := 48) (ls2 := [(2, .ref (1 + 4 + x2)), (0, .ref 0), (1, .int (nI x2))]) (st2 := []) (w3 := w) rfl rfl ?_
      refine sx_RP.step (pc2 := 49) (ls2 := [(2, .ref (1 + 4 + x2)), (0, .ref 0), (1, .int (nI x2))]) (st2 := [.ref 0]) (w3 := w) rfl rfl ?_
      refine sx_RP.step (pc2 := 51) (ls2 := [(2, .ref (1 + 4 + x2)), (0, .ref 0), (1, .int (nI x2))]) (st2 := [.int (-1000000005), .ref 0]) (w3 := w) rfl rfl ?_
      refine sx_RP.callp (as2 := [.ref 0, .int (-1000000005)]) (rest2 := []) rfl rfl (sx_inv_v2 (mi := 61) (k := 78) (st := [.int (-1000000005), .ref 0]) (w := w) rfl rfl hI.1.o0 rfl rfl rfl) rfl rfl rfl (S9_4 hI) (show _ = 54 from rfl) ?_
      rintro r4 w8 ⟨rfl, hI9, hs7⟩
      show sx_RP _ _ _ _ _ [.int (-1000000005)] _ _
      refine sx_RP.ret (r := (some (.int (-1000000005)))) rfl rfl ?_
      exact ⟨by rw [whoA_2 en (by omega) c1 (fun z => hclf0 z.1)], hI9⟩
  · refine sx_RP.cu (as := [.ref 1, .int a1]) (rest2 := []) (st3 := [.int 0]) rfl rfl (sx_inv_v2 (mi := 61) (k := 120) (st := [.int a1, .ref 1]) (w := w) rfl rfl (hI.1.oC (Or.inl rfl)) rfl rfl rfl) rfl rfl (p27n hI (Or.inl rfl) en0 hn c1) rfl ?_
    refine sx_RP.step (pc2 := 11) (ls2 := [(0, .ref 0), (1, .int a1)]) (st2 := []) (w3 := w) rfl rfl ?_
    refine sx_RP.step (pc2 := 12) (ls2 := [(0, .ref 0), (1, .int a1)]) (st2 := [.ref 0]) (w3 := w) rfl rfl ?_
    refine sx_RP.step (pc2 := 14) (ls2 := [(0, .ref 0), (1, .int a1)]) (st2 := [.int (-1000000001), .ref 0]) (w3 := w) rfl rfl ?_
    refine sx_RP.callp (as2 := [.ref 0, .int (-1000000001)]) (rest2 := []) rfl rfl (sx_inv_v2 (mi := 61) (k := 78) (st := [.int (-1000000001), .ref 0]) (w := w) rfl rfl hI.1.o0 rfl rfl rfl) rfl rfl rfl (S9_0 hI) (show _ = 17 from rfl) ?_
    rintro r4 w11 ⟨rfl, hI12, hs10⟩
    show sx_RP _ _ _ _ _ [.int (-1000000001)] _ _
    refine sx_RP.ret (r := (some (.int (-1000000001)))) rfl rfl ?_
    exact ⟨by rw [whoA_1 en c1], hI12⟩
set_option maxRecDepth 20000 in
set_option maxHeartbeats 4000000 in
theorem X182o {xs : Option (List Int32)} {d n g t : Nat} {P : Option Value → List sx_C → Prop} (hn : n ≤ 10) : ∀ (q j : Nat) (w : List sx_C), j + q = n → WI w → (ia w 112).getD 1 0 = nI n → (∀ w2, WI w2 → ia w2 112 = osL q j (ia w 112) → Same 112 w w2 → sx_RP xs (d + 5) 182 58 [(0, .ref 111), (1, .int (nI g)), (2, .int (nI t))] [] w2 P) → sx_RP xs (d + 5) 182 24 [(0, .ref 111), (1, .int (nI g)), (2, .int (nI t)), (3, .int (nI j))] [] w P
  | 0, j, w, hj, hI, en, kk => by
    obtain rfl : j = n := by omega
    refine sx_RP.step (pc2 := 25) (ls2 := [(0, .ref 111), (1, .int (nI g)), (2, .int (nI t)), (3, .int (nI j))]) (st2 := [.int (nI j)]) (w3 := w) rfl rfl ?_
    refine sx_RP.step (pc2 := 26) (ls2 := [(0, .ref 111), (1, .int (nI g)), (2, .int (nI t)), (3, .int (nI j))]) (st2 := [.ref 111, .int (nI j)]) (w3 := w) rfl rfl ?_
    refine sx_RP.gf (v := .ref 112) rfl rfl hI.1.o111 rfl rfl (show _ = 29 from rfl) ?_
    refine sx_RP.step (pc2 := 30) (ls2 := [(0, .ref 111), (1, .int (nI g)), (2, .int (nI t)), (3, .int (nI j))]) (st2 := [.int 1, .ref 112, .int (nI j)]) (w3 := w) rfl rfl ?_
    refine sx_RP.ild (c := 1) rfl hI.1.a112.1 hI.1.a112.2 (sx_in_nI (show 1 < 172 by omega) (by decide)) (show (nI 1).toNatClampNeg = 1 from nI_clamp (by omega)) (show _ = 31 from rfl) ?_
    rw [en]
    refine sx_RP.br (p1 := 58) (l1 := [(0, .ref 111), (1, .int (nI g)), (2, .int (nI t)), (3, .int (nI j))]) (s1 := []) (v1 := w) rfl rfl (fun _ => ?_) (fun q => absurd (nI_le (a := j) (b := j) (by omega) (by omega)) (of_decide_eq_false q))
    exact sx_RP.ls (sx_lr.cons rfl (sx_lr.cons rfl (sx_lr.cons rfl sx_lr.nil))) (kk w hI rfl (fun _ _ => rfl))
  | q + 1, j, w, hj, hI, en, kk => by
    refine sx_RP.step (pc2 := 25) (ls2 := [(0, .ref 111), (1, .int (nI g)), (2, .int (nI t)), (3, .int (nI j))]) (st2 := [.int (nI j)]) (w3 := w) rfl rfl ?_
    refine sx_RP.step (pc2 := 26) (ls2 := [(0, .ref 111), (1, .int (nI g)), (2, .int (nI t)), (3, .int (nI j))]) (st2 := [.ref 111, .int (nI j)]) (w3 := w) rfl rfl ?_
    refine sx_RP.gf (v := .ref 112) rfl rfl hI.1.o111 rfl rfl (show _ = 29 from rfl) ?_
    refine sx_RP.step (pc2 := 30) (ls2 := [(0, .ref 111), (1, .int (nI g)), (2, .int (nI t)), (3, .int (nI j))]) (st2 := [.int 1, .ref 112, .int (nI j)]) (w3 := w) rfl rfl ?_
    refine sx_RP.ild (c := 1) rfl hI.1.a112.1 hI.1.a112.2 (sx_in_nI (show 1 < 172 by omega) (by decide)) (show (nI 1).toNatClampNeg = 1 from nI_clamp (by omega)) (show _ = 31 from rfl) ?_
    rw [en]
    refine sx_RP.br (p2 := 34) (l2 := [(0, .ref 111), (1, .int (nI g)), (2, .int (nI t)), (3, .int (nI j))]) (s2 := []) (v2 := w) rfl rfl (fun q => absurd (of_decide_eq_true q) (fun z => absurd ((nI_leI (a := n) (b := j) (by omega) (by omega)).mp z) (by omega))) (fun _ => ?_)
    refine sx_RP.step (pc2 := 35) (ls2 := [(0, .ref 111), (1, .int (nI g)), (2, .int (nI t)), (3, .int (nI j))]) (st2 := [.ref 111]) (w3 := w) rfl rfl ?_
    refine sx_RP.step (pc2 := 36) (ls2 := [(0, .ref 111), (1, .int (nI g)), (2, .int (nI t)), (3, .int (nI j))]) (st2 := [.int (nI j), .ref 111]) (w3 := w) rfl rfl ?_
    refine sx_RP.step (pc2 := 37) (ls2 := [(0, .ref 111), (1, .int (nI g)), (2, .int (nI t)), (3, .int (nI j))]) (st2 := [.int 1, .int (nI j), .ref 111]) (w3 := w) rfl rfl ?_
    refine sx_RP.cu (as := [.ref 111, .int (nI j), .int 1]) (rest2 := []) (st3 := [.int ((ia w 112).getD (103 + 6 * j + 1) 0)]) rfl rfl (sx_inv_v2 (mi := 182) (k := 59) (st := [.int 1, .int (nI j), .ref 111]) (w := w) rfl rfl hI.1.o111 rfl rfl rfl) rfl rfl (x138 hI (show j < 10 by omega) (show 1 < 6 by decide)) rfl ?_
    refine sx_RP.step (pc2 := 41) (ls2 := [(0, .ref 111), (1, .int (nI g)), (2, .int (nI t)), (3, .int (nI j))]) (st2 := [.int 1, .int ((ia w 112).getD (103 + 6 * j + 1) 0)]) (w3 := w) rfl rfl ?_
    refine sx_RP.br (p1 := 52) (l1 := [(0, .ref 111), (1, .int (nI g)), (2, .int (nI t)), (3, .int (nI j))]) (s1 := []) (v1 := w) (p2 := 44) (l2 := [(0, .ref 111), (1, .int (nI g)), (2, .int (nI t)), (3, .int (nI j))]) (s2 := []) (v2 := w) rfl rfl (fun q1 => ?_) (fun q1 => ?_)
    · replace q1 := of_decide_eq_true q1
      refine sx_RP.step (pc2 := 55) (ls2 := [(3, .int ((nI j) + 1)), (0, .ref 111), (1, .int (nI g)), (2, .int (nI t))]) (st2 := []) (w3 := w) rfl rfl ?_
      rw [nI_1 j]
      refine sx_RP.step (pc2 := 24) (ls2 := [(3, .int (nI (j + 1))), (0, .ref 111), (1, .int (nI g)), (2, .int (nI t))]) (st2 := []) (w3 := w) rfl rfl ?_
      have e9 : os1 (ia w 112) j = ia w 112 := if_neg q1
      exact sx_RP.ls (sx_lr.cons rfl (sx_lr.cons rfl (sx_lr.cons rfl (sx_lr.cons rfl sx_lr.nil)))) (X182o hn q (j + 1) w (by omega) hI en (fun w2 h1 h2 h3 => kk w2 h1 (by rw [h2]; show _ = osL q (j + 1) (os1 (ia w 112) j); rw [e9]) h3))
    · replace q1 := Decidable.not_not.mp (of_decide_eq_false q1)
      refine sx_RP.step (pc2 := 45) (ls2 := [(0, .ref 111), (1, .int (nI g)), (2, .int (nI t)), (3, .int (nI j))]) (st2 := [.ref 111]) (w3 := w) rfl rfl ?_
      refine sx_RP.step (pc2 := 46) (ls2 := [(0, .ref 111), (1, .int (nI g)), (2, .int (nI t)), (3, .int (nI j))]) (st2 := [.int (nI j), .ref 111]) (w3 := w) rfl rfl ?_
      refine sx_RP.step (pc2 := 47) (ls2 := [(0, .ref 111), (1, .int (nI g)), (2, .int (nI t)), (3, .int (nI j))]) (st2 := [.int 5, .int (nI j), .ref 111]) (w3 := w) rfl rfl ?_
      refine sx_RP.step (pc2 := 48) (ls2 := [(0, .ref 111), (1, .int (nI g)), (2, .int (nI t)), (3, .int (nI j))]) (st2 := [.int 1, .int 5, .int (nI j), .ref 111]) (w3 := w) rfl rfl ?_
      refine sx_RP.callp (as2 := [.ref 111, .int (nI j), .int 5, .int 1]) (rest2 := []) rfl rfl (sx_inv_v2 (mi := 182) (k := 110) (st := [.int 1, .int 5, .int (nI j), .ref 111]) (w := w) rfl rfl hI.1.o111 rfl rfl rfl) rfl rfl rfl (X154 (c := 5) hI (show j < 10 by omega) (by decide) (eOK_g (g := j) (c := 5) (by omega) (by decide) (show inR 1 1 from ⟨1, by decide, rfl⟩))) (show _ = 51 from rfl) ?_
      rintro r4 w4 ⟨⟨rfl, hv2⟩, hI5, hs3⟩
      show sx_RP _ _ _ _ _ [.int ((ia w 112).getD (103 + 6 * j + 5) 0)] _ _
      refine sx_RP.step (pc2 := 52) (ls2 := [(0, .ref 111), (1, .int (nI g)), (2, .int (nI t)), (3, .int (nI j))]) (st2 := []) (w3 := w4) rfl rfl ?_
      refine sx_RP.step (pc2 := 55) (ls2 := [(3, .int ((nI j) + 1)), (0, .ref 111), (1, .int (nI g)), (2, .int (nI t))]) (st2 := []) (w3 := w4) rfl rfl ?_
      rw [nI_1 j]
      refine sx_RP.step (pc2 := 24) (ls2 := [(3, .int (nI (j + 1))), (0, .ref 111), (1, .int (nI g)), (2, .int (nI t))]) (st2 := []) (w3 := w4) rfl rfl ?_
      have e9 : os1 (ia w 112) j = (ia w 112).set (103 + 6 * j + 5) 1 := if_pos q1
      exact sx_RP.ls (sx_lr.cons rfl (sx_lr.cons rfl (sx_lr.cons rfl (sx_lr.cons rfl sx_lr.nil)))) (X182o hn q (j + 1) w4 (by omega) hI5 (by rw [hv2, gd_ne (by omega)]; exact en) (fun w2 h1 h2 h3 => kk w2 h1 (by rw [h2, hv2, ← e9]; rfl) (hs3.tr h3)))
set_option maxRecDepth 20000 in
set_option maxHeartbeats 4000000 in
theorem X182c {xs : Option (List Int32)} {d : Nat} {w : List sx_C} {P : Option Value → List sx_C → Prop} (hI : WI w) {D : Nat → Nat} {g t h n : Nat} (hr : rep 3000 (ia w 117) D) (hh : h < 48) (hn : n ≤ 60) (ht : t < 10) (eh : (ia w 112).getD (103 + 6 * t + 2) 0 = nI h) (k1 : anB D h n 48 = true → sx_RP xs (d + 5) 182 145 [(0, .ref 111), (1, .int (nI g)), (2, .int (nI t)), (3, .int (nI n)), (4, .int (nI n))] [] w P) (k2 : anB D h n 48 = false → sx_RP xs (d + 5) 182 145 [(0, .ref 111), (1, .int (nI g)), (2, .int (nI t)), (3, .int (nI n)), (4, .int (-1))] [] w P) : ∀ (q j : Nat), j + q = 48 → anB D h n j = false → sx_RP xs (d + 5) 182 85 [(0, .ref 111), (1, .int (nI g)), (2, .int (nI t)), (3, .int (nI n)), (4, .int (-1)), (5, .int (nI j))] [] w P
  | 0, j, hj, h0 => by
    obtain rfl : j = 48 := by omega
    refine sx_RP.step (pc2 := 87) (ls2 := [(0, .ref 111), (1, .int (nI g)), (2, .int (nI t)), (3, .int (nI n)), (4, .int (-1)), (5, .int 48)]) (st2 := [.int 48]) (w3 := w) rfl rfl ?_
    refine sx_RP.step (pc2 := 89) (ls2 := [(0, .ref 111), (1, .int (nI g)), (2, .int (nI t)), (3, .int (nI n)), (4, .int (-1)), (5, .int 48)]) (st2 := [.int 48, .int 48]) (w3 := w) rfl rfl ?_
    refine sx_RP.step (pc2 := 145) (ls2 := [(0, .ref 111), (1, .int (nI g)), (2, .int (nI t)), (3, .int (nI n)), (4, .int (-1)), (5, .int 48)]) (st2 := []) (w3 := w) rfl rfl ?_
    exact sx_RP.ls (sx_lr.cons rfl (sx_lr.cons rfl (sx_lr.cons rfl (sx_lr.cons rfl (sx_lr.cons rfl sx_lr.nil))))) (k2 h0)
  | q + 1, j, hj, h0 => by
    refine sx_RP.step (pc2 := 87) (ls2 := [(0, .ref 111), (1, .int (nI g)), (2, .int (nI t)), (3, .int (nI n)), (4, .int (-1)), (5, .int (nI j))]) (st2 := [.int (nI j)]) (w3 := w) rfl rfl ?_
    refine sx_RP.step (pc2 := 89) (ls2 := [(0, .ref 111), (1, .int (nI g)), (2, .int (nI t)), (3, .int (nI n)), (4, .int (-1)), (5, .int (nI j))]) (st2 := [.int 48, .int (nI j)]) (w3 := w) rfl rfl ?_
    refine sx_RP.br (p2 := 92) (l2 := [(0, .ref 111), (1, .int (nI g)), (2, .int (nI t)), (3, .int (nI n)), (4, .int (-1)), (5, .int (nI j))]) (s2 := []) (v2 := w) rfl rfl (fun q => absurd (of_decide_eq_true q) (fun z => absurd ((nI_leI (a := 48) (b := j) (by omega) (by omega)).mp z) (by omega))) (fun _ => ?_)
    refine sx_RP.step (pc2 := 94) (ls2 := [(0, .ref 111), (1, .int (nI g)), (2, .int (nI t)), (3, .int (nI n)), (4, .int (-1)), (5, .int (nI j))]) (st2 := [.int (-1)]) (w3 := w) rfl rfl ?_
    refine sx_RP.step (pc2 := 97) (ls2 := [(0, .ref 111), (1, .int (nI g)), (2, .int (nI t)), (3, .int (nI n)), (4, .int (-1)), (5, .int (nI j))]) (st2 := []) (w3 := w) rfl rfl ?_
    refine sx_RP.step (pc2 := 98) (ls2 := [(0, .ref 111), (1, .int (nI g)), (2, .int (nI t)), (3, .int (nI n)), (4, .int (-1)), (5, .int (nI j))]) (st2 := [.ref 111]) (w3 := w) rfl rfl ?_
    refine sx_RP.gf (v := .ref 117) rfl rfl hI.1.o111 rfl rfl (show _ = 101 from rfl) ?_
    refine sx_RP.step (pc2 := 103) (ls2 := [(0, .ref 111), (1, .int (nI g)), (2, .int (nI t)), (3, .int (nI n)), (4, .int (-1)), (5, .int (nI j))]) (st2 := [.int (nI j), .ref 117]) (w3 := w) rfl rfl ?_
    refine sx_RP.ild (c := j) rfl hI.1.a117.1 hI.1.a117.2 (sx_in_nI (show j < 48 by omega) (by decide)) (show (nI j).toNatClampNeg = j from nI_clamp (by omega)) (show _ = 104 from rfl) ?_
    refine sx_RP.br (p1 := 136) (l1 := [(0, .ref 111), (1, .int (nI g)), (2, .int (nI t)), (3, .int (nI n)), (4, .int (-1)), (5, .int (nI j))]) (s1 := []) (v1 := w) (p2 := 107) (l2 := [(0, .ref 111), (1, .int (nI g)), (2, .int (nI t)), (3, .int (nI n)), (4, .int (-1)), (5, .int (nI j))]) (s2 := []) (v2 := w) rfl rfl (fun q1 => ?_) (fun q1 => ?_)
    · replace q1 := of_decide_eq_true q1
      refine sx_RP.step (pc2 := 137) (ls2 := [(0, .ref 111), (1, .int (nI g)), (2, .int (nI t)), (3, .int (nI n)), (4, .int (-1)), (5, .int (nI j))]) (st2 := [.int (-1)]) (w3 := w) rfl rfl ?_
      refine sx_RP.step (pc2 := 139) (ls2 := [(4, .int (-1)), (0, .ref 111), (1, .int (nI g)), (2, .int (nI t)), (3, .int (nI n)), (5, .int (nI j))]) (st2 := []) (w3 := w) rfl rfl ?_
      refine sx_RP.step (pc2 := 142) (ls2 := [(5, .int ((nI j) + 1)), (4, .int (-1)), (0, .ref 111), (1, .int (nI g)), (2, .int (nI t)), (3, .int (nI n))]) (st2 := []) (w3 := w) rfl rfl ?_
      rw [nI_1 j]
      refine sx_RP.step (pc2 := 85) (ls2 := [(5, .int (nI (j + 1))), (4, .int (-1)), (0, .ref 111), (1, .int (nI g)), (2, .int (nI t)), (3, .int (nI n))]) (st2 := []) (w3 := w) rfl rfl ?_
      have hn9 : ¬ (D j ≤ n ∧ nearB h j = true) := fun z => by have := rep_lt hr (show j < 48 by omega) (by decide) q1; omega
      exact sx_RP.ls (sx_lr.cons rfl (sx_lr.cons rfl (sx_lr.cons rfl (sx_lr.cons rfl (sx_lr.cons rfl (sx_lr.cons rfl sx_lr.nil)))))) (X182c hI hr hh hn ht eh k1 k2 q (j + 1) (by omega) (anB_s h0 hn9))
    · replace q1 := of_decide_eq_false q1
      refine sx_RP.step (pc2 := 108) (ls2 := [(0, .ref 111), (1, .int (nI g)), (2, .int (nI t)), (3, .int (nI n)), (4, .int (-1)), (5, .int (nI j))]) (st2 := [.ref 111]) (w3 := w) rfl rfl ?_
      refine sx_RP.gf (v := .ref 117) rfl rfl hI.1.o111 rfl rfl (show _ = 111 from rfl) ?_
      refine sx_RP.step (pc2 := 113) (ls2 := [(0, .ref 111), (1, .int (nI g)), (2, .int (nI t)), (3, .int (nI n)), (4, .int (-1)), (5, .int (nI j))]) (st2 := [.int (nI j), .ref 117]) (w3 := w) rfl rfl ?_
      refine sx_RP.ild (c := j) rfl hI.1.a117.1 hI.1.a117.2 (sx_in_nI (show j < 48 by omega) (by decide)) (show (nI j).toNatClampNeg = j from nI_clamp (by omega)) (show _ = 114 from rfl) ?_
      refine sx_RP.step (pc2 := 115) (ls2 := [(0, .ref 111), (1, .int (nI g)), (2, .int (nI t)), (3, .int (nI n)), (4, .int (-1)), (5, .int (nI j))]) (st2 := [.int (nI n), .int ((ia w 117).getD j 0)]) (w3 := w) rfl rfl ?_
      refine sx_RP.br (p1 := 136) (l1 := [(0, .ref 111), (1, .int (nI g)), (2, .int (nI t)), (3, .int (nI n)), (4, .int (-1)), (5, .int (nI j))]) (s1 := []) (v1 := w) (p2 := 118) (l2 := [(0, .ref 111), (1, .int (nI g)), (2, .int (nI t)), (3, .int (nI n)), (4, .int (-1)), (5, .int (nI j))]) (s2 := []) (v2 := w) rfl rfl (fun q2 => ?_) (fun q2 => ?_)
      · replace q2 := of_decide_eq_true q2
        refine sx_RP.step (pc2 := 137) (ls2 := [(0, .ref 111), (1, .int (nI g)), (2, .int (nI t)), (3, .int (nI n)), (4, .int (-1)), (5, .int (nI j))]) (st2 := [.int (-1)]) (w3 := w) rfl rfl ?_
        refine sx_RP.step (pc2 := 139) (ls2 := [(4, .int (-1)), (0, .ref 111), (1, .int (nI g)), (2, .int (nI t)), (3, .int (nI n)), (5, .int (nI j))]) (st2 := []) (w3 := w) rfl rfl ?_
        refine sx_RP.step (pc2 := 142) (ls2 := [(5, .int ((nI j) + 1)), (4, .int (-1)), (0, .ref 111), (1, .int (nI g)), (2, .int (nI t)), (3, .int (nI n))]) (st2 := []) (w3 := w) rfl rfl ?_
        rw [nI_1 j]
        refine sx_RP.step (pc2 := 85) (ls2 := [(5, .int (nI (j + 1))), (4, .int (-1)), (0, .ref 111), (1, .int (nI g)), (2, .int (nI t)), (3, .int (nI n))]) (st2 := []) (w3 := w) rfl rfl ?_
        have hn9 : ¬ (D j ≤ n ∧ nearB h j = true) := fun z => by have e := rep_ge hr (by decide) (show j < 48 by omega) q1; have q9 := q2; rw [e.2] at q9; exact absurd ((nI_ltI (a := n) (b := D j) (by omega) (by omega)).mp q9) (by omega)
        exact sx_RP.ls (sx_lr.cons rfl (sx_lr.cons rfl (sx_lr.cons rfl (sx_lr.cons rfl (sx_lr.cons rfl (sx_lr.cons rfl sx_lr.nil)))))) (X182c hI hr hh hn ht eh k1 k2 q (j + 1) (by omega) (anB_s h0 hn9))
      · replace q2 := of_decide_eq_false q2
        refine sx_RP.step (pc2 := 119) (ls2 := [(0, .ref 111), (1, .int (nI g)), (2, .int (nI t)), (3, .int (nI n)), (4, .int (-1)), (5, .int (nI j))]) (st2 := [.ref 111]) (w3 := w) rfl rfl ?_
        refine sx_RP.step (pc2 := 120) (ls2 := [(0, .ref 111), (1, .int (nI g)), (2, .int (nI t)), (3, .int (nI n)), (4, .int (-1)), (5, .int (nI j))]) (st2 := [.int (nI t), .ref 111]) (w3 := w) rfl rfl ?_
        refine sx_RP.step (pc2 := 121) (ls2 := [(0, .ref 111), (1, .int (nI g)), (2, .int (nI t)), (3, .int (nI n)), (4, .int (-1)), (5, .int (nI j))]) (st2 := [.int 2, .int (nI t), .ref 111]) (w3 := w) rfl rfl ?_
        refine sx_RP.cu (as := [.ref 111, .int (nI t), .int 2]) (rest2 := []) (st3 := [.int (nI h)]) rfl rfl (sx_inv_v2 (mi := 182) (k := 59) (st := [.int 2, .int (nI t), .ref 111]) (w := w) rfl rfl hI.1.o111 rfl rfl rfl) rfl rfl (x138e hI ht (show 2 < 6 by decide) eh) rfl ?_
        refine sx_RP.step (pc2 := 126) (ls2 := [(0, .ref 111), (1, .int (nI g)), (2, .int (nI t)), (3, .int (nI n)), (4, .int (-1)), (5, .int (nI j))]) (st2 := [.int (nI j), .int (nI h)]) (w3 := w) rfl rfl ?_
        rcases Bool.eq_false_or_eq_true (nearB h j) with hB | hB
        · refine sx_RP.cu (as := [.int (nI h), .int (nI j)]) (rest2 := []) (st3 := [.int 1]) rfl rfl rfl rfl rfl ((by have z := x172 (xs := xs) (d := d + 3) hI hh (show j < 48 by omega); rw [hB] at z; exact z)) rfl ?_
          refine sx_RP.step (pc2 := 132) (ls2 := [(0, .ref 111), (1, .int (nI g)), (2, .int (nI t)), (3, .int (nI n)), (4, .int (-1)), (5, .int (nI j))]) (st2 := []) (w3 := w) rfl rfl ?_
          refine sx_RP.step (pc2 := 133) (ls2 := [(0, .ref 111), (1, .int (nI g)), (2, .int (nI t)), (3, .int (nI n)), (4, .int (-1)), (5, .int (nI j))]) (st2 := [.int (nI n)]) (w3 := w) rfl rfl ?_
          refine sx_RP.step (pc2 := 137) (ls2 := [(0, .ref 111), (1, .int (nI g)), (2, .int (nI t)), (3, .int (nI n)), (4, .int (-1)), (5, .int (nI j))]) (st2 := [.int (nI n)]) (w3 := w) rfl rfl ?_
          refine sx_RP.step (pc2 := 139) (ls2 := [(4, .int (nI n)), (0, .ref 111), (1, .int (nI g)), (2, .int (nI t)), (3, .int (nI n)), (5, .int (nI j))]) (st2 := []) (w3 := w) rfl rfl ?_
          refine sx_RP.step (pc2 := 142) (ls2 := [(5, .int ((nI j) + 1)), (4, .int (nI n)), (0, .ref 111), (1, .int (nI g)), (2, .int (nI t)), (3, .int (nI n))]) (st2 := []) (w3 := w) rfl rfl ?_
          rw [nI_1 j]
          refine sx_RP.step (pc2 := 85) (ls2 := [(5, .int (nI (j + 1))), (4, .int (nI n)), (0, .ref 111), (1, .int (nI g)), (2, .int (nI t)), (3, .int (nI n))]) (st2 := []) (w3 := w) rfl rfl ?_
          have e := rep_ge hr (by decide) (show j < 48 by omega) q1
          have q9 := q2
          rw [e.2] at q9
          have hle : D j ≤ n := by have := mt (nI_ltI (a := n) (b := D j) (by omega) (by omega)).mpr q9; omega
          have k9 := k1 (anB_up (anB_t hle hB) (by omega))
          refine sx_RP.step (pc2 := 87) (ls2 := [(5, .int (nI (j + 1))), (4, .int (nI n)), (0, .ref 111), (1, .int (nI g)), (2, .int (nI t)), (3, .int (nI n))]) (st2 := [.int (nI (j + 1))]) (w3 := w) rfl rfl ?_
          refine sx_RP.step (pc2 := 89) (ls2 := [(5, .int (nI (j + 1))), (4, .int (nI n)), (0, .ref 111), (1, .int (nI g)), (2, .int (nI t)), (3, .int (nI n))]) (st2 := [.int 48, .int (nI (j + 1))]) (w3 := w) rfl rfl ?_
          refine sx_RP.br (p1 := 145) (l1 := [(5, .int (nI (j + 1))), (4, .int (nI n)), (0, .ref 111), (1, .int (nI g)), (2, .int (nI t)), (3, .int (nI n))]) (s1 := []) (v1 := w) (p2 := 92) (l2 := [(5, .int (nI (j + 1))), (4, .int (nI n)), (0, .ref 111), (1, .int (nI g)), (2, .int (nI t)), (3, .int (nI n))]) (s2 := []) (v2 := w) rfl rfl (fun q3 => ?_) (fun q3 => ?_)
          · replace q3 := of_decide_eq_true q3
            replace q3 := (nI_leI (a := 48) (b := (j + 1)) (by omega) (by omega)).mp q3
            exact sx_RP.ls (sx_lr.cons rfl (sx_lr.cons rfl (sx_lr.cons rfl (sx_lr.cons rfl (sx_lr.cons rfl sx_lr.nil))))) k9
          · replace q3 := of_decide_eq_false q3
            replace q3 := mt (nI_leI (a := 48) (b := (j + 1)) (by omega) (by omega)).mpr q3
            refine sx_RP.step (pc2 := 94) (ls2 := [(5, .int (nI (j + 1))), (4, .int (nI n)), (0, .ref 111), (1, .int (nI g)), (2, .int (nI t)), (3, .int (nI n))]) (st2 := [.int (nI n)]) (w3 := w) rfl rfl ?_
            refine sx_RP.br (p1 := 145) (l1 := [(5, .int (nI (j + 1))), (4, .int (nI n)), (0, .ref 111), (1, .int (nI g)), (2, .int (nI t)), (3, .int (nI n))]) (s1 := []) (v1 := w) rfl rfl (fun _ => ?_) (fun q => absurd (nI_pos' (by omega)) (of_decide_eq_false q))
            exact sx_RP.ls (sx_lr.cons rfl (sx_lr.cons rfl (sx_lr.cons rfl (sx_lr.cons rfl (sx_lr.cons rfl sx_lr.nil))))) k9
        · refine sx_RP.cu (as := [.int (nI h), .int (nI j)]) (rest2 := []) (st3 := [.int 0]) rfl rfl rfl rfl rfl ((by have z := x172 (xs := xs) (d := d + 3) hI hh (show j < 48 by omega); rw [hB] at z; exact z)) rfl ?_
          refine sx_RP.step (pc2 := 136) (ls2 := [(0, .ref 111), (1, .int (nI g)), (2, .int (nI t)), (3, .int (nI n)), (4, .int (-1)), (5, .int (nI j))]) (st2 := []) (w3 := w) rfl rfl ?_
          refine sx_RP.step (pc2 := 137) (ls2 := [(0, .ref 111), (1, .int (nI g)), (2, .int (nI t)), (3, .int (nI n)), (4, .int (-1)), (5, .int (nI j))]) (st2 := [.int (-1)]) (w3 := w) rfl rfl ?_
          refine sx_RP.step (pc2 := 139) (ls2 := [(4, .int (-1)), (0, .ref 111), (1, .int (nI g)), (2, .int (nI t)), (3, .int (nI n)), (5, .int (nI j))]) (st2 := []) (w3 := w) rfl rfl ?_
          refine sx_RP.step (pc2 := 142) (ls2 := [(5, .int ((nI j) + 1)), (4, .int (-1)), (0, .ref 111), (1, .int (nI g)), (2, .int (nI t)), (3, .int (nI n))]) (st2 := []) (w3 := w) rfl rfl ?_
          rw [nI_1 j]
          refine sx_RP.step (pc2 := 85) (ls2 := [(5, .int (nI (j + 1))), (4, .int (-1)), (0, .ref 111), (1, .int (nI g)), (2, .int (nI t)), (3, .int (nI n))]) (st2 := []) (w3 := w) rfl rfl ?_
          have hn9 : ¬ (D j ≤ n ∧ nearB h j = true) := fun z => by rw [hB] at z; exact absurd z.2 (by decide)
          exact sx_RP.ls (sx_lr.cons rfl (sx_lr.cons rfl (sx_lr.cons rfl (sx_lr.cons rfl (sx_lr.cons rfl (sx_lr.cons rfl sx_lr.nil)))))) (X182c hI hr hh hn ht eh k1 k2 q (j + 1) (by omega) (anB_s h0 hn9))
set_option maxRecDepth 20000 in
set_option maxHeartbeats 4000000 in
theorem X182n {xs : Option (List Int32)} {d : Nat} {w1 : List sx_C} {D : Nat → Nat} {gr wl : Nat → Int32} {g t k y N : Nat} (hr : rep 3000 (ia w1 117) D) (hN : N ≤ 10) (ht : t < N) (hk : k < 6) (hy : y < 4) (hWl : ∀ c, c < 48 → ∃ b, b < 2 ∧ wl c = nI b) : ∀ (q n : Nat) (w : List sx_C) (h : Nat) (dn e : Int32), n + q = 61 → WI w → Same 112 w1 w → h < 48 → Mi gr wl N t k y (ia w 112) h dn e → sx_RP xs (d + 5) 182 63 [(0, .ref 111), (1, .int (nI g)), (2, .int (nI t)), (3, .int (nI n)), (4, .int (-1))] [] w (fun r w2 => r = some (.int (nmF D gr wl k y q n h dn e)) ∧ WI w2 ∧ ia w2 112 = ia w1 114 ∧ Same 112 w1 w2)
  | 0, n, w, h, dn, e, hn, hI, hO, hh, hM => by
    obtain rfl : n = 61 := by omega
    refine sx_RP.step (pc2 := 64) (ls2 := [(0, .ref 111), (1, .int (nI g)), (2, .int (nI t)), (3, .int 61), (4, .int (-1))]) (st2 := [.int 61]) (w3 := w) rfl rfl ?_
    refine sx_RP.step (pc2 := 66) (ls2 := [(0, .ref 111), (1, .int (nI g)), (2, .int (nI t)), (3, .int 61), (4, .int (-1))]) (st2 := [.int 60, .int 61]) (w3 := w) rfl rfl ?_
    refine sx_RP.step (pc2 := 155) (ls2 := [(0, .ref 111), (1, .int (nI g)), (2, .int (nI t)), (3, .int 61), (4, .int (-1))]) (st2 := []) (w3 := w) rfl rfl ?_
    refine sx_RP.step (pc2 := 156) (ls2 := [(0, .ref 111), (1, .int (nI g)), (2, .int (nI t)), (3, .int 61), (4, .int (-1))]) (st2 := [.ref 111]) (w3 := w) rfl rfl ?_
    refine sx_RP.gf (v := .ref 114) rfl rfl hI.1.o111 rfl rfl (show _ = 159 from rfl) ?_
    refine sx_RP.step (pc2 := 160) (ls2 := [(0, .ref 111), (1, .int (nI g)), (2, .int (nI t)), (3, .int 61), (4, .int (-1))]) (st2 := [.ref 111, .ref 114]) (w3 := w) rfl rfl ?_
    refine sx_RP.gf (v := .ref 112) rfl rfl hI.1.o111 rfl rfl (show _ = 163 from rfl) ?_
    refine sx_RP.callp (as2 := [.ref 114, .ref 112]) (rest2 := []) rfl rfl rfl rfl rfl rfl (K175 hI (a := 114) (b := 112) (by decide) (by decide) (by decide)) (show _ = 166 from rfl) ?_
    rintro r4 w2 ⟨rfl, hI3, hl1⟩
    show sx_RP _ _ _ _ _ [] _ _
    refine sx_RP.step (pc2 := 168) (ls2 := [(0, .ref 111), (1, .int (nI g)), (2, .int (nI t)), (3, .int 61), (4, .int (-1))]) (st2 := [.int (-1)]) (w3 := w2) rfl rfl ?_
    refine sx_RP.ret (r := (some (.int (-1)))) rfl rfl ?_
    exact ⟨rfl, hI3, hl1.2.trans (ia_of (hO 114 (by decide))), hO.tr hl1.1⟩
  | q + 1, n, w, h, dn, e, hn, hI, hO, hh, hM => by
    have hWm : WB (ia w 112) := hM.wb hWl
    have hr9 : rep 3000 (ia w 117) D := by rw [ia_of (hO 117 (by decide))]; exact hr
    refine sx_RP.step (pc2 := 64) (ls2 := [(0, .ref 111), (1, .int (nI g)), (2, .int (nI t)), (3, .int (nI n)), (4, .int (-1))]) (st2 := [.int (nI n)]) (w3 := w) rfl rfl ?_
    refine sx_RP.step (pc2 := 66) (ls2 := [(0, .ref 111), (1, .int (nI g)), (2, .int (nI t)), (3, .int (nI n)), (4, .int (-1))]) (st2 := [.int 60, .int (nI n)]) (w3 := w) rfl rfl ?_
    refine sx_RP.br (p2 := 69) (l2 := [(0, .ref 111), (1, .int (nI g)), (2, .int (nI t)), (3, .int (nI n)), (4, .int (-1))]) (s2 := []) (v2 := w) rfl rfl (fun q => absurd (of_decide_eq_true q) (fun z => absurd ((nI_ltI (a := 60) (b := n) (by omega) (by omega)).mp z) (by omega))) (fun _ => ?_)
    refine sx_RP.step (pc2 := 71) (ls2 := [(0, .ref 111), (1, .int (nI g)), (2, .int (nI t)), (3, .int (nI n)), (4, .int (-1))]) (st2 := [.int (-1)]) (w3 := w) rfl rfl ?_
    refine sx_RP.step (pc2 := 74) (ls2 := [(0, .ref 111), (1, .int (nI g)), (2, .int (nI t)), (3, .int (nI n)), (4, .int (-1))]) (st2 := []) (w3 := w) rfl rfl ?_
    refine sx_RP.step (pc2 := 75) (ls2 := [(0, .ref 111), (1, .int (nI g)), (2, .int (nI t)), (3, .int (nI n)), (4, .int (-1))]) (st2 := [.ref 111]) (w3 := w) rfl rfl ?_
    refine sx_RP.step (pc2 := 76) (ls2 := [(0, .ref 111), (1, .int (nI g)), (2, .int (nI t)), (3, .int (nI n)), (4, .int (-1))]) (st2 := [.int (nI t), .ref 111]) (w3 := w) rfl rfl ?_
    rcases Decidable.em ((ia w 112).getD (103 + 6 * t + 5) 0 = 0) with ci | ci
    · refine sx_RP.cu (as := [.ref 111, .int (nI t)]) (rest2 := []) (st3 := [.int 1]) rfl rfl (sx_inv_v2 (mi := 182) (k := 74) (st := [.int (nI t), .ref 111]) (w := w) rfl rfl hI.1.o111 rfl rfl rfl) rfl rfl (x137y hI (show t < 10 by omega) ci) rfl ?_
      refine sx_RP.step (pc2 := 82) (ls2 := [(0, .ref 111), (1, .int (nI g)), (2, .int (nI t)), (3, .int (nI n)), (4, .int (-1))]) (st2 := []) (w3 := w) rfl rfl ?_
      refine sx_RP.step (pc2 := 83) (ls2 := [(0, .ref 111), (1, .int (nI g)), (2, .int (nI t)), (3, .int (nI n)), (4, .int (-1))]) (st2 := [.int 0]) (w3 := w) rfl rfl ?_
      refine sx_RP.step (pc2 := 85) (ls2 := [(5, .int 0), (0, .ref 111), (1, .int (nI g)), (2, .int (nI t)), (3, .int (nI n)), (4, .int (-1))]) (st2 := []) (w3 := w) rfl rfl ?_
      have he : e = 0 := hM.2.2.2.2.1.2.2.2.2.symm.trans ci
      refine sx_RP.ls (sx_lr.cons rfl (sx_lr.cons rfl (sx_lr.cons rfl (sx_lr.cons rfl (sx_lr.cons rfl (sx_lr.cons rfl sx_lr.nil)))))) (X182c (d := d) hI (h := h) (D := D) (n := n) hr9 hh (by omega) (show t < 10 by omega) hM.2.2.2.2.1.2.1 (fun hA => ?_) (fun hA => ?_) 48 0 (by omega) rfl)
      · refine sx_RP.step (pc2 := 146) (ls2 := [(0, .ref 111), (1, .int (nI g)), (2, .int (nI t)), (3, .int (nI n)), (4, .int (nI n))]) (st2 := [.ref 111]) (w3 := w) rfl rfl ?_
        refine sx_RP.callp (as2 := [.ref 111]) (rest2 := []) rfl rfl (sx_inv_v2 (mi := 182) (k := 143) (st := [.ref 111]) (w := w) rfl rfl hI.1.o111 rfl rfl rfl) rfl rfl rfl (X169 (d := d) hI hN hM.2.1 hWm) (show _ = 149 from rfl) ?_
        rintro r4 w603 ⟨⟨rfl, hv601⟩, hI604, hs602⟩
        show sx_RP _ _ _ _ _ [] _ _
        refine sx_RP.step (pc2 := 152) (ls2 := [(3, .int ((nI n) + 1)), (0, .ref 111), (1, .int (nI g)), (2, .int (nI t)), (4, .int (nI n))]) (st2 := []) (w3 := w603) rfl rfl ?_
        rw [nI_1 n]
        refine sx_RP.step (pc2 := 63) (ls2 := [(3, .int (nI (n + 1))), (0, .ref 111), (1, .int (nI g)), (2, .int (nI t)), (4, .int (nI n))]) (st2 := []) (w3 := w603) rfl rfl ?_
        refine sx_RP.step (pc2 := 64) (ls2 := [(3, .int (nI (n + 1))), (0, .ref 111), (1, .int (nI g)), (2, .int (nI t)), (4, .int (nI n))]) (st2 := [.int (nI (n + 1))]) (w3 := w603) rfl rfl ?_
        refine sx_RP.step (pc2 := 66) (ls2 := [(3, .int (nI (n + 1))), (0, .ref 111), (1, .int (nI g)), (2, .int (nI t)), (4, .int (nI n))]) (st2 := [.int 60, .int (nI (n + 1))]) (w3 := w603) rfl rfl ?_
        refine sx_RP.br (p1 := 155) (l1 := [(3, .int (nI (n + 1))), (0, .ref 111), (1, .int (nI g)), (2, .int (nI t)), (4, .int (nI n))]) (s1 := []) (v1 := w603) (p2 := 69) (l2 := [(3, .int (nI (n + 1))), (0, .ref 111), (1, .int (nI g)), (2, .int (nI t)), (4, .int (nI n))]) (s2 := []) (v2 := w603) rfl rfl (fun q605 => ?_) (fun q605 => ?_)
        · replace q605 := of_decide_eq_true q605
          replace q605 := (nI_ltI (a := 60) (b := (n + 1)) (by omega) (by omega)).mp q605
          refine sx_RP.step (pc2 := 156) (ls2 := [(3, .int (nI (n + 1))), (0, .ref 111), (1, .int (nI g)), (2, .int (nI t)), (4, .int (nI n))]) (st2 := [.ref 111]) (w3 := w603) rfl rfl ?_
          refine sx_RP.gf (v := .ref 114) rfl rfl hI604.1.o111 rfl rfl (show _ = 159 from rfl) ?_
          refine sx_RP.step (pc2 := 160) (ls2 := [(3, .int (nI (n + 1))), (0, .ref 111), (1, .int (nI g)), (2, .int (nI t)), (4, .int (nI n))]) (st2 := [.ref 111, .ref 114]) (w3 := w603) rfl rfl ?_
          refine sx_RP.gf (v := .ref 112) rfl rfl hI604.1.o111 rfl rfl (show _ = 163 from rfl) ?_
          refine sx_RP.callp (as2 := [.ref 114, .ref 112]) (rest2 := []) rfl rfl rfl rfl rfl rfl (K175 hI604 (a := 114) (b := 112) (by decide) (by decide) (by decide)) (show _ = 166 from rfl) ?_
          rintro r4 w607 ⟨rfl, hI608, hl606⟩
          show sx_RP _ _ _ _ _ [] _ _
          refine sx_RP.step (pc2 := 168) (ls2 := [(3, .int (nI (n + 1))), (0, .ref 111), (1, .int (nI g)), (2, .int (nI t)), (4, .int (nI n))]) (st2 := [.int (nI n)]) (w3 := w607) rfl rfl ?_
          refine sx_RP.ret (r := (some (.int (nI n)))) rfl rfl ?_
          exact ⟨by rw [nm_y he (by rw [cb_an hh]; exact hA)], hI608, hl606.2.trans (ia_of ((hO.tr hs602) 114 (by decide))), (hO.tr hs602).tr hl606.1⟩
        · replace q605 := of_decide_eq_false q605
          replace q605 := mt (nI_ltI (a := 60) (b := (n + 1)) (by omega) (by omega)).mpr q605
          refine sx_RP.step (pc2 := 71) (ls2 := [(3, .int (nI (n + 1))), (0, .ref 111), (1, .int (nI g)), (2, .int (nI t)), (4, .int (nI n))]) (st2 := [.int (nI n)]) (w3 := w603) rfl rfl ?_
          refine sx_RP.br (p1 := 155) (l1 := [(3, .int (nI (n + 1))), (0, .ref 111), (1, .int (nI g)), (2, .int (nI t)), (4, .int (nI n))]) (s1 := []) (v1 := w603) rfl rfl (fun _ => ?_) (fun q => absurd (nI_pos' (by omega)) (of_decide_eq_false q))
          refine sx_RP.step (pc2 := 156) (ls2 := [(3, .int (nI (n + 1))), (0, .ref 111), (1, .int (nI g)), (2, .int (nI t)), (4, .int (nI n))]) (st2 := [.ref 111]) (w3 := w603) rfl rfl ?_
          refine sx_RP.gf (v := .ref 114) rfl rfl hI604.1.o111 rfl rfl (show _ = 159 from rfl) ?_
          refine sx_RP.step (pc2 := 160) (ls2 := [(3, .int (nI (n + 1))), (0, .ref 111), (1, .int (nI g)), (2, .int (nI t)), (4, .int (nI n))]) (st2 := [.ref 111, .ref 114]) (w3 := w603) rfl rfl ?_
          refine sx_RP.gf (v := .ref 112) rfl rfl hI604.1.o111 rfl rfl (show _ = 163 from rfl) ?_
          refine sx_RP.callp (as2 := [.ref 114, .ref 112]) (rest2 := []) rfl rfl rfl rfl rfl rfl (K175 hI604 (a := 114) (b := 112) (by decide) (by decide) (by decide)) (show _ = 166 from rfl) ?_
          rintro r4 w610 ⟨rfl, hI611, hl609⟩
          show sx_RP _ _ _ _ _ [] _ _
          refine sx_RP.step (pc2 := 168) (ls2 := [(3, .int (nI (n + 1))), (0, .ref 111), (1, .int (nI g)), (2, .int (nI t)), (4, .int (nI n))]) (st2 := [.int (nI n)]) (w3 := w610) rfl rfl ?_
          refine sx_RP.ret (r := (some (.int (nI n)))) rfl rfl ?_
          exact ⟨by rw [nm_y he (by rw [cb_an hh]; exact hA)], hI611, hl609.2.trans (ia_of ((hO.tr hs602) 114 (by decide))), (hO.tr hs602).tr hl609.1⟩
      · refine sx_RP.step (pc2 := 146) (ls2 := [(0, .ref 111), (1, .int (nI g)), (2, .int (nI t)), (3, .int (nI n)), (4, .int (-1))]) (st2 := [.ref 111]) (w3 := w) rfl rfl ?_
        refine sx_RP.callp (as2 := [.ref 111]) (rest2 := []) rfl rfl (sx_inv_v2 (mi := 182) (k := 143) (st := [.ref 111]) (w := w) rfl rfl hI.1.o111 rfl rfl rfl) rfl rfl rfl (X169 (d := d) hI hN hM.2.1 hWm) (show _ = 149 from rfl) ?_
        rintro r4 w803 ⟨⟨rfl, hv801⟩, hI804, hs802⟩
        show sx_RP _ _ _ _ _ [] _ _
        refine sx_RP.step (pc2 := 152) (ls2 := [(3, .int ((nI n) + 1)), (0, .ref 111), (1, .int (nI g)), (2, .int (nI t)), (4, .int (-1))]) (st2 := []) (w3 := w803) rfl rfl ?_
        rw [nI_1 n]
        refine sx_RP.step (pc2 := 63) (ls2 := [(3, .int (nI (n + 1))), (0, .ref 111), (1, .int (nI g)), (2, .int (nI t)), (4, .int (-1))]) (st2 := []) (w3 := w803) rfl rfl ?_
        obtain ⟨hd, hhd, ehd, hM2⟩ := hM.night hN ht hh hy hk he (fun i hi => hdw hI i (by omega))
        rw [nm_s he (by rw [cb_an hh]; exact hA), ehd, iN_n (by omega)]
        exact sx_RP.ls (sx_lr.cons rfl (sx_lr.cons rfl (sx_lr.cons rfl (sx_lr.cons rfl (sx_lr.cons rfl sx_lr.nil))))) (X182n hr hN ht hk hy hWl q (n + 1) w803 hd _ _ (by omega) hI804 (hO.tr hs802) hhd (by rw [hv801]; exact hM2))
    · refine sx_RP.cu (as := [.ref 111, .int (nI t)]) (rest2 := []) (st3 := [.int 0]) rfl rfl (sx_inv_v2 (mi := 182) (k := 74) (st := [.int (nI t), .ref 111]) (w := w) rfl rfl hI.1.o111 rfl rfl rfl) rfl rfl (x137n hI (show t < 10 by omega) ci) rfl ?_
      refine sx_RP.step (pc2 := 155) (ls2 := [(0, .ref 111), (1, .int (nI g)), (2, .int (nI t)), (3, .int (nI n)), (4, .int (-1))]) (st2 := []) (w3 := w) rfl rfl ?_
      refine sx_RP.step (pc2 := 156) (ls2 := [(0, .ref 111), (1, .int (nI g)), (2, .int (nI t)), (3, .int (nI n)), (4, .int (-1))]) (st2 := [.ref 111]) (w3 := w) rfl rfl ?_
      refine sx_RP.gf (v := .ref 114) rfl rfl hI.1.o111 rfl rfl (show _ = 159 from rfl) ?_
      refine sx_RP.step (pc2 := 160) (ls2 := [(0, .ref 111), (1, .int (nI g)), (2, .int (nI t)), (3, .int (nI n)), (4, .int (-1))]) (st2 := [.ref 111, .ref 114]) (w3 := w) rfl rfl ?_
      refine sx_RP.gf (v := .ref 112) rfl rfl hI.1.o111 rfl rfl (show _ = 163 from rfl) ?_
      refine sx_RP.callp (as2 := [.ref 114, .ref 112]) (rest2 := []) rfl rfl rfl rfl rfl rfl (K175 hI (a := 114) (b := 112) (by decide) (by decide) (by decide)) (show _ = 166 from rfl) ?_
      rintro r4 w2 ⟨rfl, hI3, hl1⟩
      show sx_RP _ _ _ _ _ [] _ _
      refine sx_RP.step (pc2 := 168) (ls2 := [(0, .ref 111), (1, .int (nI g)), (2, .int (nI t)), (3, .int (nI n)), (4, .int (-1))]) (st2 := [.int (-1)]) (w3 := w2) rfl rfl ?_
      refine sx_RP.ret (r := (some (.int (-1)))) rfl rfl ?_
      exact ⟨by rw [nm_l (fun z => ci (hM.2.2.2.2.1.2.2.2.2.trans z))], hI3, hl1.2.trans (ia_of (hO 114 (by decide))), hO.tr hl1.1⟩
set_option maxRecDepth 20000 in
set_option maxHeartbeats 4000000 in
theorem X182 {xs : Option (List Int32)} {d : Nat} {w : List sx_C} (hI : WI w) {g t n : Nat} (hn : n ≤ 10) (en : (ia w 112).getD 1 0 = nI n) (hgn : g < n) (htn : t < n) (hs : ¬ gF (ia w 112) t 1 = 1) (hW : WB (ia w 112)) : sx_RP xs (d + 5) 182 0 (lv_args 0 [.ref 111, .int (nI g), .int (nI t)]) [] w (fun r w2 => r = some (.int (nmV (ia w 112) g t)) ∧ WI w2 ∧ ia w2 112 = ia w 112 ∧ ∀ a, a ≠ 112 → a ≠ 114 → a ≠ 117 → a ≠ 118 → w2[a]? = w[a]?) := by
  obtain ⟨k9, hk9, ek⟩ : inR ((ia w 112).getD (103 + 6 * g + 0) 0) 5 := (hI.s (103 + 6 * g + 0) (by omega)).2.2.2.1 (by omega)
  obtain ⟨h9, hh9, eh⟩ : inR ((ia w 112).getD (103 + 6 * g + 2) 0) 47 := (hI.s (103 + 6 * g + 2) (by omega)).2.2.2.2.2.1 (by omega)
  obtain ⟨k8, hk8, e0⟩ : inR ((ia w 112).getD (103 + 6 * t + 0) 0) 5 := (hI.s (103 + 6 * t + 0) (by omega)).2.2.2.1 (by omega)
  obtain ⟨h8, hh8, e2⟩ : inR ((ia w 112).getD (103 + 6 * t + 2) 0) 47 := (hI.s (103 + 6 * t + 2) (by omega)).2.2.2.2.2.1 (by omega)
  obtain ⟨y8, hy8, e3⟩ : inR ((ia w 112).getD (103 + 6 * t + 3) 0) 3 := (hI.s (103 + 6 * t + 3) (by omega)).2.2.2.2.2.2.1 (by omega)
  refine sx_RP.step (pc2 := 1) (ls2 := [(0, .ref 111), (1, .int (nI g)), (2, .int (nI t))]) (st2 := [.ref 111]) (w3 := w) rfl rfl ?_
  refine sx_RP.step (pc2 := 2) (ls2 := [(0, .ref 111), (1, .int (nI g)), (2, .int (nI t))]) (st2 := [.ref 111, .ref 111]) (w3 := w) rfl rfl ?_
  refine sx_RP.step (pc2 := 3) (ls2 := [(0, .ref 111), (1, .int (nI g)), (2, .int (nI t))]) (st2 := [.int (nI g), .ref 111, .ref 111]) (w3 := w) rfl rfl ?_
  refine sx_RP.step (pc2 := 4) (ls2 := [(0, .ref 111), (1, .int (nI g)), (2, .int (nI t))]) (st2 := [.int 2, .int (nI g), .ref 111, .ref 111]) (w3 := w) rfl rfl ?_
  refine sx_RP.cu (as := [.ref 111, .int (nI g), .int 2]) (rest2 := [.ref 111]) (st3 := [.int (nI h9), .ref 111]) rfl rfl (sx_inv_v2 (mi := 182) (k := 59) (st := [.int 2, .int (nI g), .ref 111, .ref 111]) (w := w) rfl rfl hI.1.o111 rfl rfl rfl) rfl rfl (x138e hI (show g < 10 by omega) (show 2 < 6 by decide) eh) rfl ?_
  refine sx_RP.step (pc2 := 8) (ls2 := [(0, .ref 111), (1, .int (nI g)), (2, .int (nI t))]) (st2 := [.int (nI g), .int (nI h9), .ref 111]) (w3 := w) rfl rfl ?_
  refine sx_RP.callp (as2 := [.ref 111, .int (nI h9), .int (nI g)]) (rest2 := []) rfl rfl (sx_inv_v2 (mi := 182) (k := 94) (st := [.int (nI g), .int (nI h9), .ref 111]) (w := w) rfl rfl hI.1.o111 rfl rfl rfl) rfl rfl rfl (X141d (d := d + 1) hI (show h9 < 48 by omega) (show g < 10 by omega) (show k9 < 6 by omega) ek hW) (show _ = 11 from rfl) ?_
  rintro r4 w3 ⟨⟨rfl, hr1⟩, hI4, hf2⟩
  show sx_RP _ _ _ _ _ [] _ _
  refine sx_RP.step (pc2 := 12) (ls2 := [(0, .ref 111), (1, .int (nI g)), (2, .int (nI t))]) (st2 := [.ref 111]) (w3 := w3) rfl rfl ?_
  refine sx_RP.gf (v := .ref 112) rfl rfl hI4.1.o111 rfl rfl (show _ = 15 from rfl) ?_
  refine sx_RP.step (pc2 := 16) (ls2 := [(0, .ref 111), (1, .int (nI g)), (2, .int (nI t))]) (st2 := [.ref 111, .ref 112]) (w3 := w3) rfl rfl ?_
  refine sx_RP.gf (v := .ref 114) rfl rfl hI4.1.o111 rfl rfl (show _ = 19 from rfl) ?_
  refine sx_RP.callp (as2 := [.ref 112, .ref 114]) (rest2 := []) rfl rfl rfl rfl rfl rfl (K175 hI4 (a := 112) (b := 114) (by decide) (by decide) (by decide)) (show _ = 22 from rfl) ?_
  rintro r4 w6 ⟨rfl, hI7, hl5⟩
  show sx_RP _ _ _ _ _ [] _ _
  refine sx_RP.step (pc2 := 23) (ls2 := [(0, .ref 111), (1, .int (nI g)), (2, .int (nI t))]) (st2 := [.int 0]) (w3 := w6) rfl rfl ?_
  refine sx_RP.step (pc2 := 24) (ls2 := [(3, .int 0), (0, .ref 111), (1, .int (nI g)), (2, .int (nI t))]) (st2 := []) (w3 := w6) rfl rfl ?_
  have ei : ia w6 112 = ia w 112 := (ia_of (hl5.1 112 (by decide))).trans (ia_of (hf2 112 (by decide) (by decide)))
  have ej : ia w6 114 = ia w 112 := hl5.2.trans (ia_of (hf2 112 (by decide) (by decide)))
  refine sx_RP.ls (sx_lr.cons rfl (sx_lr.cons rfl (sx_lr.cons rfl (sx_lr.cons rfl sx_lr.nil)))) (X182o (d := d) (g := g) (t := t) hn n 0 w6 (by omega) hI7 (by rw [ei]; exact en) (fun w3 h1 h2 h3 => ?_))
  rw [ei] at h2
  refine sx_RP.step (pc2 := 59) (ls2 := [(0, .ref 111), (1, .int (nI g)), (2, .int (nI t))]) (st2 := [.int 0]) (w3 := w3) rfl rfl ?_
  refine sx_RP.step (pc2 := 60) (ls2 := [(3, .int 0), (0, .ref 111), (1, .int (nI g)), (2, .int (nI t))]) (st2 := []) (w3 := w3) rfl rfl ?_
  refine sx_RP.step (pc2 := 61) (ls2 := [(3, .int 0), (0, .ref 111), (1, .int (nI g)), (2, .int (nI t))]) (st2 := [.int (-1)]) (w3 := w3) rfl rfl ?_
  refine sx_RP.step (pc2 := 63) (ls2 := [(4, .int (-1)), (3, .int 0), (0, .ref 111), (1, .int (nI g)), (2, .int (nI t))]) (st2 := []) (w3 := w3) rfl rfl ?_
  have eV := nmV_at (l := ia w 112) (g := g) (t := t) (show k9 < 6 by omega) (show h9 < 48 by omega) ek eh (show k8 < 6 by omega) (show h8 < 48 by omega) (show y8 < 4 by omega) e0 e2 e3
  rw [eV]
  refine sx_RP.ls (sx_lr.cons rfl (sx_lr.cons rfl (sx_lr.cons rfl (sx_lr.cons rfl (sx_lr.cons rfl sx_lr.nil))))) ((X182n (d := d) (g := g) (t := t) (w1 := w3) (D := dst (dgK (ia w 112) k9) h9) (gr := gdL (ia w 112)) (wl := wlL (ia w 112)) (by rw [ia_of (h3 117 (by decide)), ia_of (hl5.1 117 (by decide))]; exact hr1) hn htn (show k8 < 6 by omega) (show y8 < 4 by omega) (fun c hc => hW c hc) 61 0 w3 h8 _ _ (by omega) h1 (fun _ _ => rfl) (by omega) (by rw [h2]; exact Mi.os hI.1.a112.2 en hn htn e0 e2 e3 hs)).mono9 (fun r w2 z => ⟨z.1, z.2.1, ?_, fun a a1 a2 a3 a4 => ?_⟩))
  · rw [z.2.2.1, ia_of (h3 114 (by decide)), ej]
  · exact (z.2.2.2 a a1).trans ((h3 a a1).trans ((hl5.1 a a2).trans (hf2 a a3 a4)))
set_option maxRecDepth 20000 in
set_option maxHeartbeats 4000000 in
theorem x181oy {xs : Option (List Int32)} {d : Nat} {w : List sx_C} (hI : WI w) {g : Nat} (hg : g < 10) (hh : gF (ia w 112) g 1 = 1 ∧ gF (ia w 112) g 5 = 0) : sx_RU xs (d + 2) 181 0 (lv_args 0 [.ref 111, .int (nI g), .int 1]) [] w (some (.int (1))) w := by
  have h : sx_RP xs (d + 2) 181 0 (lv_args 0 [.ref 111, .int (nI g), .int 1]) [] w (fun r9 w2 => r9 = some (.int (1)) ∧ w2 = w) := by
    refine sx_RP.step (pc2 := 1) (ls2 := [(0, .ref 111), (1, .int (nI g)), (2, .int 1)]) (st2 := [.ref 111]) (w3 := w) rfl rfl ?_
    refine sx_RP.step (pc2 := 2) (ls2 := [(0, .ref 111), (1, .int (nI g)), (2, .int 1)]) (st2 := [.int (nI g), .ref 111]) (w3 := w) rfl rfl ?_
    rcases Decidable.em ((ia w 112).getD (103 + 6 * g + 5) 0 = 0) with ci | ci
    · refine sx_RP.cu (as := [.ref 111, .int (nI g)]) (rest2 := []) (st3 := [.int 1]) rfl rfl (sx_inv_v2 (mi := 181) (k := 74) (st := [.int (nI g), .ref 111]) (w := w) rfl rfl hI.1.o111 rfl rfl rfl) rfl rfl (x137y hI (by omega) ci) rfl ?_
      refine sx_RP.step (pc2 := 8) (ls2 := [(0, .ref 111), (1, .int (nI g)), (2, .int 1)]) (st2 := []) (w3 := w) rfl rfl ?_
      refine sx_RP.step (pc2 := 9) (ls2 := [(0, .ref 111), (1, .int (nI g)), (2, .int 1)]) (st2 := [.ref 111]) (w3 := w) rfl rfl ?_
      refine sx_RP.step (pc2 := 10) (ls2 := [(0, .ref 111), (1, .int (nI g)), (2, .int 1)]) (st2 := [.int (nI g), .ref 111]) (w3 := w) rfl rfl ?_
      refine sx_RP.step (pc2 := 11) (ls2 := [(0, .ref 111), (1, .int (nI g)), (2, .int 1)]) (st2 := [.int 1, .int (nI g), .ref 111]) (w3 := w) rfl rfl ?_
      refine sx_RP.cu (as := [.ref 111, .int (nI g), .int 1]) (rest2 := []) (st3 := [.int ((ia w 112).getD (103 + 6 * g + 1) 0)]) rfl rfl (sx_inv_v2 (mi := 181) (k := 59) (st := [.int 1, .int (nI g), .ref 111]) (w := w) rfl rfl hI.1.o111 rfl rfl rfl) rfl rfl (x138 hI hg (show 1 < 6 by decide)) rfl ?_
      refine sx_RP.step (pc2 := 15) (ls2 := [(0, .ref 111), (1, .int (nI g)), (2, .int 1)]) (st2 := [.int 1, .int ((ia w 112).getD (103 + 6 * g + 1) 0)]) (w3 := w) rfl rfl ?_
      refine sx_RP.br (p1 := 22) (l1 := [(0, .ref 111), (1, .int (nI g)), (2, .int 1)]) (s1 := []) (v1 := w) (p2 := 18) (l2 := [(0, .ref 111), (1, .int (nI g)), (2, .int 1)]) (s2 := []) (v2 := w) rfl rfl (fun q1 => ?_) (fun q1 => ?_)
      · replace q1 := of_decide_eq_true q1
        refine sx_RP.step (pc2 := 23) (ls2 := [(0, .ref 111), (1, .int (nI g)), (2, .int 1)]) (st2 := [.int 0]) (w3 := w) rfl rfl ?_
        refine sx_RP.ret (r := (some (.int 0))) rfl rfl ?_
        first | exact ⟨rfl, rfl⟩ | exact absurd hh.2 (by assumption) | exact absurd hh.1 (by assumption) | exact absurd ⟨by assumption, by assumption⟩ hh
      · replace q1 := Decidable.not_not.mp (of_decide_eq_false q1)
        refine sx_RP.step (pc2 := 19) (ls2 := [(0, .ref 111), (1, .int (nI g)), (2, .int 1)]) (st2 := [.int 1]) (w3 := w) rfl rfl ?_
        refine sx_RP.step (pc2 := 23) (ls2 := [(0, .ref 111), (1, .int (nI g)), (2, .int 1)]) (st2 := [.int 1]) (w3 := w) rfl rfl ?_
        refine sx_RP.ret (r := (some (.int 1))) rfl rfl ?_
        first | exact ⟨rfl, rfl⟩ | exact absurd hh.2 (by assumption) | exact absurd hh.1 (by assumption) | exact absurd ⟨by assumption, by assumption⟩ hh
    · refine sx_RP.cu (as := [.ref 111, .int (nI g)]) (rest2 := []) (st3 := [.int 0]) rfl rfl (sx_inv_v2 (mi := 181) (k := 74) (st := [.int (nI g), .ref 111]) (w := w) rfl rfl hI.1.o111 rfl rfl rfl) rfl rfl (x137n hI (by omega) ci) rfl ?_
      refine sx_RP.step (pc2 := 22) (ls2 := [(0, .ref 111), (1, .int (nI g)), (2, .int 1)]) (st2 := []) (w3 := w) rfl rfl ?_
      refine sx_RP.step (pc2 := 23) (ls2 := [(0, .ref 111), (1, .int (nI g)), (2, .int 1)]) (st2 := [.int 0]) (w3 := w) rfl rfl ?_
      refine sx_RP.ret (r := (some (.int 0))) rfl rfl ?_
      first | exact ⟨rfl, rfl⟩ | exact absurd hh.2 (by assumption) | exact absurd hh.1 (by assumption) | exact absurd ⟨by assumption, by assumption⟩ hh
  obtain ⟨r9, w2, h1, rfl, rfl⟩ := h
  exact h1
set_option maxRecDepth 20000 in
set_option maxHeartbeats 4000000 in
theorem x181on {xs : Option (List Int32)} {d : Nat} {w : List sx_C} (hI : WI w) {g : Nat} (hg : g < 10) (hh : ¬ (gF (ia w 112) g 1 = 1 ∧ gF (ia w 112) g 5 = 0)) : sx_RU xs (d + 2) 181 0 (lv_args 0 [.ref 111, .int (nI g), .int 1]) [] w (some (.int (0))) w := by
  have h : sx_RP xs (d + 2) 181 0 (lv_args 0 [.ref 111, .int (nI g), .int 1]) [] w (fun r9 w2 => r9 = some (.int (0)) ∧ w2 = w) := by
    refine sx_RP.step (pc2 := 1) (ls2 := [(0, .ref 111), (1, .int (nI g)), (2, .int 1)]) (st2 := [.ref 111]) (w3 := w) rfl rfl ?_
    refine sx_RP.step (pc2 := 2) (ls2 := [(0, .ref 111), (1, .int (nI g)), (2, .int 1)]) (st2 := [.int (nI g), .ref 111]) (w3 := w) rfl rfl ?_
    rcases Decidable.em ((ia w 112).getD (103 + 6 * g + 5) 0 = 0) with ci | ci
    · refine sx_RP.cu (as := [.ref 111, .int (nI g)]) (rest2 := []) (st3 := [.int 1]) rfl rfl (sx_inv_v2 (mi := 181) (k := 74) (st := [.int (nI g), .ref 111]) (w := w) rfl rfl hI.1.o111 rfl rfl rfl) rfl rfl (x137y hI (by omega) ci) rfl ?_
      refine sx_RP.step (pc2 := 8) (ls2 := [(0, .ref 111), (1, .int (nI g)), (2, .int 1)]) (st2 := []) (w3 := w) rfl rfl ?_
      refine sx_RP.step (pc2 := 9) (ls2 := [(0, .ref 111), (1, .int (nI g)), (2, .int 1)]) (st2 := [.ref 111]) (w3 := w) rfl rfl ?_
      refine sx_RP.step (pc2 := 10) (ls2 := [(0, .ref 111), (1, .int (nI g)), (2, .int 1)]) (st2 := [.int (nI g), .ref 111]) (w3 := w) rfl rfl ?_
      refine sx_RP.step (pc2 := 11) (ls2 := [(0, .ref 111), (1, .int (nI g)), (2, .int 1)]) (st2 := [.int 1, .int (nI g), .ref 111]) (w3 := w) rfl rfl ?_
      refine sx_RP.cu (as := [.ref 111, .int (nI g), .int 1]) (rest2 := []) (st3 := [.int ((ia w 112).getD (103 + 6 * g + 1) 0)]) rfl rfl (sx_inv_v2 (mi := 181) (k := 59) (st := [.int 1, .int (nI g), .ref 111]) (w := w) rfl rfl hI.1.o111 rfl rfl rfl) rfl rfl (x138 hI hg (show 1 < 6 by decide)) rfl ?_
      refine sx_RP.step (pc2 := 15) (ls2 := [(0, .ref 111), (1, .int (nI g)), (2, .int 1)]) (st2 := [.int 1, .int ((ia w 112).getD (103 + 6 * g + 1) 0)]) (w3 := w) rfl rfl ?_
      refine sx_RP.br (p1 := 22) (l1 := [(0, .ref 111), (1, .int (nI g)), (2, .int 1)]) (s1 := []) (v1 := w) (p2 := 18) (l2 := [(0, .ref 111), (1, .int (nI g)), (2, .int 1)]) (s2 := []) (v2 := w) rfl rfl (fun q1 => ?_) (fun q1 => ?_)
      · replace q1 := of_decide_eq_true q1
        refine sx_RP.step (pc2 := 23) (ls2 := [(0, .ref 111), (1, .int (nI g)), (2, .int 1)]) (st2 := [.int 0]) (w3 := w) rfl rfl ?_
        refine sx_RP.ret (r := (some (.int 0))) rfl rfl ?_
        first | exact ⟨rfl, rfl⟩ | exact absurd hh.2 (by assumption) | exact absurd hh.1 (by assumption) | exact absurd ⟨by assumption, by assumption⟩ hh
      · replace q1 := Decidable.not_not.mp (of_decide_eq_false q1)
        refine sx_RP.step (pc2 := 19) (ls2 := [(0, .ref 111), (1, .int (nI g)), (2, .int 1)]) (st2 := [.int 1]) (w3 := w) rfl rfl ?_
        refine sx_RP.step (pc2 := 23) (ls2 := [(0, .ref 111), (1, .int (nI g)), (2, .int 1)]) (st2 := [.int 1]) (w3 := w) rfl rfl ?_
        refine sx_RP.ret (r := (some (.int 1))) rfl rfl ?_
        first | exact ⟨rfl, rfl⟩ | exact absurd hh.2 (by assumption) | exact absurd hh.1 (by assumption) | exact absurd ⟨by assumption, by assumption⟩ hh
    · refine sx_RP.cu (as := [.ref 111, .int (nI g)]) (rest2 := []) (st3 := [.int 0]) rfl rfl (sx_inv_v2 (mi := 181) (k := 74) (st := [.int (nI g), .ref 111]) (w := w) rfl rfl hI.1.o111 rfl rfl rfl) rfl rfl (x137n hI (by omega) ci) rfl ?_
      refine sx_RP.step (pc2 := 22) (ls2 := [(0, .ref 111), (1, .int (nI g)), (2, .int 1)]) (st2 := []) (w3 := w) rfl rfl ?_
      refine sx_RP.step (pc2 := 23) (ls2 := [(0, .ref 111), (1, .int (nI g)), (2, .int 1)]) (st2 := [.int 0]) (w3 := w) rfl rfl ?_
      refine sx_RP.ret (r := (some (.int 0))) rfl rfl ?_
      first | exact ⟨rfl, rfl⟩ | exact absurd hh.2 (by assumption) | exact absurd hh.1 (by assumption) | exact absurd ⟨by assumption, by assumption⟩ hh
  obtain ⟨r9, w2, h1, rfl, rfl⟩ := h
  exact h1
set_option maxRecDepth 20000 in
set_option maxHeartbeats 4000000 in
theorem X183L {xs : Option (List Int32)} {d n t : Nat} {l : List Int32} (hn : n ≤ 10) (en : l.getD 1 0 = nI n) (ht : t < n) (hs : ¬ gF l t 1 = 1) (hW : WB l) : ∀ (q j : Nat) (w : List sx_C) (s b : Int32), j + q = n → WI w → ia w 112 = l → (b = -1 ∨ ∃ k, k < 48 ∧ b = nI k) → sx_RP xs (d + 7) 183 46 [(0, .ref 111), (1, .int (nI t)), (2, .int b), (3, .int s), (4, .int (nI j))] [] w (fun r w2 => r = some (.int (mnA (whF (whV l t) q j s b))) ∧ WI w2)
  | 0, j, w, s, b, hj, hI, el, hb => by
    obtain rfl : j = n := by omega
    have en1 : (ia w 112).getD 1 0 = nI j := by rw [el]; exact en
    have hs1 : ¬ gF (ia w 112) t 1 = 1 := by rw [el]; exact hs
    have hW1 : WB (ia w 112) := by rw [el]; exact hW
    rcases hb with rfl | ⟨k, hk, rfl⟩
    · refine sx_RP.step (pc2 := 48) (ls2 := [(0, .ref 111), (1, .int (nI t)), (2, .int (-1)), (3, .int s), (4, .int (nI j))]) (st2 := [.int (nI j)]) (w3 := w) rfl rfl ?_
      refine sx_RP.step (pc2 := 49) (ls2 := [(0, .ref 111), (1, .int (nI t)), (2, .int (-1)), (3, .int s), (4, .int (nI j))]) (st2 := [.ref 111, .int (nI j)]) (w3 := w) rfl rfl ?_
      refine sx_RP.gf (v := .ref 112) rfl rfl hI.1.o111 rfl rfl (show _ = 52 from rfl) ?_
      refine sx_RP.step (pc2 := 53) (ls2 := [(0, .ref 111), (1, .int (nI t)), (2, .int (-1)), (3, .int s), (4, .int (nI j))]) (st2 := [.int 1, .ref 112, .int (nI j)]) (w3 := w) rfl rfl ?_
      refine sx_RP.ild (c := 1) rfl hI.1.a112.1 hI.1.a112.2 (sx_in_nI (show 1 < 172 by omega) (by decide)) (show (nI 1).toNatClampNeg = 1 from nI_clamp (by omega)) (show _ = 54 from rfl) ?_
      rw [en1]
      refine sx_RP.br (p1 := 103) (l1 := [(0, .ref 111), (1, .int (nI t)), (2, .int (-1)), (3, .int s), (4, .int (nI j))]) (s1 := []) (v1 := w) rfl rfl (fun _ => ?_) (fun q => absurd (nI_le (a := j) (b := j) (by omega) (by omega)) (of_decide_eq_false q))
      refine sx_RP.step (pc2 := 104) (ls2 := [(0, .ref 111), (1, .int (nI t)), (2, .int (-1)), (3, .int s), (4, .int (nI j))]) (st2 := [.int (-1)]) (w3 := w) rfl rfl ?_
      refine sx_RP.step (pc2 := 107) (ls2 := [(0, .ref 111), (1, .int (nI t)), (2, .int (-1)), (3, .int s), (4, .int (nI j))]) (st2 := []) (w3 := w) rfl rfl ?_
      refine sx_RP.step (pc2 := 108) (ls2 := [(0, .ref 111), (1, .int (nI t)), (2, .int (-1)), (3, .int s), (4, .int (nI j))]) (st2 := [.ref 111]) (w3 := w) rfl rfl ?_
      refine sx_RP.step (pc2 := 109) (ls2 := [(0, .ref 111), (1, .int (nI t)), (2, .int (-1)), (3, .int s), (4, .int (nI j))]) (st2 := [.int 3, .ref 111]) (w3 := w) rfl rfl ?_
      refine sx_RP.callp (as2 := [.ref 111, .int 3]) (rest2 := []) rfl rfl (sx_inv_v2 (mi := 183) (k := 70) (st := [.int 3, .ref 111]) (w := w) rfl rfl hI.1.o111 rfl rfl rfl) rfl rfl rfl (S133_3 hI) (show _ = 112 from rfl) ?_
      rintro r4 w2 ⟨rfl, hI3, hs1⟩
      show sx_RP _ _ _ _ _ [.int (-1000000004)] _ _
      refine sx_RP.step (pc2 := 116) (ls2 := [(0, .ref 111), (1, .int (nI t)), (2, .int (-1)), (3, .int s), (4, .int (nI j))]) (st2 := [.int (-1000000004)]) (w3 := w2) rfl rfl ?_
      refine sx_RP.ret (r := (some (.int (-1000000004)))) rfl rfl ?_
      exact ⟨rfl, hI3⟩
    · refine sx_RP.step (pc2 := 48) (ls2 := [(0, .ref 111), (1, .int (nI t)), (2, .int (nI k)), (3, .int s), (4, .int (nI j))]) (st2 := [.int (nI j)]) (w3 := w) rfl rfl ?_
      refine sx_RP.step (pc2 := 49) (ls2 := [(0, .ref 111), (1, .int (nI t)), (2, .int (nI k)), (3, .int s), (4, .int (nI j))]) (st2 := [.ref 111, .int (nI j)]) (w3 := w) rfl rfl ?_
      refine sx_RP.gf (v := .ref 112) rfl rfl hI.1.o111 rfl rfl (show _ = 52 from rfl) ?_
      refine sx_RP.step (pc2 := 53) (ls2 := [(0, .ref 111), (1, .int (nI t)), (2, .int (nI k)), (3, .int s), (4, .int (nI j))]) (st2 := [.int 1, .ref 112, .int (nI j)]) (w3 := w) rfl rfl ?_
      refine sx_RP.ild (c := 1) rfl hI.1.a112.1 hI.1.a112.2 (sx_in_nI (show 1 < 172 by omega) (by decide)) (show (nI 1).toNatClampNeg = 1 from nI_clamp (by omega)) (show _ = 54 from rfl) ?_
      rw [en1]
      refine sx_RP.br (p1 := 103) (l1 := [(0, .ref 111), (1, .int (nI t)), (2, .int (nI k)), (3, .int s), (4, .int (nI j))]) (s1 := []) (v1 := w) rfl rfl (fun _ => ?_) (fun q => absurd (nI_le (a := j) (b := j) (by omega) (by omega)) (of_decide_eq_false q))
      refine sx_RP.step (pc2 := 104) (ls2 := [(0, .ref 111), (1, .int (nI t)), (2, .int (nI k)), (3, .int s), (4, .int (nI j))]) (st2 := [.int (nI k)]) (w3 := w) rfl rfl ?_
      refine sx_RP.br (p1 := 115) (l1 := [(0, .ref 111), (1, .int (nI t)), (2, .int (nI k)), (3, .int s), (4, .int (nI j))]) (s1 := []) (v1 := w) rfl rfl (fun _ => ?_) (fun q => absurd (nI_pos' (by omega)) (of_decide_eq_false q))
      refine sx_RP.step (pc2 := 116) (ls2 := [(0, .ref 111), (1, .int (nI t)), (2, .int (nI k)), (3, .int s), (4, .int (nI j))]) (st2 := [.int (nI k)]) (w3 := w) rfl rfl ?_
      refine sx_RP.ret (r := (some (.int (nI k)))) rfl rfl ?_
      exact ⟨by show _ = some (Value.int (mnA (nI k))); rw [mnA_k hk], hI⟩
  | q + 1, j, w, s, b, hj, hI, el, hb => by
    have en1 : (ia w 112).getD 1 0 = nI n := by rw [el]; exact en
    have hs1 : ¬ gF (ia w 112) t 1 = 1 := by rw [el]; exact hs
    have hW1 : WB (ia w 112) := by rw [el]; exact hW
    refine sx_RP.step (pc2 := 48) (ls2 := [(0, .ref 111), (1, .int (nI t)), (2, .int b), (3, .int s), (4, .int (nI j))]) (st2 := [.int (nI j)]) (w3 := w) rfl rfl ?_
    refine sx_RP.step (pc2 := 49) (ls2 := [(0, .ref 111), (1, .int (nI t)), (2, .int b), (3, .int s), (4, .int (nI j))]) (st2 := [.ref 111, .int (nI j)]) (w3 := w) rfl rfl ?_
    refine sx_RP.gf (v := .ref 112) rfl rfl hI.1.o111 rfl rfl (show _ = 52 from rfl) ?_
    refine sx_RP.step (pc2 := 53) (ls2 := [(0, .ref 111), (1, .int (nI t)), (2, .int b), (3, .int s), (4, .int (nI j))]) (st2 := [.int 1, .ref 112, .int (nI j)]) (w3 := w) rfl rfl ?_
    refine sx_RP.ild (c := 1) rfl hI.1.a112.1 hI.1.a112.2 (sx_in_nI (show 1 < 172 by omega) (by decide)) (show (nI 1).toNatClampNeg = 1 from nI_clamp (by omega)) (show _ = 54 from rfl) ?_
    rw [en1]
    refine sx_RP.br (p2 := 57) (l2 := [(0, .ref 111), (1, .int (nI t)), (2, .int b), (3, .int s), (4, .int (nI j))]) (s2 := []) (v2 := w) rfl rfl (fun q => absurd (of_decide_eq_true q) (fun z => absurd ((nI_leI (a := n) (b := j) (by omega) (by omega)).mp z) (by omega))) (fun _ => ?_)
    refine sx_RP.step (pc2 := 58) (ls2 := [(0, .ref 111), (1, .int (nI t)), (2, .int b), (3, .int s), (4, .int (nI j))]) (st2 := [.ref 111]) (w3 := w) rfl rfl ?_
    refine sx_RP.step (pc2 := 60) (ls2 := [(0, .ref 111), (1, .int (nI t)), (2, .int b), (3, .int s), (4, .int (nI j))]) (st2 := [.int (nI j), .ref 111]) (w3 := w) rfl rfl ?_
    refine sx_RP.step (pc2 := 61) (ls2 := [(0, .ref 111), (1, .int (nI t)), (2, .int b), (3, .int s), (4, .int (nI j))]) (st2 := [.int 1, .int (nI j), .ref 111]) (w3 := w) rfl rfl ?_
    rcases Decidable.em (gF (ia w 112) j 1 = 1 ∧ gF (ia w 112) j 5 = 0) with hclf1 | hclf1
    · refine sx_RP.cu (as := [.ref 111, .int (nI j), .int 1]) (rest2 := []) (st3 := [.int 1]) rfl rfl (sx_inv_v2 (mi := 183) (k := 165) (st := [.int 1, .int (nI j), .ref 111]) (w := w) rfl rfl hI.1.o111 rfl rfl rfl) rfl rfl (x181oy hI (show j < 10 by omega) hclf1) rfl ?_
      refine sx_RP.step (pc2 := 67) (ls2 := [(0, .ref 111), (1, .int (nI t)), (2, .int b), (3, .int s), (4, .int (nI j))]) (st2 := []) (w3 := w) rfl rfl ?_
      refine sx_RP.step (pc2 := 68) (ls2 := [(0, .ref 111), (1, .int (nI t)), (2, .int b), (3, .int s), (4, .int (nI j))]) (st2 := [.ref 111]) (w3 := w) rfl rfl ?_
      refine sx_RP.step (pc2 := 70) (ls2 := [(0, .ref 111), (1, .int (nI t)), (2, .int b), (3, .int s), (4, .int (nI j))]) (st2 := [.int (nI j), .ref 111]) (w3 := w) rfl rfl ?_
      refine sx_RP.step (pc2 := 71) (ls2 := [(0, .ref 111), (1, .int (nI t)), (2, .int b), (3, .int s), (4, .int (nI j))]) (st2 := [.int (nI t), .int (nI j), .ref 111]) (w3 := w) rfl rfl ?_
      refine sx_RP.callp (as2 := [.ref 111, .int (nI j), .int (nI t)]) (rest2 := []) rfl rfl (sx_inv_v2 (mi := 183) (k := 168) (st := [.int (nI t), .int (nI j), .ref 111]) (w := w) rfl rfl hI.1.o111 rfl rfl rfl) rfl rfl rfl (X182 (d := d + 1) hI hn en1 (show j < n by omega) (show t < n by omega) hs1 hW1) (show _ = 74 from rfl) ?_
      rintro r4 w3 ⟨rfl, hI4, he1, hf2⟩
      show sx_RP _ _ _ _ _ [.int (nmV (ia w 112) j t)] _ _
      refine sx_RP.step (pc2 := 78) (ls2 := [(0, .ref 111), (1, .int (nI t)), (2, .int b), (3, .int s), (4, .int (nI j))]) (st2 := [.int (nmV (ia w 112) j t)]) (w3 := w3) rfl rfl ?_
      refine sx_RP.step (pc2 := 80) (ls2 := [(5, .int (nmV (ia w 112) j t)), (0, .ref 111), (1, .int (nI t)), (2, .int b), (3, .int s), (4, .int (nI j))]) (st2 := []) (w3 := w3) rfl rfl ?_
      refine sx_RP.step (pc2 := 82) (ls2 := [(5, .int (nmV (ia w 112) j t)), (0, .ref 111), (1, .int (nI t)), (2, .int b), (3, .int s), (4, .int (nI j))]) (st2 := [.int (nmV (ia w 112) j t)]) (w3 := w3) rfl rfl ?_
      refine sx_RP.br (p1 := 97) (l1 := [(5, .int (nmV (ia w 112) j t)), (0, .ref 111), (1, .int (nI t)), (2, .int b), (3, .int s), (4, .int (nI j))]) (s1 := []) (v1 := w3) (p2 := 85) (l2 := [(5, .int (nmV (ia w 112) j t)), (0, .ref 111), (1, .int (nI t)), (2, .int b), (3, .int s), (4, .int (nI j))]) (s2 := []) (v2 := w3) rfl rfl (fun q5 => ?_) (fun q5 => ?_)
      · replace q5 := of_decide_eq_true q5
        refine sx_RP.step (pc2 := 100) (ls2 := [(4, .int ((nI j) + 1)), (5, .int (nmV (ia w 112) j t)), (0, .ref 111), (1, .int (nI t)), (2, .int b), (3, .int s)]) (st2 := []) (w3 := w3) rfl rfl ?_
        rw [nI_1 j]
        refine sx_RP.step (pc2 := 46) (ls2 := [(4, .int (nI (j + 1))), (5, .int (nmV (ia w 112) j t)), (0, .ref 111), (1, .int (nI t)), (2, .int b), (3, .int s)]) (st2 := []) (w3 := w3) rfl rfl ?_
        rw [el] at hclf1
        have eV : whV l t j = nmV (ia w 112) j t := by rw [el]; exact if_pos hclf1
        have g9 : ∀ x, x = nmV (ia w 112) j t → x < 0 → x = -1 := fun x ex hx => by rw [ex] at hx ⊢; exact nmV_lt (Int32.not_le.mpr hx)
        rw [wh_1 (f := whV l t) (eV.trans (g9 _ rfl q5))]
        exact sx_RP.ls (sx_lr.cons rfl (sx_lr.cons rfl (sx_lr.cons rfl (sx_lr.cons rfl (sx_lr.cons rfl sx_lr.nil))))) (X183L hn en ht hs hW q (j + 1) w3 s b (by omega) hI4 (he1.trans el) hb)
      · replace q5 := of_decide_eq_false q5
        refine sx_RP.step (pc2 := 87) (ls2 := [(5, .int (nmV (ia w 112) j t)), (0, .ref 111), (1, .int (nI t)), (2, .int b), (3, .int s), (4, .int (nI j))]) (st2 := [.int (nmV (ia w 112) j t)]) (w3 := w3) rfl rfl ?_
        refine sx_RP.step (pc2 := 88) (ls2 := [(5, .int (nmV (ia w 112) j t)), (0, .ref 111), (1, .int (nI t)), (2, .int b), (3, .int s), (4, .int (nI j))]) (st2 := [.int s, .int (nmV (ia w 112) j t)]) (w3 := w3) rfl rfl ?_
        refine sx_RP.br (p1 := 97) (l1 := [(5, .int (nmV (ia w 112) j t)), (0, .ref 111), (1, .int (nI t)), (2, .int b), (3, .int s), (4, .int (nI j))]) (s1 := []) (v1 := w3) (p2 := 91) (l2 := [(5, .int (nmV (ia w 112) j t)), (0, .ref 111), (1, .int (nI t)), (2, .int b), (3, .int s), (4, .int (nI j))]) (s2 := []) (v2 := w3) rfl rfl (fun q6 => ?_) (fun q6 => ?_)
        · replace q6 := of_decide_eq_true q6
          refine sx_RP.step (pc2 := 100) (ls2 := [(4, .int ((nI j) + 1)), (5, .int (nmV (ia w 112) j t)), (0, .ref 111), (1, .int (nI t)), (2, .int b), (3, .int s)]) (st2 := []) (w3 := w3) rfl rfl ?_
          rw [nI_1 j]
          refine sx_RP.step (pc2 := 46) (ls2 := [(4, .int (nI (j + 1))), (5, .int (nmV (ia w 112) j t)), (0, .ref 111), (1, .int (nI t)), (2, .int b), (3, .int s)]) (st2 := []) (w3 := w3) rfl rfl ?_
          rw [el] at hclf1
          have eV : whV l t j = nmV (ia w 112) j t := by rw [el]; exact if_pos hclf1
          have g9 : ∀ x, x = nmV (ia w 112) j t → x < 0 → x = -1 := fun x ex hx => by rw [ex] at hx ⊢; exact nmV_lt (Int32.not_le.mpr hx)
          rw [wh_2 (f := whV l t) (by rw [eV]; exact Int32.not_lt.mpr q6)]
          exact sx_RP.ls (sx_lr.cons rfl (sx_lr.cons rfl (sx_lr.cons rfl (sx_lr.cons rfl (sx_lr.cons rfl sx_lr.nil))))) (X183L hn en ht hs hW q (j + 1) w3 s b (by omega) hI4 (he1.trans el) hb)
        · replace q6 := of_decide_eq_false q6
          refine sx_RP.step (pc2 := 93) (ls2 := [(5, .int (nmV (ia w 112) j t)), (0, .ref 111), (1, .int (nI t)), (2, .int b), (3, .int s), (4, .int (nI j))]) (st2 := [.int (nI j)]) (w3 := w3) rfl rfl ?_
          refine sx_RP.step (pc2 := 94) (ls2 := [(2, .int (nI j)), (5, .int (nmV (ia w 112) j t)), (0, .ref 111), (1, .int (nI t)), (3, .int s), (4, .int (nI j))]) (st2 := []) (w3 := w3) rfl rfl ?_
          refine sx_RP.step (pc2 := 96) (ls2 := [(2, .int (nI j)), (5, .int (nmV (ia w 112) j t)), (0, .ref 111), (1, .int (nI t)), (3, .int s), (4, .int (nI j))]) (st2 := [.int (nmV (ia w 112) j t)]) (w3 := w3) rfl rfl ?_
          refine sx_RP.step (pc2 := 97) (ls2 := [(3, .int (nmV (ia w 112) j t)), (2, .int (nI j)), (5, .int (nmV (ia w 112) j t)), (0, .ref 111), (1, .int (nI t)), (4, .int (nI j))]) (st2 := []) (w3 := w3) rfl rfl ?_
          refine sx_RP.step (pc2 := 100) (ls2 := [(4, .int ((nI j) + 1)), (3, .int (nmV (ia w 112) j t)), (2, .int (nI j)), (5, .int (nmV (ia w 112) j t)), (0, .ref 111), (1, .int (nI t))]) (st2 := []) (w3 := w3) rfl rfl ?_
          rw [nI_1 j]
          refine sx_RP.step (pc2 := 46) (ls2 := [(4, .int (nI (j + 1))), (3, .int (nmV (ia w 112) j t)), (2, .int (nI j)), (5, .int (nmV (ia w 112) j t)), (0, .ref 111), (1, .int (nI t))]) (st2 := []) (w3 := w3) rfl rfl ?_
          rw [el] at hclf1
          have eV : whV l t j = nmV (ia w 112) j t := by rw [el]; exact if_pos hclf1
          have g9 : ∀ x, x = nmV (ia w 112) j t → x < 0 → x = -1 := fun x ex hx => by rw [ex] at hx ⊢; exact nmV_lt (Int32.not_le.mpr hx)
          rw [wh_y (f := whV l t) (by rw [eV]; exact fun z => q5 (by rw [z]; decide)) (by rw [eV]; exact Int32.not_le.mp q6), eV]
          exact sx_RP.ls (sx_lr.cons rfl (sx_lr.cons rfl (sx_lr.cons rfl (sx_lr.cons rfl (sx_lr.cons rfl sx_lr.nil))))) (X183L hn en ht hs hW q (j + 1) w3 _ _ (by omega) hI4 (he1.trans el) (Or.inr ⟨j, by omega, rfl⟩))
    · refine sx_RP.cu (as := [.ref 111, .int (nI j), .int 1]) (rest2 := []) (st3 := [.int 0]) rfl rfl (sx_inv_v2 (mi := 183) (k := 165) (st := [.int 1, .int (nI j), .ref 111]) (w := w) rfl rfl hI.1.o111 rfl rfl rfl) rfl rfl (x181on hI (show j < 10 by omega) hclf1) rfl ?_
      refine sx_RP.step (pc2 := 77) (ls2 := [(0, .ref 111), (1, .int (nI t)), (2, .int b), (3, .int s), (4, .int (nI j))]) (st2 := []) (w3 := w) rfl rfl ?_
      refine sx_RP.step (pc2 := 78) (ls2 := [(0, .ref 111), (1, .int (nI t)), (2, .int b), (3, .int s), (4, .int (nI j))]) (st2 := [.int (-1)]) (w3 := w) rfl rfl ?_
      refine sx_RP.step (pc2 := 80) (ls2 := [(5, .int (-1)), (0, .ref 111), (1, .int (nI t)), (2, .int b), (3, .int s), (4, .int (nI j))]) (st2 := []) (w3 := w) rfl rfl ?_
      refine sx_RP.step (pc2 := 82) (ls2 := [(5, .int (-1)), (0, .ref 111), (1, .int (nI t)), (2, .int b), (3, .int s), (4, .int (nI j))]) (st2 := [.int (-1)]) (w3 := w) rfl rfl ?_
      refine sx_RP.step (pc2 := 97) (ls2 := [(5, .int (-1)), (0, .ref 111), (1, .int (nI t)), (2, .int b), (3, .int s), (4, .int (nI j))]) (st2 := []) (w3 := w) rfl rfl ?_
      refine sx_RP.step (pc2 := 100) (ls2 := [(4, .int ((nI j) + 1)), (5, .int (-1)), (0, .ref 111), (1, .int (nI t)), (2, .int b), (3, .int s)]) (st2 := []) (w3 := w) rfl rfl ?_
      rw [nI_1 j]
      refine sx_RP.step (pc2 := 46) (ls2 := [(4, .int (nI (j + 1))), (5, .int (-1)), (0, .ref 111), (1, .int (nI t)), (2, .int b), (3, .int s)]) (st2 := []) (w3 := w) rfl rfl ?_
      rw [el] at hclf1
      rw [wh_1 (f := whV l t) (show whV l t j = -1 from if_neg hclf1)]
      exact sx_RP.ls (sx_lr.cons rfl (sx_lr.cons rfl (sx_lr.cons rfl (sx_lr.cons rfl (sx_lr.cons rfl sx_lr.nil))))) (X183L hn en ht hs hW q (j + 1) w s b (by omega) hI el hb)
set_option maxRecDepth 20000 in
set_option maxHeartbeats 4000000 in
theorem A183 {xs : Option (List Int32)} {d : Nat} {w : List sx_C} (hI : WI w) (hW : WB (ia w 112)) (a1 : Int32) : sx_RP xs (d + 7) 183 0 (lv_args 0 [.ref 111, .int a1]) [] w (fun r w2 => r = some (.int (whoA (ia w 112) a1)) ∧ WI w2) := by
  obtain ⟨n, hn, en⟩ := (hI.sA (a := 112) (by decide) 1 (by decide)).1 rfl
  refine sx_RP.step (pc2 := 1) (ls2 := [(0, .ref 111), (1, .int a1)]) (st2 := [.ref 111]) (w3 := w) rfl rfl ?_
  refine sx_RP.step (pc2 := 2) (ls2 := [(0, .ref 111), (1, .int a1)]) (st2 := [.int a1, .ref 111]) (w3 := w) rfl rfl ?_
  rcases Decidable.em (0 ≤ a1 ∧ a1 < nI n) with c1 | c1
  · obtain ⟨x2, hx3, rfl⟩ := idx_get c1 (by omega)
    refine sx_RP.cu (as := [.ref 111, .int (nI x2)]) (rest2 := []) (st3 := [.int 1]) rfl rfl (sx_inv_v2 (mi := 183) (k := 124) (st := [.int (nI x2), .ref 111]) (w := w) rfl rfl hI.1.o111 rfl rfl rfl) rfl rfl (p156y hI en hn c1) rfl ?_
    refine sx_RP.step (pc2 := 14) (ls2 := [(0, .ref 111), (1, .int (nI x2))]) (st2 := []) (w3 := w) rfl rfl ?_
    refine sx_RP.step (pc2 := 15) (ls2 := [(0, .ref 111), (1, .int (nI x2))]) (st2 := [.ref 111]) (w3 := w) rfl rfl ?_
    refine sx_RP.step (pc2 := 16) (ls2 := [(0, .ref 111), (1, .int (nI x2))]) (st2 := [.int (nI x2), .ref 111]) (w3 := w) rfl rfl ?_
    refine sx_RP.step (pc2 := 17) (ls2 := [(0, .ref 111), (1, .int (nI x2))]) (st2 := [.int 0, .int (nI x2), .ref 111]) (w3 := w) rfl rfl ?_
    rcases Decidable.em (gF (ia w 112) x2 1 = 0 ∧ gF (ia w 112) x2 5 = 0) with hclf0 | hclf0
    · refine sx_RP.cu (as := [.ref 111, .int (nI x2), .int 0]) (rest2 := []) (st3 := [.int 1]) rfl rfl (sx_inv_v2 (mi := 183) (k := 165) (st := [.int 0, .int (nI x2), .ref 111]) (w := w) rfl rfl hI.1.o111 rfl rfl rfl) rfl rfl (x181y hI (show x2 < 10 by omega) hclf0) rfl ?_
      refine sx_RP.step (pc2 := 23) (ls2 := [(0, .ref 111), (1, .int (nI x2))]) (st2 := []) (w3 := w) rfl rfl ?_
      refine sx_RP.step (pc2 := 24) (ls2 := [(0, .ref 111), (1, .int (nI x2))]) (st2 := [.ref 111]) (w3 := w) rfl rfl ?_
      refine sx_RP.step (pc2 := 26) (ls2 := [(0, .ref 111), (1, .int (nI x2))]) (st2 := [.int 60, .ref 111]) (w3 := w) rfl rfl ?_
      rcases Decidable.em ((ia w 112).getD 0 0 + 60 ≤ 999) with hc | hc
      · refine sx_RP.cu (as := [.ref 111, .int 60]) (rest2 := []) (st3 := [.int 0]) rfl rfl (sx_inv_v2 (mi := 183) (k := 149) (st := [.int 60, .ref 111]) (w := w) rfl rfl hI.1.o111 rfl rfl rfl) rfl rfl (x165n hI hc) rfl ?_
        refine sx_RP.step (pc2 := 38) (ls2 := [(0, .ref 111), (1, .int (nI x2))]) (st2 := []) (w3 := w) rfl rfl ?_
        refine sx_RP.step (pc2 := 39) (ls2 := [(0, .ref 111), (1, .int (nI x2))]) (st2 := [.int (-1)]) (w3 := w) rfl rfl ?_
        refine sx_RP.step (pc2 := 40) (ls2 := [(2, .int (-1)), (0, .ref 111), (1, .int (nI x2))]) (st2 := []) (w3 := w) rfl rfl ?_
        refine sx_RP.step (pc2 := 42) (ls2 := [(2, .int (-1)), (0, .ref 111), (1, .int (nI x2))]) (st2 := [.int 61]) (w3 := w) rfl rfl ?_
        refine sx_RP.step (pc2 := 43) (ls2 := [(3, .int 61), (2, .int (-1)), (0, .ref 111), (1, .int (nI x2))]) (st2 := []) (w3 := w) rfl rfl ?_
        refine sx_RP.step (pc2 := 44) (ls2 := [(3, .int 61), (2, .int (-1)), (0, .ref 111), (1, .int (nI x2))]) (st2 := [.int 0]) (w3 := w) rfl rfl ?_
        refine sx_RP.step (pc2 := 46) (ls2 := [(4, .int 0), (3, .int 61), (2, .int (-1)), (0, .ref 111), (1, .int (nI x2))]) (st2 := []) (w3 := w) rfl rfl ?_
        rw [whoA_y en hn (by omega) c1 ⟨hclf0, hc⟩]
        exact sx_RP.ls (sx_lr.cons rfl (sx_lr.cons rfl (sx_lr.cons rfl (sx_lr.cons rfl (sx_lr.cons rfl sx_lr.nil))))) (X183L hn en (show x2 < n by omega) (fun z => absurd (hclf0.1.symm.trans z) (by decide)) hW n 0 w 61 (-1) (by omega) hI rfl (Or.inl rfl))
      · refine sx_RP.cu (as := [.ref 111, .int 60]) (rest2 := []) (st3 := [.int 1]) rfl rfl (sx_inv_v2 (mi := 183) (k := 149) (st := [.int 60, .ref 111]) (w := w) rfl rfl hI.1.o111 rfl rfl rfl) rfl rfl (x165y hI hc) rfl ?_
        refine sx_RP.step (pc2 := 32) (ls2 := [(0, .ref 111), (1, .int (nI x2))]) (st2 := []) (w3 := w) rfl rfl ?_
        refine sx_RP.step (pc2 := 33) (ls2 := [(0, .ref 111), (1, .int (nI x2))]) (st2 := [.ref 111]) (w3 := w) rfl rfl ?_
        refine sx_RP.step (pc2 := 34) (ls2 := [(0, .ref 111), (1, .int (nI x2))]) (st2 := [.int 4, .ref 111]) (w3 := w) rfl rfl ?_
        refine sx_RP.callp (as2 := [.ref 111, .int 4]) (rest2 := []) rfl rfl (sx_inv_v2 (mi := 183) (k := 70) (st := [.int 4, .ref 111]) (w := w) rfl rfl hI.1.o111 rfl rfl rfl) rfl rfl rfl (S133_4 hI) (show _ = 37 from rfl) ?_
        rintro r4 w5 ⟨rfl, hI6, hs4⟩
        show sx_RP _ _ _ _ _ [.int (-1000000005)] _ _
        refine sx_RP.ret (r := (some (.int (-1000000005)))) rfl rfl ?_
        exact ⟨by rw [whoA_2 en (by omega) c1 (fun z => hc z.2)], hI6⟩
    · refine sx_RP.cu (as := [.ref 111, .int (nI x2), .int 0]) (rest2 := []) (st3 := [.int 0]) rfl rfl (sx_inv_v2 (mi := 183) (k := 165) (st := [.int 0, .int (nI x2), .ref 111]) (w := w) rfl rfl hI.1.o111 rfl rfl rfl) rfl rfl (x181n hI (show x2 < 10 by omega) hclf0) rfl ?_
      refine sx_RP.step (pc2 := 32) (ls2 := [(0, .ref 111), (1, .int (nI x2))]) (st2 := []) (w3 := w) rfl rfl ?_
      refine sx_RP.step (pc2 := 33) (ls2 := [(0, .ref 111), (1, .int (nI x2))]) (st2 := [.ref 111]) (w3 := w) rfl rfl ?_
      refine sx_RP.step (pc2 := 34) (ls2 := [(0, .ref 111), (1, .int (nI x2))]) (st2 := [.int 4, .ref 111]) (w3 := w) rfl rfl ?_
      refine sx_RP.callp (as2 := [.ref 111, .int 4]) (rest2 := []) rfl rfl (sx_inv_v2 (mi := 183) (k := 70) (st := [.int 4, .ref 111]) (w := w) rfl rfl hI.1.o111 rfl rfl rfl) rfl rfl rfl (S133_4 hI) (show _ = 37 from rfl) ?_
      rintro r4 w8 ⟨rfl, hI9, hs7⟩
      show sx_RP _ _ _ _ _ [.int (-1000000005)] _ _
      refine sx_RP.ret (r := (some (.int (-1000000005)))) rfl rfl ?_
      exact ⟨by rw [whoA_2 en (by omega) c1 (fun z => hclf0 z.1)], hI9⟩
  · refine sx_RP.cu (as := [.ref 111, .int a1]) (rest2 := []) (st3 := [.int 0]) rfl rfl (sx_inv_v2 (mi := 183) (k := 124) (st := [.int a1, .ref 111]) (w := w) rfl rfl hI.1.o111 rfl rfl rfl) rfl rfl (p156n hI en hn c1) rfl ?_
    refine sx_RP.step (pc2 := 8) (ls2 := [(0, .ref 111), (1, .int a1)]) (st2 := []) (w3 := w) rfl rfl ?_
    refine sx_RP.step (pc2 := 9) (ls2 := [(0, .ref 111), (1, .int a1)]) (st2 := [.ref 111]) (w3 := w) rfl rfl ?_
    refine sx_RP.step (pc2 := 10) (ls2 := [(0, .ref 111), (1, .int a1)]) (st2 := [.int 0, .ref 111]) (w3 := w) rfl rfl ?_
    refine sx_RP.callp (as2 := [.ref 111, .int 0]) (rest2 := []) rfl rfl (sx_inv_v2 (mi := 183) (k := 70) (st := [.int 0, .ref 111]) (w := w) rfl rfl hI.1.o111 rfl rfl rfl) rfl rfl rfl (S133_0 hI) (show _ = 13 from rfl) ?_
    rintro r4 w11 ⟨rfl, hI12, hs10⟩
    show sx_RP _ _ _ _ _ [.int (-1000000001)] _ _
    refine sx_RP.ret (r := (some (.int (-1000000001)))) rfl rfl ?_
    exact ⟨by rw [whoA_1 en c1], hI12⟩
theorem a61 {xs : Option (List Int32)} {d : Nat} {w : List sx_C} {s : ST} (hI : WI w) (hC : CLS w s) (a1 : Int32) : sx_RP xs (d + 7) 61 0 (lv_args 0 [.ref 0, .int a1]) [] w (fun r w2 => r = some (.int (whoA s.1 a1)) ∧ WI w2 ∧ CLS w2 (s) ∧ ∀ a, 111 ≤ a → w2[a]? = w[a]?) :=
  ((c61 (xs := xs) (d := d) hI hC a1).and (A61 hI s.1 hC.1.1 a1)).mono9 (fun r w2 z => ⟨z.2.1, z.1.2.1, z.1.2.2.1, z.1.2.2.2⟩)
theorem a183 {xs : Option (List Int32)} {d : Nat} {w : List sx_C} {s : ST} (hI : WI w) (hR : REF w s) (hW : WB s.1) (a1 : Int32) : sx_RP xs (d + 7) 183 0 (lv_args 0 [.ref 111, .int a1]) [] w (fun r w2 => r = some (.int (whoA s.1 a1)) ∧ WI w2 ∧ REF w2 (s) ∧ ∀ a, a < 111 → w2[a]? = w[a]?) := by
  refine ((r183 (xs := xs) (d := d) hI hR a1).and (A183 hI (by rw [hR.1.1]; exact hW) a1)).mono9 (fun r w2 z => ⟨?_, z.1.2.1, z.1.2.2.1, z.1.2.2.2⟩)
  rw [z.2.1, hR.1.1]
end
-- 89y46.where.lean.txt
section
section SXAB
variable {l : List Int32} {k c j : Nat}
theorem dpF_n {d t : Nat} (ht : t < 48) (e : l.getD (163 + d) 0 = nI t) : dpF l d = pesF l t := by
  unfold dpF
  rw [e, iN_n (by omega)]
end SXAB
section SXLF
variable {l : List Int32} {k c j : Nat}
end SXLF
section SXWB
variable {l : List Int32} {a1 : Int32} {k : Nat}
end SXWB
end
-- 89y47.ansD.lean.txt
section
def Snd (l : List Int32) (w : List sx_C) : Prop := rel w 1 l ∧ FIT w 1 ∧ SK w
theorem Snd.same {l : List Int32} {w w2 : List sx_C} (h : Snd l w) (hI : WI w) (hs : ∀ a, (a < 29 ∨ (44 ≤ a ∧ a < 96)) → w2[a]? = w[a]?) : Snd l w2 := ⟨h.1.same hI (Or.inl rfl) (fun a h1 h2 => hs a (by omega)), fun c hc => by rw [ia_of (hs 45 (by omega)), ia_of (hs (1 + 1) (by omega))]; exact h.2.1 c hc, h.2.2.same (fun a h1 h2 => hs a (by omega))⟩
section SXWX
variable {xs : Option (List Int32)} {d mi pc pc2 a idx p : Nat} {ls : sx_L} {r : List Value} {w w0 : List sx_C} {P : Option Value → List sx_C → Prop}
end SXWX
end
-- 89y48.read.lean.txt
section
def rdB (N : Nat → Int64) (m : List Int32) : Nat → Bool
  | 0 => true
  | j + 1 => rdB N m j && decide (N j = (dpF m j).toInt64)
def rnF (N : Nat → Int64) (n : Nat) : Nat → Nat → List Int32 → Int32
  | 0, _, _ => -1000000004
  | q + 1, j, m => if rdB N m n = true then nI j else rnF N n q (j + 1) (nigR m)
section SXRD
variable {N : Nat → Int64} {m : List Int32} {n q j : Nat}
theorem rdB_y (h : rdB N m j = true) (h2 : N j = (dpF m j).toInt64) : rdB N m (j + 1) = true := by
  show (rdB N m j && decide (N j = (dpF m j).toInt64)) = true
  rw [h, decide_eq_true h2]
  rfl
theorem rdB_n (h2 : ¬ N j = (dpF m j).toInt64) : rdB N m (j + 1) = false := by
  show (rdB N m j && decide (N j = (dpF m j).toInt64)) = false
  rw [decide_eq_false h2, Bool.and_false]
theorem rdB_dn (h : rdB N m j = false) : ∀ k : Nat, j ≤ k → rdB N m k = false
  | 0, hk => by
    obtain rfl : j = 0 := by omega
    exact h
  | k + 1, hk => by
    by_cases e : j = k + 1
    · rw [← e]
      exact h
    · show (rdB N m k && decide (N k = (dpF m k).toInt64)) = false
      rw [rdB_dn h k (by omega), Bool.false_and]
theorem rnF_y (h : rdB N m n = true) : rnF N n (q + 1) j m = nI j := by rw [rnF, if_pos h]
theorem rnF_n (h : rdB N m n = false) : rnF N n (q + 1) j m = rnF N n q (j + 1) (nigR m) := by rw [rnF, if_neg (by rw [h]; decide)]
end SXRD
theorem metR_o {l : List Int32} {g k : Nat} (hg : g < 10) (hk : k = 2 ∨ (4 ≤ k ∧ k < 103) ∨ 163 ≤ k) : (metR l g).getD k 0 = l.getD k 0 := by
  unfold metR
  split
  · rw [gd_ne (by omega), gd_ne (by omega)]
  · rfl
theorem digR_o {l : List Int32} {g k : Nat} (hg : g < 10) (hk : k = 2 ∨ (4 ≤ k ∧ k < 103) ∨ 163 ≤ k) : (digR l g).getD k 0 = l.getD k 0 := by
  unfold digR
  rw [gd_ne (by omega), gd_ne (by omega), gd_ne (by omega)]
theorem dgL_o {k : Nat} (hk : k = 2 ∨ (4 ≤ k ∧ k < 103) ∨ 163 ≤ k) : ∀ (q j : Nat) (l : List Int32), j + q ≤ 10 → (dgL q j l).getD k 0 = l.getD k 0
  | 0, _, _, _ => rfl
  | q + 1, j, l, h => by
    show (dgL q (j + 1) (if gF l j 5 = 0 then digR l j else l)).getD k 0 = _
    rw [dgL_o hk q (j + 1) _ (by omega)]
    split
    · exact digR_o (by omega) hk
    · rfl
theorem mtL_o {k : Nat} (hk : k = 2 ∨ (4 ≤ k ∧ k < 103) ∨ 163 ≤ k) : ∀ (q j : Nat) (l : List Int32), j + q ≤ 10 → (mtL q j l).getD k 0 = l.getD k 0
  | 0, _, _, _ => rfl
  | q + 1, j, l, h => by
    show (mtL q (j + 1) (metR l j)).getD k 0 = _
    rw [mtL_o hk q (j + 1) _ (by omega), metR_o (by omega) hk]
theorem nig_o {l : List Int32} {n k : Nat} (en : l.getD 1 0 = nI n) (hn : n ≤ 10) (hk : k = 2 ∨ (4 ≤ k ∧ k < 103) ∨ 163 ≤ k) : (nigR l).getD k 0 = l.getD k 0 := by
  unfold nigR
  rw [gd_ne (by omega), maN_n en hn, mtL_o hk n 0 _ (by omega), dgL_o hk n 0 _ (by omega)]
def SGr (l p : List Int32) : Prop := p.getD 1 0 = l.getD 1 0 ∧ p.getD 2 0 = l.getD 2 0 ∧ (∀ c, c < 48 → p.getD (7 + c) 0 = l.getD (7 + c) 0) ∧ ∀ d, p.getD (163 + d) 0 = l.getD (163 + d) 0
theorem SGr.rf {l : List Int32} : SGr l l := ⟨rfl, rfl, fun _ _ => rfl, fun _ => rfl⟩
theorem SGr.night {l p : List Int32} {n : Nat} (h : SGr l p) (en : l.getD 1 0 = nI n) (hn : n ≤ 10) : SGr l (nigR p) := by
  have en2 : p.getD 1 0 = nI n := h.1.trans en
  exact ⟨nigR_1.trans h.1, (nig_o en2 hn (by omega)).trans h.2.1, fun c hc => (nig_o en2 hn (by omega)).trans (h.2.2.1 c hc), fun d => (nig_o en2 hn (by omega)).trans (h.2.2.2 d)⟩
theorem SGr.far {l p : List Int32} (h : SGr l p) {f t : Nat} (hf : f < 48) (ht : t < 48) : farN (gdR p) f t = farN (gdR l) f t := farN_congr (fun c hc => by rw [gdR_at hc, gdR_at hc]; exact h.2.2.1 c hc) hf ht
def redA (F : Nat → Int32 × Int32) (N : Nat → Nat → Int64) (l : List Int32) (a1 : Int32) : Int32 := if 0 ≤ a1 ∧ a1 ≤ 3 then (if (F (iN a1)).1 = 0 then -1000000006 else (if l.getD 0 0 + 60 ≤ 999 then rnF (N (iN a1)) (min (iN (F (iN a1)).2) (iN (l.getD 2 0))) 61 0 l else -1000000005)) else -1000000001
section SXRA
variable {F : Nat → Int32 × Int32} {N : Nat → Nat → Int64} {l : List Int32} {a1 b : Int32} {s z m : Nat}
theorem red_1 (h : ¬ (0 ≤ a1 ∧ a1 ≤ 3)) : redA F N l a1 = -1000000001 := if_neg h
theorem red_2 {y : Int32} (hs : s < 4) (e : F s = (b, y)) (h : b = 0) : redA F N l (nI s) = -1000000006 := by
  unfold redA
  rw [iN_n (by omega), e, if_pos (cp_r hs), if_pos h]
theorem red_3 {y : Int32} (hs : s < 4) (e : F s = (b, y)) (h : ¬ b = 0) (h2 : ¬ l.getD 0 0 + 60 ≤ 999) : redA F N l (nI s) = -1000000005 := by
  unfold redA
  rw [iN_n (by omega), e, if_pos (cp_r hs), if_neg h, if_neg h2]
theorem red_y (hs : s < 4) (hz : z ≤ 40) (hm : m ≤ 9) (e : F s = (b, nI z)) (h : ¬ b = 0) (em : l.getD 2 0 = nI m) (h2 : l.getD 0 0 + 60 ≤ 999) : redA F N l (nI s) = rnF (N s) (min z m) 61 0 l := by
  unfold redA
  rw [iN_n (by omega), e, if_pos (cp_r hs), if_neg h, if_pos h2, em, iN_n (by omega)]
  show rnF (N s) (min z (iN (nI m))) 61 0 l = _
  rw [iN_n (by omega)]
end SXRA
end
-- 89y49.ansE.lean.txt
section
def Snt (l p : List Int32) (w : List sx_C) : Prop := Snd l w ∧ rel w 29 p
set_option maxRecDepth 20000 in
set_option maxHeartbeats 4000000 in
theorem x68t {xs : Option (List Int32)} {d c n : Nat} {w : List sx_C} {l p : List Int32} (hI : WI w) (hR : rel w 29 p) (hR1 : rel w 1 l) (hG : SGr l p) (hc : c < 48) (hn : n ≤ 10) (en : p.getD 1 0 = nI n) (hw : ∀ f, f < 48 → (ia w (47 + c)).getD f 0 = nI (farN (gdR l) f c)) : ∀ (q j : Nat), j + q = n → sx_RP xs (d + 4) 68 15 [(0, .ref 0), (1, .ref 29), (2, .int (nI c)), (3, .ref (47 + c)), (4, .int (peF p c j)), (5, .int (nI j))] [] w (fun r w2 => r = some (.int (peF p c n)) ∧ w2 = w)
  | 0, j, hj => by
    obtain rfl : j = n := by omega
    refine sx_RP.step (pc2 := 17) (ls2 := [(0, .ref 0), (1, .ref 29), (2, .int (nI c)), (3, .ref (47 + c)), (4, .int (peF p c j)), (5, .int (nI j))]) (st2 := [.int (nI j)]) (w3 := w) rfl rfl ?_
    refine sx_RP.step (pc2 := 18) (ls2 := [(0, .ref 0), (1, .ref 29), (2, .int (nI c)), (3, .ref (47 + c)), (4, .int (peF p c j)), (5, .int (nI j))]) (st2 := [.ref 29, .int (nI j)]) (w3 := w) rfl rfl ?_
    refine sx_RP.gc (k := 3) hI (Or.inr (Or.inr rfl)) rfl rfl (by omega) (show _ = 21 from rfl) ?_
    rw [(hR.many.trans en)]
    refine sx_RP.br (p1 := 68) (l1 := [(0, .ref 0), (1, .ref 29), (2, .int (nI c)), (3, .ref (47 + c)), (4, .int (peF p c j)), (5, .int (nI j))]) (s1 := []) (v1 := w) rfl rfl (fun _ => ?_) (fun q => absurd (nI_le (a := j) (b := j) (by omega) (by omega)) (of_decide_eq_false q))
    refine sx_RP.step (pc2 := 70) (ls2 := [(0, .ref 0), (1, .ref 29), (2, .int (nI c)), (3, .ref (47 + c)), (4, .int (peF p c j)), (5, .int (nI j))]) (st2 := [.int (peF p c j)]) (w3 := w) rfl rfl ?_
    refine sx_RP.ret (r := (some (.int (peF p c j)))) rfl rfl ?_
    exact ⟨rfl, rfl⟩
  | q + 1, j, hj => by
    refine sx_RP.step (pc2 := 17) (ls2 := [(0, .ref 0), (1, .ref 29), (2, .int (nI c)), (3, .ref (47 + c)), (4, .int (peF p c j)), (5, .int (nI j))]) (st2 := [.int (nI j)]) (w3 := w) rfl rfl ?_
    refine sx_RP.step (pc2 := 18) (ls2 := [(0, .ref 0), (1, .ref 29), (2, .int (nI c)), (3, .ref (47 + c)), (4, .int (peF p c j)), (5, .int (nI j))]) (st2 := [.ref 29, .int (nI j)]) (w3 := w) rfl rfl ?_
    refine sx_RP.gc (k := 3) hI (Or.inr (Or.inr rfl)) rfl rfl (by omega) (show _ = 21 from rfl) ?_
    rw [(hR.many.trans en)]
    refine sx_RP.br (p2 := 24) (l2 := [(0, .ref 0), (1, .ref 29), (2, .int (nI c)), (3, .ref (47 + c)), (4, .int (peF p c j)), (5, .int (nI j))]) (s2 := []) (v2 := w) rfl rfl (fun q => absurd (of_decide_eq_true q) (fun z => absurd ((nI_leI (a := n) (b := j) (by omega) (by omega)).mp z) (by omega))) (fun _ => ?_)
    refine sx_RP.step (pc2 := 25) (ls2 := [(0, .ref 0), (1, .ref 29), (2, .int (nI c)), (3, .ref (47 + c)), (4, .int (peF p c j)), (5, .int (nI j))]) (st2 := [.ref 29]) (w3 := w) rfl rfl ?_
    refine sx_RP.gref (k := 2) (b := 31) hI (Or.inr (Or.inr rfl)) rfl rfl (by omega) (show _ = 28 from rfl) ?_
    refine sx_RP.step (pc2 := 30) (ls2 := [(0, .ref 0), (1, .ref 29), (2, .int (nI c)), (3, .ref (47 + c)), (4, .int (peF p c j)), (5, .int (nI j))]) (st2 := [.int (nI j), .ref 31]) (w3 := w) rfl rfl ?_
    refine sx_RP.ald (v := .ref (29 + 4 + j)) rfl (hI.1.aG (Or.inr (Or.inr rfl))) rfl (grA_at (show j < 10 by omega)) (show _ = 31 from rfl) ?_
    refine sx_RP.step (pc2 := 33) (ls2 := [(6, .ref (29 + 4 + j)), (0, .ref 0), (1, .ref 29), (2, .int (nI c)), (3, .ref (47 + c)), (4, .int (peF p c j)), (5, .int (nI j))]) (st2 := []) (w3 := w) rfl rfl ?_
    refine sx_RP.step (pc2 := 35) (ls2 := [(6, .ref (29 + 4 + j)), (0, .ref 0), (1, .ref 29), (2, .int (nI c)), (3, .ref (47 + c)), (4, .int (peF p c j)), (5, .int (nI j))]) (st2 := [.ref (29 + 4 + j)]) (w3 := w) rfl rfl ?_
    refine sx_RP.step (pc2 := 36) (ls2 := [(6, .ref (29 + 4 + j)), (0, .ref 0), (1, .ref 29), (2, .int (nI c)), (3, .ref (47 + c)), (4, .int (peF p c j)), (5, .int (nI j))]) (st2 := [.int 0, .ref (29 + 4 + j)]) (w3 := w) rfl rfl ?_
    rcases Decidable.em (gF p j 1 = 0 ∧ gF p j 5 = 0) with hc2 | hc2
    · refine sx_RP.cu (as := [.ref (29 + 4 + j), .int 0]) (rest2 := []) (st3 := [.int 1]) rfl rfl (sx_inv_v2 (mi := 68) (k := 186) (st := [.int 0, .ref (29 + 4 + j)]) (w := w) rfl rfl (hI.1.oG (gAd.of (Or.inr (Or.inr rfl)) (show j < 10 by omega))) rfl rfl rfl) rfl rfl (x43y hI (gAd.of (Or.inr (Or.inr rfl)) (show j < 10 by omega)) ⟨(hR.ga (by rw [en, iN_n (by omega)]; omega) (by decide)).trans hc2.1, (hR.ga (by rw [en, iN_n (by omega)]; omega) (by decide)).trans hc2.2⟩) rfl ?_
      refine sx_RP.step (pc2 := 42) (ls2 := [(6, .ref (29 + 4 + j)), (0, .ref 0), (1, .ref 29), (2, .int (nI c)), (3, .ref (47 + c)), (4, .int (peF p c j)), (5, .int (nI j))]) (st2 := []) (w3 := w) rfl rfl ?_
      refine sx_RP.step (pc2 := 44) (ls2 := [(6, .ref (29 + 4 + j)), (0, .ref 0), (1, .ref 29), (2, .int (nI c)), (3, .ref (47 + c)), (4, .int (peF p c j)), (5, .int (nI j))]) (st2 := [.int (peF p c j)]) (w3 := w) rfl rfl ?_
      refine sx_RP.step (pc2 := 45) (ls2 := [(6, .ref (29 + 4 + j)), (0, .ref 0), (1, .ref 29), (2, .int (nI c)), (3, .ref (47 + c)), (4, .int (peF p c j)), (5, .int (nI j))]) (st2 := [.ref 0, .int (peF p c j)]) (w3 := w) rfl rfl ?_
      refine sx_RP.step (pc2 := 47) (ls2 := [(6, .ref (29 + 4 + j)), (0, .ref 0), (1, .ref 29), (2, .int (nI c)), (3, .ref (47 + c)), (4, .int (peF p c j)), (5, .int (nI j))]) (st2 := [.ref (29 + 4 + j), .ref 0, .int (peF p c j)]) (w3 := w) rfl rfl ?_
      refine sx_RP.gg (k := 0) hI (gAd.of (Or.inr (Or.inr rfl)) (show j < 10 by omega)) rfl rfl (by decide) (show _ = 50 from rfl) ?_
      obtain ⟨x1, hx2, ex3⟩ : inR (fi w (29 + 4 + j) 0) 5 := hI.gk (k := 0) (gAd.of (Or.inr (Or.inr rfl)) (show j < 10 by omega)) (by decide)
      rw [ex3]
      refine sx_RP.step (pc2 := 52) (ls2 := [(6, .ref (29 + 4 + j)), (0, .ref 0), (1, .ref 29), (2, .int (nI c)), (3, .ref (47 + c)), (4, .int (peF p c j)), (5, .int (nI j))]) (st2 := [.ref (29 + 4 + j), .int (nI x1), .ref 0, .int (peF p c j)]) (w3 := w) rfl rfl ?_
      refine sx_RP.gg (k := 2) hI (gAd.of (Or.inr (Or.inr rfl)) (show j < 10 by omega)) rfl rfl (by decide) (show _ = 55 from rfl) ?_
      obtain ⟨x4, hx5, ex6⟩ : inR (fi w (29 + 4 + j) 2) 47 := hI.gk (k := 2) (gAd.of (Or.inr (Or.inr rfl)) (show j < 10 by omega)) (by decide)
      rw [ex6]
      refine sx_RP.step (pc2 := 56) (ls2 := [(6, .ref (29 + 4 + j)), (0, .ref 0), (1, .ref 29), (2, .int (nI c)), (3, .ref (47 + c)), (4, .int (peF p c j)), (5, .int (nI j))]) (st2 := [.ref (47 + c), .int (nI x4), .int (nI x1), .ref 0, .int (peF p c j)]) (w3 := w) rfl rfl ?_
      refine sx_RP.cu (as := [.ref 0, .int (nI x1), .int (nI x4), .ref (47 + c)]) (rest2 := [.int (peF p c j)]) (st3 := [.int (ldV x1 (iN ((ia w (1 + 1)).getD x4 0)) / nI (1 + farN (gdR l) x4 c)), .int (peF p c j)]) rfl rfl (sx_inv_v2 (mi := 68) (k := 235) (st := [.ref (47 + c), .int (nI x4), .int (nI x1), .ref 0, .int (peF p c j)]) (w := w) rfl rfl hI.1.o0 rfl rfl rfl) rfl rfl (x69 hI (show x1 ≤ 5 by omega) (show x4 < 48 by omega) hc (far_fin _ (show x4 < 48 by omega) hc) (hw x4 (by omega))) rfl ?_
      refine sx_RP.step (pc2 := 60) (ls2 := [(6, .ref (29 + 4 + j)), (0, .ref 0), (1, .ref 29), (2, .int (nI c)), (3, .ref (47 + c)), (4, .int (peF p c j)), (5, .int (nI j))]) (st2 := [.int ((peF p c j) + (ldV x1 (iN ((ia w (1 + 1)).getD x4 0)) / nI (1 + farN (gdR l) x4 c)))]) (w3 := w) rfl rfl ?_
      refine sx_RP.step (pc2 := 62) (ls2 := [(4, .int ((peF p c j) + (ldV x1 (iN ((ia w (1 + 1)).getD x4 0)) / nI (1 + farN (gdR l) x4 c)))), (6, .ref (29 + 4 + j)), (0, .ref 0), (1, .ref 29), (2, .int (nI c)), (3, .ref (47 + c)), (5, .int (nI j))]) (st2 := []) (w3 := w) rfl rfl ?_
      refine sx_RP.step (pc2 := 65) (ls2 := [(5, .int ((nI j) + 1)), (4, .int ((peF p c j) + (ldV x1 (iN ((ia w (1 + 1)).getD x4 0)) / nI (1 + farN (gdR l) x4 c)))), (6, .ref (29 + 4 + j)), (0, .ref 0), (1, .ref 29), (2, .int (nI c)), (3, .ref (47 + c))]) (st2 := []) (w3 := w) rfl rfl ?_
      rw [nI_1 j]
      refine sx_RP.step (pc2 := 15) (ls2 := [(5, .int (nI (j + 1))), (4, .int ((peF p c j) + (ldV x1 (iN ((ia w (1 + 1)).getD x4 0)) / nI (1 + farN (gdR l) x4 c)))), (6, .ref (29 + 4 + j)), (0, .ref 0), (1, .ref 29), (2, .int (nI c)), (3, .ref (47 + c))]) (st2 := []) (w3 := w) rfl rfl ?_
      obtain ⟨s9, hs9, es9⟩ : inR ((ia w (1 + 1)).getD x4 0) 3 := hI.st (Or.inl rfl) (show x4 < 48 by omega)
      have es : p.getD (7 + x4) 0 = nI s9 := (hG.2.2.1 x4 (by omega)).trans ((hR1.gr (by omega)).symm.trans es9)
      have e9 : peF p c j + ldV x1 (iN ((ia w (1 + 1)).getD x4 0)) / nI (1 + farN (gdR l) x4 c) = peF p c (j + 1) := by
        show _ = peF p c j + heF p c j
        rw [he_y (k := x1) (h := x4) (s := s9) hc2 (by omega) (by omega) (by omega) ((hR.ga (by rw [en, iN_n (by omega)]; omega) (by decide)).symm.trans ex3) ((hR.ga (by rw [en, iN_n (by omega)]; omega) (by decide)).symm.trans ex6) es, es9, iN_n (by omega), hG.far (by omega) hc]
      rw [e9]
      exact sx_RP.ls (sx_lr.cons rfl (sx_lr.cons rfl (sx_lr.cons rfl (sx_lr.cons rfl (sx_lr.cons rfl (sx_lr.cons rfl sx_lr.nil)))))) (x68t hI hR hR1 hG hc hn en hw q (j + 1) (by omega))
    · refine sx_RP.cu (as := [.ref (29 + 4 + j), .int 0]) (rest2 := []) (st3 := [.int 0]) rfl rfl (sx_inv_v2 (mi := 68) (k := 186) (st := [.int 0, .ref (29 + 4 + j)]) (w := w) rfl rfl (hI.1.oG (gAd.of (Or.inr (Or.inr rfl)) (show j < 10 by omega))) rfl rfl rfl) rfl rfl (x43n hI (gAd.of (Or.inr (Or.inr rfl)) (show j < 10 by omega)) (fun z => hc2 ⟨(hR.ga (by rw [en, iN_n (by omega)]; omega) (by decide)).symm.trans z.1, (hR.ga (by rw [en, iN_n (by omega)]; omega) (by decide)).symm.trans z.2⟩)) rfl ?_
      refine sx_RP.step (pc2 := 62) (ls2 := [(6, .ref (29 + 4 + j)), (0, .ref 0), (1, .ref 29), (2, .int (nI c)), (3, .ref (47 + c)), (4, .int (peF p c j)), (5, .int (nI j))]) (st2 := []) (w3 := w) rfl rfl ?_
      refine sx_RP.step (pc2 := 65) (ls2 := [(5, .int ((nI j) + 1)), (6, .ref (29 + 4 + j)), (0, .ref 0), (1, .ref 29), (2, .int (nI c)), (3, .ref (47 + c)), (4, .int (peF p c j))]) (st2 := []) (w3 := w) rfl rfl ?_
      rw [nI_1 j]
      refine sx_RP.step (pc2 := 15) (ls2 := [(5, .int (nI (j + 1))), (6, .ref (29 + 4 + j)), (0, .ref 0), (1, .ref 29), (2, .int (nI c)), (3, .ref (47 + c)), (4, .int (peF p c j))]) (st2 := []) (w3 := w) rfl rfl ?_
      have e9 : peF p c j = peF p c (j + 1) := by show _ = peF p c j + heF p c j; rw [he_n hc2, Int32.add_zero]
      rw [e9]
      exact sx_RP.ls (sx_lr.cons rfl (sx_lr.cons rfl (sx_lr.cons rfl (sx_lr.cons rfl (sx_lr.cons rfl (sx_lr.cons rfl sx_lr.nil)))))) (x68t hI hR hR1 hG hc hn en hw q (j + 1) (by omega))
set_option maxRecDepth 20000 in
set_option maxHeartbeats 4000000 in
theorem X68t {xs : Option (List Int32)} {d : Nat} {w : List sx_C} (hI : WI w) {l p : List Int32} (hS : Snt l p w) (hG : SGr l p) {c : Nat} (hc : c < 48) : sx_RP xs (d + 4) 68 0 (lv_args 0 [.ref 0, .ref 29, .int (nI c)]) [] w (fun r w2 => r = some (.int (pesF p c)) ∧ WI w2 ∧ Snt l p w2 ∧ ∀ a, (a < 44 ∨ 96 ≤ a) → w2[a]? = w[a]?) := by
  obtain ⟨n, hn, en⟩ := hS.2.n10 hI (Or.inr (Or.inr rfl))
  refine sx_RP.step (pc2 := 1) (ls2 := [(0, .ref 0), (1, .ref 29), (2, .int (nI c))]) (st2 := [.ref 0]) (w3 := w) rfl rfl ?_
  refine sx_RP.gf (v := .ref 44) rfl rfl hI.1.o0 rfl rfl (show _ = 4 from rfl) ?_
  refine sx_RP.step (pc2 := 5) (ls2 := [(0, .ref 0), (1, .ref 29), (2, .int (nI c))]) (st2 := [.int (nI c), .ref 44]) (w3 := w) rfl rfl ?_
  refine sx_RP.callp (as2 := [.ref 44, .int (nI c)]) (rest2 := []) rfl rfl (sx_inv_v2 (mi := 68) (k := 99) (st := [.int (nI c), .ref 44]) (w := w) rfl rfl hI.1.o44 rfl rfl rfl) rfl rfl rfl (G17 hI (show c < 48 by omega)) (show _ = 8 from rfl) ?_
  rintro r4 w4 ⟨rfl, hI5, hS1, hx2, hf3⟩
  show sx_RP _ _ _ _ _ [.ref (47 + c)] _ _
  have hR6 : rel w4 1 l := hS.1.1.same hI (Or.inl rfl) (fun a h1 h2 => hf3 a (by omega))
  have hF7 : FIT w4 1 := fun c hc => by rw [hx2.1, ia_of (hf3 (1 + 1) (by omega))]; exact hS.1.2.1 c hc
  have hK8 : SK w4 := hS1.2 hS.1.2.2
  have hw9 : ∀ f, f < 48 → (ia w4 (47 + c)).getD f 0 = nI (farN (gdR l) f c) := fun f hf => by rw [hx2.2 hS.1.2.2 hS.1.2.1.ls f hf, fit_far hS.1.2.1 hS.1.1 hf (by omega)]
  refine sx_RP.step (pc2 := 9) (ls2 := [(3, .ref (47 + c)), (0, .ref 0), (1, .ref 29), (2, .int (nI c))]) (st2 := []) (w3 := w4) rfl rfl ?_
  refine sx_RP.step (pc2 := 10) (ls2 := [(3, .ref (47 + c)), (0, .ref 0), (1, .ref 29), (2, .int (nI c))]) (st2 := [.int 0]) (w3 := w4) rfl rfl ?_
  refine sx_RP.step (pc2 := 12) (ls2 := [(4, .int 0), (3, .ref (47 + c)), (0, .ref 0), (1, .ref 29), (2, .int (nI c))]) (st2 := []) (w3 := w4) rfl rfl ?_
  refine sx_RP.step (pc2 := 13) (ls2 := [(4, .int 0), (3, .ref (47 + c)), (0, .ref 0), (1, .ref 29), (2, .int (nI c))]) (st2 := [.int 0]) (w3 := w4) rfl rfl ?_
  refine sx_RP.step (pc2 := 15) (ls2 := [(5, .int 0), (4, .int 0), (3, .ref (47 + c)), (0, .ref 0), (1, .ref 29), (2, .int (nI c))]) (st2 := []) (w3 := w4) rfl rfl ?_
  have hRt : rel w4 29 p := hS.2.same hI (Or.inr (Or.inr rfl)) (fun a h1 h2 => hf3 a (by omega))
  refine (sx_RP.ls (sx_lr.cons rfl (sx_lr.cons rfl (sx_lr.cons rfl (sx_lr.cons rfl (sx_lr.cons rfl (sx_lr.cons rfl sx_lr.nil)))))) (x68t hI5 hRt hR6 hG hc hn en hw9 n 0 (by omega))).mono9 (fun r w2 z => ?_)
  obtain ⟨z1, z2⟩ := z
  rw [z2]
  exact ⟨by rw [z1]; unfold pesF; rw [en, iN_n (by omega)], hI5, ⟨⟨hR6, hF7, hK8⟩, hRt⟩, hf3⟩
set_option maxRecDepth 20000 in
set_option maxHeartbeats 4000000 in
theorem X123L {xs : Option (List Int32)} {d s n m : Nat} {w0 : List sx_C} {l p : List Int32} (hs : s < 4) (hn40 : n ≤ 40) (hnm : n ≤ m) (hm : m ≤ 9) (em : p.getD 2 0 = nI m) (hG : SGr l p) : ∀ (q j : Nat) (w : List sx_C), j + q = n → WI w → Snt l p w → (∀ a, (a < 44 ∨ 96 ≤ a) → w[a]? = w0[a]?) → rdB (NCs w0 s) p j = true → sx_RP xs (d + 5) 123 15 [(0, .ref 0), (1, .ref 29), (2, .ref (103 + 2 * s)), (3, .int (nI n)), (4, .int (nI j))] [] w (fun r w2 => ((r = some (.int 1) ∧ rdB (NCs w0 s) p n = true) ∨ (r = some (.int 0) ∧ rdB (NCs w0 s) p n = false)) ∧ WI w2 ∧ Snt l p w2 ∧ ∀ a, (a < 44 ∨ 96 ≤ a) → w2[a]? = w0[a]?)
  | 0, j, w, hj, hI, hS, hO, hA => by
    obtain rfl : j = n := by omega
    refine sx_RP.step (pc2 := 17) (ls2 := [(0, .ref 0), (1, .ref 29), (2, .ref (103 + 2 * s)), (3, .int (nI j)), (4, .int (nI j))]) (st2 := [.int (nI j)]) (w3 := w) rfl rfl ?_
    refine sx_RP.step (pc2 := 18) (ls2 := [(0, .ref 0), (1, .ref 29), (2, .ref (103 + 2 * s)), (3, .int (nI j)), (4, .int (nI j))]) (st2 := [.int (nI j), .int (nI j)]) (w3 := w) rfl rfl ?_
    refine sx_RP.br (p1 := 53) (l1 := [(0, .ref 0), (1, .ref 29), (2, .ref (103 + 2 * s)), (3, .int (nI j)), (4, .int (nI j))]) (s1 := []) (v1 := w) rfl rfl (fun _ => ?_) (fun q => absurd (nI_le (a := j) (b := j) (by omega) (by omega)) (of_decide_eq_false q))
    refine sx_RP.step (pc2 := 54) (ls2 := [(0, .ref 0), (1, .ref 29), (2, .ref (103 + 2 * s)), (3, .int (nI j)), (4, .int (nI j))]) (st2 := [.int 1]) (w3 := w) rfl rfl ?_
    refine sx_RP.ret (r := (some (.int 1))) rfl rfl ?_
    exact ⟨Or.inl ⟨rfl, hA⟩, hI, hS, hO⟩
  | q + 1, j, w, hj, hI, hS, hO, hA => by
    refine sx_RP.step (pc2 := 17) (ls2 := [(0, .ref 0), (1, .ref 29), (2, .ref (103 + 2 * s)), (3, .int (nI n)), (4, .int (nI j))]) (st2 := [.int (nI j)]) (w3 := w) rfl rfl ?_
    refine sx_RP.step (pc2 := 18) (ls2 := [(0, .ref 0), (1, .ref 29), (2, .ref (103 + 2 * s)), (3, .int (nI n)), (4, .int (nI j))]) (st2 := [.int (nI n), .int (nI j)]) (w3 := w) rfl rfl ?_
    refine sx_RP.br (p2 := 21) (l2 := [(0, .ref 0), (1, .ref 29), (2, .ref (103 + 2 * s)), (3, .int (nI n)), (4, .int (nI j))]) (s2 := []) (v2 := w) rfl rfl (fun q => absurd (of_decide_eq_true q) (fun z => absurd ((nI_leI (a := n) (b := j) (by omega) (by omega)).mp z) (by omega))) (fun _ => ?_)
    refine sx_RP.step (pc2 := 22) (ls2 := [(0, .ref 0), (1, .ref 29), (2, .ref (103 + 2 * s)), (3, .int (nI n)), (4, .int (nI j))]) (st2 := [.ref (103 + 2 * s)]) (w3 := w) rfl rfl ?_
    refine sx_RP.gf (v := .ref (104 + 2 * s)) rfl rfl (hI.1.oS (show s < 4 by omega)) rfl rfl (show _ = 25 from rfl) ?_
    refine sx_RP.step (pc2 := 27) (ls2 := [(0, .ref 0), (1, .ref 29), (2, .ref (103 + 2 * s)), (3, .int (nI n)), (4, .int (nI j))]) (st2 := [.int (nI j), .ref (104 + 2 * s)]) (w3 := w) rfl rfl ?_
    refine sx_RP.lld (c := j) rfl (hI.1.aN (show s < 4 by omega)).1 (hI.1.aN (show s < 4 by omega)).2 (sx_in_nI (show j < 40 by omega) (by decide)) (show (nI j).toNatClampNeg = j from nI_clamp (by omega)) (show _ = 28 from rfl) ?_
    refine sx_RP.step (pc2 := 29) (ls2 := [(0, .ref 0), (1, .ref 29), (2, .ref (103 + 2 * s)), (3, .int (nI n)), (4, .int (nI j))]) (st2 := [.ref 0, .long ((ja w (104 + 2 * s)).getD j 0)]) (w3 := w) rfl rfl ?_
    refine sx_RP.step (pc2 := 30) (ls2 := [(0, .ref 0), (1, .ref 29), (2, .ref (103 + 2 * s)), (3, .int (nI n)), (4, .int (nI j))]) (st2 := [.ref 29, .ref 0, .long ((ja w (104 + 2 * s)).getD j 0)]) (w3 := w) rfl rfl ?_
    refine sx_RP.step (pc2 := 31) (ls2 := [(0, .ref 0), (1, .ref 29), (2, .ref (103 + 2 * s)), (3, .int (nI n)), (4, .int (nI j))]) (st2 := [.ref 29, .ref 29, .ref 0, .long ((ja w (104 + 2 * s)).getD j 0)]) (w3 := w) rfl rfl ?_
    refine sx_RP.gref (k := 4) (b := 32) hI (Or.inr (Or.inr rfl)) rfl rfl (by omega) (show _ = 34 from rfl) ?_
    refine sx_RP.step (pc2 := 36) (ls2 := [(0, .ref 0), (1, .ref 29), (2, .ref (103 + 2 * s)), (3, .int (nI n)), (4, .int (nI j))]) (st2 := [.int (nI j), .ref 32, .ref 29, .ref 0, .long ((ja w (104 + 2 * s)).getD j 0)]) (w3 := w) rfl rfl ?_
    refine sx_RP.ild (c := j) rfl (hI.1.aD (Or.inr (Or.inr rfl))).1 (hI.1.aD (Or.inr (Or.inr rfl))).2 (sx_in_nI (show j < 9 by omega) (by decide)) (show (nI j).toNatClampNeg = j from nI_clamp (by omega)) (show _ = 37 from rfl) ?_
    obtain ⟨x1, hx2, ex3⟩ : inR ((ia w 32).getD j 0) 47 := hI.di (Or.inr (Or.inr rfl)) (show j < 9 by omega)
    rw [ex3]
    have eT : p.getD (163 + j) 0 = nI x1 := (hS.2.di (by rw [em, iN_n (by omega)]; omega)).symm.trans ex3
    refine sx_RP.callp (as2 := [.ref 0, .ref 29, .int (nI x1)]) (rest2 := [.long ((ja w (104 + 2 * s)).getD j 0)]) rfl rfl (sx_inv_v2 (mi := 123) (k := 231) (st := [.int (nI x1), .ref 29, .ref 0, .long ((ja w (104 + 2 * s)).getD j 0)]) (w := w) rfl rfl hI.1.o0 rfl rfl rfl) rfl rfl rfl (X68t (d := d) hI hS hG (show x1 < 48 by omega)) (show _ = 40 from rfl) ?_
    rintro r4 w6 ⟨rfl, hI7, hS4, hf5⟩
    show sx_RP _ _ _ _ _ [.int (pesF p x1), .long ((ja w (104 + 2 * s)).getD j 0)] _ _
    refine sx_RP.step (pc2 := 41) (ls2 := [(0, .ref 0), (1, .ref 29), (2, .ref (103 + 2 * s)), (3, .int (nI n)), (4, .int (nI j))]) (st2 := [.long ((pesF p x1).toInt64), .long ((ja w (104 + 2 * s)).getD j 0)]) (w3 := w6) rfl rfl ?_
    refine sx_RP.step (pc2 := 42) (ls2 := [(0, .ref 0), (1, .ref 29), (2, .ref (103 + 2 * s)), (3, .int (nI n)), (4, .int (nI j))]) (st2 := [.int (lg_cmp ((ja w (104 + 2 * s)).getD j 0) ((pesF p x1).toInt64))]) (w3 := w6) rfl rfl ?_
    refine sx_RP.br (p1 := 47) (l1 := [(0, .ref 0), (1, .ref 29), (2, .ref (103 + 2 * s)), (3, .int (nI n)), (4, .int (nI j))]) (s1 := []) (v1 := w6) (p2 := 45) (l2 := [(0, .ref 0), (1, .ref 29), (2, .ref (103 + 2 * s)), (3, .int (nI n)), (4, .int (nI j))]) (s2 := []) (v2 := w6) rfl rfl (fun q8 => ?_) (fun q8 => ?_)
    · replace q8 := of_decide_eq_true q8
      refine sx_RP.step (pc2 := 50) (ls2 := [(4, .int ((nI j) + 1)), (0, .ref 0), (1, .ref 29), (2, .ref (103 + 2 * s)), (3, .int (nI n))]) (st2 := []) (w3 := w6) rfl rfl ?_
      rw [nI_1 j]
      refine sx_RP.step (pc2 := 15) (ls2 := [(4, .int (nI (j + 1))), (0, .ref 0), (1, .ref 29), (2, .ref (103 + 2 * s)), (3, .int (nI n))]) (st2 := []) (w3 := w6) rfl rfl ?_
      have eN : NCs w0 s j = (ja w (104 + 2 * s)).getD j 0 := by rw [NCs_at hs (by omega), ja_of (hO (104 + 2 * s) (by omega))]
      have eD : dpF p j = pesF p x1 := dpF_n (show x1 < 48 by omega) eT
      exact sx_RP.ls (sx_lr.cons rfl (sx_lr.cons rfl (sx_lr.cons rfl (sx_lr.cons rfl (sx_lr.cons rfl sx_lr.nil))))) (X123L hs hn40 hnm hm em hG q (j + 1) w6 (by omega) hI7 hS4 (fun a ha => (hf5 a ha).trans (hO a ha)) (rdB_y hA (by rw [eN, eD]; exact (lg_cmp_eq _ _).mp q8)))
    · replace q8 := of_decide_eq_false q8
      refine sx_RP.step (pc2 := 46) (ls2 := [(0, .ref 0), (1, .ref 29), (2, .ref (103 + 2 * s)), (3, .int (nI n)), (4, .int (nI j))]) (st2 := [.int 0]) (w3 := w6) rfl rfl ?_
      refine sx_RP.ret (r := (some (.int 0))) rfl rfl ?_
      have eN : NCs w0 s j = (ja w (104 + 2 * s)).getD j 0 := by rw [NCs_at hs (by omega), ja_of (hO (104 + 2 * s) (by omega))]
      have eD : dpF p j = pesF p x1 := dpF_n (show x1 < 48 by omega) eT
      exact ⟨Or.inr ⟨rfl, rdB_dn (rdB_n (by rw [eN, eD]; exact fun z => q8 ((lg_cmp_eq _ _).mpr z))) n (by omega)⟩, hI7, hS4, fun a ha => (hf5 a ha).trans (hO a ha)⟩
set_option maxRecDepth 20000 in
set_option maxHeartbeats 4000000 in
theorem X123 {xs : Option (List Int32)} {d : Nat} {w : List sx_C} (hI : WI w) {s z m : Nat} {l p : List Int32} (hs : s < 4) (hz : z ≤ 40) (ez : fi w (103 + 2 * s) 2 = nI z) (hm : m ≤ 9) (em : p.getD 2 0 = nI m) (hG : SGr l p) (hS : Snt l p w) : sx_RP xs (d + 5) 123 0 (lv_args 0 [.ref 0, .ref 29, .ref (103 + 2 * s)]) [] w (fun r w2 => ((r = some (.int 1) ∧ rdB (NCs w s) p (min z m) = true) ∨ (r = some (.int 0) ∧ rdB (NCs w s) p (min z m) = false)) ∧ WI w2 ∧ Snt l p w2 ∧ ∀ a, (a < 44 ∨ 96 ≤ a) → w2[a]? = w[a]?) := by
  refine sx_RP.step (pc2 := 1) (ls2 := [(0, .ref 0), (1, .ref 29), (2, .ref (103 + 2 * s))]) (st2 := [.ref (103 + 2 * s)]) (w3 := w) rfl rfl ?_
  refine sx_RP.gf (v := .int (fi w (103 + 2 * s) 2)) rfl rfl (hI.1.oS (show s < 4 by omega)) rfl rfl (show _ = 4 from rfl) ?_
  rw [ez]
  refine sx_RP.step (pc2 := 5) (ls2 := [(0, .ref 0), (1, .ref 29), (2, .ref (103 + 2 * s))]) (st2 := [.ref 29, .int (nI z)]) (w3 := w) rfl rfl ?_
  refine sx_RP.gc (k := 5) hI (Or.inr (Or.inr rfl)) rfl rfl (by omega) (show _ = 8 from rfl) ?_
  rw [(hS.2.dished.trans em)]
  refine sx_RP.cu (as := [.int (nI z), .int (nI m)]) (rest2 := []) (st3 := [.int (nI (min z m))]) rfl rfl rfl rfl rfl (x97m hI (by omega) (by omega)) rfl ?_
  refine sx_RP.step (pc2 := 12) (ls2 := [(3, .int (nI (min z m))), (0, .ref 0), (1, .ref 29), (2, .ref (103 + 2 * s))]) (st2 := []) (w3 := w) rfl rfl ?_
  refine sx_RP.step (pc2 := 13) (ls2 := [(3, .int (nI (min z m))), (0, .ref 0), (1, .ref 29), (2, .ref (103 + 2 * s))]) (st2 := [.int 0]) (w3 := w) rfl rfl ?_
  refine sx_RP.step (pc2 := 15) (ls2 := [(4, .int 0), (3, .int (nI (min z m))), (0, .ref 0), (1, .ref 29), (2, .ref (103 + 2 * s))]) (st2 := []) (w3 := w) rfl rfl ?_
  exact sx_RP.ls (sx_lr.cons rfl (sx_lr.cons rfl (sx_lr.cons rfl (sx_lr.cons rfl (sx_lr.cons rfl sx_lr.nil))))) (X123L (w0 := w) (n := min z m) hs (by omega) (by omega) hm em hG (min z m) 0 w (by omega) hI hS (fun _ _ => rfl) rfl)
set_option maxRecDepth 20000 in
set_option maxHeartbeats 4000000 in
theorem X122L {xs : Option (List Int32)} {d s z n m : Nat} {w0 : List sx_C} {l : List Int32} (hs : s < 4) (hz : z ≤ 40) (ez : fi w0 (103 + 2 * s) 2 = nI z) (hn : n ≤ 10) (en : l.getD 1 0 = nI n) (hm : m ≤ 9) (em : l.getD 2 0 = nI m) : ∀ (q j : Nat) (w : List sx_C) (p : List Int32), j + q = 61 → 1 ≤ j → WI w → Snt l p w → SGr l p → (∀ a, (a < 29 ∨ 43 ≤ a) → (a < 44 ∨ 96 ≤ a) → w[a]? = w0[a]?) → sx_RP xs (d + 7) 122 82 [(0, .ref 0), (1, .int (nI s)), (2, .ref (103 + 2 * s)), (3, .int (nI j))] [] w (fun r w2 => r = some (.int (rnF (NCs w0 s) (min z m) q j (nigR p))) ∧ WI w2)
  | 0, j, w, p, hj, h1, hI, hS, hG, hO => by
    obtain rfl : j = 61 := by omega
    refine sx_RP.step (pc2 := 83) (ls2 := [(0, .ref 0), (1, .int (nI s)), (2, .ref (103 + 2 * s)), (3, .int 61)]) (st2 := [.int 61]) (w3 := w) rfl rfl ?_
    refine sx_RP.step (pc2 := 85) (ls2 := [(0, .ref 0), (1, .int (nI s)), (2, .ref (103 + 2 * s)), (3, .int 61)]) (st2 := [.int 60, .int 61]) (w3 := w) rfl rfl ?_
    refine sx_RP.step (pc2 := 120) (ls2 := [(0, .ref 0), (1, .int (nI s)), (2, .ref (103 + 2 * s)), (3, .int 61)]) (st2 := []) (w3 := w) rfl rfl ?_
    refine sx_RP.step (pc2 := 121) (ls2 := [(0, .ref 0), (1, .int (nI s)), (2, .ref (103 + 2 * s)), (3, .int 61)]) (st2 := [.ref 0]) (w3 := w) rfl rfl ?_
    refine sx_RP.step (pc2 := 123) (ls2 := [(0, .ref 0), (1, .int (nI s)), (2, .ref (103 + 2 * s)), (3, .int 61)]) (st2 := [.int (-1000000004), .ref 0]) (w3 := w) rfl rfl ?_
    refine sx_RP.callp (as2 := [.ref 0, .int (-1000000004)]) (rest2 := []) rfl rfl (sx_inv_v2 (mi := 122) (k := 78) (st := [.int (-1000000004), .ref 0]) (w := w) rfl rfl hI.1.o0 rfl rfl rfl) rfl rfl rfl (S9_3 hI) (show _ = 126 from rfl) ?_
    rintro r4 w2 ⟨rfl, hI3, hs1⟩
    show sx_RP _ _ _ _ _ [.int (-1000000004)] _ _
    refine sx_RP.ret (r := (some (.int (-1000000004)))) rfl rfl ?_
    exact ⟨rfl, hI3⟩
  | q + 1, j, w, p, hj, h1, hI, hS, hG, hO => by
    refine sx_RP.step (pc2 := 83) (ls2 := [(0, .ref 0), (1, .int (nI s)), (2, .ref (103 + 2 * s)), (3, .int (nI j))]) (st2 := [.int (nI j)]) (w3 := w) rfl rfl ?_
    refine sx_RP.step (pc2 := 85) (ls2 := [(0, .ref 0), (1, .int (nI s)), (2, .ref (103 + 2 * s)), (3, .int (nI j))]) (st2 := [.int 60, .int (nI j)]) (w3 := w) rfl rfl ?_
    refine sx_RP.br (p2 := 88) (l2 := [(0, .ref 0), (1, .int (nI s)), (2, .ref (103 + 2 * s)), (3, .int (nI j))]) (s2 := []) (v2 := w) rfl rfl (fun q => absurd (of_decide_eq_true q) (fun z => absurd ((nI_ltI (a := 60) (b := j) (by omega) (by omega)).mp z) (by omega))) (fun _ => ?_)
    refine sx_RP.step (pc2 := 89) (ls2 := [(0, .ref 0), (1, .int (nI s)), (2, .ref (103 + 2 * s)), (3, .int (nI j))]) (st2 := [.int (nI j)]) (w3 := w) rfl rfl ?_
    refine sx_RP.br (p2 := 92) (l2 := [(0, .ref 0), (1, .int (nI s)), (2, .ref (103 + 2 * s)), (3, .int (nI j))]) (s2 := []) (v2 := w) rfl rfl (fun q => absurd (of_decide_eq_true q) (fun z => absurd ((nI_leI (a := j) (b := 0) (by omega) (by decide)).mp z) (by omega))) (fun _ => ?_)
    refine sx_RP.step (pc2 := 93) (ls2 := [(0, .ref 0), (1, .int (nI s)), (2, .ref (103 + 2 * s)), (3, .int (nI j))]) (st2 := [.ref 0]) (w3 := w) rfl rfl ?_
    refine sx_RP.gf (v := .ref 29) rfl rfl hI.1.o0 rfl rfl (show _ = 96 from rfl) ?_
    refine sx_RP.callp (as2 := [.ref 29]) (rest2 := []) rfl rfl (sx_inv_v2 (mi := 122) (k := 166) (st := [.ref 29]) (w := w) rfl rfl (hI.1.oC (Or.inr (Or.inr rfl))) rfl rfl rfl) rfl rfl rfl (X41 (d := d + 2) hI (Or.inr (Or.inr rfl)) hS.2 hn (hG.1.trans en)) (show _ = 99 from rfl) ?_
    rintro r4 w2 ⟨⟨rfl, hR1⟩, hI3, ho⟩
    show sx_RP _ _ _ _ _ [.int (lfF p 0 n + lfF p 1 n - lfF (nigR p) 0 n - lfF (nigR p) 1 n)] _ _
    refine sx_RP.step (pc2 := 100) (ls2 := [(0, .ref 0), (1, .int (nI s)), (2, .ref (103 + 2 * s)), (3, .int (nI j))]) (st2 := []) (w3 := w2) rfl rfl ?_
    refine sx_RP.step (pc2 := 101) (ls2 := [(0, .ref 0), (1, .int (nI s)), (2, .ref (103 + 2 * s)), (3, .int (nI j))]) (st2 := [.ref 0]) (w3 := w2) rfl rfl ?_
    refine sx_RP.step (pc2 := 102) (ls2 := [(0, .ref 0), (1, .int (nI s)), (2, .ref (103 + 2 * s)), (3, .int (nI j))]) (st2 := [.ref 0, .ref 0]) (w3 := w2) rfl rfl ?_
    refine sx_RP.gf (v := .ref 29) rfl rfl hI3.1.o0 rfl rfl (show _ = 105 from rfl) ?_
    refine sx_RP.step (pc2 := 106) (ls2 := [(0, .ref 0), (1, .int (nI s)), (2, .ref (103 + 2 * s)), (3, .int (nI j))]) (st2 := [.ref (103 + 2 * s), .ref 29, .ref 0]) (w3 := w2) rfl rfl ?_
    have hSn : Snt l (nigR p) w2 := ⟨hS.1.same hI (fun a ha => ho a (by omega)), hR1⟩
    have eN : NCs w2 s = NCs w0 s := congrFun (NCs_eq (fun q hq => (ho _ (by omega)).trans (hO _ (by omega) (by omega)))) s
    refine sx_RP.callp (as2 := [.ref 0, .ref 29, .ref (103 + 2 * s)]) (rest2 := []) rfl rfl (sx_inv_v2 (mi := 122) (k := 341) (st := [.ref (103 + 2 * s), .ref 29, .ref 0]) (w := w2) rfl rfl hI3.1.o0 rfl rfl rfl) rfl rfl rfl (X123 (d := d + 1) hI3 hs hz ((fi_same 2 ((ho _ (by omega)).trans (hO _ (by omega) (by omega)))).trans ez) hm ((hG.night en hn).2.1.trans em) (hG.night en hn) hSn) (show _ = 109 from rfl) ?_
    rintro r4 w4 ⟨(⟨rfl, hB⟩ | ⟨rfl, hB⟩), hI5, hS9, hf9⟩
    · show sx_RP _ _ _ _ _ [.int 1] _ _
      refine sx_RP.step (pc2 := 112) (ls2 := [(0, .ref 0), (1, .int (nI s)), (2, .ref (103 + 2 * s)), (3, .int (nI j))]) (st2 := []) (w3 := w4) rfl rfl ?_
      refine sx_RP.step (pc2 := 113) (ls2 := [(0, .ref 0), (1, .int (nI s)), (2, .ref (103 + 2 * s)), (3, .int (nI j))]) (st2 := [.int (nI j)]) (w3 := w4) rfl rfl ?_
      refine sx_RP.ret (r := (some (.int (nI j)))) rfl rfl ?_
      exact ⟨by rw [rnF_y (by rw [← eN]; exact hB)], hI5⟩
    · show sx_RP _ _ _ _ _ [.int 0] _ _
      refine sx_RP.step (pc2 := 114) (ls2 := [(0, .ref 0), (1, .int (nI s)), (2, .ref (103 + 2 * s)), (3, .int (nI j))]) (st2 := []) (w3 := w4) rfl rfl ?_
      refine sx_RP.step (pc2 := 117) (ls2 := [(3, .int ((nI j) + 1)), (0, .ref 0), (1, .int (nI s)), (2, .ref (103 + 2 * s))]) (st2 := []) (w3 := w4) rfl rfl ?_
      rw [nI_1 j]
      refine sx_RP.step (pc2 := 82) (ls2 := [(3, .int (nI (j + 1))), (0, .ref 0), (1, .int (nI s)), (2, .ref (103 + 2 * s))]) (st2 := []) (w3 := w4) rfl rfl ?_
      rw [rnF_n (by rw [← eN]; exact hB)]
      exact sx_RP.ls (sx_lr.cons rfl (sx_lr.cons rfl (sx_lr.cons rfl (sx_lr.cons rfl sx_lr.nil)))) (X122L hs hz ez hn en hm em q (j + 1) w4 _ (by omega) (by omega) hI5 hS9 (hG.night en hn) (fun a h1 h2 => (hf9 a (by omega)).trans ((ho a (by omega)).trans (hO a h1 h2))))
set_option maxRecDepth 20000 in
set_option maxHeartbeats 4000000 in
theorem A122 {xs : Option (List Int32)} {d : Nat} {w : List sx_C} (hI : WI w) (l : List Int32) (hR : rel w 1 l) (hK : SK w) (a1 : Int32) : sx_RP xs (d + 7) 122 0 (lv_args 0 [.ref 0, .int a1]) [] w (fun r w2 => r = some (.int (redA (FCs w) (NCs w) l a1)) ∧ WI w2) := by
  obtain ⟨n, hn, en⟩ := hR.n10 hI (Or.inl rfl)
  obtain ⟨m, hm, em⟩ := hR.m9 hI (Or.inl rfl)
  refine sx_RP.step (pc2 := 1) (ls2 := [(0, .ref 0), (1, .int a1)]) (st2 := [.int a1]) (w3 := w) rfl rfl ?_
  rcases in_cases a1 0 3 (m := 0) (n := 3) rfl rfl (by decide) (by decide) with q1 | ⟨x2, hx3, hx4, rfl⟩
  · refine sx_RP.cu (as := [.int a1]) (rest2 := []) (st3 := [.int 0]) rfl rfl rfl rfl rfl (cx_112n q1) rfl ?_
    refine sx_RP.step (pc2 := 7) (ls2 := [(0, .ref 0), (1, .int a1)]) (st2 := []) (w3 := w) rfl rfl ?_
    refine sx_RP.step (pc2 := 8) (ls2 := [(0, .ref 0), (1, .int a1)]) (st2 := [.ref 0]) (w3 := w) rfl rfl ?_
    refine sx_RP.step (pc2 := 10) (ls2 := [(0, .ref 0), (1, .int a1)]) (st2 := [.int (-1000000001), .ref 0]) (w3 := w) rfl rfl ?_
    refine sx_RP.callp (as2 := [.ref 0, .int (-1000000001)]) (rest2 := []) rfl rfl (sx_inv_v2 (mi := 122) (k := 78) (st := [.int (-1000000001), .ref 0]) (w := w) rfl rfl hI.1.o0 rfl rfl rfl) rfl rfl rfl (S9_0 hI) (show _ = 13 from rfl) ?_
    rintro r4 w7 ⟨rfl, hI8, hs6⟩
    show sx_RP _ _ _ _ _ [.int (-1000000001)] _ _
    refine sx_RP.ret (r := (some (.int (-1000000001)))) rfl rfl ?_
    exact ⟨by rw [red_1 q1], hI8⟩
  · refine sx_RP.cu (as := [.int (nI x2)]) (rest2 := []) (st3 := [.int 1]) rfl rfl rfl rfl rfl (cx_112p ⟨nI_le (a := 0) hx3 (by omega), nI_le (b := 3) hx4 (by decide)⟩) rfl ?_
    refine sx_RP.step (pc2 := 14) (ls2 := [(0, .ref 0), (1, .int (nI x2))]) (st2 := []) (w3 := w) rfl rfl ?_
    refine sx_RP.step (pc2 := 15) (ls2 := [(0, .ref 0), (1, .int (nI x2))]) (st2 := [.ref 0]) (w3 := w) rfl rfl ?_
    refine sx_RP.gf (v := .ref 98) rfl rfl hI.1.o0 rfl rfl (show _ = 18 from rfl) ?_
    refine sx_RP.step (pc2 := 19) (ls2 := [(0, .ref 0), (1, .int (nI x2))]) (st2 := [.int (nI x2), .ref 98]) (w3 := w) rfl rfl ?_
    refine sx_RP.ald (v := .ref (103 + 2 * x2)) rfl hI.1.a98 rfl (shA_at (show x2 < 4 by omega)) (show _ = 20 from rfl) ?_
    refine sx_RP.step (pc2 := 21) (ls2 := [(2, .ref (103 + 2 * x2)), (0, .ref 0), (1, .int (nI x2))]) (st2 := []) (w3 := w) rfl rfl ?_
    refine sx_RP.step (pc2 := 22) (ls2 := [(2, .ref (103 + 2 * x2)), (0, .ref 0), (1, .int (nI x2))]) (st2 := [.ref (103 + 2 * x2)]) (w3 := w) rfl rfl ?_
    rcases Decidable.em (fi w (103 + 2 * x2) 1 = 0) with c9 | c9
    · refine sx_RP.cu (as := [.ref (103 + 2 * x2)]) (rest2 := []) (st3 := [.int 1]) rfl rfl (sx_inv_v2 (mi := 122) (k := 310) (st := [.ref (103 + 2 * x2)]) (w := w) rfl rfl (hI.1.oS (show x2 < 4 by omega)) rfl rfl rfl) rfl rfl (p116y hI (show x2 < 4 by omega) c9) rfl ?_
      refine sx_RP.step (pc2 := 28) (ls2 := [(2, .ref (103 + 2 * x2)), (0, .ref 0), (1, .int (nI x2))]) (st2 := []) (w3 := w) rfl rfl ?_
      refine sx_RP.step (pc2 := 29) (ls2 := [(2, .ref (103 + 2 * x2)), (0, .ref 0), (1, .int (nI x2))]) (st2 := [.ref 0]) (w3 := w) rfl rfl ?_
      refine sx_RP.step (pc2 := 32) (ls2 := [(2, .ref (103 + 2 * x2)), (0, .ref 0), (1, .int (nI x2))]) (st2 := [.int (-1000000006), .ref 0]) (w3 := w) rfl rfl ?_
      refine sx_RP.callp (as2 := [.ref 0, .int (-1000000006)]) (rest2 := []) rfl rfl (sx_inv_v2 (mi := 122) (k := 78) (st := [.int (-1000000006), .ref 0]) (w := w) rfl rfl hI.1.o0 rfl rfl rfl) rfl rfl rfl (S9_5 hI) (show _ = 35 from rfl) ?_
      rintro r4 w11 ⟨rfl, hI12, hs10⟩
      show sx_RP _ _ _ _ _ [.int (-1000000006)] _ _
      refine sx_RP.ret (r := (some (.int (-1000000006)))) rfl rfl ?_
      exact ⟨by rw [red_2 (F := FCs w) (show x2 < 4 by omega) (FCs_at (by omega)) c9], hI12⟩
    · refine sx_RP.cu (as := [.ref (103 + 2 * x2)]) (rest2 := []) (st3 := [.int 0]) rfl rfl (sx_inv_v2 (mi := 122) (k := 310) (st := [.ref (103 + 2 * x2)]) (w := w) rfl rfl (hI.1.oS (show x2 < 4 by omega)) rfl rfl rfl) rfl rfl (p116n hI (show x2 < 4 by omega) c9) rfl ?_
      refine sx_RP.step (pc2 := 36) (ls2 := [(2, .ref (103 + 2 * x2)), (0, .ref 0), (1, .int (nI x2))]) (st2 := []) (w3 := w) rfl rfl ?_
      refine sx_RP.step (pc2 := 37) (ls2 := [(2, .ref (103 + 2 * x2)), (0, .ref 0), (1, .int (nI x2))]) (st2 := [.ref 0]) (w3 := w) rfl rfl ?_
      refine sx_RP.gf (v := .ref 1) rfl rfl hI.1.o0 rfl rfl (show _ = 40 from rfl) ?_
      refine sx_RP.step (pc2 := 42) (ls2 := [(2, .ref (103 + 2 * x2)), (0, .ref 0), (1, .int (nI x2))]) (st2 := [.int 60, .ref 1]) (w3 := w) rfl rfl ?_
      rcases Decidable.em (l.getD 0 0 + 60 ≤ 999) with hc | hc
      · refine sx_RP.cu (as := [.ref 1, .int 60]) (rest2 := []) (st3 := [.int 1]) rfl rfl (sx_inv_v2 (mi := 122) (k := 163) (st := [.int 60, .ref 1]) (w := w) rfl rfl (hI.1.oC (Or.inl rfl)) rfl rfl rfl) rfl rfl (x40y hI (Or.inl rfl) (by rw [hR.night]; exact hc)) rfl ?_
        refine sx_RP.step (pc2 := 55) (ls2 := [(2, .ref (103 + 2 * x2)), (0, .ref 0), (1, .int (nI x2))]) (st2 := []) (w3 := w) rfl rfl ?_
        refine sx_RP.step (pc2 := 56) (ls2 := [(2, .ref (103 + 2 * x2)), (0, .ref 0), (1, .int (nI x2))]) (st2 := [.ref 0]) (w3 := w) rfl rfl ?_
        refine sx_RP.gf (v := .ref 44) rfl rfl hI.1.o0 rfl rfl (show _ = 59 from rfl) ?_
        refine sx_RP.step (pc2 := 60) (ls2 := [(2, .ref (103 + 2 * x2)), (0, .ref 0), (1, .int (nI x2))]) (st2 := [.ref 0, .ref 44]) (w3 := w) rfl rfl ?_
        refine sx_RP.gf (v := .ref 1) rfl rfl hI.1.o0 rfl rfl (show _ = 63 from rfl) ?_
        refine sx_RP.gref (k := 0) (b := 2) hI (Or.inl rfl) rfl rfl (by omega) (show _ = 66 from rfl) ?_
        obtain ⟨z, hz, ez⟩ := hI.sh (show x2 < 4 by omega)
        refine sx_RP.callp (as2 := [.ref 44, .ref 2]) (rest2 := []) rfl rfl (sx_inv_v2 (mi := 122) (k := 95) (st := [.ref 2, .ref 44]) (w := w) rfl rfl hI.1.o44 rfl rfl rfl) rfl rfl rfl (G16 (A := 1) hI (Or.inl rfl)) (show _ = 69 from rfl) ?_
        rintro r4 w16 ⟨rfl, hI17, hS13, hF14, hf15⟩
        show sx_RP _ _ _ _ _ [] _ _
        have hR18 : rel w16 1 l := hR.same hI (Or.inl rfl) (fun a h1 h2 => hf15 a (by omega))
        have hK19 : SK w16 := hS13.2 hK
        refine sx_RP.step (pc2 := 70) (ls2 := [(2, .ref (103 + 2 * x2)), (0, .ref 0), (1, .int (nI x2))]) (st2 := [.ref 0]) (w3 := w16) rfl rfl ?_
        refine sx_RP.gf (v := .ref 29) rfl rfl hI17.1.o0 rfl rfl (show _ = 73 from rfl) ?_
        refine sx_RP.step (pc2 := 74) (ls2 := [(2, .ref (103 + 2 * x2)), (0, .ref 0), (1, .int (nI x2))]) (st2 := [.ref 0, .ref 29]) (w3 := w16) rfl rfl ?_
        refine sx_RP.gf (v := .ref 1) rfl rfl hI17.1.o0 rfl rfl (show _ = 77 from rfl) ?_
        refine sx_RP.callp (as2 := [.ref 29, .ref 1]) (rest2 := []) rfl rfl (sx_inv_v2 (mi := 122) (k := 179) (st := [.ref 1, .ref 29]) (w := w16) rfl rfl (hI17.1.oC (Or.inr (Or.inr rfl))) rfl rfl rfl) rfl rfl rfl (X50 hI17 (Or.inr (Or.inr rfl)) (Or.inl rfl) (by omega)) (show _ = 80 from rfl) ?_
        rintro r4 w21 ⟨rfl, hI22, ht20⟩
        show sx_RP _ _ _ _ _ [] _ _
        refine sx_RP.step (pc2 := 81) (ls2 := [(2, .ref (103 + 2 * x2)), (0, .ref 0), (1, .int (nI x2))]) (st2 := [.int 0]) (w3 := w21) rfl rfl ?_
        refine sx_RP.step (pc2 := 82) (ls2 := [(3, .int 0), (2, .ref (103 + 2 * x2)), (0, .ref 0), (1, .int (nI x2))]) (st2 := []) (w3 := w21) rfl rfl ?_
        refine sx_RP.step (pc2 := 83) (ls2 := [(3, .int 0), (2, .ref (103 + 2 * x2)), (0, .ref 0), (1, .int (nI x2))]) (st2 := [.int 0]) (w3 := w21) rfl rfl ?_
        refine sx_RP.step (pc2 := 85) (ls2 := [(3, .int 0), (2, .ref (103 + 2 * x2)), (0, .ref 0), (1, .int (nI x2))]) (st2 := [.int 60, .int 0]) (w3 := w21) rfl rfl ?_
        refine sx_RP.step (pc2 := 88) (ls2 := [(3, .int 0), (2, .ref (103 + 2 * x2)), (0, .ref 0), (1, .int (nI x2))]) (st2 := []) (w3 := w21) rfl rfl ?_
        refine sx_RP.step (pc2 := 89) (ls2 := [(3, .int 0), (2, .ref (103 + 2 * x2)), (0, .ref 0), (1, .int (nI x2))]) (st2 := [.int 0]) (w3 := w21) rfl rfl ?_
        refine sx_RP.step (pc2 := 100) (ls2 := [(3, .int 0), (2, .ref (103 + 2 * x2)), (0, .ref 0), (1, .int (nI x2))]) (st2 := []) (w3 := w21) rfl rfl ?_
        refine sx_RP.step (pc2 := 101) (ls2 := [(3, .int 0), (2, .ref (103 + 2 * x2)), (0, .ref 0), (1, .int (nI x2))]) (st2 := [.ref 0]) (w3 := w21) rfl rfl ?_
        refine sx_RP.step (pc2 := 102) (ls2 := [(3, .int 0), (2, .ref (103 + 2 * x2)), (0, .ref 0), (1, .int (nI x2))]) (st2 := [.ref 0, .ref 0]) (w3 := w21) rfl rfl ?_
        refine sx_RP.gf (v := .ref 29) rfl rfl hI22.1.o0 rfl rfl (show _ = 105 from rfl) ?_
        refine sx_RP.step (pc2 := 106) (ls2 := [(3, .int 0), (2, .ref (103 + 2 * x2)), (0, .ref 0), (1, .int (nI x2))]) (st2 := [.ref (103 + 2 * x2), .ref 29, .ref 0]) (w3 := w21) rfl rfl ?_
        have hSt : Snt l l w21 := ⟨(show Snd l _ from ⟨hR18, hF14, hK19⟩).same hI17 (fun a ha => ht20.1 a (by omega)), hR18.took ht20⟩
        have eN : NCs w21 x2 = NCs w x2 := congrFun (NCs_eq (fun q hq => (ht20.1 _ (by omega)).trans (hf15 _ (by omega)))) x2
        refine sx_RP.callp (as2 := [.ref 0, .ref 29, .ref (103 + 2 * x2)]) (rest2 := []) rfl rfl (sx_inv_v2 (mi := 122) (k := 341) (st := [.ref (103 + 2 * x2), .ref 29, .ref 0]) (w := w21) rfl rfl hI22.1.o0 rfl rfl rfl) rfl rfl rfl (X123 (d := d + 1) hI22 (show x2 < 4 by omega) hz ((fi_same 2 ((ht20.1 _ (by omega)).trans (hf15 _ (by omega)))).trans ez) hm em SGr.rf hSt) (show _ = 109 from rfl) ?_
        rintro r4 w23 ⟨(⟨rfl, hB⟩ | ⟨rfl, hB⟩), hI24, hS9, hf9⟩
        · show sx_RP _ _ _ _ _ [.int 1] _ _
          refine sx_RP.step (pc2 := 112) (ls2 := [(3, .int 0), (2, .ref (103 + 2 * x2)), (0, .ref 0), (1, .int (nI x2))]) (st2 := []) (w3 := w23) rfl rfl ?_
          refine sx_RP.step (pc2 := 113) (ls2 := [(3, .int 0), (2, .ref (103 + 2 * x2)), (0, .ref 0), (1, .int (nI x2))]) (st2 := [.int 0]) (w3 := w23) rfl rfl ?_
          refine sx_RP.ret (r := (some (.int 0))) rfl rfl ?_
          rw [red_y (F := FCs w) (N := NCs w) (b := fi w (103 + 2 * x2) 1) (show x2 < 4 by omega) hz hm ((FCs_at (by omega)).trans (by rw [ez])) c9 em hc]
          exact ⟨by rw [rnF_y (by rw [← eN]; exact hB)]; rfl, hI24⟩
        · show sx_RP _ _ _ _ _ [.int 0] _ _
          refine sx_RP.step (pc2 := 114) (ls2 := [(3, .int 0), (2, .ref (103 + 2 * x2)), (0, .ref 0), (1, .int (nI x2))]) (st2 := []) (w3 := w23) rfl rfl ?_
          refine sx_RP.step (pc2 := 117) (ls2 := [(3, .int 1), (2, .ref (103 + 2 * x2)), (0, .ref 0), (1, .int (nI x2))]) (st2 := []) (w3 := w23) rfl rfl ?_
          refine sx_RP.step (pc2 := 82) (ls2 := [(3, .int 1), (2, .ref (103 + 2 * x2)), (0, .ref 0), (1, .int (nI x2))]) (st2 := []) (w3 := w23) rfl rfl ?_
          rw [red_y (F := FCs w) (N := NCs w) (b := fi w (103 + 2 * x2) 1) (show x2 < 4 by omega) hz hm ((FCs_at (by omega)).trans (by rw [ez])) c9 em hc]
          rw [rnF_n (by rw [← eN]; exact hB)]
          exact sx_RP.ls (sx_lr.cons rfl (sx_lr.cons rfl (sx_lr.cons rfl (sx_lr.cons rfl sx_lr.nil)))) (X122L (w0 := w) (show x2 < 4 by omega) hz ez hn en hm em 60 1 w23 l (by omega) (by omega) hI24 hS9 SGr.rf (fun a h1 h2 => (hf9 a h2).trans ((ht20.1 a (by omega)).trans (hf15 a (by omega)))))
      · refine sx_RP.cu (as := [.ref 1, .int 60]) (rest2 := []) (st3 := [.int 0]) rfl rfl (sx_inv_v2 (mi := 122) (k := 163) (st := [.int 60, .ref 1]) (w := w) rfl rfl (hI.1.oC (Or.inl rfl)) rfl rfl rfl) rfl rfl (x40n hI (Or.inl rfl) (by rw [hR.night]; exact hc)) rfl ?_
        refine sx_RP.step (pc2 := 48) (ls2 := [(2, .ref (103 + 2 * x2)), (0, .ref 0), (1, .int (nI x2))]) (st2 := []) (w3 := w) rfl rfl ?_
        refine sx_RP.step (pc2 := 49) (ls2 := [(2, .ref (103 + 2 * x2)), (0, .ref 0), (1, .int (nI x2))]) (st2 := [.ref 0]) (w3 := w) rfl rfl ?_
        refine sx_RP.step (pc2 := 51) (ls2 := [(2, .ref (103 + 2 * x2)), (0, .ref 0), (1, .int (nI x2))]) (st2 := [.int (-1000000005), .ref 0]) (w3 := w) rfl rfl ?_
        refine sx_RP.callp (as2 := [.ref 0, .int (-1000000005)]) (rest2 := []) rfl rfl (sx_inv_v2 (mi := 122) (k := 78) (st := [.int (-1000000005), .ref 0]) (w := w) rfl rfl hI.1.o0 rfl rfl rfl) rfl rfl rfl (S9_4 hI) (show _ = 54 from rfl) ?_
        rintro r4 w26 ⟨rfl, hI27, hs25⟩
        show sx_RP _ _ _ _ _ [.int (-1000000005)] _ _
        refine sx_RP.ret (r := (some (.int (-1000000005)))) rfl rfl ?_
        exact ⟨by rw [red_3 (F := FCs w) (show x2 < 4 by omega) (FCs_at (by omega)) c9 hc], hI27⟩
theorem a122 {xs : Option (List Int32)} {d : Nat} {w : List sx_C} {s : ST} (hI : WI w) (hC : CLS w s) (a1 : Int32) : sx_RP xs (d + 7) 122 0 (lv_args 0 [.ref 0, .int a1]) [] w (fun r w2 => r = some (.int (redA s.2.2.2.2.1 s.2.2.2.2.2 s.1 a1)) ∧ WI w2 ∧ CLS w2 (s) ∧ ∀ a, 111 ≤ a → w2[a]? = w[a]?) := by
  refine ((c122 (xs := xs) (d := d) hI hC a1).and (A122 hI s.1 hC.1.1 hC.2.2 a1)).mono9 (fun r w2 z => ⟨?_, z.1.2.1, z.1.2.2.1, z.1.2.2.2⟩)
  rw [z.2.1, hC.2.1.2.1, hC.2.1.2.2]
end
-- 90.law.lean.txt
section
section SXLAW
variable {ys : List Int32} {d mi pc pc2 : Nat} {ls : sx_L} {r : List Value} {w : List sx_C} {P : Option Value → List sx_C → Prop}
theorem sx_RP.scr {x : Nat} (hi : sx_ins mi pc = some (.iaload, 1)) (hx : x < ys.length) (hl : ys.length ≤ 3072) (hp : pc + 1 = pc2) (kk : sx_RP (some ys) d mi pc2 ls (.int (ys.getD x 0) :: r) w P) : sx_RP (some ys) d mi pc ls (.int (nI x) :: .float 4 :: r) w P :=
  sx_RP.stat (k := 4) hi rfl ⟨sx_in_nI (n := ys.length) hx (by omega), by rw [nI_clamp (by omega)]; rfl⟩ hp kk
end SXLAW
theorem law_le {len i : Nat} (hlen : len ≤ 3072) (hi : i ≤ 3072) (h : ¬ (nI len - 6 < nI i)) : i + 6 ≤ len := by
  by_cases h6 : 6 ≤ len
  · rw [show (6 : Int32) = nI 6 from rfl, nI_sub h6] at h
    have := mt (nI_ltI (a := len - 6) (b := i) (by omega) (by omega)).mpr h
    omega
  · exfalso
    apply h
    have e : (nI len - 6).toInt < 0 := by
      rcases (show len = 0 ∨ len = 1 ∨ len = 2 ∨ len = 3 ∨ len = 4 ∨ len = 5 by omega) with rfl | rfl | rfl | rfl | rfl | rfl <;> decide
    rw [Int32.lt_iff_toInt_lt, nI_toInt (by omega)]
    omega
def inRb (v : Int32) (n : Nat) : Bool := (List.range (n + 1)).any (fun j => decide (v = nI j))
theorem inRb_ok {v : Int32} {n : Nat} (h : inRb v n = true) : inR v n := by
  unfold inRb at h
  obtain ⟨j, hj, e⟩ := List.any_eq_true.mp h
  exact ⟨j, by have := List.mem_range.mp hj; omega, of_decide_eq_true e⟩
def impb (p : Prop) [Decidable p] (b : Bool) : Bool := !(decide p) || b
theorem impb_ok {p : Prop} [Decidable p] {b : Bool} (h : impb p b = true) (hp : p) : b = true := by
  unfold impb at h
  rw [decide_eq_true hp] at h
  exact h
def eOKb (k : Nat) (v : Int32) : Bool :=
  impb (k = 1) (inRb v 10) && (impb (k = 2) (inRb v 9) && (impb (7 ≤ k ∧ k < 55) (inRb v 3) && (impb (103 ≤ k ∧ k < 163 ∧ (k - 103) % 6 = 0) (inRb v 5) && (impb (103 ≤ k ∧ k < 163 ∧ (k - 103) % 6 = 1) (inRb v 1) && (impb (103 ≤ k ∧ k < 163 ∧ (k - 103) % 6 = 2) (inRb v 47) && (impb (103 ≤ k ∧ k < 163 ∧ (k - 103) % 6 = 3) (inRb v 3) && (impb (103 ≤ k ∧ k < 163 ∧ (k - 103) % 6 = 5) (inRb v 1) && impb (163 ≤ k) (inRb v 47))))))))
theorem eOKb_ok {k : Nat} {v : Int32} (h : eOKb k v = true) : eOK k v := by
  unfold eOKb at h
  simp only [Bool.and_eq_true] at h
  obtain ⟨h1, h2, h3, h4, h5, h6, h7, h8, h9⟩ := h
  exact ⟨fun z => inRb_ok (impb_ok h1 z), fun z => inRb_ok (impb_ok h2 z), fun z => inRb_ok (impb_ok h3 z), fun z => inRb_ok (impb_ok h4 z), fun z => inRb_ok (impb_ok h5 z), fun z => inRb_ok (impb_ok h6 z), fun z => inRb_ok (impb_ok h7 z), fun z => inRb_ok (impb_ok h8 z), fun z => inRb_ok (impb_ok h9 z)⟩
def allb (n : Nat) (f : Nat → Bool) : Bool := (List.range n).all f
theorem allb_ok {n : Nat} {f : Nat → Bool} (h : allb n f = true) {k : Nat} (hk : k < n) : f k = true := List.all_eq_true.mp h k (List.mem_range.mpr hk)
def cOKb (a : Nat) (c : sx_C) : Bool :=
  impb ((5 ≤ a ∧ a < 15) ∨ (19 ≤ a ∧ a < 29) ∨ (33 ≤ a ∧ a < 44)) (inRb (vi (cf c)[0]?) 5 && (inRb (vi (cf c)[1]?) 1 && (inRb (vi (cf c)[2]?) 47 && (inRb (vi (cf c)[3]?) 3 && inRb (vi (cf c)[5]?) 1)))) && (impb (a = 1 ∨ a = 15 ∨ a = 29) (inRb (vi (cf c)[3]?) 10 && inRb (vi (cf c)[5]?) 9) && (impb (a = 2 ∨ a = 16 ∨ a = 30) (allb 48 (fun k => inRb ((cI c).getD k 0) 3)) && (impb (a = 4 ∨ a = 18 ∨ a = 32) (allb 9 (fun k => inRb ((cI c).getD k 0) 47)) && (impb (a = 0) (inRb (vi (cf c)[3]?) 1) && (impb (a = 96) (inRb (vi (cf c)[1]?) 120 && (inRb (vi (cf c)[3]?) 120 && inRb (vi (cf c)[4]?) 120)) && (impb (a = 103 ∨ a = 105 ∨ a = 107 ∨ a = 109) (inRb (vi (cf c)[2]?) 40) && (impb (a = 111) (inRb (vi (cf c)[4]?) 1 && (inRb (vi (cf c)[11]?) 120 && inRb (vi (cf c)[12]?) 120)) && (impb (a = 112 ∨ a = 113 ∨ a = 114 ∨ a = 115) (allb 172 (fun k => eOKb k ((cI c).getD k 0))) && impb (a = 123) (allb 4 (fun k => inRb ((cI c).getD k 0) 40))))))))))
theorem cOKb_ok {a : Nat} {c : sx_C} (h : cOKb a c = true) : cOK a c := by
  unfold cOKb at h
  simp only [Bool.and_eq_true] at h
  obtain ⟨h1, h2, h3, h4, h5, h6, h7, h8, h9, h10⟩ := h
  refine ⟨fun z => ?_, fun z => ?_, fun z k hk => inRb_ok (allb_ok (impb_ok h3 z) hk), fun z k hk => inRb_ok (allb_ok (impb_ok h4 z) hk), fun z => inRb_ok (impb_ok h5 z), fun z => ?_, fun z => inRb_ok (impb_ok h7 z), fun z => ?_, fun z k hk => eOKb_ok (allb_ok (impb_ok h9 z) hk), fun z k hk => inRb_ok (allb_ok (impb_ok h10 z) hk)⟩
  · have := impb_ok h1 z
    simp only [Bool.and_eq_true] at this
    exact ⟨inRb_ok this.1, inRb_ok this.2.1, inRb_ok this.2.2.1, inRb_ok this.2.2.2.1, inRb_ok this.2.2.2.2⟩
  · have := impb_ok h2 z
    simp only [Bool.and_eq_true] at this
    exact ⟨inRb_ok this.1, inRb_ok this.2⟩
  · have := impb_ok h6 z
    simp only [Bool.and_eq_true] at this
    exact ⟨inRb_ok this.1, inRb_ok this.2.1, inRb_ok this.2.2⟩
  · have := impb_ok h8 z
    simp only [Bool.and_eq_true] at this
    exact ⟨inRb_ok this.1, inRb_ok this.2.1, inRb_ok this.2.2⟩
theorem w0_ok : allb 126 (fun a => match (sx_w0[a]? : Option sx_C) with
  | some c => cOKb a c
  | none => true) = true := by decide +kernel
theorem w0_WI : WI sx_w0 := by
  refine ⟨rfl, ?_⟩
  intro a c hc
  have ha : a < 126 := by
    have := (List.getElem?_eq_some_iff.mp hc).1
    rw [sx_w0_len] at this
    exact this
  have h := allb_ok w0_ok ha
  rw [hc] at h
  exact cOKb_ok h
def LI (w : List sx_C) : Prop := ∃ s : ST, CLS w s ∧ REF w s ∧ bOK w
theorem r139 {xs : Option (List Int32)} {d : Nat} {w : List sx_C} {s : ST} (hI : WI w) (hR : REF w s) : sx_RP xs (d + 7) 139 0 (lv_args 0 [.ref 111]) [] w (fun r w2 => (∃ v : Int64, r = some (.long v)) ∧ WI w2 ∧ REF w2 s ∧ ∀ a, a < 111 → w2[a]? = w[a]?) := by
  obtain ⟨v, h⟩ := p139 (xs := xs) (d := d) hI
  exact ⟨_, _, h, ⟨v, rfl⟩, hI, hR, fun _ _ => rfl⟩
end
