-- safety: the text of the reference: may, must, number
theorem s214m {xs : Option (List Int32)} {d : Nat} {w : List sx_C} {k : UInt32} {n : Nat} (hI : WI w) (hk : 100 ≤ k.toNat ∧ k.toNat < 120) (en : sx_sn.getD (k.toNat - 100) 0 = n) (hn : n ≤ 7) : sx_RP xs (d + 3) 214 0 (lv_args 0 [.ref 111, .float k]) [] w (fun r w2 => (r = some (.int 0) ∨ ∃ p, (p + n ≤ 120 ∧ fi w2 111 12 = nI p) ∧ r = some (.int 1)) ∧ WI w2 ∧ EH w w2) := (s214 hI hk en hn).mono9 (fun _ _ h => ⟨h.1.1, h.2⟩)
set_option maxRecDepth 20000 in
set_option maxHeartbeats 4000000 in
theorem s213 {xs : Option (List Int32)} {d : Nat} {w : List sx_C} (hI : WI w) {k : UInt32} {n : Nat} (hk : 100 ≤ k.toNat ∧ k.toNat < 120) (en : sx_sn.getD (k.toNat - 100) 0 = n) (hn : n ≤ 7) : sx_RP xs (d + 4) 213 0 (lv_args 0 [.ref 111, .float k]) [] w (fun r w2 => (r = some (.int 0) ∨ r = some (.int 1)) ∧ WI w2 ∧ EH w w2) := by
  have hE : EH w w := EH.rf
  refine sx_RP.step (pc2 := 1) (ls2 := [(0, .ref 111), (1, .float k)]) (st2 := [.ref 111]) (w3 := w) rfl rfl ?_
  refine sx_RP.gf (v := .int (fi w 111 13)) rfl rfl hI.1.o111 rfl rfl (show _ = 4 from rfl) ?_
  refine sx_RP.br (p1 := 19) (l1 := [(0, .ref 111), (1, .float k)]) (s1 := []) (v1 := w) (p2 := 7) (l2 := [(0, .ref 111), (1, .float k)]) (s2 := []) (v2 := w) rfl rfl (fun q1 => ?_) (fun q1 => ?_)
  · replace q1 := of_decide_eq_true q1
    refine sx_RP.step (pc2 := 20) (ls2 := [(0, .ref 111), (1, .float k)]) (st2 := [.int 0]) (w3 := w) rfl rfl ?_
    refine sx_RP.step (pc2 := 21) (ls2 := [(2, .int 0), (0, .ref 111), (1, .float k)]) (st2 := []) (w3 := w) rfl rfl ?_
    refine sx_RP.step (pc2 := 22) (ls2 := [(2, .int 0), (0, .ref 111), (1, .float k)]) (st2 := [.ref 111]) (w3 := w) rfl rfl ?_
    refine sx_RP.step (pc2 := 23) (ls2 := [(2, .int 0), (0, .ref 111), (1, .float k)]) (st2 := [.ref 111, .ref 111]) (w3 := w) rfl rfl ?_
    refine sx_RP.gf (v := .int (fi w 111 12)) rfl rfl hI.1.o111 rfl rfl (show _ = 26 from rfl) ?_
    obtain ⟨x2, hx3, ex4⟩ : inR (fi w 111 12) 120 := hI.m.2.2
    rw [ex4]
    refine sx_RP.step (pc2 := 27) (ls2 := [(2, .int 0), (0, .ref 111), (1, .float k)]) (st2 := [.int 0, .int (nI x2), .ref 111]) (w3 := w) rfl rfl ?_
    refine sx_RP.step (pc2 := 37) (ls2 := [(2, .int 0), (0, .ref 111), (1, .float k)]) (st2 := [.int (nI x2), .ref 111]) (w3 := w) rfl rfl ?_
    refine sx_RP.step (pc2 := 38) (ls2 := [(2, .int 0), (0, .ref 111), (1, .float k)]) (st2 := [.int 0, .int (nI x2), .ref 111]) (w3 := w) rfl rfl ?_
    refine sx_RP.step (pc2 := 39) (ls2 := [(2, .int 0), (0, .ref 111), (1, .float k)]) (st2 := [.int ((nI x2) + 0), .ref 111]) (w3 := w) rfl rfl ?_
    rw [show ((nI x2) + 0 : Int32) = nI (x2 + 0) from nI_add x2 0]
    refine sx_RP.pmH (k := 12) hI hE rfl rfl (by decide) rfl (inR.n (show (x2 + 0) ≤ 120 by omega)) (fun _ => hr_le ex4 (by omega) (by omega) (by omega)) (show _ = 42 from rfl) (fun w5 hI6 hE7 ht8 ht9 ht10 => ?_)
    refine sx_RP.step (pc2 := 43) (ls2 := [(2, .int 0), (0, .ref 111), (1, .float k)]) (st2 := [.int 0]) (w3 := w5) rfl rfl ?_
    refine sx_RP.ret (r := (some (.int 0))) rfl rfl ?_
    exact ⟨Or.inl rfl, hI6, hE7⟩
  · replace q1 := of_decide_eq_false q1
    refine sx_RP.step (pc2 := 8) (ls2 := [(0, .ref 111), (1, .float k)]) (st2 := [.ref 111]) (w3 := w) rfl rfl ?_
    refine sx_RP.step (pc2 := 9) (ls2 := [(0, .ref 111), (1, .float k)]) (st2 := [.float k, .ref 111]) (w3 := w) rfl rfl ?_
    refine sx_RP.callp (as2 := [.ref 111, .float k]) (rest2 := []) rfl rfl (sx_inv_v2 (mi := 213) (k := 239) (st := [.float k, .ref 111]) (w := w) rfl rfl hI.1.o111 rfl rfl rfl) rfl rfl rfl (s214m hI hk en hn) (show _ = 12 from rfl) ?_
    rintro r4 w14 ⟨(rfl | ⟨x11, ⟨hx12, ex13⟩, rfl⟩), hI15, hE17⟩
    · have hE16 := hE.tr (hE17)
      show sx_RP _ _ _ _ _ [.int 0] _ _
      refine sx_RP.step (pc2 := 19) (ls2 := [(0, .ref 111), (1, .float k)]) (st2 := []) (w3 := w14) rfl rfl ?_
      refine sx_RP.step (pc2 := 20) (ls2 := [(0, .ref 111), (1, .float k)]) (st2 := [.int 0]) (w3 := w14) rfl rfl ?_
      refine sx_RP.step (pc2 := 21) (ls2 := [(2, .int 0), (0, .ref 111), (1, .float k)]) (st2 := []) (w3 := w14) rfl rfl ?_
      refine sx_RP.step (pc2 := 22) (ls2 := [(2, .int 0), (0, .ref 111), (1, .float k)]) (st2 := [.ref 111]) (w3 := w14) rfl rfl ?_
      refine sx_RP.step (pc2 := 23) (ls2 := [(2, .int 0), (0, .ref 111), (1, .float k)]) (st2 := [.ref 111, .ref 111]) (w3 := w14) rfl rfl ?_
      refine sx_RP.gf (v := .int (fi w14 111 12)) rfl rfl hI15.1.o111 rfl rfl (show _ = 26 from rfl) ?_
      obtain ⟨x18, hx19, ex20⟩ : inR (fi w14 111 12) 120 := hI15.m.2.2
      rw [ex20]
      refine sx_RP.step (pc2 := 27) (ls2 := [(2, .int 0), (0, .ref 111), (1, .float k)]) (st2 := [.int 0, .int (nI x18), .ref 111]) (w3 := w14) rfl rfl ?_
      refine sx_RP.step (pc2 := 37) (ls2 := [(2, .int 0), (0, .ref 111), (1, .float k)]) (st2 := [.int (nI x18), .ref 111]) (w3 := w14) rfl rfl ?_
      refine sx_RP.step (pc2 := 38) (ls2 := [(2, .int 0), (0, .ref 111), (1, .float k)]) (st2 := [.int 0, .int (nI x18), .ref 111]) (w3 := w14) rfl rfl ?_
      refine sx_RP.step (pc2 := 39) (ls2 := [(2, .int 0), (0, .ref 111), (1, .float k)]) (st2 := [.int ((nI x18) + 0), .ref 111]) (w3 := w14) rfl rfl ?_
      rw [show ((nI x18) + 0 : Int32) = nI (x18 + 0) from nI_add x18 0]
      refine sx_RP.pmH (k := 12) hI15 hE16 rfl rfl (by decide) rfl (inR.n (show (x18 + 0) ≤ 120 by omega)) (fun _ => hr_le ex20 (by omega) (by omega) (by omega)) (show _ = 42 from rfl) (fun w21 hI22 hE23 ht24 ht25 ht26 => ?_)
      refine sx_RP.step (pc2 := 43) (ls2 := [(2, .int 0), (0, .ref 111), (1, .float k)]) (st2 := [.int 0]) (w3 := w21) rfl rfl ?_
      refine sx_RP.ret (r := (some (.int 0))) rfl rfl ?_
      exact ⟨Or.inl rfl, hI22, hE23⟩
    · have hE16 := hE.tr (hE17)
      show sx_RP _ _ _ _ _ [.int 1] _ _
      refine sx_RP.step (pc2 := 15) (ls2 := [(0, .ref 111), (1, .float k)]) (st2 := []) (w3 := w14) rfl rfl ?_
      refine sx_RP.step (pc2 := 16) (ls2 := [(0, .ref 111), (1, .float k)]) (st2 := [.int 1]) (w3 := w14) rfl rfl ?_
      refine sx_RP.step (pc2 := 20) (ls2 := [(0, .ref 111), (1, .float k)]) (st2 := [.int 1]) (w3 := w14) rfl rfl ?_
      refine sx_RP.step (pc2 := 21) (ls2 := [(2, .int 1), (0, .ref 111), (1, .float k)]) (st2 := []) (w3 := w14) rfl rfl ?_
      refine sx_RP.step (pc2 := 22) (ls2 := [(2, .int 1), (0, .ref 111), (1, .float k)]) (st2 := [.ref 111]) (w3 := w14) rfl rfl ?_
      refine sx_RP.step (pc2 := 23) (ls2 := [(2, .int 1), (0, .ref 111), (1, .float k)]) (st2 := [.ref 111, .ref 111]) (w3 := w14) rfl rfl ?_
      refine sx_RP.gf (v := .int (fi w14 111 12)) rfl rfl hI15.1.o111 rfl rfl (show _ = 26 from rfl) ?_
      rw [ex13]
      refine sx_RP.step (pc2 := 27) (ls2 := [(2, .int 1), (0, .ref 111), (1, .float k)]) (st2 := [.int 1, .int (nI x11), .ref 111]) (w3 := w14) rfl rfl ?_
      refine sx_RP.step (pc2 := 30) (ls2 := [(2, .int 1), (0, .ref 111), (1, .float k)]) (st2 := [.int (nI x11), .ref 111]) (w3 := w14) rfl rfl ?_
      refine sx_RP.step (pc2 := 31) (ls2 := [(2, .int 1), (0, .ref 111), (1, .float k)]) (st2 := [.float k, .int (nI x11), .ref 111]) (w3 := w14) rfl rfl ?_
      refine sx_RP.slen (n := n) hk en rfl rfl rfl (show _ = 34 from rfl) ?_
      refine sx_RP.step (pc2 := 38) (ls2 := [(2, .int 1), (0, .ref 111), (1, .float k)]) (st2 := [.int (nI n), .int (nI x11), .ref 111]) (w3 := w14) rfl rfl ?_
      refine sx_RP.step (pc2 := 39) (ls2 := [(2, .int 1), (0, .ref 111), (1, .float k)]) (st2 := [.int ((nI x11) + (nI n)), .ref 111]) (w3 := w14) rfl rfl ?_
      rw [show ((nI x11) + (nI n) : Int32) = nI (x11 + n) from nI_add x11 n]
      refine sx_RP.pmH (k := 12) hI15 hE16 rfl rfl (by decide) rfl (inR.n (show (x11 + n) ≤ 120 by omega)) (fun _ => hr_le ex13 (by omega) (by omega) (by omega)) (show _ = 42 from rfl) (fun w27 hI28 hE29 ht30 ht31 ht32 => ?_)
      refine sx_RP.step (pc2 := 43) (ls2 := [(2, .int 1), (0, .ref 111), (1, .float k)]) (st2 := [.int 1]) (w3 := w27) rfl rfl ?_
      refine sx_RP.ret (r := (some (.int 1))) rfl rfl ?_
      exact ⟨Or.inr rfl, hI28, hE29⟩
set_option maxRecDepth 20000 in
set_option maxHeartbeats 4000000 in
theorem s213z {xs : Option (List Int32)} {d : Nat} {w : List sx_C} (hI : WI w) {k : UInt32} {n : Nat} (hk : 100 ≤ k.toNat ∧ k.toNat < 120) (en : sx_sn.getD (k.toNat - 100) 0 = n) (hn : n ≤ 7) (hc : sx_RU xs (d + 3) 214 0 (lv_args 0 [.ref 111, .float k]) [] w (some (.int 0)) w) : sx_RP xs (d + 4) 213 0 (lv_args 0 [.ref 111, .float k]) [] w (fun r w2 => (r = some (.int 0)) ∧ WI w2 ∧ EH w w2) := by
  have hE : EH w w := EH.rf
  refine sx_RP.step (pc2 := 1) (ls2 := [(0, .ref 111), (1, .float k)]) (st2 := [.ref 111]) (w3 := w) rfl rfl ?_
  refine sx_RP.gf (v := .int (fi w 111 13)) rfl rfl hI.1.o111 rfl rfl (show _ = 4 from rfl) ?_
  refine sx_RP.br (p1 := 19) (l1 := [(0, .ref 111), (1, .float k)]) (s1 := []) (v1 := w) (p2 := 7) (l2 := [(0, .ref 111), (1, .float k)]) (s2 := []) (v2 := w) rfl rfl (fun q1 => ?_) (fun q1 => ?_)
  · replace q1 := of_decide_eq_true q1
    refine sx_RP.step (pc2 := 20) (ls2 := [(0, .ref 111), (1, .float k)]) (st2 := [.int 0]) (w3 := w) rfl rfl ?_
    refine sx_RP.step (pc2 := 21) (ls2 := [(2, .int 0), (0, .ref 111), (1, .float k)]) (st2 := []) (w3 := w) rfl rfl ?_
    refine sx_RP.step (pc2 := 22) (ls2 := [(2, .int 0), (0, .ref 111), (1, .float k)]) (st2 := [.ref 111]) (w3 := w) rfl rfl ?_
    refine sx_RP.step (pc2 := 23) (ls2 := [(2, .int 0), (0, .ref 111), (1, .float k)]) (st2 := [.ref 111, .ref 111]) (w3 := w) rfl rfl ?_
    refine sx_RP.gf (v := .int (fi w 111 12)) rfl rfl hI.1.o111 rfl rfl (show _ = 26 from rfl) ?_
    obtain ⟨x2, hx3, ex4⟩ : inR (fi w 111 12) 120 := hI.m.2.2
    rw [ex4]
    refine sx_RP.step (pc2 := 27) (ls2 := [(2, .int 0), (0, .ref 111), (1, .float k)]) (st2 := [.int 0, .int (nI x2), .ref 111]) (w3 := w) rfl rfl ?_
    refine sx_RP.step (pc2 := 37) (ls2 := [(2, .int 0), (0, .ref 111), (1, .float k)]) (st2 := [.int (nI x2), .ref 111]) (w3 := w) rfl rfl ?_
    refine sx_RP.step (pc2 := 38) (ls2 := [(2, .int 0), (0, .ref 111), (1, .float k)]) (st2 := [.int 0, .int (nI x2), .ref 111]) (w3 := w) rfl rfl ?_
    refine sx_RP.step (pc2 := 39) (ls2 := [(2, .int 0), (0, .ref 111), (1, .float k)]) (st2 := [.int ((nI x2) + 0), .ref 111]) (w3 := w) rfl rfl ?_
    rw [show ((nI x2) + 0 : Int32) = nI (x2 + 0) from nI_add x2 0]
    refine sx_RP.pmH (k := 12) hI hE rfl rfl (by decide) rfl (inR.n (show (x2 + 0) ≤ 120 by omega)) (fun _ => hr_le ex4 (by omega) (by omega) (by omega)) (show _ = 42 from rfl) (fun w5 hI6 hE7 ht8 ht9 ht10 => ?_)
    refine sx_RP.step (pc2 := 43) (ls2 := [(2, .int 0), (0, .ref 111), (1, .float k)]) (st2 := [.int 0]) (w3 := w5) rfl rfl ?_
    refine sx_RP.ret (r := (some (.int 0))) rfl rfl ?_
    exact ⟨rfl, hI6, hE7⟩
  · replace q1 := of_decide_eq_false q1
    refine sx_RP.step (pc2 := 8) (ls2 := [(0, .ref 111), (1, .float k)]) (st2 := [.ref 111]) (w3 := w) rfl rfl ?_
    refine sx_RP.step (pc2 := 9) (ls2 := [(0, .ref 111), (1, .float k)]) (st2 := [.float k, .ref 111]) (w3 := w) rfl rfl ?_
    refine sx_RP.cu (as := [.ref 111, .float k]) (rest2 := []) (st3 := [.int 0]) rfl rfl (sx_inv_v2 (mi := 213) (k := 239) (st := [.float k, .ref 111]) (w := w) rfl rfl hI.1.o111 rfl rfl rfl) rfl rfl (hc) rfl ?_
    refine sx_RP.step (pc2 := 19) (ls2 := [(0, .ref 111), (1, .float k)]) (st2 := []) (w3 := w) rfl rfl ?_
    refine sx_RP.step (pc2 := 20) (ls2 := [(0, .ref 111), (1, .float k)]) (st2 := [.int 0]) (w3 := w) rfl rfl ?_
    refine sx_RP.step (pc2 := 21) (ls2 := [(2, .int 0), (0, .ref 111), (1, .float k)]) (st2 := []) (w3 := w) rfl rfl ?_
    refine sx_RP.step (pc2 := 22) (ls2 := [(2, .int 0), (0, .ref 111), (1, .float k)]) (st2 := [.ref 111]) (w3 := w) rfl rfl ?_
    refine sx_RP.step (pc2 := 23) (ls2 := [(2, .int 0), (0, .ref 111), (1, .float k)]) (st2 := [.ref 111, .ref 111]) (w3 := w) rfl rfl ?_
    refine sx_RP.gf (v := .int (fi w 111 12)) rfl rfl hI.1.o111 rfl rfl (show _ = 26 from rfl) ?_
    obtain ⟨x11, hx12, ex13⟩ : inR (fi w 111 12) 120 := hI.m.2.2
    rw [ex13]
    refine sx_RP.step (pc2 := 27) (ls2 := [(2, .int 0), (0, .ref 111), (1, .float k)]) (st2 := [.int 0, .int (nI x11), .ref 111]) (w3 := w) rfl rfl ?_
    refine sx_RP.step (pc2 := 37) (ls2 := [(2, .int 0), (0, .ref 111), (1, .float k)]) (st2 := [.int (nI x11), .ref 111]) (w3 := w) rfl rfl ?_
    refine sx_RP.step (pc2 := 38) (ls2 := [(2, .int 0), (0, .ref 111), (1, .float k)]) (st2 := [.int 0, .int (nI x11), .ref 111]) (w3 := w) rfl rfl ?_
    refine sx_RP.step (pc2 := 39) (ls2 := [(2, .int 0), (0, .ref 111), (1, .float k)]) (st2 := [.int ((nI x11) + 0), .ref 111]) (w3 := w) rfl rfl ?_
    rw [show ((nI x11) + 0 : Int32) = nI (x11 + 0) from nI_add x11 0]
    refine sx_RP.pmH (k := 12) hI hE rfl rfl (by decide) rfl (inR.n (show (x11 + 0) ≤ 120 by omega)) (fun _ => hr_le ex13 (by omega) (by omega) (by omega)) (show _ = 42 from rfl) (fun w14 hI15 hE16 ht17 ht18 ht19 => ?_)
    refine sx_RP.step (pc2 := 43) (ls2 := [(2, .int 0), (0, .ref 111), (1, .float k)]) (st2 := [.int 0]) (w3 := w14) rfl rfl ?_
    refine sx_RP.ret (r := (some (.int 0))) rfl rfl ?_
    exact ⟨rfl, hI15, hE16⟩
set_option maxRecDepth 20000 in
set_option maxHeartbeats 4000000 in
theorem s228 {xs : Option (List Int32)} {d : Nat} {w : List sx_C} (hI : WI w) {k : UInt32} {n : Nat} (hk : 100 ≤ k.toNat ∧ k.toNat < 120) (en : sx_sn.getD (k.toNat - 100) 0 = n) (hn : n ≤ 7) : sx_RP xs (d + 5) 228 0 (lv_args 0 [.ref 111, .float k]) [] w (fun r w2 => (r = some (.int 0) ∨ r = some (.int 1)) ∧ WI w2 ∧ EH w w2) := by
  have hE : EH w w := EH.rf
  refine sx_RP.step (pc2 := 1) (ls2 := [(0, .ref 111), (1, .float k)]) (st2 := [.ref 111]) (w3 := w) rfl rfl ?_
  refine sx_RP.step (pc2 := 2) (ls2 := [(0, .ref 111), (1, .float k)]) (st2 := [.float k, .ref 111]) (w3 := w) rfl rfl ?_
  refine sx_RP.callp (as2 := [.ref 111, .float k]) (rest2 := []) rfl rfl (sx_inv_v2 (mi := 228) (k := 243) (st := [.float k, .ref 111]) (w := w) rfl rfl hI.1.o111 rfl rfl rfl) rfl rfl rfl (s213 hI hk en hn) (show _ = 5 from rfl) ?_
  rintro r4 w1 ⟨(rfl | rfl), hI2, hE4⟩
  · have hE3 := hE.tr (hE4)
    show sx_RP _ _ _ _ _ [.int 0] _ _
    refine sx_RP.step (pc2 := 8) (ls2 := [(0, .ref 111), (1, .float k)]) (st2 := []) (w3 := w1) rfl rfl ?_
    refine sx_RP.step (pc2 := 9) (ls2 := [(0, .ref 111), (1, .float k)]) (st2 := [.ref 111]) (w3 := w1) rfl rfl ?_
    refine sx_RP.callp (as2 := [.ref 111]) (rest2 := []) rfl rfl (sx_inv_v2 (mi := 228) (k := 245) (st := [.ref 111]) (w := w1) rfl rfl hI2.1.o111 rfl rfl rfl) rfl rfl rfl (s222 hI2) (show _ = 12 from rfl) ?_
    rintro r4 w5 ⟨rfl, hI6, hE8⟩
    have hE7 := hE3.tr (hE8)
    show sx_RP _ _ _ _ _ [.int 0] _ _
    refine sx_RP.step (pc2 := 19) (ls2 := [(0, .ref 111), (1, .float k)]) (st2 := []) (w3 := w5) rfl rfl ?_
    refine sx_RP.step (pc2 := 20) (ls2 := [(0, .ref 111), (1, .float k)]) (st2 := [.int 0]) (w3 := w5) rfl rfl ?_
    refine sx_RP.ret (r := (some (.int 0))) rfl rfl ?_
    exact ⟨Or.inl rfl, hI6, hE7⟩
  · have hE3 := hE.tr (hE4)
    show sx_RP _ _ _ _ _ [.int 1] _ _
    refine sx_RP.step (pc2 := 15) (ls2 := [(0, .ref 111), (1, .float k)]) (st2 := []) (w3 := w1) rfl rfl ?_
    refine sx_RP.step (pc2 := 16) (ls2 := [(0, .ref 111), (1, .float k)]) (st2 := [.int 1]) (w3 := w1) rfl rfl ?_
    refine sx_RP.step (pc2 := 20) (ls2 := [(0, .ref 111), (1, .float k)]) (st2 := [.int 1]) (w3 := w1) rfl rfl ?_
    refine sx_RP.ret (r := (some (.int 1))) rfl rfl ?_
    exact ⟨Or.inr rfl, hI2, hE3⟩
set_option maxRecDepth 20000 in
set_option maxHeartbeats 4000000 in
theorem s225 {xs : Option (List Int32)} {d : Nat} {w : List sx_C} (hI : WI w) : sx_RP xs (d + 3) 225 0 (lv_args 0 [.ref 111]) [] w (fun r w2 => (r = some (.int 0) ∨ r = some (.int 1)) ∧ WI w2 ∧ EH w w2) := by
  have hE : EH w w := EH.rf
  refine sx_RP.step (pc2 := 1) (ls2 := [(0, .ref 111)]) (st2 := [.ref 111]) (w3 := w) rfl rfl ?_
  refine sx_RP.callp (as2 := [.ref 111]) (rest2 := []) rfl rfl (sx_inv_v2 (mi := 225) (k := 224) (st := [.ref 111]) (w := w) rfl rfl hI.1.o111 rfl rfl rfl) rfl rfl rfl (s215 hI) (show _ = 4 from rfl) ?_
  rintro r4 w1 ⟨⟨rfl, _⟩, hI2, hE4⟩
  have hE3 := hE.tr (hE4)
  show sx_RP _ _ _ _ _ [] _ _
  refine sx_RP.step (pc2 := 5) (ls2 := [(0, .ref 111)]) (st2 := [.ref 111]) (w3 := w1) rfl rfl ?_
  refine sx_RP.gf (v := .int (fi w1 111 13)) rfl rfl hI2.1.o111 rfl rfl (show _ = 8 from rfl) ?_
  refine sx_RP.br (p1 := 29) (l1 := [(0, .ref 111)]) (s1 := []) (v1 := w1) (p2 := 11) (l2 := [(0, .ref 111)]) (s2 := []) (v2 := w1) rfl rfl (fun q5 => ?_) (fun q5 => ?_)
  · replace q5 := of_decide_eq_true q5
    refine sx_RP.step (pc2 := 30) (ls2 := [(0, .ref 111)]) (st2 := [.int 0]) (w3 := w1) rfl rfl ?_
    refine sx_RP.ret (r := (some (.int 0))) rfl rfl ?_
    exact ⟨Or.inl rfl, hI2, hE3⟩
  · replace q5 := of_decide_eq_false q5
    refine sx_RP.step (pc2 := 12) (ls2 := [(0, .ref 111)]) (st2 := [.ref 111]) (w3 := w1) rfl rfl ?_
    refine sx_RP.step (pc2 := 13) (ls2 := [(0, .ref 111)]) (st2 := [.ref 111, .ref 111]) (w3 := w1) rfl rfl ?_
    refine sx_RP.gf (v := .int (fi w1 111 12)) rfl rfl hI2.1.o111 rfl rfl (show _ = 16 from rfl) ?_
    obtain ⟨x6, hx7, ex8⟩ : inR (fi w1 111 12) 120 := hI2.m.2.2
    rw [ex8]
    rcases p216 (xs := xs) (a := x6) hI2 (by omega) with c9 | ⟨hx10, v11, c9⟩
    · refine sx_RP.cu (as := [.ref 111, .int (nI x6)]) (rest2 := []) (st3 := [.int (-1)]) rfl rfl (sx_inv_v2 (mi := 225) (k := 215) (st := [.int (nI x6), .ref 111]) (w := w1) rfl rfl hI2.1.o111 rfl rfl rfl) rfl rfl (c9) rfl ?_
      refine sx_RP.cu (as := [.int (-1)]) (rest2 := []) (st3 := [.int 0]) rfl rfl rfl rfl rfl (cx_221n (by decide)) rfl ?_
      refine sx_RP.step (pc2 := 29) (ls2 := [(0, .ref 111)]) (st2 := []) (w3 := w1) rfl rfl ?_
      refine sx_RP.step (pc2 := 30) (ls2 := [(0, .ref 111)]) (st2 := [.int 0]) (w3 := w1) rfl rfl ?_
      refine sx_RP.ret (r := (some (.int 0))) rfl rfl ?_
      exact ⟨Or.inl rfl, hI2, hE3⟩
    · refine sx_RP.cu (as := [.ref 111, .int (nI x6)]) (rest2 := []) (st3 := [.int v11]) rfl rfl (sx_inv_v2 (mi := 225) (k := 215) (st := [.int (nI x6), .ref 111]) (w := w1) rfl rfl hI2.1.o111 rfl rfl rfl) rfl rfl (c9) rfl ?_
      rcases in_cases v11 48 57 (m := 48) (n := 57) rfl rfl (by decide) (by decide) with q12 | ⟨x13, hx14, hx15, rfl⟩
      · refine sx_RP.cu (as := [.int v11]) (rest2 := []) (st3 := [.int 0]) rfl rfl rfl rfl rfl (cx_221n q12) rfl ?_
        refine sx_RP.step (pc2 := 29) (ls2 := [(0, .ref 111)]) (st2 := []) (w3 := w1) rfl rfl ?_
        refine sx_RP.step (pc2 := 30) (ls2 := [(0, .ref 111)]) (st2 := [.int 0]) (w3 := w1) rfl rfl ?_
        refine sx_RP.ret (r := (some (.int 0))) rfl rfl ?_
        exact ⟨Or.inl rfl, hI2, hE3⟩
      · refine sx_RP.cu (as := [.int (nI x13)]) (rest2 := []) (st3 := [.int 1]) rfl rfl rfl rfl rfl (cx_221p ⟨nI_le (a := 48) hx14 (by omega), nI_le (b := 57) hx15 (by decide)⟩) rfl ?_
        refine sx_RP.step (pc2 := 25) (ls2 := [(0, .ref 111)]) (st2 := []) (w3 := w1) rfl rfl ?_
        refine sx_RP.step (pc2 := 26) (ls2 := [(0, .ref 111)]) (st2 := [.int 1]) (w3 := w1) rfl rfl ?_
        refine sx_RP.step (pc2 := 30) (ls2 := [(0, .ref 111)]) (st2 := [.int 1]) (w3 := w1) rfl rfl ?_
        refine sx_RP.ret (r := (some (.int 1))) rfl rfl ?_
        exact ⟨Or.inr rfl, hI2, hE3⟩
set_option maxRecDepth 20000 in
set_option maxHeartbeats 4000000 in
theorem s224 {xs : Option (List Int32)} {d : Nat} {w : List sx_C} (hI : WI w) {c k : Nat} (hc : c < 48) (hk : k ≤ 4) : sx_RP xs d 224 0 (lv_args 0 [.ref 111, .int (nI c), .int (nI k)]) [] w (fun r w2 => (r = none) ∧ WI w2 ∧ EM w w2) := by
  have hE : EM w w := EM.rf
  refine sx_RP.step (pc2 := 1) (ls2 := [(0, .ref 111), (1, .int (nI c)), (2, .int (nI k))]) (st2 := [.int (nI k)]) (w3 := w) rfl rfl ?_
  refine sx_RP.step (pc2 := 2) (ls2 := [(0, .ref 111), (1, .int (nI c)), (2, .int (nI k))]) (st2 := [.int 4, .int (nI k)]) (w3 := w) rfl rfl ?_
  refine sx_RP.br (p1 := 18) (l1 := [(0, .ref 111), (1, .int (nI c)), (2, .int (nI k))]) (s1 := []) (v1 := w) (p2 := 5) (l2 := [(0, .ref 111), (1, .int (nI c)), (2, .int (nI k))]) (s2 := []) (v2 := w) rfl rfl (fun q1 => ?_) (fun q1 => ?_)
  · replace q1 := of_decide_eq_true q1
    replace q1 := mt (nI_eq (a := k) (b := 4) (by omega) (by omega)).mpr q1
    refine sx_RP.step (pc2 := 19) (ls2 := [(0, .ref 111), (1, .int (nI c)), (2, .int (nI k))]) (st2 := [.ref 111]) (w3 := w) rfl rfl ?_
    refine sx_RP.gf (v := .ref 112) rfl rfl hI.1.o111 rfl rfl (show _ = 22 from rfl) ?_
    refine sx_RP.step (pc2 := 24) (ls2 := [(0, .ref 111), (1, .int (nI c)), (2, .int (nI k))]) (st2 := [.int 7, .ref 112]) (w3 := w) rfl rfl ?_
    refine sx_RP.step (pc2 := 25) (ls2 := [(0, .ref 111), (1, .int (nI c)), (2, .int (nI k))]) (st2 := [.int (nI c), .int 7, .ref 112]) (w3 := w) rfl rfl ?_
    refine sx_RP.step (pc2 := 26) (ls2 := [(0, .ref 111), (1, .int (nI c)), (2, .int (nI k))]) (st2 := [.int (7 + (nI c)), .ref 112]) (w3 := w) rfl rfl ?_
    rw [show (7 + (nI c) : Int32) = nI (7 + c) from nI_add 7 c]
    refine sx_RP.step (pc2 := 27) (ls2 := [(0, .ref 111), (1, .int (nI c)), (2, .int (nI k))]) (st2 := [.int (nI k), .int (nI (7 + c)), .ref 112]) (w3 := w) rfl rfl ?_
    refine sx_RP.mS (k := (7 + c)) hI hE (by decide) rfl rfl (by omega) (eOK_st (by omega) (inR.n (show k ≤ 3 by omega))) (show _ = 28 from rfl) (fun w2 hI3 hE4 hk5 => ?_)
    refine sx_RP.ret (r := none) rfl rfl ?_
    exact ⟨rfl, hI3, hE4⟩
  · replace q1 := Decidable.not_not.mp (of_decide_eq_false q1)
    replace q1 := (nI_eq (a := k) (b := 4) (by omega) (by omega)).mp q1
    refine sx_RP.step (pc2 := 6) (ls2 := [(0, .ref 111), (1, .int (nI c)), (2, .int (nI k))]) (st2 := [.ref 111]) (w3 := w) rfl rfl ?_
    refine sx_RP.gf (v := .ref 112) rfl rfl hI.1.o111 rfl rfl (show _ = 9 from rfl) ?_
    refine sx_RP.step (pc2 := 11) (ls2 := [(0, .ref 111), (1, .int (nI c)), (2, .int (nI k))]) (st2 := [.int 55, .ref 112]) (w3 := w) rfl rfl ?_
    refine sx_RP.step (pc2 := 12) (ls2 := [(0, .ref 111), (1, .int (nI c)), (2, .int (nI k))]) (st2 := [.int (nI c), .int 55, .ref 112]) (w3 := w) rfl rfl ?_
    refine sx_RP.step (pc2 := 13) (ls2 := [(0, .ref 111), (1, .int (nI c)), (2, .int (nI k))]) (st2 := [.int (55 + (nI c)), .ref 112]) (w3 := w) rfl rfl ?_
    rw [show (55 + (nI c) : Int32) = nI (55 + c) from nI_add 55 c]
    refine sx_RP.step (pc2 := 14) (ls2 := [(0, .ref 111), (1, .int (nI c)), (2, .int (nI k))]) (st2 := [.int 1, .int (nI (55 + c)), .ref 112]) (w3 := w) rfl rfl ?_
    refine sx_RP.mS (k := (55 + c)) hI hE (by decide) rfl rfl (by omega) (eOK_n (by omega)) (show _ = 15 from rfl) (fun w6 hI7 hE8 hk9 => ?_)
    refine sx_RP.step (pc2 := 28) (ls2 := [(0, .ref 111), (1, .int (nI c)), (2, .int (nI k))]) (st2 := []) (w3 := w6) rfl rfl ?_
    refine sx_RP.ret (r := none) rfl rfl ?_
    exact ⟨rfl, hI7, hE8⟩
