-- safety: the text of the reference: number
theorem num_rng {v : Int64} {m n : Nat} (hm : m < 2 ^ 31) (hn : n < 2 ^ 31) (q1 : ¬ lg_cmp v (nI m).toInt64 < 0) (q2 : lg_cmp v (nI n).toInt64 ≤ 0) : ∃ x, (m ≤ x ∧ x ≤ n) ∧ v.toInt32 = nI x := by
  have em : (nI m).toInt64.toInt = (m : Int) := by rw [Int32.toInt_toInt64, nI_toInt hm]
  have en : (nI n).toInt64.toInt = (n : Int) := by rw [Int32.toInt_toInt64, nI_toInt hn]
  have h1 : ¬ v < (nI m).toInt64 := by
    intro z
    apply q1
    have a1 := Int64.lt_iff_toInt_lt.mp z
    have a : ¬ (nI m).toInt64 < v := fun y => by
      have := Int64.lt_iff_toInt_lt.mp y
      omega
    have b : ¬ v = (nI m).toInt64 := fun y => by
      rw [y] at a1
      omega
    unfold lg_cmp
    rw [if_neg a, if_neg b]
    decide
  have h2 : ¬ (nI n).toInt64 < v := by
    intro z
    apply Int32.not_lt.mpr q2
    unfold lg_cmp
    rw [if_pos z]
    decide
  rw [Int64.lt_iff_toInt_lt, em] at h1
  rw [Int64.lt_iff_toInt_lt, en] at h2
  refine ⟨v.toInt.toNat, by omega, ?_⟩
  apply Int32.toInt_inj.mp
  rw [Int64.toInt_toInt32, nI_toInt (by omega), Int.bmod_def]
  split <;> omega
set_option maxRecDepth 20000 in
set_option maxHeartbeats 4000000 in
theorem p223 {xs : Option (List Int32)} {d : Nat} {w : List sx_C} (hI : WI w) (x y : Int64) : ∃ v : Int64, sx_RU xs d 223 0 (lv_args 0 [.long x, .long y]) [] w (some (.long v)) w := by
  have h : sx_RP xs d 223 0 (lv_args 0 [.long x, .long y]) [] w (fun r w2 => (∃ v : Int64, r = some (.long v)) ∧ w2 = w) := by
    refine sx_RP.step (pc2 := 1) (ls2 := [(0, .long x), (2, .long y)]) (st2 := [.long x]) (w3 := w) rfl rfl ?_
    refine sx_RP.step (pc2 := 2) (ls2 := [(0, .long x), (2, .long y)]) (st2 := [.long y, .long x]) (w3 := w) rfl rfl ?_
    refine sx_RP.step (pc2 := 3) (ls2 := [(0, .long x), (2, .long y)]) (st2 := [.int (lg_cmp x y)]) (w3 := w) rfl rfl ?_
    refine sx_RP.br (p1 := 10) (l1 := [(0, .long x), (2, .long y)]) (s1 := []) (v1 := w) (p2 := 6) (l2 := [(0, .long x), (2, .long y)]) (s2 := []) (v2 := w) rfl rfl (fun q1 => ?_) (fun q1 => ?_)
    · replace q1 := of_decide_eq_true q1
      refine sx_RP.step (pc2 := 11) (ls2 := [(0, .long x), (2, .long y)]) (st2 := [.long y]) (w3 := w) rfl rfl ?_
      refine sx_RP.ret (r := (some (.long y))) rfl rfl ?_
      exact ⟨⟨_, rfl⟩, rfl⟩
    · replace q1 := of_decide_eq_false q1
      refine sx_RP.step (pc2 := 7) (ls2 := [(0, .long x), (2, .long y)]) (st2 := [.long x]) (w3 := w) rfl rfl ?_
      refine sx_RP.step (pc2 := 11) (ls2 := [(0, .long x), (2, .long y)]) (st2 := [.long x]) (w3 := w) rfl rfl ?_
      refine sx_RP.ret (r := (some (.long x))) rfl rfl ?_
      exact ⟨⟨_, rfl⟩, rfl⟩
  obtain ⟨r, w2, h1, ⟨v, rfl⟩, rfl⟩ := h
  exact ⟨v, h1⟩
set_option maxRecDepth 20000 in
set_option maxHeartbeats 4000000 in
theorem s220L {xs : Option (List Int32)} {d p : Nat} {w w0 : List sx_C} {m n : Nat} (hm : m < 2 ^ 31) (hn : n < 2 ^ 31) (hI : WI w) (hE : EH w0 w) (ep : fi w 111 12 = nI p) : ∀ (fz j : Nat) (l : Int64), 120 ≤ j + fz → j ≤ 120 → p ≤ j → sx_RP xs (d + 3) 220 38 [(0, .ref 111), (1, .int (nI m)), (2, .int (nI n)), (3, .long l), (5, .int (nI j))] [] w (fun r w2 => (r = some (.int 0) ∨ ∃ v, (m ≤ v ∧ v ≤ n ∧ fi w2 111 14 = nI v) ∧ r = some (.int 1)) ∧ WI w2 ∧ EH w0 w2)
  | fz, j, l, h, hj, hpj => by
    refine sx_RP.step (pc2 := 39) (ls2 := [(0, .ref 111), (1, .int (nI m)), (2, .int (nI n)), (3, .long l), (5, .int (nI j))]) (st2 := [.ref 111]) (w3 := w) rfl rfl ?_
    refine sx_RP.step (pc2 := 41) (ls2 := [(0, .ref 111), (1, .int (nI m)), (2, .int (nI n)), (3, .long l), (5, .int (nI j))]) (st2 := [.int (nI j), .ref 111]) (w3 := w) rfl rfl ?_
    rcases p216 (xs := xs) (a := j) hI (by omega) with c1 | ⟨hx2, v3, c1⟩
    · refine sx_RP.cu (as := [.ref 111, .int (nI j)]) (rest2 := []) (st3 := [.int (-1)]) rfl rfl (sx_inv_v2 (mi := 220) (k := 215) (st := [.int (nI j), .ref 111]) (w := w) rfl rfl hI.1.o111 rfl rfl rfl) rfl rfl (c1) rfl ?_
      refine sx_RP.cu (as := [.int (-1)]) (rest2 := []) (st3 := [.int 0]) rfl rfl rfl rfl rfl (cx_221n (by decide)) rfl ?_
      refine sx_RP.step (pc2 := 80) (ls2 := [(0, .ref 111), (1, .int (nI m)), (2, .int (nI n)), (3, .long l), (5, .int (nI j))]) (st2 := []) (w3 := w) rfl rfl ?_
      refine sx_RP.step (pc2 := 81) (ls2 := [(0, .ref 111), (1, .int (nI m)), (2, .int (nI n)), (3, .long l), (5, .int (nI j))]) (st2 := [.long l]) (w3 := w) rfl rfl ?_
      refine sx_RP.step (pc2 := 82) (ls2 := [(0, .ref 111), (1, .int (nI m)), (2, .int (nI n)), (3, .long l), (5, .int (nI j))]) (st2 := [.int (nI m), .long l]) (w3 := w) rfl rfl ?_
      refine sx_RP.step (pc2 := 83) (ls2 := [(0, .ref 111), (1, .int (nI m)), (2, .int (nI n)), (3, .long l), (5, .int (nI j))]) (st2 := [.long ((nI m).toInt64), .long l]) (w3 := w) rfl rfl ?_
      refine sx_RP.step (pc2 := 84) (ls2 := [(0, .ref 111), (1, .int (nI m)), (2, .int (nI n)), (3, .long l), (5, .int (nI j))]) (st2 := [.int (lg_cmp l ((nI m).toInt64))]) (w3 := w) rfl rfl ?_
      refine sx_RP.br (p1 := 94) (l1 := [(0, .ref 111), (1, .int (nI m)), (2, .int (nI n)), (3, .long l), (5, .int (nI j))]) (s1 := []) (v1 := w) (p2 := 87) (l2 := [(0, .ref 111), (1, .int (nI m)), (2, .int (nI n)), (3, .long l), (5, .int (nI j))]) (s2 := []) (v2 := w) rfl rfl (fun q4 => ?_) (fun q4 => ?_)
      · replace q4 := of_decide_eq_true q4
        refine sx_RP.step (pc2 := 95) (ls2 := [(0, .ref 111), (1, .int (nI m)), (2, .int (nI n)), (3, .long l), (5, .int (nI j))]) (st2 := [.ref 111]) (w3 := w) rfl rfl ?_
        refine sx_RP.callp (as2 := [.ref 111]) (rest2 := []) rfl rfl (sx_inv_v2 (mi := 220) (k := 245) (st := [.ref 111]) (w := w) rfl rfl hI.1.o111 rfl rfl rfl) rfl rfl rfl (s222 hI) (show _ = 98 from rfl) ?_
        rintro r4 w5 ⟨rfl, hI6, hE8⟩
        have hE7 := hE.tr (hE8)
        show sx_RP _ _ _ _ _ [.int 0] _ _
        refine sx_RP.ret (r := (some (.int 0))) rfl rfl ?_
        exact ⟨Or.inl rfl, hI6, hE7⟩
      · replace q4 := of_decide_eq_false q4
        refine sx_RP.step (pc2 := 88) (ls2 := [(0, .ref 111), (1, .int (nI m)), (2, .int (nI n)), (3, .long l), (5, .int (nI j))]) (st2 := [.long l]) (w3 := w) rfl rfl ?_
        refine sx_RP.step (pc2 := 89) (ls2 := [(0, .ref 111), (1, .int (nI m)), (2, .int (nI n)), (3, .long l), (5, .int (nI j))]) (st2 := [.int (nI n), .long l]) (w3 := w) rfl rfl ?_
        refine sx_RP.step (pc2 := 90) (ls2 := [(0, .ref 111), (1, .int (nI m)), (2, .int (nI n)), (3, .long l), (5, .int (nI j))]) (st2 := [.long ((nI n).toInt64), .long l]) (w3 := w) rfl rfl ?_
        refine sx_RP.step (pc2 := 91) (ls2 := [(0, .ref 111), (1, .int (nI m)), (2, .int (nI n)), (3, .long l), (5, .int (nI j))]) (st2 := [.int (lg_cmp l ((nI n).toInt64))]) (w3 := w) rfl rfl ?_
        refine sx_RP.br (p1 := 99) (l1 := [(0, .ref 111), (1, .int (nI m)), (2, .int (nI n)), (3, .long l), (5, .int (nI j))]) (s1 := []) (v1 := w) (p2 := 94) (l2 := [(0, .ref 111), (1, .int (nI m)), (2, .int (nI n)), (3, .long l), (5, .int (nI j))]) (s2 := []) (v2 := w) rfl rfl (fun q9 => ?_) (fun q9 => ?_)
        · replace q9 := of_decide_eq_true q9
          refine sx_RP.step (pc2 := 100) (ls2 := [(0, .ref 111), (1, .int (nI m)), (2, .int (nI n)), (3, .long l), (5, .int (nI j))]) (st2 := [.ref 111]) (w3 := w) rfl rfl ?_
          refine sx_RP.step (pc2 := 102) (ls2 := [(0, .ref 111), (1, .int (nI m)), (2, .int (nI n)), (3, .long l), (5, .int (nI j))]) (st2 := [.int (nI j), .ref 111]) (w3 := w) rfl rfl ?_
          refine sx_RP.pmH (k := 12) hI hE rfl rfl (by decide) rfl (inR.n (show j ≤ 120 by omega)) (fun _ => hr_le ep (by omega) (by omega) (by omega)) (show _ = 105 from rfl) (fun w10 hI11 hE12 ht13 ht14 ht15 => ?_)
          refine sx_RP.step (pc2 := 106) (ls2 := [(0, .ref 111), (1, .int (nI m)), (2, .int (nI n)), (3, .long l), (5, .int (nI j))]) (st2 := [.ref 111]) (w3 := w10) rfl rfl ?_
          refine sx_RP.step (pc2 := 107) (ls2 := [(0, .ref 111), (1, .int (nI m)), (2, .int (nI n)), (3, .long l), (5, .int (nI j))]) (st2 := [.long l, .ref 111]) (w3 := w10) rfl rfl ?_
          refine sx_RP.step (pc2 := 108) (ls2 := [(0, .ref 111), (1, .int (nI m)), (2, .int (nI n)), (3, .long l), (5, .int (nI j))]) (st2 := [.int l.toInt32, .ref 111]) (w3 := w10) rfl rfl ?_
          obtain ⟨x16, hx17, ex18⟩ := num_rng hm hn q4 q9
          rw [ex18]
          refine sx_RP.pmH (k := 14) hI11 hE12 rfl rfl (by decide) rfl trivial (fun z => absurd z (by decide)) (show _ = 111 from rfl) (fun w19 hI20 hE21 ht22 ht23 ht24 => ?_)
          have ex25 := (ht23 12 (by decide)).trans ht13
          refine sx_RP.step (pc2 := 112) (ls2 := [(0, .ref 111), (1, .int (nI m)), (2, .int (nI n)), (3, .long l), (5, .int (nI j))]) (st2 := [.int 1]) (w3 := w19) rfl rfl ?_
          refine sx_RP.ret (r := (some (.int 1))) rfl rfl ?_
          exact ⟨Or.inr ⟨x16, ⟨by omega, by omega, ht22⟩, rfl⟩, hI20, hE21⟩
        · replace q9 := of_decide_eq_false q9
          refine sx_RP.step (pc2 := 95) (ls2 := [(0, .ref 111), (1, .int (nI m)), (2, .int (nI n)), (3, .long l), (5, .int (nI j))]) (st2 := [.ref 111]) (w3 := w) rfl rfl ?_
          refine sx_RP.callp (as2 := [.ref 111]) (rest2 := []) rfl rfl (sx_inv_v2 (mi := 220) (k := 245) (st := [.ref 111]) (w := w) rfl rfl hI.1.o111 rfl rfl rfl) rfl rfl rfl (s222 hI) (show _ = 98 from rfl) ?_
          rintro r4 w26 ⟨rfl, hI27, hE29⟩
          have hE28 := hE.tr (hE29)
          show sx_RP _ _ _ _ _ [.int 0] _ _
          refine sx_RP.ret (r := (some (.int 0))) rfl rfl ?_
          exact ⟨Or.inl rfl, hI27, hE28⟩
    · refine sx_RP.cu (as := [.ref 111, .int (nI j)]) (rest2 := []) (st3 := [.int v3]) rfl rfl (sx_inv_v2 (mi := 220) (k := 215) (st := [.int (nI j), .ref 111]) (w := w) rfl rfl hI.1.o111 rfl rfl rfl) rfl rfl (c1) rfl ?_
      rcases in_cases v3 48 57 (m := 48) (n := 57) rfl rfl (by decide) (by decide) with q30 | ⟨x31, hx32, hx33, rfl⟩
      · refine sx_RP.cu (as := [.int v3]) (rest2 := []) (st3 := [.int 0]) rfl rfl rfl rfl rfl (cx_221n q30) rfl ?_
        refine sx_RP.step (pc2 := 80) (ls2 := [(0, .ref 111), (1, .int (nI m)), (2, .int (nI n)), (3, .long l), (5, .int (nI j))]) (st2 := []) (w3 := w) rfl rfl ?_
        refine sx_RP.step (pc2 := 81) (ls2 := [(0, .ref 111), (1, .int (nI m)), (2, .int (nI n)), (3, .long l), (5, .int (nI j))]) (st2 := [.long l]) (w3 := w) rfl rfl ?_
        refine sx_RP.step (pc2 := 82) (ls2 := [(0, .ref 111), (1, .int (nI m)), (2, .int (nI n)), (3, .long l), (5, .int (nI j))]) (st2 := [.int (nI m), .long l]) (w3 := w) rfl rfl ?_
        refine sx_RP.step (pc2 := 83) (ls2 := [(0, .ref 111), (1, .int (nI m)), (2, .int (nI n)), (3, .long l), (5, .int (nI j))]) (st2 := [.long ((nI m).toInt64), .long l]) (w3 := w) rfl rfl ?_
        refine sx_RP.step (pc2 := 84) (ls2 := [(0, .ref 111), (1, .int (nI m)), (2, .int (nI n)), (3, .long l), (5, .int (nI j))]) (st2 := [.int (lg_cmp l ((nI m).toInt64))]) (w3 := w) rfl rfl ?_
        refine sx_RP.br (p1 := 94) (l1 := [(0, .ref 111), (1, .int (nI m)), (2, .int (nI n)), (3, .long l), (5, .int (nI j))]) (s1 := []) (v1 := w) (p2 := 87) (l2 := [(0, .ref 111), (1, .int (nI m)), (2, .int (nI n)), (3, .long l), (5, .int (nI j))]) (s2 := []) (v2 := w) rfl rfl (fun q35 => ?_) (fun q35 => ?_)
        · replace q35 := of_decide_eq_true q35
          refine sx_RP.step (pc2 := 95) (ls2 := [(0, .ref 111), (1, .int (nI m)), (2, .int (nI n)), (3, .long l), (5, .int (nI j))]) (st2 := [.ref 111]) (w3 := w) rfl rfl ?_
          refine sx_RP.callp (as2 := [.ref 111]) (rest2 := []) rfl rfl (sx_inv_v2 (mi := 220) (k := 245) (st := [.ref 111]) (w := w) rfl rfl hI.1.o111 rfl rfl rfl) rfl rfl rfl (s222 hI) (show _ = 98 from rfl) ?_
          rintro r4 w36 ⟨rfl, hI37, hE39⟩
          have hE38 := hE.tr (hE39)
          show sx_RP _ _ _ _ _ [.int 0] _ _
          refine sx_RP.ret (r := (some (.int 0))) rfl rfl ?_
          exact ⟨Or.inl rfl, hI37, hE38⟩
        · replace q35 := of_decide_eq_false q35
          refine sx_RP.step (pc2 := 88) (ls2 := [(0, .ref 111), (1, .int (nI m)), (2, .int (nI n)), (3, .long l), (5, .int (nI j))]) (st2 := [.long l]) (w3 := w) rfl rfl ?_
          refine sx_RP.step (pc2 := 89) (ls2 := [(0, .ref 111), (1, .int (nI m)), (2, .int (nI n)), (3, .long l), (5, .int (nI j))]) (st2 := [.int (nI n), .long l]) (w3 := w) rfl rfl ?_
          refine sx_RP.step (pc2 := 90) (ls2 := [(0, .ref 111), (1, .int (nI m)), (2, .int (nI n)), (3, .long l), (5, .int (nI j))]) (st2 := [.long ((nI n).toInt64), .long l]) (w3 := w) rfl rfl ?_
          refine sx_RP.step (pc2 := 91) (ls2 := [(0, .ref 111), (1, .int (nI m)), (2, .int (nI n)), (3, .long l), (5, .int (nI j))]) (st2 := [.int (lg_cmp l ((nI n).toInt64))]) (w3 := w) rfl rfl ?_
          refine sx_RP.br (p1 := 99) (l1 := [(0, .ref 111), (1, .int (nI m)), (2, .int (nI n)), (3, .long l), (5, .int (nI j))]) (s1 := []) (v1 := w) (p2 := 94) (l2 := [(0, .ref 111), (1, .int (nI m)), (2, .int (nI n)), (3, .long l), (5, .int (nI j))]) (s2 := []) (v2 := w) rfl rfl (fun q40 => ?_) (fun q40 => ?_)
          · replace q40 := of_decide_eq_true q40
            refine sx_RP.step (pc2 := 100) (ls2 := [(0, .ref 111), (1, .int (nI m)), (2, .int (nI n)), (3, .long l), (5, .int (nI j))]) (st2 := [.ref 111]) (w3 := w) rfl rfl ?_
            refine sx_RP.step (pc2 := 102) (ls2 := [(0, .ref 111), (1, .int (nI m)), (2, .int (nI n)), (3, .long l), (5, .int (nI j))]) (st2 := [.int (nI j), .ref 111]) (w3 := w) rfl rfl ?_
            refine sx_RP.pmH (k := 12) hI hE rfl rfl (by decide) rfl (inR.n (show j ≤ 120 by omega)) (fun _ => hr_le ep (by omega) (by omega) (by omega)) (show _ = 105 from rfl) (fun w41 hI42 hE43 ht44 ht45 ht46 => ?_)
            refine sx_RP.step (pc2 := 106) (ls2 := [(0, .ref 111), (1, .int (nI m)), (2, .int (nI n)), (3, .long l), (5, .int (nI j))]) (st2 := [.ref 111]) (w3 := w41) rfl rfl ?_
            refine sx_RP.step (pc2 := 107) (ls2 := [(0, .ref 111), (1, .int (nI m)), (2, .int (nI n)), (3, .long l), (5, .int (nI j))]) (st2 := [.long l, .ref 111]) (w3 := w41) rfl rfl ?_
            refine sx_RP.step (pc2 := 108) (ls2 := [(0, .ref 111), (1, .int (nI m)), (2, .int (nI n)), (3, .long l), (5, .int (nI j))]) (st2 := [.int l.toInt32, .ref 111]) (w3 := w41) rfl rfl ?_
            obtain ⟨x47, hx48, ex49⟩ := num_rng hm hn q35 q40
            rw [ex49]
            refine sx_RP.pmH (k := 14) hI42 hE43 rfl rfl (by decide) rfl trivial (fun z => absurd z (by decide)) (show _ = 111 from rfl) (fun w50 hI51 hE52 ht53 ht54 ht55 => ?_)
            have ex56 := (ht54 12 (by decide)).trans ht44
            refine sx_RP.step (pc2 := 112) (ls2 := [(0, .ref 111), (1, .int (nI m)), (2, .int (nI n)), (3, .long l), (5, .int (nI j))]) (st2 := [.int 1]) (w3 := w50) rfl rfl ?_
            refine sx_RP.ret (r := (some (.int 1))) rfl rfl ?_
            exact ⟨Or.inr ⟨x47, ⟨by omega, by omega, ht53⟩, rfl⟩, hI51, hE52⟩
          · replace q40 := of_decide_eq_false q40
            refine sx_RP.step (pc2 := 95) (ls2 := [(0, .ref 111), (1, .int (nI m)), (2, .int (nI n)), (3, .long l), (5, .int (nI j))]) (st2 := [.ref 111]) (w3 := w) rfl rfl ?_
            refine sx_RP.callp (as2 := [.ref 111]) (rest2 := []) rfl rfl (sx_inv_v2 (mi := 220) (k := 245) (st := [.ref 111]) (w := w) rfl rfl hI.1.o111 rfl rfl rfl) rfl rfl rfl (s222 hI) (show _ = 98 from rfl) ?_
            rintro r4 w57 ⟨rfl, hI58, hE60⟩
            have hE59 := hE.tr (hE60)
            show sx_RP _ _ _ _ _ [.int 0] _ _
            refine sx_RP.ret (r := (some (.int 0))) rfl rfl ?_
            exact ⟨Or.inl rfl, hI58, hE59⟩
      · refine sx_RP.cu (as := [.int (nI x31)]) (rest2 := []) (st3 := [.int 1]) rfl rfl rfl rfl rfl (cx_221p ⟨nI_le (a := 48) hx32 (by omega), nI_le (b := 57) hx33 (by decide)⟩) rfl ?_
        refine sx_RP.step (pc2 := 50) (ls2 := [(0, .ref 111), (1, .int (nI m)), (2, .int (nI n)), (3, .long l), (5, .int (nI j))]) (st2 := []) (w3 := w) rfl rfl ?_
        refine sx_RP.step (pc2 := 53) (ls2 := [(0, .ref 111), (1, .int (nI m)), (2, .int (nI n)), (3, .long l), (5, .int (nI j))]) (st2 := [.long 9999999]) (w3 := w) rfl rfl ?_
        refine sx_RP.step (pc2 := 56) (ls2 := [(0, .ref 111), (1, .int (nI m)), (2, .int (nI n)), (3, .long l), (5, .int (nI j))]) (st2 := [.long 10, .long 9999999]) (w3 := w) rfl rfl ?_
        refine sx_RP.step (pc2 := 57) (ls2 := [(0, .ref 111), (1, .int (nI m)), (2, .int (nI n)), (3, .long l), (5, .int (nI j))]) (st2 := [.long l, .long 10, .long 9999999]) (w3 := w) rfl rfl ?_
        refine sx_RP.step (pc2 := 58) (ls2 := [(0, .ref 111), (1, .int (nI m)), (2, .int (nI n)), (3, .long l), (5, .int (nI j))]) (st2 := [.long (10 * l), .long 9999999]) (w3 := w) rfl rfl ?_
        refine sx_RP.step (pc2 := 59) (ls2 := [(0, .ref 111), (1, .int (nI m)), (2, .int (nI n)), (3, .long l), (5, .int (nI j))]) (st2 := [.ref 111, .long (10 * l), .long 9999999]) (w3 := w) rfl rfl ?_
        refine sx_RP.step (pc2 := 61) (ls2 := [(0, .ref 111), (1, .int (nI m)), (2, .int (nI n)), (3, .long l), (5, .int (nI j))]) (st2 := [.int (nI j), .ref 111, .long (10 * l), .long 9999999]) (w3 := w) rfl rfl ?_
        rcases p216 (xs := xs) (a := j) hI (by omega) with c61 | ⟨hx62, v63, c61⟩
        · refine sx_RP.cu (as := [.ref 111, .int (nI j)]) (rest2 := [.long (10 * l), .long 9999999]) (st3 := [.int (-1), .long (10 * l), .long 9999999]) rfl rfl (sx_inv_v2 (mi := 220) (k := 215) (st := [.int (nI j), .ref 111, .long (10 * l), .long 9999999]) (w := w) rfl rfl hI.1.o111 rfl rfl rfl) rfl rfl (c61) rfl ?_
          refine sx_RP.step (pc2 := 65) (ls2 := [(0, .ref 111), (1, .int (nI m)), (2, .int (nI n)), (3, .long l), (5, .int (nI j))]) (st2 := [.long (-1), .long (10 * l), .long 9999999]) (w3 := w) rfl rfl ?_
          refine sx_RP.step (pc2 := 66) (ls2 := [(0, .ref 111), (1, .int (nI m)), (2, .int (nI n)), (3, .long l), (5, .int (nI j))]) (st2 := [.long ((10 * l) + (-1)), .long 9999999]) (w3 := w) rfl rfl ?_
          refine sx_RP.step (pc2 := 69) (ls2 := [(0, .ref 111), (1, .int (nI m)), (2, .int (nI n)), (3, .long l), (5, .int (nI j))]) (st2 := [.long 48, .long ((10 * l) + (-1)), .long 9999999]) (w3 := w) rfl rfl ?_
          refine sx_RP.step (pc2 := 70) (ls2 := [(0, .ref 111), (1, .int (nI m)), (2, .int (nI n)), (3, .long l), (5, .int (nI j))]) (st2 := [.long (((10 * l) + (-1)) - 48), .long 9999999]) (w3 := w) rfl rfl ?_
          obtain ⟨v64, c65⟩ := p223 hI 9999999 (((10 * l) + (-1)) - 48)
          refine sx_RP.cu (as := [.long 9999999, .long (((10 * l) + (-1)) - 48)]) (rest2 := []) (st3 := [.long v64]) rfl rfl rfl rfl rfl (c65) rfl ?_
          refine sx_RP.step (pc2 := 74) (ls2 := [(3, .long v64), (0, .ref 111), (1, .int (nI m)), (2, .int (nI n)), (5, .int (nI j))]) (st2 := []) (w3 := w) rfl rfl ?_
          refine sx_RP.step (pc2 := 77) (ls2 := [(5, .int ((nI j) + 1)), (3, .long v64), (0, .ref 111), (1, .int (nI m)), (2, .int (nI n))]) (st2 := []) (w3 := w) rfl rfl ?_
          rw [nI_1 j]
          refine sx_RP.step (pc2 := 38) (ls2 := [(5, .int (nI (j + 1))), (3, .long v64), (0, .ref 111), (1, .int (nI m)), (2, .int (nI n))]) (st2 := []) (w3 := w) rfl rfl ?_
          match fz, h with
          | 0, h => exact absurd h (by omega)
          | fz + 1, h => exact sx_RP.ls (sx_lr.cons rfl (sx_lr.cons rfl (sx_lr.cons rfl (sx_lr.cons rfl (sx_lr.cons rfl sx_lr.nil))))) (s220L hm hn hI hE ep fz (j + 1) v64 (by omega) (by omega) (by omega))
        · refine sx_RP.cu (as := [.ref 111, .int (nI j)]) (rest2 := [.long (10 * l), .long 9999999]) (st3 := [.int v63, .long (10 * l), .long 9999999]) rfl rfl (sx_inv_v2 (mi := 220) (k := 215) (st := [.int (nI j), .ref 111, .long (10 * l), .long 9999999]) (w := w) rfl rfl hI.1.o111 rfl rfl rfl) rfl rfl (c61) rfl ?_
          refine sx_RP.step (pc2 := 65) (ls2 := [(0, .ref 111), (1, .int (nI m)), (2, .int (nI n)), (3, .long l), (5, .int (nI j))]) (st2 := [.long v63.toInt64, .long (10 * l), .long 9999999]) (w3 := w) rfl rfl ?_
          refine sx_RP.step (pc2 := 66) (ls2 := [(0, .ref 111), (1, .int (nI m)), (2, .int (nI n)), (3, .long l), (5, .int (nI j))]) (st2 := [.long ((10 * l) + v63.toInt64), .long 9999999]) (w3 := w) rfl rfl ?_
          refine sx_RP.step (pc2 := 69) (ls2 := [(0, .ref 111), (1, .int (nI m)), (2, .int (nI n)), (3, .long l), (5, .int (nI j))]) (st2 := [.long 48, .long ((10 * l) + v63.toInt64), .long 9999999]) (w3 := w) rfl rfl ?_
          refine sx_RP.step (pc2 := 70) (ls2 := [(0, .ref 111), (1, .int (nI m)), (2, .int (nI n)), (3, .long l), (5, .int (nI j))]) (st2 := [.long (((10 * l) + v63.toInt64) - 48), .long 9999999]) (w3 := w) rfl rfl ?_
          obtain ⟨v66, c67⟩ := p223 hI 9999999 (((10 * l) + v63.toInt64) - 48)
          refine sx_RP.cu (as := [.long 9999999, .long (((10 * l) + v63.toInt64) - 48)]) (rest2 := []) (st3 := [.long v66]) rfl rfl rfl rfl rfl (c67) rfl ?_
          refine sx_RP.step (pc2 := 74) (ls2 := [(3, .long v66), (0, .ref 111), (1, .int (nI m)), (2, .int (nI n)), (5, .int (nI j))]) (st2 := []) (w3 := w) rfl rfl ?_
          refine sx_RP.step (pc2 := 77) (ls2 := [(5, .int ((nI j) + 1)), (3, .long v66), (0, .ref 111), (1, .int (nI m)), (2, .int (nI n))]) (st2 := []) (w3 := w) rfl rfl ?_
          rw [nI_1 j]
          refine sx_RP.step (pc2 := 38) (ls2 := [(5, .int (nI (j + 1))), (3, .long v66), (0, .ref 111), (1, .int (nI m)), (2, .int (nI n))]) (st2 := []) (w3 := w) rfl rfl ?_
          match fz, h with
          | 0, h => exact absurd h (by omega)
          | fz + 1, h => exact sx_RP.ls (sx_lr.cons rfl (sx_lr.cons rfl (sx_lr.cons rfl (sx_lr.cons rfl (sx_lr.cons rfl sx_lr.nil))))) (s220L hm hn hI hE ep fz (j + 1) v66 (by omega) (by omega) (by omega))
set_option maxRecDepth 20000 in
set_option maxHeartbeats 4000000 in
theorem s220 {xs : Option (List Int32)} {d : Nat} {w : List sx_C} (hI : WI w) {m n : Nat} (hm : m < 2 ^ 31) (hn : n < 2 ^ 31) : sx_RP xs (d + 3) 220 0 (lv_args 0 [.ref 111, .int (nI m), .int (nI n)]) [] w (fun r w2 => (r = some (.int 0) ∨ ∃ v, (m ≤ v ∧ v ≤ n ∧ fi w2 111 14 = nI v) ∧ r = some (.int 1)) ∧ WI w2 ∧ EH w w2) := by
  have hE : EH w w := EH.rf
  refine sx_RP.step (pc2 := 1) (ls2 := [(0, .ref 111), (1, .int (nI m)), (2, .int (nI n))]) (st2 := [.ref 111]) (w3 := w) rfl rfl ?_
  refine sx_RP.callp (as2 := [.ref 111]) (rest2 := []) rfl rfl (sx_inv_v2 (mi := 220) (k := 224) (st := [.ref 111]) (w := w) rfl rfl hI.1.o111 rfl rfl rfl) rfl rfl rfl (s215 hI) (show _ = 4 from rfl) ?_
  rintro r4 w1 ⟨⟨rfl, _⟩, hI2, hE4⟩
  have hE3 := hE.tr (hE4)
  show sx_RP _ _ _ _ _ [] _ _
  refine sx_RP.step (pc2 := 5) (ls2 := [(0, .ref 111), (1, .int (nI m)), (2, .int (nI n))]) (st2 := [.ref 111]) (w3 := w1) rfl rfl ?_
  refine sx_RP.gf (v := .int (fi w1 111 13)) rfl rfl hI2.1.o111 rfl rfl (show _ = 8 from rfl) ?_
  refine sx_RP.br (p1 := 25) (l1 := [(0, .ref 111), (1, .int (nI m)), (2, .int (nI n))]) (s1 := []) (v1 := w1) (p2 := 11) (l2 := [(0, .ref 111), (1, .int (nI m)), (2, .int (nI n))]) (s2 := []) (v2 := w1) rfl rfl (fun q5 => ?_) (fun q5 => ?_)
  · replace q5 := of_decide_eq_true q5
    refine sx_RP.step (pc2 := 26) (ls2 := [(0, .ref 111), (1, .int (nI m)), (2, .int (nI n))]) (st2 := [.ref 111]) (w3 := w1) rfl rfl ?_
    refine sx_RP.callp (as2 := [.ref 111]) (rest2 := []) rfl rfl (sx_inv_v2 (mi := 220) (k := 245) (st := [.ref 111]) (w := w1) rfl rfl hI2.1.o111 rfl rfl rfl) rfl rfl rfl (s222 hI2) (show _ = 29 from rfl) ?_
    rintro r4 w6 ⟨rfl, hI7, hE9⟩
    have hE8 := hE3.tr (hE9)
    show sx_RP _ _ _ _ _ [.int 0] _ _
    refine sx_RP.ret (r := (some (.int 0))) rfl rfl ?_
    exact ⟨Or.inl rfl, hI7, hE8⟩
  · replace q5 := of_decide_eq_false q5
    refine sx_RP.step (pc2 := 12) (ls2 := [(0, .ref 111), (1, .int (nI m)), (2, .int (nI n))]) (st2 := [.ref 111]) (w3 := w1) rfl rfl ?_
    refine sx_RP.step (pc2 := 13) (ls2 := [(0, .ref 111), (1, .int (nI m)), (2, .int (nI n))]) (st2 := [.ref 111, .ref 111]) (w3 := w1) rfl rfl ?_
    refine sx_RP.gf (v := .int (fi w1 111 12)) rfl rfl hI2.1.o111 rfl rfl (show _ = 16 from rfl) ?_
    obtain ⟨x10, hx11, ex12⟩ : inR (fi w1 111 12) 120 := hI2.m.2.2
    rw [ex12]
    rcases p216 (xs := xs) (a := x10) hI2 (by omega) with c13 | ⟨hx14, v15, c13⟩
    · refine sx_RP.cu (as := [.ref 111, .int (nI x10)]) (rest2 := []) (st3 := [.int (-1)]) rfl rfl (sx_inv_v2 (mi := 220) (k := 215) (st := [.int (nI x10), .ref 111]) (w := w1) rfl rfl hI2.1.o111 rfl rfl rfl) rfl rfl (c13) rfl ?_
      refine sx_RP.cu (as := [.int (-1)]) (rest2 := []) (st3 := [.int 0]) rfl rfl rfl rfl rfl (cx_221n (by decide)) rfl ?_
      refine sx_RP.step (pc2 := 25) (ls2 := [(0, .ref 111), (1, .int (nI m)), (2, .int (nI n))]) (st2 := []) (w3 := w1) rfl rfl ?_
      refine sx_RP.step (pc2 := 26) (ls2 := [(0, .ref 111), (1, .int (nI m)), (2, .int (nI n))]) (st2 := [.ref 111]) (w3 := w1) rfl rfl ?_
      refine sx_RP.callp (as2 := [.ref 111]) (rest2 := []) rfl rfl (sx_inv_v2 (mi := 220) (k := 245) (st := [.ref 111]) (w := w1) rfl rfl hI2.1.o111 rfl rfl rfl) rfl rfl rfl (s222 hI2) (show _ = 29 from rfl) ?_
      rintro r4 w16 ⟨rfl, hI17, hE19⟩
      have hE18 := hE3.tr (hE19)
      show sx_RP _ _ _ _ _ [.int 0] _ _
      refine sx_RP.ret (r := (some (.int 0))) rfl rfl ?_
      exact ⟨Or.inl rfl, hI17, hE18⟩
    · refine sx_RP.cu (as := [.ref 111, .int (nI x10)]) (rest2 := []) (st3 := [.int v15]) rfl rfl (sx_inv_v2 (mi := 220) (k := 215) (st := [.int (nI x10), .ref 111]) (w := w1) rfl rfl hI2.1.o111 rfl rfl rfl) rfl rfl (c13) rfl ?_
      rcases in_cases v15 48 57 (m := 48) (n := 57) rfl rfl (by decide) (by decide) with q20 | ⟨x21, hx22, hx23, rfl⟩
      · refine sx_RP.cu (as := [.int v15]) (rest2 := []) (st3 := [.int 0]) rfl rfl rfl rfl rfl (cx_221n q20) rfl ?_
        refine sx_RP.step (pc2 := 25) (ls2 := [(0, .ref 111), (1, .int (nI m)), (2, .int (nI n))]) (st2 := []) (w3 := w1) rfl rfl ?_
        refine sx_RP.step (pc2 := 26) (ls2 := [(0, .ref 111), (1, .int (nI m)), (2, .int (nI n))]) (st2 := [.ref 111]) (w3 := w1) rfl rfl ?_
        refine sx_RP.callp (as2 := [.ref 111]) (rest2 := []) rfl rfl (sx_inv_v2 (mi := 220) (k := 245) (st := [.ref 111]) (w := w1) rfl rfl hI2.1.o111 rfl rfl rfl) rfl rfl rfl (s222 hI2) (show _ = 29 from rfl) ?_
        rintro r4 w25 ⟨rfl, hI26, hE28⟩
        have hE27 := hE3.tr (hE28)
        show sx_RP _ _ _ _ _ [.int 0] _ _
        refine sx_RP.ret (r := (some (.int 0))) rfl rfl ?_
        exact ⟨Or.inl rfl, hI26, hE27⟩
      · refine sx_RP.cu (as := [.int (nI x21)]) (rest2 := []) (st3 := [.int 1]) rfl rfl rfl rfl rfl (cx_221p ⟨nI_le (a := 48) hx22 (by omega), nI_le (b := 57) hx23 (by decide)⟩) rfl ?_
        refine sx_RP.step (pc2 := 30) (ls2 := [(0, .ref 111), (1, .int (nI m)), (2, .int (nI n))]) (st2 := []) (w3 := w1) rfl rfl ?_
        refine sx_RP.step (pc2 := 31) (ls2 := [(0, .ref 111), (1, .int (nI m)), (2, .int (nI n))]) (st2 := [.long 0]) (w3 := w1) rfl rfl ?_
        refine sx_RP.step (pc2 := 32) (ls2 := [(3, .long 0), (0, .ref 111), (1, .int (nI m)), (2, .int (nI n))]) (st2 := []) (w3 := w1) rfl rfl ?_
        refine sx_RP.step (pc2 := 33) (ls2 := [(3, .long 0), (0, .ref 111), (1, .int (nI m)), (2, .int (nI n))]) (st2 := [.ref 111]) (w3 := w1) rfl rfl ?_
        refine sx_RP.gf (v := .int (fi w1 111 12)) rfl rfl hI2.1.o111 rfl rfl (show _ = 36 from rfl) ?_
        rw [ex12]
        refine sx_RP.step (pc2 := 38) (ls2 := [(5, .int (nI x10)), (3, .long 0), (0, .ref 111), (1, .int (nI m)), (2, .int (nI n))]) (st2 := []) (w3 := w1) rfl rfl ?_
        exact sx_RP.ls (sx_lr.cons rfl (sx_lr.cons rfl (sx_lr.cons rfl (sx_lr.cons rfl (sx_lr.cons rfl sx_lr.nil))))) (s220L hm hn hI2 hE3 ex12 120 x10 0 (by omega) (by omega) (by omega))
