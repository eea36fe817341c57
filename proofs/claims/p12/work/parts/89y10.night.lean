-- nights
theorem near_t {a b : Nat} (h : a = b ∨ ∃ j, j < 4 ∧ bsd a j = nI b) : nearB a b = true := by
  unfold nearB
  rcases h with h | h
  · rw [beq_iff_eq.mpr h]
    rfl
  · rw [nbb_iff.mpr h, Bool.or_true]
theorem near_f {a b : Nat} (h0 : ¬ a = b) (h1 : ¬ bsd a 0 = nI b) (h2 : ¬ bsd a 1 = nI b) (h3 : ¬ bsd a 2 = nI b) (h4 : ¬ bsd a 3 = nI b) : nearB a b = false := by
  unfold nearB
  rw [beq_false_of_ne h0, Bool.false_or]
  refine Bool.eq_false_iff.mpr (fun z => ?_)
  obtain ⟨j, hj, e⟩ := nbb_iff.mp z
  rcases (show j = 0 ∨ j = 1 ∨ j = 2 ∨ j = 3 by omega) with rfl | rfl | rfl | rfl
  · exact h1 e
  · exact h2 e
  · exact h3 e
  · exact h4 e
theorem lf_y {l : List Int32} {x : Int32} {j : Nat} (h : gF l j 1 = x ∧ gF l j 5 = 0) : lfF l x (j + 1) = lfF l x j + 1 := by
  show lfF l x j + _ = _
  rw [if_pos h]
theorem lf_n {l : List Int32} {x : Int32} {j : Nat} (h : ¬ (gF l j 1 = x ∧ gF l j 5 = 0)) : lfF l x (j + 1) = lfF l x j := by
  show lfF l x j + _ = _
  rw [if_neg h]
  exact Int32.add_zero _
theorem me_n {l : List Int32} {h j : Nat} (h0 : meF l h j = false) (hc : ¬ (gF l j 1 = 1 ∧ gF l j 5 = 0)) : meF l h (j + 1) = false := by
  unfold meF
  rw [h0, decide_eq_false hc]
  rfl
theorem me_c {l : List Int32} {h j c : Nat} (h0 : meF l h j = false) (hc : gF l j 1 = 1 ∧ gF l j 5 = 0) (e : gF l j 2 = nI c) (hc48 : c < 48) : meF l h (j + 1) = nearB c h := by
  unfold meF
  rw [h0, decide_eq_true hc, e, iN_n (by omega)]
  rfl
theorem near_le {a b : Nat} (ha : a < 48) (hb : b < 48) (h : apF a b ≤ 1) : nearB a b = true := by
  rw [← ap_near a ha b hb]
  exact decide_eq_true h
theorem near_gt {a b : Nat} (ha : a < 48) (hb : b < 48) (h : ¬ apF a b ≤ 1) : nearB a b = false := by
  rw [← ap_near a ha b hb]
  exact decide_eq_false h
theorem tel9 {a b c e : Int32} : (a - b) + (b - c - e) = a - (c + e) := by
  simp only [Int32.sub_eq_add_neg, Int32.neg_add, Int32.add_assoc]
  rw [← Int32.add_assoc (-b) b, Int32.add_left_neg, Int32.zero_add]
theorem Out.tr {A : Nat} {w w1 w2 : List sx_C} (h : Out A w w1) (h2 : Out A w1 w2) : Out A w w2 := fun a ha => (h2 a ha).trans (h a ha)
theorem Same.out {A a : Nat} {w w2 : List sx_C} (h : Same a w w2) (ha : A ≤ a ∧ a < A + 14) : Out A w w2 := fun b hb => h b (by omega)
set_option maxRecDepth 20000 in
set_option maxHeartbeats 4000000 in
theorem x172 {xs : Option (List Int32)} {d : Nat} {w : List sx_C} (hI : WI w) {a b : Nat} (ha : a < 48) (hb : b < 48) : sx_RU xs (d + 1) 172 0 (lv_args 0 [.int (nI a), .int (nI b)]) [] w (some (.int (b01 (nearB a b)))) w := by
  have h : sx_RP xs (d + 1) 172 0 (lv_args 0 [.int (nI a), .int (nI b)]) [] w (fun r9 w2 => r9 = some (.int (b01 (nearB a b))) ∧ w2 = w) := by
    refine sx_RP.step (pc2 := 1) (ls2 := [(0, .int (nI a)), (1, .int (nI b))]) (st2 := [.int (nI a)]) (w3 := w) rfl rfl ?_
    refine sx_RP.step (pc2 := 2) (ls2 := [(0, .int (nI a)), (1, .int (nI b))]) (st2 := [.int (nI b), .int (nI a)]) (w3 := w) rfl rfl ?_
    refine sx_RP.br (p1 := 9) (l1 := [(0, .int (nI a)), (1, .int (nI b))]) (s1 := []) (v1 := w) (p2 := 5) (l2 := [(0, .int (nI a)), (1, .int (nI b))]) (s2 := []) (v2 := w) rfl rfl (fun q1 => ?_) (fun q1 => ?_)
    · replace q1 := of_decide_eq_true q1
      replace q1 := mt (nI_eq (a := a) (b := b) (by omega) (by omega)).mpr q1
      refine sx_RP.step (pc2 := 10) (ls2 := [(0, .int (nI a)), (1, .int (nI b))]) (st2 := [.int 0]) (w3 := w) rfl rfl ?_
      refine sx_RP.step (pc2 := 11) (ls2 := [(2, .int 0), (0, .int (nI a)), (1, .int (nI b))]) (st2 := []) (w3 := w) rfl rfl ?_
      refine sx_RP.step (pc2 := 12) (ls2 := [(2, .int 0), (0, .int (nI a)), (1, .int (nI b))]) (st2 := [.int 0]) (w3 := w) rfl rfl ?_
      refine sx_RP.step (pc2 := 13) (ls2 := [(3, .int 0), (2, .int 0), (0, .int (nI a)), (1, .int (nI b))]) (st2 := []) (w3 := w) rfl rfl ?_
      refine sx_RP.step (pc2 := 14) (ls2 := [(3, .int 0), (2, .int 0), (0, .int (nI a)), (1, .int (nI b))]) (st2 := [.int 0]) (w3 := w) rfl rfl ?_
      refine sx_RP.step (pc2 := 15) (ls2 := [(3, .int 0), (2, .int 0), (0, .int (nI a)), (1, .int (nI b))]) (st2 := [.int 4, .int 0]) (w3 := w) rfl rfl ?_
      refine sx_RP.step (pc2 := 18) (ls2 := [(3, .int 0), (2, .int 0), (0, .int (nI a)), (1, .int (nI b))]) (st2 := []) (w3 := w) rfl rfl ?_
      refine sx_RP.step (pc2 := 19) (ls2 := [(3, .int 0), (2, .int 0), (0, .int (nI a)), (1, .int (nI b))]) (st2 := [.int 0]) (w3 := w) rfl rfl ?_
      refine sx_RP.step (pc2 := 22) (ls2 := [(3, .int 0), (2, .int 0), (0, .int (nI a)), (1, .int (nI b))]) (st2 := []) (w3 := w) rfl rfl ?_
      refine sx_RP.step (pc2 := 23) (ls2 := [(3, .int 0), (2, .int 0), (0, .int (nI a)), (1, .int (nI b))]) (st2 := [.int (nI a)]) (w3 := w) rfl rfl ?_
      refine sx_RP.step (pc2 := 24) (ls2 := [(3, .int 0), (2, .int 0), (0, .int (nI a)), (1, .int (nI b))]) (st2 := [.int 0, .int (nI a)]) (w3 := w) rfl rfl ?_
      refine sx_RP.cu (as := [.int (nI a), .int 0]) (rest2 := []) (st3 := [.int (bsd a 0)]) rfl rfl rfl rfl rfl (cb_142 ha 0 (by decide)) rfl ?_
      refine sx_RP.step (pc2 := 28) (ls2 := [(3, .int 0), (2, .int 0), (0, .int (nI a)), (1, .int (nI b))]) (st2 := [.int (nI b), .int (bsd a 0)]) (w3 := w) rfl rfl ?_
      refine sx_RP.br (p1 := 35) (l1 := [(3, .int 0), (2, .int 0), (0, .int (nI a)), (1, .int (nI b))]) (s1 := []) (v1 := w) (p2 := 31) (l2 := [(3, .int 0), (2, .int 0), (0, .int (nI a)), (1, .int (nI b))]) (s2 := []) (v2 := w) rfl rfl (fun q2 => ?_) (fun q2 => ?_)
      · replace q2 := of_decide_eq_true q2
        refine sx_RP.step (pc2 := 36) (ls2 := [(3, .int 0), (2, .int 0), (0, .int (nI a)), (1, .int (nI b))]) (st2 := [.int 0]) (w3 := w) rfl rfl ?_
        refine sx_RP.step (pc2 := 37) (ls2 := [(2, .int 0), (3, .int 0), (0, .int (nI a)), (1, .int (nI b))]) (st2 := []) (w3 := w) rfl rfl ?_
        refine sx_RP.step (pc2 := 40) (ls2 := [(3, .int 1), (2, .int 0), (0, .int (nI a)), (1, .int (nI b))]) (st2 := []) (w3 := w) rfl rfl ?_
        refine sx_RP.step (pc2 := 13) (ls2 := [(3, .int 1), (2, .int 0), (0, .int (nI a)), (1, .int (nI b))]) (st2 := []) (w3 := w) rfl rfl ?_
        refine sx_RP.step (pc2 := 14) (ls2 := [(3, .int 1), (2, .int 0), (0, .int (nI a)), (1, .int (nI b))]) (st2 := [.int 1]) (w3 := w) rfl rfl ?_
        refine sx_RP.step (pc2 := 15) (ls2 := [(3, .int 1), (2, .int 0), (0, .int (nI a)), (1, .int (nI b))]) (st2 := [.int 4, .int 1]) (w3 := w) rfl rfl ?_
        refine sx_RP.step (pc2 := 18) (ls2 := [(3, .int 1), (2, .int 0), (0, .int (nI a)), (1, .int (nI b))]) (st2 := []) (w3 := w) rfl rfl ?_
        refine sx_RP.step (pc2 := 19) (ls2 := [(3, .int 1), (2, .int 0), (0, .int (nI a)), (1, .int (nI b))]) (st2 := [.int 0]) (w3 := w) rfl rfl ?_
        refine sx_RP.step (pc2 := 22) (ls2 := [(3, .int 1), (2, .int 0), (0, .int (nI a)), (1, .int (nI b))]) (st2 := []) (w3 := w) rfl rfl ?_
        refine sx_RP.step (pc2 := 23) (ls2 := [(3, .int 1), (2, .int 0), (0, .int (nI a)), (1, .int (nI b))]) (st2 := [.int (nI a)]) (w3 := w) rfl rfl ?_
        refine sx_RP.step (pc2 := 24) (ls2 := [(3, .int 1), (2, .int 0), (0, .int (nI a)), (1, .int (nI b))]) (st2 := [.int 1, .int (nI a)]) (w3 := w) rfl rfl ?_
        refine sx_RP.cu (as := [.int (nI a), .int 1]) (rest2 := []) (st3 := [.int (bsd a 1)]) rfl rfl rfl rfl rfl (cb_142 ha 1 (by decide)) rfl ?_
        refine sx_RP.step (pc2 := 28) (ls2 := [(3, .int 1), (2, .int 0), (0, .int (nI a)), (1, .int (nI b))]) (st2 := [.int (nI b), .int (bsd a 1)]) (w3 := w) rfl rfl ?_
        refine sx_RP.br (p1 := 35) (l1 := [(3, .int 1), (2, .int 0), (0, .int (nI a)), (1, .int (nI b))]) (s1 := []) (v1 := w) (p2 := 31) (l2 := [(3, .int 1), (2, .int 0), (0, .int (nI a)), (1, .int (nI b))]) (s2 := []) (v2 := w) rfl rfl (fun q3 => ?_) (fun q3 => ?_)
        · replace q3 := of_decide_eq_true q3
          refine sx_RP.step (pc2 := 36) (ls2 := [(3, .int 1), (2, .int 0), (0, .int (nI a)), (1, .int (nI b))]) (st2 := [.int 0]) (w3 := w) rfl rfl ?_
          refine sx_RP.step (pc2 := 37) (ls2 := [(2, .int 0), (3, .int 1), (0, .int (nI a)), (1, .int (nI b))]) (st2 := []) (w3 := w) rfl rfl ?_
          refine sx_RP.step (pc2 := 40) (ls2 := [(3, .int 2), (2, .int 0), (0, .int (nI a)), (1, .int (nI b))]) (st2 := []) (w3 := w) rfl rfl ?_
          refine sx_RP.step (pc2 := 13) (ls2 := [(3, .int 2), (2, .int 0), (0, .int (nI a)), (1, .int (nI b))]) (st2 := []) (w3 := w) rfl rfl ?_
          refine sx_RP.step (pc2 := 14) (ls2 := [(3, .int 2), (2, .int 0), (0, .int (nI a)), (1, .int (nI b))]) (st2 := [.int 2]) (w3 := w) rfl rfl ?_
          refine sx_RP.step (pc2 := 15) (ls2 := [(3, .int 2), (2, .int 0), (0, .int (nI a)), (1, .int (nI b))]) (st2 := [.int 4, .int 2]) (w3 := w) rfl rfl ?_
          refine sx_RP.step (pc2 := 18) (ls2 := [(3, .int 2), (2, .int 0), (0, .int (nI a)), (1, .int (nI b))]) (st2 := []) (w3 := w) rfl rfl ?_
          refine sx_RP.step (pc2 := 19) (ls2 := [(3, .int 2), (2, .int 0), (0, .int (nI a)), (1, .int (nI b))]) (st2 := [.int 0]) (w3 := w) rfl rfl ?_
          refine sx_RP.step (pc2 := 22) (ls2 := [(3, .int 2), (2, .int 0), (0, .int (nI a)), (1, .int (nI b))]) (st2 := []) (w3 := w) rfl rfl ?_
          refine sx_RP.step (pc2 := 23) (ls2 := [(3, .int 2), (2, .int 0), (0, .int (nI a)), (1, .int (nI b))]) (st2 := [.int (nI a)]) (w3 := w) rfl rfl ?_
          refine sx_RP.step (pc2 := 24) (ls2 := [(3, .int 2), (2, .int 0), (0, .int (nI a)), (1, .int (nI b))]) (st2 := [.int 2, .int (nI a)]) (w3 := w) rfl rfl ?_
          refine sx_RP.cu (as := [.int (nI a), .int 2]) (rest2 := []) (st3 := [.int (bsd a 2)]) rfl rfl rfl rfl rfl (cb_142 ha 2 (by decide)) rfl ?_
          refine sx_RP.step (pc2 := 28) (ls2 := [(3, .int 2), (2, .int 0), (0, .int (nI a)), (1, .int (nI b))]) (st2 := [.int (nI b), .int (bsd a 2)]) (w3 := w) rfl rfl ?_
          refine sx_RP.br (p1 := 35) (l1 := [(3, .int 2), (2, .int 0), (0, .int (nI a)), (1, .int (nI b))]) (s1 := []) (v1 := w) (p2 := 31) (l2 := [(3, .int 2), (2, .int 0), (0, .int (nI a)), (1, .int (nI b))]) (s2 := []) (v2 := w) rfl rfl (fun q4 => ?_) (fun q4 => ?_)
          · replace q4 := of_decide_eq_true q4
            refine sx_RP.step (pc2 := 36) (ls2 := [(3, .int 2), (2, .int 0), (0, .int (nI a)), (1, .int (nI b))]) (st2 := [.int 0]) (w3 := w) rfl rfl ?_
            refine sx_RP.step (pc2 := 37) (ls2 := [(2, .int 0), (3, .int 2), (0, .int (nI a)), (1, .int (nI b))]) (st2 := []) (w3 := w) rfl rfl ?_
            refine sx_RP.step (pc2 := 40) (ls2 := [(3, .int 3), (2, .int 0), (0, .int (nI a)), (1, .int (nI b))]) (st2 := []) (w3 := w) rfl rfl ?_
            refine sx_RP.step (pc2 := 13) (ls2 := [(3, .int 3), (2, .int 0), (0, .int (nI a)), (1, .int (nI b))]) (st2 := []) (w3 := w) rfl rfl ?_
            refine sx_RP.step (pc2 := 14) (ls2 := [(3, .int 3), (2, .int 0), (0, .int (nI a)), (1, .int (nI b))]) (st2 := [.int 3]) (w3 := w) rfl rfl ?_
            refine sx_RP.step (pc2 := 15) (ls2 := [(3, .int 3), (2, .int 0), (0, .int (nI a)), (1, .int (nI b))]) (st2 := [.int 4, .int 3]) (w3 := w) rfl rfl ?_
            refine sx_RP.step (pc2 := 18) (ls2 := [(3, .int 3), (2, .int 0), (0, .int (nI a)), (1, .int (nI b))]) (st2 := []) (w3 := w) rfl rfl ?_
            refine sx_RP.step (pc2 := 19) (ls2 := [(3, .int 3), (2, .int 0), (0, .int (nI a)), (1, .int (nI b))]) (st2 := [.int 0]) (w3 := w) rfl rfl ?_
            refine sx_RP.step (pc2 := 22) (ls2 := [(3, .int 3), (2, .int 0), (0, .int (nI a)), (1, .int (nI b))]) (st2 := []) (w3 := w) rfl rfl ?_
            refine sx_RP.step (pc2 := 23) (ls2 := [(3, .int 3), (2, .int 0), (0, .int (nI a)), (1, .int (nI b))]) (st2 := [.int (nI a)]) (w3 := w) rfl rfl ?_
            refine sx_RP.step (pc2 := 24) (ls2 := [(3, .int 3), (2, .int 0), (0, .int (nI a)), (1, .int (nI b))]) (st2 := [.int 3, .int (nI a)]) (w3 := w) rfl rfl ?_
            refine sx_RP.cu (as := [.int (nI a), .int 3]) (rest2 := []) (st3 := [.int (bsd a 3)]) rfl rfl rfl rfl rfl (cb_142 ha 3 (by decide)) rfl ?_
            refine sx_RP.step (pc2 := 28) (ls2 := [(3, .int 3), (2, .int 0), (0, .int (nI a)), (1, .int (nI b))]) (st2 := [.int (nI b), .int (bsd a 3)]) (w3 := w) rfl rfl ?_
            refine sx_RP.br (p1 := 35) (l1 := [(3, .int 3), (2, .int 0), (0, .int (nI a)), (1, .int (nI b))]) (s1 := []) (v1 := w) (p2 := 31) (l2 := [(3, .int 3), (2, .int 0), (0, .int (nI a)), (1, .int (nI b))]) (s2 := []) (v2 := w) rfl rfl (fun q5 => ?_) (fun q5 => ?_)
            · replace q5 := of_decide_eq_true q5
              refine sx_RP.step (pc2 := 36) (ls2 := [(3, .int 3), (2, .int 0), (0, .int (nI a)), (1, .int (nI b))]) (st2 := [.int 0]) (w3 := w) rfl rfl ?_
              refine sx_RP.step (pc2 := 37) (ls2 := [(2, .int 0), (3, .int 3), (0, .int (nI a)), (1, .int (nI b))]) (st2 := []) (w3 := w) rfl rfl ?_
              refine sx_RP.step (pc2 := 40) (ls2 := [(3, .int 4), (2, .int 0), (0, .int (nI a)), (1, .int (nI b))]) (st2 := []) (w3 := w) rfl rfl ?_
              refine sx_RP.step (pc2 := 13) (ls2 := [(3, .int 4), (2, .int 0), (0, .int (nI a)), (1, .int (nI b))]) (st2 := []) (w3 := w) rfl rfl ?_
              refine sx_RP.step (pc2 := 14) (ls2 := [(3, .int 4), (2, .int 0), (0, .int (nI a)), (1, .int (nI b))]) (st2 := [.int 4]) (w3 := w) rfl rfl ?_
              refine sx_RP.step (pc2 := 15) (ls2 := [(3, .int 4), (2, .int 0), (0, .int (nI a)), (1, .int (nI b))]) (st2 := [.int 4, .int 4]) (w3 := w) rfl rfl ?_
              refine sx_RP.step (pc2 := 43) (ls2 := [(3, .int 4), (2, .int 0), (0, .int (nI a)), (1, .int (nI b))]) (st2 := []) (w3 := w) rfl rfl ?_
              refine sx_RP.step (pc2 := 44) (ls2 := [(3, .int 4), (2, .int 0), (0, .int (nI a)), (1, .int (nI b))]) (st2 := [.int 0]) (w3 := w) rfl rfl ?_
              refine sx_RP.ret (r := (some (.int 0))) rfl rfl ?_
              exact ⟨by rw [near_f q1 q2 q3 q4 q5]; rfl, rfl⟩
            · replace q5 := Decidable.not_not.mp (of_decide_eq_false q5)
              refine sx_RP.step (pc2 := 32) (ls2 := [(3, .int 3), (2, .int 0), (0, .int (nI a)), (1, .int (nI b))]) (st2 := [.int 1]) (w3 := w) rfl rfl ?_
              refine sx_RP.step (pc2 := 36) (ls2 := [(3, .int 3), (2, .int 0), (0, .int (nI a)), (1, .int (nI b))]) (st2 := [.int 1]) (w3 := w) rfl rfl ?_
              refine sx_RP.step (pc2 := 37) (ls2 := [(2, .int 1), (3, .int 3), (0, .int (nI a)), (1, .int (nI b))]) (st2 := []) (w3 := w) rfl rfl ?_
              refine sx_RP.step (pc2 := 40) (ls2 := [(3, .int 4), (2, .int 1), (0, .int (nI a)), (1, .int (nI b))]) (st2 := []) (w3 := w) rfl rfl ?_
              refine sx_RP.step (pc2 := 13) (ls2 := [(3, .int 4), (2, .int 1), (0, .int (nI a)), (1, .int (nI b))]) (st2 := []) (w3 := w) rfl rfl ?_
              refine sx_RP.step (pc2 := 14) (ls2 := [(3, .int 4), (2, .int 1), (0, .int (nI a)), (1, .int (nI b))]) (st2 := [.int 4]) (w3 := w) rfl rfl ?_
              refine sx_RP.step (pc2 := 15) (ls2 := [(3, .int 4), (2, .int 1), (0, .int (nI a)), (1, .int (nI b))]) (st2 := [.int 4, .int 4]) (w3 := w) rfl rfl ?_
              refine sx_RP.step (pc2 := 43) (ls2 := [(3, .int 4), (2, .int 1), (0, .int (nI a)), (1, .int (nI b))]) (st2 := []) (w3 := w) rfl rfl ?_
              refine sx_RP.step (pc2 := 44) (ls2 := [(3, .int 4), (2, .int 1), (0, .int (nI a)), (1, .int (nI b))]) (st2 := [.int 1]) (w3 := w) rfl rfl ?_
              refine sx_RP.ret (r := (some (.int 1))) rfl rfl ?_
              exact ⟨by rw [near_t (Or.inr ⟨3, by decide, q5⟩)]; rfl, rfl⟩
          · replace q4 := Decidable.not_not.mp (of_decide_eq_false q4)
            refine sx_RP.step (pc2 := 32) (ls2 := [(3, .int 2), (2, .int 0), (0, .int (nI a)), (1, .int (nI b))]) (st2 := [.int 1]) (w3 := w) rfl rfl ?_
            refine sx_RP.step (pc2 := 36) (ls2 := [(3, .int 2), (2, .int 0), (0, .int (nI a)), (1, .int (nI b))]) (st2 := [.int 1]) (w3 := w) rfl rfl ?_
            refine sx_RP.step (pc2 := 37) (ls2 := [(2, .int 1), (3, .int 2), (0, .int (nI a)), (1, .int (nI b))]) (st2 := []) (w3 := w) rfl rfl ?_
            refine sx_RP.step (pc2 := 40) (ls2 := [(3, .int 3), (2, .int 1), (0, .int (nI a)), (1, .int (nI b))]) (st2 := []) (w3 := w) rfl rfl ?_
            refine sx_RP.step (pc2 := 13) (ls2 := [(3, .int 3), (2, .int 1), (0, .int (nI a)), (1, .int (nI b))]) (st2 := []) (w3 := w) rfl rfl ?_
            refine sx_RP.step (pc2 := 14) (ls2 := [(3, .int 3), (2, .int 1), (0, .int (nI a)), (1, .int (nI b))]) (st2 := [.int 3]) (w3 := w) rfl rfl ?_
            refine sx_RP.step (pc2 := 15) (ls2 := [(3, .int 3), (2, .int 1), (0, .int (nI a)), (1, .int (nI b))]) (st2 := [.int 4, .int 3]) (w3 := w) rfl rfl ?_
            refine sx_RP.step (pc2 := 18) (ls2 := [(3, .int 3), (2, .int 1), (0, .int (nI a)), (1, .int (nI b))]) (st2 := []) (w3 := w) rfl rfl ?_
            refine sx_RP.step (pc2 := 19) (ls2 := [(3, .int 3), (2, .int 1), (0, .int (nI a)), (1, .int (nI b))]) (st2 := [.int 1]) (w3 := w) rfl rfl ?_
            refine sx_RP.step (pc2 := 43) (ls2 := [(3, .int 3), (2, .int 1), (0, .int (nI a)), (1, .int (nI b))]) (st2 := []) (w3 := w) rfl rfl ?_
            refine sx_RP.step (pc2 := 44) (ls2 := [(3, .int 3), (2, .int 1), (0, .int (nI a)), (1, .int (nI b))]) (st2 := [.int 1]) (w3 := w) rfl rfl ?_
            refine sx_RP.ret (r := (some (.int 1))) rfl rfl ?_
            exact ⟨by rw [near_t (Or.inr ⟨2, by decide, q4⟩)]; rfl, rfl⟩
        · replace q3 := Decidable.not_not.mp (of_decide_eq_false q3)
          refine sx_RP.step (pc2 := 32) (ls2 := [(3, .int 1), (2, .int 0), (0, .int (nI a)), (1, .int (nI b))]) (st2 := [.int 1]) (w3 := w) rfl rfl ?_
          refine sx_RP.step (pc2 := 36) (ls2 := [(3, .int 1), (2, .int 0), (0, .int (nI a)), (1, .int (nI b))]) (st2 := [.int 1]) (w3 := w) rfl rfl ?_
          refine sx_RP.step (pc2 := 37) (ls2 := [(2, .int 1), (3, .int 1), (0, .int (nI a)), (1, .int (nI b))]) (st2 := []) (w3 := w) rfl rfl ?_
          refine sx_RP.step (pc2 := 40) (ls2 := [(3, .int 2), (2, .int 1), (0, .int (nI a)), (1, .int (nI b))]) (st2 := []) (w3 := w) rfl rfl ?_
          refine sx_RP.step (pc2 := 13) (ls2 := [(3, .int 2), (2, .int 1), (0, .int (nI a)), (1, .int (nI b))]) (st2 := []) (w3 := w) rfl rfl ?_
          refine sx_RP.step (pc2 := 14) (ls2 := [(3, .int 2), (2, .int 1), (0, .int (nI a)), (1, .int (nI b))]) (st2 := [.int 2]) (w3 := w) rfl rfl ?_
          refine sx_RP.step (pc2 := 15) (ls2 := [(3, .int 2), (2, .int 1), (0, .int (nI a)), (1, .int (nI b))]) (st2 := [.int 4, .int 2]) (w3 := w) rfl rfl ?_
          refine sx_RP.step (pc2 := 18) (ls2 := [(3, .int 2), (2, .int 1), (0, .int (nI a)), (1, .int (nI b))]) (st2 := []) (w3 := w) rfl rfl ?_
          refine sx_RP.step (pc2 := 19) (ls2 := [(3, .int 2), (2, .int 1), (0, .int (nI a)), (1, .int (nI b))]) (st2 := [.int 1]) (w3 := w) rfl rfl ?_
          refine sx_RP.step (pc2 := 43) (ls2 := [(3, .int 2), (2, .int 1), (0, .int (nI a)), (1, .int (nI b))]) (st2 := []) (w3 := w) rfl rfl ?_
          refine sx_RP.step (pc2 := 44) (ls2 := [(3, .int 2), (2, .int 1), (0, .int (nI a)), (1, .int (nI b))]) (st2 := [.int 1]) (w3 := w) rfl rfl ?_
          refine sx_RP.ret (r := (some (.int 1))) rfl rfl ?_
          exact ⟨by rw [near_t (Or.inr ⟨1, by decide, q3⟩)]; rfl, rfl⟩
      · replace q2 := Decidable.not_not.mp (of_decide_eq_false q2)
        refine sx_RP.step (pc2 := 32) (ls2 := [(3, .int 0), (2, .int 0), (0, .int (nI a)), (1, .int (nI b))]) (st2 := [.int 1]) (w3 := w) rfl rfl ?_
        refine sx_RP.step (pc2 := 36) (ls2 := [(3, .int 0), (2, .int 0), (0, .int (nI a)), (1, .int (nI b))]) (st2 := [.int 1]) (w3 := w) rfl rfl ?_
        refine sx_RP.step (pc2 := 37) (ls2 := [(2, .int 1), (3, .int 0), (0, .int (nI a)), (1, .int (nI b))]) (st2 := []) (w3 := w) rfl rfl ?_
        refine sx_RP.step (pc2 := 40) (ls2 := [(3, .int 1), (2, .int 1), (0, .int (nI a)), (1, .int (nI b))]) (st2 := []) (w3 := w) rfl rfl ?_
        refine sx_RP.step (pc2 := 13) (ls2 := [(3, .int 1), (2, .int 1), (0, .int (nI a)), (1, .int (nI b))]) (st2 := []) (w3 := w) rfl rfl ?_
        refine sx_RP.step (pc2 := 14) (ls2 := [(3, .int 1), (2, .int 1), (0, .int (nI a)), (1, .int (nI b))]) (st2 := [.int 1]) (w3 := w) rfl rfl ?_
        refine sx_RP.step (pc2 := 15) (ls2 := [(3, .int 1), (2, .int 1), (0, .int (nI a)), (1, .int (nI b))]) (st2 := [.int 4, .int 1]) (w3 := w) rfl rfl ?_
        refine sx_RP.step (pc2 := 18) (ls2 := [(3, .int 1), (2, .int 1), (0, .int (nI a)), (1, .int (nI b))]) (st2 := []) (w3 := w) rfl rfl ?_
        refine sx_RP.step (pc2 := 19) (ls2 := [(3, .int 1), (2, .int 1), (0, .int (nI a)), (1, .int (nI b))]) (st2 := [.int 1]) (w3 := w) rfl rfl ?_
        refine sx_RP.step (pc2 := 43) (ls2 := [(3, .int 1), (2, .int 1), (0, .int (nI a)), (1, .int (nI b))]) (st2 := []) (w3 := w) rfl rfl ?_
        refine sx_RP.step (pc2 := 44) (ls2 := [(3, .int 1), (2, .int 1), (0, .int (nI a)), (1, .int (nI b))]) (st2 := [.int 1]) (w3 := w) rfl rfl ?_
        refine sx_RP.ret (r := (some (.int 1))) rfl rfl ?_
        exact ⟨by rw [near_t (Or.inr ⟨0, by decide, q2⟩)]; rfl, rfl⟩
    · replace q1 := Decidable.not_not.mp (of_decide_eq_false q1)
      replace q1 := (nI_eq (a := a) (b := b) (by omega) (by omega)).mp q1
      refine sx_RP.step (pc2 := 6) (ls2 := [(0, .int (nI a)), (1, .int (nI b))]) (st2 := [.int 1]) (w3 := w) rfl rfl ?_
      refine sx_RP.step (pc2 := 10) (ls2 := [(0, .int (nI a)), (1, .int (nI b))]) (st2 := [.int 1]) (w3 := w) rfl rfl ?_
      refine sx_RP.step (pc2 := 11) (ls2 := [(2, .int 1), (0, .int (nI a)), (1, .int (nI b))]) (st2 := []) (w3 := w) rfl rfl ?_
      refine sx_RP.step (pc2 := 12) (ls2 := [(2, .int 1), (0, .int (nI a)), (1, .int (nI b))]) (st2 := [.int 0]) (w3 := w) rfl rfl ?_
      refine sx_RP.step (pc2 := 13) (ls2 := [(3, .int 0), (2, .int 1), (0, .int (nI a)), (1, .int (nI b))]) (st2 := []) (w3 := w) rfl rfl ?_
      refine sx_RP.step (pc2 := 14) (ls2 := [(3, .int 0), (2, .int 1), (0, .int (nI a)), (1, .int (nI b))]) (st2 := [.int 0]) (w3 := w) rfl rfl ?_
      refine sx_RP.step (pc2 := 15) (ls2 := [(3, .int 0), (2, .int 1), (0, .int (nI a)), (1, .int (nI b))]) (st2 := [.int 4, .int 0]) (w3 := w) rfl rfl ?_
      refine sx_RP.step (pc2 := 18) (ls2 := [(3, .int 0), (2, .int 1), (0, .int (nI a)), (1, .int (nI b))]) (st2 := []) (w3 := w) rfl rfl ?_
      refine sx_RP.step (pc2 := 19) (ls2 := [(3, .int 0), (2, .int 1), (0, .int (nI a)), (1, .int (nI b))]) (st2 := [.int 1]) (w3 := w) rfl rfl ?_
      refine sx_RP.step (pc2 := 43) (ls2 := [(3, .int 0), (2, .int 1), (0, .int (nI a)), (1, .int (nI b))]) (st2 := []) (w3 := w) rfl rfl ?_
      refine sx_RP.step (pc2 := 44) (ls2 := [(3, .int 0), (2, .int 1), (0, .int (nI a)), (1, .int (nI b))]) (st2 := [.int 1]) (w3 := w) rfl rfl ?_
      refine sx_RP.ret (r := (some (.int 1))) rfl rfl ?_
      exact ⟨by rw [near_t (Or.inl q1)]; rfl, rfl⟩
  obtain ⟨r9, w2, h1, rfl, rfl⟩ := h
  exact h1
set_option maxRecDepth 20000 in
set_option maxHeartbeats 4000000 in
theorem x42L {xs : Option (List Int32)} {d : Nat} {w : List sx_C} {x : Int32} (hI : WI w) {A n : Nat} {l : List Int32} (hA : isA A) (hR : rel w A l) (hn : n ≤ 10) (en : l.getD 1 0 = nI n) : ∀ (q j : Nat), j + q = n → sx_RP xs (d + 1) 42 4 [(0, .ref A), (1, .int x), (2, .int (lfF l x j)), (3, .int (nI j))] [] w (fun r w2 => r = some (.int (lfF l x n)) ∧ w2 = w)
  | 0, j, hj => by
    obtain rfl : j = n := by omega
    refine sx_RP.step (pc2 := 5) (ls2 := [(0, .ref A), (1, .int x), (2, .int (lfF l x j)), (3, .int (nI j))]) (st2 := [.int (nI j)]) (w3 := w) rfl rfl ?_
    refine sx_RP.step (pc2 := 6) (ls2 := [(0, .ref A), (1, .int x), (2, .int (lfF l x j)), (3, .int (nI j))]) (st2 := [.ref A, .int (nI j)]) (w3 := w) rfl rfl ?_
    refine sx_RP.gc (k := 3) hI hA rfl rfl (by omega) (show _ = 9 from rfl) ?_
    rw [(hR.many.trans en)]
    refine sx_RP.br (p1 := 34) (l1 := [(0, .ref A), (1, .int x), (2, .int (lfF l x j)), (3, .int (nI j))]) (s1 := []) (v1 := w) rfl rfl (fun _ => ?_) (fun q => absurd (nI_le (a := j) (b := j) (by omega) (by omega)) (of_decide_eq_false q))
    refine sx_RP.step (pc2 := 35) (ls2 := [(0, .ref A), (1, .int x), (2, .int (lfF l x j)), (3, .int (nI j))]) (st2 := [.int (lfF l x j)]) (w3 := w) rfl rfl ?_
    refine sx_RP.ret (r := (some (.int (lfF l x j)))) rfl rfl ?_
    exact ⟨rfl, rfl⟩
  | q + 1, j, hj => by
    refine sx_RP.step (pc2 := 5) (ls2 := [(0, .ref A), (1, .int x), (2, .int (lfF l x j)), (3, .int (nI j))]) (st2 := [.int (nI j)]) (w3 := w) rfl rfl ?_
    refine sx_RP.step (pc2 := 6) (ls2 := [(0, .ref A), (1, .int x), (2, .int (lfF l x j)), (3, .int (nI j))]) (st2 := [.ref A, .int (nI j)]) (w3 := w) rfl rfl ?_
    refine sx_RP.gc (k := 3) hI hA rfl rfl (by omega) (show _ = 9 from rfl) ?_
    rw [(hR.many.trans en)]
    refine sx_RP.br (p2 := 12) (l2 := [(0, .ref A), (1, .int x), (2, .int (lfF l x j)), (3, .int (nI j))]) (s2 := []) (v2 := w) rfl rfl (fun q => absurd (of_decide_eq_true q) (fun z => absurd ((nI_leI (a := n) (b := j) (by omega) (by omega)).mp z) (by omega))) (fun _ => ?_)
    refine sx_RP.step (pc2 := 13) (ls2 := [(0, .ref A), (1, .int x), (2, .int (lfF l x j)), (3, .int (nI j))]) (st2 := [.ref A]) (w3 := w) rfl rfl ?_
    refine sx_RP.gref (k := 2) (b := A + 2) hI hA rfl rfl (by omega) (show _ = 16 from rfl) ?_
    refine sx_RP.step (pc2 := 17) (ls2 := [(0, .ref A), (1, .int x), (2, .int (lfF l x j)), (3, .int (nI j))]) (st2 := [.int (nI j), .ref (A + 2)]) (w3 := w) rfl rfl ?_
    refine sx_RP.ald (v := .ref (A + 4 + j)) rfl (hI.1.aG hA) rfl (grA_at (show j < 10 by omega)) (show _ = 18 from rfl) ?_
    refine sx_RP.step (pc2 := 19) (ls2 := [(0, .ref A), (1, .int x), (2, .int (lfF l x j)), (3, .int (nI j))]) (st2 := [.int x, .ref (A + 4 + j)]) (w3 := w) rfl rfl ?_
    rcases Decidable.em (gF l j 1 = x ∧ gF l j 5 = 0) with hc | hc
    · refine sx_RP.cu (as := [.ref (A + 4 + j), .int x]) (rest2 := []) (st3 := [.int 1]) rfl rfl (sx_inv_v2 (mi := 42) (k := 82) (st := [.int x, .ref (A + 4 + j)]) (w := w) rfl rfl (hI.1.oG (gAd.of hA (show j < 10 by omega))) rfl rfl rfl) rfl rfl (x43y hI (gAd.of hA (show j < 10 by omega)) ⟨(hR.ga (by rw [en, iN_n (by omega)]; omega) (by decide)).trans hc.1, (hR.ga (by rw [en, iN_n (by omega)]; omega) (by decide)).trans hc.2⟩) rfl ?_
      refine sx_RP.step (pc2 := 25) (ls2 := [(0, .ref A), (1, .int x), (2, .int (lfF l x j)), (3, .int (nI j))]) (st2 := []) (w3 := w) rfl rfl ?_
      refine sx_RP.step (pc2 := 28) (ls2 := [(2, .int ((lfF l x j) + 1)), (0, .ref A), (1, .int x), (3, .int (nI j))]) (st2 := []) (w3 := w) rfl rfl ?_
      refine sx_RP.step (pc2 := 31) (ls2 := [(3, .int ((nI j) + 1)), (2, .int ((lfF l x j) + 1)), (0, .ref A), (1, .int x)]) (st2 := []) (w3 := w) rfl rfl ?_
      rw [nI_1 j]
      refine sx_RP.step (pc2 := 4) (ls2 := [(3, .int (nI (j + 1))), (2, .int ((lfF l x j) + 1)), (0, .ref A), (1, .int x)]) (st2 := []) (w3 := w) rfl rfl ?_
      rw [← lf_y hc]
      exact sx_RP.ls (sx_lr.cons rfl (sx_lr.cons rfl (sx_lr.cons rfl (sx_lr.cons rfl sx_lr.nil)))) (x42L hI hA hR hn en q (j + 1) (by omega))
    · refine sx_RP.cu (as := [.ref (A + 4 + j), .int x]) (rest2 := []) (st3 := [.int 0]) rfl rfl (sx_inv_v2 (mi := 42) (k := 82) (st := [.int x, .ref (A + 4 + j)]) (w := w) rfl rfl (hI.1.oG (gAd.of hA (show j < 10 by omega))) rfl rfl rfl) rfl rfl (x43n hI (gAd.of hA (show j < 10 by omega)) (fun z => hc ⟨(hR.ga (by rw [en, iN_n (by omega)]; omega) (by decide)).symm.trans z.1, (hR.ga (by rw [en, iN_n (by omega)]; omega) (by decide)).symm.trans z.2⟩)) rfl ?_
      refine sx_RP.step (pc2 := 28) (ls2 := [(0, .ref A), (1, .int x), (2, .int (lfF l x j)), (3, .int (nI j))]) (st2 := []) (w3 := w) rfl rfl ?_
      refine sx_RP.step (pc2 := 31) (ls2 := [(3, .int ((nI j) + 1)), (0, .ref A), (1, .int x), (2, .int (lfF l x j))]) (st2 := []) (w3 := w) rfl rfl ?_
      rw [nI_1 j]
      refine sx_RP.step (pc2 := 4) (ls2 := [(3, .int (nI (j + 1))), (0, .ref A), (1, .int x), (2, .int (lfF l x j))]) (st2 := []) (w3 := w) rfl rfl ?_
      rw [← lf_n hc]
      exact sx_RP.ls (sx_lr.cons rfl (sx_lr.cons rfl (sx_lr.cons rfl (sx_lr.cons rfl sx_lr.nil)))) (x42L hI hA hR hn en q (j + 1) (by omega))
set_option maxRecDepth 20000 in
set_option maxHeartbeats 4000000 in
theorem x42 {xs : Option (List Int32)} {d : Nat} {w : List sx_C} (hI : WI w) {A n : Nat} {l : List Int32} (hA : isA A) (hR : rel w A l) (hn : n ≤ 10) (en : l.getD 1 0 = nI n) (x : Int32) : sx_RU xs (d + 1) 42 0 (lv_args 0 [.ref A, .int x]) [] w (some (.int (lfF l x n))) w := by
  have h : sx_RP xs (d + 1) 42 0 (lv_args 0 [.ref A, .int x]) [] w (fun r9 w2 => r9 = some (.int (lfF l x n)) ∧ w2 = w) := by
    refine sx_RP.step (pc2 := 1) (ls2 := [(0, .ref A), (1, .int x)]) (st2 := [.int 0]) (w3 := w) rfl rfl ?_
    refine sx_RP.step (pc2 := 2) (ls2 := [(2, .int 0), (0, .ref A), (1, .int x)]) (st2 := []) (w3 := w) rfl rfl ?_
    refine sx_RP.step (pc2 := 3) (ls2 := [(2, .int 0), (0, .ref A), (1, .int x)]) (st2 := [.int 0]) (w3 := w) rfl rfl ?_
    refine sx_RP.step (pc2 := 4) (ls2 := [(3, .int 0), (2, .int 0), (0, .ref A), (1, .int x)]) (st2 := []) (w3 := w) rfl rfl ?_
    exact sx_RP.ls (sx_lr.cons rfl (sx_lr.cons rfl (sx_lr.cons rfl (sx_lr.cons rfl sx_lr.nil)))) (x42L hI hA hR hn en n 0 (by omega))
  obtain ⟨r9, w2, h1, rfl, rfl⟩ := h
  exact h1
set_option maxRecDepth 20000 in
set_option maxHeartbeats 4000000 in
theorem x45L {xs : Option (List Int32)} {d h : Nat} {w : List sx_C} (hI : WI w) {A n : Nat} {l : List Int32} (hA : isA A) (hR : rel w A l) (hn : n ≤ 10) (en : l.getD 1 0 = nI n) (hh : h < 48) : ∀ (q j : Nat), j + q = n → meF l h j = false → sx_RP xs (d + 2) 45 2 [(0, .ref A), (1, .int (nI h)), (2, .int (nI j))] [] w (fun r w2 => r = some (.int (b01 (meF l h n))) ∧ w2 = w)
  | 0, j, hj, h0 => by
    obtain rfl : j = n := by omega
    refine sx_RP.step (pc2 := 3) (ls2 := [(0, .ref A), (1, .int (nI h)), (2, .int (nI j))]) (st2 := [.int (nI j)]) (w3 := w) rfl rfl ?_
    refine sx_RP.step (pc2 := 4) (ls2 := [(0, .ref A), (1, .int (nI h)), (2, .int (nI j))]) (st2 := [.ref A, .int (nI j)]) (w3 := w) rfl rfl ?_
    refine sx_RP.gc (k := 3) hI hA rfl rfl (by omega) (show _ = 7 from rfl) ?_
    rw [(hR.many.trans en)]
    refine sx_RP.br (p1 := 48) (l1 := [(0, .ref A), (1, .int (nI h)), (2, .int (nI j))]) (s1 := []) (v1 := w) rfl rfl (fun _ => ?_) (fun q => absurd (nI_le (a := j) (b := j) (by omega) (by omega)) (of_decide_eq_false q))
    refine sx_RP.step (pc2 := 49) (ls2 := [(0, .ref A), (1, .int (nI h)), (2, .int (nI j))]) (st2 := [.int 0]) (w3 := w) rfl rfl ?_
    refine sx_RP.ret (r := (some (.int 0))) rfl rfl ?_
    exact ⟨by rw [h0]; rfl, rfl⟩
  | q + 1, j, hj, h0 => by
    refine sx_RP.step (pc2 := 3) (ls2 := [(0, .ref A), (1, .int (nI h)), (2, .int (nI j))]) (st2 := [.int (nI j)]) (w3 := w) rfl rfl ?_
    refine sx_RP.step (pc2 := 4) (ls2 := [(0, .ref A), (1, .int (nI h)), (2, .int (nI j))]) (st2 := [.ref A, .int (nI j)]) (w3 := w) rfl rfl ?_
    refine sx_RP.gc (k := 3) hI hA rfl rfl (by omega) (show _ = 7 from rfl) ?_
    rw [(hR.many.trans en)]
    refine sx_RP.br (p2 := 10) (l2 := [(0, .ref A), (1, .int (nI h)), (2, .int (nI j))]) (s2 := []) (v2 := w) rfl rfl (fun q => absurd (of_decide_eq_true q) (fun z => absurd ((nI_leI (a := n) (b := j) (by omega) (by omega)).mp z) (by omega))) (fun _ => ?_)
    refine sx_RP.step (pc2 := 11) (ls2 := [(0, .ref A), (1, .int (nI h)), (2, .int (nI j))]) (st2 := [.ref A]) (w3 := w) rfl rfl ?_
    refine sx_RP.gref (k := 2) (b := A + 2) hI hA rfl rfl (by omega) (show _ = 14 from rfl) ?_
    refine sx_RP.step (pc2 := 15) (ls2 := [(0, .ref A), (1, .int (nI h)), (2, .int (nI j))]) (st2 := [.int (nI j), .ref (A + 2)]) (w3 := w) rfl rfl ?_
    refine sx_RP.ald (v := .ref (A + 4 + j)) rfl (hI.1.aG hA) rfl (grA_at (show j < 10 by omega)) (show _ = 16 from rfl) ?_
    refine sx_RP.step (pc2 := 17) (ls2 := [(0, .ref A), (1, .int (nI h)), (2, .int (nI j))]) (st2 := [.int 1, .ref (A + 4 + j)]) (w3 := w) rfl rfl ?_
    rcases Decidable.em (gF l j 1 = 1 ∧ gF l j 5 = 0) with hc | hc
    · refine sx_RP.cu (as := [.ref (A + 4 + j), .int 1]) (rest2 := []) (st3 := [.int 1]) rfl rfl (sx_inv_v2 (mi := 45) (k := 82) (st := [.int 1, .ref (A + 4 + j)]) (w := w) rfl rfl (hI.1.oG (gAd.of hA (show j < 10 by omega))) rfl rfl rfl) rfl rfl (x43y hI (gAd.of hA (show j < 10 by omega)) ⟨(hR.ga (by rw [en, iN_n (by omega)]; omega) (by decide)).trans hc.1, (hR.ga (by rw [en, iN_n (by omega)]; omega) (by decide)).trans hc.2⟩) rfl ?_
      refine sx_RP.step (pc2 := 23) (ls2 := [(0, .ref A), (1, .int (nI h)), (2, .int (nI j))]) (st2 := []) (w3 := w) rfl rfl ?_
      refine sx_RP.step (pc2 := 24) (ls2 := [(0, .ref A), (1, .int (nI h)), (2, .int (nI j))]) (st2 := [.ref A]) (w3 := w) rfl rfl ?_
      refine sx_RP.gref (k := 2) (b := A + 2) hI hA rfl rfl (by omega) (show _ = 27 from rfl) ?_
      refine sx_RP.step (pc2 := 28) (ls2 := [(0, .ref A), (1, .int (nI h)), (2, .int (nI j))]) (st2 := [.int (nI j), .ref (A + 2)]) (w3 := w) rfl rfl ?_
      refine sx_RP.ald (v := .ref (A + 4 + j)) rfl (hI.1.aG hA) rfl (grA_at (show j < 10 by omega)) (show _ = 29 from rfl) ?_
      refine sx_RP.gg (k := 2) hI (gAd.of hA (show j < 10 by omega)) rfl rfl (by decide) (show _ = 32 from rfl) ?_
      obtain ⟨x1, hx2, ex3⟩ : inR (fi w (A + 4 + j) 2) 47 := hI.gk (k := 2) (gAd.of hA (show j < 10 by omega)) (by decide)
      rw [ex3]
      refine sx_RP.step (pc2 := 33) (ls2 := [(0, .ref A), (1, .int (nI h)), (2, .int (nI j))]) (st2 := [.int (nI h), .int (nI x1)]) (w3 := w) rfl rfl ?_
      refine sx_RP.cu (as := [.int (nI x1), .int (nI h)]) (rest2 := []) (st3 := [.int (apF x1 h)]) rfl rfl rfl rfl rfl (x46 hI _ _) rfl ?_
      refine sx_RP.step (pc2 := 37) (ls2 := [(0, .ref A), (1, .int (nI h)), (2, .int (nI j))]) (st2 := [.int 1, .int (apF x1 h)]) (w3 := w) rfl rfl ?_
      refine sx_RP.br (p1 := 42) (l1 := [(0, .ref A), (1, .int (nI h)), (2, .int (nI j))]) (s1 := []) (v1 := w) (p2 := 40) (l2 := [(0, .ref A), (1, .int (nI h)), (2, .int (nI j))]) (s2 := []) (v2 := w) rfl rfl (fun q4 => ?_) (fun q4 => ?_)
      · replace q4 := of_decide_eq_true q4
        refine sx_RP.step (pc2 := 45) (ls2 := [(2, .int ((nI j) + 1)), (0, .ref A), (1, .int (nI h))]) (st2 := []) (w3 := w) rfl rfl ?_
        rw [nI_1 j]
        refine sx_RP.step (pc2 := 2) (ls2 := [(2, .int (nI (j + 1))), (0, .ref A), (1, .int (nI h))]) (st2 := []) (w3 := w) rfl rfl ?_
        exact sx_RP.ls (sx_lr.cons rfl (sx_lr.cons rfl (sx_lr.cons rfl sx_lr.nil))) (x45L hI hA hR hn en hh q (j + 1) (by omega) ((me_c h0 hc ((hR.ga (i := j) (k := 2) (by rw [en, iN_n (by omega)]; omega) (by decide)).symm.trans ex3) (by omega)).trans (near_gt (by omega) hh (Int32.not_le.mpr q4))))
      · replace q4 := of_decide_eq_false q4
        refine sx_RP.step (pc2 := 41) (ls2 := [(0, .ref A), (1, .int (nI h)), (2, .int (nI j))]) (st2 := [.int 1]) (w3 := w) rfl rfl ?_
        refine sx_RP.ret (r := (some (.int 1))) rfl rfl ?_
        exact ⟨by rw [meF_up ((me_c h0 hc ((hR.ga (i := j) (k := 2) (by rw [en, iN_n (by omega)]; omega) (by decide)).symm.trans ex3) (by omega)).trans (near_le (by omega) hh (Int32.not_lt.mp q4))) n (by omega)]; rfl, rfl⟩
    · refine sx_RP.cu (as := [.ref (A + 4 + j), .int 1]) (rest2 := []) (st3 := [.int 0]) rfl rfl (sx_inv_v2 (mi := 45) (k := 82) (st := [.int 1, .ref (A + 4 + j)]) (w := w) rfl rfl (hI.1.oG (gAd.of hA (show j < 10 by omega))) rfl rfl rfl) rfl rfl (x43n hI (gAd.of hA (show j < 10 by omega)) (fun z => hc ⟨(hR.ga (by rw [en, iN_n (by omega)]; omega) (by decide)).symm.trans z.1, (hR.ga (by rw [en, iN_n (by omega)]; omega) (by decide)).symm.trans z.2⟩)) rfl ?_
      refine sx_RP.step (pc2 := 42) (ls2 := [(0, .ref A), (1, .int (nI h)), (2, .int (nI j))]) (st2 := []) (w3 := w) rfl rfl ?_
      refine sx_RP.step (pc2 := 45) (ls2 := [(2, .int ((nI j) + 1)), (0, .ref A), (1, .int (nI h))]) (st2 := []) (w3 := w) rfl rfl ?_
      rw [nI_1 j]
      refine sx_RP.step (pc2 := 2) (ls2 := [(2, .int (nI (j + 1))), (0, .ref A), (1, .int (nI h))]) (st2 := []) (w3 := w) rfl rfl ?_
      exact sx_RP.ls (sx_lr.cons rfl (sx_lr.cons rfl (sx_lr.cons rfl sx_lr.nil))) (x45L hI hA hR hn en hh q (j + 1) (by omega) (me_n h0 hc))
set_option maxRecDepth 20000 in
set_option maxHeartbeats 4000000 in
theorem x45 {xs : Option (List Int32)} {d : Nat} {w : List sx_C} (hI : WI w) {A n : Nat} {l : List Int32} (hA : isA A) (hR : rel w A l) (hn : n ≤ 10) (en : l.getD 1 0 = nI n) {h : Nat} (hh : h < 48) : sx_RU xs (d + 2) 45 0 (lv_args 0 [.ref A, .int (nI h)]) [] w (some (.int (b01 (meF l h n)))) w := by
  have h : sx_RP xs (d + 2) 45 0 (lv_args 0 [.ref A, .int (nI h)]) [] w (fun r9 w2 => r9 = some (.int (b01 (meF l h n))) ∧ w2 = w) := by
    refine sx_RP.step (pc2 := 1) (ls2 := [(0, .ref A), (1, .int (nI h))]) (st2 := [.int 0]) (w3 := w) rfl rfl ?_
    refine sx_RP.step (pc2 := 2) (ls2 := [(2, .int 0), (0, .ref A), (1, .int (nI h))]) (st2 := []) (w3 := w) rfl rfl ?_
    exact sx_RP.ls (sx_lr.cons rfl (sx_lr.cons rfl (sx_lr.cons rfl sx_lr.nil))) (x45L hI hA hR hn en hh n 0 (by omega) rfl)
  obtain ⟨r9, w2, h1, rfl, rfl⟩ := h
  exact h1
set_option maxRecDepth 20000 in
set_option maxHeartbeats 4000000 in
theorem X41a {xs : Option (List Int32)} {d : Nat} {A n : Nat} {w0 : List sx_C} {P : Option Value → List sx_C → Prop} {v : Int32} (hA : isA A) (hn : n ≤ 10) : ∀ (q j : Nat) (w : List sx_C) (l : List Int32), j + q = n → WI w → rel w A l → l.getD 1 0 = nI n → Out A w0 w → (∀ w2, WI w2 → rel w2 A (dgL q j l) → Out A w0 w2 → sx_RP xs (d + 4) 41 50 [(0, .ref A), (1, .int v)] [] w2 P) → sx_RP xs (d + 4) 41 14 [(0, .ref A), (1, .int v), (2, .int (nI j))] [] w P
  | 0, j, w, l, hj, hI, hR, en, hO, kk => by
    obtain rfl : j = n := by omega
    refine sx_RP.step (pc2 := 15) (ls2 := [(0, .ref A), (1, .int v), (2, .int (nI j))]) (st2 := [.int (nI j)]) (w3 := w) rfl rfl ?_
    refine sx_RP.step (pc2 := 16) (ls2 := [(0, .ref A), (1, .int v), (2, .int (nI j))]) (st2 := [.ref A, .int (nI j)]) (w3 := w) rfl rfl ?_
    refine sx_RP.gc (k := 3) hI hA rfl rfl (by omega) (show _ = 19 from rfl) ?_
    rw [(hR.many.trans en)]
    refine sx_RP.br (p1 := 50) (l1 := [(0, .ref A), (1, .int v), (2, .int (nI j))]) (s1 := []) (v1 := w) rfl rfl (fun _ => ?_) (fun q => absurd (nI_le (a := j) (b := j) (by omega) (by omega)) (of_decide_eq_false q))
    exact sx_RP.ls (sx_lr.cons rfl (sx_lr.cons rfl sx_lr.nil)) (kk w hI hR hO)
  | q + 1, j, w, l, hj, hI, hR, en, hO, kk => by
    refine sx_RP.step (pc2 := 15) (ls2 := [(0, .ref A), (1, .int v), (2, .int (nI j))]) (st2 := [.int (nI j)]) (w3 := w) rfl rfl ?_
    refine sx_RP.step (pc2 := 16) (ls2 := [(0, .ref A), (1, .int v), (2, .int (nI j))]) (st2 := [.ref A, .int (nI j)]) (w3 := w) rfl rfl ?_
    refine sx_RP.gc (k := 3) hI hA rfl rfl (by omega) (show _ = 19 from rfl) ?_
    rw [(hR.many.trans en)]
    refine sx_RP.br (p2 := 22) (l2 := [(0, .ref A), (1, .int v), (2, .int (nI j))]) (s2 := []) (v2 := w) rfl rfl (fun q => absurd (of_decide_eq_true q) (fun z => absurd ((nI_leI (a := n) (b := j) (by omega) (by omega)).mp z) (by omega))) (fun _ => ?_)
    refine sx_RP.step (pc2 := 23) (ls2 := [(0, .ref A), (1, .int v), (2, .int (nI j))]) (st2 := [.ref A]) (w3 := w) rfl rfl ?_
    refine sx_RP.gref (k := 2) (b := A + 2) hI hA rfl rfl (by omega) (show _ = 26 from rfl) ?_
    refine sx_RP.step (pc2 := 27) (ls2 := [(0, .ref A), (1, .int v), (2, .int (nI j))]) (st2 := [.int (nI j), .ref (A + 2)]) (w3 := w) rfl rfl ?_
    refine sx_RP.ald (v := .ref (A + 4 + j)) rfl (hI.1.aG hA) rfl (grA_at (show j < 10 by omega)) (show _ = 28 from rfl) ?_
    refine sx_RP.gg (k := 5) hI (gAd.of hA (show j < 10 by omega)) rfl rfl (by decide) (show _ = 31 from rfl) ?_
    obtain ⟨x1, hx2, ex3⟩ : inR (fi w (A + 4 + j) 5) 1 := hI.gk (k := 5) (gAd.of hA (show j < 10 by omega)) (by decide)
    rw [ex3]
    refine sx_RP.br (p1 := 44) (l1 := [(0, .ref A), (1, .int v), (2, .int (nI j))]) (s1 := []) (v1 := w) (p2 := 34) (l2 := [(0, .ref A), (1, .int v), (2, .int (nI j))]) (s2 := []) (v2 := w) rfl rfl (fun q4 => ?_) (fun q4 => ?_)
    · replace q4 := of_decide_eq_true q4
      replace q4 := mt (nI_eq (a := x1) (b := 0) (by omega) (by omega)).mpr q4
      refine sx_RP.step (pc2 := 47) (ls2 := [(2, .int ((nI j) + 1)), (0, .ref A), (1, .int v)]) (st2 := []) (w3 := w) rfl rfl ?_
      rw [nI_1 j]
      refine sx_RP.step (pc2 := 14) (ls2 := [(2, .int (nI (j + 1))), (0, .ref A), (1, .int v)]) (st2 := []) (w3 := w) rfl rfl ?_
      refine sx_RP.ls (sx_lr.cons rfl (sx_lr.cons rfl (sx_lr.cons rfl sx_lr.nil))) (X41a hA hn q (j + 1) w l (by omega) hI hR en hO ?_)
      have e9 : dgL (q + 1) j l = dgL q (j + 1) l := by show dgL q (j + 1) _ = _; rw [if_neg (show ¬ gF l j 5 = 0 from fun z => q4 ((nI_eq (b := 0) (by omega) (by decide)).mp (((hR.ga (i := j) (k := 5) (by rw [en, iN_n (by omega)]; omega) (by decide)).symm.trans ex3).symm.trans z)))]
      rw [← e9]
      exact kk
    · replace q4 := Decidable.not_not.mp (of_decide_eq_false q4)
      replace q4 := (nI_eq (a := x1) (b := 0) (by omega) (by omega)).mp q4
      refine sx_RP.step (pc2 := 35) (ls2 := [(0, .ref A), (1, .int v), (2, .int (nI j))]) (st2 := [.ref A]) (w3 := w) rfl rfl ?_
      refine sx_RP.step (pc2 := 36) (ls2 := [(0, .ref A), (1, .int v), (2, .int (nI j))]) (st2 := [.ref A, .ref A]) (w3 := w) rfl rfl ?_
      refine sx_RP.gref (k := 2) (b := A + 2) hI hA rfl rfl (by omega) (show _ = 39 from rfl) ?_
      refine sx_RP.step (pc2 := 40) (ls2 := [(0, .ref A), (1, .int v), (2, .int (nI j))]) (st2 := [.int (nI j), .ref (A + 2), .ref A]) (w3 := w) rfl rfl ?_
      refine sx_RP.ald (v := .ref (A + 4 + j)) rfl (hI.1.aG hA) rfl (grA_at (show j < 10 by omega)) (show _ = 41 from rfl) ?_
      refine sx_RP.callp (as2 := [.ref A, .ref (A + 4 + j)]) (rest2 := []) rfl rfl (sx_inv_v2 (mi := 41) (k := 110) (st := [.ref (A + 4 + j), .ref A]) (w := w) rfl rfl (hI.1.oC hA) rfl rfl rfl) rfl rfl rfl (X44 hI hA hR (show j < 10 by omega) (by rw [en, iN_n (by omega)]; omega)) (show _ = 44 from rfl) ?_
      rintro r4 w7 ⟨⟨rfl, hR5⟩, hI8, hs6⟩
      show sx_RP _ _ _ _ _ [] _ _
      refine sx_RP.step (pc2 := 47) (ls2 := [(2, .int ((nI j) + 1)), (0, .ref A), (1, .int v)]) (st2 := []) (w3 := w7) rfl rfl ?_
      rw [nI_1 j]
      refine sx_RP.step (pc2 := 14) (ls2 := [(2, .int (nI (j + 1))), (0, .ref A), (1, .int v)]) (st2 := []) (w3 := w7) rfl rfl ?_
      refine sx_RP.ls (sx_lr.cons rfl (sx_lr.cons rfl (sx_lr.cons rfl sx_lr.nil))) (X41a hA hn q (j + 1) w7 (digR l j) (by omega) hI8 hR5 (digR_1.trans en) (hO.tr (hs6.out (by omega))) ?_)
      have e9 : dgL (q + 1) j l = dgL q (j + 1) (digR l j) := by show dgL q (j + 1) _ = _; rw [if_pos (show gF l j 5 = 0 from ((hR.ga (i := j) (k := 5) (by rw [en, iN_n (by omega)]; omega) (by decide)).symm.trans ex3).trans (by rw [q4]; rfl))]
      rw [← e9]
      exact kk
set_option maxRecDepth 20000 in
set_option maxHeartbeats 4000000 in
theorem X41b {xs : Option (List Int32)} {d : Nat} {A n : Nat} {w0 : List sx_C} {P : Option Value → List sx_C → Prop} {v : Int32} (hA : isA A) (hn : n ≤ 10) : ∀ (q j : Nat) (w : List sx_C) (l : List Int32), j + q = n → WI w → rel w A l → l.getD 1 0 = nI n → Out A w0 w → (∀ w2, WI w2 → rel w2 A (mtL q j l) → Out A w0 w2 → sx_RP xs (d + 4) 41 115 [(0, .ref A), (1, .int v)] [] w2 P) → sx_RP xs (d + 4) 41 52 [(0, .ref A), (1, .int v), (2, .int (nI j))] [] w P
  | 0, j, w, l, hj, hI, hR, en, hO, kk => by
    obtain rfl : j = n := by omega
    refine sx_RP.step (pc2 := 53) (ls2 := [(0, .ref A), (1, .int v), (2, .int (nI j))]) (st2 := [.int (nI j)]) (w3 := w) rfl rfl ?_
    refine sx_RP.step (pc2 := 54) (ls2 := [(0, .ref A), (1, .int v), (2, .int (nI j))]) (st2 := [.ref A, .int (nI j)]) (w3 := w) rfl rfl ?_
    refine sx_RP.gc (k := 3) hI hA rfl rfl (by omega) (show _ = 57 from rfl) ?_
    rw [(hR.many.trans en)]
    refine sx_RP.br (p1 := 115) (l1 := [(0, .ref A), (1, .int v), (2, .int (nI j))]) (s1 := []) (v1 := w) rfl rfl (fun _ => ?_) (fun q => absurd (nI_le (a := j) (b := j) (by omega) (by omega)) (of_decide_eq_false q))
    exact sx_RP.ls (sx_lr.cons rfl (sx_lr.cons rfl sx_lr.nil)) (kk w hI hR hO)
  | q + 1, j, w, l, hj, hI, hR, en, hO, kk => by
    refine sx_RP.step (pc2 := 53) (ls2 := [(0, .ref A), (1, .int v), (2, .int (nI j))]) (st2 := [.int (nI j)]) (w3 := w) rfl rfl ?_
    refine sx_RP.step (pc2 := 54) (ls2 := [(0, .ref A), (1, .int v), (2, .int (nI j))]) (st2 := [.ref A, .int (nI j)]) (w3 := w) rfl rfl ?_
    refine sx_RP.gc (k := 3) hI hA rfl rfl (by omega) (show _ = 57 from rfl) ?_
    rw [(hR.many.trans en)]
    refine sx_RP.br (p2 := 60) (l2 := [(0, .ref A), (1, .int v), (2, .int (nI j))]) (s2 := []) (v2 := w) rfl rfl (fun q => absurd (of_decide_eq_true q) (fun z => absurd ((nI_leI (a := n) (b := j) (by omega) (by omega)).mp z) (by omega))) (fun _ => ?_)
    refine sx_RP.step (pc2 := 61) (ls2 := [(0, .ref A), (1, .int v), (2, .int (nI j))]) (st2 := [.ref A]) (w3 := w) rfl rfl ?_
    refine sx_RP.gref (k := 2) (b := A + 2) hI hA rfl rfl (by omega) (show _ = 64 from rfl) ?_
    refine sx_RP.step (pc2 := 65) (ls2 := [(0, .ref A), (1, .int v), (2, .int (nI j))]) (st2 := [.int (nI j), .ref (A + 2)]) (w3 := w) rfl rfl ?_
    refine sx_RP.ald (v := .ref (A + 4 + j)) rfl (hI.1.aG hA) rfl (grA_at (show j < 10 by omega)) (show _ = 66 from rfl) ?_
    refine sx_RP.step (pc2 := 67) (ls2 := [(0, .ref A), (1, .int v), (2, .int (nI j))]) (st2 := [.int 0, .ref (A + 4 + j)]) (w3 := w) rfl rfl ?_
    rcases Decidable.em (gF l j 1 = 0 ∧ gF l j 5 = 0) with hc | hc
    · refine sx_RP.cu (as := [.ref (A + 4 + j), .int 0]) (rest2 := []) (st3 := [.int 1]) rfl rfl (sx_inv_v2 (mi := 41) (k := 82) (st := [.int 0, .ref (A + 4 + j)]) (w := w) rfl rfl (hI.1.oG (gAd.of hA (show j < 10 by omega))) rfl rfl rfl) rfl rfl (x43y hI (gAd.of hA (show j < 10 by omega)) ⟨(hR.ga (by rw [en, iN_n (by omega)]; omega) (by decide)).trans hc.1, (hR.ga (by rw [en, iN_n (by omega)]; omega) (by decide)).trans hc.2⟩) rfl ?_
      refine sx_RP.step (pc2 := 73) (ls2 := [(0, .ref A), (1, .int v), (2, .int (nI j))]) (st2 := []) (w3 := w) rfl rfl ?_
      refine sx_RP.step (pc2 := 74) (ls2 := [(0, .ref A), (1, .int v), (2, .int (nI j))]) (st2 := [.ref A]) (w3 := w) rfl rfl ?_
      refine sx_RP.step (pc2 := 75) (ls2 := [(0, .ref A), (1, .int v), (2, .int (nI j))]) (st2 := [.ref A, .ref A]) (w3 := w) rfl rfl ?_
      refine sx_RP.gref (k := 2) (b := A + 2) hI hA rfl rfl (by omega) (show _ = 78 from rfl) ?_
      refine sx_RP.step (pc2 := 79) (ls2 := [(0, .ref A), (1, .int v), (2, .int (nI j))]) (st2 := [.int (nI j), .ref (A + 2), .ref A]) (w3 := w) rfl rfl ?_
      refine sx_RP.ald (v := .ref (A + 4 + j)) rfl (hI.1.aG hA) rfl (grA_at (show j < 10 by omega)) (show _ = 80 from rfl) ?_
      refine sx_RP.gg (k := 2) hI (gAd.of hA (show j < 10 by omega)) rfl rfl (by decide) (show _ = 83 from rfl) ?_
      obtain ⟨x1, hx2, ex3⟩ : inR (fi w (A + 4 + j) 2) 47 := hI.gk (k := 2) (gAd.of hA (show j < 10 by omega)) (by decide)
      rw [ex3]
      rcases Bool.eq_false_or_eq_true (meF l x1 n) with hm | hm
      · refine sx_RP.cu (as := [.ref A, .int (nI x1)]) (rest2 := []) (st3 := [.int 1]) rfl rfl (sx_inv_v2 (mi := 41) (k := 113) (st := [.int (nI x1), .ref A]) (w := w) rfl rfl (hI.1.oC hA) rfl rfl rfl) rfl rfl ((by have z := x45 (xs := xs) (d := d + 1) hI hA hR hn en (show x1 < 48 by omega); rw [hm] at z; exact z)) rfl ?_
        refine sx_RP.step (pc2 := 89) (ls2 := [(0, .ref A), (1, .int v), (2, .int (nI j))]) (st2 := []) (w3 := w) rfl rfl ?_
        refine sx_RP.step (pc2 := 90) (ls2 := [(0, .ref A), (1, .int v), (2, .int (nI j))]) (st2 := [.ref A]) (w3 := w) rfl rfl ?_
        refine sx_RP.gref (k := 2) (b := A + 2) hI hA rfl rfl (by omega) (show _ = 93 from rfl) ?_
        refine sx_RP.step (pc2 := 94) (ls2 := [(0, .ref A), (1, .int v), (2, .int (nI j))]) (st2 := [.int (nI j), .ref (A + 2)]) (w3 := w) rfl rfl ?_
        refine sx_RP.ald (v := .ref (A + 4 + j)) rfl (hI.1.aG hA) rfl (grA_at (show j < 10 by omega)) (show _ = 95 from rfl) ?_
        refine sx_RP.step (pc2 := 96) (ls2 := [(0, .ref A), (1, .int v), (2, .int (nI j))]) (st2 := [.int 1, .ref (A + 4 + j)]) (w3 := w) rfl rfl ?_
        refine sx_RP.xG (k := 5) hI (gAd.of hA (show j < 10 by omega)) rfl rfl (by decide) rfl (show inR 1 1 from ⟨1, by decide, rfl⟩) (show _ = 99 from rfl) (fun w4 hI5 hs6 hv7 hr8 => ?_)
        have ex9 := (fi_same 3 (hs6 A (by omega))).trans (hR.many.trans en)
        have ex10 := (hr8 2 (by decide)).trans ex3
        refine sx_RP.step (pc2 := 100) (ls2 := [(0, .ref A), (1, .int v), (2, .int (nI j))]) (st2 := [.ref A]) (w3 := w4) rfl rfl ?_
        refine sx_RP.step (pc2 := 101) (ls2 := [(0, .ref A), (1, .int v), (2, .int (nI j))]) (st2 := [.ref A, .ref A]) (w3 := w4) rfl rfl ?_
        refine sx_RP.gc (k := 7) hI5 hA rfl rfl (by omega) (show _ = 104 from rfl) ?_
        refine sx_RP.step (pc2 := 105) (ls2 := [(0, .ref A), (1, .int v), (2, .int (nI j))]) (st2 := [.int 1, .int (fi w4 A 7), .ref A]) (w3 := w4) rfl rfl ?_
        refine sx_RP.step (pc2 := 106) (ls2 := [(0, .ref A), (1, .int v), (2, .int (nI j))]) (st2 := [.int ((fi w4 A 7) + 1), .ref A]) (w3 := w4) rfl rfl ?_
        refine sx_RP.xC (k := 7) hI5 hA rfl rfl (by omega) rfl trivial (show _ = 109 from rfl) (fun w11 hI12 hs13 hv14 hr15 hj16 => ?_)
        have ex17 := (hr15 3 (by decide)).trans ex9
        have ex18 := (fi_same 2 (hs13 (A + 4 + j) (by omega))).trans ex10
        refine sx_RP.step (pc2 := 112) (ls2 := [(2, .int ((nI j) + 1)), (0, .ref A), (1, .int v)]) (st2 := []) (w3 := w11) rfl rfl ?_
        rw [nI_1 j]
        refine sx_RP.step (pc2 := 52) (ls2 := [(2, .int (nI (j + 1))), (0, .ref A), (1, .int v)]) (st2 := []) (w3 := w11) rfl rfl ?_
        have e9 : metR l j = (l.set (103 + 6 * j + 5) 1).set 3 (l.getD 3 0 + 1) := if_pos ⟨hc, by rw [show gF l j 2 = nI x1 from ((hR.ga (i := j) (k := 2) (by rw [en, iN_n (by omega)]; omega) (by decide)).symm.trans ex3), iN_n (by omega), maN_n en hn]; exact hm⟩
        have hR1 := hR.sGa (show j < 10 by omega) (show 5 < 6 by decide) hs6 hv7 hr8
        have hv7 : fi w11 A 7 = l.getD 3 0 + 1 := hv14.trans (by rw [hR1.met, gd_ne (by omega)])
        have hR2 : rel w11 A (metR l j) := by rw [e9]; exact hR1.sFi (k := 7) (by decide) hs13 hv7 hr15 hj16
        exact sx_RP.ls (sx_lr.cons rfl (sx_lr.cons rfl (sx_lr.cons rfl sx_lr.nil))) (X41b hA hn q (j + 1) w11 (metR l j) (by omega) hI12 hR2 (metR_1.trans en) (hO.tr ((hs6.out (by omega)).tr (hs13.out (by omega)))) kk)
      · refine sx_RP.cu (as := [.ref A, .int (nI x1)]) (rest2 := []) (st3 := [.int 0]) rfl rfl (sx_inv_v2 (mi := 41) (k := 113) (st := [.int (nI x1), .ref A]) (w := w) rfl rfl (hI.1.oC hA) rfl rfl rfl) rfl rfl ((by have z := x45 (xs := xs) (d := d + 1) hI hA hR hn en (show x1 < 48 by omega); rw [hm] at z; exact z)) rfl ?_
        refine sx_RP.step (pc2 := 109) (ls2 := [(0, .ref A), (1, .int v), (2, .int (nI j))]) (st2 := []) (w3 := w) rfl rfl ?_
        refine sx_RP.step (pc2 := 112) (ls2 := [(2, .int ((nI j) + 1)), (0, .ref A), (1, .int v)]) (st2 := []) (w3 := w) rfl rfl ?_
        rw [nI_1 j]
        refine sx_RP.step (pc2 := 52) (ls2 := [(2, .int (nI (j + 1))), (0, .ref A), (1, .int v)]) (st2 := []) (w3 := w) rfl rfl ?_
        have e9 : metR l j = l := if_neg (fun z => by have z2 := z.2; rw [show gF l j 2 = nI x1 from ((hR.ga (i := j) (k := 2) (by rw [en, iN_n (by omega)]; omega) (by decide)).symm.trans ex3), iN_n (by omega), maN_n en hn, hm] at z2; exact absurd z2 (by decide))
        refine sx_RP.ls (sx_lr.cons rfl (sx_lr.cons rfl (sx_lr.cons rfl sx_lr.nil))) (X41b hA hn q (j + 1) w (metR l j) (by omega) hI (by rw [e9]; exact hR) (metR_1.trans en) hO kk)
    · refine sx_RP.cu (as := [.ref (A + 4 + j), .int 0]) (rest2 := []) (st3 := [.int 0]) rfl rfl (sx_inv_v2 (mi := 41) (k := 82) (st := [.int 0, .ref (A + 4 + j)]) (w := w) rfl rfl (hI.1.oG (gAd.of hA (show j < 10 by omega))) rfl rfl rfl) rfl rfl (x43n hI (gAd.of hA (show j < 10 by omega)) (fun z => hc ⟨(hR.ga (by rw [en, iN_n (by omega)]; omega) (by decide)).symm.trans z.1, (hR.ga (by rw [en, iN_n (by omega)]; omega) (by decide)).symm.trans z.2⟩)) rfl ?_
      refine sx_RP.step (pc2 := 109) (ls2 := [(0, .ref A), (1, .int v), (2, .int (nI j))]) (st2 := []) (w3 := w) rfl rfl ?_
      refine sx_RP.step (pc2 := 112) (ls2 := [(2, .int ((nI j) + 1)), (0, .ref A), (1, .int v)]) (st2 := []) (w3 := w) rfl rfl ?_
      rw [nI_1 j]
      refine sx_RP.step (pc2 := 52) (ls2 := [(2, .int (nI (j + 1))), (0, .ref A), (1, .int v)]) (st2 := []) (w3 := w) rfl rfl ?_
      have e9 : metR l j = l := if_neg (fun z => hc z.1)
      refine sx_RP.ls (sx_lr.cons rfl (sx_lr.cons rfl (sx_lr.cons rfl sx_lr.nil))) (X41b hA hn q (j + 1) w (metR l j) (by omega) hI (by rw [e9]; exact hR) (metR_1.trans en) hO kk)
set_option maxRecDepth 20000 in
set_option maxHeartbeats 4000000 in
theorem X41e {xs : Option (List Int32)} {d n : Nat} {A : Nat} {w w0 : List sx_C} {v : Int32} {m : List Int32} (hI : WI w) (hA : isA A) (hn : n ≤ 10) (hR : rel w A m) (en : m.getD 1 0 = nI n) (hO : Out A w0 w) : sx_RP xs (d + 4) 41 115 [(0, .ref A), (1, .int v)] [] w (fun r w2 => (r = some (.int (v - lfF (m.set 0 (m.getD 0 0 + 1)) 0 n - lfF (m.set 0 (m.getD 0 0 + 1)) 1 n)) ∧ rel w2 A (m.set 0 (m.getD 0 0 + 1))) ∧ WI w2 ∧ Out A w0 w2) := by
  refine sx_RP.step (pc2 := 116) (ls2 := [(0, .ref A), (1, .int v)]) (st2 := [.ref A]) (w3 := w) rfl rfl ?_
  refine sx_RP.step (pc2 := 117) (ls2 := [(0, .ref A), (1, .int v)]) (st2 := [.ref A, .ref A]) (w3 := w) rfl rfl ?_
  refine sx_RP.gc (k := 6) hI hA rfl rfl (by omega) (show _ = 120 from rfl) ?_
  refine sx_RP.step (pc2 := 121) (ls2 := [(0, .ref A), (1, .int v)]) (st2 := [.int 1, .int (fi w A 6), .ref A]) (w3 := w) rfl rfl ?_
  refine sx_RP.step (pc2 := 122) (ls2 := [(0, .ref A), (1, .int v)]) (st2 := [.int ((fi w A 6) + 1), .ref A]) (w3 := w) rfl rfl ?_
  refine sx_RP.xC (k := 6) hI hA rfl rfl (by omega) rfl trivial (show _ = 125 from rfl) (fun w1 hI2 hs3 hv4 hr5 hj6 => ?_)
  have hR2 : rel w1 A (m.set 0 (m.getD 0 0 + 1)) := hR.sFi (k := 6) (by decide) hs3 (hv4.trans (by rw [hR.night])) hr5 hj6
  have en2 : (m.set 0 (m.getD 0 0 + 1)).getD 1 0 = nI n := (gd_ne (by decide)).trans en
  refine sx_RP.step (pc2 := 126) (ls2 := [(0, .ref A), (1, .int v)]) (st2 := [.int v]) (w3 := w1) rfl rfl ?_
  refine sx_RP.step (pc2 := 127) (ls2 := [(0, .ref A), (1, .int v)]) (st2 := [.ref A, .int v]) (w3 := w1) rfl rfl ?_
  refine sx_RP.step (pc2 := 128) (ls2 := [(0, .ref A), (1, .int v)]) (st2 := [.int 0, .ref A, .int v]) (w3 := w1) rfl rfl ?_
  refine sx_RP.cu (as := [.ref A, .int 0]) (rest2 := [.int v]) (st3 := [.int (lfF (m.set 0 (m.getD 0 0 + 1)) 0 n), .int v]) rfl rfl (sx_inv_v2 (mi := 41) (k := 106) (st := [.int 0, .ref A, .int v]) (w := w1) rfl rfl (hI2.1.oC hA) rfl rfl rfl) rfl rfl (x42 hI2 hA hR2 hn en2 0) rfl ?_
  refine sx_RP.step (pc2 := 132) (ls2 := [(0, .ref A), (1, .int v)]) (st2 := [.int (v - (lfF (m.set 0 (m.getD 0 0 + 1)) 0 n))]) (w3 := w1) rfl rfl ?_
  refine sx_RP.step (pc2 := 133) (ls2 := [(0, .ref A), (1, .int v)]) (st2 := [.ref A, .int (v - (lfF (m.set 0 (m.getD 0 0 + 1)) 0 n))]) (w3 := w1) rfl rfl ?_
  refine sx_RP.step (pc2 := 134) (ls2 := [(0, .ref A), (1, .int v)]) (st2 := [.int 1, .ref A, .int (v - (lfF (m.set 0 (m.getD 0 0 + 1)) 0 n))]) (w3 := w1) rfl rfl ?_
  refine sx_RP.cu (as := [.ref A, .int 1]) (rest2 := [.int (v - (lfF (m.set 0 (m.getD 0 0 + 1)) 0 n))]) (st3 := [.int (lfF (m.set 0 (m.getD 0 0 + 1)) 1 n), .int (v - (lfF (m.set 0 (m.getD 0 0 + 1)) 0 n))]) rfl rfl (sx_inv_v2 (mi := 41) (k := 106) (st := [.int 1, .ref A, .int (v - (lfF (m.set 0 (m.getD 0 0 + 1)) 0 n))]) (w := w1) rfl rfl (hI2.1.oC hA) rfl rfl rfl) rfl rfl (x42 hI2 hA hR2 hn en2 1) rfl ?_
  refine sx_RP.step (pc2 := 138) (ls2 := [(0, .ref A), (1, .int v)]) (st2 := [.int ((v - (lfF (m.set 0 (m.getD 0 0 + 1)) 0 n)) - (lfF (m.set 0 (m.getD 0 0 + 1)) 1 n))]) (w3 := w1) rfl rfl ?_
  refine sx_RP.ret (r := (some (.int ((v - (lfF (m.set 0 (m.getD 0 0 + 1)) 0 n)) - (lfF (m.set 0 (m.getD 0 0 + 1)) 1 n))))) rfl rfl ?_
  exact ⟨⟨rfl, hR2⟩, hI2, hO.tr (hs3.out (by omega))⟩
set_option maxRecDepth 20000 in
set_option maxHeartbeats 4000000 in
theorem X41 {xs : Option (List Int32)} {d : Nat} {w : List sx_C} (hI : WI w) {A n : Nat} {l : List Int32} (hA : isA A) (hR : rel w A l) (hn : n ≤ 10) (en : l.getD 1 0 = nI n) : sx_RP xs (d + 4) 41 0 (lv_args 0 [.ref A]) [] w (fun r w2 => (r = some (.int (lfF l 0 n + lfF l 1 n - lfF (nigR l) 0 n - lfF (nigR l) 1 n)) ∧ rel w2 A (nigR l)) ∧ WI w2 ∧ Out A w w2) := by
  refine sx_RP.step (pc2 := 1) (ls2 := [(0, .ref A)]) (st2 := [.ref A]) (w3 := w) rfl rfl ?_
  refine sx_RP.step (pc2 := 2) (ls2 := [(0, .ref A)]) (st2 := [.int 0, .ref A]) (w3 := w) rfl rfl ?_
  refine sx_RP.cu (as := [.ref A, .int 0]) (rest2 := []) (st3 := [.int (lfF l 0 n)]) rfl rfl (sx_inv_v2 (mi := 41) (k := 106) (st := [.int 0, .ref A]) (w := w) rfl rfl (hI.1.oC hA) rfl rfl rfl) rfl rfl (x42 hI hA hR hn en 0) rfl ?_
  refine sx_RP.step (pc2 := 6) (ls2 := [(0, .ref A)]) (st2 := [.ref A, .int (lfF l 0 n)]) (w3 := w) rfl rfl ?_
  refine sx_RP.step (pc2 := 7) (ls2 := [(0, .ref A)]) (st2 := [.int 1, .ref A, .int (lfF l 0 n)]) (w3 := w) rfl rfl ?_
  refine sx_RP.cu (as := [.ref A, .int 1]) (rest2 := [.int (lfF l 0 n)]) (st3 := [.int (lfF l 1 n), .int (lfF l 0 n)]) rfl rfl (sx_inv_v2 (mi := 41) (k := 106) (st := [.int 1, .ref A, .int (lfF l 0 n)]) (w := w) rfl rfl (hI.1.oC hA) rfl rfl rfl) rfl rfl (x42 hI hA hR hn en 1) rfl ?_
  refine sx_RP.step (pc2 := 11) (ls2 := [(0, .ref A)]) (st2 := [.int ((lfF l 0 n) + (lfF l 1 n))]) (w3 := w) rfl rfl ?_
  refine sx_RP.step (pc2 := 12) (ls2 := [(1, .int ((lfF l 0 n) + (lfF l 1 n))), (0, .ref A)]) (st2 := []) (w3 := w) rfl rfl ?_
  refine sx_RP.step (pc2 := 13) (ls2 := [(1, .int ((lfF l 0 n) + (lfF l 1 n))), (0, .ref A)]) (st2 := [.int 0]) (w3 := w) rfl rfl ?_
  refine sx_RP.step (pc2 := 14) (ls2 := [(2, .int 0), (1, .int ((lfF l 0 n) + (lfF l 1 n))), (0, .ref A)]) (st2 := []) (w3 := w) rfl rfl ?_
  refine sx_RP.ls (sx_lr.cons rfl (sx_lr.cons rfl (sx_lr.cons rfl sx_lr.nil))) (X41a (w0 := w) (v := lfF l 0 n + lfF l 1 n) hA hn n 0 w l (by omega) hI hR en (fun _ _ => rfl) (fun w3 hI3 hR3 hO3 => ?_))
  refine sx_RP.step (pc2 := 51) (ls2 := [(0, .ref A), (1, .int (lfF l 0 n + lfF l 1 n))]) (st2 := [.int 0]) (w3 := w3) rfl rfl ?_
  refine sx_RP.step (pc2 := 52) (ls2 := [(2, .int 0), (0, .ref A), (1, .int (lfF l 0 n + lfF l 1 n))]) (st2 := []) (w3 := w3) rfl rfl ?_
  refine sx_RP.ls (sx_lr.cons rfl (sx_lr.cons rfl (sx_lr.cons rfl sx_lr.nil))) (X41b (w0 := w) (v := lfF l 0 n + lfF l 1 n) hA hn n 0 w3 _ (by omega) hI3 hR3 ((dgL_1 n 0 l).trans en) hO3 (fun w4 hI4 hR4 hO4 => ?_))
  have em : nigR l = (mtL n 0 (dgL n 0 l)).set 0 ((mtL n 0 (dgL n 0 l)).getD 0 0 + 1) := by unfold nigR; rw [maN_n en hn]
  rw [em]
  exact X41e hI4 hA hn hR4 ((mtL_1 n 0 _).trans ((dgL_1 n 0 l).trans en)) hO4
def ntsA (l : List Int32) (a1 : Int32) : Int32 := if ¬ (1 ≤ a1 ∧ a1 ≤ 60) then -1000000001 else (if ¬ l.getD 0 0 + a1 ≤ 999 then -1000000005 else (allF l - allF (goR (iN a1) l)))
def ntsR (l : List Int32) (a1 : Int32) : List Int32 := if ¬ (1 ≤ a1 ∧ a1 ≤ 60) then l else (if ¬ l.getD 0 0 + a1 ≤ 999 then l else (goR (iN a1) l))
theorem nts_1 {l : List Int32} {a1 : Int32} (h0 : ¬ (1 ≤ a1 ∧ a1 ≤ 60)) : ntsA l a1 = -1000000001 ∧ ntsR l a1 = l := ⟨if_pos h0, if_pos h0⟩
theorem nts_2 {l : List Int32} {a1 : Int32} (h0 : ¬ (¬ (1 ≤ a1 ∧ a1 ≤ 60))) (h1 : ¬ l.getD 0 0 + a1 ≤ 999) : ntsA l a1 = -1000000005 ∧ ntsR l a1 = l := ⟨(if_neg h0).trans (if_pos h1), (if_neg h0).trans (if_pos h1)⟩
theorem nts_z {l : List Int32} {a1 : Int32} (h0 : ¬ (¬ (1 ≤ a1 ∧ a1 ≤ 60))) (h1 : ¬ (¬ l.getD 0 0 + a1 ≤ 999)) : ntsA l a1 = allF l - allF (goR (iN a1) l) ∧ ntsR l a1 = goR (iN a1) l := ⟨(if_neg h0).trans (if_neg h1), (if_neg h0).trans (if_neg h1)⟩
theorem goR_1 : ∀ (n : Nat) (l : List Int32), (goR n l).getD 1 0 = l.getD 1 0
  | 0, _ => rfl
  | n + 1, l => (goR_1 n (nigR l)).trans nigR_1
theorem goR_s : ∀ (n : Nat) (l : List Int32), goR (n + 1) l = nigR (goR n l)
  | 0, _ => rfl
  | n + 1, l => goR_s n (nigR l)
theorem allF_n {l : List Int32} {n : Nat} (en : l.getD 1 0 = nI n) (hn : n ≤ 10) : allF l = lfF l 0 n + lfF l 1 n := by
  unfold allF
  rw [maN_n en hn]
set_option maxRecDepth 20000 in
set_option maxHeartbeats 4000000 in
theorem Z39L {xs : Option (List Int32)} {d n x : Nat} {l : List Int32} {w0 : List sx_C} (hn : n ≤ 10) (en : l.getD 1 0 = nI n) (hx : x ≤ 60) : ∀ (q j : Nat) (w : List sx_C), j + q = x → WI w → rel w 1 (goR j l) → Out 1 w0 w → sx_RP xs (d + 7) 39 39 [(0, .ref 0), (1, .int (nI x)), (2, .int (allF l - allF (goR j l))), (3, .int (nI j))] [] w (fun r w2 => (r = some (.int (allF l - allF (goR x l))) ∧ rel w2 1 (goR x l)) ∧ WI w2 ∧ Out 1 w0 w2)
  | 0, j, w, hj, hI, hR, hO => by
    obtain rfl : j = x := by omega
    refine sx_RP.step (pc2 := 40) (ls2 := [(0, .ref 0), (1, .int (nI j)), (2, .int (allF l - allF (goR j l))), (3, .int (nI j))]) (st2 := [.int (nI j)]) (w3 := w) rfl rfl ?_
    refine sx_RP.step (pc2 := 41) (ls2 := [(0, .ref 0), (1, .int (nI j)), (2, .int (allF l - allF (goR j l))), (3, .int (nI j))]) (st2 := [.int (nI j), .int (nI j)]) (w3 := w) rfl rfl ?_
    refine sx_RP.br (p1 := 60) (l1 := [(0, .ref 0), (1, .int (nI j)), (2, .int (allF l - allF (goR j l))), (3, .int (nI j))]) (s1 := []) (v1 := w) rfl rfl (fun _ => ?_) (fun q => absurd (nI_le (a := j) (b := j) (by omega) (by omega)) (of_decide_eq_false q))
    refine sx_RP.step (pc2 := 61) (ls2 := [(0, .ref 0), (1, .int (nI j)), (2, .int (allF l - allF (goR j l))), (3, .int (nI j))]) (st2 := [.int (allF l - allF (goR j l))]) (w3 := w) rfl rfl ?_
    refine sx_RP.ret (r := (some (.int (allF l - allF (goR j l))))) rfl rfl ?_
    exact ⟨⟨rfl, hR⟩, hI, hO⟩
  | q + 1, j, w, hj, hI, hR, hO => by
    refine sx_RP.step (pc2 := 40) (ls2 := [(0, .ref 0), (1, .int (nI x)), (2, .int (allF l - allF (goR j l))), (3, .int (nI j))]) (st2 := [.int (nI j)]) (w3 := w) rfl rfl ?_
    refine sx_RP.step (pc2 := 41) (ls2 := [(0, .ref 0), (1, .int (nI x)), (2, .int (allF l - allF (goR j l))), (3, .int (nI j))]) (st2 := [.int (nI x), .int (nI j)]) (w3 := w) rfl rfl ?_
    refine sx_RP.br (p2 := 44) (l2 := [(0, .ref 0), (1, .int (nI x)), (2, .int (allF l - allF (goR j l))), (3, .int (nI j))]) (s2 := []) (v2 := w) rfl rfl (fun q => absurd (of_decide_eq_true q) (fun z => absurd ((nI_leI (a := x) (b := j) (by omega) (by omega)).mp z) (by omega))) (fun _ => ?_)
    refine sx_RP.step (pc2 := 45) (ls2 := [(0, .ref 0), (1, .int (nI x)), (2, .int (allF l - allF (goR j l))), (3, .int (nI j))]) (st2 := [.int (allF l - allF (goR j l))]) (w3 := w) rfl rfl ?_
    refine sx_RP.step (pc2 := 46) (ls2 := [(0, .ref 0), (1, .int (nI x)), (2, .int (allF l - allF (goR j l))), (3, .int (nI j))]) (st2 := [.ref 0, .int (allF l - allF (goR j l))]) (w3 := w) rfl rfl ?_
    refine sx_RP.gf (v := .ref 1) rfl rfl hI.1.o0 rfl rfl (show _ = 49 from rfl) ?_
    refine sx_RP.callp (as2 := [.ref 1]) (rest2 := [.int (allF l - allF (goR j l))]) rfl rfl (sx_inv_v2 (mi := 39) (k := 166) (st := [.ref 1, .int (allF l - allF (goR j l))]) (w := w) rfl rfl (hI.1.oC (Or.inl rfl)) rfl rfl rfl) rfl rfl rfl (X41 hI (Or.inl rfl) hR hn ((goR_1 j l).trans en)) (show _ = 52 from rfl) ?_
    rintro r4 w3 ⟨⟨rfl, hR1⟩, hI4, ho2⟩
    show sx_RP _ _ _ _ _ [.int (lfF (goR j l) 0 n + lfF (goR j l) 1 n - lfF (nigR (goR j l)) 0 n - lfF (nigR (goR j l)) 1 n), .int (allF l - allF (goR j l))] _ _
    refine sx_RP.step (pc2 := 53) (ls2 := [(0, .ref 0), (1, .int (nI x)), (2, .int (allF l - allF (goR j l))), (3, .int (nI j))]) (st2 := [.int ((allF l - allF (goR j l)) + (lfF (goR j l) 0 n + lfF (goR j l) 1 n - lfF (nigR (goR j l)) 0 n - lfF (nigR (goR j l)) 1 n))]) (w3 := w3) rfl rfl ?_
    refine sx_RP.step (pc2 := 54) (ls2 := [(2, .int ((allF l - allF (goR j l)) + (lfF (goR j l) 0 n + lfF (goR j l) 1 n - lfF (nigR (goR j l)) 0 n - lfF (nigR (goR j l)) 1 n))), (0, .ref 0), (1, .int (nI x)), (3, .int (nI j))]) (st2 := []) (w3 := w3) rfl rfl ?_
    refine sx_RP.step (pc2 := 57) (ls2 := [(3, .int ((nI j) + 1)), (2, .int ((allF l - allF (goR j l)) + (lfF (goR j l) 0 n + lfF (goR j l) 1 n - lfF (nigR (goR j l)) 0 n - lfF (nigR (goR j l)) 1 n))), (0, .ref 0), (1, .int (nI x))]) (st2 := []) (w3 := w3) rfl rfl ?_
    rw [nI_1 j]
    refine sx_RP.step (pc2 := 39) (ls2 := [(3, .int (nI (j + 1))), (2, .int ((allF l - allF (goR j l)) + (lfF (goR j l) 0 n + lfF (goR j l) 1 n - lfF (nigR (goR j l)) 0 n - lfF (nigR (goR j l)) 1 n))), (0, .ref 0), (1, .int (nI x))]) (st2 := []) (w3 := w3) rfl rfl ?_
    have e9 : (allF l - allF (goR j l)) + (lfF (goR j l) 0 n + lfF (goR j l) 1 n - lfF (nigR (goR j l)) 0 n - lfF (nigR (goR j l)) 1 n) = allF l - allF (goR (j + 1) l) := by rw [← allF_n ((goR_1 j l).trans en) hn, tel9, goR_s, ← allF_n (nigR_1.trans ((goR_1 j l).trans en)) hn]
    rw [e9]
    exact sx_RP.ls (sx_lr.cons rfl (sx_lr.cons rfl (sx_lr.cons rfl (sx_lr.cons rfl sx_lr.nil)))) (Z39L hn en hx q (j + 1) w3 (by omega) hI4 (by rw [goR_s]; exact hR1) (hO.tr ho2))
set_option maxRecDepth 20000 in
set_option maxHeartbeats 4000000 in
theorem Z39 {xs : Option (List Int32)} {d : Nat} {w : List sx_C} (hI : WI w) (l : List Int32) (hR : rel w 1 l) (a1 : Int32) : sx_RP xs (d + 7) 39 0 (lv_args 0 [.ref 0, .int a1]) [] w (fun r w2 => (r = some (.int (ntsA l a1)) ∧ rel w2 1 (ntsR l a1)) ∧ WI w2 ∧ EO w w2) := by
  obtain ⟨n, hn, en⟩ := hR.n10 hI (Or.inl rfl)
  refine sx_RP.step (pc2 := 1) (ls2 := [(0, .ref 0), (1, .int a1)]) (st2 := [.int a1]) (w3 := w) rfl rfl ?_
  refine sx_RP.step (pc2 := 2) (ls2 := [(0, .ref 0), (1, .int a1)]) (st2 := [.int 1, .int a1]) (w3 := w) rfl rfl ?_
  refine sx_RP.step (pc2 := 4) (ls2 := [(0, .ref 0), (1, .int a1)]) (st2 := [.int 60, .int 1, .int a1]) (w3 := w) rfl rfl ?_
  rcases in_cases a1 1 60 (m := 1) (n := 60) rfl rfl (by decide) (by decide) with q1 | ⟨x2, hx3, hx4, rfl⟩
  · refine sx_RP.cu (as := [.int a1, .int 1, .int 60]) (rest2 := []) (st3 := [.int 0]) rfl rfl rfl rfl rfl (cx_8n q1) rfl ?_
    refine sx_RP.step (pc2 := 10) (ls2 := [(0, .ref 0), (1, .int a1)]) (st2 := []) (w3 := w) rfl rfl ?_
    refine sx_RP.step (pc2 := 11) (ls2 := [(0, .ref 0), (1, .int a1)]) (st2 := [.ref 0]) (w3 := w) rfl rfl ?_
    refine sx_RP.step (pc2 := 13) (ls2 := [(0, .ref 0), (1, .int a1)]) (st2 := [.int (-1000000001), .ref 0]) (w3 := w) rfl rfl ?_
    refine sx_RP.callp (as2 := [.ref 0, .int (-1000000001)]) (rest2 := []) rfl rfl (sx_inv_v2 (mi := 39) (k := 78) (st := [.int (-1000000001), .ref 0]) (w := w) rfl rfl hI.1.o0 rfl rfl rfl) rfl rfl rfl (S9_0 hI) (show _ = 16 from rfl) ?_
    rintro r4 w7 ⟨rfl, hI8, hs6⟩
    show sx_RP _ _ _ _ _ [.int (-1000000001)] _ _
    refine sx_RP.ret (r := (some (.int (-1000000001)))) rfl rfl ?_
    exact ⟨⟨by rw [(nts_1 (l := l) q1).1], by rw [(nts_1 (l := l) q1).2]; exact hR.same hI (Or.inl rfl) (fun a h1 h2 => hs6 a (by omega))⟩, hI8, fun a ha => hs6 a (by unfold oc at ha; omega)⟩
  · refine sx_RP.cu (as := [.int (nI x2), .int 1, .int 60]) (rest2 := []) (st3 := [.int 1]) rfl rfl rfl rfl rfl (cx_8p ⟨nI_le (a := 1) hx3 (by omega), nI_le (b := 60) hx4 (by decide)⟩) rfl ?_
    refine sx_RP.step (pc2 := 17) (ls2 := [(0, .ref 0), (1, .int (nI x2))]) (st2 := []) (w3 := w) rfl rfl ?_
    refine sx_RP.step (pc2 := 18) (ls2 := [(0, .ref 0), (1, .int (nI x2))]) (st2 := [.ref 0]) (w3 := w) rfl rfl ?_
    refine sx_RP.gf (v := .ref 1) rfl rfl hI.1.o0 rfl rfl (show _ = 21 from rfl) ?_
    refine sx_RP.step (pc2 := 22) (ls2 := [(0, .ref 0), (1, .int (nI x2))]) (st2 := [.int (nI x2), .ref 1]) (w3 := w) rfl rfl ?_
    rcases Decidable.em (l.getD 0 0 + nI x2 ≤ 999) with hc | hc
    · refine sx_RP.cu (as := [.ref 1, .int (nI x2)]) (rest2 := []) (st3 := [.int 1]) rfl rfl (sx_inv_v2 (mi := 39) (k := 163) (st := [.int (nI x2), .ref 1]) (w := w) rfl rfl (hI.1.oC (Or.inl rfl)) rfl rfl rfl) rfl rfl (x40y hI (Or.inl rfl) (by rw [hR.night]; exact hc)) rfl ?_
      refine sx_RP.step (pc2 := 35) (ls2 := [(0, .ref 0), (1, .int (nI x2))]) (st2 := []) (w3 := w) rfl rfl ?_
      refine sx_RP.step (pc2 := 36) (ls2 := [(0, .ref 0), (1, .int (nI x2))]) (st2 := [.int 0]) (w3 := w) rfl rfl ?_
      refine sx_RP.step (pc2 := 37) (ls2 := [(2, .int 0), (0, .ref 0), (1, .int (nI x2))]) (st2 := []) (w3 := w) rfl rfl ?_
      refine sx_RP.step (pc2 := 38) (ls2 := [(2, .int 0), (0, .ref 0), (1, .int (nI x2))]) (st2 := [.int 0]) (w3 := w) rfl rfl ?_
      refine sx_RP.step (pc2 := 39) (ls2 := [(3, .int 0), (2, .int 0), (0, .ref 0), (1, .int (nI x2))]) (st2 := []) (w3 := w) rfl rfl ?_
      rw [(nts_z (l := l) (fun z => z ⟨nI_le (a := 1) (show 1 ≤ x2 by omega) (by omega), nI_le (b := 60) (show x2 ≤ 60 by omega) (by decide)⟩) (fun z => z hc)).1, (nts_z (l := l) (fun z => z ⟨nI_le (a := 1) (show 1 ≤ x2 by omega) (by omega), nI_le (b := 60) (show x2 ≤ 60 by omega) (by decide)⟩) (fun z => z hc)).2, iN_n (show x2 < 2 ^ 31 by omega)]
      exact sx_RP.ls (sx_lr.cons rfl (sx_lr.cons rfl (sx_lr.cons (by show some (Value.int 0) = _; rw [show allF l - allF (goR 0 l) = 0 from Int32.sub_self _]) (sx_lr.cons rfl sx_lr.nil)))) ((Z39L (w0 := w) hn en (show x2 ≤ 60 by omega) x2 0 w (by omega) hI hR (fun _ _ => rfl)).mono9 (fun r w2 q => ⟨q.1, q.2.1, q.2.2.eo⟩))
    · refine sx_RP.cu (as := [.ref 1, .int (nI x2)]) (rest2 := []) (st3 := [.int 0]) rfl rfl (sx_inv_v2 (mi := 39) (k := 163) (st := [.int (nI x2), .ref 1]) (w := w) rfl rfl (hI.1.oC (Or.inl rfl)) rfl rfl rfl) rfl rfl (x40n hI (Or.inl rfl) (by rw [hR.night]; exact hc)) rfl ?_
      refine sx_RP.step (pc2 := 28) (ls2 := [(0, .ref 0), (1, .int (nI x2))]) (st2 := []) (w3 := w) rfl rfl ?_
      refine sx_RP.step (pc2 := 29) (ls2 := [(0, .ref 0), (1, .int (nI x2))]) (st2 := [.ref 0]) (w3 := w) rfl rfl ?_
      refine sx_RP.step (pc2 := 31) (ls2 := [(0, .ref 0), (1, .int (nI x2))]) (st2 := [.int (-1000000005), .ref 0]) (w3 := w) rfl rfl ?_
      refine sx_RP.callp (as2 := [.ref 0, .int (-1000000005)]) (rest2 := []) rfl rfl (sx_inv_v2 (mi := 39) (k := 78) (st := [.int (-1000000005), .ref 0]) (w := w) rfl rfl hI.1.o0 rfl rfl rfl) rfl rfl rfl (S9_4 hI) (show _ = 34 from rfl) ?_
      rintro r4 w10 ⟨rfl, hI11, hs9⟩
      show sx_RP _ _ _ _ _ [.int (-1000000005)] _ _
      refine sx_RP.ret (r := (some (.int (-1000000005)))) rfl rfl ?_
      exact ⟨⟨by rw [(nts_2 (l := l) (fun z => z ⟨nI_le (a := 1) (show 1 ≤ x2 by omega) (by omega), nI_le (b := 60) (show x2 ≤ 60 by omega) (by decide)⟩) hc).1], by rw [(nts_2 (l := l) (fun z => z ⟨nI_le (a := 1) (show 1 ≤ x2 by omega) (by omega), nI_le (b := 60) (show x2 ≤ 60 by omega) (by decide)⟩) hc).2]; exact hR.same hI (Or.inl rfl) (fun a h1 h2 => hs9 a (by omega))⟩, hI11, fun a ha => hs9 a (by unfold oc at ha; omega)⟩
