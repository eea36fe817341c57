-- 75.itemM.lean.txt
section
-- safety: the text of the reference: items
theorem sx_dep1 (md : Bool) (xs : Option (List Int32)) : ∀ (f d mi pc : Nat) (ls : sx_L) (st : List Value) (w : List sx_C) (r : Option Value) (w2 : List sx_C), sx_run md xs f d mi pc ls st w = some (r, w2) → sx_run md xs f (d + 1) mi pc ls st w = some (r, w2)
  | 0, d, mi, pc, ls, st, w, r, w2, h => by cases h
  | f + 1, d, mi, pc, ls, st, w, r, w2, h => by
    unfold sx_run at h
    unfold sx_run
    split at h
    · cases h
    · rename_i i n hi
      try rw [hi]
      try simp only
      split at h
      · rename_i pc2 ls2 st2 w3 hs
        try rw [hs]
        exact sx_dep1 md xs f d mi pc2 ls2 st2 w3 r w2 h
      · rename_i hs
        try rw [hs]
        try simp only
        split at h
        · rename_i r2 hr
          try rw [hr]
          exact h
        · rename_i hr
          try rw [hr]
          try simp only
          split at h
          · rename_i mi2 as rest d2 hinv
            try rw [hinv]
            try simp only
            simp only [Bool.cond_eq_ite] at h ⊢
            split at h
            · rename_i hsum
              rw [if_pos hsum]
              split at h
              · rename_i r2 w4 hc
                rw [sx_dep1 md xs f d2 mi2 0 _ [] w r2 w4 hc]
                exact sx_dep1 md xs f (d2 + 1) mi (pc + 3) ls _ w4 r w2 h
              · cases h
            · cases h
          · cases h
theorem sx_RU.deep {xs : Option (List Int32)} {d mi pc : Nat} {ls : sx_L} {st : List Value} {w : List sx_C} {r : Option Value} {w2 : List sx_C} (h : sx_RU xs d mi pc ls st w r w2) : ∀ k, sx_RU xs (k + d) mi pc ls st w r w2
  | 0 => by
    rw [Nat.zero_add]
    exact h
  | k + 1 => by
    obtain ⟨f, hf⟩ := sx_RU.deep h k
    refine ⟨f, ?_⟩
    rw [show k + 1 + d = k + d + 1 by omega]
    exact sx_dep1 false xs f (k + d) mi pc ls st w r w2 hf
theorem s214i {xs : Option (List Int32)} {d : Nat} {w : List sx_C} {k : UInt32} {n : Nat} (hI : WI w) (hk : 100 ≤ k.toNat ∧ k.toNat < 120) (en : sx_sn.getD (k.toNat - 100) 0 = n) (hn : n ≤ 7) : sx_RP xs (d + 3) 214 0 (lv_args 0 [.ref 111, .float k]) [] w (fun r w2 => ((r = some (.int 0) ∧ ∀ e, sx_RU xs (e + 3) 214 0 (lv_args 0 [.ref 111, .float k]) [] w2 (some (.int 0)) w2) ∨ r = some (.int 1)) ∧ WI w2 ∧ EH w w2) := by
  obtain ⟨r, w2, h, ⟨hr, hq⟩, h2⟩ := s214 (xs := xs) (d := 0) hI hk en hn
  refine ⟨r, w2, h.deep d, ?_, h2⟩
  rcases hr with e | ⟨_, _, e⟩
  · subst e
    exact Or.inl ⟨rfl, fun e => hq.deep e⟩
  · exact Or.inr e
theorem p212_0 {xs : Option (List Int32)} {d : Nat} {w : List sx_C} : sx_RU xs d 212 0 (lv_args 0 [.int 0]) [] w (some (.float 102)) w := sx_RU.step rfl rfl (sx_RU.step rfl rfl (sx_RU.step rfl rfl (sx_RU.ret rfl rfl)))
theorem p212_1 {xs : Option (List Int32)} {d : Nat} {w : List sx_C} : sx_RU xs d 212 0 (lv_args 0 [.int 1]) [] w (some (.float 113)) w := sx_RU.step rfl rfl (sx_RU.step rfl rfl (sx_RU.step rfl rfl (sx_RU.ret rfl rfl)))
theorem p212_2 {xs : Option (List Int32)} {d : Nat} {w : List sx_C} : sx_RU xs d 212 0 (lv_args 0 [.int 2]) [] w (some (.float 112)) w := sx_RU.step rfl rfl (sx_RU.step rfl rfl (sx_RU.step rfl rfl (sx_RU.ret rfl rfl)))
theorem p212_3 {xs : Option (List Int32)} {d : Nat} {w : List sx_C} : sx_RU xs d 212 0 (lv_args 0 [.int 3]) [] w (some (.float 118)) w := sx_RU.step rfl rfl (sx_RU.step rfl rfl (sx_RU.step rfl rfl (sx_RU.ret rfl rfl)))
theorem p212_4 {xs : Option (List Int32)} {d : Nat} {w : List sx_C} : sx_RU xs d 212 0 (lv_args 0 [.int 4]) [] w (some (.float 117)) w := sx_RU.step rfl rfl (sx_RU.step rfl rfl (sx_RU.step rfl rfl (sx_RU.ret rfl rfl)))
theorem p226_0 {xs : Option (List Int32)} {d : Nat} {w : List sx_C} : sx_RU xs d 226 0 (lv_args 0 [.int 0]) [] w (some (.float 106)) w := sx_RU.step rfl rfl (sx_RU.step rfl rfl (sx_RU.step rfl rfl (sx_RU.ret rfl rfl)))
theorem p226_1 {xs : Option (List Int32)} {d : Nat} {w : List sx_C} : sx_RU xs d 226 0 (lv_args 0 [.int 1]) [] w (some (.float 110)) w := sx_RU.step rfl rfl (sx_RU.step rfl rfl (sx_RU.step rfl rfl (sx_RU.ret rfl rfl)))
theorem p226_2 {xs : Option (List Int32)} {d : Nat} {w : List sx_C} : sx_RU xs d 226 0 (lv_args 0 [.int 2]) [] w (some (.float 114)) w := sx_RU.step rfl rfl (sx_RU.step rfl rfl (sx_RU.step rfl rfl (sx_RU.ret rfl rfl)))
theorem p226_3 {xs : Option (List Int32)} {d : Nat} {w : List sx_C} : sx_RU xs d 226 0 (lv_args 0 [.int 3]) [] w (some (.float 107)) w := sx_RU.step rfl rfl (sx_RU.step rfl rfl (sx_RU.step rfl rfl (sx_RU.ret rfl rfl)))
theorem p226_4 {xs : Option (List Int32)} {d : Nat} {w : List sx_C} : sx_RU xs d 226 0 (lv_args 0 [.int 4]) [] w (some (.float 105)) w := sx_RU.step rfl rfl (sx_RU.step rfl rfl (sx_RU.step rfl rfl (sx_RU.ret rfl rfl)))
theorem p226_5 {xs : Option (List Int32)} {d : Nat} {w : List sx_C} : sx_RU xs d 226 0 (lv_args 0 [.int 5]) [] w (some (.float 103)) w := sx_RU.step rfl rfl (sx_RU.step rfl rfl (sx_RU.step rfl rfl (sx_RU.ret rfl rfl)))
set_option maxRecDepth 20000 in
set_option maxHeartbeats 4000000 in
theorem s227 {xs : Option (List Int32)} {d : Nat} {w : List sx_C} (hI : WI w) {k n : Nat} (hk : k ≤ 5) (hn : n ≤ 9) (en : (ia w 112).getD 1 0 = nI n) : sx_RP xs (d + 6) 227 0 (lv_args 0 [.ref 111, .int (nI k)]) [] w (fun r w2 => (r = some (.int 0) ∨ r = some (.int 1)) ∧ WI w2 ∧ EI w w2) := by
  have hE : EI w w := EI.rf
  refine sx_RP.step (pc2 := 1) (ls2 := [(0, .ref 111), (1, .int (nI k))]) (st2 := [.ref 111]) (w3 := w) rfl rfl ?_
  refine sx_RP.step (pc2 := 4) (ls2 := [(0, .ref 111), (1, .int (nI k))]) (st2 := [.float 115, .ref 111]) (w3 := w) rfl rfl ?_
  refine sx_RP.callp (as2 := [.ref 111, .float 115]) (rest2 := []) rfl rfl (sx_inv_v2 (mi := 227) (k := 243) (st := [.float 115, .ref 111]) (w := w) rfl rfl hI.1.o111 rfl rfl rfl) rfl rfl rfl (s213 (k := 115) hI (by decide) rfl (by decide)) (show _ = 7 from rfl) ?_
  rintro r4 w1 ⟨(rfl | rfl), hI2, hE4⟩
  · have hE3 := hE.tr (hE4.ei)
    have ex5 := (congrArg (fun l => List.getD l 1 0) (ia_of (hE4.1 112 (by decide)))).trans en
    show sx_RP _ _ _ _ _ [.int 0] _ _
    refine sx_RP.step (pc2 := 14) (ls2 := [(0, .ref 111), (1, .int (nI k))]) (st2 := []) (w3 := w1) rfl rfl ?_
    refine sx_RP.step (pc2 := 15) (ls2 := [(0, .ref 111), (1, .int (nI k))]) (st2 := [.int 1]) (w3 := w1) rfl rfl ?_
    refine sx_RP.step (pc2 := 16) (ls2 := [(2, .int 1), (0, .ref 111), (1, .int (nI k))]) (st2 := []) (w3 := w1) rfl rfl ?_
    refine sx_RP.step (pc2 := 17) (ls2 := [(2, .int 1), (0, .ref 111), (1, .int (nI k))]) (st2 := [.int 1]) (w3 := w1) rfl rfl ?_
    refine sx_RP.step (pc2 := 18) (ls2 := [(2, .int 1), (0, .ref 111), (1, .int (nI k))]) (st2 := [.int 1, .int 1]) (w3 := w1) rfl rfl ?_
    refine sx_RP.step (pc2 := 21) (ls2 := [(2, .int 1), (0, .ref 111), (1, .int (nI k))]) (st2 := []) (w3 := w1) rfl rfl ?_
    refine sx_RP.step (pc2 := 22) (ls2 := [(2, .int 1), (0, .ref 111), (1, .int (nI k))]) (st2 := [.ref 111]) (w3 := w1) rfl rfl ?_
    refine sx_RP.step (pc2 := 25) (ls2 := [(2, .int 1), (0, .ref 111), (1, .int (nI k))]) (st2 := [.float 109, .ref 111]) (w3 := w1) rfl rfl ?_
    refine sx_RP.callp (as2 := [.ref 111, .float 109]) (rest2 := []) rfl rfl (sx_inv_v2 (mi := 227) (k := 282) (st := [.float 109, .ref 111]) (w := w1) rfl rfl hI2.1.o111 rfl rfl rfl) rfl rfl rfl (s228 (k := 109) hI2 (by decide) rfl (by decide)) (show _ = 28 from rfl) ?_
    rintro r4 w6 ⟨(rfl | rfl), hI7, hE9⟩
    · have hE8 := hE3.tr (hE9.ei)
      have ex10 := (congrArg (fun l => List.getD l 1 0) (ia_of (hE9.1 112 (by decide)))).trans ex5
      show sx_RP _ _ _ _ _ [.int 0] _ _
      refine sx_RP.step (pc2 := 31) (ls2 := [(2, .int 1), (0, .ref 111), (1, .int (nI k))]) (st2 := []) (w3 := w6) rfl rfl ?_
      refine sx_RP.step (pc2 := 32) (ls2 := [(2, .int 1), (0, .ref 111), (1, .int (nI k))]) (st2 := [.int 0]) (w3 := w6) rfl rfl ?_
      refine sx_RP.ret (r := (some (.int 0))) rfl rfl ?_
      exact ⟨Or.inl rfl, hI7, hE8⟩
    · have hE8 := hE3.tr (hE9.ei)
      have ex11 := (congrArg (fun l => List.getD l 1 0) (ia_of (hE9.1 112 (by decide)))).trans ex5
      show sx_RP _ _ _ _ _ [.int 1] _ _
      refine sx_RP.step (pc2 := 33) (ls2 := [(2, .int 1), (0, .ref 111), (1, .int (nI k))]) (st2 := []) (w3 := w6) rfl rfl ?_
      refine sx_RP.step (pc2 := 34) (ls2 := [(2, .int 1), (0, .ref 111), (1, .int (nI k))]) (st2 := [.ref 111]) (w3 := w6) rfl rfl ?_
      refine sx_RP.step (pc2 := 37) (ls2 := [(2, .int 1), (0, .ref 111), (1, .int (nI k))]) (st2 := [.float 100, .ref 111]) (w3 := w6) rfl rfl ?_
      refine sx_RP.callp (as2 := [.ref 111, .float 100]) (rest2 := []) rfl rfl (sx_inv_v2 (mi := 227) (k := 282) (st := [.float 100, .ref 111]) (w := w6) rfl rfl hI7.1.o111 rfl rfl rfl) rfl rfl rfl (s228 (k := 100) hI7 (by decide) rfl (by decide)) (show _ = 40 from rfl) ?_
      rintro r4 w12 ⟨(rfl | rfl), hI13, hE15⟩
      · have hE14 := hE8.tr (hE15.ei)
        have ex16 := (congrArg (fun l => List.getD l 1 0) (ia_of (hE15.1 112 (by decide)))).trans ex11
        show sx_RP _ _ _ _ _ [.int 0] _ _
        refine sx_RP.step (pc2 := 53) (ls2 := [(2, .int 1), (0, .ref 111), (1, .int (nI k))]) (st2 := []) (w3 := w12) rfl rfl ?_
        refine sx_RP.step (pc2 := 54) (ls2 := [(2, .int 1), (0, .ref 111), (1, .int (nI k))]) (st2 := [.int 0]) (w3 := w12) rfl rfl ?_
        refine sx_RP.ret (r := (some (.int 0))) rfl rfl ?_
        exact ⟨Or.inl rfl, hI13, hE14⟩
      · have hE14 := hE8.tr (hE15.ei)
        have ex17 := (congrArg (fun l => List.getD l 1 0) (ia_of (hE15.1 112 (by decide)))).trans ex11
        show sx_RP _ _ _ _ _ [.int 1] _ _
        refine sx_RP.step (pc2 := 43) (ls2 := [(2, .int 1), (0, .ref 111), (1, .int (nI k))]) (st2 := []) (w3 := w12) rfl rfl ?_
        refine sx_RP.step (pc2 := 44) (ls2 := [(2, .int 1), (0, .ref 111), (1, .int (nI k))]) (st2 := [.ref 111]) (w3 := w12) rfl rfl ?_
        refine sx_RP.step (pc2 := 45) (ls2 := [(2, .int 1), (0, .ref 111), (1, .int (nI k))]) (st2 := [.int 0, .ref 111]) (w3 := w12) rfl rfl ?_
        refine sx_RP.step (pc2 := 47) (ls2 := [(2, .int 1), (0, .ref 111), (1, .int (nI k))]) (st2 := [.int 47, .int 0, .ref 111]) (w3 := w12) rfl rfl ?_
        refine sx_RP.callp (as2 := [.ref 111, .int 0, .int 47]) (rest2 := []) rfl rfl (sx_inv_v2 (mi := 227) (k := 267) (st := [.int 47, .int 0, .ref 111]) (w := w12) rfl rfl hI13.1.o111 rfl rfl rfl) rfl rfl rfl (s220 (m := 0) (n := 47) hI13 (by omega) (by omega)) (show _ = 50 from rfl) ?_
        rintro r4 w22 ⟨(rfl | ⟨x18, ⟨hx19, hx20, ex21⟩, rfl⟩), hI23, hE25⟩
        · have hE24 := hE14.tr (hE25.ei)
          have ex26 := (congrArg (fun l => List.getD l 1 0) (ia_of (hE25.1 112 (by decide)))).trans ex17
          show sx_RP _ _ _ _ _ [.int 0] _ _
          refine sx_RP.step (pc2 := 53) (ls2 := [(2, .int 1), (0, .ref 111), (1, .int (nI k))]) (st2 := []) (w3 := w22) rfl rfl ?_
          refine sx_RP.step (pc2 := 54) (ls2 := [(2, .int 1), (0, .ref 111), (1, .int (nI k))]) (st2 := [.int 0]) (w3 := w22) rfl rfl ?_
          refine sx_RP.ret (r := (some (.int 0))) rfl rfl ?_
          exact ⟨Or.inl rfl, hI23, hE24⟩
        · have hE24 := hE14.tr (hE25.ei)
          have ex27 := (congrArg (fun l => List.getD l 1 0) (ia_of (hE25.1 112 (by decide)))).trans ex17
          show sx_RP _ _ _ _ _ [.int 1] _ _
          refine sx_RP.step (pc2 := 55) (ls2 := [(2, .int 1), (0, .ref 111), (1, .int (nI k))]) (st2 := []) (w3 := w22) rfl rfl ?_
          refine sx_RP.step (pc2 := 56) (ls2 := [(2, .int 1), (0, .ref 111), (1, .int (nI k))]) (st2 := [.ref 111]) (w3 := w22) rfl rfl ?_
          refine sx_RP.gf (v := .int (fi w22 111 14)) rfl rfl hI23.1.o111 rfl rfl (show _ = 59 from rfl) ?_
          rw [ex21]
          refine sx_RP.step (pc2 := 60) (ls2 := [(3, .int (nI x18)), (2, .int 1), (0, .ref 111), (1, .int (nI k))]) (st2 := []) (w3 := w22) rfl rfl ?_
          refine sx_RP.step (pc2 := 61) (ls2 := [(3, .int (nI x18)), (2, .int 1), (0, .ref 111), (1, .int (nI k))]) (st2 := [.ref 111]) (w3 := w22) rfl rfl ?_
          refine sx_RP.step (pc2 := 64) (ls2 := [(3, .int (nI x18)), (2, .int 1), (0, .ref 111), (1, .int (nI k))]) (st2 := [.float 119, .ref 111]) (w3 := w22) rfl rfl ?_
          refine sx_RP.callp (as2 := [.ref 111, .float 119]) (rest2 := []) rfl rfl (sx_inv_v2 (mi := 227) (k := 282) (st := [.float 119, .ref 111]) (w := w22) rfl rfl hI23.1.o111 rfl rfl rfl) rfl rfl rfl (s228 (k := 119) hI23 (by decide) rfl (by decide)) (show _ = 67 from rfl) ?_
          rintro r4 w28 ⟨(rfl | rfl), hI29, hE31⟩
          · have hE30 := hE24.tr (hE31.ei)
            have ex32 := (congrArg (fun l => List.getD l 1 0) (ia_of (hE31.1 112 (by decide)))).trans ex27
            show sx_RP _ _ _ _ _ [.int 0] _ _
            refine sx_RP.step (pc2 := 79) (ls2 := [(3, .int (nI x18)), (2, .int 1), (0, .ref 111), (1, .int (nI k))]) (st2 := []) (w3 := w28) rfl rfl ?_
            refine sx_RP.step (pc2 := 80) (ls2 := [(3, .int (nI x18)), (2, .int 1), (0, .ref 111), (1, .int (nI k))]) (st2 := [.int 0]) (w3 := w28) rfl rfl ?_
            refine sx_RP.ret (r := (some (.int 0))) rfl rfl ?_
            exact ⟨Or.inl rfl, hI29, hE30⟩
          · have hE30 := hE24.tr (hE31.ei)
            have ex33 := (congrArg (fun l => List.getD l 1 0) (ia_of (hE31.1 112 (by decide)))).trans ex27
            show sx_RP _ _ _ _ _ [.int 1] _ _
            refine sx_RP.step (pc2 := 70) (ls2 := [(3, .int (nI x18)), (2, .int 1), (0, .ref 111), (1, .int (nI k))]) (st2 := []) (w3 := w28) rfl rfl ?_
            refine sx_RP.step (pc2 := 71) (ls2 := [(3, .int (nI x18)), (2, .int 1), (0, .ref 111), (1, .int (nI k))]) (st2 := [.ref 111]) (w3 := w28) rfl rfl ?_
            refine sx_RP.step (pc2 := 72) (ls2 := [(3, .int (nI x18)), (2, .int 1), (0, .ref 111), (1, .int (nI k))]) (st2 := [.int 0, .ref 111]) (w3 := w28) rfl rfl ?_
            refine sx_RP.step (pc2 := 73) (ls2 := [(3, .int (nI x18)), (2, .int 1), (0, .ref 111), (1, .int (nI k))]) (st2 := [.int 3, .int 0, .ref 111]) (w3 := w28) rfl rfl ?_
            refine sx_RP.callp (as2 := [.ref 111, .int 0, .int 3]) (rest2 := []) rfl rfl (sx_inv_v2 (mi := 227) (k := 267) (st := [.int 3, .int 0, .ref 111]) (w := w28) rfl rfl hI29.1.o111 rfl rfl rfl) rfl rfl rfl (s220 (m := 0) (n := 3) hI29 (by omega) (by omega)) (show _ = 76 from rfl) ?_
            rintro r4 w38 ⟨(rfl | ⟨x34, ⟨hx35, hx36, ex37⟩, rfl⟩), hI39, hE41⟩
            · have hE40 := hE30.tr (hE41.ei)
              have ex42 := (congrArg (fun l => List.getD l 1 0) (ia_of (hE41.1 112 (by decide)))).trans ex33
              show sx_RP _ _ _ _ _ [.int 0] _ _
              refine sx_RP.step (pc2 := 79) (ls2 := [(3, .int (nI x18)), (2, .int 1), (0, .ref 111), (1, .int (nI k))]) (st2 := []) (w3 := w38) rfl rfl ?_
              refine sx_RP.step (pc2 := 80) (ls2 := [(3, .int (nI x18)), (2, .int 1), (0, .ref 111), (1, .int (nI k))]) (st2 := [.int 0]) (w3 := w38) rfl rfl ?_
              refine sx_RP.ret (r := (some (.int 0))) rfl rfl ?_
              exact ⟨Or.inl rfl, hI39, hE40⟩
            · have hE40 := hE30.tr (hE41.ei)
              have ex43 := (congrArg (fun l => List.getD l 1 0) (ia_of (hE41.1 112 (by decide)))).trans ex33
              show sx_RP _ _ _ _ _ [.int 1] _ _
              refine sx_RP.step (pc2 := 81) (ls2 := [(3, .int (nI x18)), (2, .int 1), (0, .ref 111), (1, .int (nI k))]) (st2 := []) (w3 := w38) rfl rfl ?_
              refine sx_RP.step (pc2 := 82) (ls2 := [(3, .int (nI x18)), (2, .int 1), (0, .ref 111), (1, .int (nI k))]) (st2 := [.ref 111]) (w3 := w38) rfl rfl ?_
              refine sx_RP.step (pc2 := 83) (ls2 := [(3, .int (nI x18)), (2, .int 1), (0, .ref 111), (1, .int (nI k))]) (st2 := [.int (nI k), .ref 111]) (w3 := w38) rfl rfl ?_
              refine sx_RP.step (pc2 := 84) (ls2 := [(3, .int (nI x18)), (2, .int 1), (0, .ref 111), (1, .int (nI k))]) (st2 := [.int 1, .int (nI k), .ref 111]) (w3 := w38) rfl rfl ?_
              refine sx_RP.step (pc2 := 85) (ls2 := [(3, .int (nI x18)), (2, .int 1), (0, .ref 111), (1, .int (nI k))]) (st2 := [.int (nI x18), .int 1, .int (nI k), .ref 111]) (w3 := w38) rfl rfl ?_
              refine sx_RP.step (pc2 := 86) (ls2 := [(3, .int (nI x18)), (2, .int 1), (0, .ref 111), (1, .int (nI k))]) (st2 := [.ref 111, .int (nI x18), .int 1, .int (nI k), .ref 111]) (w3 := w38) rfl rfl ?_
              refine sx_RP.gf (v := .int (fi w38 111 14)) rfl rfl hI39.1.o111 rfl rfl (show _ = 89 from rfl) ?_
              rw [ex37]
              refine sx_RP.callp (as2 := [.ref 111, .int (nI k), .int 1, .int (nI x18), .int (nI x34)]) (rest2 := []) rfl rfl (sx_inv_v2 (mi := 227) (k := 120) (st := [.int (nI x34), .int (nI x18), .int 1, .int (nI k), .ref 111]) (w := w38) rfl rfl hI39.1.o111 rfl rfl rfl) rfl rfl rfl (s153i hI39 (by omega) ex43 (show k ≤ 5 by omega) (show 1 ≤ 1 by omega) (show x18 < 48 by omega) (show x34 ≤ 3 by omega)) (show _ = 92 from rfl) ?_
              rintro r4 w44 ⟨rfl, hI45, hE47⟩
              have hE46 := hE40.tr (hE47)
              show sx_RP _ _ _ _ _ [] _ _
              refine sx_RP.step (pc2 := 93) (ls2 := [(3, .int (nI x18)), (2, .int 1), (0, .ref 111), (1, .int (nI k))]) (st2 := [.int 1]) (w3 := w44) rfl rfl ?_
              refine sx_RP.ret (r := (some (.int 1))) rfl rfl ?_
              exact ⟨Or.inr rfl, hI45, hE46⟩
  · have hE3 := hE.tr (hE4.ei)
    have ex48 := (congrArg (fun l => List.getD l 1 0) (ia_of (hE4.1 112 (by decide)))).trans en
    show sx_RP _ _ _ _ _ [.int 1] _ _
    refine sx_RP.step (pc2 := 10) (ls2 := [(0, .ref 111), (1, .int (nI k))]) (st2 := []) (w3 := w1) rfl rfl ?_
    refine sx_RP.step (pc2 := 11) (ls2 := [(0, .ref 111), (1, .int (nI k))]) (st2 := [.int 0]) (w3 := w1) rfl rfl ?_
    refine sx_RP.step (pc2 := 15) (ls2 := [(0, .ref 111), (1, .int (nI k))]) (st2 := [.int 0]) (w3 := w1) rfl rfl ?_
    refine sx_RP.step (pc2 := 16) (ls2 := [(2, .int 0), (0, .ref 111), (1, .int (nI k))]) (st2 := []) (w3 := w1) rfl rfl ?_
    refine sx_RP.step (pc2 := 17) (ls2 := [(2, .int 0), (0, .ref 111), (1, .int (nI k))]) (st2 := [.int 0]) (w3 := w1) rfl rfl ?_
    refine sx_RP.step (pc2 := 18) (ls2 := [(2, .int 0), (0, .ref 111), (1, .int (nI k))]) (st2 := [.int 1, .int 0]) (w3 := w1) rfl rfl ?_
    refine sx_RP.step (pc2 := 33) (ls2 := [(2, .int 0), (0, .ref 111), (1, .int (nI k))]) (st2 := []) (w3 := w1) rfl rfl ?_
    refine sx_RP.step (pc2 := 34) (ls2 := [(2, .int 0), (0, .ref 111), (1, .int (nI k))]) (st2 := [.ref 111]) (w3 := w1) rfl rfl ?_
    refine sx_RP.step (pc2 := 37) (ls2 := [(2, .int 0), (0, .ref 111), (1, .int (nI k))]) (st2 := [.float 100, .ref 111]) (w3 := w1) rfl rfl ?_
    refine sx_RP.callp (as2 := [.ref 111, .float 100]) (rest2 := []) rfl rfl (sx_inv_v2 (mi := 227) (k := 282) (st := [.float 100, .ref 111]) (w := w1) rfl rfl hI2.1.o111 rfl rfl rfl) rfl rfl rfl (s228 (k := 100) hI2 (by decide) rfl (by decide)) (show _ = 40 from rfl) ?_
    rintro r4 w49 ⟨(rfl | rfl), hI50, hE52⟩
    · have hE51 := hE3.tr (hE52.ei)
      have ex53 := (congrArg (fun l => List.getD l 1 0) (ia_of (hE52.1 112 (by decide)))).trans ex48
      show sx_RP _ _ _ _ _ [.int 0] _ _
      refine sx_RP.step (pc2 := 53) (ls2 := [(2, .int 0), (0, .ref 111), (1, .int (nI k))]) (st2 := []) (w3 := w49) rfl rfl ?_
      refine sx_RP.step (pc2 := 54) (ls2 := [(2, .int 0), (0, .ref 111), (1, .int (nI k))]) (st2 := [.int 0]) (w3 := w49) rfl rfl ?_
      refine sx_RP.ret (r := (some (.int 0))) rfl rfl ?_
      exact ⟨Or.inl rfl, hI50, hE51⟩
    · have hE51 := hE3.tr (hE52.ei)
      have ex54 := (congrArg (fun l => List.getD l 1 0) (ia_of (hE52.1 112 (by decide)))).trans ex48
      show sx_RP _ _ _ _ _ [.int 1] _ _
      refine sx_RP.step (pc2 := 43) (ls2 := [(2, .int 0), (0, .ref 111), (1, .int (nI k))]) (st2 := []) (w3 := w49) rfl rfl ?_
      refine sx_RP.step (pc2 := 44) (ls2 := [(2, .int 0), (0, .ref 111), (1, .int (nI k))]) (st2 := [.ref 111]) (w3 := w49) rfl rfl ?_
      refine sx_RP.step (pc2 := 45) (ls2 := [(2, .int 0), (0, .ref 111), (1, .int (nI k))]) (st2 := [.int 0, .ref 111]) (w3 := w49) rfl rfl ?_
      refine sx_RP.step (pc2 := 47) (ls2 := [(2, .int 0), (0, .ref 111), (1, .int (nI k))]) (st2 := [.int 47, .int 0, .ref 111]) (w3 := w49) rfl rfl ?_
      refine sx_RP.callp (as2 := [.ref 111, .int 0, .int 47]) (rest2 := []) rfl rfl (sx_inv_v2 (mi := 227) (k := 267) (st := [.int 47, .int 0, .ref 111]) (w := w49) rfl rfl hI50.1.o111 rfl rfl rfl) rfl rfl rfl (s220 (m := 0) (n := 47) hI50 (by omega) (by omega)) (show _ = 50 from rfl) ?_
      rintro r4 w59 ⟨(rfl | ⟨x55, ⟨hx56, hx57, ex58⟩, rfl⟩), hI60, hE62⟩
      · have hE61 := hE51.tr (hE62.ei)
        have ex63 := (congrArg (fun l => List.getD l 1 0) (ia_of (hE62.1 112 (by decide)))).trans ex54
        show sx_RP _ _ _ _ _ [.int 0] _ _
        refine sx_RP.step (pc2 := 53) (ls2 := [(2, .int 0), (0, .ref 111), (1, .int (nI k))]) (st2 := []) (w3 := w59) rfl rfl ?_
        refine sx_RP.step (pc2 := 54) (ls2 := [(2, .int 0), (0, .ref 111), (1, .int (nI k))]) (st2 := [.int 0]) (w3 := w59) rfl rfl ?_
        refine sx_RP.ret (r := (some (.int 0))) rfl rfl ?_
        exact ⟨Or.inl rfl, hI60, hE61⟩
      · have hE61 := hE51.tr (hE62.ei)
        have ex64 := (congrArg (fun l => List.getD l 1 0) (ia_of (hE62.1 112 (by decide)))).trans ex54
        show sx_RP _ _ _ _ _ [.int 1] _ _
        refine sx_RP.step (pc2 := 55) (ls2 := [(2, .int 0), (0, .ref 111), (1, .int (nI k))]) (st2 := []) (w3 := w59) rfl rfl ?_
        refine sx_RP.step (pc2 := 56) (ls2 := [(2, .int 0), (0, .ref 111), (1, .int (nI k))]) (st2 := [.ref 111]) (w3 := w59) rfl rfl ?_
        refine sx_RP.gf (v := .int (fi w59 111 14)) rfl rfl hI60.1.o111 rfl rfl (show _ = 59 from rfl) ?_
        rw [ex58]
        refine sx_RP.step (pc2 := 60) (ls2 := [(3, .int (nI x55)), (2, .int 0), (0, .ref 111), (1, .int (nI k))]) (st2 := []) (w3 := w59) rfl rfl ?_
        refine sx_RP.step (pc2 := 61) (ls2 := [(3, .int (nI x55)), (2, .int 0), (0, .ref 111), (1, .int (nI k))]) (st2 := [.ref 111]) (w3 := w59) rfl rfl ?_
        refine sx_RP.step (pc2 := 64) (ls2 := [(3, .int (nI x55)), (2, .int 0), (0, .ref 111), (1, .int (nI k))]) (st2 := [.float 119, .ref 111]) (w3 := w59) rfl rfl ?_
        refine sx_RP.callp (as2 := [.ref 111, .float 119]) (rest2 := []) rfl rfl (sx_inv_v2 (mi := 227) (k := 282) (st := [.float 119, .ref 111]) (w := w59) rfl rfl hI60.1.o111 rfl rfl rfl) rfl rfl rfl (s228 (k := 119) hI60 (by decide) rfl (by decide)) (show _ = 67 from rfl) ?_
        rintro r4 w65 ⟨(rfl | rfl), hI66, hE68⟩
        · have hE67 := hE61.tr (hE68.ei)
          have ex69 := (congrArg (fun l => List.getD l 1 0) (ia_of (hE68.1 112 (by decide)))).trans ex64
          show sx_RP _ _ _ _ _ [.int 0] _ _
          refine sx_RP.step (pc2 := 79) (ls2 := [(3, .int (nI x55)), (2, .int 0), (0, .ref 111), (1, .int (nI k))]) (st2 := []) (w3 := w65) rfl rfl ?_
          refine sx_RP.step (pc2 := 80) (ls2 := [(3, .int (nI x55)), (2, .int 0), (0, .ref 111), (1, .int (nI k))]) (st2 := [.int 0]) (w3 := w65) rfl rfl ?_
          refine sx_RP.ret (r := (some (.int 0))) rfl rfl ?_
          exact ⟨Or.inl rfl, hI66, hE67⟩
        · have hE67 := hE61.tr (hE68.ei)
          have ex70 := (congrArg (fun l => List.getD l 1 0) (ia_of (hE68.1 112 (by decide)))).trans ex64
          show sx_RP _ _ _ _ _ [.int 1] _ _
          refine sx_RP.step (pc2 := 70) (ls2 := [(3, .int (nI x55)), (2, .int 0), (0, .ref 111), (1, .int (nI k))]) (st2 := []) (w3 := w65) rfl rfl ?_
          refine sx_RP.step (pc2 := 71) (ls2 := [(3, .int (nI x55)), (2, .int 0), (0, .ref 111), (1, .int (nI k))]) (st2 := [.ref 111]) (w3 := w65) rfl rfl ?_
          refine sx_RP.step (pc2 := 72) (ls2 := [(3, .int (nI x55)), (2, .int 0), (0, .ref 111), (1, .int (nI k))]) (st2 := [.int 0, .ref 111]) (w3 := w65) rfl rfl ?_
          refine sx_RP.step (pc2 := 73) (ls2 := [(3, .int (nI x55)), (2, .int 0), (0, .ref 111), (1, .int (nI k))]) (st2 := [.int 3, .int 0, .ref 111]) (w3 := w65) rfl rfl ?_
          refine sx_RP.callp (as2 := [.ref 111, .int 0, .int 3]) (rest2 := []) rfl rfl (sx_inv_v2 (mi := 227) (k := 267) (st := [.int 3, .int 0, .ref 111]) (w := w65) rfl rfl hI66.1.o111 rfl rfl rfl) rfl rfl rfl (s220 (m := 0) (n := 3) hI66 (by omega) (by omega)) (show _ = 76 from rfl) ?_
          rintro r4 w75 ⟨(rfl | ⟨x71, ⟨hx72, hx73, ex74⟩, rfl⟩), hI76, hE78⟩
          · have hE77 := hE67.tr (hE78.ei)
            have ex79 := (congrArg (fun l => List.getD l 1 0) (ia_of (hE78.1 112 (by decide)))).trans ex70
            show sx_RP _ _ _ _ _ [.int 0] _ _
            refine sx_RP.step (pc2 := 79) (ls2 := [(3, .int (nI x55)), (2, .int 0), (0, .ref 111), (1, .int (nI k))]) (st2 := []) (w3 := w75) rfl rfl ?_
            refine sx_RP.step (pc2 := 80) (ls2 := [(3, .int (nI x55)), (2, .int 0), (0, .ref 111), (1, .int (nI k))]) (st2 := [.int 0]) (w3 := w75) rfl rfl ?_
            refine sx_RP.ret (r := (some (.int 0))) rfl rfl ?_
            exact ⟨Or.inl rfl, hI76, hE77⟩
          · have hE77 := hE67.tr (hE78.ei)
            have ex80 := (congrArg (fun l => List.getD l 1 0) (ia_of (hE78.1 112 (by decide)))).trans ex70
            show sx_RP _ _ _ _ _ [.int 1] _ _
            refine sx_RP.step (pc2 := 81) (ls2 := [(3, .int (nI x55)), (2, .int 0), (0, .ref 111), (1, .int (nI k))]) (st2 := []) (w3 := w75) rfl rfl ?_
            refine sx_RP.step (pc2 := 82) (ls2 := [(3, .int (nI x55)), (2, .int 0), (0, .ref 111), (1, .int (nI k))]) (st2 := [.ref 111]) (w3 := w75) rfl rfl ?_
            refine sx_RP.step (pc2 := 83) (ls2 := [(3, .int (nI x55)), (2, .int 0), (0, .ref 111), (1, .int (nI k))]) (st2 := [.int (nI k), .ref 111]) (w3 := w75) rfl rfl ?_
            refine sx_RP.step (pc2 := 84) (ls2 := [(3, .int (nI x55)), (2, .int 0), (0, .ref 111), (1, .int (nI k))]) (st2 := [.int 0, .int (nI k), .ref 111]) (w3 := w75) rfl rfl ?_
            refine sx_RP.step (pc2 := 85) (ls2 := [(3, .int (nI x55)), (2, .int 0), (0, .ref 111), (1, .int (nI k))]) (st2 := [.int (nI x55), .int 0, .int (nI k), .ref 111]) (w3 := w75) rfl rfl ?_
            refine sx_RP.step (pc2 := 86) (ls2 := [(3, .int (nI x55)), (2, .int 0), (0, .ref 111), (1, .int (nI k))]) (st2 := [.ref 111, .int (nI x55), .int 0, .int (nI k), .ref 111]) (w3 := w75) rfl rfl ?_
            refine sx_RP.gf (v := .int (fi w75 111 14)) rfl rfl hI76.1.o111 rfl rfl (show _ = 89 from rfl) ?_
            rw [ex74]
            refine sx_RP.callp (as2 := [.ref 111, .int (nI k), .int 0, .int (nI x55), .int (nI x71)]) (rest2 := []) rfl rfl (sx_inv_v2 (mi := 227) (k := 120) (st := [.int (nI x71), .int (nI x55), .int 0, .int (nI k), .ref 111]) (w := w75) rfl rfl hI76.1.o111 rfl rfl rfl) rfl rfl rfl (s153i hI76 (by omega) ex80 (show k ≤ 5 by omega) (show 0 ≤ 1 by omega) (show x55 < 48 by omega) (show x71 ≤ 3 by omega)) (show _ = 92 from rfl) ?_
            rintro r4 w81 ⟨rfl, hI82, hE84⟩
            have hE83 := hE77.tr (hE84)
            show sx_RP _ _ _ _ _ [] _ _
            refine sx_RP.step (pc2 := 93) (ls2 := [(3, .int (nI x55)), (2, .int 0), (0, .ref 111), (1, .int (nI k))]) (st2 := [.int 1]) (w3 := w81) rfl rfl ?_
            refine sx_RP.ret (r := (some (.int 1))) rfl rfl ?_
            exact ⟨Or.inr rfl, hI82, hE83⟩
set_option maxRecDepth 20000 in
set_option maxHeartbeats 4000000 in
theorem s229 {xs : Option (List Int32)} {d : Nat} {w : List sx_C} (hI : WI w) : sx_RP xs (d + 5) 229 0 (lv_args 0 [.ref 111]) [] w (fun r w2 => (r = some (.int 0) ∨ r = some (.int 1)) ∧ WI w2 ∧ EI w w2) := by
  have hE : EI w w := EI.rf
  refine sx_RP.step (pc2 := 1) (ls2 := [(0, .ref 111)]) (st2 := [.ref 111]) (w3 := w) rfl rfl ?_
  refine sx_RP.step (pc2 := 2) (ls2 := [(0, .ref 111)]) (st2 := [.int 0, .ref 111]) (w3 := w) rfl rfl ?_
  refine sx_RP.step (pc2 := 4) (ls2 := [(0, .ref 111)]) (st2 := [.int 999999, .int 0, .ref 111]) (w3 := w) rfl rfl ?_
  refine sx_RP.callp (as2 := [.ref 111, .int 0, .int 999999]) (rest2 := []) rfl rfl (sx_inv_v2 (mi := 229) (k := 267) (st := [.int 999999, .int 0, .ref 111]) (w := w) rfl rfl hI.1.o111 rfl rfl rfl) rfl rfl rfl (s220 (m := 0) (n := 999999) hI (by omega) (by omega)) (show _ = 7 from rfl) ?_
  rintro r4 w5 ⟨(rfl | ⟨x1, ⟨hx2, hx3, ex4⟩, rfl⟩), hI6, hE8⟩
  · have hE7 := hE.tr (hE8.ei)
    show sx_RP _ _ _ _ _ [.int 0] _ _
    refine sx_RP.step (pc2 := 10) (ls2 := [(0, .ref 111)]) (st2 := []) (w3 := w5) rfl rfl ?_
    refine sx_RP.step (pc2 := 11) (ls2 := [(0, .ref 111)]) (st2 := [.int 0]) (w3 := w5) rfl rfl ?_
    refine sx_RP.ret (r := (some (.int 0))) rfl rfl ?_
    exact ⟨Or.inl rfl, hI6, hE7⟩
  · have hE7 := hE.tr (hE8.ei)
    show sx_RP _ _ _ _ _ [.int 1] _ _
    refine sx_RP.step (pc2 := 12) (ls2 := [(0, .ref 111)]) (st2 := []) (w3 := w5) rfl rfl ?_
    refine sx_RP.step (pc2 := 13) (ls2 := [(0, .ref 111)]) (st2 := [.ref 111]) (w3 := w5) rfl rfl ?_
    refine sx_RP.gf (v := .ref 112) rfl rfl hI6.1.o111 rfl rfl (show _ = 16 from rfl) ?_
    refine sx_RP.step (pc2 := 17) (ls2 := [(0, .ref 111)]) (st2 := [.int 4, .ref 112]) (w3 := w5) rfl rfl ?_
    refine sx_RP.step (pc2 := 18) (ls2 := [(0, .ref 111)]) (st2 := [.ref 111, .int 4, .ref 112]) (w3 := w5) rfl rfl ?_
    refine sx_RP.gf (v := .int (fi w5 111 14)) rfl rfl hI6.1.o111 rfl rfl (show _ = 21 from rfl) ?_
    rw [ex4]
    refine sx_RP.mSI (k := 4) hI6 hE7 (by decide) rfl rfl (by omega) (eOK_n (by decide)) (show _ = 22 from rfl) (fun w9 hI10 hE11 hk12 => ?_)
    refine sx_RP.step (pc2 := 23) (ls2 := [(0, .ref 111)]) (st2 := [.ref 111]) (w3 := w9) rfl rfl ?_
    refine sx_RP.step (pc2 := 26) (ls2 := [(0, .ref 111)]) (st2 := [.float 108, .ref 111]) (w3 := w9) rfl rfl ?_
    refine sx_RP.callp (as2 := [.ref 111, .float 108]) (rest2 := []) rfl rfl (sx_inv_v2 (mi := 229) (k := 243) (st := [.float 108, .ref 111]) (w := w9) rfl rfl hI10.1.o111 rfl rfl rfl) rfl rfl rfl (s213 (k := 108) hI10 (by decide) rfl (by decide)) (show _ = 29 from rfl) ?_
    rintro r4 w13 ⟨(rfl | rfl), hI14, hE16⟩
    · have hE15 := hE11.tr (hE16.ei)
      show sx_RP _ _ _ _ _ [.int 0] _ _
      refine sx_RP.step (pc2 := 55) (ls2 := [(0, .ref 111)]) (st2 := []) (w3 := w13) rfl rfl ?_
      refine sx_RP.step (pc2 := 56) (ls2 := [(0, .ref 111)]) (st2 := [.ref 111]) (w3 := w13) rfl rfl ?_
      refine sx_RP.step (pc2 := 59) (ls2 := [(0, .ref 111)]) (st2 := [.float 111, .ref 111]) (w3 := w13) rfl rfl ?_
      refine sx_RP.callp (as2 := [.ref 111, .float 111]) (rest2 := []) rfl rfl (sx_inv_v2 (mi := 229) (k := 243) (st := [.float 111, .ref 111]) (w := w13) rfl rfl hI14.1.o111 rfl rfl rfl) rfl rfl rfl (s213 (k := 111) hI14 (by decide) rfl (by decide)) (show _ = 62 from rfl) ?_
      rintro r4 w17 ⟨(rfl | rfl), hI18, hE20⟩
      · have hE19 := hE15.tr (hE20.ei)
        show sx_RP _ _ _ _ _ [.int 0] _ _
        refine sx_RP.step (pc2 := 88) (ls2 := [(0, .ref 111)]) (st2 := []) (w3 := w17) rfl rfl ?_
        refine sx_RP.step (pc2 := 89) (ls2 := [(0, .ref 111)]) (st2 := [.int 1]) (w3 := w17) rfl rfl ?_
        refine sx_RP.ret (r := (some (.int 1))) rfl rfl ?_
        exact ⟨Or.inr rfl, hI18, hE19⟩
      · have hE19 := hE15.tr (hE20.ei)
        show sx_RP _ _ _ _ _ [.int 1] _ _
        refine sx_RP.step (pc2 := 65) (ls2 := [(0, .ref 111)]) (st2 := []) (w3 := w17) rfl rfl ?_
        refine sx_RP.step (pc2 := 66) (ls2 := [(0, .ref 111)]) (st2 := [.ref 111]) (w3 := w17) rfl rfl ?_
        refine sx_RP.step (pc2 := 67) (ls2 := [(0, .ref 111)]) (st2 := [.int 1, .ref 111]) (w3 := w17) rfl rfl ?_
        refine sx_RP.step (pc2 := 69) (ls2 := [(0, .ref 111)]) (st2 := [.int 99, .int 1, .ref 111]) (w3 := w17) rfl rfl ?_
        refine sx_RP.callp (as2 := [.ref 111, .int 1, .int 99]) (rest2 := []) rfl rfl (sx_inv_v2 (mi := 229) (k := 267) (st := [.int 99, .int 1, .ref 111]) (w := w17) rfl rfl hI18.1.o111 rfl rfl rfl) rfl rfl rfl (s220 (m := 1) (n := 99) hI18 (by omega) (by omega)) (show _ = 72 from rfl) ?_
        rintro r4 w25 ⟨(rfl | ⟨x21, ⟨hx22, hx23, ex24⟩, rfl⟩), hI26, hE28⟩
        · have hE27 := hE19.tr (hE28.ei)
          show sx_RP _ _ _ _ _ [.int 0] _ _
          refine sx_RP.step (pc2 := 75) (ls2 := [(0, .ref 111)]) (st2 := []) (w3 := w25) rfl rfl ?_
          refine sx_RP.step (pc2 := 76) (ls2 := [(0, .ref 111)]) (st2 := [.int 0]) (w3 := w25) rfl rfl ?_
          refine sx_RP.ret (r := (some (.int 0))) rfl rfl ?_
          exact ⟨Or.inl rfl, hI26, hE27⟩
        · have hE27 := hE19.tr (hE28.ei)
          show sx_RP _ _ _ _ _ [.int 1] _ _
          refine sx_RP.step (pc2 := 77) (ls2 := [(0, .ref 111)]) (st2 := []) (w3 := w25) rfl rfl ?_
          refine sx_RP.step (pc2 := 78) (ls2 := [(0, .ref 111)]) (st2 := [.ref 111]) (w3 := w25) rfl rfl ?_
          refine sx_RP.gf (v := .ref 112) rfl rfl hI26.1.o111 rfl rfl (show _ = 81 from rfl) ?_
          refine sx_RP.step (pc2 := 83) (ls2 := [(0, .ref 111)]) (st2 := [.int 6, .ref 112]) (w3 := w25) rfl rfl ?_
          refine sx_RP.step (pc2 := 84) (ls2 := [(0, .ref 111)]) (st2 := [.ref 111, .int 6, .ref 112]) (w3 := w25) rfl rfl ?_
          refine sx_RP.gf (v := .int (fi w25 111 14)) rfl rfl hI26.1.o111 rfl rfl (show _ = 87 from rfl) ?_
          rw [ex24]
          refine sx_RP.mSI (k := 6) hI26 hE27 (by decide) rfl rfl (by omega) (eOK_n (by decide)) (show _ = 88 from rfl) (fun w29 hI30 hE31 hk32 => ?_)
          refine sx_RP.step (pc2 := 89) (ls2 := [(0, .ref 111)]) (st2 := [.int 1]) (w3 := w29) rfl rfl ?_
          refine sx_RP.ret (r := (some (.int 1))) rfl rfl ?_
          exact ⟨Or.inr rfl, hI30, hE31⟩
    · have hE15 := hE11.tr (hE16.ei)
      show sx_RP _ _ _ _ _ [.int 1] _ _
      refine sx_RP.step (pc2 := 32) (ls2 := [(0, .ref 111)]) (st2 := []) (w3 := w13) rfl rfl ?_
      refine sx_RP.step (pc2 := 33) (ls2 := [(0, .ref 111)]) (st2 := [.ref 111]) (w3 := w13) rfl rfl ?_
      refine sx_RP.step (pc2 := 34) (ls2 := [(0, .ref 111)]) (st2 := [.int 1, .ref 111]) (w3 := w13) rfl rfl ?_
      refine sx_RP.step (pc2 := 37) (ls2 := [(0, .ref 111)]) (st2 := [.int 999, .int 1, .ref 111]) (w3 := w13) rfl rfl ?_
      refine sx_RP.callp (as2 := [.ref 111, .int 1, .int 999]) (rest2 := []) rfl rfl (sx_inv_v2 (mi := 229) (k := 267) (st := [.int 999, .int 1, .ref 111]) (w := w13) rfl rfl hI14.1.o111 rfl rfl rfl) rfl rfl rfl (s220 (m := 1) (n := 999) hI14 (by omega) (by omega)) (show _ = 40 from rfl) ?_
      rintro r4 w37 ⟨(rfl | ⟨x33, ⟨hx34, hx35, ex36⟩, rfl⟩), hI38, hE40⟩
      · have hE39 := hE15.tr (hE40.ei)
        show sx_RP _ _ _ _ _ [.int 0] _ _
        refine sx_RP.step (pc2 := 43) (ls2 := [(0, .ref 111)]) (st2 := []) (w3 := w37) rfl rfl ?_
        refine sx_RP.step (pc2 := 44) (ls2 := [(0, .ref 111)]) (st2 := [.int 0]) (w3 := w37) rfl rfl ?_
        refine sx_RP.ret (r := (some (.int 0))) rfl rfl ?_
        exact ⟨Or.inl rfl, hI38, hE39⟩
      · have hE39 := hE15.tr (hE40.ei)
        show sx_RP _ _ _ _ _ [.int 1] _ _
        refine sx_RP.step (pc2 := 45) (ls2 := [(0, .ref 111)]) (st2 := []) (w3 := w37) rfl rfl ?_
        refine sx_RP.step (pc2 := 46) (ls2 := [(0, .ref 111)]) (st2 := [.ref 111]) (w3 := w37) rfl rfl ?_
        refine sx_RP.gf (v := .ref 112) rfl rfl hI38.1.o111 rfl rfl (show _ = 49 from rfl) ?_
        refine sx_RP.step (pc2 := 50) (ls2 := [(0, .ref 111)]) (st2 := [.int 5, .ref 112]) (w3 := w37) rfl rfl ?_
        refine sx_RP.step (pc2 := 51) (ls2 := [(0, .ref 111)]) (st2 := [.ref 111, .int 5, .ref 112]) (w3 := w37) rfl rfl ?_
        refine sx_RP.gf (v := .int (fi w37 111 14)) rfl rfl hI38.1.o111 rfl rfl (show _ = 54 from rfl) ?_
        rw [ex36]
        refine sx_RP.mSI (k := 5) hI38 hE39 (by decide) rfl rfl (by omega) (eOK_n (by decide)) (show _ = 55 from rfl) (fun w41 hI42 hE43 hk44 => ?_)
        refine sx_RP.step (pc2 := 56) (ls2 := [(0, .ref 111)]) (st2 := [.ref 111]) (w3 := w41) rfl rfl ?_
        refine sx_RP.step (pc2 := 59) (ls2 := [(0, .ref 111)]) (st2 := [.float 111, .ref 111]) (w3 := w41) rfl rfl ?_
        refine sx_RP.callp (as2 := [.ref 111, .float 111]) (rest2 := []) rfl rfl (sx_inv_v2 (mi := 229) (k := 243) (st := [.float 111, .ref 111]) (w := w41) rfl rfl hI42.1.o111 rfl rfl rfl) rfl rfl rfl (s213 (k := 111) hI42 (by decide) rfl (by decide)) (show _ = 62 from rfl) ?_
        rintro r4 w45 ⟨(rfl | rfl), hI46, hE48⟩
        · have hE47 := hE43.tr (hE48.ei)
          show sx_RP _ _ _ _ _ [.int 0] _ _
          refine sx_RP.step (pc2 := 88) (ls2 := [(0, .ref 111)]) (st2 := []) (w3 := w45) rfl rfl ?_
          refine sx_RP.step (pc2 := 89) (ls2 := [(0, .ref 111)]) (st2 := [.int 1]) (w3 := w45) rfl rfl ?_
          refine sx_RP.ret (r := (some (.int 1))) rfl rfl ?_
          exact ⟨Or.inr rfl, hI46, hE47⟩
        · have hE47 := hE43.tr (hE48.ei)
          show sx_RP _ _ _ _ _ [.int 1] _ _
          refine sx_RP.step (pc2 := 65) (ls2 := [(0, .ref 111)]) (st2 := []) (w3 := w45) rfl rfl ?_
          refine sx_RP.step (pc2 := 66) (ls2 := [(0, .ref 111)]) (st2 := [.ref 111]) (w3 := w45) rfl rfl ?_
          refine sx_RP.step (pc2 := 67) (ls2 := [(0, .ref 111)]) (st2 := [.int 1, .ref 111]) (w3 := w45) rfl rfl ?_
          refine sx_RP.step (pc2 := 69) (ls2 := [(0, .ref 111)]) (st2 := [.int 99, .int 1, .ref 111]) (w3 := w45) rfl rfl ?_
          refine sx_RP.callp (as2 := [.ref 111, .int 1, .int 99]) (rest2 := []) rfl rfl (sx_inv_v2 (mi := 229) (k := 267) (st := [.int 99, .int 1, .ref 111]) (w := w45) rfl rfl hI46.1.o111 rfl rfl rfl) rfl rfl rfl (s220 (m := 1) (n := 99) hI46 (by omega) (by omega)) (show _ = 72 from rfl) ?_
          rintro r4 w53 ⟨(rfl | ⟨x49, ⟨hx50, hx51, ex52⟩, rfl⟩), hI54, hE56⟩
          · have hE55 := hE47.tr (hE56.ei)
            show sx_RP _ _ _ _ _ [.int 0] _ _
            refine sx_RP.step (pc2 := 75) (ls2 := [(0, .ref 111)]) (st2 := []) (w3 := w53) rfl rfl ?_
            refine sx_RP.step (pc2 := 76) (ls2 := [(0, .ref 111)]) (st2 := [.int 0]) (w3 := w53) rfl rfl ?_
            refine sx_RP.ret (r := (some (.int 0))) rfl rfl ?_
            exact ⟨Or.inl rfl, hI54, hE55⟩
          · have hE55 := hE47.tr (hE56.ei)
            show sx_RP _ _ _ _ _ [.int 1] _ _
            refine sx_RP.step (pc2 := 77) (ls2 := [(0, .ref 111)]) (st2 := []) (w3 := w53) rfl rfl ?_
            refine sx_RP.step (pc2 := 78) (ls2 := [(0, .ref 111)]) (st2 := [.ref 111]) (w3 := w53) rfl rfl ?_
            refine sx_RP.gf (v := .ref 112) rfl rfl hI54.1.o111 rfl rfl (show _ = 81 from rfl) ?_
            refine sx_RP.step (pc2 := 83) (ls2 := [(0, .ref 111)]) (st2 := [.int 6, .ref 112]) (w3 := w53) rfl rfl ?_
            refine sx_RP.step (pc2 := 84) (ls2 := [(0, .ref 111)]) (st2 := [.ref 111, .int 6, .ref 112]) (w3 := w53) rfl rfl ?_
            refine sx_RP.gf (v := .int (fi w53 111 14)) rfl rfl hI54.1.o111 rfl rfl (show _ = 87 from rfl) ?_
            rw [ex52]
            refine sx_RP.mSI (k := 6) hI54 hE55 (by decide) rfl rfl (by omega) (eOK_n (by decide)) (show _ = 88 from rfl) (fun w57 hI58 hE59 hk60 => ?_)
            refine sx_RP.step (pc2 := 89) (ls2 := [(0, .ref 111)]) (st2 := [.int 1]) (w3 := w57) rfl rfl ?_
            refine sx_RP.ret (r := (some (.int 1))) rfl rfl ?_
            exact ⟨Or.inr rfl, hI58, hE59⟩
set_option maxRecDepth 20000 in
set_option maxHeartbeats 4000000 in
theorem i211a0 {xs : Option (List Int32)} {d : Nat} {w w0 : List sx_C} (hI : WI w) (hE : EI w0 w) (kk : ∀ w2, WI w2 → EI w0 w2 → sx_RP xs (d + 7) 211 2 [(0, .ref 111), (1, .int 1)] [] w2 (fun r w2 => (r = some (.int 0) ∨ r = some (.int 1)) ∧ WI w2 ∧ EI w0 w2)) : sx_RP xs (d + 7) 211 2 [(0, .ref 111), (1, .int 0)] [] w (fun r w2 => (r = some (.int 0) ∨ r = some (.int 1)) ∧ WI w2 ∧ EI w0 w2) := by
  refine sx_RP.step (pc2 := 3) (ls2 := [(0, .ref 111), (1, .int 0)]) (st2 := [.int 0]) (w3 := w) rfl rfl ?_
  refine sx_RP.step (pc2 := 4) (ls2 := [(0, .ref 111), (1, .int 0)]) (st2 := [.int 5, .int 0]) (w3 := w) rfl rfl ?_
  refine sx_RP.step (pc2 := 7) (ls2 := [(0, .ref 111), (1, .int 0)]) (st2 := []) (w3 := w) rfl rfl ?_
  refine sx_RP.step (pc2 := 8) (ls2 := [(0, .ref 111), (1, .int 0)]) (st2 := [.ref 111]) (w3 := w) rfl rfl ?_
  refine sx_RP.step (pc2 := 9) (ls2 := [(0, .ref 111), (1, .int 0)]) (st2 := [.int 0, .ref 111]) (w3 := w) rfl rfl ?_
  refine sx_RP.cu (as := [.int 0]) (rest2 := [.ref 111]) (st3 := [.float 102, .ref 111]) rfl rfl rfl rfl rfl (p212_0) rfl ?_
  refine sx_RP.callp (as2 := [.ref 111, .float 102]) (rest2 := []) rfl rfl (sx_inv_v2 (mi := 211) (k := 243) (st := [.float 102, .ref 111]) (w := w) rfl rfl hI.1.o111 rfl rfl rfl) rfl rfl rfl (s213 (k := 102) hI (by decide) rfl (by decide)) (show _ = 15 from rfl) ?_
  rintro r4 w1 ⟨(rfl | rfl), hI2, hE4⟩
  · have hE3 := hE.tr (hE4.ei)
    show sx_RP _ _ _ _ _ [.int 0] _ _
    refine sx_RP.step (pc2 := 24) (ls2 := [(0, .ref 111), (1, .int 0)]) (st2 := []) (w3 := w1) rfl rfl ?_
    refine sx_RP.step (pc2 := 27) (ls2 := [(1, .int 1), (0, .ref 111)]) (st2 := []) (w3 := w1) rfl rfl ?_
    refine sx_RP.step (pc2 := 2) (ls2 := [(1, .int 1), (0, .ref 111)]) (st2 := []) (w3 := w1) rfl rfl ?_
    exact sx_RP.ls (sx_lr.cons rfl (sx_lr.cons rfl sx_lr.nil)) (kk w1 hI2 hE3)
  · have hE3 := hE.tr (hE4.ei)
    show sx_RP _ _ _ _ _ [.int 1] _ _
    refine sx_RP.step (pc2 := 18) (ls2 := [(0, .ref 111), (1, .int 0)]) (st2 := []) (w3 := w1) rfl rfl ?_
    refine sx_RP.step (pc2 := 19) (ls2 := [(0, .ref 111), (1, .int 0)]) (st2 := [.ref 111]) (w3 := w1) rfl rfl ?_
    refine sx_RP.step (pc2 := 20) (ls2 := [(0, .ref 111), (1, .int 0)]) (st2 := [.int 0, .ref 111]) (w3 := w1) rfl rfl ?_
    refine sx_RP.callp (as2 := [.ref 111, .int 0]) (rest2 := []) rfl rfl (sx_inv_v2 (mi := 211) (k := 318) (st := [.int 0, .ref 111]) (w := w1) rfl rfl hI2.1.o111 rfl rfl rfl) rfl rfl rfl (s219 hI2 (k := 0) (by omega)) (show _ = 23 from rfl) ?_
    rintro r4 w5 ⟨(rfl | rfl), hI6, hE8⟩
    · have hE7 := hE3.tr (hE8)
      show sx_RP _ _ _ _ _ [.int 0] _ _
      refine sx_RP.ret (r := (some (.int 0))) rfl rfl ?_
      exact ⟨Or.inl rfl, hI6, hE7⟩
    · have hE7 := hE3.tr (hE8)
      show sx_RP _ _ _ _ _ [.int 1] _ _
      refine sx_RP.ret (r := (some (.int 1))) rfl rfl ?_
      exact ⟨Or.inr rfl, hI6, hE7⟩
set_option maxRecDepth 20000 in
set_option maxHeartbeats 4000000 in
theorem i211a1 {xs : Option (List Int32)} {d : Nat} {w w0 : List sx_C} (hI : WI w) (hE : EI w0 w) (kk : ∀ w2, WI w2 → EI w0 w2 → sx_RP xs (d + 7) 211 2 [(0, .ref 111), (1, .int 2)] [] w2 (fun r w2 => (r = some (.int 0) ∨ r = some (.int 1)) ∧ WI w2 ∧ EI w0 w2)) : sx_RP xs (d + 7) 211 2 [(0, .ref 111), (1, .int 1)] [] w (fun r w2 => (r = some (.int 0) ∨ r = some (.int 1)) ∧ WI w2 ∧ EI w0 w2) := by
  refine sx_RP.step (pc2 := 3) (ls2 := [(0, .ref 111), (1, .int 1)]) (st2 := [.int 1]) (w3 := w) rfl rfl ?_
  refine sx_RP.step (pc2 := 4) (ls2 := [(0, .ref 111), (1, .int 1)]) (st2 := [.int 5, .int 1]) (w3 := w) rfl rfl ?_
  refine sx_RP.step (pc2 := 7) (ls2 := [(0, .ref 111), (1, .int 1)]) (st2 := []) (w3 := w) rfl rfl ?_
  refine sx_RP.step (pc2 := 8) (ls2 := [(0, .ref 111), (1, .int 1)]) (st2 := [.ref 111]) (w3 := w) rfl rfl ?_
  refine sx_RP.step (pc2 := 9) (ls2 := [(0, .ref 111), (1, .int 1)]) (st2 := [.int 1, .ref 111]) (w3 := w) rfl rfl ?_
  refine sx_RP.cu (as := [.int 1]) (rest2 := [.ref 111]) (st3 := [.float 113, .ref 111]) rfl rfl rfl rfl rfl (p212_1) rfl ?_
  refine sx_RP.callp (as2 := [.ref 111, .float 113]) (rest2 := []) rfl rfl (sx_inv_v2 (mi := 211) (k := 243) (st := [.float 113, .ref 111]) (w := w) rfl rfl hI.1.o111 rfl rfl rfl) rfl rfl rfl (s213 (k := 113) hI (by decide) rfl (by decide)) (show _ = 15 from rfl) ?_
  rintro r4 w1 ⟨(rfl | rfl), hI2, hE4⟩
  · have hE3 := hE.tr (hE4.ei)
    show sx_RP _ _ _ _ _ [.int 0] _ _
    refine sx_RP.step (pc2 := 24) (ls2 := [(0, .ref 111), (1, .int 1)]) (st2 := []) (w3 := w1) rfl rfl ?_
    refine sx_RP.step (pc2 := 27) (ls2 := [(1, .int 2), (0, .ref 111)]) (st2 := []) (w3 := w1) rfl rfl ?_
    refine sx_RP.step (pc2 := 2) (ls2 := [(1, .int 2), (0, .ref 111)]) (st2 := []) (w3 := w1) rfl rfl ?_
    exact sx_RP.ls (sx_lr.cons rfl (sx_lr.cons rfl sx_lr.nil)) (kk w1 hI2 hE3)
  · have hE3 := hE.tr (hE4.ei)
    show sx_RP _ _ _ _ _ [.int 1] _ _
    refine sx_RP.step (pc2 := 18) (ls2 := [(0, .ref 111), (1, .int 1)]) (st2 := []) (w3 := w1) rfl rfl ?_
    refine sx_RP.step (pc2 := 19) (ls2 := [(0, .ref 111), (1, .int 1)]) (st2 := [.ref 111]) (w3 := w1) rfl rfl ?_
    refine sx_RP.step (pc2 := 20) (ls2 := [(0, .ref 111), (1, .int 1)]) (st2 := [.int 1, .ref 111]) (w3 := w1) rfl rfl ?_
    refine sx_RP.callp (as2 := [.ref 111, .int 1]) (rest2 := []) rfl rfl (sx_inv_v2 (mi := 211) (k := 318) (st := [.int 1, .ref 111]) (w := w1) rfl rfl hI2.1.o111 rfl rfl rfl) rfl rfl rfl (s219 hI2 (k := 1) (by omega)) (show _ = 23 from rfl) ?_
    rintro r4 w5 ⟨(rfl | rfl), hI6, hE8⟩
    · have hE7 := hE3.tr (hE8)
      show sx_RP _ _ _ _ _ [.int 0] _ _
      refine sx_RP.ret (r := (some (.int 0))) rfl rfl ?_
      exact ⟨Or.inl rfl, hI6, hE7⟩
    · have hE7 := hE3.tr (hE8)
      show sx_RP _ _ _ _ _ [.int 1] _ _
      refine sx_RP.ret (r := (some (.int 1))) rfl rfl ?_
      exact ⟨Or.inr rfl, hI6, hE7⟩
set_option maxRecDepth 20000 in
set_option maxHeartbeats 4000000 in
theorem i211a2 {xs : Option (List Int32)} {d : Nat} {w w0 : List sx_C} (hI : WI w) (hE : EI w0 w) (kk : ∀ w2, WI w2 → EI w0 w2 → sx_RP xs (d + 7) 211 2 [(0, .ref 111), (1, .int 3)] [] w2 (fun r w2 => (r = some (.int 0) ∨ r = some (.int 1)) ∧ WI w2 ∧ EI w0 w2)) : sx_RP xs (d + 7) 211 2 [(0, .ref 111), (1, .int 2)] [] w (fun r w2 => (r = some (.int 0) ∨ r = some (.int 1)) ∧ WI w2 ∧ EI w0 w2) := by
  refine sx_RP.step (pc2 := 3) (ls2 := [(0, .ref 111), (1, .int 2)]) (st2 := [.int 2]) (w3 := w) rfl rfl ?_
  refine sx_RP.step (pc2 := 4) (ls2 := [(0, .ref 111), (1, .int 2)]) (st2 := [.int 5, .int 2]) (w3 := w) rfl rfl ?_
  refine sx_RP.step (pc2 := 7) (ls2 := [(0, .ref 111), (1, .int 2)]) (st2 := []) (w3 := w) rfl rfl ?_
  refine sx_RP.step (pc2 := 8) (ls2 := [(0, .ref 111), (1, .int 2)]) (st2 := [.ref 111]) (w3 := w) rfl rfl ?_
  refine sx_RP.step (pc2 := 9) (ls2 := [(0, .ref 111), (1, .int 2)]) (st2 := [.int 2, .ref 111]) (w3 := w) rfl rfl ?_
  refine sx_RP.cu (as := [.int 2]) (rest2 := [.ref 111]) (st3 := [.float 112, .ref 111]) rfl rfl rfl rfl rfl (p212_2) rfl ?_
  refine sx_RP.callp (as2 := [.ref 111, .float 112]) (rest2 := []) rfl rfl (sx_inv_v2 (mi := 211) (k := 243) (st := [.float 112, .ref 111]) (w := w) rfl rfl hI.1.o111 rfl rfl rfl) rfl rfl rfl (s213 (k := 112) hI (by decide) rfl (by decide)) (show _ = 15 from rfl) ?_
  rintro r4 w1 ⟨(rfl | rfl), hI2, hE4⟩
  · have hE3 := hE.tr (hE4.ei)
    show sx_RP _ _ _ _ _ [.int 0] _ _
    refine sx_RP.step (pc2 := 24) (ls2 := [(0, .ref 111), (1, .int 2)]) (st2 := []) (w3 := w1) rfl rfl ?_
    refine sx_RP.step (pc2 := 27) (ls2 := [(1, .int 3), (0, .ref 111)]) (st2 := []) (w3 := w1) rfl rfl ?_
    refine sx_RP.step (pc2 := 2) (ls2 := [(1, .int 3), (0, .ref 111)]) (st2 := []) (w3 := w1) rfl rfl ?_
    exact sx_RP.ls (sx_lr.cons rfl (sx_lr.cons rfl sx_lr.nil)) (kk w1 hI2 hE3)
  · have hE3 := hE.tr (hE4.ei)
    show sx_RP _ _ _ _ _ [.int 1] _ _
    refine sx_RP.step (pc2 := 18) (ls2 := [(0, .ref 111), (1, .int 2)]) (st2 := []) (w3 := w1) rfl rfl ?_
    refine sx_RP.step (pc2 := 19) (ls2 := [(0, .ref 111), (1, .int 2)]) (st2 := [.ref 111]) (w3 := w1) rfl rfl ?_
    refine sx_RP.step (pc2 := 20) (ls2 := [(0, .ref 111), (1, .int 2)]) (st2 := [.int 2, .ref 111]) (w3 := w1) rfl rfl ?_
    refine sx_RP.callp (as2 := [.ref 111, .int 2]) (rest2 := []) rfl rfl (sx_inv_v2 (mi := 211) (k := 318) (st := [.int 2, .ref 111]) (w := w1) rfl rfl hI2.1.o111 rfl rfl rfl) rfl rfl rfl (s219 hI2 (k := 2) (by omega)) (show _ = 23 from rfl) ?_
    rintro r4 w5 ⟨(rfl | rfl), hI6, hE8⟩
    · have hE7 := hE3.tr (hE8)
      show sx_RP _ _ _ _ _ [.int 0] _ _
      refine sx_RP.ret (r := (some (.int 0))) rfl rfl ?_
      exact ⟨Or.inl rfl, hI6, hE7⟩
    · have hE7 := hE3.tr (hE8)
      show sx_RP _ _ _ _ _ [.int 1] _ _
      refine sx_RP.ret (r := (some (.int 1))) rfl rfl ?_
      exact ⟨Or.inr rfl, hI6, hE7⟩
set_option maxRecDepth 20000 in
set_option maxHeartbeats 4000000 in
theorem i211a3 {xs : Option (List Int32)} {d : Nat} {w w0 : List sx_C} (hI : WI w) (hE : EI w0 w) (kk : ∀ w2, WI w2 → EI w0 w2 → sx_RP xs (d + 7) 211 2 [(0, .ref 111), (1, .int 4)] [] w2 (fun r w2 => (r = some (.int 0) ∨ r = some (.int 1)) ∧ WI w2 ∧ EI w0 w2)) : sx_RP xs (d + 7) 211 2 [(0, .ref 111), (1, .int 3)] [] w (fun r w2 => (r = some (.int 0) ∨ r = some (.int 1)) ∧ WI w2 ∧ EI w0 w2) := by
  refine sx_RP.step (pc2 := 3) (ls2 := [(0, .ref 111), (1, .int 3)]) (st2 := [.int 3]) (w3 := w) rfl rfl ?_
  refine sx_RP.step (pc2 := 4) (ls2 := [(0, .ref 111), (1, .int 3)]) (st2 := [.int 5, .int 3]) (w3 := w) rfl rfl ?_
  refine sx_RP.step (pc2 := 7) (ls2 := [(0, .ref 111), (1, .int 3)]) (st2 := []) (w3 := w) rfl rfl ?_
  refine sx_RP.step (pc2 := 8) (ls2 := [(0, .ref 111), (1, .int 3)]) (st2 := [.ref 111]) (w3 := w) rfl rfl ?_
  refine sx_RP.step (pc2 := 9) (ls2 := [(0, .ref 111), (1, .int 3)]) (st2 := [.int 3, .ref 111]) (w3 := w) rfl rfl ?_
  refine sx_RP.cu (as := [.int 3]) (rest2 := [.ref 111]) (st3 := [.float 118, .ref 111]) rfl rfl rfl rfl rfl (p212_3) rfl ?_
  refine sx_RP.callp (as2 := [.ref 111, .float 118]) (rest2 := []) rfl rfl (sx_inv_v2 (mi := 211) (k := 243) (st := [.float 118, .ref 111]) (w := w) rfl rfl hI.1.o111 rfl rfl rfl) rfl rfl rfl (s213 (k := 118) hI (by decide) rfl (by decide)) (show _ = 15 from rfl) ?_
  rintro r4 w1 ⟨(rfl | rfl), hI2, hE4⟩
  · have hE3 := hE.tr (hE4.ei)
    show sx_RP _ _ _ _ _ [.int 0] _ _
    refine sx_RP.step (pc2 := 24) (ls2 := [(0, .ref 111), (1, .int 3)]) (st2 := []) (w3 := w1) rfl rfl ?_
    refine sx_RP.step (pc2 := 27) (ls2 := [(1, .int 4), (0, .ref 111)]) (st2 := []) (w3 := w1) rfl rfl ?_
    refine sx_RP.step (pc2 := 2) (ls2 := [(1, .int 4), (0, .ref 111)]) (st2 := []) (w3 := w1) rfl rfl ?_
    exact sx_RP.ls (sx_lr.cons rfl (sx_lr.cons rfl sx_lr.nil)) (kk w1 hI2 hE3)
  · have hE3 := hE.tr (hE4.ei)
    show sx_RP _ _ _ _ _ [.int 1] _ _
    refine sx_RP.step (pc2 := 18) (ls2 := [(0, .ref 111), (1, .int 3)]) (st2 := []) (w3 := w1) rfl rfl ?_
    refine sx_RP.step (pc2 := 19) (ls2 := [(0, .ref 111), (1, .int 3)]) (st2 := [.ref 111]) (w3 := w1) rfl rfl ?_
    refine sx_RP.step (pc2 := 20) (ls2 := [(0, .ref 111), (1, .int 3)]) (st2 := [.int 3, .ref 111]) (w3 := w1) rfl rfl ?_
    refine sx_RP.callp (as2 := [.ref 111, .int 3]) (rest2 := []) rfl rfl (sx_inv_v2 (mi := 211) (k := 318) (st := [.int 3, .ref 111]) (w := w1) rfl rfl hI2.1.o111 rfl rfl rfl) rfl rfl rfl (s219 hI2 (k := 3) (by omega)) (show _ = 23 from rfl) ?_
    rintro r4 w5 ⟨(rfl | rfl), hI6, hE8⟩
    · have hE7 := hE3.tr (hE8)
      show sx_RP _ _ _ _ _ [.int 0] _ _
      refine sx_RP.ret (r := (some (.int 0))) rfl rfl ?_
      exact ⟨Or.inl rfl, hI6, hE7⟩
    · have hE7 := hE3.tr (hE8)
      show sx_RP _ _ _ _ _ [.int 1] _ _
      refine sx_RP.ret (r := (some (.int 1))) rfl rfl ?_
      exact ⟨Or.inr rfl, hI6, hE7⟩
set_option maxRecDepth 20000 in
set_option maxHeartbeats 4000000 in
theorem i211a4 {xs : Option (List Int32)} {d : Nat} {w w0 : List sx_C} (hI : WI w) (hE : EI w0 w) (kk : ∀ w2, WI w2 → EI w0 w2 → sx_RP xs (d + 7) 211 2 [(0, .ref 111), (1, .int 5)] [] w2 (fun r w2 => (r = some (.int 0) ∨ r = some (.int 1)) ∧ WI w2 ∧ EI w0 w2)) : sx_RP xs (d + 7) 211 2 [(0, .ref 111), (1, .int 4)] [] w (fun r w2 => (r = some (.int 0) ∨ r = some (.int 1)) ∧ WI w2 ∧ EI w0 w2) := by
  refine sx_RP.step (pc2 := 3) (ls2 := [(0, .ref 111), (1, .int 4)]) (st2 := [.int 4]) (w3 := w) rfl rfl ?_
  refine sx_RP.step (pc2 := 4) (ls2 := [(0, .ref 111), (1, .int 4)]) (st2 := [.int 5, .int 4]) (w3 := w) rfl rfl ?_
  refine sx_RP.step (pc2 := 7) (ls2 := [(0, .ref 111), (1, .int 4)]) (st2 := []) (w3 := w) rfl rfl ?_
  refine sx_RP.step (pc2 := 8) (ls2 := [(0, .ref 111), (1, .int 4)]) (st2 := [.ref 111]) (w3 := w) rfl rfl ?_
  refine sx_RP.step (pc2 := 9) (ls2 := [(0, .ref 111), (1, .int 4)]) (st2 := [.int 4, .ref 111]) (w3 := w) rfl rfl ?_
  refine sx_RP.cu (as := [.int 4]) (rest2 := [.ref 111]) (st3 := [.float 117, .ref 111]) rfl rfl rfl rfl rfl (p212_4) rfl ?_
  refine sx_RP.callp (as2 := [.ref 111, .float 117]) (rest2 := []) rfl rfl (sx_inv_v2 (mi := 211) (k := 243) (st := [.float 117, .ref 111]) (w := w) rfl rfl hI.1.o111 rfl rfl rfl) rfl rfl rfl (s213 (k := 117) hI (by decide) rfl (by decide)) (show _ = 15 from rfl) ?_
  rintro r4 w1 ⟨(rfl | rfl), hI2, hE4⟩
  · have hE3 := hE.tr (hE4.ei)
    show sx_RP _ _ _ _ _ [.int 0] _ _
    refine sx_RP.step (pc2 := 24) (ls2 := [(0, .ref 111), (1, .int 4)]) (st2 := []) (w3 := w1) rfl rfl ?_
    refine sx_RP.step (pc2 := 27) (ls2 := [(1, .int 5), (0, .ref 111)]) (st2 := []) (w3 := w1) rfl rfl ?_
    refine sx_RP.step (pc2 := 2) (ls2 := [(1, .int 5), (0, .ref 111)]) (st2 := []) (w3 := w1) rfl rfl ?_
    exact sx_RP.ls (sx_lr.cons rfl (sx_lr.cons rfl sx_lr.nil)) (kk w1 hI2 hE3)
  · have hE3 := hE.tr (hE4.ei)
    show sx_RP _ _ _ _ _ [.int 1] _ _
    refine sx_RP.step (pc2 := 18) (ls2 := [(0, .ref 111), (1, .int 4)]) (st2 := []) (w3 := w1) rfl rfl ?_
    refine sx_RP.step (pc2 := 19) (ls2 := [(0, .ref 111), (1, .int 4)]) (st2 := [.ref 111]) (w3 := w1) rfl rfl ?_
    refine sx_RP.step (pc2 := 20) (ls2 := [(0, .ref 111), (1, .int 4)]) (st2 := [.int 4, .ref 111]) (w3 := w1) rfl rfl ?_
    refine sx_RP.callp (as2 := [.ref 111, .int 4]) (rest2 := []) rfl rfl (sx_inv_v2 (mi := 211) (k := 318) (st := [.int 4, .ref 111]) (w := w1) rfl rfl hI2.1.o111 rfl rfl rfl) rfl rfl rfl (s219 hI2 (k := 4) (by omega)) (show _ = 23 from rfl) ?_
    rintro r4 w5 ⟨(rfl | rfl), hI6, hE8⟩
    · have hE7 := hE3.tr (hE8)
      show sx_RP _ _ _ _ _ [.int 0] _ _
      refine sx_RP.ret (r := (some (.int 0))) rfl rfl ?_
      exact ⟨Or.inl rfl, hI6, hE7⟩
    · have hE7 := hE3.tr (hE8)
      show sx_RP _ _ _ _ _ [.int 1] _ _
      refine sx_RP.ret (r := (some (.int 1))) rfl rfl ?_
      exact ⟨Or.inr rfl, hI6, hE7⟩
set_option maxRecDepth 20000 in
set_option maxHeartbeats 4000000 in
theorem i211a5 {xs : Option (List Int32)} {d : Nat} {w w0 : List sx_C} (hI : WI w) (hE : EI w0 w) (kk : ∀ w2, WI w2 → EI w0 w2 → sx_RP xs (d + 7) 211 32 [(0, .ref 111), (1, .int 0)] [] w2 (fun r w2 => (r = some (.int 0) ∨ r = some (.int 1)) ∧ WI w2 ∧ EI w0 w2)) : sx_RP xs (d + 7) 211 2 [(0, .ref 111), (1, .int 5)] [] w (fun r w2 => (r = some (.int 0) ∨ r = some (.int 1)) ∧ WI w2 ∧ EI w0 w2) := by
  refine sx_RP.step (pc2 := 3) (ls2 := [(0, .ref 111), (1, .int 5)]) (st2 := [.int 5]) (w3 := w) rfl rfl ?_
  refine sx_RP.step (pc2 := 4) (ls2 := [(0, .ref 111), (1, .int 5)]) (st2 := [.int 5, .int 5]) (w3 := w) rfl rfl ?_
  refine sx_RP.step (pc2 := 30) (ls2 := [(0, .ref 111), (1, .int 5)]) (st2 := []) (w3 := w) rfl rfl ?_
  refine sx_RP.step (pc2 := 31) (ls2 := [(0, .ref 111), (1, .int 5)]) (st2 := [.int 0]) (w3 := w) rfl rfl ?_
  refine sx_RP.step (pc2 := 32) (ls2 := [(1, .int 0), (0, .ref 111)]) (st2 := []) (w3 := w) rfl rfl ?_
  exact sx_RP.ls (sx_lr.cons rfl (sx_lr.cons rfl sx_lr.nil)) (kk w hI hE)
set_option maxRecDepth 20000 in
set_option maxHeartbeats 4000000 in
theorem i211b0 {xs : Option (List Int32)} {d : Nat} {w w0 : List sx_C} (hI : WI w) (hE : EI w0 w) (kk : ∀ w2, WI w2 → EI w0 w2 → sx_RP xs (d + 7) 211 32 [(0, .ref 111), (1, .int 1)] [] w2 (fun r w2 => (r = some (.int 0) ∨ r = some (.int 1)) ∧ WI w2 ∧ EI w0 w2)) : sx_RP xs (d + 7) 211 32 [(0, .ref 111), (1, .int 0)] [] w (fun r w2 => (r = some (.int 0) ∨ r = some (.int 1)) ∧ WI w2 ∧ EI w0 w2) := by
  refine sx_RP.step (pc2 := 33) (ls2 := [(0, .ref 111), (1, .int 0)]) (st2 := [.int 0]) (w3 := w) rfl rfl ?_
  refine sx_RP.step (pc2 := 35) (ls2 := [(0, .ref 111), (1, .int 0)]) (st2 := [.int 6, .int 0]) (w3 := w) rfl rfl ?_
  refine sx_RP.step (pc2 := 38) (ls2 := [(0, .ref 111), (1, .int 0)]) (st2 := []) (w3 := w) rfl rfl ?_
  refine sx_RP.step (pc2 := 39) (ls2 := [(0, .ref 111), (1, .int 0)]) (st2 := [.ref 111]) (w3 := w) rfl rfl ?_
  refine sx_RP.step (pc2 := 40) (ls2 := [(0, .ref 111), (1, .int 0)]) (st2 := [.int 0, .ref 111]) (w3 := w) rfl rfl ?_
  refine sx_RP.cu (as := [.int 0]) (rest2 := [.ref 111]) (st3 := [.float 106, .ref 111]) rfl rfl rfl rfl rfl (p226_0) rfl ?_
  refine sx_RP.callp (as2 := [.ref 111, .float 106]) (rest2 := []) rfl rfl (sx_inv_v2 (mi := 211) (k := 239) (st := [.float 106, .ref 111]) (w := w) rfl rfl hI.1.o111 rfl rfl rfl) rfl rfl rfl (s214i (k := 106) hI (by decide) rfl (by decide)) (show _ = 46 from rfl) ?_
  rintro r4 w2 ⟨(⟨rfl, hc1⟩ | rfl), hI3, hE5⟩
  · have hE4 := hE.tr (hE5.ei)
    show sx_RP _ _ _ _ _ [.int 0] _ _
    refine sx_RP.step (pc2 := 65) (ls2 := [(0, .ref 111), (1, .int 0)]) (st2 := []) (w3 := w2) rfl rfl ?_
    refine sx_RP.step (pc2 := 66) (ls2 := [(0, .ref 111), (1, .int 0)]) (st2 := [.ref 111]) (w3 := w2) rfl rfl ?_
    refine sx_RP.step (pc2 := 67) (ls2 := [(0, .ref 111), (1, .int 0)]) (st2 := [.int 0, .ref 111]) (w3 := w2) rfl rfl ?_
    refine sx_RP.cu (as := [.int 0]) (rest2 := [.ref 111]) (st3 := [.float 106, .ref 111]) rfl rfl rfl rfl rfl (p226_0) rfl ?_
    refine sx_RP.callp (as2 := [.ref 111, .float 106]) (rest2 := []) rfl rfl (sx_inv_v2 (mi := 211) (k := 243) (st := [.float 106, .ref 111]) (w := w2) rfl rfl hI3.1.o111 rfl rfl rfl) rfl rfl rfl (s213z (k := 106) hI3 (by decide) rfl (by decide) (hc1 _)) (show _ = 73 from rfl) ?_
    rintro r4 w6 ⟨rfl, hI7, hE9⟩
    have hE8 := hE4.tr (hE9.ei)
    show sx_RP _ _ _ _ _ [.int 0] _ _
    refine sx_RP.step (pc2 := 82) (ls2 := [(0, .ref 111), (1, .int 0)]) (st2 := []) (w3 := w6) rfl rfl ?_
    refine sx_RP.step (pc2 := 85) (ls2 := [(1, .int 1), (0, .ref 111)]) (st2 := []) (w3 := w6) rfl rfl ?_
    refine sx_RP.step (pc2 := 32) (ls2 := [(1, .int 1), (0, .ref 111)]) (st2 := []) (w3 := w6) rfl rfl ?_
    exact sx_RP.ls (sx_lr.cons rfl (sx_lr.cons rfl sx_lr.nil)) (kk w6 hI7 hE8)
  · have hE4 := hE.tr (hE5.ei)
    show sx_RP _ _ _ _ _ [.int 1] _ _
    refine sx_RP.step (pc2 := 49) (ls2 := [(0, .ref 111), (1, .int 0)]) (st2 := []) (w3 := w2) rfl rfl ?_
    refine sx_RP.step (pc2 := 50) (ls2 := [(0, .ref 111), (1, .int 0)]) (st2 := [.ref 111]) (w3 := w2) rfl rfl ?_
    refine sx_RP.gf (v := .ref 112) rfl rfl hI3.1.o111 rfl rfl (show _ = 53 from rfl) ?_
    refine sx_RP.step (pc2 := 54) (ls2 := [(0, .ref 111), (1, .int 0)]) (st2 := [.int 1, .ref 112]) (w3 := w2) rfl rfl ?_
    refine sx_RP.ild (c := 1) rfl hI3.1.a112.1 hI3.1.a112.2 (sx_in_nI (show 1 < 172 by omega) (by decide)) (show (nI 1).toNatClampNeg = 1 from nI_clamp (by omega)) (show _ = 55 from rfl) ?_
    obtain ⟨x10, hx11, ex12⟩ : inR ((ia w2 112).getD 1 0) 10 := (hI3.s (1) (by omega)).1 rfl
    rw [ex12]
    refine sx_RP.step (pc2 := 57) (ls2 := [(0, .ref 111), (1, .int 0)]) (st2 := [.int 10, .int (nI x10)]) (w3 := w2) rfl rfl ?_
    refine sx_RP.br (p1 := 65) (l1 := [(0, .ref 111), (1, .int 0)]) (s1 := []) (v1 := w2) (p2 := 60) (l2 := [(0, .ref 111), (1, .int 0)]) (s2 := []) (v2 := w2) rfl rfl (fun q13 => ?_) (fun q13 => ?_)
    · replace q13 := of_decide_eq_true q13
      replace q13 := mt (nI_eq (a := x10) (b := 10) (by omega) (by omega)).mpr q13
      refine sx_RP.step (pc2 := 66) (ls2 := [(0, .ref 111), (1, .int 0)]) (st2 := [.ref 111]) (w3 := w2) rfl rfl ?_
      refine sx_RP.step (pc2 := 67) (ls2 := [(0, .ref 111), (1, .int 0)]) (st2 := [.int 0, .ref 111]) (w3 := w2) rfl rfl ?_
      refine sx_RP.cu (as := [.int 0]) (rest2 := [.ref 111]) (st3 := [.float 106, .ref 111]) rfl rfl rfl rfl rfl (p226_0) rfl ?_
      refine sx_RP.callp (as2 := [.ref 111, .float 106]) (rest2 := []) rfl rfl (sx_inv_v2 (mi := 211) (k := 243) (st := [.float 106, .ref 111]) (w := w2) rfl rfl hI3.1.o111 rfl rfl rfl) rfl rfl rfl (s213 (k := 106) hI3 (by decide) rfl (by decide)) (show _ = 73 from rfl) ?_
      rintro r4 w14 ⟨(rfl | rfl), hI15, hE17⟩
      · have hE16 := hE4.tr (hE17.ei)
        have ex18 := (congrArg (fun l => List.getD l 1 0) (ia_of (hE17.1 112 (by decide)))).trans ex12
        show sx_RP _ _ _ _ _ [.int 0] _ _
        refine sx_RP.step (pc2 := 82) (ls2 := [(0, .ref 111), (1, .int 0)]) (st2 := []) (w3 := w14) rfl rfl ?_
        refine sx_RP.step (pc2 := 85) (ls2 := [(1, .int 1), (0, .ref 111)]) (st2 := []) (w3 := w14) rfl rfl ?_
        refine sx_RP.step (pc2 := 32) (ls2 := [(1, .int 1), (0, .ref 111)]) (st2 := []) (w3 := w14) rfl rfl ?_
        exact sx_RP.ls (sx_lr.cons rfl (sx_lr.cons rfl sx_lr.nil)) (kk w14 hI15 hE16)
      · have hE16 := hE4.tr (hE17.ei)
        have ex19 := (congrArg (fun l => List.getD l 1 0) (ia_of (hE17.1 112 (by decide)))).trans ex12
        show sx_RP _ _ _ _ _ [.int 1] _ _
        refine sx_RP.step (pc2 := 76) (ls2 := [(0, .ref 111), (1, .int 0)]) (st2 := []) (w3 := w14) rfl rfl ?_
        refine sx_RP.step (pc2 := 77) (ls2 := [(0, .ref 111), (1, .int 0)]) (st2 := [.ref 111]) (w3 := w14) rfl rfl ?_
        refine sx_RP.step (pc2 := 78) (ls2 := [(0, .ref 111), (1, .int 0)]) (st2 := [.int 0, .ref 111]) (w3 := w14) rfl rfl ?_
        refine sx_RP.callp (as2 := [.ref 111, .int 0]) (rest2 := []) rfl rfl (sx_inv_v2 (mi := 211) (k := 323) (st := [.int 0, .ref 111]) (w := w14) rfl rfl hI15.1.o111 rfl rfl rfl) rfl rfl rfl (s227 hI15 (k := 0) (by omega) (by omega) ex19) (show _ = 81 from rfl) ?_
        rintro r4 w20 ⟨(rfl | rfl), hI21, hE23⟩
        · have hE22 := hE16.tr (hE23)
          show sx_RP _ _ _ _ _ [.int 0] _ _
          refine sx_RP.ret (r := (some (.int 0))) rfl rfl ?_
          exact ⟨Or.inl rfl, hI21, hE22⟩
        · have hE22 := hE16.tr (hE23)
          show sx_RP _ _ _ _ _ [.int 1] _ _
          refine sx_RP.ret (r := (some (.int 1))) rfl rfl ?_
          exact ⟨Or.inr rfl, hI21, hE22⟩
    · replace q13 := Decidable.not_not.mp (of_decide_eq_false q13)
      replace q13 := (nI_eq (a := x10) (b := 10) (by omega) (by omega)).mp q13
      refine sx_RP.step (pc2 := 61) (ls2 := [(0, .ref 111), (1, .int 0)]) (st2 := [.ref 111]) (w3 := w2) rfl rfl ?_
      refine sx_RP.callp (as2 := [.ref 111]) (rest2 := []) rfl rfl (sx_inv_v2 (mi := 211) (k := 245) (st := [.ref 111]) (w := w2) rfl rfl hI3.1.o111 rfl rfl rfl) rfl rfl rfl (s222 hI3) (show _ = 64 from rfl) ?_
      rintro r4 w24 ⟨rfl, hI25, hE27⟩
      have hE26 := hE4.tr (hE27.ei)
      have ex28 := (congrArg (fun l => List.getD l 1 0) (ia_of (hE27.1 112 (by decide)))).trans ex12
      show sx_RP _ _ _ _ _ [.int 0] _ _
      refine sx_RP.ret (r := (some (.int 0))) rfl rfl ?_
      exact ⟨Or.inl rfl, hI25, hE26⟩
set_option maxRecDepth 20000 in
set_option maxHeartbeats 4000000 in
theorem i211b1 {xs : Option (List Int32)} {d : Nat} {w w0 : List sx_C} (hI : WI w) (hE : EI w0 w) (kk : ∀ w2, WI w2 → EI w0 w2 → sx_RP xs (d + 7) 211 32 [(0, .ref 111), (1, .int 2)] [] w2 (fun r w2 => (r = some (.int 0) ∨ r = some (.int 1)) ∧ WI w2 ∧ EI w0 w2)) : sx_RP xs (d + 7) 211 32 [(0, .ref 111), (1, .int 1)] [] w (fun r w2 => (r = some (.int 0) ∨ r = some (.int 1)) ∧ WI w2 ∧ EI w0 w2) := by
  refine sx_RP.step (pc2 := 33) (ls2 := [(0, .ref 111), (1, .int 1)]) (st2 := [.int 1]) (w3 := w) rfl rfl ?_
  refine sx_RP.step (pc2 := 35) (ls2 := [(0, .ref 111), (1, .int 1)]) (st2 := [.int 6, .int 1]) (w3 := w) rfl rfl ?_
  refine sx_RP.step (pc2 := 38) (ls2 := [(0, .ref 111), (1, .int 1)]) (st2 := []) (w3 := w) rfl rfl ?_
  refine sx_RP.step (pc2 := 39) (ls2 := [(0, .ref 111), (1, .int 1)]) (st2 := [.ref 111]) (w3 := w) rfl rfl ?_
  refine sx_RP.step (pc2 := 40) (ls2 := [(0, .ref 111), (1, .int 1)]) (st2 := [.int 1, .ref 111]) (w3 := w) rfl rfl ?_
  refine sx_RP.cu (as := [.int 1]) (rest2 := [.ref 111]) (st3 := [.float 110, .ref 111]) rfl rfl rfl rfl rfl (p226_1) rfl ?_
  refine sx_RP.callp (as2 := [.ref 111, .float 110]) (rest2 := []) rfl rfl (sx_inv_v2 (mi := 211) (k := 239) (st := [.float 110, .ref 111]) (w := w) rfl rfl hI.1.o111 rfl rfl rfl) rfl rfl rfl (s214i (k := 110) hI (by decide) rfl (by decide)) (show _ = 46 from rfl) ?_
  rintro r4 w2 ⟨(⟨rfl, hc1⟩ | rfl), hI3, hE5⟩
  · have hE4 := hE.tr (hE5.ei)
    show sx_RP _ _ _ _ _ [.int 0] _ _
    refine sx_RP.step (pc2 := 65) (ls2 := [(0, .ref 111), (1, .int 1)]) (st2 := []) (w3 := w2) rfl rfl ?_
    refine sx_RP.step (pc2 := 66) (ls2 := [(0, .ref 111), (1, .int 1)]) (st2 := [.ref 111]) (w3 := w2) rfl rfl ?_
    refine sx_RP.step (pc2 := 67) (ls2 := [(0, .ref 111), (1, .int 1)]) (st2 := [.int 1, .ref 111]) (w3 := w2) rfl rfl ?_
    refine sx_RP.cu (as := [.int 1]) (rest2 := [.ref 111]) (st3 := [.float 110, .ref 111]) rfl rfl rfl rfl rfl (p226_1) rfl ?_
    refine sx_RP.callp (as2 := [.ref 111, .float 110]) (rest2 := []) rfl rfl (sx_inv_v2 (mi := 211) (k := 243) (st := [.float 110, .ref 111]) (w := w2) rfl rfl hI3.1.o111 rfl rfl rfl) rfl rfl rfl (s213z (k := 110) hI3 (by decide) rfl (by decide) (hc1 _)) (show _ = 73 from rfl) ?_
    rintro r4 w6 ⟨rfl, hI7, hE9⟩
    have hE8 := hE4.tr (hE9.ei)
    show sx_RP _ _ _ _ _ [.int 0] _ _
    refine sx_RP.step (pc2 := 82) (ls2 := [(0, .ref 111), (1, .int 1)]) (st2 := []) (w3 := w6) rfl rfl ?_
    refine sx_RP.step (pc2 := 85) (ls2 := [(1, .int 2), (0, .ref 111)]) (st2 := []) (w3 := w6) rfl rfl ?_
    refine sx_RP.step (pc2 := 32) (ls2 := [(1, .int 2), (0, .ref 111)]) (st2 := []) (w3 := w6) rfl rfl ?_
    exact sx_RP.ls (sx_lr.cons rfl (sx_lr.cons rfl sx_lr.nil)) (kk w6 hI7 hE8)
  · have hE4 := hE.tr (hE5.ei)
    show sx_RP _ _ _ _ _ [.int 1] _ _
    refine sx_RP.step (pc2 := 49) (ls2 := [(0, .ref 111), (1, .int 1)]) (st2 := []) (w3 := w2) rfl rfl ?_
    refine sx_RP.step (pc2 := 50) (ls2 := [(0, .ref 111), (1, .int 1)]) (st2 := [.ref 111]) (w3 := w2) rfl rfl ?_
    refine sx_RP.gf (v := .ref 112) rfl rfl hI3.1.o111 rfl rfl (show _ = 53 from rfl) ?_
    refine sx_RP.step (pc2 := 54) (ls2 := [(0, .ref 111), (1, .int 1)]) (st2 := [.int 1, .ref 112]) (w3 := w2) rfl rfl ?_
    refine sx_RP.ild (c := 1) rfl hI3.1.a112.1 hI3.1.a112.2 (sx_in_nI (show 1 < 172 by omega) (by decide)) (show (nI 1).toNatClampNeg = 1 from nI_clamp (by omega)) (show _ = 55 from rfl) ?_
    obtain ⟨x10, hx11, ex12⟩ : inR ((ia w2 112).getD 1 0) 10 := (hI3.s (1) (by omega)).1 rfl
    rw [ex12]
    refine sx_RP.step (pc2 := 57) (ls2 := [(0, .ref 111), (1, .int 1)]) (st2 := [.int 10, .int (nI x10)]) (w3 := w2) rfl rfl ?_
    refine sx_RP.br (p1 := 65) (l1 := [(0, .ref 111), (1, .int 1)]) (s1 := []) (v1 := w2) (p2 := 60) (l2 := [(0, .ref 111), (1, .int 1)]) (s2 := []) (v2 := w2) rfl rfl (fun q13 => ?_) (fun q13 => ?_)
    · replace q13 := of_decide_eq_true q13
      replace q13 := mt (nI_eq (a := x10) (b := 10) (by omega) (by omega)).mpr q13
      refine sx_RP.step (pc2 := 66) (ls2 := [(0, .ref 111), (1, .int 1)]) (st2 := [.ref 111]) (w3 := w2) rfl rfl ?_
      refine sx_RP.step (pc2 := 67) (ls2 := [(0, .ref 111), (1, .int 1)]) (st2 := [.int 1, .ref 111]) (w3 := w2) rfl rfl ?_
      refine sx_RP.cu (as := [.int 1]) (rest2 := [.ref 111]) (st3 := [.float 110, .ref 111]) rfl rfl rfl rfl rfl (p226_1) rfl ?_
      refine sx_RP.callp (as2 := [.ref 111, .float 110]) (rest2 := []) rfl rfl (sx_inv_v2 (mi := 211) (k := 243) (st := [.float 110, .ref 111]) (w := w2) rfl rfl hI3.1.o111 rfl rfl rfl) rfl rfl rfl (s213 (k := 110) hI3 (by decide) rfl (by decide)) (show _ = 73 from rfl) ?_
      rintro r4 w14 ⟨(rfl | rfl), hI15, hE17⟩
      · have hE16 := hE4.tr (hE17.ei)
        have ex18 := (congrArg (fun l => List.getD l 1 0) (ia_of (hE17.1 112 (by decide)))).trans ex12
        show sx_RP _ _ _ _ _ [.int 0] _ _
        refine sx_RP.step (pc2 := 82) (ls2 := [(0, .ref 111), (1, .int 1)]) (st2 := []) (w3 := w14) rfl rfl ?_
        refine sx_RP.step (pc2 := 85) (ls2 := [(1, .int 2), (0, .ref 111)]) (st2 := []) (w3 := w14) rfl rfl ?_
        refine sx_RP.step (pc2 := 32) (ls2 := [(1, .int 2), (0, .ref 111)]) (st2 := []) (w3 := w14) rfl rfl ?_
        exact sx_RP.ls (sx_lr.cons rfl (sx_lr.cons rfl sx_lr.nil)) (kk w14 hI15 hE16)
      · have hE16 := hE4.tr (hE17.ei)
        have ex19 := (congrArg (fun l => List.getD l 1 0) (ia_of (hE17.1 112 (by decide)))).trans ex12
        show sx_RP _ _ _ _ _ [.int 1] _ _
        refine sx_RP.step (pc2 := 76) (ls2 := [(0, .ref 111), (1, .int 1)]) (st2 := []) (w3 := w14) rfl rfl ?_
        refine sx_RP.step (pc2 := 77) (ls2 := [(0, .ref 111), (1, .int 1)]) (st2 := [.ref 111]) (w3 := w14) rfl rfl ?_
        refine sx_RP.step (pc2 := 78) (ls2 := [(0, .ref 111), (1, .int 1)]) (st2 := [.int 1, .ref 111]) (w3 := w14) rfl rfl ?_
        refine sx_RP.callp (as2 := [.ref 111, .int 1]) (rest2 := []) rfl rfl (sx_inv_v2 (mi := 211) (k := 323) (st := [.int 1, .ref 111]) (w := w14) rfl rfl hI15.1.o111 rfl rfl rfl) rfl rfl rfl (s227 hI15 (k := 1) (by omega) (by omega) ex19) (show _ = 81 from rfl) ?_
        rintro r4 w20 ⟨(rfl | rfl), hI21, hE23⟩
        · have hE22 := hE16.tr (hE23)
          show sx_RP _ _ _ _ _ [.int 0] _ _
          refine sx_RP.ret (r := (some (.int 0))) rfl rfl ?_
          exact ⟨Or.inl rfl, hI21, hE22⟩
        · have hE22 := hE16.tr (hE23)
          show sx_RP _ _ _ _ _ [.int 1] _ _
          refine sx_RP.ret (r := (some (.int 1))) rfl rfl ?_
          exact ⟨Or.inr rfl, hI21, hE22⟩
    · replace q13 := Decidable.not_not.mp (of_decide_eq_false q13)
      replace q13 := (nI_eq (a := x10) (b := 10) (by omega) (by omega)).mp q13
      refine sx_RP.step (pc2 := 61) (ls2 := [(0, .ref 111), (1, .int 1)]) (st2 := [.ref 111]) (w3 := w2) rfl rfl ?_
      refine sx_RP.callp (as2 := [.ref 111]) (rest2 := []) rfl rfl (sx_inv_v2 (mi := 211) (k := 245) (st := [.ref 111]) (w := w2) rfl rfl hI3.1.o111 rfl rfl rfl) rfl rfl rfl (s222 hI3) (show _ = 64 from rfl) ?_
      rintro r4 w24 ⟨rfl, hI25, hE27⟩
      have hE26 := hE4.tr (hE27.ei)
      have ex28 := (congrArg (fun l => List.getD l 1 0) (ia_of (hE27.1 112 (by decide)))).trans ex12
      show sx_RP _ _ _ _ _ [.int 0] _ _
      refine sx_RP.ret (r := (some (.int 0))) rfl rfl ?_
      exact ⟨Or.inl rfl, hI25, hE26⟩
set_option maxRecDepth 20000 in
set_option maxHeartbeats 4000000 in
theorem i211b2 {xs : Option (List Int32)} {d : Nat} {w w0 : List sx_C} (hI : WI w) (hE : EI w0 w) (kk : ∀ w2, WI w2 → EI w0 w2 → sx_RP xs (d + 7) 211 32 [(0, .ref 111), (1, .int 3)] [] w2 (fun r w2 => (r = some (.int 0) ∨ r = some (.int 1)) ∧ WI w2 ∧ EI w0 w2)) : sx_RP xs (d + 7) 211 32 [(0, .ref 111), (1, .int 2)] [] w (fun r w2 => (r = some (.int 0) ∨ r = some (.int 1)) ∧ WI w2 ∧ EI w0 w2) := by
  refine sx_RP.step (pc2 := 33) (ls2 := [(0, .ref 111), (1, .int 2)]) (st2 := [.int 2]) (w3 := w) rfl rfl ?_
  refine sx_RP.step (pc2 := 35) (ls2 := [(0, .ref 111), (1, .int 2)]) (st2 := [.int 6, .int 2]) (w3 := w) rfl rfl ?_
  refine sx_RP.step (pc2 := 38) (ls2 := [(0, .ref 111), (1, .int 2)]) (st2 := []) (w3 := w) rfl rfl ?_
  refine sx_RP.step (pc2 := 39) (ls2 := [(0, .ref 111), (1, .int 2)]) (st2 := [.ref 111]) (w3 := w) rfl rfl ?_
  refine sx_RP.step (pc2 := 40) (ls2 := [(0, .ref 111), (1, .int 2)]) (st2 := [.int 2, .ref 111]) (w3 := w) rfl rfl ?_
  refine sx_RP.cu (as := [.int 2]) (rest2 := [.ref 111]) (st3 := [.float 114, .ref 111]) rfl rfl rfl rfl rfl (p226_2) rfl ?_
  refine sx_RP.callp (as2 := [.ref 111, .float 114]) (rest2 := []) rfl rfl (sx_inv_v2 (mi := 211) (k := 239) (st := [.float 114, .ref 111]) (w := w) rfl rfl hI.1.o111 rfl rfl rfl) rfl rfl rfl (s214i (k := 114) hI (by decide) rfl (by decide)) (show _ = 46 from rfl) ?_
  rintro r4 w2 ⟨(⟨rfl, hc1⟩ | rfl), hI3, hE5⟩
  · have hE4 := hE.tr (hE5.ei)
    show sx_RP _ _ _ _ _ [.int 0] _ _
    refine sx_RP.step (pc2 := 65) (ls2 := [(0, .ref 111), (1, .int 2)]) (st2 := []) (w3 := w2) rfl rfl ?_
    refine sx_RP.step (pc2 := 66) (ls2 := [(0, .ref 111), (1, .int 2)]) (st2 := [.ref 111]) (w3 := w2) rfl rfl ?_
    refine sx_RP.step (pc2 := 67) (ls2 := [(0, .ref 111), (1, .int 2)]) (st2 := [.int 2, .ref 111]) (w3 := w2) rfl rfl ?_
    refine sx_RP.cu (as := [.int 2]) (rest2 := [.ref 111]) (st3 := [.float 114, .ref 111]) rfl rfl rfl rfl rfl (p226_2) rfl ?_
    refine sx_RP.callp (as2 := [.ref 111, .float 114]) (rest2 := []) rfl rfl (sx_inv_v2 (mi := 211) (k := 243) (st := [.float 114, .ref 111]) (w := w2) rfl rfl hI3.1.o111 rfl rfl rfl) rfl rfl rfl (s213z (k := 114) hI3 (by decide) rfl (by decide) (hc1 _)) (show _ = 73 from rfl) ?_
    rintro r4 w6 ⟨rfl, hI7, hE9⟩
    have hE8 := hE4.tr (hE9.ei)
    show sx_RP _ _ _ _ _ [.int 0] _ _
    refine sx_RP.step (pc2 := 82) (ls2 := [(0, .ref 111), (1, .int 2)]) (st2 := []) (w3 := w6) rfl rfl ?_
    refine sx_RP.step (pc2 := 85) (ls2 := [(1, .int 3), (0, .ref 111)]) (st2 := []) (w3 := w6) rfl rfl ?_
    refine sx_RP.step (pc2 := 32) (ls2 := [(1, .int 3), (0, .ref 111)]) (st2 := []) (w3 := w6) rfl rfl ?_
    exact sx_RP.ls (sx_lr.cons rfl (sx_lr.cons rfl sx_lr.nil)) (kk w6 hI7 hE8)
  · have hE4 := hE.tr (hE5.ei)
    show sx_RP _ _ _ _ _ [.int 1] _ _
    refine sx_RP.step (pc2 := 49) (ls2 := [(0, .ref 111), (1, .int 2)]) (st2 := []) (w3 := w2) rfl rfl ?_
    refine sx_RP.step (pc2 := 50) (ls2 := [(0, .ref 111), (1, .int 2)]) (st2 := [.ref 111]) (w3 := w2) rfl rfl ?_
    refine sx_RP.gf (v := .ref 112) rfl rfl hI3.1.o111 rfl rfl (show _ = 53 from rfl) ?_
    refine sx_RP.step (pc2 := 54) (ls2 := [(0, .ref 111), (1, .int 2)]) (st2 := [.int 1, .ref 112]) (w3 := w2) rfl rfl ?_
    refine sx_RP.ild (c := 1) rfl hI3.1.a112.1 hI3.1.a112.2 (sx_in_nI (show 1 < 172 by omega) (by decide)) (show (nI 1).toNatClampNeg = 1 from nI_clamp (by omega)) (show _ = 55 from rfl) ?_
    obtain ⟨x10, hx11, ex12⟩ : inR ((ia w2 112).getD 1 0) 10 := (hI3.s (1) (by omega)).1 rfl
    rw [ex12]
    refine sx_RP.step (pc2 := 57) (ls2 := [(0, .ref 111), (1, .int 2)]) (st2 := [.int 10, .int (nI x10)]) (w3 := w2) rfl rfl ?_
    refine sx_RP.br (p1 := 65) (l1 := [(0, .ref 111), (1, .int 2)]) (s1 := []) (v1 := w2) (p2 := 60) (l2 := [(0, .ref 111), (1, .int 2)]) (s2 := []) (v2 := w2) rfl rfl (fun q13 => ?_) (fun q13 => ?_)
    · replace q13 := of_decide_eq_true q13
      replace q13 := mt (nI_eq (a := x10) (b := 10) (by omega) (by omega)).mpr q13
      refine sx_RP.step (pc2 := 66) (ls2 := [(0, .ref 111), (1, .int 2)]) (st2 := [.ref 111]) (w3 := w2) rfl rfl ?_
      refine sx_RP.step (pc2 := 67) (ls2 := [(0, .ref 111), (1, .int 2)]) (st2 := [.int 2, .ref 111]) (w3 := w2) rfl rfl ?_
      refine sx_RP.cu (as := [.int 2]) (rest2 := [.ref 111]) (st3 := [.float 114, .ref 111]) rfl rfl rfl rfl rfl (p226_2) rfl ?_
      refine sx_RP.callp (as2 := [.ref 111, .float 114]) (rest2 := []) rfl rfl (sx_inv_v2 (mi := 211) (k := 243) (st := [.float 114, .ref 111]) (w := w2) rfl rfl hI3.1.o111 rfl rfl rfl) rfl rfl rfl (s213 (k := 114) hI3 (by decide) rfl (by decide)) (show _ = 73 from rfl) ?_
      rintro r4 w14 ⟨(rfl | rfl), hI15, hE17⟩
      · have hE16 := hE4.tr (hE17.ei)
        have ex18 := (congrArg (fun l => List.getD l 1 0) (ia_of (hE17.1 112 (by decide)))).trans ex12
        show sx_RP _ _ _ _ _ [.int 0] _ _
        refine sx_RP.step (pc2 := 82) (ls2 := [(0, .ref 111), (1, .int 2)]) (st2 := []) (w3 := w14) rfl rfl ?_
        refine sx_RP.step (pc2 := 85) (ls2 := [(1, .int 3), (0, .ref 111)]) (st2 := []) (w3 := w14) rfl rfl ?_
        refine sx_RP.step (pc2 := 32) (ls2 := [(1, .int 3), (0, .ref 111)]) (st2 := []) (w3 := w14) rfl rfl ?_
        exact sx_RP.ls (sx_lr.cons rfl (sx_lr.cons rfl sx_lr.nil)) (kk w14 hI15 hE16)
      · have hE16 := hE4.tr (hE17.ei)
        have ex19 := (congrArg (fun l => List.getD l 1 0) (ia_of (hE17.1 112 (by decide)))).trans ex12
        show sx_RP _ _ _ _ _ [.int 1] _ _
        refine sx_RP.step (pc2 := 76) (ls2 := [(0, .ref 111), (1, .int 2)]) (st2 := []) (w3 := w14) rfl rfl ?_
        refine sx_RP.step (pc2 := 77) (ls2 := [(0, .ref 111), (1, .int 2)]) (st2 := [.ref 111]) (w3 := w14) rfl rfl ?_
        refine sx_RP.step (pc2 := 78) (ls2 := [(0, .ref 111), (1, .int 2)]) (st2 := [.int 2, .ref 111]) (w3 := w14) rfl rfl ?_
        refine sx_RP.callp (as2 := [.ref 111, .int 2]) (rest2 := []) rfl rfl (sx_inv_v2 (mi := 211) (k := 323) (st := [.int 2, .ref 111]) (w := w14) rfl rfl hI15.1.o111 rfl rfl rfl) rfl rfl rfl (s227 hI15 (k := 2) (by omega) (by omega) ex19) (show _ = 81 from rfl) ?_
        rintro r4 w20 ⟨(rfl | rfl), hI21, hE23⟩
        · have hE22 := hE16.tr (hE23)
          show sx_RP _ _ _ _ _ [.int 0] _ _
          refine sx_RP.ret (r := (some (.int 0))) rfl rfl ?_
          exact ⟨Or.inl rfl, hI21, hE22⟩
        · have hE22 := hE16.tr (hE23)
          show sx_RP _ _ _ _ _ [.int 1] _ _
          refine sx_RP.ret (r := (some (.int 1))) rfl rfl ?_
          exact ⟨Or.inr rfl, hI21, hE22⟩
    · replace q13 := Decidable.not_not.mp (of_decide_eq_false q13)
      replace q13 := (nI_eq (a := x10) (b := 10) (by omega) (by omega)).mp q13
      refine sx_RP.step (pc2 := 61) (ls2 := [(0, .ref 111), (1, .int 2)]) (st2 := [.ref 111]) (w3 := w2) rfl rfl ?_
      refine sx_RP.callp (as2 := [.ref 111]) (rest2 := []) rfl rfl (sx_inv_v2 (mi := 211) (k := 245) (st := [.ref 111]) (w := w2) rfl rfl hI3.1.o111 rfl rfl rfl) rfl rfl rfl (s222 hI3) (show _ = 64 from rfl) ?_
      rintro r4 w24 ⟨rfl, hI25, hE27⟩
      have hE26 := hE4.tr (hE27.ei)
      have ex28 := (congrArg (fun l => List.getD l 1 0) (ia_of (hE27.1 112 (by decide)))).trans ex12
      show sx_RP _ _ _ _ _ [.int 0] _ _
      refine sx_RP.ret (r := (some (.int 0))) rfl rfl ?_
      exact ⟨Or.inl rfl, hI25, hE26⟩
set_option maxRecDepth 20000 in
set_option maxHeartbeats 4000000 in
theorem i211b3 {xs : Option (List Int32)} {d : Nat} {w w0 : List sx_C} (hI : WI w) (hE : EI w0 w) (kk : ∀ w2, WI w2 → EI w0 w2 → sx_RP xs (d + 7) 211 32 [(0, .ref 111), (1, .int 4)] [] w2 (fun r w2 => (r = some (.int 0) ∨ r = some (.int 1)) ∧ WI w2 ∧ EI w0 w2)) : sx_RP xs (d + 7) 211 32 [(0, .ref 111), (1, .int 3)] [] w (fun r w2 => (r = some (.int 0) ∨ r = some (.int 1)) ∧ WI w2 ∧ EI w0 w2) := by
  refine sx_RP.step (pc2 := 33) (ls2 := [(0, .ref 111), (1, .int 3)]) (st2 := [.int 3]) (w3 := w) rfl rfl ?_
  refine sx_RP.step (pc2 := 35) (ls2 := [(0, .ref 111), (1, .int 3)]) (st2 := [.int 6, .int 3]) (w3 := w) rfl rfl ?_
  refine sx_RP.step (pc2 := 38) (ls2 := [(0, .ref 111), (1, .int 3)]) (st2 := []) (w3 := w) rfl rfl ?_
  refine sx_RP.step (pc2 := 39) (ls2 := [(0, .ref 111), (1, .int 3)]) (st2 := [.ref 111]) (w3 := w) rfl rfl ?_
  refine sx_RP.step (pc2 := 40) (ls2 := [(0, .ref 111), (1, .int 3)]) (st2 := [.int 3, .ref 111]) (w3 := w) rfl rfl ?_
  refine sx_RP.cu (as := [.int 3]) (rest2 := [.ref 111]) (st3 := [.float 107, .ref 111]) rfl rfl rfl rfl rfl (p226_3) rfl ?_
  refine sx_RP.callp (as2 := [.ref 111, .float 107]) (rest2 := []) rfl rfl (sx_inv_v2 (mi := 211) (k := 239) (st := [.float 107, .ref 111]) (w := w) rfl rfl hI.1.o111 rfl rfl rfl) rfl rfl rfl (s214i (k := 107) hI (by decide) rfl (by decide)) (show _ = 46 from rfl) ?_
  rintro r4 w2 ⟨(⟨rfl, hc1⟩ | rfl), hI3, hE5⟩
  · have hE4 := hE.tr (hE5.ei)
    show sx_RP _ _ _ _ _ [.int 0] _ _
    refine sx_RP.step (pc2 := 65) (ls2 := [(0, .ref 111), (1, .int 3)]) (st2 := []) (w3 := w2) rfl rfl ?_
    refine sx_RP.step (pc2 := 66) (ls2 := [(0, .ref 111), (1, .int 3)]) (st2 := [.ref 111]) (w3 := w2) rfl rfl ?_
    refine sx_RP.step (pc2 := 67) (ls2 := [(0, .ref 111), (1, .int 3)]) (st2 := [.int 3, .ref 111]) (w3 := w2) rfl rfl ?_
    refine sx_RP.cu (as := [.int 3]) (rest2 := [.ref 111]) (st3 := [.float 107, .ref 111]) rfl rfl rfl rfl rfl (p226_3) rfl ?_
    refine sx_RP.callp (as2 := [.ref 111, .float 107]) (rest2 := []) rfl rfl (sx_inv_v2 (mi := 211) (k := 243) (st := [.float 107, .ref 111]) (w := w2) rfl rfl hI3.1.o111 rfl rfl rfl) rfl rfl rfl (s213z (k := 107) hI3 (by decide) rfl (by decide) (hc1 _)) (show _ = 73 from rfl) ?_
    rintro r4 w6 ⟨rfl, hI7, hE9⟩
    have hE8 := hE4.tr (hE9.ei)
    show sx_RP _ _ _ _ _ [.int 0] _ _
    refine sx_RP.step (pc2 := 82) (ls2 := [(0, .ref 111), (1, .int 3)]) (st2 := []) (w3 := w6) rfl rfl ?_
    refine sx_RP.step (pc2 := 85) (ls2 := [(1, .int 4), (0, .ref 111)]) (st2 := []) (w3 := w6) rfl rfl ?_
    refine sx_RP.step (pc2 := 32) (ls2 := [(1, .int 4), (0, .ref 111)]) (st2 := []) (w3 := w6) rfl rfl ?_
    exact sx_RP.ls (sx_lr.cons rfl (sx_lr.cons rfl sx_lr.nil)) (kk w6 hI7 hE8)
  · have hE4 := hE.tr (hE5.ei)
    show sx_RP _ _ _ _ _ [.int 1] _ _
    refine sx_RP.step (pc2 := 49) (ls2 := [(0, .ref 111), (1, .int 3)]) (st2 := []) (w3 := w2) rfl rfl ?_
    refine sx_RP.step (pc2 := 50) (ls2 := [(0, .ref 111), (1, .int 3)]) (st2 := [.ref 111]) (w3 := w2) rfl rfl ?_
    refine sx_RP.gf (v := .ref 112) rfl rfl hI3.1.o111 rfl rfl (show _ = 53 from rfl) ?_
    refine sx_RP.step (pc2 := 54) (ls2 := [(0, .ref 111), (1, .int 3)]) (st2 := [.int 1, .ref 112]) (w3 := w2) rfl rfl ?_
    refine sx_RP.ild (c := 1) rfl hI3.1.a112.1 hI3.1.a112.2 (sx_in_nI (show 1 < 172 by omega) (by decide)) (show (nI 1).toNatClampNeg = 1 from nI_clamp (by omega)) (show _ = 55 from rfl) ?_
    obtain ⟨x10, hx11, ex12⟩ : inR ((ia w2 112).getD 1 0) 10 := (hI3.s (1) (by omega)).1 rfl
    rw [ex12]
    refine sx_RP.step (pc2 := 57) (ls2 := [(0, .ref 111), (1, .int 3)]) (st2 := [.int 10, .int (nI x10)]) (w3 := w2) rfl rfl ?_
    refine sx_RP.br (p1 := 65) (l1 := [(0, .ref 111), (1, .int 3)]) (s1 := []) (v1 := w2) (p2 := 60) (l2 := [(0, .ref 111), (1, .int 3)]) (s2 := []) (v2 := w2) rfl rfl (fun q13 => ?_) (fun q13 => ?_)
    · replace q13 := of_decide_eq_true q13
      replace q13 := mt (nI_eq (a := x10) (b := 10) (by omega) (by omega)).mpr q13
      refine sx_RP.step (pc2 := 66) (ls2 := [(0, .ref 111), (1, .int 3)]) (st2 := [.ref 111]) (w3 := w2) rfl rfl ?_
      refine sx_RP.step (pc2 := 67) (ls2 := [(0, .ref 111), (1, .int 3)]) (st2 := [.int 3, .ref 111]) (w3 := w2) rfl rfl ?_
      refine sx_RP.cu (as := [.int 3]) (rest2 := [.ref 111]) (st3 := [.float 107, .ref 111]) rfl rfl rfl rfl rfl (p226_3) rfl ?_
      refine sx_RP.callp (as2 := [.ref 111, .float 107]) (rest2 := []) rfl rfl (sx_inv_v2 (mi := 211) (k := 243) (st := [.float 107, .ref 111]) (w := w2) rfl rfl hI3.1.o111 rfl rfl rfl) rfl rfl rfl (s213 (k := 107) hI3 (by decide) rfl (by decide)) (show _ = 73 from rfl) ?_
      rintro r4 w14 ⟨(rfl | rfl), hI15, hE17⟩
      · have hE16 := hE4.tr (hE17.ei)
        have ex18 := (congrArg (fun l => List.getD l 1 0) (ia_of (hE17.1 112 (by decide)))).trans ex12
        show sx_RP _ _ _ _ _ [.int 0] _ _
        refine sx_RP.step (pc2 := 82) (ls2 := [(0, .ref 111), (1, .int 3)]) (st2 := []) (w3 := w14) rfl rfl ?_
        refine sx_RP.step (pc2 := 85) (ls2 := [(1, .int 4), (0, .ref 111)]) (st2 := []) (w3 := w14) rfl rfl ?_
        refine sx_RP.step (pc2 := 32) (ls2 := [(1, .int 4), (0, .ref 111)]) (st2 := []) (w3 := w14) rfl rfl ?_
        exact sx_RP.ls (sx_lr.cons rfl (sx_lr.cons rfl sx_lr.nil)) (kk w14 hI15 hE16)
      · have hE16 := hE4.tr (hE17.ei)
        have ex19 := (congrArg (fun l => List.getD l 1 0) (ia_of (hE17.1 112 (by decide)))).trans ex12
        show sx_RP _ _ _ _ _ [.int 1] _ _
        refine sx_RP.step (pc2 := 76) (ls2 := [(0, .ref 111), (1, .int 3)]) (st2 := []) (w3 := w14) rfl rfl ?_
        refine sx_RP.step (pc2 := 77) (ls2 := [(0, .ref 111), (1, .int 3)]) (st2 := [.ref 111]) (w3 := w14) rfl rfl ?_
        refine sx_RP.step (pc2 := 78) (ls2 := [(0, .ref 111), (1, .int 3)]) (st2 := [.int 3, .ref 111]) (w3 := w14) rfl rfl ?_
        refine sx_RP.callp (as2 := [.ref 111, .int 3]) (rest2 := []) rfl rfl (sx_inv_v2 (mi := 211) (k := 323) (st := [.int 3, .ref 111]) (w := w14) rfl rfl hI15.1.o111 rfl rfl rfl) rfl rfl rfl (s227 hI15 (k := 3) (by omega) (by omega) ex19) (show _ = 81 from rfl) ?_
        rintro r4 w20 ⟨(rfl | rfl), hI21, hE23⟩
        · have hE22 := hE16.tr (hE23)
          show sx_RP _ _ _ _ _ [.int 0] _ _
          refine sx_RP.ret (r := (some (.int 0))) rfl rfl ?_
          exact ⟨Or.inl rfl, hI21, hE22⟩
        · have hE22 := hE16.tr (hE23)
          show sx_RP _ _ _ _ _ [.int 1] _ _
          refine sx_RP.ret (r := (some (.int 1))) rfl rfl ?_
          exact ⟨Or.inr rfl, hI21, hE22⟩
    · replace q13 := Decidable.not_not.mp (of_decide_eq_false q13)
      replace q13 := (nI_eq (a := x10) (b := 10) (by omega) (by omega)).mp q13
      refine sx_RP.step (pc2 := 61) (ls2 := [(0, .ref 111), (1, .int 3)]) (st2 := [.ref 111]) (w3 := w2) rfl rfl ?_
      refine sx_RP.callp (as2 := [.ref 111]) (rest2 := []) rfl rfl (sx_inv_v2 (mi := 211) (k := 245) (st := [.ref 111]) (w := w2) rfl rfl hI3.1.o111 rfl rfl rfl) rfl rfl rfl (s222 hI3) (show _ = 64 from rfl) ?_
      rintro r4 w24 ⟨rfl, hI25, hE27⟩
      have hE26 := hE4.tr (hE27.ei)
      have ex28 := (congrArg (fun l => List.getD l 1 0) (ia_of (hE27.1 112 (by decide)))).trans ex12
      show sx_RP _ _ _ _ _ [.int 0] _ _
      refine sx_RP.ret (r := (some (.int 0))) rfl rfl ?_
      exact ⟨Or.inl rfl, hI25, hE26⟩
set_option maxRecDepth 20000 in
set_option maxHeartbeats 4000000 in
theorem i211b4 {xs : Option (List Int32)} {d : Nat} {w w0 : List sx_C} (hI : WI w) (hE : EI w0 w) (kk : ∀ w2, WI w2 → EI w0 w2 → sx_RP xs (d + 7) 211 32 [(0, .ref 111), (1, .int 5)] [] w2 (fun r w2 => (r = some (.int 0) ∨ r = some (.int 1)) ∧ WI w2 ∧ EI w0 w2)) : sx_RP xs (d + 7) 211 32 [(0, .ref 111), (1, .int 4)] [] w (fun r w2 => (r = some (.int 0) ∨ r = some (.int 1)) ∧ WI w2 ∧ EI w0 w2) := by
  refine sx_RP.step (pc2 := 33) (ls2 := [(0, .ref 111), (1, .int 4)]) (st2 := [.int 4]) (w3 := w) rfl rfl ?_
  refine sx_RP.step (pc2 := 35) (ls2 := [(0, .ref 111), (1, .int 4)]) (st2 := [.int 6, .int 4]) (w3 := w) rfl rfl ?_
  refine sx_RP.step (pc2 := 38) (ls2 := [(0, .ref 111), (1, .int 4)]) (st2 := []) (w3 := w) rfl rfl ?_
  refine sx_RP.step (pc2 := 39) (ls2 := [(0, .ref 111), (1, .int 4)]) (st2 := [.ref 111]) (w3 := w) rfl rfl ?_
  refine sx_RP.step (pc2 := 40) (ls2 := [(0, .ref 111), (1, .int 4)]) (st2 := [.int 4, .ref 111]) (w3 := w) rfl rfl ?_
  refine sx_RP.cu (as := [.int 4]) (rest2 := [.ref 111]) (st3 := [.float 105, .ref 111]) rfl rfl rfl rfl rfl (p226_4) rfl ?_
  refine sx_RP.callp (as2 := [.ref 111, .float 105]) (rest2 := []) rfl rfl (sx_inv_v2 (mi := 211) (k := 239) (st := [.float 105, .ref 111]) (w := w) rfl rfl hI.1.o111 rfl rfl rfl) rfl rfl rfl (s214i (k := 105) hI (by decide) rfl (by decide)) (show _ = 46 from rfl) ?_
  rintro r4 w2 ⟨(⟨rfl, hc1⟩ | rfl), hI3, hE5⟩
  · have hE4 := hE.tr (hE5.ei)
    show sx_RP _ _ _ _ _ [.int 0] _ _
    refine sx_RP.step (pc2 := 65) (ls2 := [(0, .ref 111), (1, .int 4)]) (st2 := []) (w3 := w2) rfl rfl ?_
    refine sx_RP.step (pc2 := 66) (ls2 := [(0, .ref 111), (1, .int 4)]) (st2 := [.ref 111]) (w3 := w2) rfl rfl ?_
    refine sx_RP.step (pc2 := 67) (ls2 := [(0, .ref 111), (1, .int 4)]) (st2 := [.int 4, .ref 111]) (w3 := w2) rfl rfl ?_
    refine sx_RP.cu (as := [.int 4]) (rest2 := [.ref 111]) (st3 := [.float 105, .ref 111]) rfl rfl rfl rfl rfl (p226_4) rfl ?_
    refine sx_RP.callp (as2 := [.ref 111, .float 105]) (rest2 := []) rfl rfl (sx_inv_v2 (mi := 211) (k := 243) (st := [.float 105, .ref 111]) (w := w2) rfl rfl hI3.1.o111 rfl rfl rfl) rfl rfl rfl (s213z (k := 105) hI3 (by decide) rfl (by decide) (hc1 _)) (show _ = 73 from rfl) ?_
    rintro r4 w6 ⟨rfl, hI7, hE9⟩
    have hE8 := hE4.tr (hE9.ei)
    show sx_RP _ _ _ _ _ [.int 0] _ _
    refine sx_RP.step (pc2 := 82) (ls2 := [(0, .ref 111), (1, .int 4)]) (st2 := []) (w3 := w6) rfl rfl ?_
    refine sx_RP.step (pc2 := 85) (ls2 := [(1, .int 5), (0, .ref 111)]) (st2 := []) (w3 := w6) rfl rfl ?_
    refine sx_RP.step (pc2 := 32) (ls2 := [(1, .int 5), (0, .ref 111)]) (st2 := []) (w3 := w6) rfl rfl ?_
    exact sx_RP.ls (sx_lr.cons rfl (sx_lr.cons rfl sx_lr.nil)) (kk w6 hI7 hE8)
  · have hE4 := hE.tr (hE5.ei)
    show sx_RP _ _ _ _ _ [.int 1] _ _
    refine sx_RP.step (pc2 := 49) (ls2 := [(0, .ref 111), (1, .int 4)]) (st2 := []) (w3 := w2) rfl rfl ?_
    refine sx_RP.step (pc2 := 50) (ls2 := [(0, .ref 111), (1, .int 4)]) (st2 := [.ref 111]) (w3 := w2) rfl rfl ?_
    refine sx_RP.gf (v := .ref 112) rfl rfl hI3.1.o111 rfl rfl (show _ = 53 from rfl) ?_
    refine sx_RP.step (pc2 := 54) (ls2 := [(0, .ref 111), (1, .int 4)]) (st2 := [.int 1, .ref 112]) (w3 := w2) rfl rfl ?_
    refine sx_RP.ild (c := 1) rfl hI3.1.a112.1 hI3.1.a112.2 (sx_in_nI (show 1 < 172 by omega) (by decide)) (show (nI 1).toNatClampNeg = 1 from nI_clamp (by omega)) (show _ = 55 from rfl) ?_
    obtain ⟨x10, hx11, ex12⟩ : inR ((ia w2 112).getD 1 0) 10 := (hI3.s (1) (by omega)).1 rfl
    rw [ex12]
    refine sx_RP.step (pc2 := 57) (ls2 := [(0, .ref 111), (1, .int 4)]) (st2 := [.int 10, .int (nI x10)]) (w3 := w2) rfl rfl ?_
    refine sx_RP.br (p1 := 65) (l1 := [(0, .ref 111), (1, .int 4)]) (s1 := []) (v1 := w2) (p2 := 60) (l2 := [(0, .ref 111), (1, .int 4)]) (s2 := []) (v2 := w2) rfl rfl (fun q13 => ?_) (fun q13 => ?_)
    · replace q13 := of_decide_eq_true q13
      replace q13 := mt (nI_eq (a := x10) (b := 10) (by omega) (by omega)).mpr q13
      refine sx_RP.step (pc2 := 66) (ls2 := [(0, .ref 111), (1, .int 4)]) (st2 := [.ref 111]) (w3 := w2) rfl rfl ?_
      refine sx_RP.step (pc2 := 67) (ls2 := [(0, .ref 111), (1, .int 4)]) (st2 := [.int 4, .ref 111]) (w3 := w2) rfl rfl ?_
      refine sx_RP.cu (as := [.int 4]) (rest2 := [.ref 111]) (st3 := [.float 105, .ref 111]) rfl rfl rfl rfl rfl (p226_4) rfl ?_
      refine sx_RP.callp (as2 := [.ref 111, .float 105]) (rest2 := []) rfl rfl (sx_inv_v2 (mi := 211) (k := 243) (st := [.float 105, .ref 111]) (w := w2) rfl rfl hI3.1.o111 rfl rfl rfl) rfl rfl rfl (s213 (k := 105) hI3 (by decide) rfl (by decide)) (show _ = 73 from rfl) ?_
      rintro r4 w14 ⟨(rfl | rfl), hI15, hE17⟩
      · have hE16 := hE4.tr (hE17.ei)
        have ex18 := (congrArg (fun l => List.getD l 1 0) (ia_of (hE17.1 112 (by decide)))).trans ex12
        show sx_RP _ _ _ _ _ [.int 0] _ _
        refine sx_RP.step (pc2 := 82) (ls2 := [(0, .ref 111), (1, .int 4)]) (st2 := []) (w3 := w14) rfl rfl ?_
        refine sx_RP.step (pc2 := 85) (ls2 := [(1, .int 5), (0, .ref 111)]) (st2 := []) (w3 := w14) rfl rfl ?_
        refine sx_RP.step (pc2 := 32) (ls2 := [(1, .int 5), (0, .ref 111)]) (st2 := []) (w3 := w14) rfl rfl ?_
        exact sx_RP.ls (sx_lr.cons rfl (sx_lr.cons rfl sx_lr.nil)) (kk w14 hI15 hE16)
      · have hE16 := hE4.tr (hE17.ei)
        have ex19 := (congrArg (fun l => List.getD l 1 0) (ia_of (hE17.1 112 (by decide)))).trans ex12
        show sx_RP _ _ _ _ _ [.int 1] _ _
        refine sx_RP.step (pc2 := 76) (ls2 := [(0, .ref 111), (1, .int 4)]) (st2 := []) (w3 := w14) rfl rfl ?_
        refine sx_RP.step (pc2 := 77) (ls2 := [(0, .ref 111), (1, .int 4)]) (st2 := [.ref 111]) (w3 := w14) rfl rfl ?_
        refine sx_RP.step (pc2 := 78) (ls2 := [(0, .ref 111), (1, .int 4)]) (st2 := [.int 4, .ref 111]) (w3 := w14) rfl rfl ?_
        refine sx_RP.callp (as2 := [.ref 111, .int 4]) (rest2 := []) rfl rfl (sx_inv_v2 (mi := 211) (k := 323) (st := [.int 4, .ref 111]) (w := w14) rfl rfl hI15.1.o111 rfl rfl rfl) rfl rfl rfl (s227 hI15 (k := 4) (by omega) (by omega) ex19) (show _ = 81 from rfl) ?_
        rintro r4 w20 ⟨(rfl | rfl), hI21, hE23⟩
        · have hE22 := hE16.tr (hE23)
          show sx_RP _ _ _ _ _ [.int 0] _ _
          refine sx_RP.ret (r := (some (.int 0))) rfl rfl ?_
          exact ⟨Or.inl rfl, hI21, hE22⟩
        · have hE22 := hE16.tr (hE23)
          show sx_RP _ _ _ _ _ [.int 1] _ _
          refine sx_RP.ret (r := (some (.int 1))) rfl rfl ?_
          exact ⟨Or.inr rfl, hI21, hE22⟩
    · replace q13 := Decidable.not_not.mp (of_decide_eq_false q13)
      replace q13 := (nI_eq (a := x10) (b := 10) (by omega) (by omega)).mp q13
      refine sx_RP.step (pc2 := 61) (ls2 := [(0, .ref 111), (1, .int 4)]) (st2 := [.ref 111]) (w3 := w2) rfl rfl ?_
      refine sx_RP.callp (as2 := [.ref 111]) (rest2 := []) rfl rfl (sx_inv_v2 (mi := 211) (k := 245) (st := [.ref 111]) (w := w2) rfl rfl hI3.1.o111 rfl rfl rfl) rfl rfl rfl (s222 hI3) (show _ = 64 from rfl) ?_
      rintro r4 w24 ⟨rfl, hI25, hE27⟩
      have hE26 := hE4.tr (hE27.ei)
      have ex28 := (congrArg (fun l => List.getD l 1 0) (ia_of (hE27.1 112 (by decide)))).trans ex12
      show sx_RP _ _ _ _ _ [.int 0] _ _
      refine sx_RP.ret (r := (some (.int 0))) rfl rfl ?_
      exact ⟨Or.inl rfl, hI25, hE26⟩
set_option maxRecDepth 20000 in
set_option maxHeartbeats 4000000 in
theorem i211b5 {xs : Option (List Int32)} {d : Nat} {w w0 : List sx_C} (hI : WI w) (hE : EI w0 w) (kk : ∀ w2, WI w2 → EI w0 w2 → sx_RP xs (d + 7) 211 32 [(0, .ref 111), (1, .int 6)] [] w2 (fun r w2 => (r = some (.int 0) ∨ r = some (.int 1)) ∧ WI w2 ∧ EI w0 w2)) : sx_RP xs (d + 7) 211 32 [(0, .ref 111), (1, .int 5)] [] w (fun r w2 => (r = some (.int 0) ∨ r = some (.int 1)) ∧ WI w2 ∧ EI w0 w2) := by
  refine sx_RP.step (pc2 := 33) (ls2 := [(0, .ref 111), (1, .int 5)]) (st2 := [.int 5]) (w3 := w) rfl rfl ?_
  refine sx_RP.step (pc2 := 35) (ls2 := [(0, .ref 111), (1, .int 5)]) (st2 := [.int 6, .int 5]) (w3 := w) rfl rfl ?_
  refine sx_RP.step (pc2 := 38) (ls2 := [(0, .ref 111), (1, .int 5)]) (st2 := []) (w3 := w) rfl rfl ?_
  refine sx_RP.step (pc2 := 39) (ls2 := [(0, .ref 111), (1, .int 5)]) (st2 := [.ref 111]) (w3 := w) rfl rfl ?_
  refine sx_RP.step (pc2 := 40) (ls2 := [(0, .ref 111), (1, .int 5)]) (st2 := [.int 5, .ref 111]) (w3 := w) rfl rfl ?_
  refine sx_RP.cu (as := [.int 5]) (rest2 := [.ref 111]) (st3 := [.float 103, .ref 111]) rfl rfl rfl rfl rfl (p226_5) rfl ?_
  refine sx_RP.callp (as2 := [.ref 111, .float 103]) (rest2 := []) rfl rfl (sx_inv_v2 (mi := 211) (k := 239) (st := [.float 103, .ref 111]) (w := w) rfl rfl hI.1.o111 rfl rfl rfl) rfl rfl rfl (s214i (k := 103) hI (by decide) rfl (by decide)) (show _ = 46 from rfl) ?_
  rintro r4 w2 ⟨(⟨rfl, hc1⟩ | rfl), hI3, hE5⟩
  · have hE4 := hE.tr (hE5.ei)
    show sx_RP _ _ _ _ _ [.int 0] _ _
    refine sx_RP.step (pc2 := 65) (ls2 := [(0, .ref 111), (1, .int 5)]) (st2 := []) (w3 := w2) rfl rfl ?_
    refine sx_RP.step (pc2 := 66) (ls2 := [(0, .ref 111), (1, .int 5)]) (st2 := [.ref 111]) (w3 := w2) rfl rfl ?_
    refine sx_RP.step (pc2 := 67) (ls2 := [(0, .ref 111), (1, .int 5)]) (st2 := [.int 5, .ref 111]) (w3 := w2) rfl rfl ?_
    refine sx_RP.cu (as := [.int 5]) (rest2 := [.ref 111]) (st3 := [.float 103, .ref 111]) rfl rfl rfl rfl rfl (p226_5) rfl ?_
    refine sx_RP.callp (as2 := [.ref 111, .float 103]) (rest2 := []) rfl rfl (sx_inv_v2 (mi := 211) (k := 243) (st := [.float 103, .ref 111]) (w := w2) rfl rfl hI3.1.o111 rfl rfl rfl) rfl rfl rfl (s213z (k := 103) hI3 (by decide) rfl (by decide) (hc1 _)) (show _ = 73 from rfl) ?_
    rintro r4 w6 ⟨rfl, hI7, hE9⟩
    have hE8 := hE4.tr (hE9.ei)
    show sx_RP _ _ _ _ _ [.int 0] _ _
    refine sx_RP.step (pc2 := 82) (ls2 := [(0, .ref 111), (1, .int 5)]) (st2 := []) (w3 := w6) rfl rfl ?_
    refine sx_RP.step (pc2 := 85) (ls2 := [(1, .int 6), (0, .ref 111)]) (st2 := []) (w3 := w6) rfl rfl ?_
    refine sx_RP.step (pc2 := 32) (ls2 := [(1, .int 6), (0, .ref 111)]) (st2 := []) (w3 := w6) rfl rfl ?_
    exact sx_RP.ls (sx_lr.cons rfl (sx_lr.cons rfl sx_lr.nil)) (kk w6 hI7 hE8)
  · have hE4 := hE.tr (hE5.ei)
    show sx_RP _ _ _ _ _ [.int 1] _ _
    refine sx_RP.step (pc2 := 49) (ls2 := [(0, .ref 111), (1, .int 5)]) (st2 := []) (w3 := w2) rfl rfl ?_
    refine sx_RP.step (pc2 := 50) (ls2 := [(0, .ref 111), (1, .int 5)]) (st2 := [.ref 111]) (w3 := w2) rfl rfl ?_
    refine sx_RP.gf (v := .ref 112) rfl rfl hI3.1.o111 rfl rfl (show _ = 53 from rfl) ?_
    refine sx_RP.step (pc2 := 54) (ls2 := [(0, .ref 111), (1, .int 5)]) (st2 := [.int 1, .ref 112]) (w3 := w2) rfl rfl ?_
    refine sx_RP.ild (c := 1) rfl hI3.1.a112.1 hI3.1.a112.2 (sx_in_nI (show 1 < 172 by omega) (by decide)) (show (nI 1).toNatClampNeg = 1 from nI_clamp (by omega)) (show _ = 55 from rfl) ?_
    obtain ⟨x10, hx11, ex12⟩ : inR ((ia w2 112).getD 1 0) 10 := (hI3.s (1) (by omega)).1 rfl
    rw [ex12]
    refine sx_RP.step (pc2 := 57) (ls2 := [(0, .ref 111), (1, .int 5)]) (st2 := [.int 10, .int (nI x10)]) (w3 := w2) rfl rfl ?_
    refine sx_RP.br (p1 := 65) (l1 := [(0, .ref 111), (1, .int 5)]) (s1 := []) (v1 := w2) (p2 := 60) (l2 := [(0, .ref 111), (1, .int 5)]) (s2 := []) (v2 := w2) rfl rfl (fun q13 => ?_) (fun q13 => ?_)
    · replace q13 := of_decide_eq_true q13
      replace q13 := mt (nI_eq (a := x10) (b := 10) (by omega) (by omega)).mpr q13
      refine sx_RP.step (pc2 := 66) (ls2 := [(0, .ref 111), (1, .int 5)]) (st2 := [.ref 111]) (w3 := w2) rfl rfl ?_
      refine sx_RP.step (pc2 := 67) (ls2 := [(0, .ref 111), (1, .int 5)]) (st2 := [.int 5, .ref 111]) (w3 := w2) rfl rfl ?_
      refine sx_RP.cu (as := [.int 5]) (rest2 := [.ref 111]) (st3 := [.float 103, .ref 111]) rfl rfl rfl rfl rfl (p226_5) rfl ?_
      refine sx_RP.callp (as2 := [.ref 111, .float 103]) (rest2 := []) rfl rfl (sx_inv_v2 (mi := 211) (k := 243) (st := [.float 103, .ref 111]) (w := w2) rfl rfl hI3.1.o111 rfl rfl rfl) rfl rfl rfl (s213 (k := 103) hI3 (by decide) rfl (by decide)) (show _ = 73 from rfl) ?_
      rintro r4 w14 ⟨(rfl | rfl), hI15, hE17⟩
      · have hE16 := hE4.tr (hE17.ei)
        have ex18 := (congrArg (fun l => List.getD l 1 0) (ia_of (hE17.1 112 (by decide)))).trans ex12
        show sx_RP _ _ _ _ _ [.int 0] _ _
        refine sx_RP.step (pc2 := 82) (ls2 := [(0, .ref 111), (1, .int 5)]) (st2 := []) (w3 := w14) rfl rfl ?_
        refine sx_RP.step (pc2 := 85) (ls2 := [(1, .int 6), (0, .ref 111)]) (st2 := []) (w3 := w14) rfl rfl ?_
        refine sx_RP.step (pc2 := 32) (ls2 := [(1, .int 6), (0, .ref 111)]) (st2 := []) (w3 := w14) rfl rfl ?_
        exact sx_RP.ls (sx_lr.cons rfl (sx_lr.cons rfl sx_lr.nil)) (kk w14 hI15 hE16)
      · have hE16 := hE4.tr (hE17.ei)
        have ex19 := (congrArg (fun l => List.getD l 1 0) (ia_of (hE17.1 112 (by decide)))).trans ex12
        show sx_RP _ _ _ _ _ [.int 1] _ _
        refine sx_RP.step (pc2 := 76) (ls2 := [(0, .ref 111), (1, .int 5)]) (st2 := []) (w3 := w14) rfl rfl ?_
        refine sx_RP.step (pc2 := 77) (ls2 := [(0, .ref 111), (1, .int 5)]) (st2 := [.ref 111]) (w3 := w14) rfl rfl ?_
        refine sx_RP.step (pc2 := 78) (ls2 := [(0, .ref 111), (1, .int 5)]) (st2 := [.int 5, .ref 111]) (w3 := w14) rfl rfl ?_
        refine sx_RP.callp (as2 := [.ref 111, .int 5]) (rest2 := []) rfl rfl (sx_inv_v2 (mi := 211) (k := 323) (st := [.int 5, .ref 111]) (w := w14) rfl rfl hI15.1.o111 rfl rfl rfl) rfl rfl rfl (s227 hI15 (k := 5) (by omega) (by omega) ex19) (show _ = 81 from rfl) ?_
        rintro r4 w20 ⟨(rfl | rfl), hI21, hE23⟩
        · have hE22 := hE16.tr (hE23)
          show sx_RP _ _ _ _ _ [.int 0] _ _
          refine sx_RP.ret (r := (some (.int 0))) rfl rfl ?_
          exact ⟨Or.inl rfl, hI21, hE22⟩
        · have hE22 := hE16.tr (hE23)
          show sx_RP _ _ _ _ _ [.int 1] _ _
          refine sx_RP.ret (r := (some (.int 1))) rfl rfl ?_
          exact ⟨Or.inr rfl, hI21, hE22⟩
    · replace q13 := Decidable.not_not.mp (of_decide_eq_false q13)
      replace q13 := (nI_eq (a := x10) (b := 10) (by omega) (by omega)).mp q13
      refine sx_RP.step (pc2 := 61) (ls2 := [(0, .ref 111), (1, .int 5)]) (st2 := [.ref 111]) (w3 := w2) rfl rfl ?_
      refine sx_RP.callp (as2 := [.ref 111]) (rest2 := []) rfl rfl (sx_inv_v2 (mi := 211) (k := 245) (st := [.ref 111]) (w := w2) rfl rfl hI3.1.o111 rfl rfl rfl) rfl rfl rfl (s222 hI3) (show _ = 64 from rfl) ?_
      rintro r4 w24 ⟨rfl, hI25, hE27⟩
      have hE26 := hE4.tr (hE27.ei)
      have ex28 := (congrArg (fun l => List.getD l 1 0) (ia_of (hE27.1 112 (by decide)))).trans ex12
      show sx_RP _ _ _ _ _ [.int 0] _ _
      refine sx_RP.ret (r := (some (.int 0))) rfl rfl ?_
      exact ⟨Or.inl rfl, hI25, hE26⟩
set_option maxRecDepth 20000 in
set_option maxHeartbeats 4000000 in
theorem i211b6 {xs : Option (List Int32)} {d : Nat} {w w0 : List sx_C} (hI : WI w) (hE : EI w0 w) (kk : ∀ w2, WI w2 → EI w0 w2 → sx_RP xs (d + 7) 211 88 [(0, .ref 111)] [] w2 (fun r w2 => (r = some (.int 0) ∨ r = some (.int 1)) ∧ WI w2 ∧ EI w0 w2)) : sx_RP xs (d + 7) 211 32 [(0, .ref 111), (1, .int 6)] [] w (fun r w2 => (r = some (.int 0) ∨ r = some (.int 1)) ∧ WI w2 ∧ EI w0 w2) := by
  refine sx_RP.step (pc2 := 33) (ls2 := [(0, .ref 111), (1, .int 6)]) (st2 := [.int 6]) (w3 := w) rfl rfl ?_
  refine sx_RP.step (pc2 := 35) (ls2 := [(0, .ref 111), (1, .int 6)]) (st2 := [.int 6, .int 6]) (w3 := w) rfl rfl ?_
  refine sx_RP.step (pc2 := 88) (ls2 := [(0, .ref 111), (1, .int 6)]) (st2 := []) (w3 := w) rfl rfl ?_
  exact sx_RP.ls (sx_lr.cons rfl sx_lr.nil) (kk w hI hE)
set_option maxRecDepth 20000 in
set_option maxHeartbeats 4000000 in
theorem i211d {xs : Option (List Int32)} {d : Nat} {w w0 : List sx_C} (hI : WI w) (hE : EI w0 w) : sx_RP xs (d + 7) 211 88 [(0, .ref 111)] [] w (fun r w2 => (r = some (.int 0) ∨ r = some (.int 1)) ∧ WI w2 ∧ EI w0 w2) := by
  refine sx_RP.step (pc2 := 89) (ls2 := [(0, .ref 111)]) (st2 := [.ref 111]) (w3 := w) rfl rfl ?_
  refine sx_RP.step (pc2 := 92) (ls2 := [(0, .ref 111)]) (st2 := [.float 104, .ref 111]) (w3 := w) rfl rfl ?_
  refine sx_RP.callp (as2 := [.ref 111, .float 104]) (rest2 := []) rfl rfl (sx_inv_v2 (mi := 211) (k := 239) (st := [.float 104, .ref 111]) (w := w) rfl rfl hI.1.o111 rfl rfl rfl) rfl rfl rfl (s214i (k := 104) hI (by decide) rfl (by decide)) (show _ = 95 from rfl) ?_
  rintro r4 w2 ⟨(⟨rfl, hc1⟩ | rfl), hI3, hE5⟩
  · have hE4 := hE.tr (hE5.ei)
    show sx_RP _ _ _ _ _ [.int 0] _ _
    refine sx_RP.step (pc2 := 114) (ls2 := [(0, .ref 111)]) (st2 := []) (w3 := w2) rfl rfl ?_
    refine sx_RP.step (pc2 := 115) (ls2 := [(0, .ref 111)]) (st2 := [.ref 111]) (w3 := w2) rfl rfl ?_
    refine sx_RP.step (pc2 := 118) (ls2 := [(0, .ref 111)]) (st2 := [.float 104, .ref 111]) (w3 := w2) rfl rfl ?_
    refine sx_RP.callp (as2 := [.ref 111, .float 104]) (rest2 := []) rfl rfl (sx_inv_v2 (mi := 211) (k := 243) (st := [.float 104, .ref 111]) (w := w2) rfl rfl hI3.1.o111 rfl rfl rfl) rfl rfl rfl (s213z (k := 104) hI3 (by decide) rfl (by decide) (hc1 _)) (show _ = 121 from rfl) ?_
    rintro r4 w6 ⟨rfl, hI7, hE9⟩
    have hE8 := hE4.tr (hE9.ei)
    show sx_RP _ _ _ _ _ [.int 0] _ _
    refine sx_RP.step (pc2 := 167) (ls2 := [(0, .ref 111)]) (st2 := []) (w3 := w6) rfl rfl ?_
    refine sx_RP.step (pc2 := 168) (ls2 := [(0, .ref 111)]) (st2 := [.ref 111]) (w3 := w6) rfl rfl ?_
    refine sx_RP.step (pc2 := 171) (ls2 := [(0, .ref 111)]) (st2 := [.float 101, .ref 111]) (w3 := w6) rfl rfl ?_
    refine sx_RP.callp (as2 := [.ref 111, .float 101]) (rest2 := []) rfl rfl (sx_inv_v2 (mi := 211) (k := 282) (st := [.float 101, .ref 111]) (w := w6) rfl rfl hI7.1.o111 rfl rfl rfl) rfl rfl rfl (s228 (k := 101) hI7 (by decide) rfl (by decide)) (show _ = 174 from rfl) ?_
    rintro r4 w10 ⟨(rfl | rfl), hI11, hE13⟩
    · have hE12 := hE8.tr (hE13.ei)
      show sx_RP _ _ _ _ _ [.int 0] _ _
      refine sx_RP.step (pc2 := 188) (ls2 := [(0, .ref 111)]) (st2 := []) (w3 := w10) rfl rfl ?_
      refine sx_RP.step (pc2 := 189) (ls2 := [(0, .ref 111)]) (st2 := [.int 0]) (w3 := w10) rfl rfl ?_
      refine sx_RP.ret (r := (some (.int 0))) rfl rfl ?_
      exact ⟨Or.inl rfl, hI11, hE12⟩
    · have hE12 := hE8.tr (hE13.ei)
      show sx_RP _ _ _ _ _ [.int 1] _ _
      refine sx_RP.step (pc2 := 177) (ls2 := [(0, .ref 111)]) (st2 := []) (w3 := w10) rfl rfl ?_
      refine sx_RP.step (pc2 := 178) (ls2 := [(0, .ref 111)]) (st2 := [.ref 111]) (w3 := w10) rfl rfl ?_
      refine sx_RP.callp (as2 := [.ref 111]) (rest2 := []) rfl rfl (sx_inv_v2 (mi := 211) (k := 330) (st := [.ref 111]) (w := w10) rfl rfl hI11.1.o111 rfl rfl rfl) rfl rfl rfl (s229 hI11 ) (show _ = 181 from rfl) ?_
      rintro r4 w14 ⟨(rfl | rfl), hI15, hE17⟩
      · have hE16 := hE12.tr (hE17)
        show sx_RP _ _ _ _ _ [.int 0] _ _
        refine sx_RP.step (pc2 := 188) (ls2 := [(0, .ref 111)]) (st2 := []) (w3 := w14) rfl rfl ?_
        refine sx_RP.step (pc2 := 189) (ls2 := [(0, .ref 111)]) (st2 := [.int 0]) (w3 := w14) rfl rfl ?_
        refine sx_RP.ret (r := (some (.int 0))) rfl rfl ?_
        exact ⟨Or.inl rfl, hI15, hE16⟩
      · have hE16 := hE12.tr (hE17)
        show sx_RP _ _ _ _ _ [.int 1] _ _
        refine sx_RP.step (pc2 := 184) (ls2 := [(0, .ref 111)]) (st2 := []) (w3 := w14) rfl rfl ?_
        refine sx_RP.step (pc2 := 185) (ls2 := [(0, .ref 111)]) (st2 := [.int 1]) (w3 := w14) rfl rfl ?_
        refine sx_RP.step (pc2 := 189) (ls2 := [(0, .ref 111)]) (st2 := [.int 1]) (w3 := w14) rfl rfl ?_
        refine sx_RP.ret (r := (some (.int 1))) rfl rfl ?_
        exact ⟨Or.inr rfl, hI15, hE16⟩
  · have hE4 := hE.tr (hE5.ei)
    show sx_RP _ _ _ _ _ [.int 1] _ _
    refine sx_RP.step (pc2 := 98) (ls2 := [(0, .ref 111)]) (st2 := []) (w3 := w2) rfl rfl ?_
    refine sx_RP.step (pc2 := 99) (ls2 := [(0, .ref 111)]) (st2 := [.ref 111]) (w3 := w2) rfl rfl ?_
    refine sx_RP.gf (v := .ref 112) rfl rfl hI3.1.o111 rfl rfl (show _ = 102 from rfl) ?_
    refine sx_RP.step (pc2 := 103) (ls2 := [(0, .ref 111)]) (st2 := [.int 2, .ref 112]) (w3 := w2) rfl rfl ?_
    refine sx_RP.ild (c := 2) rfl hI3.1.a112.1 hI3.1.a112.2 (sx_in_nI (show 2 < 172 by omega) (by decide)) (show (nI 2).toNatClampNeg = 2 from nI_clamp (by omega)) (show _ = 104 from rfl) ?_
    obtain ⟨x18, hx19, ex20⟩ : inR ((ia w2 112).getD 2 0) 9 := (hI3.s (2) (by omega)).2.1 rfl
    rw [ex20]
    refine sx_RP.step (pc2 := 106) (ls2 := [(0, .ref 111)]) (st2 := [.int 9, .int (nI x18)]) (w3 := w2) rfl rfl ?_
    refine sx_RP.br (p1 := 114) (l1 := [(0, .ref 111)]) (s1 := []) (v1 := w2) (p2 := 109) (l2 := [(0, .ref 111)]) (s2 := []) (v2 := w2) rfl rfl (fun q21 => ?_) (fun q21 => ?_)
    · replace q21 := of_decide_eq_true q21
      replace q21 := mt (nI_eq (a := x18) (b := 9) (by omega) (by omega)).mpr q21
      refine sx_RP.step (pc2 := 115) (ls2 := [(0, .ref 111)]) (st2 := [.ref 111]) (w3 := w2) rfl rfl ?_
      refine sx_RP.step (pc2 := 118) (ls2 := [(0, .ref 111)]) (st2 := [.float 104, .ref 111]) (w3 := w2) rfl rfl ?_
      refine sx_RP.callp (as2 := [.ref 111, .float 104]) (rest2 := []) rfl rfl (sx_inv_v2 (mi := 211) (k := 243) (st := [.float 104, .ref 111]) (w := w2) rfl rfl hI3.1.o111 rfl rfl rfl) rfl rfl rfl (s213 (k := 104) hI3 (by decide) rfl (by decide)) (show _ = 121 from rfl) ?_
      rintro r4 w22 ⟨(rfl | rfl), hI23, hE25⟩
      · have hE24 := hE4.tr (hE25.ei)
        have ex26 := (congrArg (fun l => List.getD l 2 0) (ia_of (hE25.1 112 (by decide)))).trans ex20
        show sx_RP _ _ _ _ _ [.int 0] _ _
        refine sx_RP.step (pc2 := 167) (ls2 := [(0, .ref 111)]) (st2 := []) (w3 := w22) rfl rfl ?_
        refine sx_RP.step (pc2 := 168) (ls2 := [(0, .ref 111)]) (st2 := [.ref 111]) (w3 := w22) rfl rfl ?_
        refine sx_RP.step (pc2 := 171) (ls2 := [(0, .ref 111)]) (st2 := [.float 101, .ref 111]) (w3 := w22) rfl rfl ?_
        refine sx_RP.callp (as2 := [.ref 111, .float 101]) (rest2 := []) rfl rfl (sx_inv_v2 (mi := 211) (k := 282) (st := [.float 101, .ref 111]) (w := w22) rfl rfl hI23.1.o111 rfl rfl rfl) rfl rfl rfl (s228 (k := 101) hI23 (by decide) rfl (by decide)) (show _ = 174 from rfl) ?_
        rintro r4 w27 ⟨(rfl | rfl), hI28, hE30⟩
        · have hE29 := hE24.tr (hE30.ei)
          have ex31 := (congrArg (fun l => List.getD l 2 0) (ia_of (hE30.1 112 (by decide)))).trans ex26
          show sx_RP _ _ _ _ _ [.int 0] _ _
          refine sx_RP.step (pc2 := 188) (ls2 := [(0, .ref 111)]) (st2 := []) (w3 := w27) rfl rfl ?_
          refine sx_RP.step (pc2 := 189) (ls2 := [(0, .ref 111)]) (st2 := [.int 0]) (w3 := w27) rfl rfl ?_
          refine sx_RP.ret (r := (some (.int 0))) rfl rfl ?_
          exact ⟨Or.inl rfl, hI28, hE29⟩
        · have hE29 := hE24.tr (hE30.ei)
          have ex32 := (congrArg (fun l => List.getD l 2 0) (ia_of (hE30.1 112 (by decide)))).trans ex26
          show sx_RP _ _ _ _ _ [.int 1] _ _
          refine sx_RP.step (pc2 := 177) (ls2 := [(0, .ref 111)]) (st2 := []) (w3 := w27) rfl rfl ?_
          refine sx_RP.step (pc2 := 178) (ls2 := [(0, .ref 111)]) (st2 := [.ref 111]) (w3 := w27) rfl rfl ?_
          refine sx_RP.callp (as2 := [.ref 111]) (rest2 := []) rfl rfl (sx_inv_v2 (mi := 211) (k := 330) (st := [.ref 111]) (w := w27) rfl rfl hI28.1.o111 rfl rfl rfl) rfl rfl rfl (s229 hI28 ) (show _ = 181 from rfl) ?_
          rintro r4 w33 ⟨(rfl | rfl), hI34, hE36⟩
          · have hE35 := hE29.tr (hE36)
            show sx_RP _ _ _ _ _ [.int 0] _ _
            refine sx_RP.step (pc2 := 188) (ls2 := [(0, .ref 111)]) (st2 := []) (w3 := w33) rfl rfl ?_
            refine sx_RP.step (pc2 := 189) (ls2 := [(0, .ref 111)]) (st2 := [.int 0]) (w3 := w33) rfl rfl ?_
            refine sx_RP.ret (r := (some (.int 0))) rfl rfl ?_
            exact ⟨Or.inl rfl, hI34, hE35⟩
          · have hE35 := hE29.tr (hE36)
            show sx_RP _ _ _ _ _ [.int 1] _ _
            refine sx_RP.step (pc2 := 184) (ls2 := [(0, .ref 111)]) (st2 := []) (w3 := w33) rfl rfl ?_
            refine sx_RP.step (pc2 := 185) (ls2 := [(0, .ref 111)]) (st2 := [.int 1]) (w3 := w33) rfl rfl ?_
            refine sx_RP.step (pc2 := 189) (ls2 := [(0, .ref 111)]) (st2 := [.int 1]) (w3 := w33) rfl rfl ?_
            refine sx_RP.ret (r := (some (.int 1))) rfl rfl ?_
            exact ⟨Or.inr rfl, hI34, hE35⟩
      · have hE24 := hE4.tr (hE25.ei)
        have ex37 := (congrArg (fun l => List.getD l 2 0) (ia_of (hE25.1 112 (by decide)))).trans ex20
        show sx_RP _ _ _ _ _ [.int 1] _ _
        refine sx_RP.step (pc2 := 124) (ls2 := [(0, .ref 111)]) (st2 := []) (w3 := w22) rfl rfl ?_
        refine sx_RP.step (pc2 := 125) (ls2 := [(0, .ref 111)]) (st2 := [.ref 111]) (w3 := w22) rfl rfl ?_
        refine sx_RP.step (pc2 := 126) (ls2 := [(0, .ref 111)]) (st2 := [.int 0, .ref 111]) (w3 := w22) rfl rfl ?_
        refine sx_RP.step (pc2 := 128) (ls2 := [(0, .ref 111)]) (st2 := [.int 47, .int 0, .ref 111]) (w3 := w22) rfl rfl ?_
        refine sx_RP.callp (as2 := [.ref 111, .int 0, .int 47]) (rest2 := []) rfl rfl (sx_inv_v2 (mi := 211) (k := 267) (st := [.int 47, .int 0, .ref 111]) (w := w22) rfl rfl hI23.1.o111 rfl rfl rfl) rfl rfl rfl (s220 (m := 0) (n := 47) hI23 (by omega) (by omega)) (show _ = 131 from rfl) ?_
        rintro r4 w42 ⟨(rfl | ⟨x38, ⟨hx39, hx40, ex41⟩, rfl⟩), hI43, hE45⟩
        · have hE44 := hE24.tr (hE45.ei)
          have ex46 := (congrArg (fun l => List.getD l 2 0) (ia_of (hE45.1 112 (by decide)))).trans ex37
          show sx_RP _ _ _ _ _ [.int 0] _ _
          refine sx_RP.step (pc2 := 134) (ls2 := [(0, .ref 111)]) (st2 := []) (w3 := w42) rfl rfl ?_
          refine sx_RP.step (pc2 := 135) (ls2 := [(0, .ref 111)]) (st2 := [.int 0]) (w3 := w42) rfl rfl ?_
          refine sx_RP.ret (r := (some (.int 0))) rfl rfl ?_
          exact ⟨Or.inl rfl, hI43, hE44⟩
        · have hE44 := hE24.tr (hE45.ei)
          have ex47 := (congrArg (fun l => List.getD l 2 0) (ia_of (hE45.1 112 (by decide)))).trans ex37
          show sx_RP _ _ _ _ _ [.int 1] _ _
          refine sx_RP.step (pc2 := 136) (ls2 := [(0, .ref 111)]) (st2 := []) (w3 := w42) rfl rfl ?_
          refine sx_RP.step (pc2 := 137) (ls2 := [(0, .ref 111)]) (st2 := [.ref 111]) (w3 := w42) rfl rfl ?_
          refine sx_RP.gf (v := .ref 112) rfl rfl hI43.1.o111 rfl rfl (show _ = 140 from rfl) ?_
          refine sx_RP.step (pc2 := 143) (ls2 := [(0, .ref 111)]) (st2 := [.int 163, .ref 112]) (w3 := w42) rfl rfl ?_
          refine sx_RP.step (pc2 := 144) (ls2 := [(0, .ref 111)]) (st2 := [.ref 111, .int 163, .ref 112]) (w3 := w42) rfl rfl ?_
          refine sx_RP.gf (v := .ref 112) rfl rfl hI43.1.o111 rfl rfl (show _ = 147 from rfl) ?_
          refine sx_RP.step (pc2 := 148) (ls2 := [(0, .ref 111)]) (st2 := [.int 2, .ref 112, .int 163, .ref 112]) (w3 := w42) rfl rfl ?_
          refine sx_RP.ild (c := 2) rfl hI43.1.a112.1 hI43.1.a112.2 (sx_in_nI (show 2 < 172 by omega) (by decide)) (show (nI 2).toNatClampNeg = 2 from nI_clamp (by omega)) (show _ = 149 from rfl) ?_
          rw [ex47]
          refine sx_RP.step (pc2 := 150) (ls2 := [(0, .ref 111)]) (st2 := [.int (163 + (nI x18)), .ref 112]) (w3 := w42) rfl rfl ?_
          rw [show (163 + (nI x18) : Int32) = nI (163 + x18) from nI_add 163 x18]
          refine sx_RP.step (pc2 := 151) (ls2 := [(0, .ref 111)]) (st2 := [.ref 111, .int (nI (163 + x18)), .ref 112]) (w3 := w42) rfl rfl ?_
          refine sx_RP.gf (v := .int (fi w42 111 14)) rfl rfl hI43.1.o111 rfl rfl (show _ = 154 from rfl) ?_
          rw [ex41]
          refine sx_RP.mSI (k := (163 + x18)) hI43 hE44 (by decide) rfl rfl (by omega) (eOK_d (by omega) (inR.n (show x38 ≤ 47 by omega))) (show _ = 155 from rfl) (fun w48 hI49 hE50 hk51 => ?_)
          have ex52 := (hk51 2 (by omega) (by omega)).trans ex47
          refine sx_RP.step (pc2 := 156) (ls2 := [(0, .ref 111)]) (st2 := [.ref 111]) (w3 := w48) rfl rfl ?_
          refine sx_RP.gf (v := .ref 112) rfl rfl hI49.1.o111 rfl rfl (show _ = 159 from rfl) ?_
          refine sx_RP.step (pc2 := 160) (ls2 := [(0, .ref 111)]) (st2 := [.int 2, .ref 112]) (w3 := w48) rfl rfl ?_
          refine sx_RP.step (pc2 := 161) (ls2 := [(0, .ref 111)]) (st2 := [.int 2, .ref 112, .int 2, .ref 112]) (w3 := w48) rfl rfl ?_
          refine sx_RP.ild (c := 2) rfl hI49.1.a112.1 hI49.1.a112.2 (sx_in_nI (show 2 < 172 by omega) (by decide)) (show (nI 2).toNatClampNeg = 2 from nI_clamp (by omega)) (show _ = 162 from rfl) ?_
          rw [ex52]
          refine sx_RP.step (pc2 := 163) (ls2 := [(0, .ref 111)]) (st2 := [.int 1, .int (nI x18), .int 2, .ref 112]) (w3 := w48) rfl rfl ?_
          refine sx_RP.step (pc2 := 164) (ls2 := [(0, .ref 111)]) (st2 := [.int ((nI x18) + 1), .int 2, .ref 112]) (w3 := w48) rfl rfl ?_
          rw [show ((nI x18) + 1 : Int32) = nI (x18 + 1) from nI_add x18 1]
          refine sx_RP.mSI (k := 2) hI49 hE50 (by decide) rfl rfl (by omega) (eOK_2 (inR.n (show (x18 + 1) ≤ 9 by omega))) (show _ = 165 from rfl) (fun w53 hI54 hE55 hk56 => ?_)
          refine sx_RP.step (pc2 := 166) (ls2 := [(0, .ref 111)]) (st2 := [.int 1]) (w3 := w53) rfl rfl ?_
          refine sx_RP.ret (r := (some (.int 1))) rfl rfl ?_
          exact ⟨Or.inr rfl, hI54, hE55⟩
    · replace q21 := Decidable.not_not.mp (of_decide_eq_false q21)
      replace q21 := (nI_eq (a := x18) (b := 9) (by omega) (by omega)).mp q21
      refine sx_RP.step (pc2 := 110) (ls2 := [(0, .ref 111)]) (st2 := [.ref 111]) (w3 := w2) rfl rfl ?_
      refine sx_RP.callp (as2 := [.ref 111]) (rest2 := []) rfl rfl (sx_inv_v2 (mi := 211) (k := 245) (st := [.ref 111]) (w := w2) rfl rfl hI3.1.o111 rfl rfl rfl) rfl rfl rfl (s222 hI3) (show _ = 113 from rfl) ?_
      rintro r4 w57 ⟨rfl, hI58, hE60⟩
      have hE59 := hE4.tr (hE60.ei)
      have ex61 := (congrArg (fun l => List.getD l 2 0) (ia_of (hE60.1 112 (by decide)))).trans ex20
      show sx_RP _ _ _ _ _ [.int 0] _ _
      refine sx_RP.ret (r := (some (.int 0))) rfl rfl ?_
      exact ⟨Or.inl rfl, hI58, hE59⟩
theorem s211 {xs : Option (List Int32)} {d : Nat} {w : List sx_C} (hI0 : WI w) : sx_RP xs (d + 7) 211 0 (lv_args 0 [.ref 111]) [] w (fun r w2 => (r = some (.int 0) ∨ r = some (.int 1)) ∧ WI w2 ∧ EI w w2) := by
  have hE0 : EI w w := EI.rf
  refine sx_RP.step (pc2 := 1) (ls2 := [(0, .ref 111)]) (st2 := [.int 0]) (w3 := w) rfl rfl ?_
  refine sx_RP.step (pc2 := 2) (ls2 := [(1, .int 0), (0, .ref 111)]) (st2 := []) (w3 := w) rfl rfl ?_
  exact sx_RP.ls (sx_lr.cons rfl (sx_lr.cons rfl sx_lr.nil)) (i211a0 hI0 hE0 (fun w1 hI1 hE1 => i211a1 hI1 hE1 (fun w2 hI2 hE2 => i211a2 hI2 hE2 (fun w3 hI3 hE3 => i211a3 hI3 hE3 (fun w4 hI4 hE4 => i211a4 hI4 hE4 (fun w5 hI5 hE5 => i211a5 hI5 hE5 (fun w6 hI6 hE6 => i211b0 hI6 hE6 (fun w7 hI7 hE7 => i211b1 hI7 hE7 (fun w8 hI8 hE8 => i211b2 hI8 hE8 (fun w9 hI9 hE9 => i211b3 hI9 hE9 (fun w10 hI10 hE10 => i211b4 hI10 hE10 (fun w11 hI11 hE11 => i211b5 hI11 hE11 (fun w12 hI12 hE12 => i211b6 hI12 hE12 (fun w13 hI13 hE13 => i211d hI13 hE13))))))))))))))
end
-- 76.siegeM.lean.txt
section
-- safety: siege of the reference
theorem sx_RP.pmF {xs : Option (List Int32)} {d mi pc pc2 idx p : Nat} {ls : sx_L} {r : List Value} {w w0 : List sx_C} {P : Option Value → List sx_C → Prop} {k : Nat} {v : Int32} (hI : WI w) (hE : EF w0 w) (hi : sx_ins mi pc = some (.putfield idx, 3)) (hq : sx_lk (sx_fl (sx_own mi)) idx = some (6, k, p)) (hk : 12 ≤ k ∧ k < 15) (hf : sx_fin mi 6 k = true) (hv : mR k v) (hp : pc + 3 = pc2) (kk : ∀ w2, WI w2 → EF w0 w2 → fi w2 111 k = v → (∀ j, j ≠ k → fi w2 111 j = fi w 111 j) → (∀ a, a ≠ 111 → w2[a]? = w[a]?) → sx_RP xs d mi pc2 ls r w2 P) : sx_RP xs d mi pc ls (.int v :: .ref 111 :: r) w P :=
  sx_RP.pm hI EM.rf hi hq hk hf hv hp (fun w2 h1 h2 h3 h4 h5 => kk w2 h1 (hE.tr (h2.ef hI h1)) h3 h4 h5)
theorem hr_n {w w2 : List sx_C} {p x : Nat} (ep : fi w 111 12 = nI p) (ex : fi w2 111 12 = nI x) (hp : p < 2 ^ 31) (hx : x < 2 ^ 31) (h : (fi w 111 12).toInt ≤ (fi w2 111 12).toInt) : p ≤ x := by
  rw [ep, ex, nI_toInt hp, nI_toInt hx] at h
  omega
set_option maxRecDepth 20000 in
set_option maxHeartbeats 4000000 in
theorem s210e {xs : Option (List Int32)} {d : Nat} {w w0 : List sx_C} (l : Int32) (hI : WI w) (hE : EF w0 w) : sx_RP xs (d + 8) 210 83 [(0, .ref 111), (1, .int l)] [] w (fun r w2 => (∃ v : Int32, r = some (.int v)) ∧ WI w2 ∧ EF w0 w2) := by
  refine sx_RP.step (pc2 := 84) (ls2 := [(0, .ref 111), (1, .int l)]) (st2 := [.ref 111]) (w3 := w) rfl rfl ?_
  refine sx_RP.gf (v := .int (fi w 111 13)) rfl rfl hI.1.o111 rfl rfl (show _ = 87 from rfl) ?_
  refine sx_RP.br (p1 := 106) (l1 := [(0, .ref 111), (1, .int l)]) (s1 := []) (v1 := w) (p2 := 90) (l2 := [(0, .ref 111), (1, .int l)]) (s2 := []) (v2 := w) rfl rfl (fun q1 => ?_) (fun q1 => ?_)
  · replace q1 := of_decide_eq_true q1
    refine sx_RP.step (pc2 := 107) (ls2 := [(0, .ref 111), (1, .int l)]) (st2 := [.ref 111]) (w3 := w) rfl rfl ?_
    refine sx_RP.step (pc2 := 108) (ls2 := [(0, .ref 111), (1, .int l)]) (st2 := [.int 0, .ref 111]) (w3 := w) rfl rfl ?_
    refine sx_RP.pmtF hI hE rfl rfl rfl ⟨0, by decide, rfl⟩ (show _ = 111 from rfl) (fun w2 hI3 hE4 ht5 => ?_)
    refine sx_RP.step (pc2 := 112) (ls2 := [(0, .ref 111), (1, .int l)]) (st2 := [.ref 111]) (w3 := w2) rfl rfl ?_
    refine sx_RP.gf (v := .int (fi w2 111 13)) rfl rfl hI3.1.o111 rfl rfl (show _ = 115 from rfl) ?_
    refine sx_RP.br (p1 := 136) (l1 := [(0, .ref 111), (1, .int l)]) (s1 := []) (v1 := w2) (p2 := 118) (l2 := [(0, .ref 111), (1, .int l)]) (s2 := []) (v2 := w2) rfl rfl (fun q6 => ?_) (fun q6 => ?_)
    · replace q6 := of_decide_eq_true q6
      refine sx_RP.step (pc2 := 137) (ls2 := [(0, .ref 111), (1, .int l)]) (st2 := [.int l]) (w3 := w2) rfl rfl ?_
      refine sx_RP.ret (r := (some (.int l))) rfl rfl ?_
      exact ⟨⟨_, rfl⟩, hI3, hE4⟩
    · replace q6 := of_decide_eq_false q6
      refine sx_RP.step (pc2 := 119) (ls2 := [(0, .ref 111), (1, .int l)]) (st2 := [.ref 111]) (w3 := w2) rfl rfl ?_
      refine sx_RP.gf (v := .ref 115) rfl rfl hI3.1.o111 rfl rfl (show _ = 122 from rfl) ?_
      refine sx_RP.step (pc2 := 123) (ls2 := [(0, .ref 111), (1, .int l)]) (st2 := [.ref 111, .ref 115]) (w3 := w2) rfl rfl ?_
      refine sx_RP.gf (v := .ref 112) rfl rfl hI3.1.o111 rfl rfl (show _ = 126 from rfl) ?_
      refine sx_RP.callp (as2 := [.ref 115, .ref 112]) (rest2 := []) rfl rfl rfl rfl rfl rfl (s175 hI3 (a := 115) (b := 112) (by decide) (by decide)) (show _ = 129 from rfl) ?_
      rintro r4 w7 ⟨rfl, hI8, hE10⟩
      have hE9 := hE4.tr (hE10.ef hI3 hI8)
      show sx_RP _ _ _ _ _ [] _ _
      refine sx_RP.step (pc2 := 130) (ls2 := [(0, .ref 111), (1, .int l)]) (st2 := [.int (-1)]) (w3 := w7) rfl rfl ?_
      refine sx_RP.step (pc2 := 131) (ls2 := [(0, .ref 111), (1, .int l)]) (st2 := [.ref 111, .int (-1)]) (w3 := w7) rfl rfl ?_
      refine sx_RP.gf (v := .int (fi w7 111 13)) rfl rfl hI8.1.o111 rfl rfl (show _ = 134 from rfl) ?_
      refine sx_RP.step (pc2 := 135) (ls2 := [(0, .ref 111), (1, .int l)]) (st2 := [.int ((-1) - (fi w7 111 13))]) (w3 := w7) rfl rfl ?_
      refine sx_RP.ret (r := (some (.int ((-1) - (fi w7 111 13))))) rfl rfl ?_
      exact ⟨⟨_, rfl⟩, hI8, hE9⟩
  · replace q1 := of_decide_eq_false q1
    refine sx_RP.step (pc2 := 91) (ls2 := [(0, .ref 111), (1, .int l)]) (st2 := [.ref 111]) (w3 := w) rfl rfl ?_
    refine sx_RP.gf (v := .int (fi w 111 12)) rfl rfl hI.1.o111 rfl rfl (show _ = 94 from rfl) ?_
    obtain ⟨x11, hx12, ex13⟩ : inR (fi w 111 12) 120 := hI.m.2.2
    rw [ex13]
    refine sx_RP.step (pc2 := 95) (ls2 := [(0, .ref 111), (1, .int l)]) (st2 := [.ref 111, .int (nI x11)]) (w3 := w) rfl rfl ?_
    refine sx_RP.gf (v := .int (fi w 111 11)) rfl rfl hI.1.o111 rfl rfl (show _ = 98 from rfl) ?_
    obtain ⟨x14, hx15, ex16⟩ : inR (fi w 111 11) 120 := hI.m.2.1
    rw [ex16]
    refine sx_RP.br (p1 := 106) (l1 := [(0, .ref 111), (1, .int l)]) (s1 := []) (v1 := w) (p2 := 101) (l2 := [(0, .ref 111), (1, .int l)]) (s2 := []) (v2 := w) rfl rfl (fun q17 => ?_) (fun q17 => ?_)
    · replace q17 := of_decide_eq_true q17
      replace q17 := (nI_leI (a := x14) (b := x11) (by omega) (by omega)).mp q17
      refine sx_RP.step (pc2 := 107) (ls2 := [(0, .ref 111), (1, .int l)]) (st2 := [.ref 111]) (w3 := w) rfl rfl ?_
      refine sx_RP.step (pc2 := 108) (ls2 := [(0, .ref 111), (1, .int l)]) (st2 := [.int 0, .ref 111]) (w3 := w) rfl rfl ?_
      refine sx_RP.pmtF hI hE rfl rfl rfl ⟨0, by decide, rfl⟩ (show _ = 111 from rfl) (fun w18 hI19 hE20 ht21 => ?_)
      refine sx_RP.step (pc2 := 112) (ls2 := [(0, .ref 111), (1, .int l)]) (st2 := [.ref 111]) (w3 := w18) rfl rfl ?_
      refine sx_RP.gf (v := .int (fi w18 111 13)) rfl rfl hI19.1.o111 rfl rfl (show _ = 115 from rfl) ?_
      refine sx_RP.br (p1 := 136) (l1 := [(0, .ref 111), (1, .int l)]) (s1 := []) (v1 := w18) (p2 := 118) (l2 := [(0, .ref 111), (1, .int l)]) (s2 := []) (v2 := w18) rfl rfl (fun q22 => ?_) (fun q22 => ?_)
      · replace q22 := of_decide_eq_true q22
        refine sx_RP.step (pc2 := 137) (ls2 := [(0, .ref 111), (1, .int l)]) (st2 := [.int l]) (w3 := w18) rfl rfl ?_
        refine sx_RP.ret (r := (some (.int l))) rfl rfl ?_
        exact ⟨⟨_, rfl⟩, hI19, hE20⟩
      · replace q22 := of_decide_eq_false q22
        refine sx_RP.step (pc2 := 119) (ls2 := [(0, .ref 111), (1, .int l)]) (st2 := [.ref 111]) (w3 := w18) rfl rfl ?_
        refine sx_RP.gf (v := .ref 115) rfl rfl hI19.1.o111 rfl rfl (show _ = 122 from rfl) ?_
        refine sx_RP.step (pc2 := 123) (ls2 := [(0, .ref 111), (1, .int l)]) (st2 := [.ref 111, .ref 115]) (w3 := w18) rfl rfl ?_
        refine sx_RP.gf (v := .ref 112) rfl rfl hI19.1.o111 rfl rfl (show _ = 126 from rfl) ?_
        refine sx_RP.callp (as2 := [.ref 115, .ref 112]) (rest2 := []) rfl rfl rfl rfl rfl rfl (s175 hI19 (a := 115) (b := 112) (by decide) (by decide)) (show _ = 129 from rfl) ?_
        rintro r4 w23 ⟨rfl, hI24, hE26⟩
        have hE25 := hE20.tr (hE26.ef hI19 hI24)
        show sx_RP _ _ _ _ _ [] _ _
        refine sx_RP.step (pc2 := 130) (ls2 := [(0, .ref 111), (1, .int l)]) (st2 := [.int (-1)]) (w3 := w23) rfl rfl ?_
        refine sx_RP.step (pc2 := 131) (ls2 := [(0, .ref 111), (1, .int l)]) (st2 := [.ref 111, .int (-1)]) (w3 := w23) rfl rfl ?_
        refine sx_RP.gf (v := .int (fi w23 111 13)) rfl rfl hI24.1.o111 rfl rfl (show _ = 134 from rfl) ?_
        refine sx_RP.step (pc2 := 135) (ls2 := [(0, .ref 111), (1, .int l)]) (st2 := [.int ((-1) - (fi w23 111 13))]) (w3 := w23) rfl rfl ?_
        refine sx_RP.ret (r := (some (.int ((-1) - (fi w23 111 13))))) rfl rfl ?_
        exact ⟨⟨_, rfl⟩, hI24, hE25⟩
    · replace q17 := of_decide_eq_false q17
      replace q17 := mt (nI_leI (a := x14) (b := x11) (by omega) (by omega)).mpr q17
      refine sx_RP.step (pc2 := 102) (ls2 := [(0, .ref 111), (1, .int l)]) (st2 := [.ref 111]) (w3 := w) rfl rfl ?_
      refine sx_RP.callp (as2 := [.ref 111]) (rest2 := []) rfl rfl (sx_inv_v2 (mi := 210) (k := 245) (st := [.ref 111]) (w := w) rfl rfl hI.1.o111 rfl rfl rfl) rfl rfl rfl (s222 hI) (show _ = 105 from rfl) ?_
      rintro r4 w27 ⟨rfl, hI28, hE30⟩
      have hE29 := hE.tr (hE30.em.ef hI hI28)
      show sx_RP _ _ _ _ _ [.int 0] _ _
      refine sx_RP.step (pc2 := 106) (ls2 := [(0, .ref 111), (1, .int l)]) (st2 := []) (w3 := w27) rfl rfl ?_
      refine sx_RP.step (pc2 := 107) (ls2 := [(0, .ref 111), (1, .int l)]) (st2 := [.ref 111]) (w3 := w27) rfl rfl ?_
      refine sx_RP.step (pc2 := 108) (ls2 := [(0, .ref 111), (1, .int l)]) (st2 := [.int 0, .ref 111]) (w3 := w27) rfl rfl ?_
      refine sx_RP.pmtF hI28 hE29 rfl rfl rfl ⟨0, by decide, rfl⟩ (show _ = 111 from rfl) (fun w31 hI32 hE33 ht34 => ?_)
      refine sx_RP.step (pc2 := 112) (ls2 := [(0, .ref 111), (1, .int l)]) (st2 := [.ref 111]) (w3 := w31) rfl rfl ?_
      refine sx_RP.gf (v := .int (fi w31 111 13)) rfl rfl hI32.1.o111 rfl rfl (show _ = 115 from rfl) ?_
      refine sx_RP.br (p1 := 136) (l1 := [(0, .ref 111), (1, .int l)]) (s1 := []) (v1 := w31) (p2 := 118) (l2 := [(0, .ref 111), (1, .int l)]) (s2 := []) (v2 := w31) rfl rfl (fun q35 => ?_) (fun q35 => ?_)
      · replace q35 := of_decide_eq_true q35
        refine sx_RP.step (pc2 := 137) (ls2 := [(0, .ref 111), (1, .int l)]) (st2 := [.int l]) (w3 := w31) rfl rfl ?_
        refine sx_RP.ret (r := (some (.int l))) rfl rfl ?_
        exact ⟨⟨_, rfl⟩, hI32, hE33⟩
      · replace q35 := of_decide_eq_false q35
        refine sx_RP.step (pc2 := 119) (ls2 := [(0, .ref 111), (1, .int l)]) (st2 := [.ref 111]) (w3 := w31) rfl rfl ?_
        refine sx_RP.gf (v := .ref 115) rfl rfl hI32.1.o111 rfl rfl (show _ = 122 from rfl) ?_
        refine sx_RP.step (pc2 := 123) (ls2 := [(0, .ref 111), (1, .int l)]) (st2 := [.ref 111, .ref 115]) (w3 := w31) rfl rfl ?_
        refine sx_RP.gf (v := .ref 112) rfl rfl hI32.1.o111 rfl rfl (show _ = 126 from rfl) ?_
        refine sx_RP.callp (as2 := [.ref 115, .ref 112]) (rest2 := []) rfl rfl rfl rfl rfl rfl (s175 hI32 (a := 115) (b := 112) (by decide) (by decide)) (show _ = 129 from rfl) ?_
        rintro r4 w36 ⟨rfl, hI37, hE39⟩
        have hE38 := hE33.tr (hE39.ef hI32 hI37)
        show sx_RP _ _ _ _ _ [] _ _
        refine sx_RP.step (pc2 := 130) (ls2 := [(0, .ref 111), (1, .int l)]) (st2 := [.int (-1)]) (w3 := w36) rfl rfl ?_
        refine sx_RP.step (pc2 := 131) (ls2 := [(0, .ref 111), (1, .int l)]) (st2 := [.ref 111, .int (-1)]) (w3 := w36) rfl rfl ?_
        refine sx_RP.gf (v := .int (fi w36 111 13)) rfl rfl hI37.1.o111 rfl rfl (show _ = 134 from rfl) ?_
        refine sx_RP.step (pc2 := 135) (ls2 := [(0, .ref 111), (1, .int l)]) (st2 := [.int ((-1) - (fi w36 111 13))]) (w3 := w36) rfl rfl ?_
        refine sx_RP.ret (r := (some (.int ((-1) - (fi w36 111 13))))) rfl rfl ?_
        exact ⟨⟨_, rfl⟩, hI37, hE38⟩
set_option maxRecDepth 20000 in
set_option maxHeartbeats 4000000 in
theorem s210L {xs : Option (List Int32)} {d : Nat} {w0 : List sx_C} : ∀ (fz p : Nat) (l : Int32) (w : List sx_C), 121 ≤ p + fz → p ≤ 120 → fi w 111 12 = nI p → WI w → EF w0 w → sx_RP xs (d + 8) 210 25 [(0, .ref 111), (1, .int l), (2, .int 1)] [] w (fun r w2 => (∃ v : Int32, r = some (.int v)) ∧ WI w2 ∧ EF w0 w2)
  | fz, p, l, w, h, hp, ep, hI, hE => by
    refine sx_RP.step (pc2 := 26) (ls2 := [(0, .ref 111), (1, .int l), (2, .int 1)]) (st2 := [.int 1]) (w3 := w) rfl rfl ?_
    refine sx_RP.step (pc2 := 29) (ls2 := [(0, .ref 111), (1, .int l), (2, .int 1)]) (st2 := []) (w3 := w) rfl rfl ?_
    refine sx_RP.step (pc2 := 30) (ls2 := [(0, .ref 111), (1, .int l), (2, .int 1)]) (st2 := [.ref 111]) (w3 := w) rfl rfl ?_
    refine sx_RP.callp (as2 := [.ref 111]) (rest2 := []) rfl rfl (sx_inv_v2 (mi := 210) (k := 333) (st := [.ref 111]) (w := w) rfl rfl hI.1.o111 rfl rfl rfl) rfl rfl rfl (s211 hI ) (show _ = 33 from rfl) ?_
    rintro r4 w1 ⟨(rfl | rfl), hI2, hE4⟩
    · have hE3 := hE.tr (hE4.1.ef hI hI2)
      show sx_RP _ _ _ _ _ [.int 0] _ _
      refine sx_RP.step (pc2 := 83) (ls2 := [(0, .ref 111), (1, .int l), (2, .int 1)]) (st2 := []) (w3 := w1) rfl rfl ?_
      exact sx_RP.ls (sx_lr.cons rfl (sx_lr.cons rfl sx_lr.nil)) (s210e _ hI2 hE3)
    · have hE3 := hE.tr (hE4.1.ef hI hI2)
      show sx_RP _ _ _ _ _ [.int 1] _ _
      refine sx_RP.step (pc2 := 36) (ls2 := [(0, .ref 111), (1, .int l), (2, .int 1)]) (st2 := []) (w3 := w1) rfl rfl ?_
      refine sx_RP.step (pc2 := 39) (ls2 := [(1, .int (l + 1)), (0, .ref 111), (2, .int 1)]) (st2 := []) (w3 := w1) rfl rfl ?_
      refine sx_RP.step (pc2 := 40) (ls2 := [(1, .int (l + 1)), (0, .ref 111), (2, .int 1)]) (st2 := [.ref 111]) (w3 := w1) rfl rfl ?_
      refine sx_RP.callp (as2 := [.ref 111]) (rest2 := []) rfl rfl (sx_inv_v2 (mi := 210) (k := 224) (st := [.ref 111]) (w := w1) rfl rfl hI2.1.o111 rfl rfl rfl) rfl rfl rfl (s215 hI2) (show _ = 43 from rfl) ?_
      rintro r4 w5 ⟨⟨rfl, _⟩, hI6, hE8⟩
      have hE7 := hE3.tr (hE8.em.ef hI2 hI6)
      show sx_RP _ _ _ _ _ [] _ _
      refine sx_RP.step (pc2 := 44) (ls2 := [(1, .int (l + 1)), (0, .ref 111), (2, .int 1)]) (st2 := [.ref 111]) (w3 := w5) rfl rfl ?_
      refine sx_RP.step (pc2 := 45) (ls2 := [(1, .int (l + 1)), (0, .ref 111), (2, .int 1)]) (st2 := [.ref 111, .ref 111]) (w3 := w5) rfl rfl ?_
      refine sx_RP.gf (v := .int (fi w5 111 12)) rfl rfl hI6.1.o111 rfl rfl (show _ = 48 from rfl) ?_
      obtain ⟨x9, hx10, ex11⟩ : inR (fi w5 111 12) 120 := hI6.m.2.2
      rw [ex11]
      rcases p216 (xs := xs) (a := x9) hI6 (by omega) with c12 | ⟨hx13, v14, c12⟩
      · refine sx_RP.cu (as := [.ref 111, .int (nI x9)]) (rest2 := []) (st3 := [.int (-1)]) rfl rfl (sx_inv_v2 (mi := 210) (k := 215) (st := [.int (nI x9), .ref 111]) (w := w5) rfl rfl hI6.1.o111 rfl rfl rfl) rfl rfl (c12) rfl ?_
        refine sx_RP.step (pc2 := 53) (ls2 := [(1, .int (l + 1)), (0, .ref 111), (2, .int 1)]) (st2 := [.int 59, .int (-1)]) (w3 := w5) rfl rfl ?_
        refine sx_RP.step (pc2 := 60) (ls2 := [(1, .int (l + 1)), (0, .ref 111), (2, .int 1)]) (st2 := []) (w3 := w5) rfl rfl ?_
        refine sx_RP.step (pc2 := 61) (ls2 := [(1, .int (l + 1)), (0, .ref 111), (2, .int 1)]) (st2 := [.int 0]) (w3 := w5) rfl rfl ?_
        refine sx_RP.step (pc2 := 62) (ls2 := [(2, .int 0), (1, .int (l + 1)), (0, .ref 111)]) (st2 := []) (w3 := w5) rfl rfl ?_
        refine sx_RP.step (pc2 := 63) (ls2 := [(2, .int 0), (1, .int (l + 1)), (0, .ref 111)]) (st2 := [.ref 111]) (w3 := w5) rfl rfl ?_
        refine sx_RP.step (pc2 := 64) (ls2 := [(2, .int 0), (1, .int (l + 1)), (0, .ref 111)]) (st2 := [.ref 111, .ref 111]) (w3 := w5) rfl rfl ?_
        refine sx_RP.gf (v := .int (fi w5 111 12)) rfl rfl hI6.1.o111 rfl rfl (show _ = 67 from rfl) ?_
        rw [ex11]
        refine sx_RP.step (pc2 := 68) (ls2 := [(2, .int 0), (1, .int (l + 1)), (0, .ref 111)]) (st2 := [.int 0, .int (nI x9), .ref 111]) (w3 := w5) rfl rfl ?_
        refine sx_RP.step (pc2 := 75) (ls2 := [(2, .int 0), (1, .int (l + 1)), (0, .ref 111)]) (st2 := [.int (nI x9), .ref 111]) (w3 := w5) rfl rfl ?_
        refine sx_RP.step (pc2 := 76) (ls2 := [(2, .int 0), (1, .int (l + 1)), (0, .ref 111)]) (st2 := [.int 0, .int (nI x9), .ref 111]) (w3 := w5) rfl rfl ?_
        refine sx_RP.step (pc2 := 77) (ls2 := [(2, .int 0), (1, .int (l + 1)), (0, .ref 111)]) (st2 := [.int ((nI x9) + 0), .ref 111]) (w3 := w5) rfl rfl ?_
        rw [show ((nI x9) + 0 : Int32) = nI (x9 + 0) from nI_add x9 0]
        have hpx := hr_n ep ex11 (by omega) (by omega) (Int.le_trans hE4.2 hE8.2.2)
        refine sx_RP.pmF (k := 12) hI6 hE7 rfl rfl (by decide) rfl (inR.n (show (x9 + 0) ≤ 120 by omega)) (show _ = 80 from rfl) (fun w15 hI16 hE17 ht18 ht19 ht20 => ?_)
        refine sx_RP.step (pc2 := 25) (ls2 := [(2, .int 0), (1, .int (l + 1)), (0, .ref 111)]) (st2 := []) (w3 := w15) rfl rfl ?_
        refine sx_RP.step (pc2 := 26) (ls2 := [(2, .int 0), (1, .int (l + 1)), (0, .ref 111)]) (st2 := [.int 0]) (w3 := w15) rfl rfl ?_
        refine sx_RP.step (pc2 := 83) (ls2 := [(2, .int 0), (1, .int (l + 1)), (0, .ref 111)]) (st2 := []) (w3 := w15) rfl rfl ?_
        exact sx_RP.ls (sx_lr.cons rfl (sx_lr.cons rfl sx_lr.nil)) (s210e _ hI16 hE17)
      · refine sx_RP.cu (as := [.ref 111, .int (nI x9)]) (rest2 := []) (st3 := [.int v14]) rfl rfl (sx_inv_v2 (mi := 210) (k := 215) (st := [.int (nI x9), .ref 111]) (w := w5) rfl rfl hI6.1.o111 rfl rfl rfl) rfl rfl (c12) rfl ?_
        refine sx_RP.step (pc2 := 53) (ls2 := [(1, .int (l + 1)), (0, .ref 111), (2, .int 1)]) (st2 := [.int 59, .int v14]) (w3 := w5) rfl rfl ?_
        refine sx_RP.br (p1 := 60) (l1 := [(1, .int (l + 1)), (0, .ref 111), (2, .int 1)]) (s1 := []) (v1 := w5) (p2 := 56) (l2 := [(1, .int (l + 1)), (0, .ref 111), (2, .int 1)]) (s2 := []) (v2 := w5) rfl rfl (fun q21 => ?_) (fun q21 => ?_)
        · replace q21 := of_decide_eq_true q21
          refine sx_RP.step (pc2 := 61) (ls2 := [(1, .int (l + 1)), (0, .ref 111), (2, .int 1)]) (st2 := [.int 0]) (w3 := w5) rfl rfl ?_
          refine sx_RP.step (pc2 := 62) (ls2 := [(2, .int 0), (1, .int (l + 1)), (0, .ref 111)]) (st2 := []) (w3 := w5) rfl rfl ?_
          refine sx_RP.step (pc2 := 63) (ls2 := [(2, .int 0), (1, .int (l + 1)), (0, .ref 111)]) (st2 := [.ref 111]) (w3 := w5) rfl rfl ?_
          refine sx_RP.step (pc2 := 64) (ls2 := [(2, .int 0), (1, .int (l + 1)), (0, .ref 111)]) (st2 := [.ref 111, .ref 111]) (w3 := w5) rfl rfl ?_
          refine sx_RP.gf (v := .int (fi w5 111 12)) rfl rfl hI6.1.o111 rfl rfl (show _ = 67 from rfl) ?_
          rw [ex11]
          refine sx_RP.step (pc2 := 68) (ls2 := [(2, .int 0), (1, .int (l + 1)), (0, .ref 111)]) (st2 := [.int 0, .int (nI x9), .ref 111]) (w3 := w5) rfl rfl ?_
          refine sx_RP.step (pc2 := 75) (ls2 := [(2, .int 0), (1, .int (l + 1)), (0, .ref 111)]) (st2 := [.int (nI x9), .ref 111]) (w3 := w5) rfl rfl ?_
          refine sx_RP.step (pc2 := 76) (ls2 := [(2, .int 0), (1, .int (l + 1)), (0, .ref 111)]) (st2 := [.int 0, .int (nI x9), .ref 111]) (w3 := w5) rfl rfl ?_
          refine sx_RP.step (pc2 := 77) (ls2 := [(2, .int 0), (1, .int (l + 1)), (0, .ref 111)]) (st2 := [.int ((nI x9) + 0), .ref 111]) (w3 := w5) rfl rfl ?_
          rw [show ((nI x9) + 0 : Int32) = nI (x9 + 0) from nI_add x9 0]
          have hpx := hr_n ep ex11 (by omega) (by omega) (Int.le_trans hE4.2 hE8.2.2)
          refine sx_RP.pmF (k := 12) hI6 hE7 rfl rfl (by decide) rfl (inR.n (show (x9 + 0) ≤ 120 by omega)) (show _ = 80 from rfl) (fun w22 hI23 hE24 ht25 ht26 ht27 => ?_)
          refine sx_RP.step (pc2 := 25) (ls2 := [(2, .int 0), (1, .int (l + 1)), (0, .ref 111)]) (st2 := []) (w3 := w22) rfl rfl ?_
          refine sx_RP.step (pc2 := 26) (ls2 := [(2, .int 0), (1, .int (l + 1)), (0, .ref 111)]) (st2 := [.int 0]) (w3 := w22) rfl rfl ?_
          refine sx_RP.step (pc2 := 83) (ls2 := [(2, .int 0), (1, .int (l + 1)), (0, .ref 111)]) (st2 := []) (w3 := w22) rfl rfl ?_
          exact sx_RP.ls (sx_lr.cons rfl (sx_lr.cons rfl sx_lr.nil)) (s210e _ hI23 hE24)
        · replace q21 := Decidable.not_not.mp (of_decide_eq_false q21)
          refine sx_RP.step (pc2 := 57) (ls2 := [(1, .int (l + 1)), (0, .ref 111), (2, .int 1)]) (st2 := [.int 1]) (w3 := w5) rfl rfl ?_
          refine sx_RP.step (pc2 := 61) (ls2 := [(1, .int (l + 1)), (0, .ref 111), (2, .int 1)]) (st2 := [.int 1]) (w3 := w5) rfl rfl ?_
          refine sx_RP.step (pc2 := 62) (ls2 := [(2, .int 1), (1, .int (l + 1)), (0, .ref 111)]) (st2 := []) (w3 := w5) rfl rfl ?_
          refine sx_RP.step (pc2 := 63) (ls2 := [(2, .int 1), (1, .int (l + 1)), (0, .ref 111)]) (st2 := [.ref 111]) (w3 := w5) rfl rfl ?_
          refine sx_RP.step (pc2 := 64) (ls2 := [(2, .int 1), (1, .int (l + 1)), (0, .ref 111)]) (st2 := [.ref 111, .ref 111]) (w3 := w5) rfl rfl ?_
          refine sx_RP.gf (v := .int (fi w5 111 12)) rfl rfl hI6.1.o111 rfl rfl (show _ = 67 from rfl) ?_
          rw [ex11]
          refine sx_RP.step (pc2 := 68) (ls2 := [(2, .int 1), (1, .int (l + 1)), (0, .ref 111)]) (st2 := [.int 1, .int (nI x9), .ref 111]) (w3 := w5) rfl rfl ?_
          refine sx_RP.step (pc2 := 71) (ls2 := [(2, .int 1), (1, .int (l + 1)), (0, .ref 111)]) (st2 := [.int (nI x9), .ref 111]) (w3 := w5) rfl rfl ?_
          refine sx_RP.step (pc2 := 72) (ls2 := [(2, .int 1), (1, .int (l + 1)), (0, .ref 111)]) (st2 := [.int 1, .int (nI x9), .ref 111]) (w3 := w5) rfl rfl ?_
          refine sx_RP.step (pc2 := 76) (ls2 := [(2, .int 1), (1, .int (l + 1)), (0, .ref 111)]) (st2 := [.int 1, .int (nI x9), .ref 111]) (w3 := w5) rfl rfl ?_
          refine sx_RP.step (pc2 := 77) (ls2 := [(2, .int 1), (1, .int (l + 1)), (0, .ref 111)]) (st2 := [.int ((nI x9) + 1), .ref 111]) (w3 := w5) rfl rfl ?_
          rw [show ((nI x9) + 1 : Int32) = nI (x9 + 1) from nI_add x9 1]
          have hpx := hr_n ep ex11 (by omega) (by omega) (Int.le_trans hE4.2 hE8.2.2)
          refine sx_RP.pmF (k := 12) hI6 hE7 rfl rfl (by decide) rfl (inR.n (show (x9 + 1) ≤ 120 by omega)) (show _ = 80 from rfl) (fun w28 hI29 hE30 ht31 ht32 ht33 => ?_)
          refine sx_RP.step (pc2 := 25) (ls2 := [(2, .int 1), (1, .int (l + 1)), (0, .ref 111)]) (st2 := []) (w3 := w28) rfl rfl ?_
          match fz, h with
          | 0, h => exact absurd h (by omega)
          | fz + 1, h => exact sx_RP.ls (sx_lr.cons rfl (sx_lr.cons rfl (sx_lr.cons rfl sx_lr.nil))) (s210L fz ((x9 + 1)) _ _ (by omega) (by omega) ht31 hI29 hE30)
set_option maxRecDepth 20000 in
set_option maxHeartbeats 4000000 in
theorem s210 {xs : Option (List Int32)} {d : Nat} {w : List sx_C} (hI : WI w) : sx_RP xs (d + 8) 210 0 (lv_args 0 [.ref 111]) [] w (fun r w2 => (∃ v : Int32, r = some (.int v)) ∧ WI w2 ∧ EF w w2) := by
  have hE : EF w w := EF.rf
  refine sx_RP.step (pc2 := 1) (ls2 := [(0, .ref 111)]) (st2 := [.ref 111]) (w3 := w) rfl rfl ?_
  refine sx_RP.step (pc2 := 2) (ls2 := [(0, .ref 111)]) (st2 := [.int 0, .ref 111]) (w3 := w) rfl rfl ?_
  refine sx_RP.pmF (k := 12) hI hE rfl rfl (by decide) rfl (show inR 0 120 from ⟨0, by decide, rfl⟩) (show _ = 5 from rfl) (fun w1 hI2 hE3 ht4 ht5 ht6 => ?_)
  refine sx_RP.step (pc2 := 6) (ls2 := [(0, .ref 111)]) (st2 := [.ref 111]) (w3 := w1) rfl rfl ?_
  refine sx_RP.step (pc2 := 7) (ls2 := [(0, .ref 111)]) (st2 := [.int (-1), .ref 111]) (w3 := w1) rfl rfl ?_
  refine sx_RP.pmF (k := 13) hI2 hE3 rfl rfl (by decide) rfl trivial (show _ = 10 from rfl) (fun w7 hI8 hE9 ht10 ht11 ht12 => ?_)
  have ex13 := (ht11 12 (by decide)).trans ht4
  refine sx_RP.step (pc2 := 11) (ls2 := [(0, .ref 111)]) (st2 := [.ref 111]) (w3 := w7) rfl rfl ?_
  refine sx_RP.gf (v := .ref 112) rfl rfl hI8.1.o111 rfl rfl (show _ = 14 from rfl) ?_
  refine sx_RP.step (pc2 := 15) (ls2 := [(0, .ref 111)]) (st2 := [.ref 111, .ref 112]) (w3 := w7) rfl rfl ?_
  refine sx_RP.gf (v := .ref 115) rfl rfl hI8.1.o111 rfl rfl (show _ = 18 from rfl) ?_
  refine sx_RP.callp (as2 := [.ref 112, .ref 115]) (rest2 := []) rfl rfl rfl rfl rfl rfl (s175 hI8 (a := 112) (b := 115) (by decide) (by decide)) (show _ = 21 from rfl) ?_
  rintro r4 w14 ⟨rfl, hI15, hE17⟩
  have hE16 := hE9.tr (hE17.ef hI8 hI15)
  show sx_RP _ _ _ _ _ [] _ _
  refine sx_RP.step (pc2 := 22) (ls2 := [(0, .ref 111)]) (st2 := [.int 0]) (w3 := w14) rfl rfl ?_
  refine sx_RP.step (pc2 := 23) (ls2 := [(1, .int 0), (0, .ref 111)]) (st2 := []) (w3 := w14) rfl rfl ?_
  refine sx_RP.step (pc2 := 24) (ls2 := [(1, .int 0), (0, .ref 111)]) (st2 := [.int 1]) (w3 := w14) rfl rfl ?_
  refine sx_RP.step (pc2 := 25) (ls2 := [(2, .int 1), (1, .int 0), (0, .ref 111)]) (st2 := []) (w3 := w14) rfl rfl ?_
  obtain ⟨pz, hpz, epz⟩ := hI15.m.2.2
  exact sx_RP.ls (sx_lr.cons rfl (sx_lr.cons rfl (sx_lr.cons rfl sx_lr.nil))) (s210L 121 pz _ _ (by omega) hpz epz hI15 hE16)
end
-- 77.tapes.lean.txt
section
-- how long the tape is: feed, wipe and siege on both sides
def feedA (n : Nat) (a : Int32) : Int32 := if 1 ≤ a ∧ a ≤ 4 then (if n + a.toInt.toNat ≤ 120 then nI (n + a.toInt.toNat) else -1000000002) else -1000000001
def feedL (n : Nat) (a : Int32) : Nat := if 1 ≤ a ∧ a ≤ 4 then (if n + a.toInt.toNat ≤ 120 then n + a.toInt.toNat else n) else n
theorem feed_n {n : Nat} {a : Int32} (q : ¬ (1 ≤ a ∧ a ≤ 4)) : feedA n a = -1000000001 ∧ feedL n a = n := by
  unfold feedA feedL
  rw [if_neg q, if_neg q]
  exact ⟨rfl, rfl⟩
theorem feed_in {x : Nat} (h1 : 1 ≤ x) (h4 : x ≤ 4) : (1 : Int32) ≤ nI x ∧ nI x ≤ 4 := ⟨nI_le (a := 1) h1 (by omega), nI_le (b := 4) h4 (by decide)⟩
theorem feed_f {n x : Nat} (h1 : 1 ≤ x) (h4 : x ≤ 4) (h : ¬ n + x ≤ 120) : feedA n (nI x) = -1000000002 ∧ feedL n (nI x) = n := by
  unfold feedA feedL
  rw [if_pos (feed_in h1 h4), if_pos (feed_in h1 h4), nI_toInt (by omega), Int.toNat_natCast, if_neg h, if_neg h]
  exact ⟨rfl, rfl⟩
theorem feed_y {n x : Nat} (h1 : 1 ≤ x) (h4 : x ≤ 4) (h : n + x ≤ 120) : feedA n (nI x) = nI (n + x) ∧ feedL n (nI x) = n + x := by
  unfold feedA feedL
  rw [if_pos (feed_in h1 h4), if_pos (feed_in h1 h4), nI_toInt (by omega), Int.toNat_natCast, if_pos h, if_pos h]
  exact ⟨rfl, rfl⟩
theorem feedL_le {n : Nat} {a : Int32} (h : n ≤ 120) : feedL n a ≤ 120 := by
  unfold feedL
  split
  · split <;> omega
  · exact h
set_option maxRecDepth 20000 in
set_option maxHeartbeats 4000000 in
theorem s89T {xs : Option (List Int32)} {d n : Nat} {w : List sx_C} (hI : WI w) (hn : fi w 96 1 = nI n) (hn1 : n < 120) (b : Int32) : sx_RP xs d 89 0 (lv_args 0 [.ref 96, .int b]) [] w (fun r w2 => (r = none ∧ fi w2 96 1 = nI (n + 1)) ∧ WI w2 ∧ EX 96 w w2) := by
  have hE : EX 96 w w := EX.rf
  refine sx_RP.step (pc2 := 1) (ls2 := [(0, .ref 96), (1, .int b)]) (st2 := [.ref 96]) (w3 := w) rfl rfl ?_
  refine sx_RP.gt (k := 1) hI rfl rfl (by decide) (show _ = 4 from rfl) ?_
  rw [hn]
  refine sx_RP.step (pc2 := 6) (ls2 := [(0, .ref 96), (1, .int b)]) (st2 := [.int 120, .int (nI n)]) (w3 := w) rfl rfl ?_
  refine sx_RP.br (p1 := 29) (l1 := [(0, .ref 96), (1, .int b)]) (s1 := []) (v1 := w) (p2 := 9) (l2 := [(0, .ref 96), (1, .int b)]) (s2 := []) (v2 := w) rfl rfl (fun q1 => ?_) (fun q1 => ?_)
  · replace q1 := of_decide_eq_true q1
    replace q1 := (nI_leI (a := 120) (b := n) (by omega) (by omega)).mp q1
    refine sx_RP.ret (r := none) rfl rfl ?_
    exact absurd hn1 (by omega)
  · replace q1 := of_decide_eq_false q1
    replace q1 := mt (nI_leI (a := 120) (b := n) (by omega) (by omega)).mpr q1
    refine sx_RP.step (pc2 := 10) (ls2 := [(0, .ref 96), (1, .int b)]) (st2 := [.ref 96]) (w3 := w) rfl rfl ?_
    refine sx_RP.gf (v := .ref 97) rfl rfl hI.1.o96 rfl rfl (show _ = 13 from rfl) ?_
    refine sx_RP.step (pc2 := 14) (ls2 := [(0, .ref 96), (1, .int b)]) (st2 := [.ref 96, .ref 97]) (w3 := w) rfl rfl ?_
    refine sx_RP.gt (k := 1) hI rfl rfl (by decide) (show _ = 17 from rfl) ?_
    rw [hn]
    refine sx_RP.step (pc2 := 18) (ls2 := [(0, .ref 96), (1, .int b)]) (st2 := [.int b, .int (nI n), .ref 97]) (w3 := w) rfl rfl ?_
    refine sx_RP.stT hI EC.rf rfl hI.1.a97 (sx_in_nI (show n < 120 by omega) (by decide)) trivial (show _ = 19 from rfl) (fun w2 hI3 hE5 => ?_)
    have hE4 := hE.tr hE5.ex
    have ex6 := (keep96 hI hI3 ((hE5 96).1 (by decide))).trans hn
    refine sx_RP.step (pc2 := 20) (ls2 := [(0, .ref 96), (1, .int b)]) (st2 := [.ref 96]) (w3 := w2) rfl rfl ?_
    refine sx_RP.step (pc2 := 21) (ls2 := [(0, .ref 96), (1, .int b)]) (st2 := [.ref 96, .ref 96]) (w3 := w2) rfl rfl ?_
    refine sx_RP.gt (k := 1) hI3 rfl rfl (by decide) (show _ = 24 from rfl) ?_
    rw [ex6]
    refine sx_RP.step (pc2 := 25) (ls2 := [(0, .ref 96), (1, .int b)]) (st2 := [.int 1, .int (nI n), .ref 96]) (w3 := w2) rfl rfl ?_
    refine sx_RP.step (pc2 := 26) (ls2 := [(0, .ref 96), (1, .int b)]) (st2 := [.int ((nI n) + 1), .ref 96]) (w3 := w2) rfl rfl ?_
    rw [show ((nI n) + 1 : Int32) = nI (n + 1) from nI_add n 1]
    refine sx_RP.pl hI3 rfl rfl rfl (inR.n (show (n + 1) ≤ 120 by omega)) (show _ = 29 from rfl) (fun w7 hI8 hE10 ht11 => ?_)
    have hE9 := hE4.tr hE10
    refine sx_RP.ret (r := none) rfl rfl ?_
    exact ⟨⟨rfl, ht11⟩, hI8, hE9⟩
set_option maxRecDepth 20000 in
set_option maxHeartbeats 4000000 in
theorem p88y {xs : Option (List Int32)} {d n k : Nat} {w : List sx_C} (hI : WI w) (hn : fi w 96 1 = nI n) (hn1 : n ≤ 120) (hk : k ≤ 4) (hh : n + k ≤ 120) : sx_RU xs d 88 0 (lv_args 0 [.ref 96, .int (nI k)]) [] w (some (.int 1)) w := by
  have h : sx_RP xs d 88 0 (lv_args 0 [.ref 96, .int (nI k)]) [] w (fun r w2 => r = some (.int 1) ∧ w2 = w) := by
    refine sx_RP.step (pc2 := 1) (ls2 := [(0, .ref 96), (1, .int (nI k))]) (st2 := [.ref 96]) (w3 := w) rfl rfl ?_
    refine sx_RP.gt (k := 1) hI rfl rfl (by decide) (show _ = 4 from rfl) ?_
    rw [hn]
    refine sx_RP.step (pc2 := 5) (ls2 := [(0, .ref 96), (1, .int (nI k))]) (st2 := [.int (nI k), .int (nI n)]) (w3 := w) rfl rfl ?_
    refine sx_RP.step (pc2 := 6) (ls2 := [(0, .ref 96), (1, .int (nI k))]) (st2 := [.int ((nI n) + (nI k))]) (w3 := w) rfl rfl ?_
    rw [show ((nI n) + (nI k) : Int32) = nI (n + k) from nI_add n k]
    refine sx_RP.step (pc2 := 8) (ls2 := [(0, .ref 96), (1, .int (nI k))]) (st2 := [.int 120, .int (nI (n + k))]) (w3 := w) rfl rfl ?_
    refine sx_RP.br (p1 := 15) (l1 := [(0, .ref 96), (1, .int (nI k))]) (s1 := []) (v1 := w) (p2 := 11) (l2 := [(0, .ref 96), (1, .int (nI k))]) (s2 := []) (v2 := w) rfl rfl (fun q1 => ?_) (fun q1 => ?_)
    · replace q1 := of_decide_eq_true q1
      replace q1 := (nI_ltI (a := 120) (b := (n + k)) (by omega) (by omega)).mp q1
      refine sx_RP.step (pc2 := 16) (ls2 := [(0, .ref 96), (1, .int (nI k))]) (st2 := [.int 0]) (w3 := w) rfl rfl ?_
      refine sx_RP.ret (r := (some (.int 0))) rfl rfl ?_
      first | exact ⟨rfl, rfl⟩ | (exfalso; omega)
    · replace q1 := of_decide_eq_false q1
      replace q1 := mt (nI_ltI (a := 120) (b := (n + k)) (by omega) (by omega)).mpr q1
      refine sx_RP.step (pc2 := 12) (ls2 := [(0, .ref 96), (1, .int (nI k))]) (st2 := [.int 1]) (w3 := w) rfl rfl ?_
      refine sx_RP.step (pc2 := 16) (ls2 := [(0, .ref 96), (1, .int (nI k))]) (st2 := [.int 1]) (w3 := w) rfl rfl ?_
      refine sx_RP.ret (r := (some (.int 1))) rfl rfl ?_
      first | exact ⟨rfl, rfl⟩ | (exfalso; omega)
  obtain ⟨r, w2, h1, rfl, rfl⟩ := h
  exact h1
set_option maxRecDepth 20000 in
set_option maxHeartbeats 4000000 in
theorem p88n {xs : Option (List Int32)} {d n k : Nat} {w : List sx_C} (hI : WI w) (hn : fi w 96 1 = nI n) (hn1 : n ≤ 120) (hk : k ≤ 4) (hh : ¬ n + k ≤ 120) : sx_RU xs d 88 0 (lv_args 0 [.ref 96, .int (nI k)]) [] w (some (.int 0)) w := by
  have h : sx_RP xs d 88 0 (lv_args 0 [.ref 96, .int (nI k)]) [] w (fun r w2 => r = some (.int 0) ∧ w2 = w) := by
    refine sx_RP.step (pc2 := 1) (ls2 := [(0, .ref 96), (1, .int (nI k))]) (st2 := [.ref 96]) (w3 := w) rfl rfl ?_
    refine sx_RP.gt (k := 1) hI rfl rfl (by decide) (show _ = 4 from rfl) ?_
    rw [hn]
    refine sx_RP.step (pc2 := 5) (ls2 := [(0, .ref 96), (1, .int (nI k))]) (st2 := [.int (nI k), .int (nI n)]) (w3 := w) rfl rfl ?_
    refine sx_RP.step (pc2 := 6) (ls2 := [(0, .ref 96), (1, .int (nI k))]) (st2 := [.int ((nI n) + (nI k))]) (w3 := w) rfl rfl ?_
    rw [show ((nI n) + (nI k) : Int32) = nI (n + k) from nI_add n k]
    refine sx_RP.step (pc2 := 8) (ls2 := [(0, .ref 96), (1, .int (nI k))]) (st2 := [.int 120, .int (nI (n + k))]) (w3 := w) rfl rfl ?_
    refine sx_RP.br (p1 := 15) (l1 := [(0, .ref 96), (1, .int (nI k))]) (s1 := []) (v1 := w) (p2 := 11) (l2 := [(0, .ref 96), (1, .int (nI k))]) (s2 := []) (v2 := w) rfl rfl (fun q1 => ?_) (fun q1 => ?_)
    · replace q1 := of_decide_eq_true q1
      replace q1 := (nI_ltI (a := 120) (b := (n + k)) (by omega) (by omega)).mp q1
      refine sx_RP.step (pc2 := 16) (ls2 := [(0, .ref 96), (1, .int (nI k))]) (st2 := [.int 0]) (w3 := w) rfl rfl ?_
      refine sx_RP.ret (r := (some (.int 0))) rfl rfl ?_
      first | exact ⟨rfl, rfl⟩ | (exfalso; omega)
    · replace q1 := of_decide_eq_false q1
      replace q1 := mt (nI_ltI (a := 120) (b := (n + k)) (by omega) (by omega)).mpr q1
      refine sx_RP.step (pc2 := 12) (ls2 := [(0, .ref 96), (1, .int (nI k))]) (st2 := [.int 1]) (w3 := w) rfl rfl ?_
      refine sx_RP.step (pc2 := 16) (ls2 := [(0, .ref 96), (1, .int (nI k))]) (st2 := [.int 1]) (w3 := w) rfl rfl ?_
      refine sx_RP.ret (r := (some (.int 1))) rfl rfl ?_
      first | exact ⟨rfl, rfl⟩ | (exfalso; omega)
  obtain ⟨r, w2, h1, rfl, rfl⟩ := h
  exact h1
set_option maxRecDepth 20000 in
set_option maxHeartbeats 4000000 in
theorem s87T_m1 {xs : Option (List Int32)} {d n m T : Nat} {a1 : Int32} {w w0 : List sx_C} (hT : m + 0 = T) (h120 : T ≤ 120) (hI : WI w) (hm : fi w 96 1 = nI m) (hE : EX 96 w0 w) : sx_RP xs (d + 7) 87 38 [(0, .ref 0), (1, .int a1), (2, .int (nI n)), (3, .int (-1))] [] w (fun r w2 => (r = some (.int (nI T)) ∧ fi w2 96 1 = nI T) ∧ WI w2 ∧ EX 96 w0 w2) := by
  obtain rfl : m = T := by omega
  refine sx_RP.step (pc2 := 39) (ls2 := [(0, .ref 0), (1, .int a1), (2, .int (nI n)), (3, .int (-1))]) (st2 := [.int (-1)]) (w3 := w) rfl rfl ?_
  refine sx_RP.step (pc2 := 62) (ls2 := [(0, .ref 0), (1, .int a1), (2, .int (nI n)), (3, .int (-1))]) (st2 := []) (w3 := w) rfl rfl ?_
  refine sx_RP.step (pc2 := 63) (ls2 := [(0, .ref 0), (1, .int a1), (2, .int (nI n)), (3, .int (-1))]) (st2 := [.ref 0]) (w3 := w) rfl rfl ?_
  refine sx_RP.gf (v := .ref 96) rfl rfl hI.1.o0 rfl rfl (show _ = 66 from rfl) ?_
  refine sx_RP.gt (k := 1) hI rfl rfl (by decide) (show _ = 69 from rfl) ?_
  rw [hm]
  refine sx_RP.ret (r := (some (.int (nI m)))) rfl rfl ?_
  exact ⟨⟨rfl, hm⟩, hI, hE⟩
set_option maxRecDepth 20000 in
set_option maxHeartbeats 4000000 in
theorem s87T_0 {xs : Option (List Int32)} {d n m T : Nat} {a1 : Int32} {w w0 : List sx_C} (hT : m + 1 = T) (h120 : T ≤ 120) (hI : WI w) (hm : fi w 96 1 = nI m) (hE : EX 96 w0 w) : sx_RP xs (d + 7) 87 38 [(0, .ref 0), (1, .int a1), (2, .int (nI n)), (3, .int 0)] [] w (fun r w2 => (r = some (.int (nI T)) ∧ fi w2 96 1 = nI T) ∧ WI w2 ∧ EX 96 w0 w2) := by
  refine sx_RP.step (pc2 := 39) (ls2 := [(0, .ref 0), (1, .int a1), (2, .int (nI n)), (3, .int 0)]) (st2 := [.int 0]) (w3 := w) rfl rfl ?_
  refine sx_RP.step (pc2 := 42) (ls2 := [(0, .ref 0), (1, .int a1), (2, .int (nI n)), (3, .int 0)]) (st2 := []) (w3 := w) rfl rfl ?_
  refine sx_RP.step (pc2 := 43) (ls2 := [(0, .ref 0), (1, .int a1), (2, .int (nI n)), (3, .int 0)]) (st2 := [.ref 0]) (w3 := w) rfl rfl ?_
  refine sx_RP.gf (v := .ref 96) rfl rfl hI.1.o0 rfl rfl (show _ = 46 from rfl) ?_
  refine sx_RP.step (pc2 := 47) (ls2 := [(0, .ref 0), (1, .int a1), (2, .int (nI n)), (3, .int 0)]) (st2 := [.int a1, .ref 96]) (w3 := w) rfl rfl ?_
  refine sx_RP.step (pc2 := 49) (ls2 := [(0, .ref 0), (1, .int a1), (2, .int (nI n)), (3, .int 0)]) (st2 := [.int 8, .int a1, .ref 96]) (w3 := w) rfl rfl ?_
  refine sx_RP.step (pc2 := 50) (ls2 := [(0, .ref 0), (1, .int a1), (2, .int (nI n)), (3, .int 0)]) (st2 := [.int 0, .int 8, .int a1, .ref 96]) (w3 := w) rfl rfl ?_
  refine sx_RP.step (pc2 := 51) (ls2 := [(0, .ref 0), (1, .int a1), (2, .int (nI n)), (3, .int 0)]) (st2 := [.int 0, .int a1, .ref 96]) (w3 := w) rfl rfl ?_
  refine sx_RP.step (pc2 := 52) (ls2 := [(0, .ref 0), (1, .int a1), (2, .int (nI n)), (3, .int 0)]) (st2 := [.int (a1 >>> (0 &&& 31)), .ref 96]) (w3 := w) rfl rfl ?_
  refine sx_RP.step (pc2 := 53) (ls2 := [(0, .ref 0), (1, .int a1), (2, .int (nI n)), (3, .int 0)]) (st2 := [.int ((a1 >>> (0 &&& 31)).toInt8.toInt32), .ref 96]) (w3 := w) rfl rfl ?_
  refine sx_RP.callp (as2 := [.ref 96, .int ((a1 >>> (0 &&& 31)).toInt8.toInt32)]) (rest2 := []) rfl rfl (sx_inv_v2 (mi := 87) (k := 282) (st := [.int ((a1 >>> (0 &&& 31)).toInt8.toInt32), .ref 96]) (w := w) rfl rfl hI.1.o96 rfl rfl rfl) rfl rfl rfl (s89T hI hm (by omega) ((a1 >>> (0 &&& 31)).toInt8.toInt32)) (show _ = 56 from rfl) ?_
  rintro r4 w2 ⟨⟨rfl, ht1⟩, hI3, hE5⟩
  have hE4 := hE.tr (hE5)
  show sx_RP _ _ _ _ _ [] _ _
  refine sx_RP.step (pc2 := 59) (ls2 := [(3, .int (-1)), (0, .ref 0), (1, .int a1), (2, .int (nI n))]) (st2 := []) (w3 := w2) rfl rfl ?_
  refine sx_RP.step (pc2 := 38) (ls2 := [(3, .int (-1)), (0, .ref 0), (1, .int a1), (2, .int (nI n))]) (st2 := []) (w3 := w2) rfl rfl ?_
  exact sx_RP.ls (sx_lr.cons rfl (sx_lr.cons rfl (sx_lr.cons rfl (sx_lr.cons rfl sx_lr.nil)))) (s87T_m1 (m := m + 1) (by omega) h120 hI3 ht1 hE4)
set_option maxRecDepth 20000 in
set_option maxHeartbeats 4000000 in
theorem s87T_1 {xs : Option (List Int32)} {d n m T : Nat} {a1 : Int32} {w w0 : List sx_C} (hT : m + 2 = T) (h120 : T ≤ 120) (hI : WI w) (hm : fi w 96 1 = nI m) (hE : EX 96 w0 w) : sx_RP xs (d + 7) 87 38 [(0, .ref 0), (1, .int a1), (2, .int (nI n)), (3, .int 1)] [] w (fun r w2 => (r = some (.int (nI T)) ∧ fi w2 96 1 = nI T) ∧ WI w2 ∧ EX 96 w0 w2) := by
  refine sx_RP.step (pc2 := 39) (ls2 := [(0, .ref 0), (1, .int a1), (2, .int (nI n)), (3, .int 1)]) (st2 := [.int 1]) (w3 := w) rfl rfl ?_
  refine sx_RP.step (pc2 := 42) (ls2 := [(0, .ref 0), (1, .int a1), (2, .int (nI n)), (3, .int 1)]) (st2 := []) (w3 := w) rfl rfl ?_
  refine sx_RP.step (pc2 := 43) (ls2 := [(0, .ref 0), (1, .int a1), (2, .int (nI n)), (3, .int 1)]) (st2 := [.ref 0]) (w3 := w) rfl rfl ?_
  refine sx_RP.gf (v := .ref 96) rfl rfl hI.1.o0 rfl rfl (show _ = 46 from rfl) ?_
  refine sx_RP.step (pc2 := 47) (ls2 := [(0, .ref 0), (1, .int a1), (2, .int (nI n)), (3, .int 1)]) (st2 := [.int a1, .ref 96]) (w3 := w) rfl rfl ?_
  refine sx_RP.step (pc2 := 49) (ls2 := [(0, .ref 0), (1, .int a1), (2, .int (nI n)), (3, .int 1)]) (st2 := [.int 8, .int a1, .ref 96]) (w3 := w) rfl rfl ?_
  refine sx_RP.step (pc2 := 50) (ls2 := [(0, .ref 0), (1, .int a1), (2, .int (nI n)), (3, .int 1)]) (st2 := [.int 1, .int 8, .int a1, .ref 96]) (w3 := w) rfl rfl ?_
  refine sx_RP.step (pc2 := 51) (ls2 := [(0, .ref 0), (1, .int a1), (2, .int (nI n)), (3, .int 1)]) (st2 := [.int 8, .int a1, .ref 96]) (w3 := w) rfl rfl ?_
  refine sx_RP.step (pc2 := 52) (ls2 := [(0, .ref 0), (1, .int a1), (2, .int (nI n)), (3, .int 1)]) (st2 := [.int (a1 >>> (8 &&& 31)), .ref 96]) (w3 := w) rfl rfl ?_
  refine sx_RP.step (pc2 := 53) (ls2 := [(0, .ref 0), (1, .int a1), (2, .int (nI n)), (3, .int 1)]) (st2 := [.int ((a1 >>> (8 &&& 31)).toInt8.toInt32), .ref 96]) (w3 := w) rfl rfl ?_
  refine sx_RP.callp (as2 := [.ref 96, .int ((a1 >>> (8 &&& 31)).toInt8.toInt32)]) (rest2 := []) rfl rfl (sx_inv_v2 (mi := 87) (k := 282) (st := [.int ((a1 >>> (8 &&& 31)).toInt8.toInt32), .ref 96]) (w := w) rfl rfl hI.1.o96 rfl rfl rfl) rfl rfl rfl (s89T hI hm (by omega) ((a1 >>> (8 &&& 31)).toInt8.toInt32)) (show _ = 56 from rfl) ?_
  rintro r4 w2 ⟨⟨rfl, ht1⟩, hI3, hE5⟩
  have hE4 := hE.tr (hE5)
  show sx_RP _ _ _ _ _ [] _ _
  refine sx_RP.step (pc2 := 59) (ls2 := [(3, .int 0), (0, .ref 0), (1, .int a1), (2, .int (nI n))]) (st2 := []) (w3 := w2) rfl rfl ?_
  refine sx_RP.step (pc2 := 38) (ls2 := [(3, .int 0), (0, .ref 0), (1, .int a1), (2, .int (nI n))]) (st2 := []) (w3 := w2) rfl rfl ?_
  exact sx_RP.ls (sx_lr.cons rfl (sx_lr.cons rfl (sx_lr.cons rfl (sx_lr.cons rfl sx_lr.nil)))) (s87T_0 (m := m + 1) (by omega) h120 hI3 ht1 hE4)
set_option maxRecDepth 20000 in
set_option maxHeartbeats 4000000 in
theorem s87T_2 {xs : Option (List Int32)} {d n m T : Nat} {a1 : Int32} {w w0 : List sx_C} (hT : m + 3 = T) (h120 : T ≤ 120) (hI : WI w) (hm : fi w 96 1 = nI m) (hE : EX 96 w0 w) : sx_RP xs (d + 7) 87 38 [(0, .ref 0), (1, .int a1), (2, .int (nI n)), (3, .int 2)] [] w (fun r w2 => (r = some (.int (nI T)) ∧ fi w2 96 1 = nI T) ∧ WI w2 ∧ EX 96 w0 w2) := by
  refine sx_RP.step (pc2 := 39) (ls2 := [(0, .ref 0), (1, .int a1), (2, .int (nI n)), (3, .int 2)]) (st2 := [.int 2]) (w3 := w) rfl rfl ?_
  refine sx_RP.step (pc2 := 42) (ls2 := [(0, .ref 0), (1, .int a1), (2, .int (nI n)), (3, .int 2)]) (st2 := []) (w3 := w) rfl rfl ?_
  refine sx_RP.step (pc2 := 43) (ls2 := [(0, .ref 0), (1, .int a1), (2, .int (nI n)), (3, .int 2)]) (st2 := [.ref 0]) (w3 := w) rfl rfl ?_
  refine sx_RP.gf (v := .ref 96) rfl rfl hI.1.o0 rfl rfl (show _ = 46 from rfl) ?_
  refine sx_RP.step (pc2 := 47) (ls2 := [(0, .ref 0), (1, .int a1), (2, .int (nI n)), (3, .int 2)]) (st2 := [.int a1, .ref 96]) (w3 := w) rfl rfl ?_
  refine sx_RP.step (pc2 := 49) (ls2 := [(0, .ref 0), (1, .int a1), (2, .int (nI n)), (3, .int 2)]) (st2 := [.int 8, .int a1, .ref 96]) (w3 := w) rfl rfl ?_
  refine sx_RP.step (pc2 := 50) (ls2 := [(0, .ref 0), (1, .int a1), (2, .int (nI n)), (3, .int 2)]) (st2 := [.int 2, .int 8, .int a1, .ref 96]) (w3 := w) rfl rfl ?_
  refine sx_RP.step (pc2 := 51) (ls2 := [(0, .ref 0), (1, .int a1), (2, .int (nI n)), (3, .int 2)]) (st2 := [.int 16, .int a1, .ref 96]) (w3 := w) rfl rfl ?_
  refine sx_RP.step (pc2 := 52) (ls2 := [(0, .ref 0), (1, .int a1), (2, .int (nI n)), (3, .int 2)]) (st2 := [.int (a1 >>> (16 &&& 31)), .ref 96]) (w3 := w) rfl rfl ?_
  refine sx_RP.step (pc2 := 53) (ls2 := [(0, .ref 0), (1, .int a1), (2, .int (nI n)), (3, .int 2)]) (st2 := [.int ((a1 >>> (16 &&& 31)).toInt8.toInt32), .ref 96]) (w3 := w) rfl rfl ?_
  refine sx_RP.callp (as2 := [.ref 96, .int ((a1 >>> (16 &&& 31)).toInt8.toInt32)]) (rest2 := []) rfl rfl (sx_inv_v2 (mi := 87) (k := 282) (st := [.int ((a1 >>> (16 &&& 31)).toInt8.toInt32), .ref 96]) (w := w) rfl rfl hI.1.o96 rfl rfl rfl) rfl rfl rfl (s89T hI hm (by omega) ((a1 >>> (16 &&& 31)).toInt8.toInt32)) (show _ = 56 from rfl) ?_
  rintro r4 w2 ⟨⟨rfl, ht1⟩, hI3, hE5⟩
  have hE4 := hE.tr (hE5)
  show sx_RP _ _ _ _ _ [] _ _
  refine sx_RP.step (pc2 := 59) (ls2 := [(3, .int 1), (0, .ref 0), (1, .int a1), (2, .int (nI n))]) (st2 := []) (w3 := w2) rfl rfl ?_
  refine sx_RP.step (pc2 := 38) (ls2 := [(3, .int 1), (0, .ref 0), (1, .int a1), (2, .int (nI n))]) (st2 := []) (w3 := w2) rfl rfl ?_
  exact sx_RP.ls (sx_lr.cons rfl (sx_lr.cons rfl (sx_lr.cons rfl (sx_lr.cons rfl sx_lr.nil)))) (s87T_1 (m := m + 1) (by omega) h120 hI3 ht1 hE4)
set_option maxRecDepth 20000 in
set_option maxHeartbeats 4000000 in
theorem s87T_3 {xs : Option (List Int32)} {d n m T : Nat} {a1 : Int32} {w w0 : List sx_C} (hT : m + 4 = T) (h120 : T ≤ 120) (hI : WI w) (hm : fi w 96 1 = nI m) (hE : EX 96 w0 w) : sx_RP xs (d + 7) 87 38 [(0, .ref 0), (1, .int a1), (2, .int (nI n)), (3, .int 3)] [] w (fun r w2 => (r = some (.int (nI T)) ∧ fi w2 96 1 = nI T) ∧ WI w2 ∧ EX 96 w0 w2) := by
  refine sx_RP.step (pc2 := 39) (ls2 := [(0, .ref 0), (1, .int a1), (2, .int (nI n)), (3, .int 3)]) (st2 := [.int 3]) (w3 := w) rfl rfl ?_
  refine sx_RP.step (pc2 := 42) (ls2 := [(0, .ref 0), (1, .int a1), (2, .int (nI n)), (3, .int 3)]) (st2 := []) (w3 := w) rfl rfl ?_
  refine sx_RP.step (pc2 := 43) (ls2 := [(0, .ref 0), (1, .int a1), (2, .int (nI n)), (3, .int 3)]) (st2 := [.ref 0]) (w3 := w) rfl rfl ?_
  refine sx_RP.gf (v := .ref 96) rfl rfl hI.1.o0 rfl rfl (show _ = 46 from rfl) ?_
  refine sx_RP.step (pc2 := 47) (ls2 := [(0, .ref 0), (1, .int a1), (2, .int (nI n)), (3, .int 3)]) (st2 := [.int a1, .ref 96]) (w3 := w) rfl rfl ?_
  refine sx_RP.step (pc2 := 49) (ls2 := [(0, .ref 0), (1, .int a1), (2, .int (nI n)), (3, .int 3)]) (st2 := [.int 8, .int a1, .ref 96]) (w3 := w) rfl rfl ?_
  refine sx_RP.step (pc2 := 50) (ls2 := [(0, .ref 0), (1, .int a1), (2, .int (nI n)), (3, .int 3)]) (st2 := [.int 3, .int 8, .int a1, .ref 96]) (w3 := w) rfl rfl ?_
  refine sx_RP.step (pc2 := 51) (ls2 := [(0, .ref 0), (1, .int a1), (2, .int (nI n)), (3, .int 3)]) (st2 := [.int 24, .int a1, .ref 96]) (w3 := w) rfl rfl ?_
  refine sx_RP.step (pc2 := 52) (ls2 := [(0, .ref 0), (1, .int a1), (2, .int (nI n)), (3, .int 3)]) (st2 := [.int (a1 >>> (24 &&& 31)), .ref 96]) (w3 := w) rfl rfl ?_
  refine sx_RP.step (pc2 := 53) (ls2 := [(0, .ref 0), (1, .int a1), (2, .int (nI n)), (3, .int 3)]) (st2 := [.int ((a1 >>> (24 &&& 31)).toInt8.toInt32), .ref 96]) (w3 := w) rfl rfl ?_
  refine sx_RP.callp (as2 := [.ref 96, .int ((a1 >>> (24 &&& 31)).toInt8.toInt32)]) (rest2 := []) rfl rfl (sx_inv_v2 (mi := 87) (k := 282) (st := [.int ((a1 >>> (24 &&& 31)).toInt8.toInt32), .ref 96]) (w := w) rfl rfl hI.1.o96 rfl rfl rfl) rfl rfl rfl (s89T hI hm (by omega) ((a1 >>> (24 &&& 31)).toInt8.toInt32)) (show _ = 56 from rfl) ?_
  rintro r4 w2 ⟨⟨rfl, ht1⟩, hI3, hE5⟩
  have hE4 := hE.tr (hE5)
  show sx_RP _ _ _ _ _ [] _ _
  refine sx_RP.step (pc2 := 59) (ls2 := [(3, .int 2), (0, .ref 0), (1, .int a1), (2, .int (nI n))]) (st2 := []) (w3 := w2) rfl rfl ?_
  refine sx_RP.step (pc2 := 38) (ls2 := [(3, .int 2), (0, .ref 0), (1, .int a1), (2, .int (nI n))]) (st2 := []) (w3 := w2) rfl rfl ?_
  exact sx_RP.ls (sx_lr.cons rfl (sx_lr.cons rfl (sx_lr.cons rfl (sx_lr.cons rfl sx_lr.nil)))) (s87T_2 (m := m + 1) (by omega) h120 hI3 ht1 hE4)
set_option maxRecDepth 20000 in
set_option maxHeartbeats 4000000 in
theorem s87T {xs : Option (List Int32)} {d n : Nat} {w : List sx_C} (hI : WI w) (hn : fi w 96 1 = nI n) (h120 : n ≤ 120) (a1 a2 : Int32) : sx_RP xs (d + 7) 87 0 (lv_args 0 [.ref 0, .int a1, .int a2]) [] w (fun r w2 => (r = some (.int (feedA n a2)) ∧ fi w2 96 1 = nI (feedL n a2)) ∧ WI w2 ∧ EX 96 w w2) := by
  have hE : EX 96 w w := EX.rf
  refine sx_RP.step (pc2 := 1) (ls2 := [(0, .ref 0), (1, .int a1), (2, .int a2)]) (st2 := [.int a2]) (w3 := w) rfl rfl ?_
  refine sx_RP.step (pc2 := 2) (ls2 := [(0, .ref 0), (1, .int a1), (2, .int a2)]) (st2 := [.int 1, .int a2]) (w3 := w) rfl rfl ?_
  refine sx_RP.step (pc2 := 3) (ls2 := [(0, .ref 0), (1, .int a1), (2, .int a2)]) (st2 := [.int 4, .int 1, .int a2]) (w3 := w) rfl rfl ?_
  rcases in_cases a2 1 4 (m := 1) (n := 4) rfl rfl (by decide) (by decide) with q1 | ⟨x2, hx3, hx4, rfl⟩
  · refine sx_RP.cu (as := [.int a2, .int 1, .int 4]) (rest2 := []) (st3 := [.int 0]) rfl rfl rfl rfl rfl (cx_8n q1) rfl ?_
    refine sx_RP.step (pc2 := 9) (ls2 := [(0, .ref 0), (1, .int a1), (2, .int a2)]) (st2 := []) (w3 := w) rfl rfl ?_
    refine sx_RP.step (pc2 := 10) (ls2 := [(0, .ref 0), (1, .int a1), (2, .int a2)]) (st2 := [.ref 0]) (w3 := w) rfl rfl ?_
    refine sx_RP.step (pc2 := 12) (ls2 := [(0, .ref 0), (1, .int a1), (2, .int a2)]) (st2 := [.int (-1000000001), .ref 0]) (w3 := w) rfl rfl ?_
    refine sx_RP.callp (as2 := [.ref 0, .int (-1000000001)]) (rest2 := []) rfl rfl (sx_inv_v2 (mi := 87) (k := 78) (st := [.int (-1000000001), .ref 0]) (w := w) rfl rfl hI.1.o0 rfl rfl rfl) rfl rfl rfl (s9_0 hI) (show _ = 15 from rfl) ?_
    rintro r4 w6 ⟨rfl, hI7, hE9⟩
    have hE8 := hE.tr (hE9.ex)
    show sx_RP _ _ _ _ _ [.int (-1000000001)] _ _
    refine sx_RP.ret (r := (some (.int (-1000000001)))) rfl rfl ?_
    exact ⟨⟨by rw [(feed_n q1).1], by rw [(feed_n q1).2]; exact (keep96 hI hI7 ((hE9 96).1 (by decide))).trans hn⟩, hI7, hE8⟩
  · refine sx_RP.cu (as := [.int (nI x2), .int 1, .int 4]) (rest2 := []) (st3 := [.int 1]) rfl rfl rfl rfl rfl (cx_8p ⟨nI_le (a := 1) hx3 (by omega), nI_le (b := 4) hx4 (by decide)⟩) rfl ?_
    refine sx_RP.step (pc2 := 16) (ls2 := [(0, .ref 0), (1, .int a1), (2, .int (nI x2))]) (st2 := []) (w3 := w) rfl rfl ?_
    refine sx_RP.step (pc2 := 17) (ls2 := [(0, .ref 0), (1, .int a1), (2, .int (nI x2))]) (st2 := [.ref 0]) (w3 := w) rfl rfl ?_
    refine sx_RP.gf (v := .ref 96) rfl rfl hI.1.o0 rfl rfl (show _ = 20 from rfl) ?_
    refine sx_RP.step (pc2 := 21) (ls2 := [(0, .ref 0), (1, .int a1), (2, .int (nI x2))]) (st2 := [.int (nI x2), .ref 96]) (w3 := w) rfl rfl ?_
    rcases Decidable.em (n + x2 ≤ 120) with c10 | c10
    · refine sx_RP.cu (as := [.ref 96, .int (nI x2)]) (rest2 := []) (st3 := [.int 1]) rfl rfl (sx_inv_v2 (mi := 87) (k := 279) (st := [.int (nI x2), .ref 96]) (w := w) rfl rfl hI.1.o96 rfl rfl rfl) rfl rfl (p88y hI hn h120 (by omega) c10) rfl ?_
      refine sx_RP.step (pc2 := 34) (ls2 := [(0, .ref 0), (1, .int a1), (2, .int (nI x2))]) (st2 := []) (w3 := w) rfl rfl ?_
      refine sx_RP.step (pc2 := 35) (ls2 := [(0, .ref 0), (1, .int a1), (2, .int (nI x2))]) (st2 := [.int (nI x2)]) (w3 := w) rfl rfl ?_
      refine sx_RP.step (pc2 := 36) (ls2 := [(0, .ref 0), (1, .int a1), (2, .int (nI x2))]) (st2 := [.int 1, .int (nI x2)]) (w3 := w) rfl rfl ?_
      refine sx_RP.step (pc2 := 37) (ls2 := [(0, .ref 0), (1, .int a1), (2, .int (nI x2))]) (st2 := [.int ((nI x2) - 1)]) (w3 := w) rfl rfl ?_
      refine sx_RP.step (pc2 := 38) (ls2 := [(3, .int ((nI x2) - 1)), (0, .ref 0), (1, .int a1), (2, .int (nI x2))]) (st2 := []) (w3 := w) rfl rfl ?_
      rw [(feed_y (n := n) (x := x2) (by omega) (by omega) c10).1, (feed_y (n := n) (x := x2) (by omega) (by omega) c10).2]
      rcases (show x2 = 1 ∨ x2 = 2 ∨ x2 = 3 ∨ x2 = 4 by omega) with rfl | rfl | rfl | rfl
      · exact sx_RP.ls (sx_lr.cons rfl (sx_lr.cons rfl (sx_lr.cons rfl (sx_lr.cons rfl sx_lr.nil)))) (s87T_0 rfl (by omega) hI hn hE)
      · exact sx_RP.ls (sx_lr.cons rfl (sx_lr.cons rfl (sx_lr.cons rfl (sx_lr.cons rfl sx_lr.nil)))) (s87T_1 rfl (by omega) hI hn hE)
      · exact sx_RP.ls (sx_lr.cons rfl (sx_lr.cons rfl (sx_lr.cons rfl (sx_lr.cons rfl sx_lr.nil)))) (s87T_2 rfl (by omega) hI hn hE)
      · exact sx_RP.ls (sx_lr.cons rfl (sx_lr.cons rfl (sx_lr.cons rfl (sx_lr.cons rfl sx_lr.nil)))) (s87T_3 rfl (by omega) hI hn hE)
    · refine sx_RP.cu (as := [.ref 96, .int (nI x2)]) (rest2 := []) (st3 := [.int 0]) rfl rfl (sx_inv_v2 (mi := 87) (k := 279) (st := [.int (nI x2), .ref 96]) (w := w) rfl rfl hI.1.o96 rfl rfl rfl) rfl rfl (p88n hI hn h120 (by omega) c10) rfl ?_
      refine sx_RP.step (pc2 := 27) (ls2 := [(0, .ref 0), (1, .int a1), (2, .int (nI x2))]) (st2 := []) (w3 := w) rfl rfl ?_
      refine sx_RP.step (pc2 := 28) (ls2 := [(0, .ref 0), (1, .int a1), (2, .int (nI x2))]) (st2 := [.ref 0]) (w3 := w) rfl rfl ?_
      refine sx_RP.step (pc2 := 30) (ls2 := [(0, .ref 0), (1, .int a1), (2, .int (nI x2))]) (st2 := [.int (-1000000002), .ref 0]) (w3 := w) rfl rfl ?_
      refine sx_RP.callp (as2 := [.ref 0, .int (-1000000002)]) (rest2 := []) rfl rfl (sx_inv_v2 (mi := 87) (k := 78) (st := [.int (-1000000002), .ref 0]) (w := w) rfl rfl hI.1.o0 rfl rfl rfl) rfl rfl rfl (s9_1 hI) (show _ = 33 from rfl) ?_
      rintro r4 w11 ⟨rfl, hI12, hE14⟩
      have hE13 := hE.tr (hE14.ex)
      show sx_RP _ _ _ _ _ [.int (-1000000002)] _ _
      refine sx_RP.ret (r := (some (.int (-1000000002)))) rfl rfl ?_
      exact ⟨⟨by rw [(feed_f (x := x2) (by omega) (by omega) c10).1], by rw [(feed_f (x := x2) (by omega) (by omega) c10).2]; exact (keep96 hI hI12 ((hE14 96).1 (by decide))).trans hn⟩, hI12, hE13⟩
set_option maxRecDepth 20000 in
set_option maxHeartbeats 4000000 in
theorem s208LT {xs : Option (List Int32)} {d : Nat} {w0 : List sx_C} (x : Int32) : ∀ (kz t T : Nat) (w : List sx_C), t + kz = T → T ≤ 120 → fi w 111 11 = nI t → WI w → EF w0 w → sx_RP xs (d + 7) 208 36 [(0, .ref 111), (1, .int x), (3, .int (nI kz - 1))] [] w (fun r w2 => (r = some (.int (nI T)) ∧ fi w2 111 11 = nI T) ∧ WI w2 ∧ EF w0 w2)
  | 0, t, T, w, ht, h120, et, hI, hE => by
    rw [show nI 0 - 1 = -1 from rfl]
    refine sx_RP.step (pc2 := 37) (ls2 := [(0, .ref 111), (1, .int x), (3, .int (-1))]) (st2 := [.int (-1)]) (w3 := w) rfl rfl ?_
    refine sx_RP.step (pc2 := 75) (ls2 := [(0, .ref 111), (1, .int x), (3, .int (-1))]) (st2 := []) (w3 := w) rfl rfl ?_
    refine sx_RP.step (pc2 := 76) (ls2 := [(0, .ref 111), (1, .int x), (3, .int (-1))]) (st2 := [.ref 111]) (w3 := w) rfl rfl ?_
    refine sx_RP.gf (v := .int (fi w 111 11)) rfl rfl hI.1.o111 rfl rfl (show _ = 79 from rfl) ?_
    rw [et]
    refine sx_RP.ret (r := (some (.int (nI t)))) rfl rfl ?_
    exact ⟨⟨by rw [show t = T by omega], by rw [et, show t = T by omega]⟩, hI, hE⟩
  | kz + 1, t, T, w, ht, h120, et, hI, hE => by
    rw [show nI (kz + 1) - 1 = nI kz from fd_s1]
    refine sx_RP.step (pc2 := 37) (ls2 := [(0, .ref 111), (1, .int x), (3, .int (nI kz))]) (st2 := [.int (nI kz)]) (w3 := w) rfl rfl ?_
    refine sx_RP.br (p2 := 40) (l2 := [(0, .ref 111), (1, .int x), (3, .int (nI kz))]) (s2 := []) (v2 := w) rfl rfl (fun q => absurd (of_decide_eq_true q) (nI_pos (by omega))) (fun _ => ?_)
    refine sx_RP.step (pc2 := 41) (ls2 := [(0, .ref 111), (1, .int x), (3, .int (nI kz))]) (st2 := [.ref 111]) (w3 := w) rfl rfl ?_
    refine sx_RP.gf (v := .ref 121) rfl rfl hI.1.o111 rfl rfl (show _ = 44 from rfl) ?_
    refine sx_RP.step (pc2 := 45) (ls2 := [(0, .ref 111), (1, .int x), (3, .int (nI kz))]) (st2 := [.ref 111, .ref 121]) (w3 := w) rfl rfl ?_
    refine sx_RP.gf (v := .int (fi w 111 11)) rfl rfl hI.1.o111 rfl rfl (show _ = 48 from rfl) ?_
    rw [et]
    refine sx_RP.step (pc2 := 49) (ls2 := [(0, .ref 111), (1, .int x), (3, .int (nI kz))]) (st2 := [.int x, .int (nI t), .ref 121]) (w3 := w) rfl rfl ?_
    refine sx_RP.step (pc2 := 51) (ls2 := [(0, .ref 111), (1, .int x), (3, .int (nI kz))]) (st2 := [.int 8, .int x, .int (nI t), .ref 121]) (w3 := w) rfl rfl ?_
    refine sx_RP.step (pc2 := 52) (ls2 := [(0, .ref 111), (1, .int x), (3, .int (nI kz))]) (st2 := [.int (nI kz), .int 8, .int x, .int (nI t), .ref 121]) (w3 := w) rfl rfl ?_
    refine sx_RP.step (pc2 := 53) (ls2 := [(0, .ref 111), (1, .int x), (3, .int (nI kz))]) (st2 := [.int (8 * (nI kz)), .int x, .int (nI t), .ref 121]) (w3 := w) rfl rfl ?_
    rw [show (8 * (nI kz) : Int32) = nI (8 * kz) from nI_mul 8 kz]
    refine sx_RP.step (pc2 := 54) (ls2 := [(0, .ref 111), (1, .int x), (3, .int (nI kz))]) (st2 := [.int (x >>> ((nI (8 * kz)) &&& 31)), .int (nI t), .ref 121]) (w3 := w) rfl rfl ?_
    refine sx_RP.step (pc2 := 57) (ls2 := [(0, .ref 111), (1, .int x), (3, .int (nI kz))]) (st2 := [.int 255, .int (x >>> ((nI (8 * kz)) &&& 31)), .int (nI t), .ref 121]) (w3 := w) rfl rfl ?_
    refine sx_RP.step (pc2 := 58) (ls2 := [(0, .ref 111), (1, .int x), (3, .int (nI kz))]) (st2 := [.int ((x >>> ((nI (8 * kz)) &&& 31)) &&& 255), .int (nI t), .ref 121]) (w3 := w) rfl rfl ?_
    refine sx_RP.mFT hI hE rfl hI.1.a121 (sx_in_nI (show t < 120 by omega) (by decide)) (show _ = 59 from rfl) (fun w1 hI2 hE3 ht4 => ?_)
    have ex5 := ht4.trans et
    refine sx_RP.step (pc2 := 60) (ls2 := [(0, .ref 111), (1, .int x), (3, .int (nI kz))]) (st2 := [.ref 111]) (w3 := w1) rfl rfl ?_
    refine sx_RP.step (pc2 := 61) (ls2 := [(0, .ref 111), (1, .int x), (3, .int (nI kz))]) (st2 := [.ref 111, .ref 111]) (w3 := w1) rfl rfl ?_
    refine sx_RP.gf (v := .int (fi w1 111 11)) rfl rfl hI2.1.o111 rfl rfl (show _ = 64 from rfl) ?_
    rw [ex5]
    refine sx_RP.step (pc2 := 65) (ls2 := [(0, .ref 111), (1, .int x), (3, .int (nI kz))]) (st2 := [.int 1, .int (nI t), .ref 111]) (w3 := w1) rfl rfl ?_
    refine sx_RP.step (pc2 := 66) (ls2 := [(0, .ref 111), (1, .int x), (3, .int (nI kz))]) (st2 := [.int ((nI t) + 1), .ref 111]) (w3 := w1) rfl rfl ?_
    rw [show ((nI t) + 1 : Int32) = nI (t + 1) from nI_add t 1]
    refine sx_RP.pmtF hI2 hE3 rfl rfl rfl ⟨(t + 1), by omega, rfl⟩ (show _ = 69 from rfl) (fun w6 hI7 hE8 ht9 => ?_)
    refine sx_RP.step (pc2 := 72) (ls2 := [(3, .int ((nI kz) + (-1))), (0, .ref 111), (1, .int x)]) (st2 := []) (w3 := w6) rfl rfl ?_
    refine sx_RP.step (pc2 := 36) (ls2 := [(3, .int ((nI kz) + (-1))), (0, .ref 111), (1, .int x)]) (st2 := []) (w3 := w6) rfl rfl ?_
    rw [fd_m1]
    exact sx_RP.ls (sx_lr.cons rfl (sx_lr.cons rfl (sx_lr.cons rfl sx_lr.nil))) (s208LT x kz (t + 1) T w6 (by omega) h120 ht9 hI7 hE8)
set_option maxRecDepth 20000 in
set_option maxHeartbeats 4000000 in
theorem s208T {xs : Option (List Int32)} {d n : Nat} {w : List sx_C} (hI : WI w) (hn : fi w 111 11 = nI n) (h120 : n ≤ 120) (a1 a2 : Int32) : sx_RP xs (d + 7) 208 0 (lv_args 0 [.ref 111, .int a1, .int a2]) [] w (fun r w2 => (r = some (.int (feedA n a2)) ∧ fi w2 111 11 = nI (feedL n a2)) ∧ WI w2 ∧ EF w w2) := by
  have hE : EF w w := EF.rf
  refine sx_RP.step (pc2 := 1) (ls2 := [(0, .ref 111), (1, .int a1), (2, .int a2)]) (st2 := [.int a2]) (w3 := w) rfl rfl ?_
  refine sx_RP.step (pc2 := 2) (ls2 := [(0, .ref 111), (1, .int a1), (2, .int a2)]) (st2 := [.int 1, .int a2]) (w3 := w) rfl rfl ?_
  refine sx_RP.step (pc2 := 3) (ls2 := [(0, .ref 111), (1, .int a1), (2, .int a2)]) (st2 := [.int 4, .int 1, .int a2]) (w3 := w) rfl rfl ?_
  rcases in_cases a2 1 4 (m := 1) (n := 4) rfl rfl (by decide) (by decide) with q1 | ⟨x2, hx3, hx4, rfl⟩
  · refine sx_RP.cu (as := [.int a2, .int 1, .int 4]) (rest2 := []) (st3 := [.int 0]) rfl rfl rfl rfl rfl (cx_132o q1) rfl ?_
    refine sx_RP.step (pc2 := 9) (ls2 := [(0, .ref 111), (1, .int a1), (2, .int a2)]) (st2 := []) (w3 := w) rfl rfl ?_
    refine sx_RP.step (pc2 := 10) (ls2 := [(0, .ref 111), (1, .int a1), (2, .int a2)]) (st2 := [.ref 111]) (w3 := w) rfl rfl ?_
    refine sx_RP.step (pc2 := 11) (ls2 := [(0, .ref 111), (1, .int a1), (2, .int a2)]) (st2 := [.int 0, .ref 111]) (w3 := w) rfl rfl ?_
    refine sx_RP.callp (as2 := [.ref 111, .int 0]) (rest2 := []) rfl rfl (sx_inv_v2 (mi := 208) (k := 70) (st := [.int 0, .ref 111]) (w := w) rfl rfl hI.1.o111 rfl rfl rfl) rfl rfl rfl (s133_0 hI) (show _ = 14 from rfl) ?_
    rintro r4 w6 ⟨rfl, hI7, hE9⟩
    have hE8 := hE.tr (hE9.ef hI hI7)
    show sx_RP _ _ _ _ _ [.int (-1000000001)] _ _
    refine sx_RP.ret (r := (some (.int (-1000000001)))) rfl rfl ?_
    exact ⟨⟨by rw [(feed_n q1).1], by rw [(feed_n q1).2]; exact ((keep111 hI hI7 ((hE9 111).2 (by decide))).2).trans hn⟩, hI7, hE8⟩
  · refine sx_RP.cu (as := [.int (nI x2), .int 1, .int 4]) (rest2 := []) (st3 := [.int 1]) rfl rfl rfl rfl rfl (cx_132p ⟨nI_le (a := 1) hx3 (by omega), nI_le (b := 4) hx4 (by decide)⟩) rfl ?_
    refine sx_RP.step (pc2 := 15) (ls2 := [(0, .ref 111), (1, .int a1), (2, .int (nI x2))]) (st2 := []) (w3 := w) rfl rfl ?_
    refine sx_RP.step (pc2 := 16) (ls2 := [(0, .ref 111), (1, .int a1), (2, .int (nI x2))]) (st2 := [.ref 111]) (w3 := w) rfl rfl ?_
    refine sx_RP.gf (v := .int (fi w 111 11)) rfl rfl hI.1.o111 rfl rfl (show _ = 19 from rfl) ?_
    rw [hn]
    refine sx_RP.step (pc2 := 20) (ls2 := [(0, .ref 111), (1, .int a1), (2, .int (nI x2))]) (st2 := [.int (nI x2), .int (nI n)]) (w3 := w) rfl rfl ?_
    refine sx_RP.step (pc2 := 21) (ls2 := [(0, .ref 111), (1, .int a1), (2, .int (nI x2))]) (st2 := [.int ((nI n) + (nI x2))]) (w3 := w) rfl rfl ?_
    rw [show ((nI n) + (nI x2) : Int32) = nI (n + x2) from nI_add n x2]
    refine sx_RP.step (pc2 := 23) (ls2 := [(0, .ref 111), (1, .int a1), (2, .int (nI x2))]) (st2 := [.int 120, .int (nI (n + x2))]) (w3 := w) rfl rfl ?_
    refine sx_RP.br (p1 := 32) (l1 := [(0, .ref 111), (1, .int a1), (2, .int (nI x2))]) (s1 := []) (v1 := w) (p2 := 26) (l2 := [(0, .ref 111), (1, .int a1), (2, .int (nI x2))]) (s2 := []) (v2 := w) rfl rfl (fun q10 => ?_) (fun q10 => ?_)
    · replace q10 := of_decide_eq_true q10
      replace q10 := (nI_leI (a := (n + x2)) (b := 120) (by omega) (by omega)).mp q10
      refine sx_RP.step (pc2 := 33) (ls2 := [(0, .ref 111), (1, .int a1), (2, .int (nI x2))]) (st2 := [.int (nI x2)]) (w3 := w) rfl rfl ?_
      refine sx_RP.step (pc2 := 34) (ls2 := [(0, .ref 111), (1, .int a1), (2, .int (nI x2))]) (st2 := [.int 1, .int (nI x2)]) (w3 := w) rfl rfl ?_
      refine sx_RP.step (pc2 := 35) (ls2 := [(0, .ref 111), (1, .int a1), (2, .int (nI x2))]) (st2 := [.int ((nI x2) - 1)]) (w3 := w) rfl rfl ?_
      refine sx_RP.step (pc2 := 36) (ls2 := [(3, .int ((nI x2) - 1)), (0, .ref 111), (1, .int a1), (2, .int (nI x2))]) (st2 := []) (w3 := w) rfl rfl ?_
      rw [(feed_y (n := n) (x := x2) (by omega) (by omega) q10).1, (feed_y (n := n) (x := x2) (by omega) (by omega) q10).2]
      exact sx_RP.ls (sx_lr.cons rfl (sx_lr.cons rfl (sx_lr.cons rfl sx_lr.nil))) (s208LT a1 x2 n (n + x2) w rfl q10 hn hI hE)
    · replace q10 := of_decide_eq_false q10
      replace q10 := mt (nI_leI (a := (n + x2)) (b := 120) (by omega) (by omega)).mpr q10
      refine sx_RP.step (pc2 := 27) (ls2 := [(0, .ref 111), (1, .int a1), (2, .int (nI x2))]) (st2 := [.ref 111]) (w3 := w) rfl rfl ?_
      refine sx_RP.step (pc2 := 28) (ls2 := [(0, .ref 111), (1, .int a1), (2, .int (nI x2))]) (st2 := [.int 1, .ref 111]) (w3 := w) rfl rfl ?_
      refine sx_RP.callp (as2 := [.ref 111, .int 1]) (rest2 := []) rfl rfl (sx_inv_v2 (mi := 208) (k := 70) (st := [.int 1, .ref 111]) (w := w) rfl rfl hI.1.o111 rfl rfl rfl) rfl rfl rfl (s133_1 hI) (show _ = 31 from rfl) ?_
      rintro r4 w11 ⟨rfl, hI12, hE14⟩
      have hE13 := hE.tr (hE14.ef hI hI12)
      show sx_RP _ _ _ _ _ [.int (-1000000002)] _ _
      refine sx_RP.ret (r := (some (.int (-1000000002)))) rfl rfl ?_
      exact ⟨⟨by rw [(feed_f (x := x2) (by omega) (by omega) q10).1], by rw [(feed_f (x := x2) (by omega) (by omega) q10).2]; exact ((keep111 hI hI12 ((hE14 111).2 (by decide))).2).trans hn⟩, hI12, hE13⟩
/-- as EF, and the tape's length -/
def EFT (w w2 : List sx_C) : Prop := EF w w2 ∧ fi w2 111 11 = fi w 111 11
theorem EFT.rf {w : List sx_C} : EFT w w := ⟨EF.rf, rfl⟩
theorem EFT.tr {w w1 w2 : List sx_C} (h : EFT w w1) (h2 : EFT w1 w2) : EFT w w2 := ⟨h.1.tr h2.1, h2.2.trans h.2⟩
theorem EM.eft {w w2 : List sx_C} (h : EM w w2) (hI : WI w) (hI2 : WI w2) : EFT w w2 := ⟨h.ef hI hI2, (keep111 hI hI2 ((h 111).2 (by decide))).2⟩
theorem EFT.set {w0 w : List sx_C} {a : Nat} {c : sx_C} (h : EFT w0 w) (ha : 112 ≤ a) : EFT w0 (w.set a c) := h.tr ⟨EF.rf.set ha, fi_ne (by omega)⟩
section SXEFT
variable {xs : Option (List Int32)} {d mi pc pc2 idx p : Nat} {ls : sx_L} {r : List Value} {w w0 : List sx_C} {P : Option Value → List sx_C → Prop}
theorem sx_RP.mFFt {a : Nat} {i x : Int32} {n : Nat} (hI : WI w) (hE : EFT w0 w) (hi : sx_ins mi pc = some (.iastore, 1)) (hw : w[a]? = some (.inl (0, ia w a)) ∧ (ia w a).length = n) (hn : sx_in i n = true) (hf : a = 116 ∨ a = 117 ∨ a = 119 ∨ a = 121 ∨ a = 122) (hp : pc + 1 = pc2) (kk : ∀ w2, WI w2 → EFT w0 w2 → (∀ j, (ia w2 112).getD j 0 = (ia w 112).getD j 0) → sx_RP xs d mi pc2 ls r w2 P) : sx_RP xs d mi pc ls (.int x :: .int i :: .ref a :: r) w P :=
  sx_RP.ist hi hw.1 hw.2 hn rfl rfl hp (kk _ (hI.set hw.1 sh_set (cOK.free (by omega))) (hE.set (by omega)) (fun j => by rw [ia_ne (by omega)]))
theorem sx_RP.mSzt {k : Nat} {x : Int32} (hI : WI w) (hE : EFT w0 w) (hi : sx_ins mi pc = some (.iastore, 1)) (hk : k < 4) (hx : inR x 40) (hp : pc + 1 = pc2) (kk : ∀ w2, WI w2 → EFT w0 w2 → sx_RP xs d mi pc2 ls r w2 P) : sx_RP xs d mi pc ls (.int x :: .int (nI k) :: .ref 123 :: r) w P := by
  have hw := hI.1.a123
  refine sx_RP.ist hi hw.1 hw.2 (sx_in_nI hk (by decide)) rfl rfl hp (kk _ (hI.set hw.1 sh_set (cOK.l (fun j hj => ?_))) (hE.set (by omega)))
  rw [nI_clamp (by omega)]
  show inR (((ia w 123).set k x).getD j 0) 40
  rw [gd_set (by rw [hw.2]; exact hk)]
  split
  · exact hx
  · exact hI.l hj
theorem sx_RP.mNFt {a : Nat} {i : Int32} {x : Int64} {n : Nat} (hI : WI w) (hE : EFT w0 w) (hi : sx_ins mi pc = some (.lastore, 1)) (hw : w[a]? = some (.inr (.inl (3, ja w a))) ∧ (ja w a).length = n) (hn : sx_in i n = true) (hf : a = 124 ∨ a = 125) (hp : pc + 1 = pc2) (kk : ∀ w2, WI w2 → EFT w0 w2 → (∀ j, (ia w2 112).getD j 0 = (ia w 112).getD j 0) → sx_RP xs d mi pc2 ls r w2 P) : sx_RP xs d mi pc ls (.long x :: .int i :: .ref a :: r) w P :=
  sx_RP.mN hI EM.rf hi hw hn hf hp (fun w2 h1 h2 h3 => kk w2 h1 (hE.tr (h2.eft hI h1)) h3)
end SXEFT
set_option maxRecDepth 20000 in
set_option maxHeartbeats 4000000 in
theorem s230tB {xs : Option (List Int32)} {d : Nat} {w w0 : List sx_C} {k : Nat} (hk : k < 4) (hI : WI w) (hE : EFT w0 w) {j : Nat} (hj : j ≤ 40) (kk : ∀ (w4 : List sx_C), WI w4 → EFT w0 w4 → j + 1 ≤ 40 → sx_RP xs (d + 7) 230 83 [(0, .ref 111), (1, .int (nI k)), (4, .int (nI (j + 1)))] [] w4 (fun r w2 => (∃ v : Int32, r = some (.int v)) ∧ WI w2 ∧ EFT w0 w2)) : sx_RP xs (d + 7) 230 83 [(0, .ref 111), (1, .int (nI k)), (4, .int (nI j))] [] w (fun r w2 => (∃ v : Int32, r = some (.int v)) ∧ WI w2 ∧ EFT w0 w2) := by
  refine sx_RP.step (pc2 := 85) (ls2 := [(0, .ref 111), (1, .int (nI k)), (4, .int (nI j))]) (st2 := [.int (nI j)]) (w3 := w) rfl rfl ?_
  refine sx_RP.step (pc2 := 87) (ls2 := [(0, .ref 111), (1, .int (nI k)), (4, .int (nI j))]) (st2 := [.int 40, .int (nI j)]) (w3 := w) rfl rfl ?_
  refine sx_RP.br (p1 := 109) (l1 := [(0, .ref 111), (1, .int (nI k)), (4, .int (nI j))]) (s1 := []) (v1 := w) (p2 := 90) (l2 := [(0, .ref 111), (1, .int (nI k)), (4, .int (nI j))]) (s2 := []) (v2 := w) rfl rfl (fun q1 => ?_) (fun q1 => ?_)
  · replace q1 := of_decide_eq_true q1
    replace q1 := (nI_leI (a := 40) (b := j) (by omega) (by omega)).mp q1
    refine sx_RP.step (pc2 := 110) (ls2 := [(0, .ref 111), (1, .int (nI k)), (4, .int (nI j))]) (st2 := [.ref 111]) (w3 := w) rfl rfl ?_
    refine sx_RP.gf (v := .ref 123) rfl rfl hI.1.o111 rfl rfl (show _ = 113 from rfl) ?_
    refine sx_RP.step (pc2 := 114) (ls2 := [(0, .ref 111), (1, .int (nI k)), (4, .int (nI j))]) (st2 := [.int (nI k), .ref 123]) (w3 := w) rfl rfl ?_
    refine sx_RP.ild (c := k) rfl hI.1.a123.1 hI.1.a123.2 (sx_in_nI (show k < 4 by omega) (by decide)) (show (nI k).toNatClampNeg = k from nI_clamp (by omega)) (show _ = 115 from rfl) ?_
    obtain ⟨x2, hx3, ex4⟩ : inR ((ia w 123).getD k 0) 40 := hI.l (show k < 4 by omega)
    rw [ex4]
    refine sx_RP.ret (r := (some (.int (nI x2)))) rfl rfl ?_
    exact ⟨⟨_, rfl⟩, hI, hE⟩
  · replace q1 := of_decide_eq_false q1
    replace q1 := mt (nI_leI (a := 40) (b := j) (by omega) (by omega)).mpr q1
    refine sx_RP.step (pc2 := 91) (ls2 := [(0, .ref 111), (1, .int (nI k)), (4, .int (nI j))]) (st2 := [.ref 111]) (w3 := w) rfl rfl ?_
    refine sx_RP.gf (v := .ref 124) rfl rfl hI.1.o111 rfl rfl (show _ = 94 from rfl) ?_
    refine sx_RP.step (pc2 := 96) (ls2 := [(0, .ref 111), (1, .int (nI k)), (4, .int (nI j))]) (st2 := [.int 40, .ref 124]) (w3 := w) rfl rfl ?_
    refine sx_RP.step (pc2 := 97) (ls2 := [(0, .ref 111), (1, .int (nI k)), (4, .int (nI j))]) (st2 := [.int (nI k), .int 40, .ref 124]) (w3 := w) rfl rfl ?_
    refine sx_RP.step (pc2 := 98) (ls2 := [(0, .ref 111), (1, .int (nI k)), (4, .int (nI j))]) (st2 := [.int (40 * (nI k)), .ref 124]) (w3 := w) rfl rfl ?_
    rw [show (40 * (nI k) : Int32) = nI (40 * k) from nI_mul 40 k]
    refine sx_RP.step (pc2 := 100) (ls2 := [(0, .ref 111), (1, .int (nI k)), (4, .int (nI j))]) (st2 := [.int (nI j), .int (nI (40 * k)), .ref 124]) (w3 := w) rfl rfl ?_
    refine sx_RP.step (pc2 := 101) (ls2 := [(0, .ref 111), (1, .int (nI k)), (4, .int (nI j))]) (st2 := [.int ((nI (40 * k)) + (nI j)), .ref 124]) (w3 := w) rfl rfl ?_
    rw [show ((nI (40 * k)) + (nI j) : Int32) = nI ((40 * k) + j) from nI_add (40 * k) j]
    refine sx_RP.step (pc2 := 102) (ls2 := [(0, .ref 111), (1, .int (nI k)), (4, .int (nI j))]) (st2 := [.long 0, .int (nI ((40 * k) + j)), .ref 124]) (w3 := w) rfl rfl ?_
    refine sx_RP.mNFt hI hE rfl hI.1.a124 (sx_in_nI (show ((40 * k) + j) < 160 by omega) (by decide)) (by decide) (show _ = 103 from rfl) (fun w5 hI6 hE7 hk8 => ?_)
    refine sx_RP.step (pc2 := 106) (ls2 := [(4, .int ((nI j) + 1)), (0, .ref 111), (1, .int (nI k))]) (st2 := []) (w3 := w5) rfl rfl ?_
    rw [nI_1 j]
    refine sx_RP.step (pc2 := 83) (ls2 := [(4, .int (nI (j + 1))), (0, .ref 111), (1, .int (nI k))]) (st2 := []) (w3 := w5) rfl rfl ?_
    exact sx_RP.ls (sx_lr.cons rfl (sx_lr.cons rfl (sx_lr.cons rfl sx_lr.nil))) (kk w5 hI6 hE7 (by omega))
set_option maxRecDepth 20000 in
set_option maxHeartbeats 4000000 in
theorem s230tL {xs : Option (List Int32)} {d : Nat} {w0 : List sx_C} {k : Nat} (hk : k < 4) : ∀ (fz j : Nat) (w : List sx_C) , 40 ≤ j + fz * 1 → j ≤ 40 → WI w → EFT w0 w → sx_RP xs (d + 7) 230 83 [(0, .ref 111), (1, .int (nI k)), (4, .int (nI j))] [] w (fun r w2 => (∃ v : Int32, r = some (.int v)) ∧ WI w2 ∧ EFT w0 w2)
  | 0, j, w, h, hj, hI, hE => s230tB hk hI hE hj   (fun w4  hI4 hE4 hlt  => absurd hlt (by omega)) 
  | fz + 1, j, w, h, hj, hI, hE => s230tB hk hI hE hj   (fun w4  hI4 hE4 hlt  => s230tL hk  fz (j + 1) w4  (by omega) hlt hI4 hE4 ) 
set_option maxRecDepth 20000 in
set_option maxHeartbeats 4000000 in
theorem s230t {xs : Option (List Int32)} {d : Nat} {w : List sx_C} (hI : WI w) (a1 a2 a3 : Int32) : sx_RP xs (d + 7) 230 0 (lv_args 0 [.ref 111, .int a1, .int a2, .int a3]) [] w (fun r w2 => (∃ v : Int32, r = some (.int v)) ∧ WI w2 ∧ EFT w w2) := by
  have hE : EFT w w := EFT.rf
  refine sx_RP.step (pc2 := 1) (ls2 := [(0, .ref 111), (1, .int a1), (2, .int a2), (3, .int a3)]) (st2 := [.int a1]) (w3 := w) rfl rfl ?_
  rcases in_cases a1 0 3 (m := 0) (n := 3) rfl rfl (by decide) (by decide) with q1 | ⟨x2, hx3, hx4, rfl⟩
  · refine sx_RP.cu (as := [.int a1]) (rest2 := []) (st3 := [.int 0]) rfl rfl rfl rfl rfl (cx_231n q1) rfl ?_
    refine sx_RP.step (pc2 := 29) (ls2 := [(0, .ref 111), (1, .int a1), (2, .int a2), (3, .int a3)]) (st2 := []) (w3 := w) rfl rfl ?_
    refine sx_RP.step (pc2 := 30) (ls2 := [(0, .ref 111), (1, .int a1), (2, .int a2), (3, .int a3)]) (st2 := [.ref 111]) (w3 := w) rfl rfl ?_
    refine sx_RP.step (pc2 := 31) (ls2 := [(0, .ref 111), (1, .int a1), (2, .int a2), (3, .int a3)]) (st2 := [.int 0, .ref 111]) (w3 := w) rfl rfl ?_
    refine sx_RP.callp (as2 := [.ref 111, .int 0]) (rest2 := []) rfl rfl (sx_inv_v2 (mi := 230) (k := 70) (st := [.int 0, .ref 111]) (w := w) rfl rfl hI.1.o111 rfl rfl rfl) rfl rfl rfl (s133_0 hI) (show _ = 34 from rfl) ?_
    rintro r4 w6 ⟨rfl, hI7, hE9⟩
    have hE8 := hE.tr (hE9.eft hI hI7)
    show sx_RP _ _ _ _ _ [.int (-1000000001)] _ _
    refine sx_RP.ret (r := (some (.int (-1000000001)))) rfl rfl ?_
    exact ⟨⟨_, rfl⟩, hI7, hE8⟩
  · refine sx_RP.cu (as := [.int (nI x2)]) (rest2 := []) (st3 := [.int 1]) rfl rfl rfl rfl rfl (cx_231p ⟨nI_le (a := 0) hx3 (by omega), nI_le (b := 3) hx4 (by decide)⟩) rfl ?_
    refine sx_RP.step (pc2 := 7) (ls2 := [(0, .ref 111), (1, .int (nI x2)), (2, .int a2), (3, .int a3)]) (st2 := []) (w3 := w) rfl rfl ?_
    refine sx_RP.step (pc2 := 8) (ls2 := [(0, .ref 111), (1, .int (nI x2)), (2, .int a2), (3, .int a3)]) (st2 := [.int a2]) (w3 := w) rfl rfl ?_
    refine sx_RP.br (p1 := 35) (l1 := [(0, .ref 111), (1, .int (nI x2)), (2, .int a2), (3, .int a3)]) (s1 := []) (v1 := w) (p2 := 11) (l2 := [(0, .ref 111), (1, .int (nI x2)), (2, .int a2), (3, .int a3)]) (s2 := []) (v2 := w) rfl rfl (fun q10 => ?_) (fun q10 => ?_)
    · replace q10 := of_decide_eq_true q10
      refine sx_RP.step (pc2 := 36) (ls2 := [(0, .ref 111), (1, .int (nI x2)), (2, .int a2), (3, .int a3)]) (st2 := [.int a3]) (w3 := w) rfl rfl ?_
      refine sx_RP.br (p1 := 46) (l1 := [(0, .ref 111), (1, .int (nI x2)), (2, .int a2), (3, .int a3)]) (s1 := []) (v1 := w) (p2 := 39) (l2 := [(0, .ref 111), (1, .int (nI x2)), (2, .int a2), (3, .int a3)]) (s2 := []) (v2 := w) rfl rfl (fun q11 => ?_) (fun q11 => ?_)
      · replace q11 := of_decide_eq_true q11
        refine sx_RP.step (pc2 := 47) (ls2 := [(0, .ref 111), (1, .int (nI x2)), (2, .int a2), (3, .int a3)]) (st2 := [.int a3]) (w3 := w) rfl rfl ?_
        refine sx_RP.step (pc2 := 49) (ls2 := [(0, .ref 111), (1, .int (nI x2)), (2, .int a2), (3, .int a3)]) (st2 := [.int 40, .int a3]) (w3 := w) rfl rfl ?_
        refine sx_RP.br (p1 := 58) (l1 := [(0, .ref 111), (1, .int (nI x2)), (2, .int a2), (3, .int a3)]) (s1 := []) (v1 := w) (p2 := 52) (l2 := [(0, .ref 111), (1, .int (nI x2)), (2, .int a2), (3, .int a3)]) (s2 := []) (v2 := w) rfl rfl (fun q12 => ?_) (fun q12 => ?_)
        · replace q12 := of_decide_eq_true q12
          refine sx_RP.step (pc2 := 59) (ls2 := [(0, .ref 111), (1, .int (nI x2)), (2, .int a2), (3, .int a3)]) (st2 := [.ref 111]) (w3 := w) rfl rfl ?_
          refine sx_RP.gf (v := .ref 122) rfl rfl hI.1.o111 rfl rfl (show _ = 62 from rfl) ?_
          refine sx_RP.step (pc2 := 63) (ls2 := [(0, .ref 111), (1, .int (nI x2)), (2, .int a2), (3, .int a3)]) (st2 := [.int (nI x2), .ref 122]) (w3 := w) rfl rfl ?_
          refine sx_RP.step (pc2 := 64) (ls2 := [(0, .ref 111), (1, .int (nI x2)), (2, .int a2), (3, .int a3)]) (st2 := [.int a2, .int (nI x2), .ref 122]) (w3 := w) rfl rfl ?_
          refine sx_RP.mFFt (a := 122) hI hE rfl hI.1.a122 (sx_in_nI (show x2 < 4 by omega) (by decide)) (by decide) (show _ = 65 from rfl) (fun w13 hI14 hE15 _ => ?_)
          refine sx_RP.step (pc2 := 66) (ls2 := [(0, .ref 111), (1, .int (nI x2)), (2, .int a2), (3, .int a3)]) (st2 := [.ref 111]) (w3 := w13) rfl rfl ?_
          refine sx_RP.gf (v := .ref 123) rfl rfl hI14.1.o111 rfl rfl (show _ = 69 from rfl) ?_
          refine sx_RP.step (pc2 := 70) (ls2 := [(0, .ref 111), (1, .int (nI x2)), (2, .int a2), (3, .int a3)]) (st2 := [.int (nI x2), .ref 123]) (w3 := w13) rfl rfl ?_
          refine sx_RP.step (pc2 := 71) (ls2 := [(0, .ref 111), (1, .int (nI x2)), (2, .int a2), (3, .int a3)]) (st2 := [.int a2, .int (nI x2), .ref 123]) (w3 := w13) rfl rfl ?_
          refine sx_RP.br (p1 := 78) (l1 := [(0, .ref 111), (1, .int (nI x2)), (2, .int a2), (3, .int a3)]) (s1 := [.int (nI x2), .ref 123]) (v1 := w13) (p2 := 74) (l2 := [(0, .ref 111), (1, .int (nI x2)), (2, .int a2), (3, .int a3)]) (s2 := [.int (nI x2), .ref 123]) (v2 := w13) rfl rfl (fun q16 => ?_) (fun q16 => ?_)
          · replace q16 := of_decide_eq_true q16
            refine sx_RP.step (pc2 := 79) (ls2 := [(0, .ref 111), (1, .int (nI x2)), (2, .int a2), (3, .int a3)]) (st2 := [.int a3, .int (nI x2), .ref 123]) (w3 := w13) rfl rfl ?_
            refine sx_RP.mSzt (k := x2) hI14 hE15 rfl (show x2 < 4 by omega) (sz_of (Int32.not_lt.mpr q11) q12) (show _ = 80 from rfl) (fun w17 hI18 hE19 => ?_)
            refine sx_RP.step (pc2 := 81) (ls2 := [(0, .ref 111), (1, .int (nI x2)), (2, .int a2), (3, .int a3)]) (st2 := [.int 0]) (w3 := w17) rfl rfl ?_
            refine sx_RP.step (pc2 := 83) (ls2 := [(4, .int 0), (0, .ref 111), (1, .int (nI x2)), (2, .int a2), (3, .int a3)]) (st2 := []) (w3 := w17) rfl rfl ?_
            exact sx_RP.ls (sx_lr.cons rfl (sx_lr.cons rfl (sx_lr.cons rfl sx_lr.nil))) (s230tL (show x2 < 4 by omega) 40 0 w17  (by omega) (by omega) hI18 hE19 )
          · replace q16 := Decidable.not_not.mp (of_decide_eq_false q16)
            refine sx_RP.step (pc2 := 75) (ls2 := [(0, .ref 111), (1, .int (nI x2)), (2, .int a2), (3, .int a3)]) (st2 := [.int 0, .int (nI x2), .ref 123]) (w3 := w13) rfl rfl ?_
            refine sx_RP.step (pc2 := 79) (ls2 := [(0, .ref 111), (1, .int (nI x2)), (2, .int a2), (3, .int a3)]) (st2 := [.int 0, .int (nI x2), .ref 123]) (w3 := w13) rfl rfl ?_
            refine sx_RP.mSzt (k := x2) hI14 hE15 rfl (show x2 < 4 by omega) ⟨0, by decide, rfl⟩ (show _ = 80 from rfl) (fun w20 hI21 hE22 => ?_)
            refine sx_RP.step (pc2 := 81) (ls2 := [(0, .ref 111), (1, .int (nI x2)), (2, .int a2), (3, .int a3)]) (st2 := [.int 0]) (w3 := w20) rfl rfl ?_
            refine sx_RP.step (pc2 := 83) (ls2 := [(4, .int 0), (0, .ref 111), (1, .int (nI x2)), (2, .int a2), (3, .int a3)]) (st2 := []) (w3 := w20) rfl rfl ?_
            exact sx_RP.ls (sx_lr.cons rfl (sx_lr.cons rfl (sx_lr.cons rfl sx_lr.nil))) (s230tL (show x2 < 4 by omega) 40 0 w20  (by omega) (by omega) hI21 hE22 )
        · replace q12 := of_decide_eq_false q12
          refine sx_RP.step (pc2 := 53) (ls2 := [(0, .ref 111), (1, .int (nI x2)), (2, .int a2), (3, .int a3)]) (st2 := [.ref 111]) (w3 := w) rfl rfl ?_
          refine sx_RP.step (pc2 := 54) (ls2 := [(0, .ref 111), (1, .int (nI x2)), (2, .int a2), (3, .int a3)]) (st2 := [.int 0, .ref 111]) (w3 := w) rfl rfl ?_
          refine sx_RP.callp (as2 := [.ref 111, .int 0]) (rest2 := []) rfl rfl (sx_inv_v2 (mi := 230) (k := 70) (st := [.int 0, .ref 111]) (w := w) rfl rfl hI.1.o111 rfl rfl rfl) rfl rfl rfl (s133_0 hI) (show _ = 57 from rfl) ?_
          rintro r4 w23 ⟨rfl, hI24, hE26⟩
          have hE25 := hE.tr (hE26.eft hI hI24)
          show sx_RP _ _ _ _ _ [.int (-1000000001)] _ _
          refine sx_RP.ret (r := (some (.int (-1000000001)))) rfl rfl ?_
          exact ⟨⟨_, rfl⟩, hI24, hE25⟩
      · replace q11 := of_decide_eq_false q11
        refine sx_RP.step (pc2 := 40) (ls2 := [(0, .ref 111), (1, .int (nI x2)), (2, .int a2), (3, .int a3)]) (st2 := [.ref 111]) (w3 := w) rfl rfl ?_
        refine sx_RP.step (pc2 := 42) (ls2 := [(0, .ref 111), (1, .int (nI x2)), (2, .int a2), (3, .int a3)]) (st2 := [.int 6, .ref 111]) (w3 := w) rfl rfl ?_
        refine sx_RP.callp (as2 := [.ref 111, .int 6]) (rest2 := []) rfl rfl (sx_inv_v2 (mi := 230) (k := 70) (st := [.int 6, .ref 111]) (w := w) rfl rfl hI.1.o111 rfl rfl rfl) rfl rfl rfl (s133_6 hI) (show _ = 45 from rfl) ?_
        rintro r4 w27 ⟨rfl, hI28, hE30⟩
        have hE29 := hE.tr (hE30.eft hI hI28)
        show sx_RP _ _ _ _ _ [.int (-1000000007)] _ _
        refine sx_RP.ret (r := (some (.int (-1000000007)))) rfl rfl ?_
        exact ⟨⟨_, rfl⟩, hI28, hE29⟩
    · replace q10 := of_decide_eq_false q10
      refine sx_RP.step (pc2 := 12) (ls2 := [(0, .ref 111), (1, .int (nI x2)), (2, .int a2), (3, .int a3)]) (st2 := [.int a2]) (w3 := w) rfl rfl ?_
      refine sx_RP.step (pc2 := 14) (ls2 := [(0, .ref 111), (1, .int (nI x2)), (2, .int a2), (3, .int a3)]) (st2 := [.int 8, .int a2]) (w3 := w) rfl rfl ?_
      refine sx_RP.br (p1 := 35) (l1 := [(0, .ref 111), (1, .int (nI x2)), (2, .int a2), (3, .int a3)]) (s1 := []) (v1 := w) (p2 := 17) (l2 := [(0, .ref 111), (1, .int (nI x2)), (2, .int a2), (3, .int a3)]) (s2 := []) (v2 := w) rfl rfl (fun q31 => ?_) (fun q31 => ?_)
      · replace q31 := of_decide_eq_true q31
        refine sx_RP.step (pc2 := 36) (ls2 := [(0, .ref 111), (1, .int (nI x2)), (2, .int a2), (3, .int a3)]) (st2 := [.int a3]) (w3 := w) rfl rfl ?_
        refine sx_RP.br (p1 := 46) (l1 := [(0, .ref 111), (1, .int (nI x2)), (2, .int a2), (3, .int a3)]) (s1 := []) (v1 := w) (p2 := 39) (l2 := [(0, .ref 111), (1, .int (nI x2)), (2, .int a2), (3, .int a3)]) (s2 := []) (v2 := w) rfl rfl (fun q32 => ?_) (fun q32 => ?_)
        · replace q32 := of_decide_eq_true q32
          refine sx_RP.step (pc2 := 47) (ls2 := [(0, .ref 111), (1, .int (nI x2)), (2, .int a2), (3, .int a3)]) (st2 := [.int a3]) (w3 := w) rfl rfl ?_
          refine sx_RP.step (pc2 := 49) (ls2 := [(0, .ref 111), (1, .int (nI x2)), (2, .int a2), (3, .int a3)]) (st2 := [.int 40, .int a3]) (w3 := w) rfl rfl ?_
          refine sx_RP.br (p1 := 58) (l1 := [(0, .ref 111), (1, .int (nI x2)), (2, .int a2), (3, .int a3)]) (s1 := []) (v1 := w) (p2 := 52) (l2 := [(0, .ref 111), (1, .int (nI x2)), (2, .int a2), (3, .int a3)]) (s2 := []) (v2 := w) rfl rfl (fun q33 => ?_) (fun q33 => ?_)
          · replace q33 := of_decide_eq_true q33
            refine sx_RP.step (pc2 := 59) (ls2 := [(0, .ref 111), (1, .int (nI x2)), (2, .int a2), (3, .int a3)]) (st2 := [.ref 111]) (w3 := w) rfl rfl ?_
            refine sx_RP.gf (v := .ref 122) rfl rfl hI.1.o111 rfl rfl (show _ = 62 from rfl) ?_
            refine sx_RP.step (pc2 := 63) (ls2 := [(0, .ref 111), (1, .int (nI x2)), (2, .int a2), (3, .int a3)]) (st2 := [.int (nI x2), .ref 122]) (w3 := w) rfl rfl ?_
            refine sx_RP.step (pc2 := 64) (ls2 := [(0, .ref 111), (1, .int (nI x2)), (2, .int a2), (3, .int a3)]) (st2 := [.int a2, .int (nI x2), .ref 122]) (w3 := w) rfl rfl ?_
            refine sx_RP.mFFt (a := 122) hI hE rfl hI.1.a122 (sx_in_nI (show x2 < 4 by omega) (by decide)) (by decide) (show _ = 65 from rfl) (fun w34 hI35 hE36 _ => ?_)
            refine sx_RP.step (pc2 := 66) (ls2 := [(0, .ref 111), (1, .int (nI x2)), (2, .int a2), (3, .int a3)]) (st2 := [.ref 111]) (w3 := w34) rfl rfl ?_
            refine sx_RP.gf (v := .ref 123) rfl rfl hI35.1.o111 rfl rfl (show _ = 69 from rfl) ?_
            refine sx_RP.step (pc2 := 70) (ls2 := [(0, .ref 111), (1, .int (nI x2)), (2, .int a2), (3, .int a3)]) (st2 := [.int (nI x2), .ref 123]) (w3 := w34) rfl rfl ?_
            refine sx_RP.step (pc2 := 71) (ls2 := [(0, .ref 111), (1, .int (nI x2)), (2, .int a2), (3, .int a3)]) (st2 := [.int a2, .int (nI x2), .ref 123]) (w3 := w34) rfl rfl ?_
            refine sx_RP.br (p1 := 78) (l1 := [(0, .ref 111), (1, .int (nI x2)), (2, .int a2), (3, .int a3)]) (s1 := [.int (nI x2), .ref 123]) (v1 := w34) (p2 := 74) (l2 := [(0, .ref 111), (1, .int (nI x2)), (2, .int a2), (3, .int a3)]) (s2 := [.int (nI x2), .ref 123]) (v2 := w34) rfl rfl (fun q37 => ?_) (fun q37 => ?_)
            · replace q37 := of_decide_eq_true q37
              refine sx_RP.step (pc2 := 79) (ls2 := [(0, .ref 111), (1, .int (nI x2)), (2, .int a2), (3, .int a3)]) (st2 := [.int a3, .int (nI x2), .ref 123]) (w3 := w34) rfl rfl ?_
              refine sx_RP.mSzt (k := x2) hI35 hE36 rfl (show x2 < 4 by omega) (sz_of (Int32.not_lt.mpr q32) q33) (show _ = 80 from rfl) (fun w38 hI39 hE40 => ?_)
              refine sx_RP.step (pc2 := 81) (ls2 := [(0, .ref 111), (1, .int (nI x2)), (2, .int a2), (3, .int a3)]) (st2 := [.int 0]) (w3 := w38) rfl rfl ?_
              refine sx_RP.step (pc2 := 83) (ls2 := [(4, .int 0), (0, .ref 111), (1, .int (nI x2)), (2, .int a2), (3, .int a3)]) (st2 := []) (w3 := w38) rfl rfl ?_
              exact sx_RP.ls (sx_lr.cons rfl (sx_lr.cons rfl (sx_lr.cons rfl sx_lr.nil))) (s230tL (show x2 < 4 by omega) 40 0 w38  (by omega) (by omega) hI39 hE40 )
            · replace q37 := Decidable.not_not.mp (of_decide_eq_false q37)
              refine sx_RP.step (pc2 := 75) (ls2 := [(0, .ref 111), (1, .int (nI x2)), (2, .int a2), (3, .int a3)]) (st2 := [.int 0, .int (nI x2), .ref 123]) (w3 := w34) rfl rfl ?_
              refine sx_RP.step (pc2 := 79) (ls2 := [(0, .ref 111), (1, .int (nI x2)), (2, .int a2), (3, .int a3)]) (st2 := [.int 0, .int (nI x2), .ref 123]) (w3 := w34) rfl rfl ?_
              refine sx_RP.mSzt (k := x2) hI35 hE36 rfl (show x2 < 4 by omega) ⟨0, by decide, rfl⟩ (show _ = 80 from rfl) (fun w41 hI42 hE43 => ?_)
              refine sx_RP.step (pc2 := 81) (ls2 := [(0, .ref 111), (1, .int (nI x2)), (2, .int a2), (3, .int a3)]) (st2 := [.int 0]) (w3 := w41) rfl rfl ?_
              refine sx_RP.step (pc2 := 83) (ls2 := [(4, .int 0), (0, .ref 111), (1, .int (nI x2)), (2, .int a2), (3, .int a3)]) (st2 := []) (w3 := w41) rfl rfl ?_
              exact sx_RP.ls (sx_lr.cons rfl (sx_lr.cons rfl (sx_lr.cons rfl sx_lr.nil))) (s230tL (show x2 < 4 by omega) 40 0 w41  (by omega) (by omega) hI42 hE43 )
          · replace q33 := of_decide_eq_false q33
            refine sx_RP.step (pc2 := 53) (ls2 := [(0, .ref 111), (1, .int (nI x2)), (2, .int a2), (3, .int a3)]) (st2 := [.ref 111]) (w3 := w) rfl rfl ?_
            refine sx_RP.step (pc2 := 54) (ls2 := [(0, .ref 111), (1, .int (nI x2)), (2, .int a2), (3, .int a3)]) (st2 := [.int 0, .ref 111]) (w3 := w) rfl rfl ?_
            refine sx_RP.callp (as2 := [.ref 111, .int 0]) (rest2 := []) rfl rfl (sx_inv_v2 (mi := 230) (k := 70) (st := [.int 0, .ref 111]) (w := w) rfl rfl hI.1.o111 rfl rfl rfl) rfl rfl rfl (s133_0 hI) (show _ = 57 from rfl) ?_
            rintro r4 w44 ⟨rfl, hI45, hE47⟩
            have hE46 := hE.tr (hE47.eft hI hI45)
            show sx_RP _ _ _ _ _ [.int (-1000000001)] _ _
            refine sx_RP.ret (r := (some (.int (-1000000001)))) rfl rfl ?_
            exact ⟨⟨_, rfl⟩, hI45, hE46⟩
        · replace q32 := of_decide_eq_false q32
          refine sx_RP.step (pc2 := 40) (ls2 := [(0, .ref 111), (1, .int (nI x2)), (2, .int a2), (3, .int a3)]) (st2 := [.ref 111]) (w3 := w) rfl rfl ?_
          refine sx_RP.step (pc2 := 42) (ls2 := [(0, .ref 111), (1, .int (nI x2)), (2, .int a2), (3, .int a3)]) (st2 := [.int 6, .ref 111]) (w3 := w) rfl rfl ?_
          refine sx_RP.callp (as2 := [.ref 111, .int 6]) (rest2 := []) rfl rfl (sx_inv_v2 (mi := 230) (k := 70) (st := [.int 6, .ref 111]) (w := w) rfl rfl hI.1.o111 rfl rfl rfl) rfl rfl rfl (s133_6 hI) (show _ = 45 from rfl) ?_
          rintro r4 w48 ⟨rfl, hI49, hE51⟩
          have hE50 := hE.tr (hE51.eft hI hI49)
          show sx_RP _ _ _ _ _ [.int (-1000000007)] _ _
          refine sx_RP.ret (r := (some (.int (-1000000007)))) rfl rfl ?_
          exact ⟨⟨_, rfl⟩, hI49, hE50⟩
      · replace q31 := of_decide_eq_false q31
        refine sx_RP.step (pc2 := 18) (ls2 := [(0, .ref 111), (1, .int (nI x2)), (2, .int a2), (3, .int a3)]) (st2 := [.int a2]) (w3 := w) rfl rfl ?_
        refine sx_RP.step (pc2 := 20) (ls2 := [(0, .ref 111), (1, .int (nI x2)), (2, .int a2), (3, .int a3)]) (st2 := [.int 16, .int a2]) (w3 := w) rfl rfl ?_
        refine sx_RP.br (p1 := 35) (l1 := [(0, .ref 111), (1, .int (nI x2)), (2, .int a2), (3, .int a3)]) (s1 := []) (v1 := w) (p2 := 23) (l2 := [(0, .ref 111), (1, .int (nI x2)), (2, .int a2), (3, .int a3)]) (s2 := []) (v2 := w) rfl rfl (fun q52 => ?_) (fun q52 => ?_)
        · replace q52 := of_decide_eq_true q52
          refine sx_RP.step (pc2 := 36) (ls2 := [(0, .ref 111), (1, .int (nI x2)), (2, .int a2), (3, .int a3)]) (st2 := [.int a3]) (w3 := w) rfl rfl ?_
          refine sx_RP.br (p1 := 46) (l1 := [(0, .ref 111), (1, .int (nI x2)), (2, .int a2), (3, .int a3)]) (s1 := []) (v1 := w) (p2 := 39) (l2 := [(0, .ref 111), (1, .int (nI x2)), (2, .int a2), (3, .int a3)]) (s2 := []) (v2 := w) rfl rfl (fun q53 => ?_) (fun q53 => ?_)
          · replace q53 := of_decide_eq_true q53
            refine sx_RP.step (pc2 := 47) (ls2 := [(0, .ref 111), (1, .int (nI x2)), (2, .int a2), (3, .int a3)]) (st2 := [.int a3]) (w3 := w) rfl rfl ?_
            refine sx_RP.step (pc2 := 49) (ls2 := [(0, .ref 111), (1, .int (nI x2)), (2, .int a2), (3, .int a3)]) (st2 := [.int 40, .int a3]) (w3 := w) rfl rfl ?_
            refine sx_RP.br (p1 := 58) (l1 := [(0, .ref 111), (1, .int (nI x2)), (2, .int a2), (3, .int a3)]) (s1 := []) (v1 := w) (p2 := 52) (l2 := [(0, .ref 111), (1, .int (nI x2)), (2, .int a2), (3, .int a3)]) (s2 := []) (v2 := w) rfl rfl (fun q54 => ?_) (fun q54 => ?_)
            · replace q54 := of_decide_eq_true q54
              refine sx_RP.step (pc2 := 59) (ls2 := [(0, .ref 111), (1, .int (nI x2)), (2, .int a2), (3, .int a3)]) (st2 := [.ref 111]) (w3 := w) rfl rfl ?_
              refine sx_RP.gf (v := .ref 122) rfl rfl hI.1.o111 rfl rfl (show _ = 62 from rfl) ?_
              refine sx_RP.step (pc2 := 63) (ls2 := [(0, .ref 111), (1, .int (nI x2)), (2, .int a2), (3, .int a3)]) (st2 := [.int (nI x2), .ref 122]) (w3 := w) rfl rfl ?_
              refine sx_RP.step (pc2 := 64) (ls2 := [(0, .ref 111), (1, .int (nI x2)), (2, .int a2), (3, .int a3)]) (st2 := [.int a2, .int (nI x2), .ref 122]) (w3 := w) rfl rfl ?_
              refine sx_RP.mFFt (a := 122) hI hE rfl hI.1.a122 (sx_in_nI (show x2 < 4 by omega) (by decide)) (by decide) (show _ = 65 from rfl) (fun w55 hI56 hE57 _ => ?_)
              refine sx_RP.step (pc2 := 66) (ls2 := [(0, .ref 111), (1, .int (nI x2)), (2, .int a2), (3, .int a3)]) (st2 := [.ref 111]) (w3 := w55) rfl rfl ?_
              refine sx_RP.gf (v := .ref 123) rfl rfl hI56.1.o111 rfl rfl (show _ = 69 from rfl) ?_
              refine sx_RP.step (pc2 := 70) (ls2 := [(0, .ref 111), (1, .int (nI x2)), (2, .int a2), (3, .int a3)]) (st2 := [.int (nI x2), .ref 123]) (w3 := w55) rfl rfl ?_
              refine sx_RP.step (pc2 := 71) (ls2 := [(0, .ref 111), (1, .int (nI x2)), (2, .int a2), (3, .int a3)]) (st2 := [.int a2, .int (nI x2), .ref 123]) (w3 := w55) rfl rfl ?_
              refine sx_RP.br (p1 := 78) (l1 := [(0, .ref 111), (1, .int (nI x2)), (2, .int a2), (3, .int a3)]) (s1 := [.int (nI x2), .ref 123]) (v1 := w55) (p2 := 74) (l2 := [(0, .ref 111), (1, .int (nI x2)), (2, .int a2), (3, .int a3)]) (s2 := [.int (nI x2), .ref 123]) (v2 := w55) rfl rfl (fun q58 => ?_) (fun q58 => ?_)
              · replace q58 := of_decide_eq_true q58
                refine sx_RP.step (pc2 := 79) (ls2 := [(0, .ref 111), (1, .int (nI x2)), (2, .int a2), (3, .int a3)]) (st2 := [.int a3, .int (nI x2), .ref 123]) (w3 := w55) rfl rfl ?_
                refine sx_RP.mSzt (k := x2) hI56 hE57 rfl (show x2 < 4 by omega) (sz_of (Int32.not_lt.mpr q53) q54) (show _ = 80 from rfl) (fun w59 hI60 hE61 => ?_)
                refine sx_RP.step (pc2 := 81) (ls2 := [(0, .ref 111), (1, .int (nI x2)), (2, .int a2), (3, .int a3)]) (st2 := [.int 0]) (w3 := w59) rfl rfl ?_
                refine sx_RP.step (pc2 := 83) (ls2 := [(4, .int 0), (0, .ref 111), (1, .int (nI x2)), (2, .int a2), (3, .int a3)]) (st2 := []) (w3 := w59) rfl rfl ?_
                exact sx_RP.ls (sx_lr.cons rfl (sx_lr.cons rfl (sx_lr.cons rfl sx_lr.nil))) (s230tL (show x2 < 4 by omega) 40 0 w59  (by omega) (by omega) hI60 hE61 )
              · replace q58 := Decidable.not_not.mp (of_decide_eq_false q58)
                refine sx_RP.step (pc2 := 75) (ls2 := [(0, .ref 111), (1, .int (nI x2)), (2, .int a2), (3, .int a3)]) (st2 := [.int 0, .int (nI x2), .ref 123]) (w3 := w55) rfl rfl ?_
                refine sx_RP.step (pc2 := 79) (ls2 := [(0, .ref 111), (1, .int (nI x2)), (2, .int a2), (3, .int a3)]) (st2 := [.int 0, .int (nI x2), .ref 123]) (w3 := w55) rfl rfl ?_
                refine sx_RP.mSzt (k := x2) hI56 hE57 rfl (show x2 < 4 by omega) ⟨0, by decide, rfl⟩ (show _ = 80 from rfl) (fun w62 hI63 hE64 => ?_)
                refine sx_RP.step (pc2 := 81) (ls2 := [(0, .ref 111), (1, .int (nI x2)), (2, .int a2), (3, .int a3)]) (st2 := [.int 0]) (w3 := w62) rfl rfl ?_
                refine sx_RP.step (pc2 := 83) (ls2 := [(4, .int 0), (0, .ref 111), (1, .int (nI x2)), (2, .int a2), (3, .int a3)]) (st2 := []) (w3 := w62) rfl rfl ?_
                exact sx_RP.ls (sx_lr.cons rfl (sx_lr.cons rfl (sx_lr.cons rfl sx_lr.nil))) (s230tL (show x2 < 4 by omega) 40 0 w62  (by omega) (by omega) hI63 hE64 )
            · replace q54 := of_decide_eq_false q54
              refine sx_RP.step (pc2 := 53) (ls2 := [(0, .ref 111), (1, .int (nI x2)), (2, .int a2), (3, .int a3)]) (st2 := [.ref 111]) (w3 := w) rfl rfl ?_
              refine sx_RP.step (pc2 := 54) (ls2 := [(0, .ref 111), (1, .int (nI x2)), (2, .int a2), (3, .int a3)]) (st2 := [.int 0, .ref 111]) (w3 := w) rfl rfl ?_
              refine sx_RP.callp (as2 := [.ref 111, .int 0]) (rest2 := []) rfl rfl (sx_inv_v2 (mi := 230) (k := 70) (st := [.int 0, .ref 111]) (w := w) rfl rfl hI.1.o111 rfl rfl rfl) rfl rfl rfl (s133_0 hI) (show _ = 57 from rfl) ?_
              rintro r4 w65 ⟨rfl, hI66, hE68⟩
              have hE67 := hE.tr (hE68.eft hI hI66)
              show sx_RP _ _ _ _ _ [.int (-1000000001)] _ _
              refine sx_RP.ret (r := (some (.int (-1000000001)))) rfl rfl ?_
              exact ⟨⟨_, rfl⟩, hI66, hE67⟩
          · replace q53 := of_decide_eq_false q53
            refine sx_RP.step (pc2 := 40) (ls2 := [(0, .ref 111), (1, .int (nI x2)), (2, .int a2), (3, .int a3)]) (st2 := [.ref 111]) (w3 := w) rfl rfl ?_
            refine sx_RP.step (pc2 := 42) (ls2 := [(0, .ref 111), (1, .int (nI x2)), (2, .int a2), (3, .int a3)]) (st2 := [.int 6, .ref 111]) (w3 := w) rfl rfl ?_
            refine sx_RP.callp (as2 := [.ref 111, .int 6]) (rest2 := []) rfl rfl (sx_inv_v2 (mi := 230) (k := 70) (st := [.int 6, .ref 111]) (w := w) rfl rfl hI.1.o111 rfl rfl rfl) rfl rfl rfl (s133_6 hI) (show _ = 45 from rfl) ?_
            rintro r4 w69 ⟨rfl, hI70, hE72⟩
            have hE71 := hE.tr (hE72.eft hI hI70)
            show sx_RP _ _ _ _ _ [.int (-1000000007)] _ _
            refine sx_RP.ret (r := (some (.int (-1000000007)))) rfl rfl ?_
            exact ⟨⟨_, rfl⟩, hI70, hE71⟩
        · replace q52 := of_decide_eq_false q52
          refine sx_RP.step (pc2 := 24) (ls2 := [(0, .ref 111), (1, .int (nI x2)), (2, .int a2), (3, .int a3)]) (st2 := [.int a2]) (w3 := w) rfl rfl ?_
          refine sx_RP.step (pc2 := 26) (ls2 := [(0, .ref 111), (1, .int (nI x2)), (2, .int a2), (3, .int a3)]) (st2 := [.int 64, .int a2]) (w3 := w) rfl rfl ?_
          refine sx_RP.br (p1 := 35) (l1 := [(0, .ref 111), (1, .int (nI x2)), (2, .int a2), (3, .int a3)]) (s1 := []) (v1 := w) (p2 := 29) (l2 := [(0, .ref 111), (1, .int (nI x2)), (2, .int a2), (3, .int a3)]) (s2 := []) (v2 := w) rfl rfl (fun q73 => ?_) (fun q73 => ?_)
          · replace q73 := of_decide_eq_true q73
            refine sx_RP.step (pc2 := 36) (ls2 := [(0, .ref 111), (1, .int (nI x2)), (2, .int a2), (3, .int a3)]) (st2 := [.int a3]) (w3 := w) rfl rfl ?_
            refine sx_RP.br (p1 := 46) (l1 := [(0, .ref 111), (1, .int (nI x2)), (2, .int a2), (3, .int a3)]) (s1 := []) (v1 := w) (p2 := 39) (l2 := [(0, .ref 111), (1, .int (nI x2)), (2, .int a2), (3, .int a3)]) (s2 := []) (v2 := w) rfl rfl (fun q74 => ?_) (fun q74 => ?_)
            · replace q74 := of_decide_eq_true q74
              refine sx_RP.step (pc2 := 47) (ls2 := [(0, .ref 111), (1, .int (nI x2)), (2, .int a2), (3, .int a3)]) (st2 := [.int a3]) (w3 := w) rfl rfl ?_
              refine sx_RP.step (pc2 := 49) (ls2 := [(0, .ref 111), (1, .int (nI x2)), (2, .int a2), (3, .int a3)]) (st2 := [.int 40, .int a3]) (w3 := w) rfl rfl ?_
              refine sx_RP.br (p1 := 58) (l1 := [(0, .ref 111), (1, .int (nI x2)), (2, .int a2), (3, .int a3)]) (s1 := []) (v1 := w) (p2 := 52) (l2 := [(0, .ref 111), (1, .int (nI x2)), (2, .int a2), (3, .int a3)]) (s2 := []) (v2 := w) rfl rfl (fun q75 => ?_) (fun q75 => ?_)
              · replace q75 := of_decide_eq_true q75
                refine sx_RP.step (pc2 := 59) (ls2 := [(0, .ref 111), (1, .int (nI x2)), (2, .int a2), (3, .int a3)]) (st2 := [.ref 111]) (w3 := w) rfl rfl ?_
                refine sx_RP.gf (v := .ref 122) rfl rfl hI.1.o111 rfl rfl (show _ = 62 from rfl) ?_
                refine sx_RP.step (pc2 := 63) (ls2 := [(0, .ref 111), (1, .int (nI x2)), (2, .int a2), (3, .int a3)]) (st2 := [.int (nI x2), .ref 122]) (w3 := w) rfl rfl ?_
                refine sx_RP.step (pc2 := 64) (ls2 := [(0, .ref 111), (1, .int (nI x2)), (2, .int a2), (3, .int a3)]) (st2 := [.int a2, .int (nI x2), .ref 122]) (w3 := w) rfl rfl ?_
                refine sx_RP.mFFt (a := 122) hI hE rfl hI.1.a122 (sx_in_nI (show x2 < 4 by omega) (by decide)) (by decide) (show _ = 65 from rfl) (fun w76 hI77 hE78 _ => ?_)
                refine sx_RP.step (pc2 := 66) (ls2 := [(0, .ref 111), (1, .int (nI x2)), (2, .int a2), (3, .int a3)]) (st2 := [.ref 111]) (w3 := w76) rfl rfl ?_
                refine sx_RP.gf (v := .ref 123) rfl rfl hI77.1.o111 rfl rfl (show _ = 69 from rfl) ?_
                refine sx_RP.step (pc2 := 70) (ls2 := [(0, .ref 111), (1, .int (nI x2)), (2, .int a2), (3, .int a3)]) (st2 := [.int (nI x2), .ref 123]) (w3 := w76) rfl rfl ?_
                refine sx_RP.step (pc2 := 71) (ls2 := [(0, .ref 111), (1, .int (nI x2)), (2, .int a2), (3, .int a3)]) (st2 := [.int a2, .int (nI x2), .ref 123]) (w3 := w76) rfl rfl ?_
                refine sx_RP.br (p1 := 78) (l1 := [(0, .ref 111), (1, .int (nI x2)), (2, .int a2), (3, .int a3)]) (s1 := [.int (nI x2), .ref 123]) (v1 := w76) (p2 := 74) (l2 := [(0, .ref 111), (1, .int (nI x2)), (2, .int a2), (3, .int a3)]) (s2 := [.int (nI x2), .ref 123]) (v2 := w76) rfl rfl (fun q79 => ?_) (fun q79 => ?_)
                · replace q79 := of_decide_eq_true q79
                  refine sx_RP.step (pc2 := 79) (ls2 := [(0, .ref 111), (1, .int (nI x2)), (2, .int a2), (3, .int a3)]) (st2 := [.int a3, .int (nI x2), .ref 123]) (w3 := w76) rfl rfl ?_
                  refine sx_RP.mSzt (k := x2) hI77 hE78 rfl (show x2 < 4 by omega) (sz_of (Int32.not_lt.mpr q74) q75) (show _ = 80 from rfl) (fun w80 hI81 hE82 => ?_)
                  refine sx_RP.step (pc2 := 81) (ls2 := [(0, .ref 111), (1, .int (nI x2)), (2, .int a2), (3, .int a3)]) (st2 := [.int 0]) (w3 := w80) rfl rfl ?_
                  refine sx_RP.step (pc2 := 83) (ls2 := [(4, .int 0), (0, .ref 111), (1, .int (nI x2)), (2, .int a2), (3, .int a3)]) (st2 := []) (w3 := w80) rfl rfl ?_
                  exact sx_RP.ls (sx_lr.cons rfl (sx_lr.cons rfl (sx_lr.cons rfl sx_lr.nil))) (s230tL (show x2 < 4 by omega) 40 0 w80  (by omega) (by omega) hI81 hE82 )
                · replace q79 := Decidable.not_not.mp (of_decide_eq_false q79)
                  refine sx_RP.step (pc2 := 75) (ls2 := [(0, .ref 111), (1, .int (nI x2)), (2, .int a2), (3, .int a3)]) (st2 := [.int 0, .int (nI x2), .ref 123]) (w3 := w76) rfl rfl ?_
                  refine sx_RP.step (pc2 := 79) (ls2 := [(0, .ref 111), (1, .int (nI x2)), (2, .int a2), (3, .int a3)]) (st2 := [.int 0, .int (nI x2), .ref 123]) (w3 := w76) rfl rfl ?_
                  refine sx_RP.mSzt (k := x2) hI77 hE78 rfl (show x2 < 4 by omega) ⟨0, by decide, rfl⟩ (show _ = 80 from rfl) (fun w83 hI84 hE85 => ?_)
                  refine sx_RP.step (pc2 := 81) (ls2 := [(0, .ref 111), (1, .int (nI x2)), (2, .int a2), (3, .int a3)]) (st2 := [.int 0]) (w3 := w83) rfl rfl ?_
                  refine sx_RP.step (pc2 := 83) (ls2 := [(4, .int 0), (0, .ref 111), (1, .int (nI x2)), (2, .int a2), (3, .int a3)]) (st2 := []) (w3 := w83) rfl rfl ?_
                  exact sx_RP.ls (sx_lr.cons rfl (sx_lr.cons rfl (sx_lr.cons rfl sx_lr.nil))) (s230tL (show x2 < 4 by omega) 40 0 w83  (by omega) (by omega) hI84 hE85 )
              · replace q75 := of_decide_eq_false q75
                refine sx_RP.step (pc2 := 53) (ls2 := [(0, .ref 111), (1, .int (nI x2)), (2, .int a2), (3, .int a3)]) (st2 := [.ref 111]) (w3 := w) rfl rfl ?_
                refine sx_RP.step (pc2 := 54) (ls2 := [(0, .ref 111), (1, .int (nI x2)), (2, .int a2), (3, .int a3)]) (st2 := [.int 0, .ref 111]) (w3 := w) rfl rfl ?_
                refine sx_RP.callp (as2 := [.ref 111, .int 0]) (rest2 := []) rfl rfl (sx_inv_v2 (mi := 230) (k := 70) (st := [.int 0, .ref 111]) (w := w) rfl rfl hI.1.o111 rfl rfl rfl) rfl rfl rfl (s133_0 hI) (show _ = 57 from rfl) ?_
                rintro r4 w86 ⟨rfl, hI87, hE89⟩
                have hE88 := hE.tr (hE89.eft hI hI87)
                show sx_RP _ _ _ _ _ [.int (-1000000001)] _ _
                refine sx_RP.ret (r := (some (.int (-1000000001)))) rfl rfl ?_
                exact ⟨⟨_, rfl⟩, hI87, hE88⟩
            · replace q74 := of_decide_eq_false q74
              refine sx_RP.step (pc2 := 40) (ls2 := [(0, .ref 111), (1, .int (nI x2)), (2, .int a2), (3, .int a3)]) (st2 := [.ref 111]) (w3 := w) rfl rfl ?_
              refine sx_RP.step (pc2 := 42) (ls2 := [(0, .ref 111), (1, .int (nI x2)), (2, .int a2), (3, .int a3)]) (st2 := [.int 6, .ref 111]) (w3 := w) rfl rfl ?_
              refine sx_RP.callp (as2 := [.ref 111, .int 6]) (rest2 := []) rfl rfl (sx_inv_v2 (mi := 230) (k := 70) (st := [.int 6, .ref 111]) (w := w) rfl rfl hI.1.o111 rfl rfl rfl) rfl rfl rfl (s133_6 hI) (show _ = 45 from rfl) ?_
              rintro r4 w90 ⟨rfl, hI91, hE93⟩
              have hE92 := hE.tr (hE93.eft hI hI91)
              show sx_RP _ _ _ _ _ [.int (-1000000007)] _ _
              refine sx_RP.ret (r := (some (.int (-1000000007)))) rfl rfl ?_
              exact ⟨⟨_, rfl⟩, hI91, hE92⟩
          · replace q73 := of_decide_eq_false q73
            refine sx_RP.step (pc2 := 30) (ls2 := [(0, .ref 111), (1, .int (nI x2)), (2, .int a2), (3, .int a3)]) (st2 := [.ref 111]) (w3 := w) rfl rfl ?_
            refine sx_RP.step (pc2 := 31) (ls2 := [(0, .ref 111), (1, .int (nI x2)), (2, .int a2), (3, .int a3)]) (st2 := [.int 0, .ref 111]) (w3 := w) rfl rfl ?_
            refine sx_RP.callp (as2 := [.ref 111, .int 0]) (rest2 := []) rfl rfl (sx_inv_v2 (mi := 230) (k := 70) (st := [.int 0, .ref 111]) (w := w) rfl rfl hI.1.o111 rfl rfl rfl) rfl rfl rfl (s133_0 hI) (show _ = 34 from rfl) ?_
            rintro r4 w94 ⟨rfl, hI95, hE97⟩
            have hE96 := hE.tr (hE97.eft hI hI95)
            show sx_RP _ _ _ _ _ [.int (-1000000001)] _ _
            refine sx_RP.ret (r := (some (.int (-1000000001)))) rfl rfl ?_
            exact ⟨⟨_, rfl⟩, hI95, hE96⟩
set_option maxRecDepth 20000 in
set_option maxHeartbeats 4000000 in
theorem s210eT {xs : Option (List Int32)} {d : Nat} {w w0 : List sx_C} (l : Int32) (hI : WI w) (hE : EF w0 w) : sx_RP xs (d + 8) 210 83 [(0, .ref 111), (1, .int l)] [] w (fun r w2 => (∃ v : Int32, r = some (.int v)) ∧ WI w2 ∧ EF w0 w2 ∧ fi w2 111 11 = 0) := by
  refine sx_RP.step (pc2 := 84) (ls2 := [(0, .ref 111), (1, .int l)]) (st2 := [.ref 111]) (w3 := w) rfl rfl ?_
  refine sx_RP.gf (v := .int (fi w 111 13)) rfl rfl hI.1.o111 rfl rfl (show _ = 87 from rfl) ?_
  refine sx_RP.br (p1 := 106) (l1 := [(0, .ref 111), (1, .int l)]) (s1 := []) (v1 := w) (p2 := 90) (l2 := [(0, .ref 111), (1, .int l)]) (s2 := []) (v2 := w) rfl rfl (fun q1 => ?_) (fun q1 => ?_)
  · replace q1 := of_decide_eq_true q1
    refine sx_RP.step (pc2 := 107) (ls2 := [(0, .ref 111), (1, .int l)]) (st2 := [.ref 111]) (w3 := w) rfl rfl ?_
    refine sx_RP.step (pc2 := 108) (ls2 := [(0, .ref 111), (1, .int l)]) (st2 := [.int 0, .ref 111]) (w3 := w) rfl rfl ?_
    refine sx_RP.pmtF hI hE rfl rfl rfl ⟨0, by decide, rfl⟩ (show _ = 111 from rfl) (fun w2 hI3 hE4 ht5 => ?_)
    refine sx_RP.step (pc2 := 112) (ls2 := [(0, .ref 111), (1, .int l)]) (st2 := [.ref 111]) (w3 := w2) rfl rfl ?_
    refine sx_RP.gf (v := .int (fi w2 111 13)) rfl rfl hI3.1.o111 rfl rfl (show _ = 115 from rfl) ?_
    refine sx_RP.br (p1 := 136) (l1 := [(0, .ref 111), (1, .int l)]) (s1 := []) (v1 := w2) (p2 := 118) (l2 := [(0, .ref 111), (1, .int l)]) (s2 := []) (v2 := w2) rfl rfl (fun q6 => ?_) (fun q6 => ?_)
    · replace q6 := of_decide_eq_true q6
      refine sx_RP.step (pc2 := 137) (ls2 := [(0, .ref 111), (1, .int l)]) (st2 := [.int l]) (w3 := w2) rfl rfl ?_
      refine sx_RP.ret (r := (some (.int l))) rfl rfl ?_
      exact ⟨⟨_, rfl⟩, hI3, hE4, ht5⟩
    · replace q6 := of_decide_eq_false q6
      refine sx_RP.step (pc2 := 119) (ls2 := [(0, .ref 111), (1, .int l)]) (st2 := [.ref 111]) (w3 := w2) rfl rfl ?_
      refine sx_RP.gf (v := .ref 115) rfl rfl hI3.1.o111 rfl rfl (show _ = 122 from rfl) ?_
      refine sx_RP.step (pc2 := 123) (ls2 := [(0, .ref 111), (1, .int l)]) (st2 := [.ref 111, .ref 115]) (w3 := w2) rfl rfl ?_
      refine sx_RP.gf (v := .ref 112) rfl rfl hI3.1.o111 rfl rfl (show _ = 126 from rfl) ?_
      refine sx_RP.callp (as2 := [.ref 115, .ref 112]) (rest2 := []) rfl rfl rfl rfl rfl rfl (s175 hI3 (a := 115) (b := 112) (by decide) (by decide)) (show _ = 129 from rfl) ?_
      rintro r4 w7 ⟨rfl, hI8, hE10⟩
      have hE9 := hE4.tr (hE10.ef hI3 hI8)
      show sx_RP _ _ _ _ _ [] _ _
      refine sx_RP.step (pc2 := 130) (ls2 := [(0, .ref 111), (1, .int l)]) (st2 := [.int (-1)]) (w3 := w7) rfl rfl ?_
      refine sx_RP.step (pc2 := 131) (ls2 := [(0, .ref 111), (1, .int l)]) (st2 := [.ref 111, .int (-1)]) (w3 := w7) rfl rfl ?_
      refine sx_RP.gf (v := .int (fi w7 111 13)) rfl rfl hI8.1.o111 rfl rfl (show _ = 134 from rfl) ?_
      refine sx_RP.step (pc2 := 135) (ls2 := [(0, .ref 111), (1, .int l)]) (st2 := [.int ((-1) - (fi w7 111 13))]) (w3 := w7) rfl rfl ?_
      refine sx_RP.ret (r := (some (.int ((-1) - (fi w7 111 13))))) rfl rfl ?_
      exact ⟨⟨_, rfl⟩, hI8, hE9, ((keep111 hI3 hI8 ((hE10 111).2 (by decide))).2).trans ht5⟩
  · replace q1 := of_decide_eq_false q1
    refine sx_RP.step (pc2 := 91) (ls2 := [(0, .ref 111), (1, .int l)]) (st2 := [.ref 111]) (w3 := w) rfl rfl ?_
    refine sx_RP.gf (v := .int (fi w 111 12)) rfl rfl hI.1.o111 rfl rfl (show _ = 94 from rfl) ?_
    obtain ⟨x11, hx12, ex13⟩ : inR (fi w 111 12) 120 := hI.m.2.2
    rw [ex13]
    refine sx_RP.step (pc2 := 95) (ls2 := [(0, .ref 111), (1, .int l)]) (st2 := [.ref 111, .int (nI x11)]) (w3 := w) rfl rfl ?_
    refine sx_RP.gf (v := .int (fi w 111 11)) rfl rfl hI.1.o111 rfl rfl (show _ = 98 from rfl) ?_
    obtain ⟨x14, hx15, ex16⟩ : inR (fi w 111 11) 120 := hI.m.2.1
    rw [ex16]
    refine sx_RP.br (p1 := 106) (l1 := [(0, .ref 111), (1, .int l)]) (s1 := []) (v1 := w) (p2 := 101) (l2 := [(0, .ref 111), (1, .int l)]) (s2 := []) (v2 := w) rfl rfl (fun q17 => ?_) (fun q17 => ?_)
    · replace q17 := of_decide_eq_true q17
      replace q17 := (nI_leI (a := x14) (b := x11) (by omega) (by omega)).mp q17
      refine sx_RP.step (pc2 := 107) (ls2 := [(0, .ref 111), (1, .int l)]) (st2 := [.ref 111]) (w3 := w) rfl rfl ?_
      refine sx_RP.step (pc2 := 108) (ls2 := [(0, .ref 111), (1, .int l)]) (st2 := [.int 0, .ref 111]) (w3 := w) rfl rfl ?_
      refine sx_RP.pmtF hI hE rfl rfl rfl ⟨0, by decide, rfl⟩ (show _ = 111 from rfl) (fun w18 hI19 hE20 ht21 => ?_)
      refine sx_RP.step (pc2 := 112) (ls2 := [(0, .ref 111), (1, .int l)]) (st2 := [.ref 111]) (w3 := w18) rfl rfl ?_
      refine sx_RP.gf (v := .int (fi w18 111 13)) rfl rfl hI19.1.o111 rfl rfl (show _ = 115 from rfl) ?_
      refine sx_RP.br (p1 := 136) (l1 := [(0, .ref 111), (1, .int l)]) (s1 := []) (v1 := w18) (p2 := 118) (l2 := [(0, .ref 111), (1, .int l)]) (s2 := []) (v2 := w18) rfl rfl (fun q22 => ?_) (fun q22 => ?_)
      · replace q22 := of_decide_eq_true q22
        refine sx_RP.step (pc2 := 137) (ls2 := [(0, .ref 111), (1, .int l)]) (st2 := [.int l]) (w3 := w18) rfl rfl ?_
        refine sx_RP.ret (r := (some (.int l))) rfl rfl ?_
        exact ⟨⟨_, rfl⟩, hI19, hE20, ht21⟩
      · replace q22 := of_decide_eq_false q22
        refine sx_RP.step (pc2 := 119) (ls2 := [(0, .ref 111), (1, .int l)]) (st2 := [.ref 111]) (w3 := w18) rfl rfl ?_
        refine sx_RP.gf (v := .ref 115) rfl rfl hI19.1.o111 rfl rfl (show _ = 122 from rfl) ?_
        refine sx_RP.step (pc2 := 123) (ls2 := [(0, .ref 111), (1, .int l)]) (st2 := [.ref 111, .ref 115]) (w3 := w18) rfl rfl ?_
        refine sx_RP.gf (v := .ref 112) rfl rfl hI19.1.o111 rfl rfl (show _ = 126 from rfl) ?_
        refine sx_RP.callp (as2 := [.ref 115, .ref 112]) (rest2 := []) rfl rfl rfl rfl rfl rfl (s175 hI19 (a := 115) (b := 112) (by decide) (by decide)) (show _ = 129 from rfl) ?_
        rintro r4 w23 ⟨rfl, hI24, hE26⟩
        have hE25 := hE20.tr (hE26.ef hI19 hI24)
        show sx_RP _ _ _ _ _ [] _ _
        refine sx_RP.step (pc2 := 130) (ls2 := [(0, .ref 111), (1, .int l)]) (st2 := [.int (-1)]) (w3 := w23) rfl rfl ?_
        refine sx_RP.step (pc2 := 131) (ls2 := [(0, .ref 111), (1, .int l)]) (st2 := [.ref 111, .int (-1)]) (w3 := w23) rfl rfl ?_
        refine sx_RP.gf (v := .int (fi w23 111 13)) rfl rfl hI24.1.o111 rfl rfl (show _ = 134 from rfl) ?_
        refine sx_RP.step (pc2 := 135) (ls2 := [(0, .ref 111), (1, .int l)]) (st2 := [.int ((-1) - (fi w23 111 13))]) (w3 := w23) rfl rfl ?_
        refine sx_RP.ret (r := (some (.int ((-1) - (fi w23 111 13))))) rfl rfl ?_
        exact ⟨⟨_, rfl⟩, hI24, hE25, ((keep111 hI19 hI24 ((hE26 111).2 (by decide))).2).trans ht21⟩
    · replace q17 := of_decide_eq_false q17
      replace q17 := mt (nI_leI (a := x14) (b := x11) (by omega) (by omega)).mpr q17
      refine sx_RP.step (pc2 := 102) (ls2 := [(0, .ref 111), (1, .int l)]) (st2 := [.ref 111]) (w3 := w) rfl rfl ?_
      refine sx_RP.callp (as2 := [.ref 111]) (rest2 := []) rfl rfl (sx_inv_v2 (mi := 210) (k := 245) (st := [.ref 111]) (w := w) rfl rfl hI.1.o111 rfl rfl rfl) rfl rfl rfl (s222 hI) (show _ = 105 from rfl) ?_
      rintro r4 w27 ⟨rfl, hI28, hE30⟩
      have hE29 := hE.tr (hE30.em.ef hI hI28)
      show sx_RP _ _ _ _ _ [.int 0] _ _
      refine sx_RP.step (pc2 := 106) (ls2 := [(0, .ref 111), (1, .int l)]) (st2 := []) (w3 := w27) rfl rfl ?_
      refine sx_RP.step (pc2 := 107) (ls2 := [(0, .ref 111), (1, .int l)]) (st2 := [.ref 111]) (w3 := w27) rfl rfl ?_
      refine sx_RP.step (pc2 := 108) (ls2 := [(0, .ref 111), (1, .int l)]) (st2 := [.int 0, .ref 111]) (w3 := w27) rfl rfl ?_
      refine sx_RP.pmtF hI28 hE29 rfl rfl rfl ⟨0, by decide, rfl⟩ (show _ = 111 from rfl) (fun w31 hI32 hE33 ht34 => ?_)
      refine sx_RP.step (pc2 := 112) (ls2 := [(0, .ref 111), (1, .int l)]) (st2 := [.ref 111]) (w3 := w31) rfl rfl ?_
      refine sx_RP.gf (v := .int (fi w31 111 13)) rfl rfl hI32.1.o111 rfl rfl (show _ = 115 from rfl) ?_
      refine sx_RP.br (p1 := 136) (l1 := [(0, .ref 111), (1, .int l)]) (s1 := []) (v1 := w31) (p2 := 118) (l2 := [(0, .ref 111), (1, .int l)]) (s2 := []) (v2 := w31) rfl rfl (fun q35 => ?_) (fun q35 => ?_)
      · replace q35 := of_decide_eq_true q35
        refine sx_RP.step (pc2 := 137) (ls2 := [(0, .ref 111), (1, .int l)]) (st2 := [.int l]) (w3 := w31) rfl rfl ?_
        refine sx_RP.ret (r := (some (.int l))) rfl rfl ?_
        exact ⟨⟨_, rfl⟩, hI32, hE33, ht34⟩
      · replace q35 := of_decide_eq_false q35
        refine sx_RP.step (pc2 := 119) (ls2 := [(0, .ref 111), (1, .int l)]) (st2 := [.ref 111]) (w3 := w31) rfl rfl ?_
        refine sx_RP.gf (v := .ref 115) rfl rfl hI32.1.o111 rfl rfl (show _ = 122 from rfl) ?_
        refine sx_RP.step (pc2 := 123) (ls2 := [(0, .ref 111), (1, .int l)]) (st2 := [.ref 111, .ref 115]) (w3 := w31) rfl rfl ?_
        refine sx_RP.gf (v := .ref 112) rfl rfl hI32.1.o111 rfl rfl (show _ = 126 from rfl) ?_
        refine sx_RP.callp (as2 := [.ref 115, .ref 112]) (rest2 := []) rfl rfl rfl rfl rfl rfl (s175 hI32 (a := 115) (b := 112) (by decide) (by decide)) (show _ = 129 from rfl) ?_
        rintro r4 w36 ⟨rfl, hI37, hE39⟩
        have hE38 := hE33.tr (hE39.ef hI32 hI37)
        show sx_RP _ _ _ _ _ [] _ _
        refine sx_RP.step (pc2 := 130) (ls2 := [(0, .ref 111), (1, .int l)]) (st2 := [.int (-1)]) (w3 := w36) rfl rfl ?_
        refine sx_RP.step (pc2 := 131) (ls2 := [(0, .ref 111), (1, .int l)]) (st2 := [.ref 111, .int (-1)]) (w3 := w36) rfl rfl ?_
        refine sx_RP.gf (v := .int (fi w36 111 13)) rfl rfl hI37.1.o111 rfl rfl (show _ = 134 from rfl) ?_
        refine sx_RP.step (pc2 := 135) (ls2 := [(0, .ref 111), (1, .int l)]) (st2 := [.int ((-1) - (fi w36 111 13))]) (w3 := w36) rfl rfl ?_
        refine sx_RP.ret (r := (some (.int ((-1) - (fi w36 111 13))))) rfl rfl ?_
        exact ⟨⟨_, rfl⟩, hI37, hE38, ((keep111 hI32 hI37 ((hE39 111).2 (by decide))).2).trans ht34⟩
set_option maxRecDepth 20000 in
set_option maxHeartbeats 4000000 in
theorem s210LT {xs : Option (List Int32)} {d : Nat} {w0 : List sx_C} : ∀ (fz p : Nat) (l : Int32) (w : List sx_C), 121 ≤ p + fz → p ≤ 120 → fi w 111 12 = nI p → WI w → EF w0 w → sx_RP xs (d + 8) 210 25 [(0, .ref 111), (1, .int l), (2, .int 1)] [] w (fun r w2 => (∃ v : Int32, r = some (.int v)) ∧ WI w2 ∧ EF w0 w2 ∧ fi w2 111 11 = 0)
  | fz, p, l, w, h, hp, ep, hI, hE => by
    refine sx_RP.step (pc2 := 26) (ls2 := [(0, .ref 111), (1, .int l), (2, .int 1)]) (st2 := [.int 1]) (w3 := w) rfl rfl ?_
    refine sx_RP.step (pc2 := 29) (ls2 := [(0, .ref 111), (1, .int l), (2, .int 1)]) (st2 := []) (w3 := w) rfl rfl ?_
    refine sx_RP.step (pc2 := 30) (ls2 := [(0, .ref 111), (1, .int l), (2, .int 1)]) (st2 := [.ref 111]) (w3 := w) rfl rfl ?_
    refine sx_RP.callp (as2 := [.ref 111]) (rest2 := []) rfl rfl (sx_inv_v2 (mi := 210) (k := 333) (st := [.ref 111]) (w := w) rfl rfl hI.1.o111 rfl rfl rfl) rfl rfl rfl (s211 hI ) (show _ = 33 from rfl) ?_
    rintro r4 w1 ⟨(rfl | rfl), hI2, hE4⟩
    · have hE3 := hE.tr (hE4.1.ef hI hI2)
      show sx_RP _ _ _ _ _ [.int 0] _ _
      refine sx_RP.step (pc2 := 83) (ls2 := [(0, .ref 111), (1, .int l), (2, .int 1)]) (st2 := []) (w3 := w1) rfl rfl ?_
      exact sx_RP.ls (sx_lr.cons rfl (sx_lr.cons rfl sx_lr.nil)) (s210eT _ hI2 hE3)
    · have hE3 := hE.tr (hE4.1.ef hI hI2)
      show sx_RP _ _ _ _ _ [.int 1] _ _
      refine sx_RP.step (pc2 := 36) (ls2 := [(0, .ref 111), (1, .int l), (2, .int 1)]) (st2 := []) (w3 := w1) rfl rfl ?_
      refine sx_RP.step (pc2 := 39) (ls2 := [(1, .int (l + 1)), (0, .ref 111), (2, .int 1)]) (st2 := []) (w3 := w1) rfl rfl ?_
      refine sx_RP.step (pc2 := 40) (ls2 := [(1, .int (l + 1)), (0, .ref 111), (2, .int 1)]) (st2 := [.ref 111]) (w3 := w1) rfl rfl ?_
      refine sx_RP.callp (as2 := [.ref 111]) (rest2 := []) rfl rfl (sx_inv_v2 (mi := 210) (k := 224) (st := [.ref 111]) (w := w1) rfl rfl hI2.1.o111 rfl rfl rfl) rfl rfl rfl (s215 hI2) (show _ = 43 from rfl) ?_
      rintro r4 w5 ⟨⟨rfl, _⟩, hI6, hE8⟩
      have hE7 := hE3.tr (hE8.em.ef hI2 hI6)
      show sx_RP _ _ _ _ _ [] _ _
      refine sx_RP.step (pc2 := 44) (ls2 := [(1, .int (l + 1)), (0, .ref 111), (2, .int 1)]) (st2 := [.ref 111]) (w3 := w5) rfl rfl ?_
      refine sx_RP.step (pc2 := 45) (ls2 := [(1, .int (l + 1)), (0, .ref 111), (2, .int 1)]) (st2 := [.ref 111, .ref 111]) (w3 := w5) rfl rfl ?_
      refine sx_RP.gf (v := .int (fi w5 111 12)) rfl rfl hI6.1.o111 rfl rfl (show _ = 48 from rfl) ?_
      obtain ⟨x9, hx10, ex11⟩ : inR (fi w5 111 12) 120 := hI6.m.2.2
      rw [ex11]
      rcases p216 (xs := xs) (a := x9) hI6 (by omega) with c12 | ⟨hx13, v14, c12⟩
      · refine sx_RP.cu (as := [.ref 111, .int (nI x9)]) (rest2 := []) (st3 := [.int (-1)]) rfl rfl (sx_inv_v2 (mi := 210) (k := 215) (st := [.int (nI x9), .ref 111]) (w := w5) rfl rfl hI6.1.o111 rfl rfl rfl) rfl rfl (c12) rfl ?_
        refine sx_RP.step (pc2 := 53) (ls2 := [(1, .int (l + 1)), (0, .ref 111), (2, .int 1)]) (st2 := [.int 59, .int (-1)]) (w3 := w5) rfl rfl ?_
        refine sx_RP.step (pc2 := 60) (ls2 := [(1, .int (l + 1)), (0, .ref 111), (2, .int 1)]) (st2 := []) (w3 := w5) rfl rfl ?_
        refine sx_RP.step (pc2 := 61) (ls2 := [(1, .int (l + 1)), (0, .ref 111), (2, .int 1)]) (st2 := [.int 0]) (w3 := w5) rfl rfl ?_
        refine sx_RP.step (pc2 := 62) (ls2 := [(2, .int 0), (1, .int (l + 1)), (0, .ref 111)]) (st2 := []) (w3 := w5) rfl rfl ?_
        refine sx_RP.step (pc2 := 63) (ls2 := [(2, .int 0), (1, .int (l + 1)), (0, .ref 111)]) (st2 := [.ref 111]) (w3 := w5) rfl rfl ?_
        refine sx_RP.step (pc2 := 64) (ls2 := [(2, .int 0), (1, .int (l + 1)), (0, .ref 111)]) (st2 := [.ref 111, .ref 111]) (w3 := w5) rfl rfl ?_
        refine sx_RP.gf (v := .int (fi w5 111 12)) rfl rfl hI6.1.o111 rfl rfl (show _ = 67 from rfl) ?_
        rw [ex11]
        refine sx_RP.step (pc2 := 68) (ls2 := [(2, .int 0), (1, .int (l + 1)), (0, .ref 111)]) (st2 := [.int 0, .int (nI x9), .ref 111]) (w3 := w5) rfl rfl ?_
        refine sx_RP.step (pc2 := 75) (ls2 := [(2, .int 0), (1, .int (l + 1)), (0, .ref 111)]) (st2 := [.int (nI x9), .ref 111]) (w3 := w5) rfl rfl ?_
        refine sx_RP.step (pc2 := 76) (ls2 := [(2, .int 0), (1, .int (l + 1)), (0, .ref 111)]) (st2 := [.int 0, .int (nI x9), .ref 111]) (w3 := w5) rfl rfl ?_
        refine sx_RP.step (pc2 := 77) (ls2 := [(2, .int 0), (1, .int (l + 1)), (0, .ref 111)]) (st2 := [.int ((nI x9) + 0), .ref 111]) (w3 := w5) rfl rfl ?_
        rw [show ((nI x9) + 0 : Int32) = nI (x9 + 0) from nI_add x9 0]
        have hpx := hr_n ep ex11 (by omega) (by omega) (Int.le_trans hE4.2 hE8.2.2)
        refine sx_RP.pmF (k := 12) hI6 hE7 rfl rfl (by decide) rfl (inR.n (show (x9 + 0) ≤ 120 by omega)) (show _ = 80 from rfl) (fun w15 hI16 hE17 ht18 ht19 ht20 => ?_)
        refine sx_RP.step (pc2 := 25) (ls2 := [(2, .int 0), (1, .int (l + 1)), (0, .ref 111)]) (st2 := []) (w3 := w15) rfl rfl ?_
        refine sx_RP.step (pc2 := 26) (ls2 := [(2, .int 0), (1, .int (l + 1)), (0, .ref 111)]) (st2 := [.int 0]) (w3 := w15) rfl rfl ?_
        refine sx_RP.step (pc2 := 83) (ls2 := [(2, .int 0), (1, .int (l + 1)), (0, .ref 111)]) (st2 := []) (w3 := w15) rfl rfl ?_
        exact sx_RP.ls (sx_lr.cons rfl (sx_lr.cons rfl sx_lr.nil)) (s210eT _ hI16 hE17)
      · refine sx_RP.cu (as := [.ref 111, .int (nI x9)]) (rest2 := []) (st3 := [.int v14]) rfl rfl (sx_inv_v2 (mi := 210) (k := 215) (st := [.int (nI x9), .ref 111]) (w := w5) rfl rfl hI6.1.o111 rfl rfl rfl) rfl rfl (c12) rfl ?_
        refine sx_RP.step (pc2 := 53) (ls2 := [(1, .int (l + 1)), (0, .ref 111), (2, .int 1)]) (st2 := [.int 59, .int v14]) (w3 := w5) rfl rfl ?_
        refine sx_RP.br (p1 := 60) (l1 := [(1, .int (l + 1)), (0, .ref 111), (2, .int 1)]) (s1 := []) (v1 := w5) (p2 := 56) (l2 := [(1, .int (l + 1)), (0, .ref 111), (2, .int 1)]) (s2 := []) (v2 := w5) rfl rfl (fun q21 => ?_) (fun q21 => ?_)
        · replace q21 := of_decide_eq_true q21
          refine sx_RP.step (pc2 := 61) (ls2 := [(1, .int (l + 1)), (0, .ref 111), (2, .int 1)]) (st2 := [.int 0]) (w3 := w5) rfl rfl ?_
          refine sx_RP.step (pc2 := 62) (ls2 := [(2, .int 0), (1, .int (l + 1)), (0, .ref 111)]) (st2 := []) (w3 := w5) rfl rfl ?_
          refine sx_RP.step (pc2 := 63) (ls2 := [(2, .int 0), (1, .int (l + 1)), (0, .ref 111)]) (st2 := [.ref 111]) (w3 := w5) rfl rfl ?_
          refine sx_RP.step (pc2 := 64) (ls2 := [(2, .int 0), (1, .int (l + 1)), (0, .ref 111)]) (st2 := [.ref 111, .ref 111]) (w3 := w5) rfl rfl ?_
          refine sx_RP.gf (v := .int (fi w5 111 12)) rfl rfl hI6.1.o111 rfl rfl (show _ = 67 from rfl) ?_
          rw [ex11]
          refine sx_RP.step (pc2 := 68) (ls2 := [(2, .int 0), (1, .int (l + 1)), (0, .ref 111)]) (st2 := [.int 0, .int (nI x9), .ref 111]) (w3 := w5) rfl rfl ?_
          refine sx_RP.step (pc2 := 75) (ls2 := [(2, .int 0), (1, .int (l + 1)), (0, .ref 111)]) (st2 := [.int (nI x9), .ref 111]) (w3 := w5) rfl rfl ?_
          refine sx_RP.step (pc2 := 76) (ls2 := [(2, .int 0), (1, .int (l + 1)), (0, .ref 111)]) (st2 := [.int 0, .int (nI x9), .ref 111]) (w3 := w5) rfl rfl ?_
          refine sx_RP.step (pc2 := 77) (ls2 := [(2, .int 0), (1, .int (l + 1)), (0, .ref 111)]) (st2 := [.int ((nI x9) + 0), .ref 111]) (w3 := w5) rfl rfl ?_
          rw [show ((nI x9) + 0 : Int32) = nI (x9 + 0) from nI_add x9 0]
          have hpx := hr_n ep ex11 (by omega) (by omega) (Int.le_trans hE4.2 hE8.2.2)
          refine sx_RP.pmF (k := 12) hI6 hE7 rfl rfl (by decide) rfl (inR.n (show (x9 + 0) ≤ 120 by omega)) (show _ = 80 from rfl) (fun w22 hI23 hE24 ht25 ht26 ht27 => ?_)
          refine sx_RP.step (pc2 := 25) (ls2 := [(2, .int 0), (1, .int (l + 1)), (0, .ref 111)]) (st2 := []) (w3 := w22) rfl rfl ?_
          refine sx_RP.step (pc2 := 26) (ls2 := [(2, .int 0), (1, .int (l + 1)), (0, .ref 111)]) (st2 := [.int 0]) (w3 := w22) rfl rfl ?_
          refine sx_RP.step (pc2 := 83) (ls2 := [(2, .int 0), (1, .int (l + 1)), (0, .ref 111)]) (st2 := []) (w3 := w22) rfl rfl ?_
          exact sx_RP.ls (sx_lr.cons rfl (sx_lr.cons rfl sx_lr.nil)) (s210eT _ hI23 hE24)
        · replace q21 := Decidable.not_not.mp (of_decide_eq_false q21)
          refine sx_RP.step (pc2 := 57) (ls2 := [(1, .int (l + 1)), (0, .ref 111), (2, .int 1)]) (st2 := [.int 1]) (w3 := w5) rfl rfl ?_
          refine sx_RP.step (pc2 := 61) (ls2 := [(1, .int (l + 1)), (0, .ref 111), (2, .int 1)]) (st2 := [.int 1]) (w3 := w5) rfl rfl ?_
          refine sx_RP.step (pc2 := 62) (ls2 := [(2, .int 1), (1, .int (l + 1)), (0, .ref 111)]) (st2 := []) (w3 := w5) rfl rfl ?_
          refine sx_RP.step (pc2 := 63) (ls2 := [(2, .int 1), (1, .int (l + 1)), (0, .ref 111)]) (st2 := [.ref 111]) (w3 := w5) rfl rfl ?_
          refine sx_RP.step (pc2 := 64) (ls2 := [(2, .int 1), (1, .int (l + 1)), (0, .ref 111)]) (st2 := [.ref 111, .ref 111]) (w3 := w5) rfl rfl ?_
          refine sx_RP.gf (v := .int (fi w5 111 12)) rfl rfl hI6.1.o111 rfl rfl (show _ = 67 from rfl) ?_
          rw [ex11]
          refine sx_RP.step (pc2 := 68) (ls2 := [(2, .int 1), (1, .int (l + 1)), (0, .ref 111)]) (st2 := [.int 1, .int (nI x9), .ref 111]) (w3 := w5) rfl rfl ?_
          refine sx_RP.step (pc2 := 71) (ls2 := [(2, .int 1), (1, .int (l + 1)), (0, .ref 111)]) (st2 := [.int (nI x9), .ref 111]) (w3 := w5) rfl rfl ?_
          refine sx_RP.step (pc2 := 72) (ls2 := [(2, .int 1), (1, .int (l + 1)), (0, .ref 111)]) (st2 := [.int 1, .int (nI x9), .ref 111]) (w3 := w5) rfl rfl ?_
          refine sx_RP.step (pc2 := 76) (ls2 := [(2, .int 1), (1, .int (l + 1)), (0, .ref 111)]) (st2 := [.int 1, .int (nI x9), .ref 111]) (w3 := w5) rfl rfl ?_
          refine sx_RP.step (pc2 := 77) (ls2 := [(2, .int 1), (1, .int (l + 1)), (0, .ref 111)]) (st2 := [.int ((nI x9) + 1), .ref 111]) (w3 := w5) rfl rfl ?_
          rw [show ((nI x9) + 1 : Int32) = nI (x9 + 1) from nI_add x9 1]
          have hpx := hr_n ep ex11 (by omega) (by omega) (Int.le_trans hE4.2 hE8.2.2)
          refine sx_RP.pmF (k := 12) hI6 hE7 rfl rfl (by decide) rfl (inR.n (show (x9 + 1) ≤ 120 by omega)) (show _ = 80 from rfl) (fun w28 hI29 hE30 ht31 ht32 ht33 => ?_)
          refine sx_RP.step (pc2 := 25) (ls2 := [(2, .int 1), (1, .int (l + 1)), (0, .ref 111)]) (st2 := []) (w3 := w28) rfl rfl ?_
          match fz, h with
          | 0, h => exact absurd h (by omega)
          | fz + 1, h => exact sx_RP.ls (sx_lr.cons rfl (sx_lr.cons rfl (sx_lr.cons rfl sx_lr.nil))) (s210LT fz ((x9 + 1)) _ _ (by omega) (by omega) ht31 hI29 hE30)
set_option maxRecDepth 20000 in
set_option maxHeartbeats 4000000 in
theorem s210T {xs : Option (List Int32)} {d : Nat} {w : List sx_C} (hI : WI w) : sx_RP xs (d + 8) 210 0 (lv_args 0 [.ref 111]) [] w (fun r w2 => (∃ v : Int32, r = some (.int v)) ∧ WI w2 ∧ EF w w2 ∧ fi w2 111 11 = 0) := by
  have hE : EF w w := EF.rf
  refine sx_RP.step (pc2 := 1) (ls2 := [(0, .ref 111)]) (st2 := [.ref 111]) (w3 := w) rfl rfl ?_
  refine sx_RP.step (pc2 := 2) (ls2 := [(0, .ref 111)]) (st2 := [.int 0, .ref 111]) (w3 := w) rfl rfl ?_
  refine sx_RP.pmF (k := 12) hI hE rfl rfl (by decide) rfl (show inR 0 120 from ⟨0, by decide, rfl⟩) (show _ = 5 from rfl) (fun w1 hI2 hE3 ht4 ht5 ht6 => ?_)
  refine sx_RP.step (pc2 := 6) (ls2 := [(0, .ref 111)]) (st2 := [.ref 111]) (w3 := w1) rfl rfl ?_
  refine sx_RP.step (pc2 := 7) (ls2 := [(0, .ref 111)]) (st2 := [.int (-1), .ref 111]) (w3 := w1) rfl rfl ?_
  refine sx_RP.pmF (k := 13) hI2 hE3 rfl rfl (by decide) rfl trivial (show _ = 10 from rfl) (fun w7 hI8 hE9 ht10 ht11 ht12 => ?_)
  have ex13 := (ht11 12 (by decide)).trans ht4
  refine sx_RP.step (pc2 := 11) (ls2 := [(0, .ref 111)]) (st2 := [.ref 111]) (w3 := w7) rfl rfl ?_
  refine sx_RP.gf (v := .ref 112) rfl rfl hI8.1.o111 rfl rfl (show _ = 14 from rfl) ?_
  refine sx_RP.step (pc2 := 15) (ls2 := [(0, .ref 111)]) (st2 := [.ref 111, .ref 112]) (w3 := w7) rfl rfl ?_
  refine sx_RP.gf (v := .ref 115) rfl rfl hI8.1.o111 rfl rfl (show _ = 18 from rfl) ?_
  refine sx_RP.callp (as2 := [.ref 112, .ref 115]) (rest2 := []) rfl rfl rfl rfl rfl rfl (s175 hI8 (a := 112) (b := 115) (by decide) (by decide)) (show _ = 21 from rfl) ?_
  rintro r4 w14 ⟨rfl, hI15, hE17⟩
  have hE16 := hE9.tr (hE17.ef hI8 hI15)
  show sx_RP _ _ _ _ _ [] _ _
  refine sx_RP.step (pc2 := 22) (ls2 := [(0, .ref 111)]) (st2 := [.int 0]) (w3 := w14) rfl rfl ?_
  refine sx_RP.step (pc2 := 23) (ls2 := [(1, .int 0), (0, .ref 111)]) (st2 := []) (w3 := w14) rfl rfl ?_
  refine sx_RP.step (pc2 := 24) (ls2 := [(1, .int 0), (0, .ref 111)]) (st2 := [.int 1]) (w3 := w14) rfl rfl ?_
  refine sx_RP.step (pc2 := 25) (ls2 := [(2, .int 1), (1, .int 0), (0, .ref 111)]) (st2 := []) (w3 := w14) rfl rfl ?_
  obtain ⟨pz, hpz, epz⟩ := hI15.m.2.2
  exact sx_RP.ls (sx_lr.cons rfl (sx_lr.cons rfl (sx_lr.cons rfl sx_lr.nil))) (s210LT 121 pz _ _ (by omega) hpz epz hI15 hE16)
end
-- 79a.exact.lean.txt
section
-- rows that tell all of what is written
section SXX
variable {xs : Option (List Int32)} {d mi pc pc2 a idx p : Nat} {ls : sx_L} {r : List Value} {w w0 : List sx_C} {P : Option Value → List sx_C → Prop}
/-- all cells but one as they were -/
def Same (a : Nat) (w w2 : List sx_C) : Prop := ∀ b, b ≠ a → w2[b]? = w[b]?
theorem Same.set {a : Nat} {w : List sx_C} {c : sx_C} : Same a w (w.set a c) := fun _ hb => List.getElem?_set_ne (Ne.symm hb)
theorem sx_RP.xG {k : Nat} {v : Int32} (hI : WI w) (ha : gAd a) (hi : sx_ins mi pc = some (.putfield idx, 3)) (hq : sx_lk (sx_fl (sx_own mi)) idx = some (2, k, p)) (hk : k < 6) (hf : sx_fin mi 2 k = true) (hv : gR k v) (hp : pc + 3 = pc2) (kk : ∀ w2, WI w2 → Same a w w2 → fi w2 a k = v → (∀ j, j ≠ k → fi w2 a j = fi w a j) → sx_RP xs d mi pc2 ls r w2 P) : sx_RP xs d mi pc ls (.int v :: .ref a :: r) w P := by
  have hw := hI.1.oG ha
  have q := hI.g ha
  have hfs : fs_ w a = [.int (fi w a 0), .int (fi w a 1), .int (fi w a 2), .int (fi w a 3), .int (fi w a 4), .int (fi w a 5)] := by unfold fs_; rw [hw]
  have hne : ∀ (fs : List Value) (j : Nat), fs_ w a = fs → j ≠ k → fi (w.set a (.inr (.inr (.inr (2, fs.set k (.int v)))))) a j = fi w a j := by
    intro fs j e hj
    unfold fi
    rw [fs_set hw, List.getElem?_set_ne (Ne.symm hj), e]
  match k, hk with
  | 0, _ => exact sx_RP.pf hi hq hw (by rw [hf]; rfl) rfl rfl hp (kk _ (hI.set hw rfl (cOK.g ha ⟨hv, q.2⟩)) Same.set (by unfold fi; rw [fs_set hw]; rfl) (fun j hj => hne _ j hfs hj))
  | 1, _ => exact sx_RP.pf hi hq hw (by rw [hf]; rfl) rfl rfl hp (kk _ (hI.set hw rfl (cOK.g ha ⟨q.1, hv, q.2.2⟩)) Same.set (by unfold fi; rw [fs_set hw]; rfl) (fun j hj => hne _ j hfs hj))
  | 2, _ => exact sx_RP.pf hi hq hw (by rw [hf]; rfl) rfl rfl hp (kk _ (hI.set hw rfl (cOK.g ha ⟨q.1, q.2.1, hv, q.2.2.2⟩)) Same.set (by unfold fi; rw [fs_set hw]; rfl) (fun j hj => hne _ j hfs hj))
  | 3, _ => exact sx_RP.pf hi hq hw (by rw [hf]; rfl) rfl rfl hp (kk _ (hI.set hw rfl (cOK.g ha ⟨q.1, q.2.1, q.2.2.1, hv, q.2.2.2.2⟩)) Same.set (by unfold fi; rw [fs_set hw]; rfl) (fun j hj => hne _ j hfs hj))
  | 4, _ => exact sx_RP.pf hi hq hw (by rw [hf]; rfl) rfl rfl hp (kk _ (hI.set hw rfl (cOK.g ha ⟨q.1, q.2.1, q.2.2.1, q.2.2.2.1, q.2.2.2.2⟩)) Same.set (by unfold fi; rw [fs_set hw]; rfl) (fun j hj => hne _ j hfs hj))
  | 5, _ => exact sx_RP.pf hi hq hw (by rw [hf, show sx_okv (sx_ty 2 5) (.int v) = (v == 0 || v == 1) from rfl, inR.bo hv]; rfl) rfl rfl hp (kk _ (hI.set hw rfl (cOK.g ha ⟨q.1, q.2.1, q.2.2.1, q.2.2.2.1, hv⟩)) Same.set (by unfold fi; rw [fs_set hw]; rfl) (fun j hj => hne _ j hfs hj))
theorem sx_RP.xC {k : Nat} {v : Int32} (hI : WI w) (ha : isA a) (hi : sx_ins mi pc = some (.putfield idx, 3)) (hq : sx_lk (sx_fl (sx_own mi)) idx = some (1, k, p)) (hk : k = 3 ∨ (5 ≤ k ∧ k < 11)) (hf : sx_fin mi 1 k = true) (hv : cR k v) (hp : pc + 3 = pc2) (kk : ∀ w2, WI w2 → Same a w w2 → fi w2 a k = v → (∀ j, j ≠ k → fi w2 a j = fi w a j) → fj w2 a 1 = fj w a 1 → sx_RP xs d mi pc2 ls r w2 P) : sx_RP xs d mi pc ls (.int v :: .ref a :: r) w P := by
  have hw := hI.1.oC ha
  have q := hI.c ha
  have hfs : fs_ w a = [.ref (a + 1), .long (fj w a 1), .ref (a + 2), .int (fi w a 3), .ref (a + 3), .int (fi w a 5), .int (fi w a 6), .int (fi w a 7), .int (fi w a 8), .int (fi w a 9), .int (fi w a 10)] := by unfold fs_; rw [hw]
  have hne : ∀ (fs : List Value) (j : Nat), fs_ w a = fs → j ≠ k → fi (w.set a (.inr (.inr (.inr (1, fs.set k (.int v)))))) a j = fi w a j := by
    intro fs j e hj
    unfold fi
    rw [fs_set hw, List.getElem?_set_ne (Ne.symm hj), e]
  have hnj : ∀ (fs : List Value), fs_ w a = fs → 1 ≠ k → fj (w.set a (.inr (.inr (.inr (1, fs.set k (.int v)))))) a 1 = fj w a 1 := by
    intro fs e hj
    unfold fj
    rw [fs_set hw, List.getElem?_set_ne (Ne.symm hj), e]
  rcases (show k = 3 ∨ k = 5 ∨ k = 6 ∨ k = 7 ∨ k = 8 ∨ k = 9 ∨ k = 10 by omega) with rfl | rfl | rfl | rfl | rfl | rfl | rfl
  · exact sx_RP.pf hi hq hw (by rw [hf]; rfl) rfl rfl hp (kk _ (hI.set hw rfl (cOK.c ha ⟨hv, q.2⟩)) Same.set (by unfold fi; rw [fs_set hw]; rfl) (fun j hj => hne _ j hfs hj) (hnj _ hfs (by decide)))
  · exact sx_RP.pf hi hq hw (by rw [hf]; rfl) rfl rfl hp (kk _ (hI.set hw rfl (cOK.c ha ⟨q.1, hv⟩)) Same.set (by unfold fi; rw [fs_set hw]; rfl) (fun j hj => hne _ j hfs hj) (hnj _ hfs (by decide)))
  · exact sx_RP.pf hi hq hw (by rw [hf]; rfl) rfl rfl hp (kk _ (hI.set hw rfl (cOK.c ha q)) Same.set (by unfold fi; rw [fs_set hw]; rfl) (fun j hj => hne _ j hfs hj) (hnj _ hfs (by decide)))
  · exact sx_RP.pf hi hq hw (by rw [hf]; rfl) rfl rfl hp (kk _ (hI.set hw rfl (cOK.c ha q)) Same.set (by unfold fi; rw [fs_set hw]; rfl) (fun j hj => hne _ j hfs hj) (hnj _ hfs (by decide)))
  · exact sx_RP.pf hi hq hw (by rw [hf]; rfl) rfl rfl hp (kk _ (hI.set hw rfl (cOK.c ha q)) Same.set (by unfold fi; rw [fs_set hw]; rfl) (fun j hj => hne _ j hfs hj) (hnj _ hfs (by decide)))
  · exact sx_RP.pf hi hq hw (by rw [hf]; rfl) rfl rfl hp (kk _ (hI.set hw rfl (cOK.c ha q)) Same.set (by unfold fi; rw [fs_set hw]; rfl) (fun j hj => hne _ j hfs hj) (hnj _ hfs (by decide)))
  · exact sx_RP.pf hi hq hw (by rw [hf]; rfl) rfl rfl hp (kk _ (hI.set hw rfl (cOK.c ha q)) Same.set (by unfold fi; rw [fs_set hw]; rfl) (fun j hj => hne _ j hfs hj) (hnj _ hfs (by decide)))
theorem sx_RP.xW {v : Int64} (hI : WI w) (ha : isA a) (hi : sx_ins mi pc = some (.putfield idx, 3)) (hq : sx_lk (sx_fl (sx_own mi)) idx = some (1, 1, p)) (hf : sx_fin mi 1 1 = true) (hp : pc + 3 = pc2) (kk : ∀ w2, WI w2 → Same a w w2 → fj w2 a 1 = v → (∀ j, fi w2 a j = fi w a j) → sx_RP xs d mi pc2 ls r w2 P) : sx_RP xs d mi pc ls (.long v :: .ref a :: r) w P := by
  have hw := hI.1.oC ha
  have q := hI.c ha
  have hfs : fs_ w a = [.ref (a + 1), .long (fj w a 1), .ref (a + 2), .int (fi w a 3), .ref (a + 3), .int (fi w a 5), .int (fi w a 6), .int (fi w a 7), .int (fi w a 8), .int (fi w a 9), .int (fi w a 10)] := by unfold fs_; rw [hw]
  refine sx_RP.pf hi hq hw (by rw [hf]; rfl) rfl rfl hp (kk _ (hI.set hw rfl (cOK.c ha q)) Same.set (by unfold fj; rw [fs_set hw]; rfl) (fun j => ?_))
  unfold fi
  rw [fs_set hw, hfs]
  match j with
  | 0 => rfl
  | 1 => rfl
  | j + 2 => rfl
/-- a number of a row of ints -/
theorem sx_RP.xI {x : Int32} {c n : Nat} (hI : WI w) (hi : sx_ins mi pc = some (.iastore, 1)) (hw : w[a]? = some (.inl (0, ia w a)) ∧ (ia w a).length = n) (hc : c < n) (hn : n < 2 ^ 31) (ho : cOK a (.inl (0, (ia w a).set c x))) (hp : pc + 1 = pc2) (kk : ∀ w2, WI w2 → Same a w w2 → ia w2 a = (ia w a).set c x → sx_RP xs d mi pc2 ls r w2 P) : sx_RP xs d mi pc ls (.int x :: .int (nI c) :: .ref a :: r) w P := by
  refine sx_RP.ist (c := c) hi hw.1 hw.2 (sx_in_nI hc hn) (nI_clamp (by omega)) rfl hp (kk _ (hI.set hw.1 sh_set ho) Same.set (ia_set hw.1))
theorem sx_RP.xS {x : Int32} {A c : Nat} (hI : WI w) (hA : isA A) (hi : sx_ins mi pc = some (.iastore, 1)) (hc : c < 48) (hv : inR x 3) (hp : pc + 1 = pc2) (kk : ∀ w2, WI w2 → Same (A + 1) w w2 → ia w2 (A + 1) = (ia w (A + 1)).set c x → sx_RP xs d mi pc2 ls r w2 P) : sx_RP xs d mi pc ls (.int x :: .int (nI c) :: .ref (A + 1) :: r) w P :=
  sx_RP.xI hI hi (hI.1.aS hA) hc (by decide) (cOK.st hA (inR.set (fun k hk => hI.st hA hk) hv)) hp kk
theorem sx_RP.xD {x : Int32} {A c : Nat} (hI : WI w) (hA : isA A) (hi : sx_ins mi pc = some (.iastore, 1)) (hc : c < 9) (hv : inR x 47) (hp : pc + 1 = pc2) (kk : ∀ w2, WI w2 → Same (A + 3) w w2 → ia w2 (A + 3) = (ia w (A + 3)).set c x → sx_RP xs d mi pc2 ls r w2 P) : sx_RP xs d mi pc ls (.int x :: .int (nI c) :: .ref (A + 3) :: r) w P :=
  sx_RP.xI hI hi (hI.1.aD hA) hc (by decide) (cOK.di hA (inR.set (fun k hk => hI.di hA hk) hv)) hp kk
theorem sx_RP.xF {x : Int32} {c n : Nat} (hI : WI w) (hi : sx_ins mi pc = some (.iastore, 1)) (hw : w[a]? = some (.inl (0, ia w a)) ∧ (ia w a).length = n) (hc : c < n) (hn : n < 2 ^ 31) (hf : (44 ≤ a ∧ a ≤ 95) ∨ (97 ≤ a ∧ a ≤ 102) ∨ (116 ≤ a ∧ a ≤ 122) ∨ 124 ≤ a) (hp : pc + 1 = pc2) (kk : ∀ w2, WI w2 → Same a w w2 → ia w2 a = (ia w a).set c x → sx_RP xs d mi pc2 ls r w2 P) : sx_RP xs d mi pc ls (.int x :: .int (nI c) :: .ref a :: r) w P :=
  sx_RP.xI hI hi hw hc hn (cOK.free (by omega)) hp kk
theorem sx_RP.xM {x : Int32} {k : Nat} (hI : WI w) (ha : 112 ≤ a ∧ a ≤ 115) (hi : sx_ins mi pc = some (.iastore, 1)) (hk : k < 172) (hv : eOK k x) (hp : pc + 1 = pc2) (kk : ∀ w2, WI w2 → Same a w w2 → ia w2 a = (ia w a).set k x → sx_RP xs d mi pc2 ls r w2 P) : sx_RP xs d mi pc ls (.int x :: .int (nI k) :: .ref a :: r) w P :=
  sx_RP.xI hI hi (hI.1.aM ha) hk (by decide) (cOK.s ha ((hI.sA ha).set (hI.1.aM ha).2 hk hv)) hp kk
/-- a row of truths -/
theorem sx_RP.xB {x : Int32} {c n : Nat} (hI : WI w) (hi : sx_ins mi pc = some (.bastore, 1)) (hw : w[a]? = some (.inl (1, ia w a)) ∧ (ia w a).length = n) (hc : c < n) (hn : n < 2 ^ 31) (hf : (44 ≤ a ∧ a ≤ 95) ∨ (97 ≤ a ∧ a ≤ 102) ∨ (116 ≤ a ∧ a ≤ 122) ∨ 124 ≤ a) (hp : pc + 1 = pc2) (kk : ∀ w2, WI w2 → Same a w w2 → sx_RP xs d mi pc2 ls r w2 P) : sx_RP xs d mi pc ls (.int x :: .int (nI c) :: .ref a :: r) w P :=
  sx_RP.bst1 hi hw.1 hw.2 (sx_in_nI hc hn) rfl rfl hp (kk _ (hI.set hw.1 sh_set (cOK.free (by omega))) Same.set)
/-- the tape -/
theorem sx_RP.xT {x : Int32} {c : Nat} (hI : WI w) (hi : sx_ins mi pc = some (.bastore, 1)) (hc : c < 120) (hp : pc + 1 = pc2) (kk : ∀ w2, WI w2 → Same 97 w w2 → ia w2 97 = (ia w 97).set c (vp_nar .byte x) → sx_RP xs d mi pc2 ls r w2 P) : sx_RP xs d mi pc ls (.int x :: .int (nI c) :: .ref 97 :: r) w P := by
  have hw := hI.1.a97
  subst hp
  refine sx_RP.step hi (show sx_bast ls pc (.int x :: .int (nI c) :: .ref 97 :: r) w = some (pc + 1, ls, r, w.set 97 (.inl (2, (ia w 97).set c (vp_nar .byte x)))) from ?_) (kk _ (hI.set hw.1 sh_set (cOK.free (by decide))) Same.set (ia_set hw.1))
  unfold sx_bast
  simp only
  rw [hw.1]
  simp only
  rw [hw.2, sx_in_nI hc (by decide), nI_clamp (by omega)]
  rfl
/-- numbers of a sheet -/
theorem sx_RP.xL {x : Int64} {c n : Nat} (hI : WI w) (hi : sx_ins mi pc = some (.lastore, 1)) (hw : w[a]? = some (.inr (.inl (3, ja w a))) ∧ (ja w a).length = n) (hc : c < n) (hn : n < 2 ^ 31) (hf : a = 104 ∨ a = 106 ∨ a = 108 ∨ a = 110 ∨ a = 124 ∨ a = 125) (hp : pc + 1 = pc2) (kk : ∀ w2, WI w2 → Same a w w2 → ja w2 a = (ja w a).set c x → sx_RP xs d mi pc2 ls r w2 P) : sx_RP xs d mi pc ls (.long x :: .int (nI c) :: .ref a :: r) w P := by
  have hl := hw.2
  subst hl
  refine sx_RP.last hi hw.1 (sx_in_nI hc hn) rfl hp (kk _ (hI.set hw.1 shj_set (cOK.free (by omega))) Same.set ?_)
  unfold ja
  rw [sx_gs2 hw.1, nI_clamp (by omega)]
end SXX
end
