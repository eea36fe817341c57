-- safety: the text of the reference: items
theorem sx_dep1 (md : Bool) (xs : Option (List Int32)) : ∀ (f d mi pc : Nat) (ls : sx_L) (st : List Value) (w : List sx_C) (r : Option Value) (w2 : List sx_C), sx_run md xs f d mi pc ls st w = some (r, w2) → sx_run md xs f (d + 1) mi pc ls st w = some (r, w2)
  | 0, d, mi, pc, ls, st, w, r, w2, h => by cases h
  | f + 1, d, mi, pc, ls, st, w, r, w2, h => by
    unfold sx_run at h
    unfold sx_run
    split at h
    · cases h
    · rename_i i n hi
      try rw [hi]
      try simp only
      split at h
      · rename_i pc2 ls2 st2 w3 hs
        try rw [hs]
        exact sx_dep1 md xs f d mi pc2 ls2 st2 w3 r w2 h
      · rename_i hs
        try rw [hs]
        try simp only
        split at h
        · rename_i r2 hr
          try rw [hr]
          exact h
        · rename_i hr
          try rw [hr]
          try simp only
          split at h
          · rename_i mi2 as rest d2 hinv
            try rw [hinv]
            try simp only
            simp only [Bool.cond_eq_ite] at h ⊢
            split at h
            · rename_i hsum
              rw [if_pos hsum]
              split at h
              · rename_i r2 w4 hc
                rw [sx_dep1 md xs f d2 mi2 0 _ [] w r2 w4 hc]
                exact sx_dep1 md xs f (d2 + 1) mi (pc + 3) ls _ w4 r w2 h
              · cases h
            · cases h
          · cases h
theorem sx_RU.deep {xs : Option (List Int32)} {d mi pc : Nat} {ls : sx_L} {st : List Value} {w : List sx_C} {r : Option Value} {w2 : List sx_C} (h : sx_RU xs d mi pc ls st w r w2) : ∀ k, sx_RU xs (k + d) mi pc ls st w r w2
  | 0 => by
    rw [Nat.zero_add]
    exact h
  | k + 1 => by
    obtain ⟨f, hf⟩ := sx_RU.deep h k
    refine ⟨f, ?_⟩
    rw [show k + 1 + d = k + d + 1 by omega]
    exact sx_dep1 false xs f (k + d) mi pc ls st w r w2 hf
theorem s214i {xs : Option (List Int32)} {d : Nat} {w : List sx_C} {k : UInt32} {n : Nat} (hI : WI w) (hk : 100 ≤ k.toNat ∧ k.toNat < 120) (en : sx_sn.getD (k.toNat - 100) 0 = n) (hn : n ≤ 7) : sx_RP xs (d + 3) 214 0 (lv_args 0 [.ref 111, .float k]) [] w (fun r w2 => ((r = some (.int 0) ∧ ∀ e, sx_RU xs (e + 3) 214 0 (lv_args 0 [.ref 111, .float k]) [] w2 (some (.int 0)) w2) ∨ r = some (.int 1)) ∧ WI w2 ∧ EH w w2) := by
  obtain ⟨r, w2, h, ⟨hr, hq⟩, h2⟩ := s214 (xs := xs) (d := 0) hI hk en hn
  refine ⟨r, w2, h.deep d, ?_, h2⟩
  rcases hr with e | ⟨_, _, e⟩
  · subst e
    exact Or.inl ⟨rfl, fun e => hq.deep e⟩
  · exact Or.inr e
theorem p212_0 {xs : Option (List Int32)} {d : Nat} {w : List sx_C} : sx_RU xs d 212 0 (lv_args 0 [.int 0]) [] w (some (.float 102)) w := sx_RU.step rfl rfl (sx_RU.step rfl rfl (sx_RU.step rfl rfl (sx_RU.ret rfl rfl)))
theorem p212_1 {xs : Option (List Int32)} {d : Nat} {w : List sx_C} : sx_RU xs d 212 0 (lv_args 0 [.int 1]) [] w (some (.float 113)) w := sx_RU.step rfl rfl (sx_RU.step rfl rfl (sx_RU.step rfl rfl (sx_RU.ret rfl rfl)))
theorem p212_2 {xs : Option (List Int32)} {d : Nat} {w : List sx_C} : sx_RU xs d 212 0 (lv_args 0 [.int 2]) [] w (some (.float 112)) w := sx_RU.step rfl rfl (sx_RU.step rfl rfl (sx_RU.step rfl rfl (sx_RU.ret rfl rfl)))
theorem p212_3 {xs : Option (List Int32)} {d : Nat} {w : List sx_C} : sx_RU xs d 212 0 (lv_args 0 [.int 3]) [] w (some (.float 118)) w := sx_RU.step rfl rfl (sx_RU.step rfl rfl (sx_RU.step rfl rfl (sx_RU.ret rfl rfl)))
theorem p212_4 {xs : Option (List Int32)} {d : Nat} {w : List sx_C} : sx_RU xs d 212 0 (lv_args 0 [.int 4]) [] w (some (.float 117)) w := sx_RU.step rfl rfl (sx_RU.step rfl rfl (sx_RU.step rfl rfl (sx_RU.ret rfl rfl)))
theorem p226_0 {xs : Option (List Int32)} {d : Nat} {w : List sx_C} : sx_RU xs d 226 0 (lv_args 0 [.int 0]) [] w (some (.float 106)) w := sx_RU.step rfl rfl (sx_RU.step rfl rfl (sx_RU.step rfl rfl (sx_RU.ret rfl rfl)))
theorem p226_1 {xs : Option (List Int32)} {d : Nat} {w : List sx_C} : sx_RU xs d 226 0 (lv_args 0 [.int 1]) [] w (some (.float 110)) w := sx_RU.step rfl rfl (sx_RU.step rfl rfl (sx_RU.step rfl rfl (sx_RU.ret rfl rfl)))
theorem p226_2 {xs : Option (List Int32)} {d : Nat} {w : List sx_C} : sx_RU xs d 226 0 (lv_args 0 [.int 2]) [] w (some (.float 114)) w := sx_RU.step rfl rfl (sx_RU.step rfl rfl (sx_RU.step rfl rfl (sx_RU.ret rfl rfl)))
theorem p226_3 {xs : Option (List Int32)} {d : Nat} {w : List sx_C} : sx_RU xs d 226 0 (lv_args 0 [.int 3]) [] w (some (.float 107)) w := sx_RU.step rfl rfl (sx_RU.step rfl rfl (sx_RU.step rfl rfl (sx_RU.ret rfl rfl)))
theorem p226_4 {xs : Option (List Int32)} {d : Nat} {w : List sx_C} : sx_RU xs d 226 0 (lv_args 0 [.int 4]) [] w (some (.float 105)) w := sx_RU.step rfl rfl (sx_RU.step rfl rfl (sx_RU.step rfl rfl (sx_RU.ret rfl rfl)))
theorem p226_5 {xs : Option (List Int32)} {d : Nat} {w : List sx_C} : sx_RU xs d 226 0 (lv_args 0 [.int 5]) [] w (some (.float 103)) w := sx_RU.step rfl rfl (sx_RU.step rfl rfl (sx_RU.step rfl rfl (sx_RU.ret rfl rfl)))
set_option maxRecDepth 20000 in
set_option maxHeartbeats 4000000 in
theorem s227 {xs : Option (List Int32)} {d : Nat} {w : List sx_C} (hI : WI w) {k n : Nat} (hk : k ≤ 5) (hn : n ≤ 9) (en : (ia w 112).getD 1 0 = nI n) : sx_RP xs (d + 6) 227 0 (lv_args 0 [.ref 111, .int (nI k)]) [] w (fun r w2 => (r = some (.int 0) ∨ r = some (.int 1)) ∧ WI w2 ∧ EI w w2) := by
  have hE : EI w w := EI.rf
  refine sx_RP.step (pc2 := 1) (ls2 := [(0, .ref 111), (1, .int (nI k))]) (st2 := [.ref 111]) (w3 := w) rfl rfl ?_
  refine sx_RP.step (pc2 := 4) (ls2 := [(0, .ref 111), (1, .int (nI k))]) (st2 := [.float 115, .ref 111]) (w3 := w) rfl rfl ?_
  refine sx_RP.callp (as2 := [.ref 111, .float 115]) (rest2 := []) rfl rfl (sx_inv_v2 (mi := 227) (k := 243) (st := [.float 115, .ref 111]) (w := w) rfl rfl hI.1.o111 rfl rfl rfl) rfl rfl rfl (s213 (k := 115) hI (by decide) rfl (by decide)) (show _ = 7 from rfl) ?_
  rintro r4 w1 ⟨(rfl | rfl), hI2, hE4⟩
  · have hE3 := hE.tr (hE4.ei)
    have ex5 := (congrArg (fun l => List.getD l 1 0) (ia_of (hE4.1 112 (by decide)))).trans en
    show sx_RP _ _ _ _ _ [.int 0] _ _
    refine sx_RP.step (pc2 := 14) (ls2 := [(0, .ref 111), (1, .int (nI k))]) (st2 := []) (w3 := w1) rfl rfl ?_
    refine sx_RP.step (pc2 := 15) (ls2 := [(0, .ref 111), (1, .int (nI k))]) (st2 := [.int 1]) (w3 := w1) rfl rfl ?_
    refine sx_RP.step (pc2 := 16) (ls2 := [(2, .int 1), (0, .ref 111), (1, .int (nI k))]) (st2 := []) (w3 := w1) rfl rfl ?_
    refine sx_RP.step (pc2 := 17) (ls2 := [(2, .int 1), (0, .ref 111), (1, .int (nI k))]) (st2 := [.int 1]) (w3 := w1) rfl rfl ?_
    refine sx_RP.step (pc2 := 18) (ls2 := [(2, .int 1), (0, .ref 111), (1, .int (nI k))]) (st2 := [.int 1, .int 1]) (w3 := w1) rfl rfl ?_
    refine sx_RP.step (pc2 := 21) (ls2 := [(2, .int 1), (0, .ref 111), (1, .int (nI k))]) (st2 := []) (w3 := w1) rfl rfl ?_
    refine sx_RP.step (pc2 := 22) (ls2 := [(2, .int 1), (0, .ref 111), (1, .int (nI k))]) (st2 := [.ref 111]) (w3 := w1) rfl rfl ?_
    refine sx_RP.step (pc2 := 25) (ls2 := [(2, .int 1), (0, .ref 111), (1, .int (nI k))]) (st2 := [.float 109, .ref 111]) (w3 := w1) rfl rfl ?_
    refine sx_RP.callp (as2 := [.ref 111, .float 109]) (rest2 := []) rfl rfl (sx_inv_v2 (mi := 227) (k := 282) (st := [.float 109, .ref 111]) (w := w1) rfl rfl hI2.1.o111 rfl rfl rfl) rfl rfl rfl (s228 (k := 109) hI2 (by decide) rfl (by decide)) (show _ = 28 from rfl) ?_
    rintro r4 w6 ⟨(rfl | rfl), hI7, hE9⟩
    · have hE8 := hE3.tr (hE9.ei)
      have ex10 := (congrArg (fun l => List.getD l 1 0) (ia_of (hE9.1 112 (by decide)))).trans ex5
      show sx_RP _ _ _ _ _ [.int 0] _ _
      refine sx_RP.step (pc2 := 31) (ls2 := [(2, .int 1), (0, .ref 111), (1, .int (nI k))]) (st2 := []) (w3 := w6) rfl rfl ?_
      refine sx_RP.step (pc2 := 32) (ls2 := [(2, .int 1), (0, .ref 111), (1, .int (nI k))]) (st2 := [.int 0]) (w3 := w6) rfl rfl ?_
      refine sx_RP.ret (r := (some (.int 0))) rfl rfl ?_
      exact ⟨Or.inl rfl, hI7, hE8⟩
    · have hE8 := hE3.tr (hE9.ei)
      have ex11 := (congrArg (fun l => List.getD l 1 0) (ia_of (hE9.1 112 (by decide)))).trans ex5
      show sx_RP _ _ _ _ _ [.int 1] _ _
      refine sx_RP.step (pc2 := 33) (ls2 := [(2, .int 1), (0, .ref 111), (1, .int (nI k))]) (st2 := []) (w3 := w6) rfl rfl ?_
      refine sx_RP.step (pc2 := 34) (ls2 := [(2, .int 1), (0, .ref 111), (1, .int (nI k))]) (st2 := [.ref 111]) (w3 := w6) rfl rfl ?_
      refine sx_RP.step (pc2 := 37) (ls2 := [(2, .int 1), (0, .ref 111), (1, .int (nI k))]) (st2 := [.float 100, .ref 111]) (w3 := w6) rfl rfl ?_
      refine sx_RP.callp (as2 := [.ref 111, .float 100]) (rest2 := []) rfl rfl (sx_inv_v2 (mi := 227) (k := 282) (st := [.float 100, .ref 111]) (w := w6) rfl rfl hI7.1.o111 rfl rfl rfl) rfl rfl rfl (s228 (k := 100) hI7 (by decide) rfl (by decide)) (show _ = 40 from rfl) ?_
      rintro r4 w12 ⟨(rfl | rfl), hI13, hE15⟩
      · have hE14 := hE8.tr (hE15.ei)
        have ex16 := (congrArg (fun l => List.getD l 1 0) (ia_of (hE15.1 112 (by decide)))).trans ex11
        show sx_RP _ _ _ _ _ [.int 0] _ _
        refine sx_RP.step (pc2 := 53) (ls2 := [(2, .int 1), (0, .ref 111), (1, .int (nI k))]) (st2 := []) (w3 := w12) rfl rfl ?_
        refine sx_RP.step (pc2 := 54) (ls2 := [(2, .int 1), (0, .ref 111), (1, .int (nI k))]) (st2 := [.int 0]) (w3 := w12) rfl rfl ?_
        refine sx_RP.ret (r := (some (.int 0))) rfl rfl ?_
        exact ⟨Or.inl rfl, hI13, hE14⟩
      · have hE14 := hE8.tr (hE15.ei)
        have ex17 := (congrArg (fun l => List.getD l 1 0) (ia_of (hE15.1 112 (by decide)))).trans ex11
        show sx_RP _ _ _ _ _ [.int 1] _ _
        refine sx_RP.step (pc2 := 43) (ls2 := [(2, .int 1), (0, .ref 111), (1, .int (nI k))]) (st2 := []) (w3 := w12) rfl rfl ?_
        refine sx_RP.step (pc2 := 44) (ls2 := [(2, .int 1), (0, .ref 111), (1, .int (nI k))]) (st2 := [.ref 111]) (w3 := w12) rfl rfl ?_
        refine sx_RP.step (pc2 := 45) (ls2 := [(2, .int 1), (0, .ref 111), (1, .int (nI k))]) (st2 := [.int 0, .ref 111]) (w3 := w12) rfl rfl ?_
        refine sx_RP.step (pc2 := 47) (ls2 := [(2, .int 1), (0, .ref 111), (1, .int (nI k))]) (st2 := [.int 47, .int 0, .ref 111]) (w3 := w12) rfl rfl ?_
        refine sx_RP.callp (as2 := [.ref 111, .int 0, .int 47]) (rest2 := []) rfl rfl (sx_inv_v2 (mi := 227) (k := 267) (st := [.int 47, .int 0, .ref 111]) (w := w12) rfl rfl hI13.1.o111 rfl rfl rfl) rfl rfl rfl (s220 (m := 0) (n := 47) hI13 (by omega) (by omega)) (show _ = 50 from rfl) ?_
        rintro r4 w22 ⟨(rfl | ⟨x18, ⟨hx19, hx20, ex21⟩, rfl⟩), hI23, hE25⟩
        · have hE24 := hE14.tr (hE25.ei)
          have ex26 := (congrArg (fun l => List.getD l 1 0) (ia_of (hE25.1 112 (by decide)))).trans ex17
          show sx_RP _ _ _ _ _ [.int 0] _ _
          refine sx_RP.step (pc2 := 53) (ls2 := [(2, .int 1), (0, .ref 111), (1, .int (nI k))]) (st2 := []) (w3 := w22) rfl rfl ?_
          refine sx_RP.step (pc2 := 54) (ls2 := [(2, .int 1), (0, .ref 111), (1, .int (nI k))]) (st2 := [.int 0]) (w3 := w22) rfl rfl ?_
          refine sx_RP.ret (r := (some (.int 0))) rfl rfl ?_
          exact ⟨Or.inl rfl, hI23, hE24⟩
        · have hE24 := hE14.tr (hE25.ei)
          have ex27 := (congrArg (fun l => List.getD l 1 0) (ia_of (hE25.1 112 (by decide)))).trans ex17
          show sx_RP _ _ _ _ _ [.int 1] _ _
          refine sx_RP.step (pc2 := 55) (ls2 := [(2, .int 1), (0, .ref 111), (1, .int (nI k))]) (st2 := []) (w3 := w22) rfl rfl ?_
          refine sx_RP.step (pc2 := 56) (ls2 := [(2, .int 1), (0, .ref 111), (1, .int (nI k))]) (st2 := [.ref 111]) (w3 := w22) rfl rfl ?_
          refine sx_RP.gf (v := .int (fi w22 111 14)) rfl rfl hI23.1.o111 rfl rfl (show _ = 59 from rfl) ?_
          rw [ex21]
          refine sx_RP.step (pc2 := 60) (ls2 := [(3, .int (nI x18)), (2, .int 1), (0, .ref 111), (1, .int (nI k))]) (st2 := []) (w3 := w22) rfl rfl ?_
          refine sx_RP.step (pc2 := 61) (ls2 := [(3, .int (nI x18)), (2, .int 1), (0, .ref 111), (1, .int (nI k))]) (st2 := [.ref 111]) (w3 := w22) rfl rfl ?_
          refine sx_RP.step (pc2 := 64) (ls2 := [(3, .int (nI x18)), (2, .int 1), (0, .ref 111), (1, .int (nI k))]) (st2 := [.float 119, .ref 111]) (w3 := w22) rfl rfl ?_
          refine sx_RP.callp (as2 := [.ref 111, .float 119]) (rest2 := []) rfl rfl (sx_inv_v2 (mi := 227) (k := 282) (st := [.float 119, .ref 111]) (w := w22) rfl rfl hI23.1.o111 rfl rfl rfl) rfl rfl rfl (s228 (k := 119) hI23 (by decide) rfl (by decide)) (show _ = 67 from rfl) ?_
          rintro r4 w28 ⟨(rfl | rfl), hI29, hE31⟩
          · have hE30 := hE24.tr (hE31.ei)
            have ex32 := (congrArg (fun l => List.getD l 1 0) (ia_of (hE31.1 112 (by decide)))).trans ex27
            show sx_RP _ _ _ _ _ [.int 0] _ _
            refine sx_RP.step (pc2 := 79) (ls2 := [(3, .int (nI x18)), (2, .int 1), (0, .ref 111), (1, .int (nI k))]) (st2 := []) (w3 := w28) rfl rfl ?_
            refine sx_RP.step (pc2 := 80) (ls2 := [(3, .int (nI x18)), (2, .int 1), (0, .ref 111), (1, .int (nI k))]) (st2 := [.int 0]) (w3 := w28) rfl rfl ?_
            refine sx_RP.ret (r := (some (.int 0))) rfl rfl ?_
            exact ⟨Or.inl rfl, hI29, hE30⟩
          · have hE30 := hE24.tr (hE31.ei)
            have ex33 := (congrArg (fun l => List.getD l 1 0) (ia_of (hE31.1 112 (by decide)))).trans ex27
            show sx_RP _ _ _ _ _ [.int 1] _ _
            refine sx_RP.step (pc2 := 70) (ls2 := [(3, .int (nI x18)), (2, .int 1), (0, .ref 111), (1, .int (nI k))]) (st2 := []) (w3 := w28) rfl rfl ?_
            refine sx_RP.step (pc2 := 71) (ls2 := [(3, .int (nI x18)), (2, .int 1), (0, .ref 111), (1, .int (nI k))]) (st2 := [.ref 111]) (w3 := w28) rfl rfl ?_
            refine sx_RP.step (pc2 := 72) (ls2 := [(3, .int (nI x18)), (2, .int 1), (0, .ref 111), (1, .int (nI k))]) (st2 := [.int 0, .ref 111]) (w3 := w28) rfl rfl ?_
            refine sx_RP.step (pc2 := 73) (ls2 := [(3, .int (nI x18)), (2, .int 1), (0, .ref 111), (1, .int (nI k))]) (st2 := [.int 3, .int 0, .ref 111]) (w3 := w28) rfl rfl ?_
            refine sx_RP.callp (as2 := [.ref 111, .int 0, .int 3]) (rest2 := []) rfl rfl (sx_inv_v2 (mi := 227) (k := 267) (st := [.int 3, .int 0, .ref 111]) (w := w28) rfl rfl hI29.1.o111 rfl rfl rfl) rfl rfl rfl (s220 (m := 0) (n := 3) hI29 (by omega) (by omega)) (show _ = 76 from rfl) ?_
            rintro r4 w38 ⟨(rfl | ⟨x34, ⟨hx35, hx36, ex37⟩, rfl⟩), hI39, hE41⟩
            · have hE40 := hE30.tr (hE41.ei)
              have ex42 := (congrArg (fun l => List.getD l 1 0) (ia_of (hE41.1 112 (by decide)))).trans ex33
              show sx_RP _ _ _ _ _ [.int 0] _ _
              refine sx_RP.step (pc2 := 79) (ls2 := [(3, .int (nI x18)), (2, .int 1), (0, .ref 111), (1, .int (nI k))]) (st2 := []) (w3 := w38) rfl rfl ?_
              refine sx_RP.step (pc2 := 80) (ls2 := [(3, .int (nI x18)), (2, .int 1), (0, .ref 111), (1, .int (nI k))]) (st2 := [.int 0]) (w3 := w38) rfl rfl ?_
              refine sx_RP.ret (r := (some (.int 0))) rfl rfl ?_
              exact ⟨Or.inl rfl, hI39, hE40⟩
            · have hE40 := hE30.tr (hE41.ei)
              have ex43 := (congrArg (fun l => List.getD l 1 0) (ia_of (hE41.1 112 (by decide)))).trans ex33
              show sx_RP _ _ _ _ _ [.int 1] _ _
              refine sx_RP.step (pc2 := 81) (ls2 := [(3, .int (nI x18)), (2, .int 1), (0, .ref 111), (1, .int (nI k))]) (st2 := []) (w3 := w38) rfl rfl ?_
              refine sx_RP.step (pc2 := 82) (ls2 := [(3, .int (nI x18)), (2, .int 1), (0, .ref 111), (1, .int (nI k))]) (st2 := [.ref 111]) (w3 := w38) rfl rfl ?_
              refine sx_RP.step (pc2 := 83) (ls2 := [(3, .int (nI x18)), (2, .int 1), (0, .ref 111), (1, .int (nI k))]) (st2 := [.int (nI k), .ref 111]) (w3 := w38) rfl rfl ?_
              refine sx_RP.step (pc2 := 84) (ls2 := [(3, .int (nI x18)), (2, .int 1), (0, .ref 111), (1, .int (nI k))]) (st2 := [.int 1, .int (nI k), .ref 111]) (w3 := w38) rfl rfl ?_
              refine sx_RP.step (pc2 := 85) (ls2 := [(3, .int (nI x18)), (2, .int 1), (0, .ref 111), (1, .int (nI k))]) (st2 := [.int (nI x18), .int 1, .int (nI k), .ref 111]) (w3 := w38) rfl rfl ?_
              refine sx_RP.step (pc2 := 86) (ls2 := [(3, .int (nI x18)), (2, .int 1), (0, .ref 111), (1, .int (nI k))]) (st2 := [.ref 111, .int (nI x18), .int 1, .int (nI k), .ref 111]) (w3 := w38) rfl rfl ?_
              refine sx_RP.gf (v := .int (fi w38 111 14)) rfl rfl hI39.1.o111 rfl rfl (show _ = 89 from rfl) ?_
              rw [ex37]
              refine sx_RP.callp (as2 := [.ref 111, .int (nI k), .int 1, .int (nI x18), .int (nI x34)]) (rest2 := []) rfl rfl (sx_inv_v2 (mi := 227) (k := 120) (st := [.int (nI x34), .int (nI x18), .int 1, .int (nI k), .ref 111]) (w := w38) rfl rfl hI39.1.o111 rfl rfl rfl) rfl rfl rfl (s153i hI39 (by omega) ex43 (show k ≤ 5 by omega) (show 1 ≤ 1 by omega) (show x18 < 48 by omega) (show x34 ≤ 3 by omega)) (show _ = 92 from rfl) ?_
              rintro r4 w44 ⟨rfl, hI45, hE47⟩
              have hE46 := hE40.tr (hE47)
              show sx_RP _ _ _ _ _ [] _ _
              refine sx_RP.step (pc2 := 93) (ls2 := [(3, .int (nI x18)), (2, .int 1), (0, .ref 111), (1, .int (nI k))]) (st2 := [.int 1]) (w3 := w44) rfl rfl ?_
              refine sx_RP.ret (r := (some (.int 1))) rfl rfl ?_
              exact ⟨Or.inr rfl, hI45, hE46⟩
  · have hE3 := hE.tr (hE4.ei)
    have ex48 := (congrArg (fun l => List.getD l 1 0) (ia_of (hE4.1 112 (by decide)))).trans en
    show sx_RP _ _ _ _ _ [.int 1] _ _
    refine sx_RP.step (pc2 := 10) (ls2 := [(0, .ref 111), (1, .int (nI k))]) (st2 := []) (w3 := w1) rfl rfl ?_
    refine sx_RP.step (pc2 := 11) (ls2 := [(0, .ref 111), (1, .int (nI k))]) (st2 := [.int 0]) (w3 := w1) rfl rfl ?_
    refine sx_RP.step (pc2 := 15) (ls2 := [(0, .ref 111), (1, .int (nI k))]) (st2 := [.int 0]) (w3 := w1) rfl rfl ?_
    refine sx_RP.step (pc2 := 16) (ls2 := [(2, .int 0), (0, .ref 111), (1, .int (nI k))]) (st2 := []) (w3 := w1) rfl rfl ?_
    refine sx_RP.step (pc2 := 17) (ls2 := [(2, .int 0), (0, .ref 111), (1, .int (nI k))]) (st2 := [.int 0]) (w3 := w1) rfl rfl ?_
    refine sx_RP.step (pc2 := 18) (ls2 := [(2, .int 0), (0, .ref 111), (1, .int (nI k))]) (st2 := [.int 1, .int 0]) (w3 := w1) rfl rfl ?_
    refine sx_RP.step (pc2 := 33) (ls2 := [(2, .int 0), (0, .ref 111), (1, .int (nI k))]) (st2 := []) (w3 := w1) rfl rfl ?_
    refine sx_RP.step (pc2 := 34) (ls2 := [(2, .int 0), (0, .ref 111), (1, .int (nI k))]) (st2 := [.ref 111]) (w3 := w1) rfl rfl ?_
    refine sx_RP.step (pc2 := 37) (ls2 := [(2, .int 0), (0, .ref 111), (1, .int (nI k))]) (st2 := [.float 100, .ref 111]) (w3 := w1) rfl rfl ?_
    refine sx_RP.callp (as2 := [.ref 111, .float 100]) (rest2 := []) rfl rfl (sx_inv_v2 (mi := 227) (k := 282) (st := [.float 100, .ref 111]) (w := w1) rfl rfl hI2.1.o111 rfl rfl rfl) rfl rfl rfl (s228 (k := 100) hI2 (by decide) rfl (by decide)) (show _ = 40 from rfl) ?_
    rintro r4 w49 ⟨(rfl | rfl), hI50, hE52⟩
    · have hE51 := hE3.tr (hE52.ei)
      have ex53 := (congrArg (fun l => List.getD l 1 0) (ia_of (hE52.1 112 (by decide)))).trans ex48
      show sx_RP _ _ _ _ _ [.int 0] _ _
      refine sx_RP.step (pc2 := 53) (ls2 := [(2, .int 0), (0, .ref 111), (1, .int (nI k))]) (st2 := []) (w3 := w49) rfl rfl ?_
      refine sx_RP.step (pc2 := 54) (ls2 := [(2, .int 0), (0, .ref 111), (1, .int (nI k))]) (st2 := [.int 0]) (w3 := w49) rfl rfl ?_
      refine sx_RP.ret (r := (some (.int 0))) rfl rfl ?_
      exact ⟨Or.inl rfl, hI50, hE51⟩
    · have hE51 := hE3.tr (hE52.ei)
      have ex54 := (congrArg (fun l => List.getD l 1 0) (ia_of (hE52.1 112 (by decide)))).trans ex48
      show sx_RP _ _ _ _ _ [.int 1] _ _
      refine sx_RP.step (pc2 := 43) (ls2 := [(2, .int 0), (0, .ref 111), (1, .int (nI k))]) (st2 := []) (w3 := w49) rfl rfl ?_
      refine sx_RP.step (pc2 := 44) (ls2 := [(2, .int 0), (0, .ref 111), (1, .int (nI k))]) (st2 := [.ref 111]) (w3 := w49) rfl rfl ?_
      refine sx_RP.step (pc2 := 45) (ls2 := [(2, .int 0), (0, .ref 111), (1, .int (nI k))]) (st2 := [.int 0, .ref 111]) (w3 := w49) rfl rfl ?_
      refine sx_RP.step (pc2 := 47) (ls2 := [(2, .int 0), (0, .ref 111), (1, .int (nI k))]) (st2 := [.int 47, .int 0, .ref 111]) (w3 := w49) rfl rfl ?_
      refine sx_RP.callp (as2 := [.ref 111, .int 0, .int 47]) (rest2 := []) rfl rfl (sx_inv_v2 (mi := 227) (k := 267) (st := [.int 47, .int 0, .ref 111]) (w := w49) rfl rfl hI50.1.o111 rfl rfl rfl) rfl rfl rfl (s220 (m := 0) (n := 47) hI50 (by omega) (by omega)) (show _ = 50 from rfl) ?_
      rintro r4 w59 ⟨(rfl | ⟨x55, ⟨hx56, hx57, ex58⟩, rfl⟩), hI60, hE62⟩
      · have hE61 := hE51.tr (hE62.ei)
        have ex63 := (congrArg (fun l => List.getD l 1 0) (ia_of (hE62.1 112 (by decide)))).trans ex54
        show sx_RP _ _ _ _ _ [.int 0] _ _
        refine sx_RP.step (pc2 := 53) (ls2 := [(2, .int 0), (0, .ref 111), (1, .int (nI k))]) (st2 := []) (w3 := w59) rfl rfl ?_
        refine sx_RP.step (pc2 := 54) (ls2 := [(2, .int 0), (0, .ref 111), (1, .int (nI k))]) (st2 := [.int 0]) (w3 := w59) rfl rfl ?_
        refine sx_RP.ret (r := (some (.int 0))) rfl rfl ?_
        exact ⟨Or.inl rfl, hI60, hE61⟩
      · have hE61 := hE51.tr (hE62.ei)
        have ex64 := (congrArg (fun l => List.getD l 1 0) (ia_of (hE62.1 112 (by decide)))).trans ex54
        show sx_RP _ _ _ _ _ [.int 1] _ _
        refine sx_RP.step (pc2 := 55) (ls2 := [(2, .int 0), (0, .ref 111), (1, .int (nI k))]) (st2 := []) (w3 := w59) rfl rfl ?_
        refine sx_RP.step (pc2 := 56) (ls2 := [(2, .int 0), (0, .ref 111), (1, .int (nI k))]) (st2 := [.ref 111]) (w3 := w59) rfl rfl ?_
        refine sx_RP.gf (v := .int (fi w59 111 14)) rfl rfl hI60.1.o111 rfl rfl (show _ = 59 from rfl) ?_
        rw [ex58]
        refine sx_RP.step (pc2 := 60) (ls2 := [(3, .int (nI x55)), (2, .int 0), (0, .ref 111), (1, .int (nI k))]) (st2 := []) (w3 := w59) rfl rfl ?_
        refine sx_RP.step (pc2 := 61) (ls2 := [(3, .int (nI x55)), (2, .int 0), (0, .ref 111), (1, .int (nI k))]) (st2 := [.ref 111]) (w3 := w59) rfl rfl ?_
        refine sx_RP.step (pc2 := 64) (ls2 := [(3, .int (nI x55)), (2, .int 0), (0, .ref 111), (1, .int (nI k))]) (st2 := [.float 119, .ref 111]) (w3 := w59) rfl rfl ?_
        refine sx_RP.callp (as2 := [.ref 111, .float 119]) (rest2 := []) rfl rfl (sx_inv_v2 (mi := 227) (k := 282) (st := [.float 119, .ref 111]) (w := w59) rfl rfl hI60.1.o111 rfl rfl rfl) rfl rfl rfl (s228 (k := 119) hI60 (by decide) rfl (by decide)) (show _ = 67 from rfl) ?_
        rintro r4 w65 ⟨(rfl | rfl), hI66, hE68⟩
        · have hE67 := hE61.tr (hE68.ei)
          have ex69 := (congrArg (fun l => List.getD l 1 0) (ia_of (hE68.1 112 (by decide)))).trans ex64
          show sx_RP _ _ _ _ _ [.int 0] _ _
          refine sx_RP.step (pc2 := 79) (ls2 := [(3, .int (nI x55)), (2, .int 0), (0, .ref 111), (1, .int (nI k))]) (st2 := []) (w3 := w65) rfl rfl ?_
          refine sx_RP.step (pc2 := 80) (ls2 := [(3, .int (nI x55)), (2, .int 0), (0, .ref 111), (1, .int (nI k))]) (st2 := [.int 0]) (w3 := w65) rfl rfl ?_
          refine sx_RP.ret (r := (some (.int 0))) rfl rfl ?_
          exact ⟨Or.inl rfl, hI66, hE67⟩
        · have hE67 := hE61.tr (hE68.ei)
          have ex70 := (congrArg (fun l => List.getD l 1 0) (ia_of (hE68.1 112 (by decide)))).trans ex64
          show sx_RP _ _ _ _ _ [.int 1] _ _
          refine sx_RP.step (pc2 := 70) (ls2 := [(3, .int (nI x55)), (2, .int 0), (0, .ref 111), (1, .int (nI k))]) (st2 := []) (w3 := w65) rfl rfl ?_
          refine sx_RP.step (pc2 := 71) (ls2 := [(3, .int (nI x55)), (2, .int 0), (0, .ref 111), (1, .int (nI k))]) (st2 := [.ref 111]) (w3 := w65) rfl rfl ?_
          refine sx_RP.step (pc2 := 72) (ls2 := [(3, .int (nI x55)), (2, .int 0), (0, .ref 111), (1, .int (nI k))]) (st2 := [.int 0, .ref 111]) (w3 := w65) rfl rfl ?_
          refine sx_RP.step (pc2 := 73) (ls2 := [(3, .int (nI x55)), (2, .int 0), (0, .ref 111), (1, .int (nI k))]) (st2 := [.int 3, .int 0, .ref 111]) (w3 := w65) rfl rfl ?_
          refine sx_RP.callp (as2 := [.ref 111, .int 0, .int 3]) (rest2 := []) rfl rfl (sx_inv_v2 (mi := 227) (k := 267) (st := [.int 3, .int 0, .ref 111]) (w := w65) rfl rfl hI66.1.o111 rfl rfl rfl) rfl rfl rfl (s220 (m := 0) (n := 3) hI66 (by omega) (by omega)) (show _ = 76 from rfl) ?_
          rintro r4 w75 ⟨(rfl | ⟨x71, ⟨hx72, hx73, ex74⟩, rfl⟩), hI76, hE78⟩
          · have hE77 := hE67.tr (hE78.ei)
            have ex79 := (congrArg (fun l => List.getD l 1 0) (ia_of (hE78.1 112 (by decide)))).trans ex70
            show sx_RP _ _ _ _ _ [.int 0] _ _
            refine sx_RP.step (pc2 := 79) (ls2 := [(3, .int (nI x55)), (2, .int 0), (0, .ref 111), (1, .int (nI k))]) (st2 := []) (w3 := w75) rfl rfl ?_
            refine sx_RP.step (pc2 := 80) (ls2 := [(3, .int (nI x55)), (2, .int 0), (0, .ref 111), (1, .int (nI k))]) (st2 := [.int 0]) (w3 := w75) rfl rfl ?_
            refine sx_RP.ret (r := (some (.int 0))) rfl rfl ?_
            exact ⟨Or.inl rfl, hI76, hE77⟩
          · have hE77 := hE67.tr (hE78.ei)
            have ex80 := (congrArg (fun l => List.getD l 1 0) (ia_of (hE78.1 112 (by decide)))).trans ex70
            show sx_RP _ _ _ _ _ [.int 1] _ _
            refine sx_RP.step (pc2 := 81) (ls2 := [(3, .int (nI x55)), (2, .int 0), (0, .ref 111), (1, .int (nI k))]) (st2 := []) (w3 := w75) rfl rfl ?_
            refine sx_RP.step (pc2 := 82) (ls2 := [(3, .int (nI x55)), (2, .int 0), (0, .ref 111), (1, .int (nI k))]) (st2 := [.ref 111]) (w3 := w75) rfl rfl ?_
            refine sx_RP.step (pc2 := 83) (ls2 := [(3, .int (nI x55)), (2, .int 0), (0, .ref 111), (1, .int (nI k))]) (st2 := [.int (nI k), .ref 111]) (w3 := w75) rfl rfl ?_
            refine sx_RP.step (pc2 := 84) (ls2 := [(3, .int (nI x55)), (2, .int 0), (0, .ref 111), (1, .int (nI k))]) (st2 := [.int 0, .int (nI k), .ref 111]) (w3 := w75) rfl rfl ?_
            refine sx_RP.step (pc2 := 85) (ls2 := [(3, .int (nI x55)), (2, .int 0), (0, .ref 111), (1, .int (nI k))]) (st2 := [.int (nI x55), .int 0, .int (nI k), .ref 111]) (w3 := w75) rfl rfl ?_
            refine sx_RP.step (pc2 := 86) (ls2 := [(3, .int (nI x55)), (2, .int 0), (0, .ref 111), (1, .int (nI k))]) (st2 := [.ref 111, .int (nI x55), .int 0, .int (nI k), .ref 111]) (w3 := w75) rfl rfl ?_
            refine sx_RP.gf (v := .int (fi w75 111 14)) rfl rfl hI76.1.o111 rfl rfl (show _ = 89 from rfl) ?_
            rw [ex74]
            refine sx_RP.callp (as2 := [.ref 111, .int (nI k), .int 0, .int (nI x55), .int (nI x71)]) (rest2 := []) rfl rfl (sx_inv_v2 (mi := 227) (k := 120) (st := [.int (nI x71), .int (nI x55), .int 0, .int (nI k), .ref 111]) (w := w75) rfl rfl hI76.1.o111 rfl rfl rfl) rfl rfl rfl (s153i hI76 (by omega) ex80 (show k ≤ 5 by omega) (show 0 ≤ 1 by omega) (show x55 < 48 by omega) (show x71 ≤ 3 by omega)) (show _ = 92 from rfl) ?_
            rintro r4 w81 ⟨rfl, hI82, hE84⟩
            have hE83 := hE77.tr (hE84)
            show sx_RP _ _ _ _ _ [] _ _
            refine sx_RP.step (pc2 := 93) (ls2 := [(3, .int (nI x55)), (2, .int 0), (0, .ref 111), (1, .int (nI k))]) (st2 := [.int 1]) (w3 := w81) rfl rfl ?_
            refine sx_RP.ret (r := (some (.int 1))) rfl rfl ?_
            exact ⟨Or.inr rfl, hI82, hE83⟩
set_option maxRecDepth 20000 in
set_option maxHeartbeats 4000000 in
theorem s229 {xs : Option (List Int32)} {d : Nat} {w : List sx_C} (hI : WI w) : sx_RP xs (d + 5) 229 0 (lv_args 0 [.ref 111]) [] w (fun r w2 => (r = some (.int 0) ∨ r = some (.int 1)) ∧ WI w2 ∧ EI w w2) := by
  have hE : EI w w := EI.rf
  refine sx_RP.step (pc2 := 1) (ls2 := [(0, .ref 111)]) (st2 := [.ref 111]) (w3 := w) rfl rfl ?_
  refine sx_RP.step (pc2 := 2) (ls2 := [(0, .ref 111)]) (st2 := [.int 0, .ref 111]) (w3 := w) rfl rfl ?_
  refine sx_RP.step (pc2 := 4) (ls2 := [(0, .ref 111)]) (st2 := [.int 999999, .int 0, .ref 111]) (w3 := w) rfl rfl ?_
  refine sx_RP.callp (as2 := [.ref 111, .int 0, .int 999999]) (rest2 := []) rfl rfl (sx_inv_v2 (mi := 229) (k := 267) (st := [.int 999999, .int 0, .ref 111]) (w := w) rfl rfl hI.1.o111 rfl rfl rfl) rfl rfl rfl (s220 (m := 0) (n := 999999) hI (by omega) (by omega)) (show _ = 7 from rfl) ?_
  rintro r4 w5 ⟨(rfl | ⟨x1, ⟨hx2, hx3, ex4⟩, rfl⟩), hI6, hE8⟩
  · have hE7 := hE.tr (hE8.ei)
    show sx_RP _ _ _ _ _ [.int 0] _ _
    refine sx_RP.step (pc2 := 10) (ls2 := [(0, .ref 111)]) (st2 := []) (w3 := w5) rfl rfl ?_
    refine sx_RP.step (pc2 := 11) (ls2 := [(0, .ref 111)]) (st2 := [.int 0]) (w3 := w5) rfl rfl ?_
    refine sx_RP.ret (r := (some (.int 0))) rfl rfl ?_
    exact ⟨Or.inl rfl, hI6, hE7⟩
  · have hE7 := hE.tr (hE8.ei)
    show sx_RP _ _ _ _ _ [.int 1] _ _
    refine sx_RP.step (pc2 := 12) (ls2 := [(0, .ref 111)]) (st2 := []) (w3 := w5) rfl rfl ?_
    refine sx_RP.step (pc2 := 13) (ls2 := [(0, .ref 111)]) (st2 := [.ref 111]) (w3 := w5) rfl rfl ?_
    refine sx_RP.gf (v := .ref 112) rfl rfl hI6.1.o111 rfl rfl (show _ = 16 from rfl) ?_
    refine sx_RP.step (pc2 := 17) (ls2 := [(0, .ref 111)]) (st2 := [.int 4, .ref 112]) (w3 := w5) rfl rfl ?_
    refine sx_RP.step (pc2 := 18) (ls2 := [(0, .ref 111)]) (st2 := [.ref 111, .int 4, .ref 112]) (w3 := w5) rfl rfl ?_
    refine sx_RP.gf (v := .int (fi w5 111 14)) rfl rfl hI6.1.o111 rfl rfl (show _ = 21 from rfl) ?_
    rw [ex4]
    refine sx_RP.mSI (k := 4) hI6 hE7 (by decide) rfl rfl (by omega) (eOK_n (by decide)) (show _ = 22 from rfl) (fun w9 hI10 hE11 hk12 => ?_)
    refine sx_RP.step (pc2 := 23) (ls2 := [(0, .ref 111)]) (st2 := [.ref 111]) (w3 := w9) rfl rfl ?_
    refine sx_RP.step (pc2 := 26) (ls2 := [(0, .ref 111)]) (st2 := [.float 108, .ref 111]) (w3 := w9) rfl rfl ?_
    refine sx_RP.callp (as2 := [.ref 111, .float 108]) (rest2 := []) rfl rfl (sx_inv_v2 (mi := 229) (k := 243) (st := [.float 108, .ref 111]) (w := w9) rfl rfl hI10.1.o111 rfl rfl rfl) rfl rfl rfl (s213 (k := 108) hI10 (by decide) rfl (by decide)) (show _ = 29 from rfl) ?_
    rintro r4 w13 ⟨(rfl | rfl), hI14, hE16⟩
    · have hE15 := hE11.tr (hE16.ei)
      show sx_RP _ _ _ _ _ [.int 0] _ _
      refine sx_RP.step (pc2 := 55) (ls2 := [(0, .ref 111)]) (st2 := []) (w3 := w13) rfl rfl ?_
      refine sx_RP.step (pc2 := 56) (ls2 := [(0, .ref 111)]) (st2 := [.ref 111]) (w3 := w13) rfl rfl ?_
      refine sx_RP.step (pc2 := 59) (ls2 := [(0, .ref 111)]) (st2 := [.float 111, .ref 111]) (w3 := w13) rfl rfl ?_
      refine sx_RP.callp (as2 := [.ref 111, .float 111]) (rest2 := []) rfl rfl (sx_inv_v2 (mi := 229) (k := 243) (st := [.float 111, .ref 111]) (w := w13) rfl rfl hI14.1.o111 rfl rfl rfl) rfl rfl rfl (s213 (k := 111) hI14 (by decide) rfl (by decide)) (show _ = 62 from rfl) ?_
      rintro r4 w17 ⟨(rfl | rfl), hI18, hE20⟩
      · have hE19 := hE15.tr (hE20.ei)
        show sx_RP _ _ _ _ _ [.int 0] _ _
        refine sx_RP.step (pc2 := 88) (ls2 := [(0, .ref 111)]) (st2 := []) (w3 := w17) rfl rfl ?_
        refine sx_RP.step (pc2 := 89) (ls2 := [(0, .ref 111)]) (st2 := [.int 1]) (w3 := w17) rfl rfl ?_
        refine sx_RP.ret (r := (some (.int 1))) rfl rfl ?_
        exact ⟨Or.inr rfl, hI18, hE19⟩
      · have hE19 := hE15.tr (hE20.ei)
        show sx_RP _ _ _ _ _ [.int 1] _ _
        refine sx_RP.step (pc2 := 65) (ls2 := [(0, .ref 111)]) (st2 := []) (w3 := w17) rfl rfl ?_
        refine sx_RP.step (pc2 := 66) (ls2 := [(0, .ref 111)]) (st2 := [.ref 111]) (w3 := w17) rfl rfl ?_
        refine sx_RP.step (pc2 := 67) (ls2 := [(0, .ref 111)]) (st2 := [.int 1, .ref 111]) (w3 := w17) rfl rfl ?_
        refine sx_RP.step (pc2 := 69) (ls2 := [(0, .ref 111)]) (st2 := [.int 99, .int 1, .ref 111]) (w3 := w17) rfl rfl ?_
        refine sx_RP.callp (as2 := [.ref 111, .int 1, .int 99]) (rest2 := []) rfl rfl (sx_inv_v2 (mi := 229) (k := 267) (st := [.int 99, .int 1, .ref 111]) (w := w17) rfl rfl hI18.1.o111 rfl rfl rfl) rfl rfl rfl (s220 (m := 1) (n := 99) hI18 (by omega) (by omega)) (show _ = 72 from rfl) ?_
        rintro r4 w25 ⟨(rfl | ⟨x21, ⟨hx22, hx23, ex24⟩, rfl⟩), hI26, hE28⟩
        · have hE27 := hE19.tr (hE28.ei)
          show sx_RP _ _ _ _ _ [.int 0] _ _
          refine sx_RP.step (pc2 := 75) (ls2 := [(0, .ref 111)]) (st2 := []) (w3 := w25) rfl rfl ?_
          refine sx_RP.step (pc2 := 76) (ls2 := [(0, .ref 111)]) (st2 := [.int 0]) (w3 := w25) rfl rfl ?_
          refine sx_RP.ret (r := (some (.int 0))) rfl rfl ?_
          exact ⟨Or.inl rfl, hI26, hE27⟩
        · have hE27 := hE19.tr (hE28.ei)
          show sx_RP _ _ _ _ _ [.int 1] _ _
          refine sx_RP.step (pc2 := 77) (ls2 := [(0, .ref 111)]) (st2 := []) (w3 := w25) rfl rfl ?_
          refine sx_RP.step (pc2 := 78) (ls2 := [(0, .ref 111)]) (st2 := [.ref 111]) (w3 := w25) rfl rfl ?_
          refine sx_RP.gf (v := .ref 112) rfl rfl hI26.1.o111 rfl rfl (show _ = 81 from rfl) ?_
          refine sx_RP.step (pc2 := 83) (ls2 := [(0, .ref 111)]) (st2 := [.int 6, .ref 112]) (w3 := w25) rfl rfl ?_
          refine sx_RP.step (pc2 := 84) (ls2 := [(0, .ref 111)]) (st2 := [.ref 111, .int 6, .ref 112]) (w3 := w25) rfl rfl ?_
          refine sx_RP.gf (v := .int (fi w25 111 14)) rfl rfl hI26.1.o111 rfl rfl (show _ = 87 from rfl) ?_
          rw [ex24]
          refine sx_RP.mSI (k := 6) hI26 hE27 (by decide) rfl rfl (by omega) (eOK_n (by decide)) (show _ = 88 from rfl) (fun w29 hI30 hE31 hk32 => ?_)
          refine sx_RP.step (pc2 := 89) (ls2 := [(0, .ref 111)]) (st2 := [.int 1]) (w3 := w29) rfl rfl ?_
          refine sx_RP.ret (r := (some (.int 1))) rfl rfl ?_
          exact ⟨Or.inr rfl, hI30, hE31⟩
    · have hE15 := hE11.tr (hE16.ei)
      show sx_RP _ _ _ _ _ [.int 1] _ _
      refine sx_RP.step (pc2 := 32) (ls2 := [(0, .ref 111)]) (st2 := []) (w3 := w13) rfl rfl ?_
      refine sx_RP.step (pc2 := 33) (ls2 := [(0, .ref 111)]) (st2 := [.ref 111]) (w3 := w13) rfl rfl ?_
      refine sx_RP.step (pc2 := 34) (ls2 := [(0, .ref 111)]) (st2 := [.int 1, .ref 111]) (w3 := w13) rfl rfl ?_
      refine sx_RP.step (pc2 := 37) (ls2 := [(0, .ref 111)]) (st2 := [.int 999, .int 1, .ref 111]) (w3 := w13) rfl rfl ?_
      refine sx_RP.callp (as2 := [.ref 111, .int 1, .int 999]) (rest2 := []) rfl rfl (sx_inv_v2 (mi := 229) (k := 267) (st := [.int 999, .int 1, .ref 111]) (w := w13) rfl rfl hI14.1.o111 rfl rfl rfl) rfl rfl rfl (s220 (m := 1) (n := 999) hI14 (by omega) (by omega)) (show _ = 40 from rfl) ?_
      rintro r4 w37 ⟨(rfl | ⟨x33, ⟨hx34, hx35, ex36⟩, rfl⟩), hI38, hE40⟩
      · have hE39 := hE15.tr (hE40.ei)
        show sx_RP _ _ _ _ _ [.int 0] _ _
        refine sx_RP.step (pc2 := 43) (ls2 := [(0, .ref 111)]) (st2 := []) (w3 := w37) rfl rfl ?_
        refine sx_RP.step (pc2 := 44) (ls2 := [(0, .ref 111)]) (st2 := [.int 0]) (w3 := w37) rfl rfl ?_
        refine sx_RP.ret (r := (some (.int 0))) rfl rfl ?_
        exact ⟨Or.inl rfl, hI38, hE39⟩
      · have hE39 := hE15.tr (hE40.ei)
        show sx_RP _ _ _ _ _ [.int 1] _ _
        refine sx_RP.step (pc2 := 45) (ls2 := [(0, .ref 111)]) (st2 := []) (w3 := w37) rfl rfl ?_
        refine sx_RP.step (pc2 := 46) (ls2 := [(0, .ref 111)]) (st2 := [.ref 111]) (w3 := w37) rfl rfl ?_
        refine sx_RP.gf (v := .ref 112) rfl rfl hI38.1.o111 rfl rfl (show _ = 49 from rfl) ?_
        refine sx_RP.step (pc2 := 50) (ls2 := [(0, .ref 111)]) (st2 := [.int 5, .ref 112]) (w3 := w37) rfl rfl ?_
        refine sx_RP.step (pc2 := 51) (ls2 := [(0, .ref 111)]) (st2 := [.ref 111, .int 5, .ref 112]) (w3 := w37) rfl rfl ?_
        refine sx_RP.gf (v := .int (fi w37 111 14)) rfl rfl hI38.1.o111 rfl rfl (show _ = 54 from rfl) ?_
        rw [ex36]
        refine sx_RP.mSI (k := 5) hI38 hE39 (by decide) rfl rfl (by omega) (eOK_n (by decide)) (show _ = 55 from rfl) (fun w41 hI42 hE43 hk44 => ?_)
        refine sx_RP.step (pc2 := 56) (ls2 := [(0, .ref 111)]) (st2 := [.ref 111]) (w3 := w41) rfl rfl ?_
        refine sx_RP.step (pc2 := 59) (ls2 := [(0, .ref 111)]) (st2 := [.float 111, .ref 111]) (w3 := w41) rfl rfl ?_
        refine sx_RP.callp (as2 := [.ref 111, .float 111]) (rest2 := []) rfl rfl (sx_inv_v2 (mi := 229) (k := 243) (st := [.float 111, .ref 111]) (w := w41) rfl rfl hI42.1.o111 rfl rfl rfl) rfl rfl rfl (s213 (k := 111) hI42 (by decide) rfl (by decide)) (show _ = 62 from rfl) ?_
        rintro r4 w45 ⟨(rfl | rfl), hI46, hE48⟩
        · have hE47 := hE43.tr (hE48.ei)
          show sx_RP _ _ _ _ _ [.int 0] _ _
          refine sx_RP.step (pc2 := 88) (ls2 := [(0, .ref 111)]) (st2 := []) (w3 := w45) rfl rfl ?_
          refine sx_RP.step (pc2 := 89) (ls2 := [(0, .ref 111)]) (st2 := [.int 1]) (w3 := w45) rfl rfl ?_
          refine sx_RP.ret (r := (some (.int 1))) rfl rfl ?_
          exact ⟨Or.inr rfl, hI46, hE47⟩
        · have hE47 := hE43.tr (hE48.ei)
          show sx_RP _ _ _ _ _ [.int 1] _ _
          refine sx_RP.step (pc2 := 65) (ls2 := [(0, .ref 111)]) (st2 := []) (w3 := w45) rfl rfl ?_
          refine sx_RP.step (pc2 := 66) (ls2 := [(0, .ref 111)]) (st2 := [.ref 111]) (w3 := w45) rfl rfl ?_
          refine sx_RP.step (pc2 := 67) (ls2 := [(0, .ref 111)]) (st2 := [.int 1, .ref 111]) (w3 := w45) rfl rfl ?_
          refine sx_RP.step (pc2 := 69) (ls2 := [(0, .ref 111)]) (st2 := [.int 99, .int 1, .ref 111]) (w3 := w45) rfl rfl ?_
          refine sx_RP.callp (as2 := [.ref 111, .int 1, .int 99]) (rest2 := []) rfl rfl (sx_inv_v2 (mi := 229) (k := 267) (st := [.int 99, .int 1, .ref 111]) (w := w45) rfl rfl hI46.1.o111 rfl rfl rfl) rfl rfl rfl (s220 (m := 1) (n := 99) hI46 (by omega) (by omega)) (show _ = 72 from rfl) ?_
          rintro r4 w53 ⟨(rfl | ⟨x49, ⟨hx50, hx51, ex52⟩, rfl⟩), hI54, hE56⟩
          · have hE55 := hE47.tr (hE56.ei)
            show sx_RP _ _ _ _ _ [.int 0] _ _
            refine sx_RP.step (pc2 := 75) (ls2 := [(0, .ref 111)]) (st2 := []) (w3 := w53) rfl rfl ?_
            refine sx_RP.step (pc2 := 76) (ls2 := [(0, .ref 111)]) (st2 := [.int 0]) (w3 := w53) rfl rfl ?_
            refine sx_RP.ret (r := (some (.int 0))) rfl rfl ?_
            exact ⟨Or.inl rfl, hI54, hE55⟩
          · have hE55 := hE47.tr (hE56.ei)
            show sx_RP _ _ _ _ _ [.int 1] _ _
            refine sx_RP.step (pc2 := 77) (ls2 := [(0, .ref 111)]) (st2 := []) (w3 := w53) rfl rfl ?_
            refine sx_RP.step (pc2 := 78) (ls2 := [(0, .ref 111)]) (st2 := [.ref 111]) (w3 := w53) rfl rfl ?_
            refine sx_RP.gf (v := .ref 112) rfl rfl hI54.1.o111 rfl rfl (show _ = 81 from rfl) ?_
            refine sx_RP.step (pc2 := 83) (ls2 := [(0, .ref 111)]) (st2 := [.int 6, .ref 112]) (w3 := w53) rfl rfl ?_
            refine sx_RP.step (pc2 := 84) (ls2 := [(0, .ref 111)]) (st2 := [.ref 111, .int 6, .ref 112]) (w3 := w53) rfl rfl ?_
            refine sx_RP.gf (v := .int (fi w53 111 14)) rfl rfl hI54.1.o111 rfl rfl (show _ = 87 from rfl) ?_
            rw [ex52]
            refine sx_RP.mSI (k := 6) hI54 hE55 (by decide) rfl rfl (by omega) (eOK_n (by decide)) (show _ = 88 from rfl) (fun w57 hI58 hE59 hk60 => ?_)
            refine sx_RP.step (pc2 := 89) (ls2 := [(0, .ref 111)]) (st2 := [.int 1]) (w3 := w57) rfl rfl ?_
            refine sx_RP.ret (r := (some (.int 1))) rfl rfl ?_
            exact ⟨Or.inr rfl, hI58, hE59⟩
set_option maxRecDepth 20000 in
set_option maxHeartbeats 4000000 in
theorem i211a0 {xs : Option (List Int32)} {d : Nat} {w w0 : List sx_C} (hI : WI w) (hE : EI w0 w) (kk : ∀ w2, WI w2 → EI w0 w2 → sx_RP xs (d + 7) 211 2 [(0, .ref 111), (1, .int 1)] [] w2 (fun r w2 => (r = some (.int 0) ∨ r = some (.int 1)) ∧ WI w2 ∧ EI w0 w2)) : sx_RP xs (d + 7) 211 2 [(0, .ref 111), (1, .int 0)] [] w (fun r w2 => (r = some (.int 0) ∨ r = some (.int 1)) ∧ WI w2 ∧ EI w0 w2) := by
  refine sx_RP.step (pc2 := 3) (ls2 := [(0, .ref 111), (1, .int 0)]) (st2 := [.int 0]) (w3 := w) rfl rfl ?_
  refine sx_RP.step (pc2 := 4) (ls2 := [(0, .ref 111), (1, .int 0)]) (st2 := [.int 5, .int 0]) (w3 := w) rfl rfl ?_
  refine sx_RP.step (pc2 := 7) (ls2 := [(0, .ref 111), (1, .int 0)]) (st2 := []) (w3 := w) rfl rfl ?_
  refine sx_RP.step (pc2 := 8) (ls2 := [(0, .ref 111), (1, .int 0)]) (st2 := [.ref 111]) (w3 := w) rfl rfl ?_
  refine sx_RP.step (pc2 := 9) (ls2 := [(0, .ref 111), (1, .int 0)]) (st2 := [.int 0, .ref 111]) (w3 := w) rfl rfl ?_
  refine sx_RP.cu (as := [.int 0]) (rest2 := [.ref 111]) (st3 := [.float 102, .ref 111]) rfl rfl rfl rfl rfl (p212_0) rfl ?_
  refine sx_RP.callp (as2 := [.ref 111, .float 102]) (rest2 := []) rfl rfl (sx_inv_v2 (mi := 211) (k := 243) (st := [.float 102, .ref 111]) (w := w) rfl rfl hI.1.o111 rfl rfl rfl) rfl rfl rfl (s213 (k := 102) hI (by decide) rfl (by decide)) (show _ = 15 from rfl) ?_
  rintro r4 w1 ⟨(rfl | rfl), hI2, hE4⟩
  · have hE3 := hE.tr (hE4.ei)
    show sx_RP _ _ _ _ _ [.int 0] _ _
    refine sx_RP.step (pc2 := 24) (ls2 := [(0, .ref 111), (1, .int 0)]) (st2 := []) (w3 := w1) rfl rfl ?_
    refine sx_RP.step (pc2 := 27) (ls2 := [(1, .int 1), (0, .ref 111)]) (st2 := []) (w3 := w1) rfl rfl ?_
    refine sx_RP.step (pc2 := 2) (ls2 := [(1, .int 1), (0, .ref 111)]) (st2 := []) (w3 := w1) rfl rfl ?_
    exact sx_RP.ls (sx_lr.cons rfl (sx_lr.cons rfl sx_lr.nil)) (kk w1 hI2 hE3)
  · have hE3 := hE.tr (hE4.ei)
    show sx_RP _ _ _ _ _ [.int 1] _ _
    refine sx_RP.step (pc2 := 18) (ls2 := [(0, .ref 111), (1, .int 0)]) (st2 := []) (w3 := w1) rfl rfl ?_
    refine sx_RP.step (pc2 := 19) (ls2 := [(0, .ref 111), (1, .int 0)]) (st2 := [.ref 111]) (w3 := w1) rfl rfl ?_
    refine sx_RP.step (pc2 := 20) (ls2 := [(0, .ref 111), (1, .int 0)]) (st2 := [.int 0, .ref 111]) (w3 := w1) rfl rfl ?_
    refine sx_RP.callp (as2 := [.ref 111, .int 0]) (rest2 := []) rfl rfl (sx_inv_v2 (mi := 211) (k := 318) (st := [.int 0, .ref 111]) (w := w1) rfl rfl hI2.1.o111 rfl rfl rfl) rfl rfl rfl (s219 hI2 (k := 0) (by omega)) (show _ = 23 from rfl) ?_
    rintro r4 w5 ⟨(rfl | rfl), hI6, hE8⟩
    · have hE7 := hE3.tr (hE8)
      show sx_RP _ _ _ _ _ [.int 0] _ _
      refine sx_RP.ret (r := (some (.int 0))) rfl rfl ?_
      exact ⟨Or.inl rfl, hI6, hE7⟩
    · have hE7 := hE3.tr (hE8)
      show sx_RP _ _ _ _ _ [.int 1] _ _
      refine sx_RP.ret (r := (some (.int 1))) rfl rfl ?_
      exact ⟨Or.inr rfl, hI6, hE7⟩
set_option maxRecDepth 20000 in
set_option maxHeartbeats 4000000 in
theorem i211a1 {xs : Option (List Int32)} {d : Nat} {w w0 : List sx_C} (hI : WI w) (hE : EI w0 w) (kk : ∀ w2, WI w2 → EI w0 w2 → sx_RP xs (d + 7) 211 2 [(0, .ref 111), (1, .int 2)] [] w2 (fun r w2 => (r = some (.int 0) ∨ r = some (.int 1)) ∧ WI w2 ∧ EI w0 w2)) : sx_RP xs (d + 7) 211 2 [(0, .ref 111), (1, .int 1)] [] w (fun r w2 => (r = some (.int 0) ∨ r = some (.int 1)) ∧ WI w2 ∧ EI w0 w2) := by
  refine sx_RP.step (pc2 := 3) (ls2 := [(0, .ref 111), (1, .int 1)]) (st2 := [.int 1]) (w3 := w) rfl rfl ?_
  refine sx_RP.step (pc2 := 4) (ls2 := [(0, .ref 111), (1, .int 1)]) (st2 := [.int 5, .int 1]) (w3 := w) rfl rfl ?_
  refine sx_RP.step (pc2 := 7) (ls2 := [(0, .ref 111), (1, .int 1)]) (st2 := []) (w3 := w) rfl rfl ?_
  refine sx_RP.step (pc2 := 8) (ls2 := [(0, .ref 111), (1, .int 1)]) (st2 := [.ref 111]) (w3 := w) rfl rfl ?_
  refine sx_RP.step (pc2 := 9) (ls2 := [(0, .ref 111), (1, .int 1)]) (st2 := [.int 1, .ref 111]) (w3 := w) rfl rfl ?_
  refine sx_RP.cu (as := [.int 1]) (rest2 := [.ref 111]) (st3 := [.float 113, .ref 111]) rfl rfl rfl rfl rfl (p212_1) rfl ?_
  refine sx_RP.callp (as2 := [.ref 111, .float 113]) (rest2 := []) rfl rfl (sx_inv_v2 (mi := 211) (k := 243) (st := [.float 113, .ref 111]) (w := w) rfl rfl hI.1.o111 rfl rfl rfl) rfl rfl rfl (s213 (k := 113) hI (by decide) rfl (by decide)) (show _ = 15 from rfl) ?_
  rintro r4 w1 ⟨(rfl | rfl), hI2, hE4⟩
  · have hE3 := hE.tr (hE4.ei)
    show sx_RP _ _ _ _ _ [.int 0] _ _
    refine sx_RP.step (pc2 := 24) (ls2 := [(0, .ref 111), (1, .int 1)]) (st2 := []) (w3 := w1) rfl rfl ?_
    refine sx_RP.step (pc2 := 27) (ls2 := [(1, .int 2), (0, .ref 111)]) (st2 := []) (w3 := w1) rfl rfl ?_
    refine sx_RP.step (pc2 := 2) (ls2 := [(1, .int 2), (0, .ref 111)]) (st2 := []) (w3 := w1) rfl rfl ?_
    exact sx_RP.ls (sx_lr.cons rfl (sx_lr.cons rfl sx_lr.nil)) (kk w1 hI2 hE3)
  · have hE3 := hE.tr (hE4.ei)
    show sx_RP _ _ _ _ _ [.int 1] _ _
    refine sx_RP.step (pc2 := 18) (ls2 := [(0, .ref 111), (1, .int 1)]) (st2 := []) (w3 := w1) rfl rfl ?_
    refine sx_RP.step (pc2 := 19) (ls2 := [(0, .ref 111), (1, .int 1)]) (st2 := [.ref 111]) (w3 := w1) rfl rfl ?_
    refine sx_RP.step (pc2 := 20) (ls2 := [(0, .ref 111), (1, .int 1)]) (st2 := [.int 1, .ref 111]) (w3 := w1) rfl rfl ?_
    refine sx_RP.callp (as2 := [.ref 111, .int 1]) (rest2 := []) rfl rfl (sx_inv_v2 (mi := 211) (k := 318) (st := [.int 1, .ref 111]) (w := w1) rfl rfl hI2.1.o111 rfl rfl rfl) rfl rfl rfl (s219 hI2 (k := 1) (by omega)) (show _ = 23 from rfl) ?_
    rintro r4 w5 ⟨(rfl | rfl), hI6, hE8⟩
    · have hE7 := hE3.tr (hE8)
      show sx_RP _ _ _ _ _ [.int 0] _ _
      refine sx_RP.ret (r := (some (.int 0))) rfl rfl ?_
      exact ⟨Or.inl rfl, hI6, hE7⟩
    · have hE7 := hE3.tr (hE8)
      show sx_RP _ _ _ _ _ [.int 1] _ _
      refine sx_RP.ret (r := (some (.int 1))) rfl rfl ?_
      exact ⟨Or.inr rfl, hI6, hE7⟩
set_option maxRecDepth 20000 in
set_option maxHeartbeats 4000000 in
theorem i211a2 {xs : Option (List Int32)} {d : Nat} {w w0 : List sx_C} (hI : WI w) (hE : EI w0 w) (kk : ∀ w2, WI w2 → EI w0 w2 → sx_RP xs (d + 7) 211 2 [(0, .ref 111), (1, .int 3)] [] w2 (fun r w2 => (r = some (.int 0) ∨ r = some (.int 1)) ∧ WI w2 ∧ EI w0 w2)) : sx_RP xs (d + 7) 211 2 [(0, .ref 111), (1, .int 2)] [] w (fun r w2 => (r = some (.int 0) ∨ r = some (.int 1)) ∧ WI w2 ∧ EI w0 w2) := by
  refine sx_RP.step (pc2 := 3) (ls2 := [(0, .ref 111), (1, .int 2)]) (st2 := [.int 2]) (w3 := w) rfl rfl ?_
  refine sx_RP.step (pc2 := 4) (ls2 := [(0, .ref 111), (1, .int 2)]) (st2 := [.int 5, .int 2]) (w3 := w) rfl rfl ?_
  refine sx_RP.step (pc2 := 7) (ls2 := [(0, .ref 111), (1, .int 2)]) (st2 := []) (w3 := w) rfl rfl ?_
  refine sx_RP.step (pc2 := 8) (ls2 := [(0, .ref 111), (1, .int 2)]) (st2 := [.ref 111]) (w3 := w) rfl rfl ?_
  refine sx_RP.step (pc2 := 9) (ls2 := [(0, .ref 111), (1, .int 2)]) (st2 := [.int 2, .ref 111]) (w3 := w) rfl rfl ?_
  refine sx_RP.cu (as := [.int 2]) (rest2 := [.ref 111]) (st3 := [.float 112, .ref 111]) rfl rfl rfl rfl rfl (p212_2) rfl ?_
  refine sx_RP.callp (as2 := [.ref 111, .float 112]) (rest2 := []) rfl rfl (sx_inv_v2 (mi := 211) (k := 243) (st := [.float 112, .ref 111]) (w := w) rfl rfl hI.1.o111 rfl rfl rfl) rfl rfl rfl (s213 (k := 112) hI (by decide) rfl (by decide)) (show _ = 15 from rfl) ?_
  rintro r4 w1 ⟨(rfl | rfl), hI2, hE4⟩
  · have hE3 := hE.tr (hE4.ei)
    show sx_RP _ _ _ _ _ [.int 0] _ _
    refine sx_RP.step (pc2 := 24) (ls2 := [(0, .ref 111), (1, .int 2)]) (st2 := []) (w3 := w1) rfl rfl ?_
    refine sx_RP.step (pc2 := 27) (ls2 := [(1, .int 3), (0, .ref 111)]) (st2 := []) (w3 := w1) rfl rfl ?_
    refine sx_RP.step (pc2 := 2) (ls2 := [(1, .int 3), (0, .ref 111)]) (st2 := []) (w3 := w1) rfl rfl ?_
    exact sx_RP.ls (sx_lr.cons rfl (sx_lr.cons rfl sx_lr.nil)) (kk w1 hI2 hE3)
  · have hE3 := hE.tr (hE4.ei)
    show sx_RP _ _ _ _ _ [.int 1] _ _
    refine sx_RP.step (pc2 := 18) (ls2 := [(0, .ref 111), (1, .int 2)]) (st2 := []) (w3 := w1) rfl rfl ?_
    refine sx_RP.step (pc2 := 19) (ls2 := [(0, .ref 111), (1, .int 2)]) (st2 := [.ref 111]) (w3 := w1) rfl rfl ?_
    refine sx_RP.step (pc2 := 20) (ls2 := [(0, .ref 111), (1, .int 2)]) (st2 := [.int 2, .ref 111]) (w3 := w1) rfl rfl ?_
    refine sx_RP.callp (as2 := [.ref 111, .int 2]) (rest2 := []) rfl rfl (sx_inv_v2 (mi := 211) (k := 318) (st := [.int 2, .ref 111]) (w := w1) rfl rfl hI2.1.o111 rfl rfl rfl) rfl rfl rfl (s219 hI2 (k := 2) (by omega)) (show _ = 23 from rfl) ?_
    rintro r4 w5 ⟨(rfl | rfl), hI6, hE8⟩
    · have hE7 := hE3.tr (hE8)
      show sx_RP _ _ _ _ _ [.int 0] _ _
      refine sx_RP.ret (r := (some (.int 0))) rfl rfl ?_
      exact ⟨Or.inl rfl, hI6, hE7⟩
    · have hE7 := hE3.tr (hE8)
      show sx_RP _ _ _ _ _ [.int 1] _ _
      refine sx_RP.ret (r := (some (.int 1))) rfl rfl ?_
      exact ⟨Or.inr rfl, hI6, hE7⟩
set_option maxRecDepth 20000 in
set_option maxHeartbeats 4000000 in
theorem i211a3 {xs : Option (List Int32)} {d : Nat} {w w0 : List sx_C} (hI : WI w) (hE : EI w0 w) (kk : ∀ w2, WI w2 → EI w0 w2 → sx_RP xs (d + 7) 211 2 [(0, .ref 111), (1, .int 4)] [] w2 (fun r w2 => (r = some (.int 0) ∨ r = some (.int 1)) ∧ WI w2 ∧ EI w0 w2)) : sx_RP xs (d + 7) 211 2 [(0, .ref 111), (1, .int 3)] [] w (fun r w2 => (r = some (.int 0) ∨ r = some (.int 1)) ∧ WI w2 ∧ EI w0 w2) := by
  refine sx_RP.step (pc2 := 3) (ls2 := [(0, .ref 111), (1, .int 3)]) (st2 := [.int 3]) (w3 := w) rfl rfl ?_
  refine sx_RP.step (pc2 := 4) (ls2 := [(0, .ref 111), (1, .int 3)]) (st2 := [.int 5, .int 3]) (w3 := w) rfl rfl ?_
  refine sx_RP.step (pc2 := 7) (ls2 := [(0, .ref 111), (1, .int 3)]) (st2 := []) (w3 := w) rfl rfl ?_
  refine sx_RP.step (pc2 := 8) (ls2 := [(0, .ref 111), (1, .int 3)]) (st2 := [.ref 111]) (w3 := w) rfl rfl ?_
  refine sx_RP.step (pc2 := 9) (ls2 := [(0, .ref 111), (1, .int 3)]) (st2 := [.int 3, .ref 111]) (w3 := w) rfl rfl ?_
  refine sx_RP.cu (as := [.int 3]) (rest2 := [.ref 111]) (st3 := [.float 118, .ref 111]) rfl rfl rfl rfl rfl (p212_3) rfl ?_
  refine sx_RP.callp (as2 := [.ref 111, .float 118]) (rest2 := []) rfl rfl (sx_inv_v2 (mi := 211) (k := 243) (st := [.float 118, .ref 111]) (w := w) rfl rfl hI.1.o111 rfl rfl rfl) rfl rfl rfl (s213 (k := 118) hI (by decide) rfl (by decide)) (show _ = 15 from rfl) ?_
  rintro r4 w1 ⟨(rfl | rfl), hI2, hE4⟩
  · have hE3 := hE.tr (hE4.ei)
    show sx_RP _ _ _ _ _ [.int 0] _ _
    refine sx_RP.step (pc2 := 24) (ls2 := [(0, .ref 111), (1, .int 3)]) (st2 := []) (w3 := w1) rfl rfl ?_
    refine sx_RP.step (pc2 := 27) (ls2 := [(1, .int 4), (0, .ref 111)]) (st2 := []) (w3 := w1) rfl rfl ?_
    refine sx_RP.step (pc2 := 2) (ls2 := [(1, .int 4), (0, .ref 111)]) (st2 := []) (w3 := w1) rfl rfl ?_
    exact sx_RP.ls (sx_lr.cons rfl (sx_lr.cons rfl sx_lr.nil)) (kk w1 hI2 hE3)
  · have hE3 := hE.tr (hE4.ei)
    show sx_RP _ _ _ _ _ [.int 1] _ _
    refine sx_RP.step (pc2 := 18) (ls2 := [(0, .ref 111), (1, .int 3)]) (st2 := []) (w3 := w1) rfl rfl ?_
    refine sx_RP.step (pc2 := 19) (ls2 := [(0, .ref 111), (1, .int 3)]) (st2 := [.ref 111]) (w3 := w1) rfl rfl ?_
    refine sx_RP.step (pc2 := 20) (ls2 := [(0, .ref 111), (1, .int 3)]) (st2 := [.int 3, .ref 111]) (w3 := w1) rfl rfl ?_
    refine sx_RP.callp (as2 := [.ref 111, .int 3]) (rest2 := []) rfl rfl (sx_inv_v2 (mi := 211) (k := 318) (st := [.int 3, .ref 111]) (w := w1) rfl rfl hI2.1.o111 rfl rfl rfl) rfl rfl rfl (s219 hI2 (k := 3) (by omega)) (show _ = 23 from rfl) ?_
    rintro r4 w5 ⟨(rfl | rfl), hI6, hE8⟩
    · have hE7 := hE3.tr (hE8)
      show sx_RP _ _ _ _ _ [.int 0] _ _
      refine sx_RP.ret (r := (some (.int 0))) rfl rfl ?_
      exact ⟨Or.inl rfl, hI6, hE7⟩
    · have hE7 := hE3.tr (hE8)
      show sx_RP _ _ _ _ _ [.int 1] _ _
      refine sx_RP.ret (r := (some (.int 1))) rfl rfl ?_
      exact ⟨Or.inr rfl, hI6, hE7⟩
set_option maxRecDepth 20000 in
set_option maxHeartbeats 4000000 in
theorem i211a4 {xs : Option (List Int32)} {d : Nat} {w w0 : List sx_C} (hI : WI w) (hE : EI w0 w) (kk : ∀ w2, WI w2 → EI w0 w2 → sx_RP xs (d + 7) 211 2 [(0, .ref 111), (1, .int 5)] [] w2 (fun r w2 => (r = some (.int 0) ∨ r = some (.int 1)) ∧ WI w2 ∧ EI w0 w2)) : sx_RP xs (d + 7) 211 2 [(0, .ref 111), (1, .int 4)] [] w (fun r w2 => (r = some (.int 0) ∨ r = some (.int 1)) ∧ WI w2 ∧ EI w0 w2) := by
  refine sx_RP.step (pc2 := 3) (ls2 := [(0, .ref 111), (1, .int 4)]) (st2 := [.int 4]) (w3 := w) rfl rfl ?_
  refine sx_RP.step (pc2 := 4) (ls2 := [(0, .ref 111), (1, .int 4)]) (st2 := [.int 5, .int 4]) (w3 := w) rfl rfl ?_
  refine sx_RP.step (pc2 := 7) (ls2 := [(0, .ref 111), (1, .int 4)]) (st2 := []) (w3 := w) rfl rfl ?_
  refine sx_RP.step (pc2 := 8) (ls2 := [(0, .ref 111), (1, .int 4)]) (st2 := [.ref 111]) (w3 := w) rfl rfl ?_
  refine sx_RP.step (pc2 := 9) (ls2 := [(0, .ref 111), (1, .int 4)]) (st2 := [.int 4, .ref 111]) (w3 := w) rfl rfl ?_
  refine sx_RP.cu (as := [.int 4]) (rest2 := [.ref 111]) (st3 := [.float 117, .ref 111]) rfl rfl rfl rfl rfl (p212_4) rfl ?_
  refine sx_RP.callp (as2 := [.ref 111, .float 117]) (rest2 := []) rfl rfl (sx_inv_v2 (mi := 211) (k := 243) (st := [.float 117, .ref 111]) (w := w) rfl rfl hI.1.o111 rfl rfl rfl) rfl rfl rfl (s213 (k := 117) hI (by decide) rfl (by decide)) (show _ = 15 from rfl) ?_
  rintro r4 w1 ⟨(rfl | rfl), hI2, hE4⟩
  · have hE3 := hE.tr (hE4.ei)
    show sx_RP _ _ _ _ _ [.int 0] _ _
    refine sx_RP.step (pc2 := 24) (ls2 := [(0, .ref 111), (1, .int 4)]) (st2 := []) (w3 := w1) rfl rfl ?_
    refine sx_RP.step (pc2 := 27) (ls2 := [(1, .int 5), (0, .ref 111)]) (st2 := []) (w3 := w1) rfl rfl ?_
    refine sx_RP.step (pc2 := 2) (ls2 := [(1, .int 5), (0, .ref 111)]) (st2 := []) (w3 := w1) rfl rfl ?_
    exact sx_RP.ls (sx_lr.cons rfl (sx_lr.cons rfl sx_lr.nil)) (kk w1 hI2 hE3)
  · have hE3 := hE.tr (hE4.ei)
    show sx_RP _ _ _ _ _ [.int 1] _ _
    refine sx_RP.step (pc2 := 18) (ls2 := [(0, .ref 111), (1, .int 4)]) (st2 := []) (w3 := w1) rfl rfl ?_
    refine sx_RP.step (pc2 := 19) (ls2 := [(0, .ref 111), (1, .int 4)]) (st2 := [.ref 111]) (w3 := w1) rfl rfl ?_
    refine sx_RP.step (pc2 := 20) (ls2 := [(0, .ref 111), (1, .int 4)]) (st2 := [.int 4, .ref 111]) (w3 := w1) rfl rfl ?_
    refine sx_RP.callp (as2 := [.ref 111, .int 4]) (rest2 := []) rfl rfl (sx_inv_v2 (mi := 211) (k := 318) (st := [.int 4, .ref 111]) (w := w1) rfl rfl hI2.1.o111 rfl rfl rfl) rfl rfl rfl (s219 hI2 (k := 4) (by omega)) (show _ = 23 from rfl) ?_
    rintro r4 w5 ⟨(rfl | rfl), hI6, hE8⟩
    · have hE7 := hE3.tr (hE8)
      show sx_RP _ _ _ _ _ [.int 0] _ _
      refine sx_RP.ret (r := (some (.int 0))) rfl rfl ?_
      exact ⟨Or.inl rfl, hI6, hE7⟩
    · have hE7 := hE3.tr (hE8)
      show sx_RP _ _ _ _ _ [.int 1] _ _
      refine sx_RP.ret (r := (some (.int 1))) rfl rfl ?_
      exact ⟨Or.inr rfl, hI6, hE7⟩
set_option maxRecDepth 20000 in
set_option maxHeartbeats 4000000 in
theorem i211a5 {xs : Option (List Int32)} {d : Nat} {w w0 : List sx_C} (hI : WI w) (hE : EI w0 w) (kk : ∀ w2, WI w2 → EI w0 w2 → sx_RP xs (d + 7) 211 32 [(0, .ref 111), (1, .int 0)] [] w2 (fun r w2 => (r = some (.int 0) ∨ r = some (.int 1)) ∧ WI w2 ∧ EI w0 w2)) : sx_RP xs (d + 7) 211 2 [(0, .ref 111), (1, .int 5)] [] w (fun r w2 => (r = some (.int 0) ∨ r = some (.int 1)) ∧ WI w2 ∧ EI w0 w2) := by
  refine sx_RP.step (pc2 := 3) (ls2 := [(0, .ref 111), (1, .int 5)]) (st2 := [.int 5]) (w3 := w) rfl rfl ?_
  refine sx_RP.step (pc2 := 4) (ls2 := [(0, .ref 111), (1, .int 5)]) (st2 := [.int 5, .int 5]) (w3 := w) rfl rfl ?_
  refine sx_RP.step (pc2 := 30) (ls2 := [(0, .ref 111), (1, .int 5)]) (st2 := []) (w3 := w) rfl rfl ?_
  refine sx_RP.step (pc2 := 31) (ls2 := [(0, .ref 111), (1, .int 5)]) (st2 := [.int 0]) (w3 := w) rfl rfl ?_
  refine sx_RP.step (pc2 := 32) (ls2 := [(1, .int 0), (0, .ref 111)]) (st2 := []) (w3 := w) rfl rfl ?_
  exact sx_RP.ls (sx_lr.cons rfl (sx_lr.cons rfl sx_lr.nil)) (kk w hI hE)
set_option maxRecDepth 20000 in
set_option maxHeartbeats 4000000 in
theorem i211b0 {xs : Option (List Int32)} {d : Nat} {w w0 : List sx_C} (hI : WI w) (hE : EI w0 w) (kk : ∀ w2, WI w2 → EI w0 w2 → sx_RP xs (d + 7) 211 32 [(0, .ref 111), (1, .int 1)] [] w2 (fun r w2 => (r = some (.int 0) ∨ r = some (.int 1)) ∧ WI w2 ∧ EI w0 w2)) : sx_RP xs (d + 7) 211 32 [(0, .ref 111), (1, .int 0)] [] w (fun r w2 => (r = some (.int 0) ∨ r = some (.int 1)) ∧ WI w2 ∧ EI w0 w2) := by
  refine sx_RP.step (pc2 := 33) (ls2 := [(0, .ref 111), (1, .int 0)]) (st2 := [.int 0]) (w3 := w) rfl rfl ?_
  refine sx_RP.step (pc2 := 35) (ls2 := [(0, .ref 111), (1, .int 0)]) (st2 := [.int 6, .int 0]) (w3 := w) rfl rfl ?_
  refine sx_RP.step (pc2 := 38) (ls2 := [(0, .ref 111), (1, .int 0)]) (st2 := []) (w3 := w) rfl rfl ?_
  refine sx_RP.step (pc2 := 39) (ls2 := [(0, .ref 111), (1, .int 0)]) (st2 := [.ref 111]) (w3 := w) rfl rfl ?_
  refine sx_RP.step (pc2 := 40) (ls2 := [(0, .ref 111), (1, .int 0)]) (st2 := [.int 0, .ref 111]) (w3 := w) rfl rfl ?_
  refine sx_RP.cu (as := [.int 0]) (rest2 := [.ref 111]) (st3 := [.float 106, .ref 111]) rfl rfl rfl rfl rfl (p226_0) rfl ?_
  refine sx_RP.callp (as2 := [.ref 111, .float 106]) (rest2 := []) rfl rfl (sx_inv_v2 (mi := 211) (k := 239) (st := [.float 106, .ref 111]) (w := w) rfl rfl hI.1.o111 rfl rfl rfl) rfl rfl rfl (s214i (k := 106) hI (by decide) rfl (by decide)) (show _ = 46 from rfl) ?_
  rintro r4 w2 ⟨(⟨rfl, hc1⟩ | rfl), hI3, hE5⟩
  · have hE4 := hE.tr (hE5.ei)
    show sx_RP _ _ _ _ _ [.int 0] _ _
    refine sx_RP.step (pc2 := 65) (ls2 := [(0, .ref 111), (1, .int 0)]) (st2 := []) (w3 := w2) rfl rfl ?_
    refine sx_RP.step (pc2 := 66) (ls2 := [(0, .ref 111), (1, .int 0)]) (st2 := [.ref 111]) (w3 := w2) rfl rfl ?_
    refine sx_RP.step (pc2 := 67) (ls2 := [(0, .ref 111), (1, .int 0)]) (st2 := [.int 0, .ref 111]) (w3 := w2) rfl rfl ?_
    refine sx_RP.cu (as := [.int 0]) (rest2 := [.ref 111]) (st3 := [.float 106, .ref 111]) rfl rfl rfl rfl rfl (p226_0) rfl ?_
    refine sx_RP.callp (as2 := [.ref 111, .float 106]) (rest2 := []) rfl rfl (sx_inv_v2 (mi := 211) (k := 243) (st := [.float 106, .ref 111]) (w := w2) rfl rfl hI3.1.o111 rfl rfl rfl) rfl rfl rfl (s213z (k := 106) hI3 (by decide) rfl (by decide) (hc1 _)) (show _ = 73 from rfl) ?_
    rintro r4 w6 ⟨rfl, hI7, hE9⟩
    have hE8 := hE4.tr (hE9.ei)
    show sx_RP _ _ _ _ _ [.int 0] _ _
    refine sx_RP.step (pc2 := 82) (ls2 := [(0, .ref 111), (1, .int 0)]) (st2 := []) (w3 := w6) rfl rfl ?_
    refine sx_RP.step (pc2 := 85) (ls2 := [(1, .int 1), (0, .ref 111)]) (st2 := []) (w3 := w6) rfl rfl ?_
    refine sx_RP.step (pc2 := 32) (ls2 := [(1, .int 1), (0, .ref 111)]) (st2 := []) (w3 := w6) rfl rfl ?_
    exact sx_RP.ls (sx_lr.cons rfl (sx_lr.cons rfl sx_lr.nil)) (kk w6 hI7 hE8)
  · have hE4 := hE.tr (hE5.ei)
    show sx_RP _ _ _ _ _ [.int 1] _ _
    refine sx_RP.step (pc2 := 49) (ls2 := [(0, .ref 111), (1, .int 0)]) (st2 := []) (w3 := w2) rfl rfl ?_
    refine sx_RP.step (pc2 := 50) (ls2 := [(0, .ref 111), (1, .int 0)]) (st2 := [.ref 111]) (w3 := w2) rfl rfl ?_
    refine sx_RP.gf (v := .ref 112) rfl rfl hI3.1.o111 rfl rfl (show _ = 53 from rfl) ?_
    refine sx_RP.step (pc2 := 54) (ls2 := [(0, .ref 111), (1, .int 0)]) (st2 := [.int 1, .ref 112]) (w3 := w2) rfl rfl ?_
    refine sx_RP.ild (c := 1) rfl hI3.1.a112.1 hI3.1.a112.2 (sx_in_nI (show 1 < 172 by omega) (by decide)) (show (nI 1).toNatClampNeg = 1 from nI_clamp (by omega)) (show _ = 55 from rfl) ?_
    obtain ⟨x10, hx11, ex12⟩ : inR ((ia w2 112).getD 1 0) 10 := (hI3.s (1) (by omega)).1 rfl
    rw [ex12]
    refine sx_RP.step (pc2 := 57) (ls2 := [(0, .ref 111), (1, .int 0)]) (st2 := [.int 10, .int (nI x10)]) (w3 := w2) rfl rfl ?_
    refine sx_RP.br (p1 := 65) (l1 := [(0, .ref 111), (1, .int 0)]) (s1 := []) (v1 := w2) (p2 := 60) (l2 := [(0, .ref 111), (1, .int 0)]) (s2 := []) (v2 := w2) rfl rfl (fun q13 => ?_) (fun q13 => ?_)
    · replace q13 := of_decide_eq_true q13
      replace q13 := mt (nI_eq (a := x10) (b := 10) (by omega) (by omega)).mpr q13
      refine sx_RP.step (pc2 := 66) (ls2 := [(0, .ref 111), (1, .int 0)]) (st2 := [.ref 111]) (w3 := w2) rfl rfl ?_
      refine sx_RP.step (pc2 := 67) (ls2 := [(0, .ref 111), (1, .int 0)]) (st2 := [.int 0, .ref 111]) (w3 := w2) rfl rfl ?_
      refine sx_RP.cu (as := [.int 0]) (rest2 := [.ref 111]) (st3 := [.float 106, .ref 111]) rfl rfl rfl rfl rfl (p226_0) rfl ?_
      refine sx_RP.callp (as2 := [.ref 111, .float 106]) (rest2 := []) rfl rfl (sx_inv_v2 (mi := 211) (k := 243) (st := [.float 106, .ref 111]) (w := w2) rfl rfl hI3.1.o111 rfl rfl rfl) rfl rfl rfl (s213 (k := 106) hI3 (by decide) rfl (by decide)) (show _ = 73 from rfl) ?_
      rintro r4 w14 ⟨(rfl | rfl), hI15, hE17⟩
      · have hE16 := hE4.tr (hE17.ei)
        have ex18 := (congrArg (fun l => List.getD l 1 0) (ia_of (hE17.1 112 (by decide)))).trans ex12
        show sx_RP _ _ _ _ _ [.int 0] _ _
        refine sx_RP.step (pc2 := 82) (ls2 := [(0, .ref 111), (1, .int 0)]) (st2 := []) (w3 := w14) rfl rfl ?_
        refine sx_RP.step (pc2 := 85) (ls2 := [(1, .int 1), (0, .ref 111)]) (st2 := []) (w3 := w14) rfl rfl ?_
        refine sx_RP.step (pc2 := 32) (ls2 := [(1, .int 1), (0, .ref 111)]) (st2 := []) (w3 := w14) rfl rfl ?_
        exact sx_RP.ls (sx_lr.cons rfl (sx_lr.cons rfl sx_lr.nil)) (kk w14 hI15 hE16)
      · have hE16 := hE4.tr (hE17.ei)
        have ex19 := (congrArg (fun l => List.getD l 1 0) (ia_of (hE17.1 112 (by decide)))).trans ex12
        show sx_RP _ _ _ _ _ [.int 1] _ _
        refine sx_RP.step (pc2 := 76) (ls2 := [(0, .ref 111), (1, .int 0)]) (st2 := []) (w3 := w14) rfl rfl ?_
        refine sx_RP.step (pc2 := 77) (ls2 := [(0, .ref 111), (1, .int 0)]) (st2 := [.ref 111]) (w3 := w14) rfl rfl ?_
        refine sx_RP.step (pc2 := 78) (ls2 := [(0, .ref 111), (1, .int 0)]) (st2 := [.int 0, .ref 111]) (w3 := w14) rfl rfl ?_
        refine sx_RP.callp (as2 := [.ref 111, .int 0]) (rest2 := []) rfl rfl (sx_inv_v2 (mi := 211) (k := 323) (st := [.int 0, .ref 111]) (w := w14) rfl rfl hI15.1.o111 rfl rfl rfl) rfl rfl rfl (s227 hI15 (k := 0) (by omega) (by omega) ex19) (show _ = 81 from rfl) ?_
        rintro r4 w20 ⟨(rfl | rfl), hI21, hE23⟩
        · have hE22 := hE16.tr (hE23)
          show sx_RP _ _ _ _ _ [.int 0] _ _
          refine sx_RP.ret (r := (some (.int 0))) rfl rfl ?_
          exact ⟨Or.inl rfl, hI21, hE22⟩
        · have hE22 := hE16.tr (hE23)
          show sx_RP _ _ _ _ _ [.int 1] _ _
          refine sx_RP.ret (r := (some (.int 1))) rfl rfl ?_
          exact ⟨Or.inr rfl, hI21, hE22⟩
    · replace q13 := Decidable.not_not.mp (of_decide_eq_false q13)
      replace q13 := (nI_eq (a := x10) (b := 10) (by omega) (by omega)).mp q13
      refine sx_RP.step (pc2 := 61) (ls2 := [(0, .ref 111), (1, .int 0)]) (st2 := [.ref 111]) (w3 := w2) rfl rfl ?_
      refine sx_RP.callp (as2 := [.ref 111]) (rest2 := []) rfl rfl (sx_inv_v2 (mi := 211) (k := 245) (st := [.ref 111]) (w := w2) rfl rfl hI3.1.o111 rfl rfl rfl) rfl rfl rfl (s222 hI3) (show _ = 64 from rfl) ?_
      rintro r4 w24 ⟨rfl, hI25, hE27⟩
      have hE26 := hE4.tr (hE27.ei)
      have ex28 := (congrArg (fun l => List.getD l 1 0) (ia_of (hE27.1 112 (by decide)))).trans ex12
      show sx_RP _ _ _ _ _ [.int 0] _ _
      refine sx_RP.ret (r := (some (.int 0))) rfl rfl ?_
      exact ⟨Or.inl rfl, hI25, hE26⟩
set_option maxRecDepth 20000 in
set_option maxHeartbeats 4000000 in
theorem i211b1 {xs : Option (List Int32)} {d : Nat} {w w0 : List sx_C} (hI : WI w) (hE : EI w0 w) (kk : ∀ w2, WI w2 → EI w0 w2 → sx_RP xs (d + 7) 211 32 [(0, .ref 111), (1, .int 2)] [] w2 (fun r w2 => (r = some (.int 0) ∨ r = some (.int 1)) ∧ WI w2 ∧ EI w0 w2)) : sx_RP xs (d + 7) 211 32 [(0, .ref 111), (1, .int 1)] [] w (fun r w2 => (r = some (.int 0) ∨ r = some (.int 1)) ∧ WI w2 ∧ EI w0 w2) := by
  refine sx_RP.step (pc2 := 33) (ls2 := [(0, .ref 111), (1, .int 1)]) (st2 := [.int 1]) (w3 := w) rfl rfl ?_
  refine sx_RP.step (pc2 := 35) (ls2 := [(0, .ref 111), (1, .int 1)]) (st2 := [.int 6, .int 1]) (w3 := w) rfl rfl ?_
  refine sx_RP.step (pc2 := 38) (ls2 := [(0, .ref 111), (1, .int 1)]) (st2 := []) (w3 := w) rfl rfl ?_
  refine sx_RP.step (pc2 := 39) (ls2 := [(0, .ref 111), (1, .int 1)]) (st2 := [.ref 111]) (w3 := w) rfl rfl ?_
  refine sx_RP.step (pc2 := 40) (ls2 := [(0, .ref 111), (1, .int 1)]) (st2 := [.int 1, .ref 111]) (w3 := w) rfl rfl ?_
  refine sx_RP.cu (as := [.int 1]) (rest2 := [.ref 111]) (st3 := [.float 110, .ref 111]) rfl rfl rfl rfl rfl (p226_1) rfl ?_
  refine sx_RP.callp (as2 := [.ref 111, .float 110]) (rest2 := []) rfl rfl (sx_inv_v2 (mi := 211) (k := 239) (st := [.float 110, .ref 111]) (w := w) rfl rfl hI.1.o111 rfl rfl rfl) rfl rfl rfl (s214i (k := 110) hI (by decide) rfl (by decide)) (show _ = 46 from rfl) ?_
  rintro r4 w2 ⟨(⟨rfl, hc1⟩ | rfl), hI3, hE5⟩
  · have hE4 := hE.tr (hE5.ei)
    show sx_RP _ _ _ _ _ [.int 0] _ _
    refine sx_RP.step (pc2 := 65) (ls2 := [(0, .ref 111), (1, .int 1)]) (st2 := []) (w3 := w2) rfl rfl ?_
    refine sx_RP.step (pc2 := 66) (ls2 := [(0, .ref 111), (1, .int 1)]) (st2 := [.ref 111]) (w3 := w2) rfl rfl ?_
    refine sx_RP.step (pc2 := 67) (ls2 := [(0, .ref 111), (1, .int 1)]) (st2 := [.int 1, .ref 111]) (w3 := w2) rfl rfl ?_
    refine sx_RP.cu (as := [.int 1]) (rest2 := [.ref 111]) (st3 := [.float 110, .ref 111]) rfl rfl rfl rfl rfl (p226_1) rfl ?_
    refine sx_RP.callp (as2 := [.ref 111, .float 110]) (rest2 := []) rfl rfl (sx_inv_v2 (mi := 211) (k := 243) (st := [.float 110, .ref 111]) (w := w2) rfl rfl hI3.1.o111 rfl rfl rfl) rfl rfl rfl (s213z (k := 110) hI3 (by decide) rfl (by decide) (hc1 _)) (show _ = 73 from rfl) ?_
    rintro r4 w6 ⟨rfl, hI7, hE9⟩
    have hE8 := hE4.tr (hE9.ei)
    show sx_RP _ _ _ _ _ [.int 0] _ _
    refine sx_RP.step (pc2 := 82) (ls2 := [(0, .ref 111), (1, .int 1)]) (st2 := []) (w3 := w6) rfl rfl ?_
    refine sx_RP.step (pc2 := 85) (ls2 := [(1, .int 2), (0, .ref 111)]) (st2 := []) (w3 := w6) rfl rfl ?_
    refine sx_RP.step (pc2 := 32) (ls2 := [(1, .int 2), (0, .ref 111)]) (st2 := []) (w3 := w6) rfl rfl ?_
    exact sx_RP.ls (sx_lr.cons rfl (sx_lr.cons rfl sx_lr.nil)) (kk w6 hI7 hE8)
  · have hE4 := hE.tr (hE5.ei)
    show sx_RP _ _ _ _ _ [.int 1] _ _
    refine sx_RP.step (pc2 := 49) (ls2 := [(0, .ref 111), (1, .int 1)]) (st2 := []) (w3 := w2) rfl rfl ?_
    refine sx_RP.step (pc2 := 50) (ls2 := [(0, .ref 111), (1, .int 1)]) (st2 := [.ref 111]) (w3 := w2) rfl rfl ?_
    refine sx_RP.gf (v := .ref 112) rfl rfl hI3.1.o111 rfl rfl (show _ = 53 from rfl) ?_
    refine sx_RP.step (pc2 := 54) (ls2 := [(0, .ref 111), (1, .int 1)]) (st2 := [.int 1, .ref 112]) (w3 := w2) rfl rfl ?_
    refine sx_RP.ild (c := 1) rfl hI3.1.a112.1 hI3.1.a112.2 (sx_in_nI (show 1 < 172 by omega) (by decide)) (show (nI 1).toNatClampNeg = 1 from nI_clamp (by omega)) (show _ = 55 from rfl) ?_
    obtain ⟨x10, hx11, ex12⟩ : inR ((ia w2 112).getD 1 0) 10 := (hI3.s (1) (by omega)).1 rfl
    rw [ex12]
    refine sx_RP.step (pc2 := 57) (ls2 := [(0, .ref 111), (1, .int 1)]) (st2 := [.int 10, .int (nI x10)]) (w3 := w2) rfl rfl ?_
    refine sx_RP.br (p1 := 65) (l1 := [(0, .ref 111), (1, .int 1)]) (s1 := []) (v1 := w2) (p2 := 60) (l2 := [(0, .ref 111), (1, .int 1)]) (s2 := []) (v2 := w2) rfl rfl (fun q13 => ?_) (fun q13 => ?_)
    · replace q13 := of_decide_eq_true q13
      replace q13 := mt (nI_eq (a := x10) (b := 10) (by omega) (by omega)).mpr q13
      refine sx_RP.step (pc2 := 66) (ls2 := [(0, .ref 111), (1, .int 1)]) (st2 := [.ref 111]) (w3 := w2) rfl rfl ?_
      refine sx_RP.step (pc2 := 67) (ls2 := [(0, .ref 111), (1, .int 1)]) (st2 := [.int 1, .ref 111]) (w3 := w2) rfl rfl ?_
      refine sx_RP.cu (as := [.int 1]) (rest2 := [.ref 111]) (st3 := [.float 110, .ref 111]) rfl rfl rfl rfl rfl (p226_1) rfl ?_
      refine sx_RP.callp (as2 := [.ref 111, .float 110]) (rest2 := []) rfl rfl (sx_inv_v2 (mi := 211) (k := 243) (st := [.float 110, .ref 111]) (w := w2) rfl rfl hI3.1.o111 rfl rfl rfl) rfl rfl rfl (s213 (k := 110) hI3 (by decide) rfl (by decide)) (show _ = 73 from rfl) ?_
      rintro r4 w14 ⟨(rfl | rfl), hI15, hE17⟩
      · have hE16 := hE4.tr (hE17.ei)
        have ex18 := (congrArg (fun l => List.getD l 1 0) (ia_of (hE17.1 112 (by decide)))).trans ex12
        show sx_RP _ _ _ _ _ [.int 0] _ _
        refine sx_RP.step (pc2 := 82) (ls2 := [(0, .ref 111), (1, .int 1)]) (st2 := []) (w3 := w14) rfl rfl ?_
        refine sx_RP.step (pc2 := 85) (ls2 := [(1, .int 2), (0, .ref 111)]) (st2 := []) (w3 := w14) rfl rfl ?_
        refine sx_RP.step (pc2 := 32) (ls2 := [(1, .int 2), (0, .ref 111)]) (st2 := []) (w3 := w14) rfl rfl ?_
        exact sx_RP.ls (sx_lr.cons rfl (sx_lr.cons rfl sx_lr.nil)) (kk w14 hI15 hE16)
      · have hE16 := hE4.tr (hE17.ei)
        have ex19 := (congrArg (fun l => List.getD l 1 0) (ia_of (hE17.1 112 (by decide)))).trans ex12
        show sx_RP _ _ _ _ _ [.int 1] _ _
        refine sx_RP.step (pc2 := 76) (ls2 := [(0, .ref 111), (1, .int 1)]) (st2 := []) (w3 := w14) rfl rfl ?_
        refine sx_RP.step (pc2 := 77) (ls2 := [(0, .ref 111), (1, .int 1)]) (st2 := [.ref 111]) (w3 := w14) rfl rfl ?_
        refine sx_RP.step (pc2 := 78) (ls2 := [(0, .ref 111), (1, .int 1)]) (st2 := [.int 1, .ref 111]) (w3 := w14) rfl rfl ?_
        refine sx_RP.callp (as2 := [.ref 111, .int 1]) (rest2 := []) rfl rfl (sx_inv_v2 (mi := 211) (k := 323) (st := [.int 1, .ref 111]) (w := w14) rfl rfl hI15.1.o111 rfl rfl rfl) rfl rfl rfl (s227 hI15 (k := 1) (by omega) (by omega) ex19) (show _ = 81 from rfl) ?_
        rintro r4 w20 ⟨(rfl | rfl), hI21, hE23⟩
        · have hE22 := hE16.tr (hE23)
          show sx_RP _ _ _ _ _ [.int 0] _ _
          refine sx_RP.ret (r := (some (.int 0))) rfl rfl ?_
          exact ⟨Or.inl rfl, hI21, hE22⟩
        · have hE22 := hE16.tr (hE23)
          show sx_RP _ _ _ _ _ [.int 1] _ _
          refine sx_RP.ret (r := (some (.int 1))) rfl rfl ?_
          exact ⟨Or.inr rfl, hI21, hE22⟩
    · replace q13 := Decidable.not_not.mp (of_decide_eq_false q13)
      replace q13 := (nI_eq (a := x10) (b := 10) (by omega) (by omega)).mp q13
      refine sx_RP.step (pc2 := 61) (ls2 := [(0, .ref 111), (1, .int 1)]) (st2 := [.ref 111]) (w3 := w2) rfl rfl ?_
      refine sx_RP.callp (as2 := [.ref 111]) (rest2 := []) rfl rfl (sx_inv_v2 (mi := 211) (k := 245) (st := [.ref 111]) (w := w2) rfl rfl hI3.1.o111 rfl rfl rfl) rfl rfl rfl (s222 hI3) (show _ = 64 from rfl) ?_
      rintro r4 w24 ⟨rfl, hI25, hE27⟩
      have hE26 := hE4.tr (hE27.ei)
      have ex28 := (congrArg (fun l => List.getD l 1 0) (ia_of (hE27.1 112 (by decide)))).trans ex12
      show sx_RP _ _ _ _ _ [.int 0] _ _
      refine sx_RP.ret (r := (some (.int 0))) rfl rfl ?_
      exact ⟨Or.inl rfl, hI25, hE26⟩
set_option maxRecDepth 20000 in
set_option maxHeartbeats 4000000 in
theorem i211b2 {xs : Option (List Int32)} {d : Nat} {w w0 : List sx_C} (hI : WI w) (hE : EI w0 w) (kk : ∀ w2, WI w2 → EI w0 w2 → sx_RP xs (d + 7) 211 32 [(0, .ref 111), (1, .int 3)] [] w2 (fun r w2 => (r = some (.int 0) ∨ r = some (.int 1)) ∧ WI w2 ∧ EI w0 w2)) : sx_RP xs (d + 7) 211 32 [(0, .ref 111), (1, .int 2)] [] w (fun r w2 => (r = some (.int 0) ∨ r = some (.int 1)) ∧ WI w2 ∧ EI w0 w2) := by
  refine sx_RP.step (pc2 := 33) (ls2 := [(0, .ref 111), (1, .int 2)]) (st2 := [.int 2]) (w3 := w) rfl rfl ?_
  refine sx_RP.step (pc2 := 35) (ls2 := [(0, .ref 111), (1, .int 2)]) (st2 := [.int 6, .int 2]) (w3 := w) rfl rfl ?_
  refine sx_RP.step (pc2 := 38) (ls2 := [(0, .ref 111), (1, .int 2)]) (st2 := []) (w3 := w) rfl rfl ?_
  refine sx_RP.step (pc2 := 39) (ls2 := [(0, .ref 111), (1, .int 2)]) (st2 := [.ref 111]) (w3 := w) rfl rfl ?_
  refine sx_RP.step (pc2 := 40) (ls2 := [(0, .ref 111), (1, .int 2)]) (st2 := [.int 2, .ref 111]) (w3 := w) rfl rfl ?_
  refine sx_RP.cu (as := [.int 2]) (rest2 := [.ref 111]) (st3 := [.float 114, .ref 111]) rfl rfl rfl rfl rfl (p226_2) rfl ?_
  refine sx_RP.callp (as2 := [.ref 111, .float 114]) (rest2 := []) rfl rfl (sx_inv_v2 (mi := 211) (k := 239) (st := [.float 114, .ref 111]) (w := w) rfl rfl hI.1.o111 rfl rfl rfl) rfl rfl rfl (s214i (k := 114) hI (by decide) rfl (by decide)) (show _ = 46 from rfl) ?_
  rintro r4 w2 ⟨(⟨rfl, hc1⟩ | rfl), hI3, hE5⟩
  · have hE4 := hE.tr (hE5.ei)
    show sx_RP _ _ _ _ _ [.int 0] _ _
    refine sx_RP.step (pc2 := 65) (ls2 := [(0, .ref 111), (1, .int 2)]) (st2 := []) (w3 := w2) rfl rfl ?_
    refine sx_RP.step (pc2 := 66) (ls2 := [(0, .ref 111), (1, .int 2)]) (st2 := [.ref 111]) (w3 := w2) rfl rfl ?_
    refine sx_RP.step (pc2 := 67) (ls2 := [(0, .ref 111), (1, .int 2)]) (st2 := [.int 2, .ref 111]) (w3 := w2) rfl rfl ?_
    refine sx_RP.cu (as := [.int 2]) (rest2 := [.ref 111]) (st3 := [.float 114, .ref 111]) rfl rfl rfl rfl rfl (p226_2) rfl ?_
    refine sx_RP.callp (as2 := [.ref 111, .float 114]) (rest2 := []) rfl rfl (sx_inv_v2 (mi := 211) (k := 243) (st := [.float 114, .ref 111]) (w := w2) rfl rfl hI3.1.o111 rfl rfl rfl) rfl rfl rfl (s213z (k := 114) hI3 (by decide) rfl (by decide) (hc1 _)) (show _ = 73 from rfl) ?_
    rintro r4 w6 ⟨rfl, hI7, hE9⟩
    have hE8 := hE4.tr (hE9.ei)
    show sx_RP _ _ _ _ _ [.int 0] _ _
    refine sx_RP.step (pc2 := 82) (ls2 := [(0, .ref 111), (1, .int 2)]) (st2 := []) (w3 := w6) rfl rfl ?_
    refine sx_RP.step (pc2 := 85) (ls2 := [(1, .int 3), (0, .ref 111)]) (st2 := []) (w3 := w6) rfl rfl ?_
    refine sx_RP.step (pc2 := 32) (ls2 := [(1, .int 3), (0, .ref 111)]) (st2 := []) (w3 := w6) rfl rfl ?_
    exact sx_RP.ls (sx_lr.cons rfl (sx_lr.cons rfl sx_lr.nil)) (kk w6 hI7 hE8)
  · have hE4 := hE.tr (hE5.ei)
    show sx_RP _ _ _ _ _ [.int 1] _ _
    refine sx_RP.step (pc2 := 49) (ls2 := [(0, .ref 111), (1, .int 2)]) (st2 := []) (w3 := w2) rfl rfl ?_
    refine sx_RP.step (pc2 := 50) (ls2 := [(0, .ref 111), (1, .int 2)]) (st2 := [.ref 111]) (w3 := w2) rfl rfl ?_
    refine sx_RP.gf (v := .ref 112) rfl rfl hI3.1.o111 rfl rfl (show _ = 53 from rfl) ?_
    refine sx_RP.step (pc2 := 54) (ls2 := [(0, .ref 111), (1, .int 2)]) (st2 := [.int 1, .ref 112]) (w3 := w2) rfl rfl ?_
    refine sx_RP.ild (c := 1) rfl hI3.1.a112.1 hI3.1.a112.2 (sx_in_nI (show 1 < 172 by omega) (by decide)) (show (nI 1).toNatClampNeg = 1 from nI_clamp (by omega)) (show _ = 55 from rfl) ?_
    obtain ⟨x10, hx11, ex12⟩ : inR ((ia w2 112).getD 1 0) 10 := (hI3.s (1) (by omega)).1 rfl
    rw [ex12]
    refine sx_RP.step (pc2 := 57) (ls2 := [(0, .ref 111), (1, .int 2)]) (st2 := [.int 10, .int (nI x10)]) (w3 := w2) rfl rfl ?_
    refine sx_RP.br (p1 := 65) (l1 := [(0, .ref 111), (1, .int 2)]) (s1 := []) (v1 := w2) (p2 := 60) (l2 := [(0, .ref 111), (1, .int 2)]) (s2 := []) (v2 := w2) rfl rfl (fun q13 => ?_) (fun q13 => ?_)
    · replace q13 := of_decide_eq_true q13
      replace q13 := mt (nI_eq (a := x10) (b := 10) (by omega) (by omega)).mpr q13
      refine sx_RP.step (pc2 := 66) (ls2 := [(0, .ref 111), (1, .int 2)]) (st2 := [.ref 111]) (w3 := w2) rfl rfl ?_
      refine sx_RP.step (pc2 := 67) (ls2 := [(0, .ref 111), (1, .int 2)]) (st2 := [.int 2, .ref 111]) (w3 := w2) rfl rfl ?_
      refine sx_RP.cu (as := [.int 2]) (rest2 := [.ref 111]) (st3 := [.float 114, .ref 111]) rfl rfl rfl rfl rfl (p226_2) rfl ?_
      refine sx_RP.callp (as2 := [.ref 111, .float 114]) (rest2 := []) rfl rfl (sx_inv_v2 (mi := 211) (k := 243) (st := [.float 114, .ref 111]) (w := w2) rfl rfl hI3.1.o111 rfl rfl rfl) rfl rfl rfl (s213 (k := 114) hI3 (by decide) rfl (by decide)) (show _ = 73 from rfl) ?_
      rintro r4 w14 ⟨(rfl | rfl), hI15, hE17⟩
      · have hE16 := hE4.tr (hE17.ei)
        have ex18 := (congrArg (fun l => List.getD l 1 0) (ia_of (hE17.1 112 (by decide)))).trans ex12
        show sx_RP _ _ _ _ _ [.int 0] _ _
        refine sx_RP.step (pc2 := 82) (ls2 := [(0, .ref 111), (1, .int 2)]) (st2 := []) (w3 := w14) rfl rfl ?_
        refine sx_RP.step (pc2 := 85) (ls2 := [(1, .int 3), (0, .ref 111)]) (st2 := []) (w3 := w14) rfl rfl ?_
        refine sx_RP.step (pc2 := 32) (ls2 := [(1, .int 3), (0, .ref 111)]) (st2 := []) (w3 := w14) rfl rfl ?_
        exact sx_RP.ls (sx_lr.cons rfl (sx_lr.cons rfl sx_lr.nil)) (kk w14 hI15 hE16)
      · have hE16 := hE4.tr (hE17.ei)
        have ex19 := (congrArg (fun l => List.getD l 1 0) (ia_of (hE17.1 112 (by decide)))).trans ex12
        show sx_RP _ _ _ _ _ [.int 1] _ _
        refine sx_RP.step (pc2 := 76) (ls2 := [(0, .ref 111), (1, .int 2)]) (st2 := []) (w3 := w14) rfl rfl ?_
        refine sx_RP.step (pc2 := 77) (ls2 := [(0, .ref 111), (1, .int 2)]) (st2 := [.ref 111]) (w3 := w14) rfl rfl ?_
        refine sx_RP.step (pc2 := 78) (ls2 := [(0, .ref 111), (1, .int 2)]) (st2 := [.int 2, .ref 111]) (w3 := w14) rfl rfl ?_
        refine sx_RP.callp (as2 := [.ref 111, .int 2]) (rest2 := []) rfl rfl (sx_inv_v2 (mi := 211) (k := 323) (st := [.int 2, .ref 111]) (w := w14) rfl rfl hI15.1.o111 rfl rfl rfl) rfl rfl rfl (s227 hI15 (k := 2) (by omega) (by omega) ex19) (show _ = 81 from rfl) ?_
        rintro r4 w20 ⟨(rfl | rfl), hI21, hE23⟩
        · have hE22 := hE16.tr (hE23)
          show sx_RP _ _ _ _ _ [.int 0] _ _
          refine sx_RP.ret (r := (some (.int 0))) rfl rfl ?_
          exact ⟨Or.inl rfl, hI21, hE22⟩
        · have hE22 := hE16.tr (hE23)
          show sx_RP _ _ _ _ _ [.int 1] _ _
          refine sx_RP.ret (r := (some (.int 1))) rfl rfl ?_
          exact ⟨Or.inr rfl, hI21, hE22⟩
    · replace q13 := Decidable.not_not.mp (of_decide_eq_false q13)
      replace q13 := (nI_eq (a := x10) (b := 10) (by omega) (by omega)).mp q13
      refine sx_RP.step (pc2 := 61) (ls2 := [(0, .ref 111), (1, .int 2)]) (st2 := [.ref 111]) (w3 := w2) rfl rfl ?_
      refine sx_RP.callp (as2 := [.ref 111]) (rest2 := []) rfl rfl (sx_inv_v2 (mi := 211) (k := 245) (st := [.ref 111]) (w := w2) rfl rfl hI3.1.o111 rfl rfl rfl) rfl rfl rfl (s222 hI3) (show _ = 64 from rfl) ?_
      rintro r4 w24 ⟨rfl, hI25, hE27⟩
      have hE26 := hE4.tr (hE27.ei)
      have ex28 := (congrArg (fun l => List.getD l 1 0) (ia_of (hE27.1 112 (by decide)))).trans ex12
      show sx_RP _ _ _ _ _ [.int 0] _ _
      refine sx_RP.ret (r := (some (.int 0))) rfl rfl ?_
      exact ⟨Or.inl rfl, hI25, hE26⟩
set_option maxRecDepth 20000 in
set_option maxHeartbeats 4000000 in
theorem i211b3 {xs : Option (List Int32)} {d : Nat} {w w0 : List sx_C} (hI : WI w) (hE : EI w0 w) (kk : ∀ w2, WI w2 → EI w0 w2 → sx_RP xs (d + 7) 211 32 [(0, .ref 111), (1, .int 4)] [] w2 (fun r w2 => (r = some (.int 0) ∨ r = some (.int 1)) ∧ WI w2 ∧ EI w0 w2)) : sx_RP xs (d + 7) 211 32 [(0, .ref 111), (1, .int 3)] [] w (fun r w2 => (r = some (.int 0) ∨ r = some (.int 1)) ∧ WI w2 ∧ EI w0 w2) := by
  refine sx_RP.step (pc2 := 33) (ls2 := [(0, .ref 111), (1, .int 3)]) (st2 := [.int 3]) (w3 := w) rfl rfl ?_
  refine sx_RP.step (pc2 := 35) (ls2 := [(0, .ref 111), (1, .int 3)]) (st2 := [.int 6, .int 3]) (w3 := w) rfl rfl ?_
  refine sx_RP.step (pc2 := 38) (ls2 := [(0, .ref 111), (1, .int 3)]) (st2 := []) (w3 := w) rfl rfl ?_
  refine sx_RP.step (pc2 := 39) (ls2 := [(0, .ref 111), (1, .int 3)]) (st2 := [.ref 111]) (w3 := w) rfl rfl ?_
  refine sx_RP.step (pc2 := 40) (ls2 := [(0, .ref 111), (1, .int 3)]) (st2 := [.int 3, .ref 111]) (w3 := w) rfl rfl ?_
  refine sx_RP.cu (as := [.int 3]) (rest2 := [.ref 111]) (st3 := [.float 107, .ref 111]) rfl rfl rfl rfl rfl (p226_3) rfl ?_
  refine sx_RP.callp (as2 := [.ref 111, .float 107]) (rest2 := []) rfl rfl (sx_inv_v2 (mi := 211) (k := 239) (st := [.float 107, .ref 111]) (w := w) rfl rfl hI.1.o111 rfl rfl rfl) rfl rfl rfl (s214i (k := 107) hI (by decide) rfl (by decide)) (show _ = 46 from rfl) ?_
  rintro r4 w2 ⟨(⟨rfl, hc1⟩ | rfl), hI3, hE5⟩
  · have hE4 := hE.tr (hE5.ei)
    show sx_RP _ _ _ _ _ [.int 0] _ _
    refine sx_RP.step (pc2 := 65) (ls2 := [(0, .ref 111), (1, .int 3)]) (st2 := []) (w3 := w2) rfl rfl ?_
    refine sx_RP.step (pc2 := 66) (ls2 := [(0, .ref 111), (1, .int 3)]) (st2 := [.ref 111]) (w3 := w2) rfl rfl ?_
    refine sx_RP.step (pc2 := 67) (ls2 := [(0, .ref 111), (1, .int 3)]) (st2 := [.int 3, .ref 111]) (w3 := w2) rfl rfl ?_
    refine sx_RP.cu (as := [.int 3]) (rest2 := [.ref 111]) (st3 := [.float 107, .ref 111]) rfl rfl rfl rfl rfl (p226_3) rfl ?_
    refine sx_RP.callp (as2 := [.ref 111, .float 107]) (rest2 := []) rfl rfl (sx_inv_v2 (mi := 211) (k := 243) (st := [.float 107, .ref 111]) (w := w2) rfl rfl hI3.1.o111 rfl rfl rfl) rfl rfl rfl (s213z (k := 107) hI3 (by decide) rfl (by decide) (hc1 _)) (show _ = 73 from rfl) ?_
    rintro r4 w6 ⟨rfl, hI7, hE9⟩
    have hE8 := hE4.tr (hE9.ei)
    show sx_RP _ _ _ _ _ [.int 0] _ _
    refine sx_RP.step (pc2 := 82) (ls2 := [(0, .ref 111), (1, .int 3)]) (st2 := []) (w3 := w6) rfl rfl ?_
    refine sx_RP.step (pc2 := 85) (ls2 := [(1, .int 4), (0, .ref 111)]) (st2 := []) (w3 := w6) rfl rfl ?_
    refine sx_RP.step (pc2 := 32) (ls2 := [(1, .int 4), (0, .ref 111)]) (st2 := []) (w3 := w6) rfl rfl ?_
    exact sx_RP.ls (sx_lr.cons rfl (sx_lr.cons rfl sx_lr.nil)) (kk w6 hI7 hE8)
  · have hE4 := hE.tr (hE5.ei)
    show sx_RP _ _ _ _ _ [.int 1] _ _
    refine sx_RP.step (pc2 := 49) (ls2 := [(0, .ref 111), (1, .int 3)]) (st2 := []) (w3 := w2) rfl rfl ?_
    refine sx_RP.step (pc2 := 50) (ls2 := [(0, .ref 111), (1, .int 3)]) (st2 := [.ref 111]) (w3 := w2) rfl rfl ?_
    refine sx_RP.gf (v := .ref 112) rfl rfl hI3.1.o111 rfl rfl (show _ = 53 from rfl) ?_
    refine sx_RP.step (pc2 := 54) (ls2 := [(0, .ref 111), (1, .int 3)]) (st2 := [.int 1, .ref 112]) (w3 := w2) rfl rfl ?_
    refine sx_RP.ild (c := 1) rfl hI3.1.a112.1 hI3.1.a112.2 (sx_in_nI (show 1 < 172 by omega) (by decide)) (show (nI 1).toNatClampNeg = 1 from nI_clamp (by omega)) (show _ = 55 from rfl) ?_
    obtain ⟨x10, hx11, ex12⟩ : inR ((ia w2 112).getD 1 0) 10 := (hI3.s (1) (by omega)).1 rfl
    rw [ex12]
    refine sx_RP.step (pc2 := 57) (ls2 := [(0, .ref 111), (1, .int 3)]) (st2 := [.int 10, .int (nI x10)]) (w3 := w2) rfl rfl ?_
    refine sx_RP.br (p1 := 65) (l1 := [(0, .ref 111), (1, .int 3)]) (s1 := []) (v1 := w2) (p2 := 60) (l2 := [(0, .ref 111), (1, .int 3)]) (s2 := []) (v2 := w2) rfl rfl (fun q13 => ?_) (fun q13 => ?_)
    · replace q13 := of_decide_eq_true q13
      replace q13 := mt (nI_eq (a := x10) (b := 10) (by omega) (by omega)).mpr q13
      refine sx_RP.step (pc2 := 66) (ls2 := [(0, .ref 111), (1, .int 3)]) (st2 := [.ref 111]) (w3 := w2) rfl rfl ?_
      refine sx_RP.step (pc2 := 67) (ls2 := [(0, .ref 111), (1, .int 3)]) (st2 := [.int 3, .ref 111]) (w3 := w2) rfl rfl ?_
      refine sx_RP.cu (as := [.int 3]) (rest2 := [.ref 111]) (st3 := [.float 107, .ref 111]) rfl rfl rfl rfl rfl (p226_3) rfl ?_
      refine sx_RP.callp (as2 := [.ref 111, .float 107]) (rest2 := []) rfl rfl (sx_inv_v2 (mi := 211) (k := 243) (st := [.float 107, .ref 111]) (w := w2) rfl rfl hI3.1.o111 rfl rfl rfl) rfl rfl rfl (s213 (k := 107) hI3 (by decide) rfl (by decide)) (show _ = 73 from rfl) ?_
      rintro r4 w14 ⟨(rfl | rfl), hI15, hE17⟩
      · have hE16 := hE4.tr (hE17.ei)
        have ex18 := (congrArg (fun l => List.getD l 1 0) (ia_of (hE17.1 112 (by decide)))).trans ex12
        show sx_RP _ _ _ _ _ [.int 0] _ _
        refine sx_RP.step (pc2 := 82) (ls2 := [(0, .ref 111), (1, .int 3)]) (st2 := []) (w3 := w14) rfl rfl ?_
        refine sx_RP.step (pc2 := 85) (ls2 := [(1, .int 4), (0, .ref 111)]) (st2 := []) (w3 := w14) rfl rfl ?_
        refine sx_RP.step (pc2 := 32) (ls2 := [(1, .int 4), (0, .ref 111)]) (st2 := []) (w3 := w14) rfl rfl ?_
        exact sx_RP.ls (sx_lr.cons rfl (sx_lr.cons rfl sx_lr.nil)) (kk w14 hI15 hE16)
      · have hE16 := hE4.tr (hE17.ei)
        have ex19 := (congrArg (fun l => List.getD l 1 0) (ia_of (hE17.1 112 (by decide)))).trans ex12
        show sx_RP _ _ _ _ _ [.int 1] _ _
        refine sx_RP.step (pc2 := 76) (ls2 := [(0, .ref 111), (1, .int 3)]) (st2 := []) (w3 := w14) rfl rfl ?_
        refine sx_RP.step (pc2 := 77) (ls2 := [(0, .ref 111), (1, .int 3)]) (st2 := [.ref 111]) (w3 := w14) rfl rfl ?_
        refine sx_RP.step (pc2 := 78) (ls2 := [(0, .ref 111), (1, .int 3)]) (st2 := [.int 3, .ref 111]) (w3 := w14) rfl rfl ?_
        refine sx_RP.callp (as2 := [.ref 111, .int 3]) (rest2 := []) rfl rfl (sx_inv_v2 (mi := 211) (k := 323) (st := [.int 3, .ref 111]) (w := w14) rfl rfl hI15.1.o111 rfl rfl rfl) rfl rfl rfl (s227 hI15 (k := 3) (by omega) (by omega) ex19) (show _ = 81 from rfl) ?_
        rintro r4 w20 ⟨(rfl | rfl), hI21, hE23⟩
        · have hE22 := hE16.tr (hE23)
          show sx_RP _ _ _ _ _ [.int 0] _ _
          refine sx_RP.ret (r := (some (.int 0))) rfl rfl ?_
          exact ⟨Or.inl rfl, hI21, hE22⟩
        · have hE22 := hE16.tr (hE23)
          show sx_RP _ _ _ _ _ [.int 1] _ _
          refine sx_RP.ret (r := (some (.int 1))) rfl rfl ?_
          exact ⟨Or.inr rfl, hI21, hE22⟩
    · replace q13 := Decidable.not_not.mp (of_decide_eq_false q13)
      replace q13 := (nI_eq (a := x10) (b := 10) (by omega) (by omega)).mp q13
      refine sx_RP.step (pc2 := 61) (ls2 := [(0, .ref 111), (1, .int 3)]) (st2 := [.ref 111]) (w3 := w2) rfl rfl ?_
      refine sx_RP.callp (as2 := [.ref 111]) (rest2 := []) rfl rfl (sx_inv_v2 (mi := 211) (k := 245) (st := [.ref 111]) (w := w2) rfl rfl hI3.1.o111 rfl rfl rfl) rfl rfl rfl (s222 hI3) (show _ = 64 from rfl) ?_
      rintro r4 w24 ⟨rfl, hI25, hE27⟩
      have hE26 := hE4.tr (hE27.ei)
      have ex28 := (congrArg (fun l => List.getD l 1 0) (ia_of (hE27.1 112 (by decide)))).trans ex12
      show sx_RP _ _ _ _ _ [.int 0] _ _
      refine sx_RP.ret (r := (some (.int 0))) rfl rfl ?_
      exact ⟨Or.inl rfl, hI25, hE26⟩
set_option maxRecDepth 20000 in
set_option maxHeartbeats 4000000 in
theorem i211b4 {xs : Option (List Int32)} {d : Nat} {w w0 : List sx_C} (hI : WI w) (hE : EI w0 w) (kk : ∀ w2, WI w2 → EI w0 w2 → sx_RP xs (d + 7) 211 32 [(0, .ref 111), (1, .int 5)] [] w2 (fun r w2 => (r = some (.int 0) ∨ r = some (.int 1)) ∧ WI w2 ∧ EI w0 w2)) : sx_RP xs (d + 7) 211 32 [(0, .ref 111), (1, .int 4)] [] w (fun r w2 => (r = some (.int 0) ∨ r = some (.int 1)) ∧ WI w2 ∧ EI w0 w2) := by
  refine sx_RP.step (pc2 := 33) (ls2 := [(0, .ref 111), (1, .int 4)]) (st2 := [.int 4]) (w3 := w) rfl rfl ?_
  refine sx_RP.step (pc2 := 35) (ls2 := [(0, .ref 111), (1, .int 4)]) (st2 := [.int 6, .int 4]) (w3 := w) rfl rfl ?_
  refine sx_RP.step (pc2 := 38) (ls2 := [(0, .ref 111), (1, .int 4)]) (st2 := []) (w3 := w) rfl rfl ?_
  refine sx_RP.step (pc2 := 39) (ls2 := [(0, .ref 111), (1, .int 4)]) (st2 := [.ref 111]) (w3 := w) rfl rfl ?_
  refine sx_RP.step (pc2 := 40) (ls2 := [(0, .ref 111), (1, .int 4)]) (st2 := [.int 4, .ref 111]) (w3 := w) rfl rfl ?_
  refine sx_RP.cu (as := [.int 4]) (rest2 := [.ref 111]) (st3 := [.float 105, .ref 111]) rfl rfl rfl rfl rfl (p226_4) rfl ?_
  refine sx_RP.callp (as2 := [.ref 111, .float 105]) (rest2 := []) rfl rfl (sx_inv_v2 (mi := 211) (k := 239) (st := [.float 105, .ref 111]) (w := w) rfl rfl hI.1.o111 rfl rfl rfl) rfl rfl rfl (s214i (k := 105) hI (by decide) rfl (by decide)) (show _ = 46 from rfl) ?_
  rintro r4 w2 ⟨(⟨rfl, hc1⟩ | rfl), hI3, hE5⟩
  · have hE4 := hE.tr (hE5.ei)
    show sx_RP _ _ _ _ _ [.int 0] _ _
    refine sx_RP.step (pc2 := 65) (ls2 := [(0, .ref 111), (1, .int 4)]) (st2 := []) (w3 := w2) rfl rfl ?_
    refine sx_RP.step (pc2 := 66) (ls2 := [(0, .ref 111), (1, .int 4)]) (st2 := [.ref 111]) (w3 := w2) rfl rfl ?_
    refine sx_RP.step (pc2 := 67) (ls2 := [(0, .ref 111), (1, .int 4)]) (st2 := [.int 4, .ref 111]) (w3 := w2) rfl rfl ?_
    refine sx_RP.cu (as := [.int 4]) (rest2 := [.ref 111]) (st3 := [.float 105, .ref 111]) rfl rfl rfl rfl rfl (p226_4) rfl ?_
    refine sx_RP.callp (as2 := [.ref 111, .float 105]) (rest2 := []) rfl rfl (sx_inv_v2 (mi := 211) (k := 243) (st := [.float 105, .ref 111]) (w := w2) rfl rfl hI3.1.o111 rfl rfl rfl) rfl rfl rfl (s213z (k := 105) hI3 (by decide) rfl (by decide) (hc1 _)) (show _ = 73 from rfl) ?_
    rintro r4 w6 ⟨rfl, hI7, hE9⟩
    have hE8 := hE4.tr (hE9.ei)
    show sx_RP _ _ _ _ _ [.int 0] _ _
    refine sx_RP.step (pc2 := 82) (ls2 := [(0, .ref 111), (1, .int 4)]) (st2 := []) (w3 := w6) rfl rfl ?_
    refine sx_RP.step (pc2 := 85) (ls2 := [(1, .int 5), (0, .ref 111)]) (st2 := []) (w3 := w6) rfl rfl ?_
    refine sx_RP.step (pc2 := 32) (ls2 := [(1, .int 5), (0, .ref 111)]) (st2 := []) (w3 := w6) rfl rfl ?_
    exact sx_RP.ls (sx_lr.cons rfl (sx_lr.cons rfl sx_lr.nil)) (kk w6 hI7 hE8)
  · have hE4 := hE.tr (hE5.ei)
    show sx_RP _ _ _ _ _ [.int 1] _ _
    refine sx_RP.step (pc2 := 49) (ls2 := [(0, .ref 111), (1, .int 4)]) (st2 := []) (w3 := w2) rfl rfl ?_
    refine sx_RP.step (pc2 := 50) (ls2 := [(0, .ref 111), (1, .int 4)]) (st2 := [.ref 111]) (w3 := w2) rfl rfl ?_
    refine sx_RP.gf (v := .ref 112) rfl rfl hI3.1.o111 rfl rfl (show _ = 53 from rfl) ?_
    refine sx_RP.step (pc2 := 54) (ls2 := [(0, .ref 111), (1, .int 4)]) (st2 := [.int 1, .ref 112]) (w3 := w2) rfl rfl ?_
    refine sx_RP.ild (c := 1) rfl hI3.1.a112.1 hI3.1.a112.2 (sx_in_nI (show 1 < 172 by omega) (by decide)) (show (nI 1).toNatClampNeg = 1 from nI_clamp (by omega)) (show _ = 55 from rfl) ?_
    obtain ⟨x10, hx11, ex12⟩ : inR ((ia w2 112).getD 1 0) 10 := (hI3.s (1) (by omega)).1 rfl
    rw [ex12]
    refine sx_RP.step (pc2 := 57) (ls2 := [(0, .ref 111), (1, .int 4)]) (st2 := [.int 10, .int (nI x10)]) (w3 := w2) rfl rfl ?_
    refine sx_RP.br (p1 := 65) (l1 := [(0, .ref 111), (1, .int 4)]) (s1 := []) (v1 := w2) (p2 := 60) (l2 := [(0, .ref 111), (1, .int 4)]) (s2 := []) (v2 := w2) rfl rfl (fun q13 => ?_) (fun q13 => ?_)
    · replace q13 := of_decide_eq_true q13
      replace q13 := mt (nI_eq (a := x10) (b := 10) (by omega) (by omega)).mpr q13
      refine sx_RP.step (pc2 := 66) (ls2 := [(0, .ref 111), (1, .int 4)]) (st2 := [.ref 111]) (w3 := w2) rfl rfl ?_
      refine sx_RP.step (pc2 := 67) (ls2 := [(0, .ref 111), (1, .int 4)]) (st2 := [.int 4, .ref 111]) (w3 := w2) rfl rfl ?_
      refine sx_RP.cu (as := [.int 4]) (rest2 := [.ref 111]) (st3 := [.float 105, .ref 111]) rfl rfl rfl rfl rfl (p226_4) rfl ?_
      refine sx_RP.callp (as2 := [.ref 111, .float 105]) (rest2 := []) rfl rfl (sx_inv_v2 (mi := 211) (k := 243) (st := [.float 105, .ref 111]) (w := w2) rfl rfl hI3.1.o111 rfl rfl rfl) rfl rfl rfl (s213 (k := 105) hI3 (by decide) rfl (by decide)) (show _ = 73 from rfl) ?_
      rintro r4 w14 ⟨(rfl | rfl), hI15, hE17⟩
      · have hE16 := hE4.tr (hE17.ei)
        have ex18 := (congrArg (fun l => List.getD l 1 0) (ia_of (hE17.1 112 (by decide)))).trans ex12
        show sx_RP _ _ _ _ _ [.int 0] _ _
        refine sx_RP.step (pc2 := 82) (ls2 := [(0, .ref 111), (1, .int 4)]) (st2 := []) (w3 := w14) rfl rfl ?_
        refine sx_RP.step (pc2 := 85) (ls2 := [(1, .int 5), (0, .ref 111)]) (st2 := []) (w3 := w14) rfl rfl ?_
        refine sx_RP.step (pc2 := 32) (ls2 := [(1, .int 5), (0, .ref 111)]) (st2 := []) (w3 := w14) rfl rfl ?_
        exact sx_RP.ls (sx_lr.cons rfl (sx_lr.cons rfl sx_lr.nil)) (kk w14 hI15 hE16)
      · have hE16 := hE4.tr (hE17.ei)
        have ex19 := (congrArg (fun l => List.getD l 1 0) (ia_of (hE17.1 112 (by decide)))).trans ex12
        show sx_RP _ _ _ _ _ [.int 1] _ _
        refine sx_RP.step (pc2 := 76) (ls2 := [(0, .ref 111), (1, .int 4)]) (st2 := []) (w3 := w14) rfl rfl ?_
        refine sx_RP.step (pc2 := 77) (ls2 := [(0, .ref 111), (1, .int 4)]) (st2 := [.ref 111]) (w3 := w14) rfl rfl ?_
        refine sx_RP.step (pc2 := 78) (ls2 := [(0, .ref 111), (1, .int 4)]) (st2 := [.int 4, .ref 111]) (w3 := w14) rfl rfl ?_
        refine sx_RP.callp (as2 := [.ref 111, .int 4]) (rest2 := []) rfl rfl (sx_inv_v2 (mi := 211) (k := 323) (st := [.int 4, .ref 111]) (w := w14) rfl rfl hI15.1.o111 rfl rfl rfl) rfl rfl rfl (s227 hI15 (k := 4) (by omega) (by omega) ex19) (show _ = 81 from rfl) ?_
        rintro r4 w20 ⟨(rfl | rfl), hI21, hE23⟩
        · have hE22 := hE16.tr (hE23)
          show sx_RP _ _ _ _ _ [.int 0] _ _
          refine sx_RP.ret (r := (some (.int 0))) rfl rfl ?_
          exact ⟨Or.inl rfl, hI21, hE22⟩
        · have hE22 := hE16.tr (hE23)
          show sx_RP _ _ _ _ _ [.int 1] _ _
          refine sx_RP.ret (r := (some (.int 1))) rfl rfl ?_
          exact ⟨Or.inr rfl, hI21, hE22⟩
    · replace q13 := Decidable.not_not.mp (of_decide_eq_false q13)
      replace q13 := (nI_eq (a := x10) (b := 10) (by omega) (by omega)).mp q13
      refine sx_RP.step (pc2 := 61) (ls2 := [(0, .ref 111), (1, .int 4)]) (st2 := [.ref 111]) (w3 := w2) rfl rfl ?_
      refine sx_RP.callp (as2 := [.ref 111]) (rest2 := []) rfl rfl (sx_inv_v2 (mi := 211) (k := 245) (st := [.ref 111]) (w := w2) rfl rfl hI3.1.o111 rfl rfl rfl) rfl rfl rfl (s222 hI3) (show _ = 64 from rfl) ?_
      rintro r4 w24 ⟨rfl, hI25, hE27⟩
      have hE26 := hE4.tr (hE27.ei)
      have ex28 := (congrArg (fun l => List.getD l 1 0) (ia_of (hE27.1 112 (by decide)))).trans ex12
      show sx_RP _ _ _ _ _ [.int 0] _ _
      refine sx_RP.ret (r := (some (.int 0))) rfl rfl ?_
      exact ⟨Or.inl rfl, hI25, hE26⟩
set_option maxRecDepth 20000 in
set_option maxHeartbeats 4000000 in
theorem i211b5 {xs : Option (List Int32)} {d : Nat} {w w0 : List sx_C} (hI : WI w) (hE : EI w0 w) (kk : ∀ w2, WI w2 → EI w0 w2 → sx_RP xs (d + 7) 211 32 [(0, .ref 111), (1, .int 6)] [] w2 (fun r w2 => (r = some (.int 0) ∨ r = some (.int 1)) ∧ WI w2 ∧ EI w0 w2)) : sx_RP xs (d + 7) 211 32 [(0, .ref 111), (1, .int 5)] [] w (fun r w2 => (r = some (.int 0) ∨ r = some (.int 1)) ∧ WI w2 ∧ EI w0 w2) := by
  refine sx_RP.step (pc2 := 33) (ls2 := [(0, .ref 111), (1, .int 5)]) (st2 := [.int 5]) (w3 := w) rfl rfl ?_
  refine sx_RP.step (pc2 := 35) (ls2 := [(0, .ref 111), (1, .int 5)]) (st2 := [.int 6, .int 5]) (w3 := w) rfl rfl ?_
  refine sx_RP.step (pc2 := 38) (ls2 := [(0, .ref 111), (1, .int 5)]) (st2 := []) (w3 := w) rfl rfl ?_
  refine sx_RP.step (pc2 := 39) (ls2 := [(0, .ref 111), (1, .int 5)]) (st2 := [.ref 111]) (w3 := w) rfl rfl ?_
  refine sx_RP.step (pc2 := 40) (ls2 := [(0, .ref 111), (1, .int 5)]) (st2 := [.int 5, .ref 111]) (w3 := w) rfl rfl ?_
  refine sx_RP.cu (as := [.int 5]) (rest2 := [.ref 111]) (st3 := [.float 103, .ref 111]) rfl rfl rfl rfl rfl (p226_5) rfl ?_
  refine sx_RP.callp (as2 := [.ref 111, .float 103]) (rest2 := []) rfl rfl (sx_inv_v2 (mi := 211) (k := 239) (st := [.float 103, .ref 111]) (w := w) rfl rfl hI.1.o111 rfl rfl rfl) rfl rfl rfl (s214i (k := 103) hI (by decide) rfl (by decide)) (show _ = 46 from rfl) ?_
  rintro r4 w2 ⟨(⟨rfl, hc1⟩ | rfl), hI3, hE5⟩
  · have hE4 := hE.tr (hE5.ei)
    show sx_RP _ _ _ _ _ [.int 0] _ _
    refine sx_RP.step (pc2 := 65) (ls2 := [(0, .ref 111), (1, .int 5)]) (st2 := []) (w3 := w2) rfl rfl ?_
    refine sx_RP.step (pc2 := 66) (ls2 := [(0, .ref 111), (1, .int 5)]) (st2 := [.ref 111]) (w3 := w2) rfl rfl ?_
    refine sx_RP.step (pc2 := 67) (ls2 := [(0, .ref 111), (1, .int 5)]) (st2 := [.int 5, .ref 111]) (w3 := w2) rfl rfl ?_
    refine sx_RP.cu (as := [.int 5]) (rest2 := [.ref 111]) (st3 := [.float 103, .ref 111]) rfl rfl rfl rfl rfl (p226_5) rfl ?_
    refine sx_RP.callp (as2 := [.ref 111, .float 103]) (rest2 := []) rfl rfl (sx_inv_v2 (mi := 211) (k := 243) (st := [.float 103, .ref 111]) (w := w2) rfl rfl hI3.1.o111 rfl rfl rfl) rfl rfl rfl (s213z (k := 103) hI3 (by decide) rfl (by decide) (hc1 _)) (show _ = 73 from rfl) ?_
    rintro r4 w6 ⟨rfl, hI7, hE9⟩
    have hE8 := hE4.tr (hE9.ei)
    show sx_RP _ _ _ _ _ [.int 0] _ _
    refine sx_RP.step (pc2 := 82) (ls2 := [(0, .ref 111), (1, .int 5)]) (st2 := []) (w3 := w6) rfl rfl ?_
    refine sx_RP.step (pc2 := 85) (ls2 := [(1, .int 6), (0, .ref 111)]) (st2 := []) (w3 := w6) rfl rfl ?_
    refine sx_RP.step (pc2 := 32) (ls2 := [(1, .int 6), (0, .ref 111)]) (st2 := []) (w3 := w6) rfl rfl ?_
    exact sx_RP.ls (sx_lr.cons rfl (sx_lr.cons rfl sx_lr.nil)) (kk w6 hI7 hE8)
  · have hE4 := hE.tr (hE5.ei)
    show sx_RP _ _ _ _ _ [.int 1] _ _
    refine sx_RP.step (pc2 := 49) (ls2 := [(0, .ref 111), (1, .int 5)]) (st2 := []) (w3 := w2) rfl rfl ?_
    refine sx_RP.step (pc2 := 50) (ls2 := [(0, .ref 111), (1, .int 5)]) (st2 := [.ref 111]) (w3 := w2) rfl rfl ?_
    refine sx_RP.gf (v := .ref 112) rfl rfl hI3.1.o111 rfl rfl (show _ = 53 from rfl) ?_
    refine sx_RP.step (pc2 := 54) (ls2 := [(0, .ref 111), (1, .int 5)]) (st2 := [.int 1, .ref 112]) (w3 := w2) rfl rfl ?_
    refine sx_RP.ild (c := 1) rfl hI3.1.a112.1 hI3.1.a112.2 (sx_in_nI (show 1 < 172 by omega) (by decide)) (show (nI 1).toNatClampNeg = 1 from nI_clamp (by omega)) (show _ = 55 from rfl) ?_
    obtain ⟨x10, hx11, ex12⟩ : inR ((ia w2 112).getD 1 0) 10 := (hI3.s (1) (by omega)).1 rfl
    rw [ex12]
    refine sx_RP.step (pc2 := 57) (ls2 := [(0, .ref 111), (1, .int 5)]) (st2 := [.int 10, .int (nI x10)]) (w3 := w2) rfl rfl ?_
    refine sx_RP.br (p1 := 65) (l1 := [(0, .ref 111), (1, .int 5)]) (s1 := []) (v1 := w2) (p2 := 60) (l2 := [(0, .ref 111), (1, .int 5)]) (s2 := []) (v2 := w2) rfl rfl (fun q13 => ?_) (fun q13 => ?_)
    · replace q13 := of_decide_eq_true q13
      replace q13 := mt (nI_eq (a := x10) (b := 10) (by omega) (by omega)).mpr q13
      refine sx_RP.step (pc2 := 66) (ls2 := [(0, .ref 111), (1, .int 5)]) (st2 := [.ref 111]) (w3 := w2) rfl rfl ?_
      refine sx_RP.step (pc2 := 67) (ls2 := [(0, .ref 111), (1, .int 5)]) (st2 := [.int 5, .ref 111]) (w3 := w2) rfl rfl ?_
      refine sx_RP.cu (as := [.int 5]) (rest2 := [.ref 111]) (st3 := [.float 103, .ref 111]) rfl rfl rfl rfl rfl (p226_5) rfl ?_
      refine sx_RP.callp (as2 := [.ref 111, .float 103]) (rest2 := []) rfl rfl (sx_inv_v2 (mi := 211) (k := 243) (st := [.float 103, .ref 111]) (w := w2) rfl rfl hI3.1.o111 rfl rfl rfl) rfl rfl rfl (s213 (k := 103) hI3 (by decide) rfl (by decide)) (show _ = 73 from rfl) ?_
      rintro r4 w14 ⟨(rfl | rfl), hI15, hE17⟩
      · have hE16 := hE4.tr (hE17.ei)
        have ex18 := (congrArg (fun l => List.getD l 1 0) (ia_of (hE17.1 112 (by decide)))).trans ex12
        show sx_RP _ _ _ _ _ [.int 0] _ _
        refine sx_RP.step (pc2 := 82) (ls2 := [(0, .ref 111), (1, .int 5)]) (st2 := []) (w3 := w14) rfl rfl ?_
        refine sx_RP.step (pc2 := 85) (ls2 := [(1, .int 6), (0, .ref 111)]) (st2 := []) (w3 := w14) rfl rfl ?_
        refine sx_RP.step (pc2 := 32) (ls2 := [(1, .int 6), (0, .ref 111)]) (st2 := []) (w3 := w14) rfl rfl ?_
        exact sx_RP.ls (sx_lr.cons rfl (sx_lr.cons rfl sx_lr.nil)) (kk w14 hI15 hE16)
      · have hE16 := hE4.tr (hE17.ei)
        have ex19 := (congrArg (fun l => List.getD l 1 0) (ia_of (hE17.1 112 (by decide)))).trans ex12
        show sx_RP _ _ _ _ _ [.int 1] _ _
        refine sx_RP.step (pc2 := 76) (ls2 := [(0, .ref 111), (1, .int 5)]) (st2 := []) (w3 := w14) rfl rfl ?_
        refine sx_RP.step (pc2 := 77) (ls2 := [(0, .ref 111), (1, .int 5)]) (st2 := [.ref 111]) (w3 := w14) rfl rfl ?_
        refine sx_RP.step (pc2 := 78) (ls2 := [(0, .ref 111), (1, .int 5)]) (st2 := [.int 5, .ref 111]) (w3 := w14) rfl rfl ?_
        refine sx_RP.callp (as2 := [.ref 111, .int 5]) (rest2 := []) rfl rfl (sx_inv_v2 (mi := 211) (k := 323) (st := [.int 5, .ref 111]) (w := w14) rfl rfl hI15.1.o111 rfl rfl rfl) rfl rfl rfl (s227 hI15 (k := 5) (by omega) (by omega) ex19) (show _ = 81 from rfl) ?_
        rintro r4 w20 ⟨(rfl | rfl), hI21, hE23⟩
        · have hE22 := hE16.tr (hE23)
          show sx_RP _ _ _ _ _ [.int 0] _ _
          refine sx_RP.ret (r := (some (.int 0))) rfl rfl ?_
          exact ⟨Or.inl rfl, hI21, hE22⟩
        · have hE22 := hE16.tr (hE23)
          show sx_RP _ _ _ _ _ [.int 1] _ _
          refine sx_RP.ret (r := (some (.int 1))) rfl rfl ?_
          exact ⟨Or.inr rfl, hI21, hE22⟩
    · replace q13 := Decidable.not_not.mp (of_decide_eq_false q13)
      replace q13 := (nI_eq (a := x10) (b := 10) (by omega) (by omega)).mp q13
      refine sx_RP.step (pc2 := 61) (ls2 := [(0, .ref 111), (1, .int 5)]) (st2 := [.ref 111]) (w3 := w2) rfl rfl ?_
      refine sx_RP.callp (as2 := [.ref 111]) (rest2 := []) rfl rfl (sx_inv_v2 (mi := 211) (k := 245) (st := [.ref 111]) (w := w2) rfl rfl hI3.1.o111 rfl rfl rfl) rfl rfl rfl (s222 hI3) (show _ = 64 from rfl) ?_
      rintro r4 w24 ⟨rfl, hI25, hE27⟩
      have hE26 := hE4.tr (hE27.ei)
      have ex28 := (congrArg (fun l => List.getD l 1 0) (ia_of (hE27.1 112 (by decide)))).trans ex12
      show sx_RP _ _ _ _ _ [.int 0] _ _
      refine sx_RP.ret (r := (some (.int 0))) rfl rfl ?_
      exact ⟨Or.inl rfl, hI25, hE26⟩
set_option maxRecDepth 20000 in
set_option maxHeartbeats 4000000 in
theorem i211b6 {xs : Option (List Int32)} {d : Nat} {w w0 : List sx_C} (hI : WI w) (hE : EI w0 w) (kk : ∀ w2, WI w2 → EI w0 w2 → sx_RP xs (d + 7) 211 88 [(0, .ref 111)] [] w2 (fun r w2 => (r = some (.int 0) ∨ r = some (.int 1)) ∧ WI w2 ∧ EI w0 w2)) : sx_RP xs (d + 7) 211 32 [(0, .ref 111), (1, .int 6)] [] w (fun r w2 => (r = some (.int 0) ∨ r = some (.int 1)) ∧ WI w2 ∧ EI w0 w2) := by
  refine sx_RP.step (pc2 := 33) (ls2 := [(0, .ref 111), (1, .int 6)]) (st2 := [.int 6]) (w3 := w) rfl rfl ?_
  refine sx_RP.step (pc2 := 35) (ls2 := [(0, .ref 111), (1, .int 6)]) (st2 := [.int 6, .int 6]) (w3 := w) rfl rfl ?_
  refine sx_RP.step (pc2 := 88) (ls2 := [(0, .ref 111), (1, .int 6)]) (st2 := []) (w3 := w) rfl rfl ?_
  exact sx_RP.ls (sx_lr.cons rfl sx_lr.nil) (kk w hI hE)
set_option maxRecDepth 20000 in
set_option maxHeartbeats 4000000 in
theorem i211d {xs : Option (List Int32)} {d : Nat} {w w0 : List sx_C} (hI : WI w) (hE : EI w0 w) : sx_RP xs (d + 7) 211 88 [(0, .ref 111)] [] w (fun r w2 => (r = some (.int 0) ∨ r = some (.int 1)) ∧ WI w2 ∧ EI w0 w2) := by
  refine sx_RP.step (pc2 := 89) (ls2 := [(0, .ref 111)]) (st2 := [.ref 111]) (w3 := w) rfl rfl ?_
  refine sx_RP.step (pc2 := 92) (ls2 := [(0, .ref 111)]) (st2 := [.float 104, .ref 111]) (w3 := w) rfl rfl ?_
  refine sx_RP.callp (as2 := [.ref 111, .float 104]) (rest2 := []) rfl rfl (sx_inv_v2 (mi := 211) (k := 239) (st := [.float 104, .ref 111]) (w := w) rfl rfl hI.1.o111 rfl rfl rfl) rfl rfl rfl (s214i (k := 104) hI (by decide) rfl (by decide)) (show _ = 95 from rfl) ?_
  rintro r4 w2 ⟨(⟨rfl, hc1⟩ | rfl), hI3, hE5⟩
  · have hE4 := hE.tr (hE5.ei)
    show sx_RP _ _ _ _ _ [.int 0] _ _
    refine sx_RP.step (pc2 := 114) (ls2 := [(0, .ref 111)]) (st2 := []) (w3 := w2) rfl rfl ?_
    refine sx_RP.step (pc2 := 115) (ls2 := [(0, .ref 111)]) (st2 := [.ref 111]) (w3 := w2) rfl rfl ?_
    refine sx_RP.step (pc2 := 118) (ls2 := [(0, .ref 111)]) (st2 := [.float 104, .ref 111]) (w3 := w2) rfl rfl ?_
    refine sx_RP.callp (as2 := [.ref 111, .float 104]) (rest2 := []) rfl rfl (sx_inv_v2 (mi := 211) (k := 243) (st := [.float 104, .ref 111]) (w := w2) rfl rfl hI3.1.o111 rfl rfl rfl) rfl rfl rfl (s213z (k := 104) hI3 (by decide) rfl (by decide) (hc1 _)) (show _ = 121 from rfl) ?_
    rintro r4 w6 ⟨rfl, hI7, hE9⟩
    have hE8 := hE4.tr (hE9.ei)
    show sx_RP _ _ _ _ _ [.int 0] _ _
    refine sx_RP.step (pc2 := 167) (ls2 := [(0, .ref 111)]) (st2 := []) (w3 := w6) rfl rfl ?_
    refine sx_RP.step (pc2 := 168) (ls2 := [(0, .ref 111)]) (st2 := [.ref 111]) (w3 := w6) rfl rfl ?_
    refine sx_RP.step (pc2 := 171) (ls2 := [(0, .ref 111)]) (st2 := [.float 101, .ref 111]) (w3 := w6) rfl rfl ?_
    refine sx_RP.callp (as2 := [.ref 111, .float 101]) (rest2 := []) rfl rfl (sx_inv_v2 (mi := 211) (k := 282) (st := [.float 101, .ref 111]) (w := w6) rfl rfl hI7.1.o111 rfl rfl rfl) rfl rfl rfl (s228 (k := 101) hI7 (by decide) rfl (by decide)) (show _ = 174 from rfl) ?_
    rintro r4 w10 ⟨(rfl | rfl), hI11, hE13⟩
    · have hE12 := hE8.tr (hE13.ei)
      show sx_RP _ _ _ _ _ [.int 0] _ _
      refine sx_RP.step (pc2 := 188) (ls2 := [(0, .ref 111)]) (st2 := []) (w3 := w10) rfl rfl ?_
      refine sx_RP.step (pc2 := 189) (ls2 := [(0, .ref 111)]) (st2 := [.int 0]) (w3 := w10) rfl rfl ?_
      refine sx_RP.ret (r := (some (.int 0))) rfl rfl ?_
      exact ⟨Or.inl rfl, hI11, hE12⟩
    · have hE12 := hE8.tr (hE13.ei)
      show sx_RP _ _ _ _ _ [.int 1] _ _
      refine sx_RP.step (pc2 := 177) (ls2 := [(0, .ref 111)]) (st2 := []) (w3 := w10) rfl rfl ?_
      refine sx_RP.step (pc2 := 178) (ls2 := [(0, .ref 111)]) (st2 := [.ref 111]) (w3 := w10) rfl rfl ?_
      refine sx_RP.callp (as2 := [.ref 111]) (rest2 := []) rfl rfl (sx_inv_v2 (mi := 211) (k := 330) (st := [.ref 111]) (w := w10) rfl rfl hI11.1.o111 rfl rfl rfl) rfl rfl rfl (s229 hI11 ) (show _ = 181 from rfl) ?_
      rintro r4 w14 ⟨(rfl | rfl), hI15, hE17⟩
      · have hE16 := hE12.tr (hE17)
        show sx_RP _ _ _ _ _ [.int 0] _ _
        refine sx_RP.step (pc2 := 188) (ls2 := [(0, .ref 111)]) (st2 := []) (w3 := w14) rfl rfl ?_
        refine sx_RP.step (pc2 := 189) (ls2 := [(0, .ref 111)]) (st2 := [.int 0]) (w3 := w14) rfl rfl ?_
        refine sx_RP.ret (r := (some (.int 0))) rfl rfl ?_
        exact ⟨Or.inl rfl, hI15, hE16⟩
      · have hE16 := hE12.tr (hE17)
        show sx_RP _ _ _ _ _ [.int 1] _ _
        refine sx_RP.step (pc2 := 184) (ls2 := [(0, .ref 111)]) (st2 := []) (w3 := w14) rfl rfl ?_
        refine sx_RP.step (pc2 := 185) (ls2 := [(0, .ref 111)]) (st2 := [.int 1]) (w3 := w14) rfl rfl ?_
        refine sx_RP.step (pc2 := 189) (ls2 := [(0, .ref 111)]) (st2 := [.int 1]) (w3 := w14) rfl rfl ?_
        refine sx_RP.ret (r := (some (.int 1))) rfl rfl ?_
        exact ⟨Or.inr rfl, hI15, hE16⟩
  · have hE4 := hE.tr (hE5.ei)
    show sx_RP _ _ _ _ _ [.int 1] _ _
    refine sx_RP.step (pc2 := 98) (ls2 := [(0, .ref 111)]) (st2 := []) (w3 := w2) rfl rfl ?_
    refine sx_RP.step (pc2 := 99) (ls2 := [(0, .ref 111)]) (st2 := [.ref 111]) (w3 := w2) rfl rfl ?_
    refine sx_RP.gf (v := .ref 112) rfl rfl hI3.1.o111 rfl rfl (show _ = 102 from rfl) ?_
    refine sx_RP.step (pc2 := 103) (ls2 := [(0, .ref 111)]) (st2 := [.int 2, .ref 112]) (w3 := w2) rfl rfl ?_
    refine sx_RP.ild (c := 2) rfl hI3.1.a112.1 hI3.1.a112.2 (sx_in_nI (show 2 < 172 by omega) (by decide)) (show (nI 2).toNatClampNeg = 2 from nI_clamp (by omega)) (show _ = 104 from rfl) ?_
    obtain ⟨x18, hx19, ex20⟩ : inR ((ia w2 112).getD 2 0) 9 := (hI3.s (2) (by omega)).2.1 rfl
    rw [ex20]
    refine sx_RP.step (pc2 := 106) (ls2 := [(0, .ref 111)]) (st2 := [.int 9, .int (nI x18)]) (w3 := w2) rfl rfl ?_
    refine sx_RP.br (p1 := 114) (l1 := [(0, .ref 111)]) (s1 := []) (v1 := w2) (p2 := 109) (l2 := [(0, .ref 111)]) (s2 := []) (v2 := w2) rfl rfl (fun q21 => ?_) (fun q21 => ?_)
    · replace q21 := of_decide_eq_true q21
      replace q21 := mt (nI_eq (a := x18) (b := 9) (by omega) (by omega)).mpr q21
      refine sx_RP.step (pc2 := 115) (ls2 := [(0, .ref 111)]) (st2 := [.ref 111]) (w3 := w2) rfl rfl ?_
      refine sx_RP.step (pc2 := 118) (ls2 := [(0, .ref 111)]) (st2 := [.float 104, .ref 111]) (w3 := w2) rfl rfl ?_
      refine sx_RP.callp (as2 := [.ref 111, .float 104]) (rest2 := []) rfl rfl (sx_inv_v2 (mi := 211) (k := 243) (st := [.float 104, .ref 111]) (w := w2) rfl rfl hI3.1.o111 rfl rfl rfl) rfl rfl rfl (s213 (k := 104) hI3 (by decide) rfl (by decide)) (show _ = 121 from rfl) ?_
      rintro r4 w22 ⟨(rfl | rfl), hI23, hE25⟩
      · have hE24 := hE4.tr (hE25.ei)
        have ex26 := (congrArg (fun l => List.getD l 2 0) (ia_of (hE25.1 112 (by decide)))).trans ex20
        show sx_RP _ _ _ _ _ [.int 0] _ _
        refine sx_RP.step (pc2 := 167) (ls2 := [(0, .ref 111)]) (st2 := []) (w3 := w22) rfl rfl ?_
        refine sx_RP.step (pc2 := 168) (ls2 := [(0, .ref 111)]) (st2 := [.ref 111]) (w3 := w22) rfl rfl ?_
        refine sx_RP.step (pc2 := 171) (ls2 := [(0, .ref 111)]) (st2 := [.float 101, .ref 111]) (w3 := w22) rfl rfl ?_
        refine sx_RP.callp (as2 := [.ref 111, .float 101]) (rest2 := []) rfl rfl (sx_inv_v2 (mi := 211) (k := 282) (st := [.float 101, .ref 111]) (w := w22) rfl rfl hI23.1.o111 rfl rfl rfl) rfl rfl rfl (s228 (k := 101) hI23 (by decide) rfl (by decide)) (show _ = 174 from rfl) ?_
        rintro r4 w27 ⟨(rfl | rfl), hI28, hE30⟩
        · have hE29 := hE24.tr (hE30.ei)
          have ex31 := (congrArg (fun l => List.getD l 2 0) (ia_of (hE30.1 112 (by decide)))).trans ex26
          show sx_RP _ _ _ _ _ [.int 0] _ _
          refine sx_RP.step (pc2 := 188) (ls2 := [(0, .ref 111)]) (st2 := []) (w3 := w27) rfl rfl ?_
          refine sx_RP.step (pc2 := 189) (ls2 := [(0, .ref 111)]) (st2 := [.int 0]) (w3 := w27) rfl rfl ?_
          refine sx_RP.ret (r := (some (.int 0))) rfl rfl ?_
          exact ⟨Or.inl rfl, hI28, hE29⟩
        · have hE29 := hE24.tr (hE30.ei)
          have ex32 := (congrArg (fun l => List.getD l 2 0) (ia_of (hE30.1 112 (by decide)))).trans ex26
          show sx_RP _ _ _ _ _ [.int 1] _ _
          refine sx_RP.step (pc2 := 177) (ls2 := [(0, .ref 111)]) (st2 := []) (w3 := w27) rfl rfl ?_
          refine sx_RP.step (pc2 := 178) (ls2 := [(0, .ref 111)]) (st2 := [.ref 111]) (w3 := w27) rfl rfl ?_
          refine sx_RP.callp (as2 := [.ref 111]) (rest2 := []) rfl rfl (sx_inv_v2 (mi := 211) (k := 330) (st := [.ref 111]) (w := w27) rfl rfl hI28.1.o111 rfl rfl rfl) rfl rfl rfl (s229 hI28 ) (show _ = 181 from rfl) ?_
          rintro r4 w33 ⟨(rfl | rfl), hI34, hE36⟩
          · have hE35 := hE29.tr (hE36)
            show sx_RP _ _ _ _ _ [.int 0] _ _
            refine sx_RP.step (pc2 := 188) (ls2 := [(0, .ref 111)]) (st2 := []) (w3 := w33) rfl rfl ?_
            refine sx_RP.step (pc2 := 189) (ls2 := [(0, .ref 111)]) (st2 := [.int 0]) (w3 := w33) rfl rfl ?_
            refine sx_RP.ret (r := (some (.int 0))) rfl rfl ?_
            exact ⟨Or.inl rfl, hI34, hE35⟩
          · have hE35 := hE29.tr (hE36)
            show sx_RP _ _ _ _ _ [.int 1] _ _
            refine sx_RP.step (pc2 := 184) (ls2 := [(0, .ref 111)]) (st2 := []) (w3 := w33) rfl rfl ?_
            refine sx_RP.step (pc2 := 185) (ls2 := [(0, .ref 111)]) (st2 := [.int 1]) (w3 := w33) rfl rfl ?_
            refine sx_RP.step (pc2 := 189) (ls2 := [(0, .ref 111)]) (st2 := [.int 1]) (w3 := w33) rfl rfl ?_
            refine sx_RP.ret (r := (some (.int 1))) rfl rfl ?_
            exact ⟨Or.inr rfl, hI34, hE35⟩
      · have hE24 := hE4.tr (hE25.ei)
        have ex37 := (congrArg (fun l => List.getD l 2 0) (ia_of (hE25.1 112 (by decide)))).trans ex20
        show sx_RP _ _ _ _ _ [.int 1] _ _
        refine sx_RP.step (pc2 := 124) (ls2 := [(0, .ref 111)]) (st2 := []) (w3 := w22) rfl rfl ?_
        refine sx_RP.step (pc2 := 125) (ls2 := [(0, .ref 111)]) (st2 := [.ref 111]) (w3 := w22) rfl rfl ?_
        refine sx_RP.step (pc2 := 126) (ls2 := [(0, .ref 111)]) (st2 := [.int 0, .ref 111]) (w3 := w22) rfl rfl ?_
        refine sx_RP.step (pc2 := 128) (ls2 := [(0, .ref 111)]) (st2 := [.int 47, .int 0, .ref 111]) (w3 := w22) rfl rfl ?_
        refine sx_RP.callp (as2 := [.ref 111, .int 0, .int 47]) (rest2 := []) rfl rfl (sx_inv_v2 (mi := 211) (k := 267) (st := [.int 47, .int 0, .ref 111]) (w := w22) rfl rfl hI23.1.o111 rfl rfl rfl) rfl rfl rfl (s220 (m := 0) (n := 47) hI23 (by omega) (by omega)) (show _ = 131 from rfl) ?_
        rintro r4 w42 ⟨(rfl | ⟨x38, ⟨hx39, hx40, ex41⟩, rfl⟩), hI43, hE45⟩
        · have hE44 := hE24.tr (hE45.ei)
          have ex46 := (congrArg (fun l => List.getD l 2 0) (ia_of (hE45.1 112 (by decide)))).trans ex37
          show sx_RP _ _ _ _ _ [.int 0] _ _
          refine sx_RP.step (pc2 := 134) (ls2 := [(0, .ref 111)]) (st2 := []) (w3 := w42) rfl rfl ?_
          refine sx_RP.step (pc2 := 135) (ls2 := [(0, .ref 111)]) (st2 := [.int 0]) (w3 := w42) rfl rfl ?_
          refine sx_RP.ret (r := (some (.int 0))) rfl rfl ?_
          exact ⟨Or.inl rfl, hI43, hE44⟩
        · have hE44 := hE24.tr (hE45.ei)
          have ex47 := (congrArg (fun l => List.getD l 2 0) (ia_of (hE45.1 112 (by decide)))).trans ex37
          show sx_RP _ _ _ _ _ [.int 1] _ _
          refine sx_RP.step (pc2 := 136) (ls2 := [(0, .ref 111)]) (st2 := []) (w3 := w42) rfl rfl ?_
          refine sx_RP.step (pc2 := 137) (ls2 := [(0, .ref 111)]) (st2 := [.ref 111]) (w3 := w42) rfl rfl ?_
          refine sx_RP.gf (v := .ref 112) rfl rfl hI43.1.o111 rfl rfl (show _ = 140 from rfl) ?_
          refine sx_RP.step (pc2 := 143) (ls2 := [(0, .ref 111)]) (st2 := [.int 163, .ref 112]) (w3 := w42) rfl rfl ?_
          refine sx_RP.step (pc2 := 144) (ls2 := [(0, .ref 111)]) (st2 := [.ref 111, .int 163, .ref 112]) (w3 := w42) rfl rfl ?_
          refine sx_RP.gf (v := .ref 112) rfl rfl hI43.1.o111 rfl rfl (show _ = 147 from rfl) ?_
          refine sx_RP.step (pc2 := 148) (ls2 := [(0, .ref 111)]) (st2 := [.int 2, .ref 112, .int 163, .ref 112]) (w3 := w42) rfl rfl ?_
          refine sx_RP.ild (c := 2) rfl hI43.1.a112.1 hI43.1.a112.2 (sx_in_nI (show 2 < 172 by omega) (by decide)) (show (nI 2).toNatClampNeg = 2 from nI_clamp (by omega)) (show _ = 149 from rfl) ?_
          rw [ex47]
          refine sx_RP.step (pc2 := 150) (ls2 := [(0, .ref 111)]) (st2 := [.int (163 + (nI x18)), .ref 112]) (w3 := w42) rfl rfl ?_
          rw [show (163 + (nI x18) : Int32) = nI (163 + x18) from nI_add 163 x18]
          refine sx_RP.step (pc2 := 151) (ls2 := [(0, .ref 111)]) (st2 := [.ref 111, .int (nI (163 + x18)), .ref 112]) (w3 := w42) rfl rfl ?_
          refine sx_RP.gf (v := .int (fi w42 111 14)) rfl rfl hI43.1.o111 rfl rfl (show _ = 154 from rfl) ?_
          rw [ex41]
          refine sx_RP.mSI (k := (163 + x18)) hI43 hE44 (by decide) rfl rfl (by omega) (eOK_d (by omega) (inR.n (show x38 ≤ 47 by omega))) (show _ = 155 from rfl) (fun w48 hI49 hE50 hk51 => ?_)
          have ex52 := (hk51 2 (by omega) (by omega)).trans ex47
          refine sx_RP.step (pc2 := 156) (ls2 := [(0, .ref 111)]) (st2 := [.ref 111]) (w3 := w48) rfl rfl ?_
          refine sx_RP.gf (v := .ref 112) rfl rfl hI49.1.o111 rfl rfl (show _ = 159 from rfl) ?_
          refine sx_RP.step (pc2 := 160) (ls2 := [(0, .ref 111)]) (st2 := [.int 2, .ref 112]) (w3 := w48) rfl rfl ?_
          refine sx_RP.step (pc2 := 161) (ls2 := [(0, .ref 111)]) (st2 := [.int 2, .ref 112, .int 2, .ref 112]) (w3 := w48) rfl rfl ?_
          refine sx_RP.ild (c := 2) rfl hI49.1.a112.1 hI49.1.a112.2 (sx_in_nI (show 2 < 172 by omega) (by decide)) (show (nI 2).toNatClampNeg = 2 from nI_clamp (by omega)) (show _ = 162 from rfl) ?_
          rw [ex52]
          refine sx_RP.step (pc2 := 163) (ls2 := [(0, .ref 111)]) (st2 := [.int 1, .int (nI x18), .int 2, .ref 112]) (w3 := w48) rfl rfl ?_
          refine sx_RP.step (pc2 := 164) (ls2 := [(0, .ref 111)]) (st2 := [.int ((nI x18) + 1), .int 2, .ref 112]) (w3 := w48) rfl rfl ?_
          rw [show ((nI x18) + 1 : Int32) = nI (x18 + 1) from nI_add x18 1]
          refine sx_RP.mSI (k := 2) hI49 hE50 (by decide) rfl rfl (by omega) (eOK_2 (inR.n (show (x18 + 1) ≤ 9 by omega))) (show _ = 165 from rfl) (fun w53 hI54 hE55 hk56 => ?_)
          refine sx_RP.step (pc2 := 166) (ls2 := [(0, .ref 111)]) (st2 := [.int 1]) (w3 := w53) rfl rfl ?_
          refine sx_RP.ret (r := (some (.int 1))) rfl rfl ?_
          exact ⟨Or.inr rfl, hI54, hE55⟩
    · replace q21 := Decidable.not_not.mp (of_decide_eq_false q21)
      replace q21 := (nI_eq (a := x18) (b := 9) (by omega) (by omega)).mp q21
      refine sx_RP.step (pc2 := 110) (ls2 := [(0, .ref 111)]) (st2 := [.ref 111]) (w3 := w2) rfl rfl ?_
      refine sx_RP.callp (as2 := [.ref 111]) (rest2 := []) rfl rfl (sx_inv_v2 (mi := 211) (k := 245) (st := [.ref 111]) (w := w2) rfl rfl hI3.1.o111 rfl rfl rfl) rfl rfl rfl (s222 hI3) (show _ = 113 from rfl) ?_
      rintro r4 w57 ⟨rfl, hI58, hE60⟩
      have hE59 := hE4.tr (hE60.ei)
      have ex61 := (congrArg (fun l => List.getD l 2 0) (ia_of (hE60.1 112 (by decide)))).trans ex20
      show sx_RP _ _ _ _ _ [.int 0] _ _
      refine sx_RP.ret (r := (some (.int 0))) rfl rfl ?_
      exact ⟨Or.inl rfl, hI58, hE59⟩
theorem s211 {xs : Option (List Int32)} {d : Nat} {w : List sx_C} (hI0 : WI w) : sx_RP xs (d + 7) 211 0 (lv_args 0 [.ref 111]) [] w (fun r w2 => (r = some (.int 0) ∨ r = some (.int 1)) ∧ WI w2 ∧ EI w w2) := by
  have hE0 : EI w w := EI.rf
  refine sx_RP.step (pc2 := 1) (ls2 := [(0, .ref 111)]) (st2 := [.int 0]) (w3 := w) rfl rfl ?_
  refine sx_RP.step (pc2 := 2) (ls2 := [(1, .int 0), (0, .ref 111)]) (st2 := []) (w3 := w) rfl rfl ?_
  exact sx_RP.ls (sx_lr.cons rfl (sx_lr.cons rfl sx_lr.nil)) (i211a0 hI0 hE0 (fun w1 hI1 hE1 => i211a1 hI1 hE1 (fun w2 hI2 hE2 => i211a2 hI2 hE2 (fun w3 hI3 hE3 => i211a3 hI3 hE3 (fun w4 hI4 hE4 => i211a4 hI4 hE4 (fun w5 hI5 hE5 => i211a5 hI5 hE5 (fun w6 hI6 hE6 => i211b0 hI6 hE6 (fun w7 hI7 hE7 => i211b1 hI7 hE7 (fun w8 hI8 hE8 => i211b2 hI8 hE8 (fun w9 hI9 hE9 => i211b3 hI9 hE9 (fun w10 hI10 hE10 => i211b4 hI10 hE10 (fun w11 hI11 hE11 => i211b5 hI11 hE11 (fun w12 hI12 hE12 => i211b6 hI12 hE12 (fun w13 hI13 hE13 => i211d hI13 hE13))))))))))))))
