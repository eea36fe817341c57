-- the kinds in a cell
theorem sw6 {k : Nat} (hk : k < 6) (q : (nI k).toInt < 0 ∨ (5 : Int) < (nI k).toInt) : False := by
  rw [nI_toInt (by omega)] at q
  omega
theorem sw5 {k : Nat} (hk : k < 6) (q : (nI k).toInt < 0 ∨ (4 : Int) < (nI k).toInt) : k = 5 := by
  rw [nI_toInt (by omega)] at q
  omega
theorem x138e {xs : Option (List Int32)} {d g c : Nat} {w : List sx_C} {v : Int32} (hI : WI w) (hg : g < 10) (hc : c < 6) (e : (ia w 112).getD (103 + 6 * g + c) 0 = v) : sx_RU xs d 138 0 (lv_args 0 [.ref 111, .int (nI g), .int (nI c)]) [] w (some (.int v)) w := by
  rw [← e]
  exact x138 hI hg hc
set_option maxRecDepth 20000 in
set_option maxHeartbeats 4000000 in
theorem x47 {xs : Option (List Int32)} {d : Nat} {w : List sx_C} (hI : WI w) (x : Int32) : sx_RU xs d 47 0 (lv_args 0 [.int x]) [] w (some (.int (abF x))) w := by
  have h : sx_RP xs d 47 0 (lv_args 0 [.int x]) [] w (fun r9 w2 => r9 = some (.int (abF x)) ∧ w2 = w) := by
    refine sx_RP.step (pc2 := 1) (ls2 := [(0, .int x)]) (st2 := [.int x]) (w3 := w) rfl rfl ?_
    refine sx_RP.br (p1 := 9) (l1 := [(0, .int x)]) (s1 := []) (v1 := w) (p2 := 4) (l2 := [(0, .int x)]) (s2 := []) (v2 := w) rfl rfl (fun q1 => ?_) (fun q1 => ?_)
    · replace q1 := of_decide_eq_true q1
      refine sx_RP.step (pc2 := 10) (ls2 := [(0, .int x)]) (st2 := [.int x]) (w3 := w) rfl rfl ?_
      refine sx_RP.ret (r := (some (.int x))) rfl rfl ?_
      exact ⟨by unfold abF; rw [if_neg (Int32.not_lt.mpr q1)], rfl⟩
    · replace q1 := of_decide_eq_false q1
      refine sx_RP.step (pc2 := 5) (ls2 := [(0, .int x)]) (st2 := [.int x]) (w3 := w) rfl rfl ?_
      refine sx_RP.step (pc2 := 6) (ls2 := [(0, .int x)]) (st2 := [.int (-x)]) (w3 := w) rfl rfl ?_
      refine sx_RP.step (pc2 := 10) (ls2 := [(0, .int x)]) (st2 := [.int (-x)]) (w3 := w) rfl rfl ?_
      refine sx_RP.ret (r := (some (.int (-x)))) rfl rfl ?_
      exact ⟨by unfold abF; rw [if_pos (Int32.not_le.mp q1)], rfl⟩
  obtain ⟨r9, w2, h1, rfl, rfl⟩ := h
  exact h1
set_option maxRecDepth 20000 in
set_option maxHeartbeats 4000000 in
theorem x46 {xs : Option (List Int32)} {d : Nat} {w : List sx_C} (hI : WI w) (a b : Nat) : sx_RU xs (d + 1) 46 0 (lv_args 0 [.int (nI a), .int (nI b)]) [] w (some (.int (apF a b))) w := by
  have h : sx_RP xs (d + 1) 46 0 (lv_args 0 [.int (nI a), .int (nI b)]) [] w (fun r9 w2 => r9 = some (.int (apF a b)) ∧ w2 = w) := by
    refine sx_RP.step (pc2 := 1) (ls2 := [(0, .int (nI a)), (1, .int (nI b))]) (st2 := [.int (nI a)]) (w3 := w) rfl rfl ?_
    refine sx_RP.step (pc2 := 3) (ls2 := [(0, .int (nI a)), (1, .int (nI b))]) (st2 := [.int 8, .int (nI a)]) (w3 := w) rfl rfl ?_
    refine sx_RP.step (pc2 := 4) (ls2 := [(0, .int (nI a)), (1, .int (nI b))]) (st2 := [.int ((nI a) / 8)]) (w3 := w) rfl rfl ?_
    refine sx_RP.step (pc2 := 5) (ls2 := [(0, .int (nI a)), (1, .int (nI b))]) (st2 := [.int (nI b), .int ((nI a) / 8)]) (w3 := w) rfl rfl ?_
    refine sx_RP.step (pc2 := 7) (ls2 := [(0, .int (nI a)), (1, .int (nI b))]) (st2 := [.int 8, .int (nI b), .int ((nI a) / 8)]) (w3 := w) rfl rfl ?_
    refine sx_RP.step (pc2 := 8) (ls2 := [(0, .int (nI a)), (1, .int (nI b))]) (st2 := [.int ((nI b) / 8), .int ((nI a) / 8)]) (w3 := w) rfl rfl ?_
    refine sx_RP.step (pc2 := 9) (ls2 := [(0, .int (nI a)), (1, .int (nI b))]) (st2 := [.int (((nI a) / 8) - ((nI b) / 8))]) (w3 := w) rfl rfl ?_
    refine sx_RP.cu (as := [.int (((nI a) / 8) - ((nI b) / 8))]) (rest2 := []) (st3 := [.int (abF (((nI a) / 8) - ((nI b) / 8)))]) rfl rfl rfl rfl rfl (x47 hI _) rfl ?_
    refine sx_RP.step (pc2 := 13) (ls2 := [(0, .int (nI a)), (1, .int (nI b))]) (st2 := [.int (nI a), .int (abF (((nI a) / 8) - ((nI b) / 8)))]) (w3 := w) rfl rfl ?_
    refine sx_RP.step (pc2 := 15) (ls2 := [(0, .int (nI a)), (1, .int (nI b))]) (st2 := [.int 8, .int (nI a), .int (abF (((nI a) / 8) - ((nI b) / 8)))]) (w3 := w) rfl rfl ?_
    refine sx_RP.step (pc2 := 16) (ls2 := [(0, .int (nI a)), (1, .int (nI b))]) (st2 := [.int ((nI a) - (nI a) / 8 * 8), .int (abF (((nI a) / 8) - ((nI b) / 8)))]) (w3 := w) rfl rfl ?_
    refine sx_RP.step (pc2 := 17) (ls2 := [(0, .int (nI a)), (1, .int (nI b))]) (st2 := [.int (nI b), .int ((nI a) - (nI a) / 8 * 8), .int (abF (((nI a) / 8) - ((nI b) / 8)))]) (w3 := w) rfl rfl ?_
    refine sx_RP.step (pc2 := 19) (ls2 := [(0, .int (nI a)), (1, .int (nI b))]) (st2 := [.int 8, .int (nI b), .int ((nI a) - (nI a) / 8 * 8), .int (abF (((nI a) / 8) - ((nI b) / 8)))]) (w3 := w) rfl rfl ?_
    refine sx_RP.step (pc2 := 20) (ls2 := [(0, .int (nI a)), (1, .int (nI b))]) (st2 := [.int ((nI b) - (nI b) / 8 * 8), .int ((nI a) - (nI a) / 8 * 8), .int (abF (((nI a) / 8) - ((nI b) / 8)))]) (w3 := w) rfl rfl ?_
    refine sx_RP.step (pc2 := 21) (ls2 := [(0, .int (nI a)), (1, .int (nI b))]) (st2 := [.int (((nI a) - (nI a) / 8 * 8) - ((nI b) - (nI b) / 8 * 8)), .int (abF (((nI a) / 8) - ((nI b) / 8)))]) (w3 := w) rfl rfl ?_
    refine sx_RP.cu (as := [.int (((nI a) - (nI a) / 8 * 8) - ((nI b) - (nI b) / 8 * 8))]) (rest2 := [.int (abF (((nI a) / 8) - ((nI b) / 8)))]) (st3 := [.int (abF (((nI a) - (nI a) / 8 * 8) - ((nI b) - (nI b) / 8 * 8))), .int (abF (((nI a) / 8) - ((nI b) / 8)))]) rfl rfl rfl rfl rfl (x47 hI _) rfl ?_
    refine sx_RP.step (pc2 := 25) (ls2 := [(0, .int (nI a)), (1, .int (nI b))]) (st2 := [.int ((abF (((nI a) / 8) - ((nI b) / 8))) + (abF (((nI a) - (nI a) / 8 * 8) - ((nI b) - (nI b) / 8 * 8))))]) (w3 := w) rfl rfl ?_
    refine sx_RP.ret (r := (some (.int ((abF (((nI a) / 8) - ((nI b) / 8))) + (abF (((nI a) - (nI a) / 8 * 8) - ((nI b) - (nI b) / 8 * 8))))))) rfl rfl ?_
    exact ⟨rfl, rfl⟩
  obtain ⟨r9, w2, h1, rfl, rfl⟩ := h
  exact h1
set_option maxRecDepth 20000 in
set_option maxHeartbeats 4000000 in
theorem x200 {xs : Option (List Int32)} {d : Nat} {w : List sx_C} (hI : WI w) (a b : Nat) : sx_RU xs d 200 0 (lv_args 0 [.int (nI a), .int (nI b)]) [] w (some (.int (apF a b))) w := by
  have h : sx_RP xs d 200 0 (lv_args 0 [.int (nI a), .int (nI b)]) [] w (fun r9 w2 => r9 = some (.int (apF a b)) ∧ w2 = w) := by
    refine sx_RP.step (pc2 := 1) (ls2 := [(0, .int (nI a)), (1, .int (nI b))]) (st2 := [.int (nI a)]) (w3 := w) rfl rfl ?_
    refine sx_RP.step (pc2 := 3) (ls2 := [(0, .int (nI a)), (1, .int (nI b))]) (st2 := [.int 8, .int (nI a)]) (w3 := w) rfl rfl ?_
    refine sx_RP.step (pc2 := 4) (ls2 := [(0, .int (nI a)), (1, .int (nI b))]) (st2 := [.int ((nI a) / 8)]) (w3 := w) rfl rfl ?_
    refine sx_RP.step (pc2 := 5) (ls2 := [(0, .int (nI a)), (1, .int (nI b))]) (st2 := [.int (nI b), .int ((nI a) / 8)]) (w3 := w) rfl rfl ?_
    refine sx_RP.step (pc2 := 7) (ls2 := [(0, .int (nI a)), (1, .int (nI b))]) (st2 := [.int 8, .int (nI b), .int ((nI a) / 8)]) (w3 := w) rfl rfl ?_
    refine sx_RP.step (pc2 := 8) (ls2 := [(0, .int (nI a)), (1, .int (nI b))]) (st2 := [.int ((nI b) / 8), .int ((nI a) / 8)]) (w3 := w) rfl rfl ?_
    refine sx_RP.step (pc2 := 9) (ls2 := [(0, .int (nI a)), (1, .int (nI b))]) (st2 := [.int (((nI a) / 8) - ((nI b) / 8))]) (w3 := w) rfl rfl ?_
    refine sx_RP.step (pc2 := 10) (ls2 := [(2, .int (((nI a) / 8) - ((nI b) / 8))), (0, .int (nI a)), (1, .int (nI b))]) (st2 := []) (w3 := w) rfl rfl ?_
    refine sx_RP.step (pc2 := 11) (ls2 := [(2, .int (((nI a) / 8) - ((nI b) / 8))), (0, .int (nI a)), (1, .int (nI b))]) (st2 := [.int (nI a)]) (w3 := w) rfl rfl ?_
    refine sx_RP.step (pc2 := 13) (ls2 := [(2, .int (((nI a) / 8) - ((nI b) / 8))), (0, .int (nI a)), (1, .int (nI b))]) (st2 := [.int 8, .int (nI a)]) (w3 := w) rfl rfl ?_
    refine sx_RP.step (pc2 := 14) (ls2 := [(2, .int (((nI a) / 8) - ((nI b) / 8))), (0, .int (nI a)), (1, .int (nI b))]) (st2 := [.int ((nI a) - (nI a) / 8 * 8)]) (w3 := w) rfl rfl ?_
    refine sx_RP.step (pc2 := 15) (ls2 := [(2, .int (((nI a) / 8) - ((nI b) / 8))), (0, .int (nI a)), (1, .int (nI b))]) (st2 := [.int (nI b), .int ((nI a) - (nI a) / 8 * 8)]) (w3 := w) rfl rfl ?_
    refine sx_RP.step (pc2 := 17) (ls2 := [(2, .int (((nI a) / 8) - ((nI b) / 8))), (0, .int (nI a)), (1, .int (nI b))]) (st2 := [.int 8, .int (nI b), .int ((nI a) - (nI a) / 8 * 8)]) (w3 := w) rfl rfl ?_
    refine sx_RP.step (pc2 := 18) (ls2 := [(2, .int (((nI a) / 8) - ((nI b) / 8))), (0, .int (nI a)), (1, .int (nI b))]) (st2 := [.int ((nI b) - (nI b) / 8 * 8), .int ((nI a) - (nI a) / 8 * 8)]) (w3 := w) rfl rfl ?_
    refine sx_RP.step (pc2 := 19) (ls2 := [(2, .int (((nI a) / 8) - ((nI b) / 8))), (0, .int (nI a)), (1, .int (nI b))]) (st2 := [.int (((nI a) - (nI a) / 8 * 8) - ((nI b) - (nI b) / 8 * 8))]) (w3 := w) rfl rfl ?_
    refine sx_RP.step (pc2 := 20) (ls2 := [(3, .int (((nI a) - (nI a) / 8 * 8) - ((nI b) - (nI b) / 8 * 8))), (2, .int (((nI a) / 8) - ((nI b) / 8))), (0, .int (nI a)), (1, .int (nI b))]) (st2 := []) (w3 := w) rfl rfl ?_
    refine sx_RP.step (pc2 := 21) (ls2 := [(3, .int (((nI a) - (nI a) / 8 * 8) - ((nI b) - (nI b) / 8 * 8))), (2, .int (((nI a) / 8) - ((nI b) / 8))), (0, .int (nI a)), (1, .int (nI b))]) (st2 := [.int (((nI a) / 8) - ((nI b) / 8))]) (w3 := w) rfl rfl ?_
    refine sx_RP.br (p1 := 29) (l1 := [(3, .int (((nI a) - (nI a) / 8 * 8) - ((nI b) - (nI b) / 8 * 8))), (2, .int (((nI a) / 8) - ((nI b) / 8))), (0, .int (nI a)), (1, .int (nI b))]) (s1 := []) (v1 := w) (p2 := 24) (l2 := [(3, .int (((nI a) - (nI a) / 8 * 8) - ((nI b) - (nI b) / 8 * 8))), (2, .int (((nI a) / 8) - ((nI b) / 8))), (0, .int (nI a)), (1, .int (nI b))]) (s2 := []) (v2 := w) rfl rfl (fun q1 => ?_) (fun q1 => ?_)
    · replace q1 := of_decide_eq_true q1
      refine sx_RP.step (pc2 := 30) (ls2 := [(3, .int (((nI a) - (nI a) / 8 * 8) - ((nI b) - (nI b) / 8 * 8))), (2, .int (((nI a) / 8) - ((nI b) / 8))), (0, .int (nI a)), (1, .int (nI b))]) (st2 := [.int (((nI a) / 8) - ((nI b) / 8))]) (w3 := w) rfl rfl ?_
      refine sx_RP.step (pc2 := 31) (ls2 := [(3, .int (((nI a) - (nI a) / 8 * 8) - ((nI b) - (nI b) / 8 * 8))), (2, .int (((nI a) / 8) - ((nI b) / 8))), (0, .int (nI a)), (1, .int (nI b))]) (st2 := [.int (((nI a) - (nI a) / 8 * 8) - ((nI b) - (nI b) / 8 * 8)), .int (((nI a) / 8) - ((nI b) / 8))]) (w3 := w) rfl rfl ?_
      refine sx_RP.br (p1 := 39) (l1 := [(3, .int (((nI a) - (nI a) / 8 * 8) - ((nI b) - (nI b) / 8 * 8))), (2, .int (((nI a) / 8) - ((nI b) / 8))), (0, .int (nI a)), (1, .int (nI b))]) (s1 := [.int (((nI a) / 8) - ((nI b) / 8))]) (v1 := w) (p2 := 34) (l2 := [(3, .int (((nI a) - (nI a) / 8 * 8) - ((nI b) - (nI b) / 8 * 8))), (2, .int (((nI a) / 8) - ((nI b) / 8))), (0, .int (nI a)), (1, .int (nI b))]) (s2 := [.int (((nI a) / 8) - ((nI b) / 8))]) (v2 := w) rfl rfl (fun q2 => ?_) (fun q2 => ?_)
      · replace q2 := of_decide_eq_true q2
        refine sx_RP.step (pc2 := 40) (ls2 := [(3, .int (((nI a) - (nI a) / 8 * 8) - ((nI b) - (nI b) / 8 * 8))), (2, .int (((nI a) / 8) - ((nI b) / 8))), (0, .int (nI a)), (1, .int (nI b))]) (st2 := [.int (((nI a) - (nI a) / 8 * 8) - ((nI b) - (nI b) / 8 * 8)), .int (((nI a) / 8) - ((nI b) / 8))]) (w3 := w) rfl rfl ?_
        refine sx_RP.step (pc2 := 41) (ls2 := [(3, .int (((nI a) - (nI a) / 8 * 8) - ((nI b) - (nI b) / 8 * 8))), (2, .int (((nI a) / 8) - ((nI b) / 8))), (0, .int (nI a)), (1, .int (nI b))]) (st2 := [.int ((((nI a) / 8) - ((nI b) / 8)) + (((nI a) - (nI a) / 8 * 8) - ((nI b) - (nI b) / 8 * 8)))]) (w3 := w) rfl rfl ?_
        refine sx_RP.ret (r := (some (.int ((((nI a) / 8) - ((nI b) / 8)) + (((nI a) - (nI a) / 8 * 8) - ((nI b) - (nI b) / 8 * 8)))))) rfl rfl ?_
        exact ⟨by unfold apF abF; rw [if_neg (Int32.not_lt.mpr q1), if_neg (Int32.not_lt.mpr q2)], rfl⟩
      · replace q2 := of_decide_eq_false q2
        refine sx_RP.step (pc2 := 35) (ls2 := [(3, .int (((nI a) - (nI a) / 8 * 8) - ((nI b) - (nI b) / 8 * 8))), (2, .int (((nI a) / 8) - ((nI b) / 8))), (0, .int (nI a)), (1, .int (nI b))]) (st2 := [.int (((nI a) - (nI a) / 8 * 8) - ((nI b) - (nI b) / 8 * 8)), .int (((nI a) / 8) - ((nI b) / 8))]) (w3 := w) rfl rfl ?_
        refine sx_RP.step (pc2 := 36) (ls2 := [(3, .int (((nI a) - (nI a) / 8 * 8) - ((nI b) - (nI b) / 8 * 8))), (2, .int (((nI a) / 8) - ((nI b) / 8))), (0, .int (nI a)), (1, .int (nI b))]) (st2 := [.int (-(((nI a) - (nI a) / 8 * 8) - ((nI b) - (nI b) / 8 * 8))), .int (((nI a) / 8) - ((nI b) / 8))]) (w3 := w) rfl rfl ?_
        refine sx_RP.step (pc2 := 40) (ls2 := [(3, .int (((nI a) - (nI a) / 8 * 8) - ((nI b) - (nI b) / 8 * 8))), (2, .int (((nI a) / 8) - ((nI b) / 8))), (0, .int (nI a)), (1, .int (nI b))]) (st2 := [.int (-(((nI a) - (nI a) / 8 * 8) - ((nI b) - (nI b) / 8 * 8))), .int (((nI a) / 8) - ((nI b) / 8))]) (w3 := w) rfl rfl ?_
        refine sx_RP.step (pc2 := 41) (ls2 := [(3, .int (((nI a) - (nI a) / 8 * 8) - ((nI b) - (nI b) / 8 * 8))), (2, .int (((nI a) / 8) - ((nI b) / 8))), (0, .int (nI a)), (1, .int (nI b))]) (st2 := [.int ((((nI a) / 8) - ((nI b) / 8)) + (-(((nI a) - (nI a) / 8 * 8) - ((nI b) - (nI b) / 8 * 8))))]) (w3 := w) rfl rfl ?_
        refine sx_RP.ret (r := (some (.int ((((nI a) / 8) - ((nI b) / 8)) + (-(((nI a) - (nI a) / 8 * 8) - ((nI b) - (nI b) / 8 * 8))))))) rfl rfl ?_
        exact ⟨by unfold apF abF; rw [if_neg (Int32.not_lt.mpr q1), if_pos (Int32.not_le.mp q2)], rfl⟩
    · replace q1 := of_decide_eq_false q1
      refine sx_RP.step (pc2 := 25) (ls2 := [(3, .int (((nI a) - (nI a) / 8 * 8) - ((nI b) - (nI b) / 8 * 8))), (2, .int (((nI a) / 8) - ((nI b) / 8))), (0, .int (nI a)), (1, .int (nI b))]) (st2 := [.int (((nI a) / 8) - ((nI b) / 8))]) (w3 := w) rfl rfl ?_
      refine sx_RP.step (pc2 := 26) (ls2 := [(3, .int (((nI a) - (nI a) / 8 * 8) - ((nI b) - (nI b) / 8 * 8))), (2, .int (((nI a) / 8) - ((nI b) / 8))), (0, .int (nI a)), (1, .int (nI b))]) (st2 := [.int (-(((nI a) / 8) - ((nI b) / 8)))]) (w3 := w) rfl rfl ?_
      refine sx_RP.step (pc2 := 30) (ls2 := [(3, .int (((nI a) - (nI a) / 8 * 8) - ((nI b) - (nI b) / 8 * 8))), (2, .int (((nI a) / 8) - ((nI b) / 8))), (0, .int (nI a)), (1, .int (nI b))]) (st2 := [.int (-(((nI a) / 8) - ((nI b) / 8)))]) (w3 := w) rfl rfl ?_
      refine sx_RP.step (pc2 := 31) (ls2 := [(3, .int (((nI a) - (nI a) / 8 * 8) - ((nI b) - (nI b) / 8 * 8))), (2, .int (((nI a) / 8) - ((nI b) / 8))), (0, .int (nI a)), (1, .int (nI b))]) (st2 := [.int (((nI a) - (nI a) / 8 * 8) - ((nI b) - (nI b) / 8 * 8)), .int (-(((nI a) / 8) - ((nI b) / 8)))]) (w3 := w) rfl rfl ?_
      refine sx_RP.br (p1 := 39) (l1 := [(3, .int (((nI a) - (nI a) / 8 * 8) - ((nI b) - (nI b) / 8 * 8))), (2, .int (((nI a) / 8) - ((nI b) / 8))), (0, .int (nI a)), (1, .int (nI b))]) (s1 := [.int (-(((nI a) / 8) - ((nI b) / 8)))]) (v1 := w) (p2 := 34) (l2 := [(3, .int (((nI a) - (nI a) / 8 * 8) - ((nI b) - (nI b) / 8 * 8))), (2, .int (((nI a) / 8) - ((nI b) / 8))), (0, .int (nI a)), (1, .int (nI b))]) (s2 := [.int (-(((nI a) / 8) - ((nI b) / 8)))]) (v2 := w) rfl rfl (fun q3 => ?_) (fun q3 => ?_)
      · replace q3 := of_decide_eq_true q3
        refine sx_RP.step (pc2 := 40) (ls2 := [(3, .int (((nI a) - (nI a) / 8 * 8) - ((nI b) - (nI b) / 8 * 8))), (2, .int (((nI a) / 8) - ((nI b) / 8))), (0, .int (nI a)), (1, .int (nI b))]) (st2 := [.int (((nI a) - (nI a) / 8 * 8) - ((nI b) - (nI b) / 8 * 8)), .int (-(((nI a) / 8) - ((nI b) / 8)))]) (w3 := w) rfl rfl ?_
        refine sx_RP.step (pc2 := 41) (ls2 := [(3, .int (((nI a) - (nI a) / 8 * 8) - ((nI b) - (nI b) / 8 * 8))), (2, .int (((nI a) / 8) - ((nI b) / 8))), (0, .int (nI a)), (1, .int (nI b))]) (st2 := [.int ((-(((nI a) / 8) - ((nI b) / 8))) + (((nI a) - (nI a) / 8 * 8) - ((nI b) - (nI b) / 8 * 8)))]) (w3 := w) rfl rfl ?_
        refine sx_RP.ret (r := (some (.int ((-(((nI a) / 8) - ((nI b) / 8))) + (((nI a) - (nI a) / 8 * 8) - ((nI b) - (nI b) / 8 * 8)))))) rfl rfl ?_
        exact ⟨by unfold apF abF; rw [if_pos (Int32.not_le.mp q1), if_neg (Int32.not_lt.mpr q3)], rfl⟩
      · replace q3 := of_decide_eq_false q3
        refine sx_RP.step (pc2 := 35) (ls2 := [(3, .int (((nI a) - (nI a) / 8 * 8) - ((nI b) - (nI b) / 8 * 8))), (2, .int (((nI a) / 8) - ((nI b) / 8))), (0, .int (nI a)), (1, .int (nI b))]) (st2 := [.int (((nI a) - (nI a) / 8 * 8) - ((nI b) - (nI b) / 8 * 8)), .int (-(((nI a) / 8) - ((nI b) / 8)))]) (w3 := w) rfl rfl ?_
        refine sx_RP.step (pc2 := 36) (ls2 := [(3, .int (((nI a) - (nI a) / 8 * 8) - ((nI b) - (nI b) / 8 * 8))), (2, .int (((nI a) / 8) - ((nI b) / 8))), (0, .int (nI a)), (1, .int (nI b))]) (st2 := [.int (-(((nI a) - (nI a) / 8 * 8) - ((nI b) - (nI b) / 8 * 8))), .int (-(((nI a) / 8) - ((nI b) / 8)))]) (w3 := w) rfl rfl ?_
        refine sx_RP.step (pc2 := 40) (ls2 := [(3, .int (((nI a) - (nI a) / 8 * 8) - ((nI b) - (nI b) / 8 * 8))), (2, .int (((nI a) / 8) - ((nI b) / 8))), (0, .int (nI a)), (1, .int (nI b))]) (st2 := [.int (-(((nI a) - (nI a) / 8 * 8) - ((nI b) - (nI b) / 8 * 8))), .int (-(((nI a) / 8) - ((nI b) / 8)))]) (w3 := w) rfl rfl ?_
        refine sx_RP.step (pc2 := 41) (ls2 := [(3, .int (((nI a) - (nI a) / 8 * 8) - ((nI b) - (nI b) / 8 * 8))), (2, .int (((nI a) / 8) - ((nI b) / 8))), (0, .int (nI a)), (1, .int (nI b))]) (st2 := [.int ((-(((nI a) / 8) - ((nI b) / 8))) + (-(((nI a) - (nI a) / 8 * 8) - ((nI b) - (nI b) / 8 * 8))))]) (w3 := w) rfl rfl ?_
        refine sx_RP.ret (r := (some (.int ((-(((nI a) / 8) - ((nI b) / 8))) + (-(((nI a) - (nI a) / 8 * 8) - ((nI b) - (nI b) / 8 * 8))))))) rfl rfl ?_
        exact ⟨by unfold apF abF; rw [if_pos (Int32.not_le.mp q1), if_pos (Int32.not_le.mp q3)], rfl⟩
  obtain ⟨r9, w2, h1, rfl, rfl⟩ := h
  exact h1
set_option maxRecDepth 20000 in
set_option maxHeartbeats 4000000 in
theorem x38 {xs : Option (List Int32)} {d : Nat} {w : List sx_C} (hI : WI w) {k s : Nat} (hk : k ≤ 5) (hs : s ≤ 3) : sx_RU xs (d + 1) 38 0 (lv_args 0 [.int (nI k), .int (nI s)]) [] w (some (.int (b01 (fmB k s)))) w := by
  have h : sx_RP xs (d + 1) 38 0 (lv_args 0 [.int (nI k), .int (nI s)]) [] w (fun r9 w2 => r9 = some (.int (b01 (fmB k s))) ∧ w2 = w) := by
    refine sx_RP.step (pc2 := 1) (ls2 := [(0, .int (nI k)), (1, .int (nI s))]) (st2 := [.int (nI s)]) (w3 := w) rfl rfl ?_
    refine sx_RP.step (pc2 := 2) (ls2 := [(0, .int (nI k)), (1, .int (nI s))]) (st2 := [.int 1, .int (nI s)]) (w3 := w) rfl rfl ?_
    refine sx_RP.br (p1 := 13) (l1 := [(0, .int (nI k)), (1, .int (nI s))]) (s1 := []) (v1 := w) (p2 := 5) (l2 := [(0, .int (nI k)), (1, .int (nI s))]) (s2 := []) (v2 := w) rfl rfl (fun q1 => ?_) (fun q1 => ?_)
    · replace q1 := of_decide_eq_true q1
      replace q1 := mt (nI_eq (a := s) (b := 1) (by omega) (by omega)).mpr q1
      refine sx_RP.step (pc2 := 14) (ls2 := [(0, .int (nI k)), (1, .int (nI s))]) (st2 := [.int 1]) (w3 := w) rfl rfl ?_
      refine sx_RP.step (pc2 := 18) (ls2 := [(0, .int (nI k)), (1, .int (nI s))]) (st2 := [.int 1]) (w3 := w) rfl rfl ?_
      refine sx_RP.ret (r := (some (.int 1))) rfl rfl ?_
      exact ⟨by unfold fmB; rw [show (s == 1) = false from beq_false_of_ne q1]; rfl, rfl⟩
    · replace q1 := Decidable.not_not.mp (of_decide_eq_false q1)
      replace q1 := (nI_eq (a := s) (b := 1) (by omega) (by omega)).mp q1
      refine sx_RP.step (pc2 := 6) (ls2 := [(0, .int (nI k)), (1, .int (nI s))]) (st2 := [.int (nI k)]) (w3 := w) rfl rfl ?_
      refine sx_RP.step (pc2 := 7) (ls2 := [(0, .int (nI k)), (1, .int (nI s))]) (st2 := [.int 1, .int (nI k)]) (w3 := w) rfl rfl ?_
      rcases Bool.eq_false_or_eq_true (prB k) with hp | hp
      · refine sx_RP.cu (as := [.int (nI k), .int 1]) (rest2 := []) (st3 := [.int 1]) rfl rfl rfl rfl rfl ((by have z := frI_ok (t31 k (by omega) 1 (by decide)) xs d w; rw [show unB k 1 = prB k from rfl, hp] at z; exact z)) rfl ?_
        refine sx_RP.step (pc2 := 13) (ls2 := [(0, .int (nI k)), (1, .int (nI s))]) (st2 := []) (w3 := w) rfl rfl ?_
        refine sx_RP.step (pc2 := 14) (ls2 := [(0, .int (nI k)), (1, .int (nI s))]) (st2 := [.int 1]) (w3 := w) rfl rfl ?_
        refine sx_RP.step (pc2 := 18) (ls2 := [(0, .int (nI k)), (1, .int (nI s))]) (st2 := [.int 1]) (w3 := w) rfl rfl ?_
        refine sx_RP.ret (r := (some (.int 1))) rfl rfl ?_
        exact ⟨by unfold fmB; rw [show (s == 1) = true from beq_iff_eq.mpr q1, hp]; rfl, rfl⟩
      · refine sx_RP.cu (as := [.int (nI k), .int 1]) (rest2 := []) (st3 := [.int 0]) rfl rfl rfl rfl rfl ((by have z := frI_ok (t31 k (by omega) 1 (by decide)) xs d w; rw [show unB k 1 = prB k from rfl, hp] at z; exact z)) rfl ?_
        refine sx_RP.step (pc2 := 17) (ls2 := [(0, .int (nI k)), (1, .int (nI s))]) (st2 := []) (w3 := w) rfl rfl ?_
        refine sx_RP.step (pc2 := 18) (ls2 := [(0, .int (nI k)), (1, .int (nI s))]) (st2 := [.int 0]) (w3 := w) rfl rfl ?_
        refine sx_RP.ret (r := (some (.int 0))) rfl rfl ?_
        exact ⟨by unfold fmB; rw [show (s == 1) = true from beq_iff_eq.mpr q1, hp]; rfl, rfl⟩
  obtain ⟨r9, w2, h1, rfl, rfl⟩ := h
  exact h1
theorem b01_r37 (b : Bool) : sx_ret 37 .ireturn [.int (b01 b)] = some (some (.int (b01 b))) := by cases b <;> rfl
set_option maxRecDepth 20000 in
set_option maxHeartbeats 4000000 in
theorem x37 {xs : Option (List Int32)} {d : Nat} {w : List sx_C} (hI : WI w) {A : Nat} (hA : isA A) {k c : Nat} (hk : k ≤ 5) (hc : c < 48) : sx_RU xs (d + 2) 37 0 (lv_args 0 [.ref A, .int (nI k), .int (nI c)]) [] w (some (.int (b01 (fmB k (iN ((ia w (A + 1)).getD c 0)))))) w := by
  have h : sx_RP xs (d + 2) 37 0 (lv_args 0 [.ref A, .int (nI k), .int (nI c)]) [] w (fun r9 w2 => r9 = some (.int (b01 (fmB k (iN ((ia w (A + 1)).getD c 0))))) ∧ w2 = w) := by
    refine sx_RP.step (pc2 := 1) (ls2 := [(0, .ref A), (1, .int (nI k)), (2, .int (nI c))]) (st2 := [.int (nI k)]) (w3 := w) rfl rfl ?_
    refine sx_RP.step (pc2 := 2) (ls2 := [(0, .ref A), (1, .int (nI k)), (2, .int (nI c))]) (st2 := [.ref A, .int (nI k)]) (w3 := w) rfl rfl ?_
    refine sx_RP.gref (k := 0) (b := A + 1) hI hA rfl rfl (by omega) (show _ = 5 from rfl) ?_
    refine sx_RP.step (pc2 := 6) (ls2 := [(0, .ref A), (1, .int (nI k)), (2, .int (nI c))]) (st2 := [.int (nI c), .ref (A + 1), .int (nI k)]) (w3 := w) rfl rfl ?_
    refine sx_RP.ild (c := c) rfl (hI.1.aS hA).1 (hI.1.aS hA).2 (sx_in_nI (show c < 48 by omega) (by decide)) (show (nI c).toNatClampNeg = c from nI_clamp (by omega)) (show _ = 7 from rfl) ?_
    obtain ⟨x1, hx2, ex3⟩ : inR ((ia w (A + 1)).getD c 0) 3 := hI.st hA (show c < 48 by omega)
    rw [ex3]
    refine sx_RP.cu (as := [.int (nI k), .int (nI x1)]) (rest2 := []) (st3 := [.int (b01 (fmB k x1))]) rfl rfl rfl rfl rfl (x38 hI hk (show x1 ≤ 3 by omega)) rfl ?_
    refine sx_RP.ret (r := (some (.int (b01 (fmB k x1))))) rfl (b01_r37 _) ?_
    exact ⟨by rw [iN_n (by omega)], rfl⟩
  obtain ⟨r9, w2, h1, rfl, rfl⟩ := h
  exact h1
set_option maxRecDepth 20000 in
set_option maxHeartbeats 4000000 in
theorem x35 {xs : Option (List Int32)} {d : Nat} {w : List sx_C} (hI : WI w) {A : Nat} (hA : isA A) {k c : Nat} (hk : k ≤ 5) (hc : c < 48) : sx_RU xs (d + 1) 35 0 (lv_args 0 [.ref A, .int (nI k), .int (nI c)]) [] w (some (.int (ldV k (iN ((ia w (A + 1)).getD c 0))))) w := by
  have h : sx_RP xs (d + 1) 35 0 (lv_args 0 [.ref A, .int (nI k), .int (nI c)]) [] w (fun r9 w2 => r9 = some (.int (ldV k (iN ((ia w (A + 1)).getD c 0)))) ∧ w2 = w) := by
    refine sx_RP.step (pc2 := 1) (ls2 := [(0, .ref A), (1, .int (nI k)), (2, .int (nI c))]) (st2 := [.int (nI k)]) (w3 := w) rfl rfl ?_
    refine sx_RP.step (pc2 := 2) (ls2 := [(0, .ref A), (1, .int (nI k)), (2, .int (nI c))]) (st2 := [.ref A, .int (nI k)]) (w3 := w) rfl rfl ?_
    refine sx_RP.gref (k := 0) (b := A + 1) hI hA rfl rfl (by omega) (show _ = 5 from rfl) ?_
    refine sx_RP.step (pc2 := 6) (ls2 := [(0, .ref A), (1, .int (nI k)), (2, .int (nI c))]) (st2 := [.int (nI c), .ref (A + 1), .int (nI k)]) (w3 := w) rfl rfl ?_
    refine sx_RP.ild (c := c) rfl (hI.1.aS hA).1 (hI.1.aS hA).2 (sx_in_nI (show c < 48 by omega) (by decide)) (show (nI c).toNatClampNeg = c from nI_clamp (by omega)) (show _ = 7 from rfl) ?_
    obtain ⟨x1, hx2, ex3⟩ : inR ((ia w (A + 1)).getD c 0) 3 := hI.st hA (show c < 48 by omega)
    rw [ex3]
    refine sx_RP.cu (as := [.int (nI k), .int (nI x1)]) (rest2 := []) (st3 := [.int (ldV k x1)]) rfl rfl rfl rfl rfl (frI_ok (t36 k (by omega) x1 (by omega)) _ _ _) rfl ?_
    refine sx_RP.ret (r := (some (.int (ldV k x1)))) rfl rfl ?_
    exact ⟨by rw [iN_n (by omega)], rfl⟩
  obtain ⟨r9, w2, h1, rfl, rfl⟩ := h
  exact h1
set_option maxRecDepth 20000 in
set_option maxHeartbeats 4000000 in
theorem x33 {xs : Option (List Int32)} {d : Nat} {w : List sx_C} (hI : WI w) {A : Nat} (hA : isA A) {k c : Nat} (hk : k ≤ 5) (hc : c < 48) : sx_RU xs (d + 1) 33 0 (lv_args 0 [.ref A, .int (nI k), .int (nI c)]) [] w (some (.int (tmV k (iN ((ia w (A + 1)).getD c 0)) (b01 (bitL (fj w A 1) c))))) w := by
  have h : sx_RP xs (d + 1) 33 0 (lv_args 0 [.ref A, .int (nI k), .int (nI c)]) [] w (fun r9 w2 => r9 = some (.int (tmV k (iN ((ia w (A + 1)).getD c 0)) (b01 (bitL (fj w A 1) c)))) ∧ w2 = w) := by
    refine sx_RP.step (pc2 := 1) (ls2 := [(0, .ref A), (1, .int (nI k)), (2, .int (nI c))]) (st2 := [.int (nI k)]) (w3 := w) rfl rfl ?_
    refine sx_RP.step (pc2 := 2) (ls2 := [(0, .ref A), (1, .int (nI k)), (2, .int (nI c))]) (st2 := [.ref A, .int (nI k)]) (w3 := w) rfl rfl ?_
    refine sx_RP.gref (k := 0) (b := A + 1) hI hA rfl rfl (by omega) (show _ = 5 from rfl) ?_
    refine sx_RP.step (pc2 := 6) (ls2 := [(0, .ref A), (1, .int (nI k)), (2, .int (nI c))]) (st2 := [.int (nI c), .ref (A + 1), .int (nI k)]) (w3 := w) rfl rfl ?_
    refine sx_RP.ild (c := c) rfl (hI.1.aS hA).1 (hI.1.aS hA).2 (sx_in_nI (show c < 48 by omega) (by decide)) (show (nI c).toNatClampNeg = c from nI_clamp (by omega)) (show _ = 7 from rfl) ?_
    obtain ⟨x1, hx2, ex3⟩ : inR ((ia w (A + 1)).getD c 0) 3 := hI.st hA (show c < 48 by omega)
    rw [ex3]
    refine sx_RP.step (pc2 := 8) (ls2 := [(0, .ref A), (1, .int (nI k)), (2, .int (nI c))]) (st2 := [.ref A, .int (nI x1), .int (nI k)]) (w3 := w) rfl rfl ?_
    refine sx_RP.step (pc2 := 9) (ls2 := [(0, .ref A), (1, .int (nI k)), (2, .int (nI c))]) (st2 := [.int (nI c), .ref A, .int (nI x1), .int (nI k)]) (w3 := w) rfl rfl ?_
    rcases Bool.eq_false_or_eq_true (bitL (fj w A 1) c) with hb | hb
    · refine sx_RP.cu (as := [.ref A, .int (nI c)]) (rest2 := [.int (nI x1), .int (nI k)]) (st3 := [.int 1, .int (nI x1), .int (nI k)]) rfl rfl (sx_inv_v2 (mi := 33) (k := 86) (st := [.int (nI c), .ref A, .int (nI x1), .int (nI k)]) (w := w) rfl rfl (hI.1.oC hA) rfl rfl rfl) rfl rfl (x11t hI hA hc hb) rfl ?_
      refine sx_RP.cu (as := [.int (nI k), .int (nI x1), .int 1]) (rest2 := []) (st3 := [.int (tmV k x1 (nI 1))]) rfl rfl rfl rfl rfl (frI_ok (t34 k (by omega) x1 (by omega) 1 (by decide)) _ _ _) rfl ?_
      refine sx_RP.ret (r := (some (.int (tmV k x1 (nI 1))))) rfl rfl ?_
      exact ⟨by rw [iN_n (by omega), hb]; rfl, rfl⟩
    · refine sx_RP.cu (as := [.ref A, .int (nI c)]) (rest2 := [.int (nI x1), .int (nI k)]) (st3 := [.int 0, .int (nI x1), .int (nI k)]) rfl rfl (sx_inv_v2 (mi := 33) (k := 86) (st := [.int (nI c), .ref A, .int (nI x1), .int (nI k)]) (w := w) rfl rfl (hI.1.oC hA) rfl rfl rfl) rfl rfl (x11f hI hA hc hb) rfl ?_
      refine sx_RP.cu (as := [.int (nI k), .int (nI x1), .int 0]) (rest2 := []) (st3 := [.int (tmV k x1 (nI 0))]) rfl rfl rfl rfl rfl (frI_ok (t34 k (by omega) x1 (by omega) 0 (by decide)) _ _ _) rfl ?_
      refine sx_RP.ret (r := (some (.int (tmV k x1 (nI 0))))) rfl rfl ?_
      exact ⟨by rw [iN_n (by omega), hb]; rfl, rfl⟩
  obtain ⟨r9, w2, h1, rfl, rfl⟩ := h
  exact h1
set_option maxRecDepth 20000 in
set_option maxHeartbeats 4000000 in
theorem x40y {xs : Option (List Int32)} {d : Nat} {w : List sx_C} (hI : WI w) {A : Nat} (hA : isA A) {x : Int32} (hh : fi w A 6 + x ≤ 999) : sx_RU xs d 40 0 (lv_args 0 [.ref A, .int x]) [] w (some (.int (1))) w := by
  have h : sx_RP xs d 40 0 (lv_args 0 [.ref A, .int x]) [] w (fun r9 w2 => r9 = some (.int (1)) ∧ w2 = w) := by
    refine sx_RP.step (pc2 := 1) (ls2 := [(0, .ref A), (1, .int x)]) (st2 := [.ref A]) (w3 := w) rfl rfl ?_
    refine sx_RP.gc (k := 6) hI hA rfl rfl (by omega) (show _ = 4 from rfl) ?_
    refine sx_RP.step (pc2 := 5) (ls2 := [(0, .ref A), (1, .int x)]) (st2 := [.int x, .int (fi w A 6)]) (w3 := w) rfl rfl ?_
    refine sx_RP.step (pc2 := 6) (ls2 := [(0, .ref A), (1, .int x)]) (st2 := [.int ((fi w A 6) + x)]) (w3 := w) rfl rfl ?_
    refine sx_RP.step (pc2 := 9) (ls2 := [(0, .ref A), (1, .int x)]) (st2 := [.int 999, .int ((fi w A 6) + x)]) (w3 := w) rfl rfl ?_
    refine sx_RP.br (p2 := 12) (l2 := [(0, .ref A), (1, .int x)]) (s2 := []) (v2 := w) rfl rfl (fun q => absurd (of_decide_eq_true q) (fun z => absurd hh (Int32.not_le.mpr z))) (fun _ => ?_)
    refine sx_RP.step (pc2 := 13) (ls2 := [(0, .ref A), (1, .int x)]) (st2 := [.int 1]) (w3 := w) rfl rfl ?_
    refine sx_RP.step (pc2 := 17) (ls2 := [(0, .ref A), (1, .int x)]) (st2 := [.int 1]) (w3 := w) rfl rfl ?_
    refine sx_RP.ret (r := (some (.int 1))) rfl rfl ?_
    exact ⟨rfl, rfl⟩
  obtain ⟨r9, w2, h1, rfl, rfl⟩ := h
  exact h1
set_option maxRecDepth 20000 in
set_option maxHeartbeats 4000000 in
theorem x40n {xs : Option (List Int32)} {d : Nat} {w : List sx_C} (hI : WI w) {A : Nat} (hA : isA A) {x : Int32} (hh : ¬ fi w A 6 + x ≤ 999) : sx_RU xs d 40 0 (lv_args 0 [.ref A, .int x]) [] w (some (.int (0))) w := by
  have h : sx_RP xs d 40 0 (lv_args 0 [.ref A, .int x]) [] w (fun r9 w2 => r9 = some (.int (0)) ∧ w2 = w) := by
    refine sx_RP.step (pc2 := 1) (ls2 := [(0, .ref A), (1, .int x)]) (st2 := [.ref A]) (w3 := w) rfl rfl ?_
    refine sx_RP.gc (k := 6) hI hA rfl rfl (by omega) (show _ = 4 from rfl) ?_
    refine sx_RP.step (pc2 := 5) (ls2 := [(0, .ref A), (1, .int x)]) (st2 := [.int x, .int (fi w A 6)]) (w3 := w) rfl rfl ?_
    refine sx_RP.step (pc2 := 6) (ls2 := [(0, .ref A), (1, .int x)]) (st2 := [.int ((fi w A 6) + x)]) (w3 := w) rfl rfl ?_
    refine sx_RP.step (pc2 := 9) (ls2 := [(0, .ref A), (1, .int x)]) (st2 := [.int 999, .int ((fi w A 6) + x)]) (w3 := w) rfl rfl ?_
    refine sx_RP.br (p1 := 16) (l1 := [(0, .ref A), (1, .int x)]) (s1 := []) (v1 := w) rfl rfl (fun _ => ?_) (fun q => absurd (Int32.not_le.mp hh) (of_decide_eq_false q))
    refine sx_RP.step (pc2 := 17) (ls2 := [(0, .ref A), (1, .int x)]) (st2 := [.int 0]) (w3 := w) rfl rfl ?_
    refine sx_RP.ret (r := (some (.int 0))) rfl rfl ?_
    exact ⟨rfl, rfl⟩
  obtain ⟨r9, w2, h1, rfl, rfl⟩ := h
  exact h1
set_option maxRecDepth 20000 in
set_option maxHeartbeats 4000000 in
theorem x165n {xs : Option (List Int32)} {d : Nat} {w : List sx_C} (hI : WI w) {x : Int32} (hh : (ia w 112).getD 0 0 + x ≤ 999) : sx_RU xs d 165 0 (lv_args 0 [.ref 111, .int x]) [] w (some (.int (0))) w := by
  have h : sx_RP xs d 165 0 (lv_args 0 [.ref 111, .int x]) [] w (fun r9 w2 => r9 = some (.int (0)) ∧ w2 = w) := by
    refine sx_RP.step (pc2 := 1) (ls2 := [(0, .ref 111), (1, .int x)]) (st2 := [.ref 111]) (w3 := w) rfl rfl ?_
    refine sx_RP.gf (v := .ref 112) rfl rfl hI.1.o111 rfl rfl (show _ = 4 from rfl) ?_
    refine sx_RP.step (pc2 := 5) (ls2 := [(0, .ref 111), (1, .int x)]) (st2 := [.int 0, .ref 112]) (w3 := w) rfl rfl ?_
    refine sx_RP.ild (c := 0) rfl hI.1.a112.1 hI.1.a112.2 (sx_in_nI (show 0 < 172 by omega) (by decide)) (show (nI (0)).toNatClampNeg = 0 from nI_clamp (by omega)) (show _ = 6 from rfl) ?_
    refine sx_RP.step (pc2 := 7) (ls2 := [(0, .ref 111), (1, .int x)]) (st2 := [.int x, .int ((ia w 112).getD (0) 0)]) (w3 := w) rfl rfl ?_
    refine sx_RP.step (pc2 := 8) (ls2 := [(0, .ref 111), (1, .int x)]) (st2 := [.int (((ia w 112).getD (0) 0) + x)]) (w3 := w) rfl rfl ?_
    refine sx_RP.step (pc2 := 11) (ls2 := [(0, .ref 111), (1, .int x)]) (st2 := [.int 999, .int (((ia w 112).getD (0) 0) + x)]) (w3 := w) rfl rfl ?_
    refine sx_RP.br (p1 := 18) (l1 := [(0, .ref 111), (1, .int x)]) (s1 := []) (v1 := w) rfl rfl (fun _ => ?_) (fun q => absurd hh (of_decide_eq_false q))
    refine sx_RP.step (pc2 := 19) (ls2 := [(0, .ref 111), (1, .int x)]) (st2 := [.int 0]) (w3 := w) rfl rfl ?_
    refine sx_RP.ret (r := (some (.int 0))) rfl rfl ?_
    exact ⟨rfl, rfl⟩
  obtain ⟨r9, w2, h1, rfl, rfl⟩ := h
  exact h1
set_option maxRecDepth 20000 in
set_option maxHeartbeats 4000000 in
theorem x165y {xs : Option (List Int32)} {d : Nat} {w : List sx_C} (hI : WI w) {x : Int32} (hh : ¬ (ia w 112).getD 0 0 + x ≤ 999) : sx_RU xs d 165 0 (lv_args 0 [.ref 111, .int x]) [] w (some (.int (1))) w := by
  have h : sx_RP xs d 165 0 (lv_args 0 [.ref 111, .int x]) [] w (fun r9 w2 => r9 = some (.int (1)) ∧ w2 = w) := by
    refine sx_RP.step (pc2 := 1) (ls2 := [(0, .ref 111), (1, .int x)]) (st2 := [.ref 111]) (w3 := w) rfl rfl ?_
    refine sx_RP.gf (v := .ref 112) rfl rfl hI.1.o111 rfl rfl (show _ = 4 from rfl) ?_
    refine sx_RP.step (pc2 := 5) (ls2 := [(0, .ref 111), (1, .int x)]) (st2 := [.int 0, .ref 112]) (w3 := w) rfl rfl ?_
    refine sx_RP.ild (c := 0) rfl hI.1.a112.1 hI.1.a112.2 (sx_in_nI (show 0 < 172 by omega) (by decide)) (show (nI (0)).toNatClampNeg = 0 from nI_clamp (by omega)) (show _ = 6 from rfl) ?_
    refine sx_RP.step (pc2 := 7) (ls2 := [(0, .ref 111), (1, .int x)]) (st2 := [.int x, .int ((ia w 112).getD (0) 0)]) (w3 := w) rfl rfl ?_
    refine sx_RP.step (pc2 := 8) (ls2 := [(0, .ref 111), (1, .int x)]) (st2 := [.int (((ia w 112).getD (0) 0) + x)]) (w3 := w) rfl rfl ?_
    refine sx_RP.step (pc2 := 11) (ls2 := [(0, .ref 111), (1, .int x)]) (st2 := [.int 999, .int (((ia w 112).getD (0) 0) + x)]) (w3 := w) rfl rfl ?_
    refine sx_RP.br (p2 := 14) (l2 := [(0, .ref 111), (1, .int x)]) (s2 := []) (v2 := w) rfl rfl (fun q => absurd (of_decide_eq_true q) hh) (fun _ => ?_)
    refine sx_RP.step (pc2 := 15) (ls2 := [(0, .ref 111), (1, .int x)]) (st2 := [.int 1]) (w3 := w) rfl rfl ?_
    refine sx_RP.step (pc2 := 19) (ls2 := [(0, .ref 111), (1, .int x)]) (st2 := [.int 1]) (w3 := w) rfl rfl ?_
    refine sx_RP.ret (r := (some (.int 1))) rfl rfl ?_
    exact ⟨rfl, rfl⟩
  obtain ⟨r9, w2, h1, rfl, rfl⟩ := h
  exact h1
set_option maxRecDepth 20000 in
set_option maxHeartbeats 4000000 in
theorem x43y {xs : Option (List Int32)} {d : Nat} {w : List sx_C} (hI : WI w) {ga : Nat} (hg : gAd ga) {x : Int32} (hh : fi w ga 1 = x ∧ fi w ga 5 = 0) : sx_RU xs d 43 0 (lv_args 0 [.ref ga, .int x]) [] w (some (.int (1))) w := by
  have h : sx_RP xs d 43 0 (lv_args 0 [.ref ga, .int x]) [] w (fun r9 w2 => r9 = some (.int (1)) ∧ w2 = w) := by
    refine sx_RP.step (pc2 := 1) (ls2 := [(0, .ref ga), (1, .int x)]) (st2 := [.ref ga]) (w3 := w) rfl rfl ?_
    refine sx_RP.gg (k := 1) hI hg rfl rfl (by decide) (show _ = 4 from rfl) ?_
    refine sx_RP.step (pc2 := 5) (ls2 := [(0, .ref ga), (1, .int x)]) (st2 := [.int x, .int (fi w ga 1)]) (w3 := w) rfl rfl ?_
    refine sx_RP.br (p1 := 19) (l1 := [(0, .ref ga), (1, .int x)]) (s1 := []) (v1 := w) (p2 := 8) (l2 := [(0, .ref ga), (1, .int x)]) (s2 := []) (v2 := w) rfl rfl (fun q1 => ?_) (fun q1 => ?_)
    · replace q1 := of_decide_eq_true q1
      refine sx_RP.step (pc2 := 20) (ls2 := [(0, .ref ga), (1, .int x)]) (st2 := [.int 0]) (w3 := w) rfl rfl ?_
      refine sx_RP.ret (r := (some (.int 0))) rfl rfl ?_
      first | exact ⟨rfl, rfl⟩ | exact absurd hh.1 (by assumption) | exact absurd hh.2 (by assumption)
    · replace q1 := Decidable.not_not.mp (of_decide_eq_false q1)
      refine sx_RP.step (pc2 := 9) (ls2 := [(0, .ref ga), (1, .int x)]) (st2 := [.ref ga]) (w3 := w) rfl rfl ?_
      refine sx_RP.gg (k := 5) hI hg rfl rfl (by decide) (show _ = 12 from rfl) ?_
      refine sx_RP.br (p1 := 19) (l1 := [(0, .ref ga), (1, .int x)]) (s1 := []) (v1 := w) (p2 := 15) (l2 := [(0, .ref ga), (1, .int x)]) (s2 := []) (v2 := w) rfl rfl (fun q2 => ?_) (fun q2 => ?_)
      · replace q2 := of_decide_eq_true q2
        refine sx_RP.step (pc2 := 20) (ls2 := [(0, .ref ga), (1, .int x)]) (st2 := [.int 0]) (w3 := w) rfl rfl ?_
        refine sx_RP.ret (r := (some (.int 0))) rfl rfl ?_
        first | exact ⟨rfl, rfl⟩ | exact absurd hh.1 (by assumption) | exact absurd hh.2 (by assumption)
      · replace q2 := Decidable.not_not.mp (of_decide_eq_false q2)
        refine sx_RP.step (pc2 := 16) (ls2 := [(0, .ref ga), (1, .int x)]) (st2 := [.int 1]) (w3 := w) rfl rfl ?_
        refine sx_RP.step (pc2 := 20) (ls2 := [(0, .ref ga), (1, .int x)]) (st2 := [.int 1]) (w3 := w) rfl rfl ?_
        refine sx_RP.ret (r := (some (.int 1))) rfl rfl ?_
        first | exact ⟨rfl, rfl⟩ | exact absurd hh.1 (by assumption) | exact absurd hh.2 (by assumption)
  obtain ⟨r9, w2, h1, rfl, rfl⟩ := h
  exact h1
set_option maxRecDepth 20000 in
set_option maxHeartbeats 4000000 in
theorem x43n {xs : Option (List Int32)} {d : Nat} {w : List sx_C} (hI : WI w) {ga : Nat} (hg : gAd ga) {x : Int32} (hh : ¬ (fi w ga 1 = x ∧ fi w ga 5 = 0)) : sx_RU xs d 43 0 (lv_args 0 [.ref ga, .int x]) [] w (some (.int (0))) w := by
  have h : sx_RP xs d 43 0 (lv_args 0 [.ref ga, .int x]) [] w (fun r9 w2 => r9 = some (.int (0)) ∧ w2 = w) := by
    refine sx_RP.step (pc2 := 1) (ls2 := [(0, .ref ga), (1, .int x)]) (st2 := [.ref ga]) (w3 := w) rfl rfl ?_
    refine sx_RP.gg (k := 1) hI hg rfl rfl (by decide) (show _ = 4 from rfl) ?_
    refine sx_RP.step (pc2 := 5) (ls2 := [(0, .ref ga), (1, .int x)]) (st2 := [.int x, .int (fi w ga 1)]) (w3 := w) rfl rfl ?_
    refine sx_RP.br (p1 := 19) (l1 := [(0, .ref ga), (1, .int x)]) (s1 := []) (v1 := w) (p2 := 8) (l2 := [(0, .ref ga), (1, .int x)]) (s2 := []) (v2 := w) rfl rfl (fun q1 => ?_) (fun q1 => ?_)
    · replace q1 := of_decide_eq_true q1
      refine sx_RP.step (pc2 := 20) (ls2 := [(0, .ref ga), (1, .int x)]) (st2 := [.int 0]) (w3 := w) rfl rfl ?_
      refine sx_RP.ret (r := (some (.int 0))) rfl rfl ?_
      first | exact ⟨rfl, rfl⟩ | exact absurd ⟨by assumption, by assumption⟩ hh
    · replace q1 := Decidable.not_not.mp (of_decide_eq_false q1)
      refine sx_RP.step (pc2 := 9) (ls2 := [(0, .ref ga), (1, .int x)]) (st2 := [.ref ga]) (w3 := w) rfl rfl ?_
      refine sx_RP.gg (k := 5) hI hg rfl rfl (by decide) (show _ = 12 from rfl) ?_
      refine sx_RP.br (p1 := 19) (l1 := [(0, .ref ga), (1, .int x)]) (s1 := []) (v1 := w) (p2 := 15) (l2 := [(0, .ref ga), (1, .int x)]) (s2 := []) (v2 := w) rfl rfl (fun q2 => ?_) (fun q2 => ?_)
      · replace q2 := of_decide_eq_true q2
        refine sx_RP.step (pc2 := 20) (ls2 := [(0, .ref ga), (1, .int x)]) (st2 := [.int 0]) (w3 := w) rfl rfl ?_
        refine sx_RP.ret (r := (some (.int 0))) rfl rfl ?_
        first | exact ⟨rfl, rfl⟩ | exact absurd ⟨by assumption, by assumption⟩ hh
      · replace q2 := Decidable.not_not.mp (of_decide_eq_false q2)
        refine sx_RP.step (pc2 := 16) (ls2 := [(0, .ref ga), (1, .int x)]) (st2 := [.int 1]) (w3 := w) rfl rfl ?_
        refine sx_RP.step (pc2 := 20) (ls2 := [(0, .ref ga), (1, .int x)]) (st2 := [.int 1]) (w3 := w) rfl rfl ?_
        refine sx_RP.ret (r := (some (.int 1))) rfl rfl ?_
        first | exact ⟨rfl, rfl⟩ | exact absurd ⟨by assumption, by assumption⟩ hh
  obtain ⟨r9, w2, h1, rfl, rfl⟩ := h
  exact h1
set_option maxRecDepth 20000 in
set_option maxHeartbeats 4000000 in
theorem x144 {xs : Option (List Int32)} {d : Nat} {w : List sx_C} (hI : WI w) {g c k s : Nat} (hg : g < 10) (hc : c < 48) (hk : k < 6) (ek : (ia w 112).getD (103 + 6 * g + 0) 0 = nI k) (hs : s < 4) (es : (ia w 112).getD (7 + c) 0 = nI s) : sx_RU xs (d + 1) 144 0 (lv_args 0 [.ref 111, .int (nI g), .int (nI c)]) [] w (some (.int (b01 (fmB k s)))) w := by
  have h : sx_RP xs (d + 1) 144 0 (lv_args 0 [.ref 111, .int (nI g), .int (nI c)]) [] w (fun r9 w2 => r9 = some (.int (b01 (fmB k s))) ∧ w2 = w) := by
    refine sx_RP.step (pc2 := 1) (ls2 := [(0, .ref 111), (1, .int (nI g)), (2, .int (nI c))]) (st2 := [.ref 111]) (w3 := w) rfl rfl ?_
    refine sx_RP.step (pc2 := 2) (ls2 := [(0, .ref 111), (1, .int (nI g)), (2, .int (nI c))]) (st2 := [.int (nI g), .ref 111]) (w3 := w) rfl rfl ?_
    refine sx_RP.step (pc2 := 3) (ls2 := [(0, .ref 111), (1, .int (nI g)), (2, .int (nI c))]) (st2 := [.int 0, .int (nI g), .ref 111]) (w3 := w) rfl rfl ?_
    refine sx_RP.cu (as := [.ref 111, .int (nI g), .int 0]) (rest2 := []) (st3 := [.int (nI k)]) rfl rfl (sx_inv_v2 (mi := 144) (k := 59) (st := [.int 0, .int (nI g), .ref 111]) (w := w) rfl rfl hI.1.o111 rfl rfl rfl) rfl rfl (x138e hI hg (show 0 < 6 by decide) ek) rfl ?_
    rcases Bool.eq_false_or_eq_true (prB k) with hp | hp
    · refine sx_RP.cu (as := [.int (nI k)]) (rest2 := []) (st3 := [.int 1]) rfl rfl rfl rfl rfl ((by have z := frI_ok (t145 k hk) xs d w; rw [hp] at z; exact z)) rfl ?_
      refine sx_RP.step (pc2 := 25) (ls2 := [(0, .ref 111), (1, .int (nI g)), (2, .int (nI c))]) (st2 := []) (w3 := w) rfl rfl ?_
      refine sx_RP.step (pc2 := 26) (ls2 := [(0, .ref 111), (1, .int (nI g)), (2, .int (nI c))]) (st2 := [.int 1]) (w3 := w) rfl rfl ?_
      refine sx_RP.step (pc2 := 30) (ls2 := [(0, .ref 111), (1, .int (nI g)), (2, .int (nI c))]) (st2 := [.int 1]) (w3 := w) rfl rfl ?_
      refine sx_RP.ret (r := (some (.int 1))) rfl rfl ?_
      exact ⟨by unfold fmB; rw [hp, Bool.or_true]; rfl, rfl⟩
    · refine sx_RP.cu (as := [.int (nI k)]) (rest2 := []) (st3 := [.int 0]) rfl rfl rfl rfl rfl ((by have z := frI_ok (t145 k hk) xs d w; rw [hp] at z; exact z)) rfl ?_
      refine sx_RP.step (pc2 := 12) (ls2 := [(0, .ref 111), (1, .int (nI g)), (2, .int (nI c))]) (st2 := []) (w3 := w) rfl rfl ?_
      refine sx_RP.step (pc2 := 13) (ls2 := [(0, .ref 111), (1, .int (nI g)), (2, .int (nI c))]) (st2 := [.ref 111]) (w3 := w) rfl rfl ?_
      refine sx_RP.gf (v := .ref 112) rfl rfl hI.1.o111 rfl rfl (show _ = 16 from rfl) ?_
      refine sx_RP.step (pc2 := 18) (ls2 := [(0, .ref 111), (1, .int (nI g)), (2, .int (nI c))]) (st2 := [.int 7, .ref 112]) (w3 := w) rfl rfl ?_
      refine sx_RP.step (pc2 := 19) (ls2 := [(0, .ref 111), (1, .int (nI g)), (2, .int (nI c))]) (st2 := [.int (nI c), .int 7, .ref 112]) (w3 := w) rfl rfl ?_
      refine sx_RP.step (pc2 := 20) (ls2 := [(0, .ref 111), (1, .int (nI g)), (2, .int (nI c))]) (st2 := [.int (7 + (nI c)), .ref 112]) (w3 := w) rfl rfl ?_
      rw [show (7 + (nI c) : Int32) = nI (7 + c) from nI_add 7 c]
      refine sx_RP.ild (c := (7 + c)) rfl hI.1.a112.1 hI.1.a112.2 (sx_in_nI (show (7 + c) < 172 by omega) (by decide)) (show (nI (7 + c)).toNatClampNeg = (7 + c) from nI_clamp (by omega)) (show _ = 21 from rfl) ?_
      rw [es]
      refine sx_RP.step (pc2 := 22) (ls2 := [(0, .ref 111), (1, .int (nI g)), (2, .int (nI c))]) (st2 := [.int 1, .int (nI s)]) (w3 := w) rfl rfl ?_
      refine sx_RP.br (p1 := 29) (l1 := [(0, .ref 111), (1, .int (nI g)), (2, .int (nI c))]) (s1 := []) (v1 := w) (p2 := 25) (l2 := [(0, .ref 111), (1, .int (nI g)), (2, .int (nI c))]) (s2 := []) (v2 := w) rfl rfl (fun q1 => ?_) (fun q1 => ?_)
      · replace q1 := of_decide_eq_true q1
        replace q1 := (nI_eq (a := s) (b := 1) (by omega) (by omega)).mp q1
        refine sx_RP.step (pc2 := 30) (ls2 := [(0, .ref 111), (1, .int (nI g)), (2, .int (nI c))]) (st2 := [.int 0]) (w3 := w) rfl rfl ?_
        refine sx_RP.ret (r := (some (.int 0))) rfl rfl ?_
        exact ⟨by unfold fmB; rw [hp, show (s == 1) = true from beq_iff_eq.mpr q1]; rfl, rfl⟩
      · replace q1 := of_decide_eq_false q1
        replace q1 := mt (nI_eq (a := s) (b := 1) (by omega) (by omega)).mpr q1
        refine sx_RP.step (pc2 := 26) (ls2 := [(0, .ref 111), (1, .int (nI g)), (2, .int (nI c))]) (st2 := [.int 1]) (w3 := w) rfl rfl ?_
        refine sx_RP.step (pc2 := 30) (ls2 := [(0, .ref 111), (1, .int (nI g)), (2, .int (nI c))]) (st2 := [.int 1]) (w3 := w) rfl rfl ?_
        refine sx_RP.ret (r := (some (.int 1))) rfl rfl ?_
        exact ⟨by unfold fmB; rw [hp, show (s == 1) = false from beq_false_of_ne q1]; rfl, rfl⟩
  obtain ⟨r9, w2, h1, rfl, rfl⟩ := h
  exact h1
set_option maxRecDepth 20000 in
set_option maxHeartbeats 4000000 in
theorem x147_0 {xs : Option (List Int32)} {d : Nat} {w : List sx_C} (hI : WI w) {g c k : Nat} (hg : g < 10) (hc : c < 48) (hk : k < 6) (ek : (ia w 112).getD (103 + 6 * g + 0) 0 = nI k) (es : (ia w 112).getD (7 + c) 0 = 0) : sx_RU xs (d + 1) 147 0 (lv_args 0 [.ref 111, .int (nI g), .int (nI c)]) [] w (some (.int (if 0 = 3 then -1 else tmV k 0 ((ia w 112).getD (55 + c) 0)))) w := by
  have h : sx_RP xs (d + 1) 147 0 (lv_args 0 [.ref 111, .int (nI g), .int (nI c)]) [] w (fun r9 w2 => r9 = some (.int (if 0 = 3 then -1 else tmV k 0 ((ia w 112).getD (55 + c) 0))) ∧ w2 = w) := by
    refine sx_RP.step (pc2 := 1) (ls2 := [(0, .ref 111), (1, .int (nI g)), (2, .int (nI c))]) (st2 := [.ref 111]) (w3 := w) rfl rfl ?_
    refine sx_RP.gf (v := .ref 112) rfl rfl hI.1.o111 rfl rfl (show _ = 4 from rfl) ?_
    refine sx_RP.step (pc2 := 6) (ls2 := [(0, .ref 111), (1, .int (nI g)), (2, .int (nI c))]) (st2 := [.int 7, .ref 112]) (w3 := w) rfl rfl ?_
    refine sx_RP.step (pc2 := 7) (ls2 := [(0, .ref 111), (1, .int (nI g)), (2, .int (nI c))]) (st2 := [.int (nI c), .int 7, .ref 112]) (w3 := w) rfl rfl ?_
    refine sx_RP.step (pc2 := 8) (ls2 := [(0, .ref 111), (1, .int (nI g)), (2, .int (nI c))]) (st2 := [.int (7 + (nI c)), .ref 112]) (w3 := w) rfl rfl ?_
    rw [show (7 + (nI c) : Int32) = nI (7 + c) from nI_add 7 c]
    refine sx_RP.ild (c := (7 + c)) rfl hI.1.a112.1 hI.1.a112.2 (sx_in_nI (show (7 + c) < 172 by omega) (by decide)) (show (nI (7 + c)).toNatClampNeg = (7 + c) from nI_clamp (by omega)) (show _ = 9 from rfl) ?_
    rw [es]
    refine sx_RP.step (pc2 := 10) (ls2 := [(3, .int 0), (0, .ref 111), (1, .int (nI g)), (2, .int (nI c))]) (st2 := []) (w3 := w) rfl rfl ?_
    refine sx_RP.step (pc2 := 11) (ls2 := [(3, .int 0), (0, .ref 111), (1, .int (nI g)), (2, .int (nI c))]) (st2 := [.int 0]) (w3 := w) rfl rfl ?_
    refine sx_RP.step (pc2 := 12) (ls2 := [(3, .int 0), (0, .ref 111), (1, .int (nI g)), (2, .int (nI c))]) (st2 := [.int 3, .int 0]) (w3 := w) rfl rfl ?_
    refine sx_RP.step (pc2 := 17) (ls2 := [(3, .int 0), (0, .ref 111), (1, .int (nI g)), (2, .int (nI c))]) (st2 := []) (w3 := w) rfl rfl ?_
    refine sx_RP.step (pc2 := 18) (ls2 := [(3, .int 0), (0, .ref 111), (1, .int (nI g)), (2, .int (nI c))]) (st2 := [.ref 111]) (w3 := w) rfl rfl ?_
    refine sx_RP.step (pc2 := 19) (ls2 := [(3, .int 0), (0, .ref 111), (1, .int (nI g)), (2, .int (nI c))]) (st2 := [.int (nI g), .ref 111]) (w3 := w) rfl rfl ?_
    refine sx_RP.step (pc2 := 20) (ls2 := [(3, .int 0), (0, .ref 111), (1, .int (nI g)), (2, .int (nI c))]) (st2 := [.int 0, .int (nI g), .ref 111]) (w3 := w) rfl rfl ?_
    refine sx_RP.cu (as := [.ref 111, .int (nI g), .int 0]) (rest2 := []) (st3 := [.int (nI k)]) rfl rfl (sx_inv_v2 (mi := 147) (k := 59) (st := [.int 0, .int (nI g), .ref 111]) (w := w) rfl rfl hI.1.o111 rfl rfl rfl) rfl rfl (x138e hI hg (show 0 < 6 by decide) ek) rfl ?_
    refine sx_RP.step (pc2 := 25) (ls2 := [(4, .int (nI k)), (3, .int 0), (0, .ref 111), (1, .int (nI g)), (2, .int (nI c))]) (st2 := []) (w3 := w) rfl rfl ?_
    refine sx_RP.step (pc2 := 26) (ls2 := [(4, .int (nI k)), (3, .int 0), (0, .ref 111), (1, .int (nI g)), (2, .int (nI c))]) (st2 := [.int 0]) (w3 := w) rfl rfl ?_
    refine sx_RP.cu (as := [.int 0]) (rest2 := []) (st3 := [.int 1]) rfl rfl rfl rfl rfl (frI_ok (t148 0 (by decide)) _ _ _) rfl ?_
    refine sx_RP.step (pc2 := 31) (ls2 := [(5, .int 1), (4, .int (nI k)), (3, .int 0), (0, .ref 111), (1, .int (nI g)), (2, .int (nI c))]) (st2 := []) (w3 := w) rfl rfl ?_
    refine sx_RP.step (pc2 := 33) (ls2 := [(5, .int 1), (4, .int (nI k)), (3, .int 0), (0, .ref 111), (1, .int (nI g)), (2, .int (nI c))]) (st2 := [.int (nI k)]) (w3 := w) rfl rfl ?_
    rcases sw_cases (n := 5) (nI k) with q1 | ⟨x2, hx3, ex4⟩
    · refine sx_RP.swo (t := 116) rfl q1 rfl ?_
      refine sx_RP.step (pc2 := 118) (ls2 := [(5, .int 1), (4, .int (nI k)), (3, .int 0), (0, .ref 111), (1, .int (nI g)), (2, .int (nI c))]) (st2 := [.int 1]) (w3 := w) rfl rfl ?_
      refine sx_RP.step (pc2 := 119) (ls2 := [(5, .int 1), (4, .int (nI k)), (3, .int 0), (0, .ref 111), (1, .int (nI g)), (2, .int (nI c))]) (st2 := [.int 1, .int 1]) (w3 := w) rfl rfl ?_
      refine sx_RP.step (pc2 := 120) (ls2 := [(5, .int 1), (4, .int (nI k)), (3, .int 0), (0, .ref 111), (1, .int (nI g)), (2, .int (nI c))]) (st2 := [.int 2]) (w3 := w) rfl rfl ?_
      refine sx_RP.step (pc2 := 121) (ls2 := [(5, .int 1), (4, .int (nI k)), (3, .int 0), (0, .ref 111), (1, .int (nI g)), (2, .int (nI c))]) (st2 := [.ref 111, .int 2]) (w3 := w) rfl rfl ?_
      refine sx_RP.gf (v := .ref 112) rfl rfl hI.1.o111 rfl rfl (show _ = 124 from rfl) ?_
      refine sx_RP.step (pc2 := 126) (ls2 := [(5, .int 1), (4, .int (nI k)), (3, .int 0), (0, .ref 111), (1, .int (nI g)), (2, .int (nI c))]) (st2 := [.int 55, .ref 112, .int 2]) (w3 := w) rfl rfl ?_
      refine sx_RP.step (pc2 := 127) (ls2 := [(5, .int 1), (4, .int (nI k)), (3, .int 0), (0, .ref 111), (1, .int (nI g)), (2, .int (nI c))]) (st2 := [.int (nI c), .int 55, .ref 112, .int 2]) (w3 := w) rfl rfl ?_
      refine sx_RP.step (pc2 := 128) (ls2 := [(5, .int 1), (4, .int (nI k)), (3, .int 0), (0, .ref 111), (1, .int (nI g)), (2, .int (nI c))]) (st2 := [.int (55 + (nI c)), .ref 112, .int 2]) (w3 := w) rfl rfl ?_
      rw [show (55 + (nI c) : Int32) = nI (55 + c) from nI_add 55 c]
      refine sx_RP.ild (c := (55 + c)) rfl hI.1.a112.1 hI.1.a112.2 (sx_in_nI (show (55 + c) < 172 by omega) (by decide)) (show (nI ((55 + c))).toNatClampNeg = (55 + c) from nI_clamp (by omega)) (show _ = 129 from rfl) ?_
      refine sx_RP.step (pc2 := 130) (ls2 := [(5, .int 1), (4, .int (nI k)), (3, .int 0), (0, .ref 111), (1, .int (nI g)), (2, .int (nI c))]) (st2 := [.int (2 + ((ia w 112).getD ((55 + c)) 0))]) (w3 := w) rfl rfl ?_
      refine sx_RP.ret (r := (some (.int (2 + ((ia w 112).getD ((55 + c)) 0))))) rfl rfl ?_
      exact (sw6 hk (by assumption)).elim
    · rw [ex4]
      rcases (show x2 = 0 ∨ x2 = 1 ∨ x2 = 2 ∨ x2 = 3 ∨ x2 = 4 ∨ x2 = 5 by omega) with rfl | rfl | rfl | rfl | rfl | rfl
      · refine sx_RP.step (pc2 := 72) (ls2 := [(5, .int 1), (4, .int (nI 0)), (3, .int 0), (0, .ref 111), (1, .int (nI g)), (2, .int (nI c))]) (st2 := []) (w3 := w) rfl rfl ?_
        refine sx_RP.step (pc2 := 74) (ls2 := [(5, .int 1), (4, .int (nI 0)), (3, .int 0), (0, .ref 111), (1, .int (nI g)), (2, .int (nI c))]) (st2 := [.int 1]) (w3 := w) rfl rfl ?_
        refine sx_RP.ret (r := (some (.int 1))) rfl rfl ?_
        obtain rfl : k = 0 := (nI_eq (a := k) (b := 0) (by omega) (by decide)).mp ex4
        exact ⟨by first | rfl | decide, rfl⟩
      · refine sx_RP.step (pc2 := 75) (ls2 := [(5, .int 1), (4, .int (nI 1)), (3, .int 0), (0, .ref 111), (1, .int (nI g)), (2, .int (nI c))]) (st2 := []) (w3 := w) rfl rfl ?_
        refine sx_RP.step (pc2 := 77) (ls2 := [(5, .int 1), (4, .int (nI 1)), (3, .int 0), (0, .ref 111), (1, .int (nI g)), (2, .int (nI c))]) (st2 := [.int 1]) (w3 := w) rfl rfl ?_
        refine sx_RP.step (pc2 := 78) (ls2 := [(5, .int 1), (4, .int (nI 1)), (3, .int 0), (0, .ref 111), (1, .int (nI g)), (2, .int (nI c))]) (st2 := [.int 1, .int 1]) (w3 := w) rfl rfl ?_
        refine sx_RP.step (pc2 := 79) (ls2 := [(5, .int 1), (4, .int (nI 1)), (3, .int 0), (0, .ref 111), (1, .int (nI g)), (2, .int (nI c))]) (st2 := [.int 2]) (w3 := w) rfl rfl ?_
        refine sx_RP.ret (r := (some (.int 2))) rfl rfl ?_
        obtain rfl : k = 1 := (nI_eq (a := k) (b := 1) (by omega) (by decide)).mp ex4
        exact ⟨by first | rfl | decide, rfl⟩
      · refine sx_RP.step (pc2 := 80) (ls2 := [(5, .int 1), (4, .int (nI 2)), (3, .int 0), (0, .ref 111), (1, .int (nI g)), (2, .int (nI c))]) (st2 := []) (w3 := w) rfl rfl ?_
        refine sx_RP.step (pc2 := 82) (ls2 := [(5, .int 1), (4, .int (nI 2)), (3, .int 0), (0, .ref 111), (1, .int (nI g)), (2, .int (nI c))]) (st2 := [.int 1]) (w3 := w) rfl rfl ?_
        refine sx_RP.step (pc2 := 83) (ls2 := [(5, .int 1), (4, .int (nI 2)), (3, .int 0), (0, .ref 111), (1, .int (nI g)), (2, .int (nI c))]) (st2 := [.int 4, .int 1]) (w3 := w) rfl rfl ?_
        refine sx_RP.step (pc2 := 86) (ls2 := [(5, .int 1), (4, .int (nI 2)), (3, .int 0), (0, .ref 111), (1, .int (nI g)), (2, .int (nI c))]) (st2 := []) (w3 := w) rfl rfl ?_
        refine sx_RP.step (pc2 := 87) (ls2 := [(5, .int 1), (4, .int (nI 2)), (3, .int 0), (0, .ref 111), (1, .int (nI g)), (2, .int (nI c))]) (st2 := [.int 1]) (w3 := w) rfl rfl ?_
        refine sx_RP.step (pc2 := 91) (ls2 := [(5, .int 1), (4, .int (nI 2)), (3, .int 0), (0, .ref 111), (1, .int (nI g)), (2, .int (nI c))]) (st2 := [.int 1]) (w3 := w) rfl rfl ?_
        refine sx_RP.ret (r := (some (.int 1))) rfl rfl ?_
        obtain rfl : k = 2 := (nI_eq (a := k) (b := 2) (by omega) (by decide)).mp ex4
        exact ⟨by first | rfl | decide, rfl⟩
      · refine sx_RP.step (pc2 := 116) (ls2 := [(5, .int 1), (4, .int (nI 3)), (3, .int 0), (0, .ref 111), (1, .int (nI g)), (2, .int (nI c))]) (st2 := []) (w3 := w) rfl rfl ?_
        refine sx_RP.step (pc2 := 118) (ls2 := [(5, .int 1), (4, .int (nI 3)), (3, .int 0), (0, .ref 111), (1, .int (nI g)), (2, .int (nI c))]) (st2 := [.int 1]) (w3 := w) rfl rfl ?_
        refine sx_RP.step (pc2 := 119) (ls2 := [(5, .int 1), (4, .int (nI 3)), (3, .int 0), (0, .ref 111), (1, .int (nI g)), (2, .int (nI c))]) (st2 := [.int 1, .int 1]) (w3 := w) rfl rfl ?_
        refine sx_RP.step (pc2 := 120) (ls2 := [(5, .int 1), (4, .int (nI 3)), (3, .int 0), (0, .ref 111), (1, .int (nI g)), (2, .int (nI c))]) (st2 := [.int 2]) (w3 := w) rfl rfl ?_
        refine sx_RP.step (pc2 := 121) (ls2 := [(5, .int 1), (4, .int (nI 3)), (3, .int 0), (0, .ref 111), (1, .int (nI g)), (2, .int (nI c))]) (st2 := [.ref 111, .int 2]) (w3 := w) rfl rfl ?_
        refine sx_RP.gf (v := .ref 112) rfl rfl hI.1.o111 rfl rfl (show _ = 124 from rfl) ?_
        refine sx_RP.step (pc2 := 126) (ls2 := [(5, .int 1), (4, .int (nI 3)), (3, .int 0), (0, .ref 111), (1, .int (nI g)), (2, .int (nI c))]) (st2 := [.int 55, .ref 112, .int 2]) (w3 := w) rfl rfl ?_
        refine sx_RP.step (pc2 := 127) (ls2 := [(5, .int 1), (4, .int (nI 3)), (3, .int 0), (0, .ref 111), (1, .int (nI g)), (2, .int (nI c))]) (st2 := [.int (nI c), .int 55, .ref 112, .int 2]) (w3 := w) rfl rfl ?_
        refine sx_RP.step (pc2 := 128) (ls2 := [(5, .int 1), (4, .int (nI 3)), (3, .int 0), (0, .ref 111), (1, .int (nI g)), (2, .int (nI c))]) (st2 := [.int (55 + (nI c)), .ref 112, .int 2]) (w3 := w) rfl rfl ?_
        rw [show (55 + (nI c) : Int32) = nI (55 + c) from nI_add 55 c]
        refine sx_RP.ild (c := (55 + c)) rfl hI.1.a112.1 hI.1.a112.2 (sx_in_nI (show (55 + c) < 172 by omega) (by decide)) (show (nI ((55 + c))).toNatClampNeg = (55 + c) from nI_clamp (by omega)) (show _ = 129 from rfl) ?_
        refine sx_RP.step (pc2 := 130) (ls2 := [(5, .int 1), (4, .int (nI 3)), (3, .int 0), (0, .ref 111), (1, .int (nI g)), (2, .int (nI c))]) (st2 := [.int (2 + ((ia w 112).getD ((55 + c)) 0))]) (w3 := w) rfl rfl ?_
        refine sx_RP.ret (r := (some (.int (2 + ((ia w 112).getD ((55 + c)) 0))))) rfl rfl ?_
        obtain rfl : k = 3 := (nI_eq (a := k) (b := 3) (by omega) (by decide)).mp ex4
        exact ⟨by first | rfl | decide, rfl⟩
      · refine sx_RP.step (pc2 := 80) (ls2 := [(5, .int 1), (4, .int (nI 4)), (3, .int 0), (0, .ref 111), (1, .int (nI g)), (2, .int (nI c))]) (st2 := []) (w3 := w) rfl rfl ?_
        refine sx_RP.step (pc2 := 82) (ls2 := [(5, .int 1), (4, .int (nI 4)), (3, .int 0), (0, .ref 111), (1, .int (nI g)), (2, .int (nI c))]) (st2 := [.int 1]) (w3 := w) rfl rfl ?_
        refine sx_RP.step (pc2 := 83) (ls2 := [(5, .int 1), (4, .int (nI 4)), (3, .int 0), (0, .ref 111), (1, .int (nI g)), (2, .int (nI c))]) (st2 := [.int 4, .int 1]) (w3 := w) rfl rfl ?_
        refine sx_RP.step (pc2 := 86) (ls2 := [(5, .int 1), (4, .int (nI 4)), (3, .int 0), (0, .ref 111), (1, .int (nI g)), (2, .int (nI c))]) (st2 := []) (w3 := w) rfl rfl ?_
        refine sx_RP.step (pc2 := 87) (ls2 := [(5, .int 1), (4, .int (nI 4)), (3, .int 0), (0, .ref 111), (1, .int (nI g)), (2, .int (nI c))]) (st2 := [.int 1]) (w3 := w) rfl rfl ?_
        refine sx_RP.step (pc2 := 91) (ls2 := [(5, .int 1), (4, .int (nI 4)), (3, .int 0), (0, .ref 111), (1, .int (nI g)), (2, .int (nI c))]) (st2 := [.int 1]) (w3 := w) rfl rfl ?_
        refine sx_RP.ret (r := (some (.int 1))) rfl rfl ?_
        obtain rfl : k = 4 := (nI_eq (a := k) (b := 4) (by omega) (by decide)).mp ex4
        exact ⟨by first | rfl | decide, rfl⟩
      · refine sx_RP.step (pc2 := 92) (ls2 := [(5, .int 1), (4, .int (nI 5)), (3, .int 0), (0, .ref 111), (1, .int (nI g)), (2, .int (nI c))]) (st2 := []) (w3 := w) rfl rfl ?_
        refine sx_RP.step (pc2 := 93) (ls2 := [(5, .int 1), (4, .int (nI 5)), (3, .int 0), (0, .ref 111), (1, .int (nI g)), (2, .int (nI c))]) (st2 := [.int 0]) (w3 := w) rfl rfl ?_
        refine sx_RP.step (pc2 := 94) (ls2 := [(5, .int 1), (4, .int (nI 5)), (3, .int 0), (0, .ref 111), (1, .int (nI g)), (2, .int (nI c))]) (st2 := [.int 2, .int 0]) (w3 := w) rfl rfl ?_
        refine sx_RP.step (pc2 := 101) (ls2 := [(5, .int 1), (4, .int (nI 5)), (3, .int 0), (0, .ref 111), (1, .int (nI g)), (2, .int (nI c))]) (st2 := []) (w3 := w) rfl rfl ?_
        refine sx_RP.step (pc2 := 103) (ls2 := [(5, .int 1), (4, .int (nI 5)), (3, .int 0), (0, .ref 111), (1, .int (nI g)), (2, .int (nI c))]) (st2 := [.int 1]) (w3 := w) rfl rfl ?_
        refine sx_RP.step (pc2 := 104) (ls2 := [(5, .int 1), (4, .int (nI 5)), (3, .int 0), (0, .ref 111), (1, .int (nI g)), (2, .int (nI c))]) (st2 := [.int 1, .int 1]) (w3 := w) rfl rfl ?_
        refine sx_RP.step (pc2 := 105) (ls2 := [(5, .int 1), (4, .int (nI 5)), (3, .int 0), (0, .ref 111), (1, .int (nI g)), (2, .int (nI c))]) (st2 := [.int 2]) (w3 := w) rfl rfl ?_
        refine sx_RP.step (pc2 := 106) (ls2 := [(5, .int 1), (4, .int (nI 5)), (3, .int 0), (0, .ref 111), (1, .int (nI g)), (2, .int (nI c))]) (st2 := [.ref 111, .int 2]) (w3 := w) rfl rfl ?_
        refine sx_RP.gf (v := .ref 112) rfl rfl hI.1.o111 rfl rfl (show _ = 109 from rfl) ?_
        refine sx_RP.step (pc2 := 111) (ls2 := [(5, .int 1), (4, .int (nI 5)), (3, .int 0), (0, .ref 111), (1, .int (nI g)), (2, .int (nI c))]) (st2 := [.int 55, .ref 112, .int 2]) (w3 := w) rfl rfl ?_
        refine sx_RP.step (pc2 := 112) (ls2 := [(5, .int 1), (4, .int (nI 5)), (3, .int 0), (0, .ref 111), (1, .int (nI g)), (2, .int (nI c))]) (st2 := [.int (nI c), .int 55, .ref 112, .int 2]) (w3 := w) rfl rfl ?_
        refine sx_RP.step (pc2 := 113) (ls2 := [(5, .int 1), (4, .int (nI 5)), (3, .int 0), (0, .ref 111), (1, .int (nI g)), (2, .int (nI c))]) (st2 := [.int (55 + (nI c)), .ref 112, .int 2]) (w3 := w) rfl rfl ?_
        rw [show (55 + (nI c) : Int32) = nI (55 + c) from nI_add 55 c]
        refine sx_RP.ild (c := (55 + c)) rfl hI.1.a112.1 hI.1.a112.2 (sx_in_nI (show (55 + c) < 172 by omega) (by decide)) (show (nI ((55 + c))).toNatClampNeg = (55 + c) from nI_clamp (by omega)) (show _ = 114 from rfl) ?_
        refine sx_RP.step (pc2 := 115) (ls2 := [(5, .int 1), (4, .int (nI 5)), (3, .int 0), (0, .ref 111), (1, .int (nI g)), (2, .int (nI c))]) (st2 := [.int (2 + ((ia w 112).getD ((55 + c)) 0))]) (w3 := w) rfl rfl ?_
        refine sx_RP.ret (r := (some (.int (2 + ((ia w 112).getD ((55 + c)) 0))))) rfl rfl ?_
        obtain rfl : k = 5 := (nI_eq (a := k) (b := 5) (by omega) (by decide)).mp ex4
        exact ⟨by first | rfl | decide, rfl⟩
  obtain ⟨r9, w2, h1, rfl, rfl⟩ := h
  exact h1
set_option maxRecDepth 20000 in
set_option maxHeartbeats 4000000 in
theorem x147_1 {xs : Option (List Int32)} {d : Nat} {w : List sx_C} (hI : WI w) {g c k : Nat} (hg : g < 10) (hc : c < 48) (hk : k < 6) (ek : (ia w 112).getD (103 + 6 * g + 0) 0 = nI k) (es : (ia w 112).getD (7 + c) 0 = 1) : sx_RU xs (d + 1) 147 0 (lv_args 0 [.ref 111, .int (nI g), .int (nI c)]) [] w (some (.int (if 1 = 3 then -1 else tmV k 1 ((ia w 112).getD (55 + c) 0)))) w := by
  have h : sx_RP xs (d + 1) 147 0 (lv_args 0 [.ref 111, .int (nI g), .int (nI c)]) [] w (fun r9 w2 => r9 = some (.int (if 1 = 3 then -1 else tmV k 1 ((ia w 112).getD (55 + c) 0))) ∧ w2 = w) := by
    refine sx_RP.step (pc2 := 1) (ls2 := [(0, .ref 111), (1, .int (nI g)), (2, .int (nI c))]) (st2 := [.ref 111]) (w3 := w) rfl rfl ?_
    refine sx_RP.gf (v := .ref 112) rfl rfl hI.1.o111 rfl rfl (show _ = 4 from rfl) ?_
    refine sx_RP.step (pc2 := 6) (ls2 := [(0, .ref 111), (1, .int (nI g)), (2, .int (nI c))]) (st2 := [.int 7, .ref 112]) (w3 := w) rfl rfl ?_
    refine sx_RP.step (pc2 := 7) (ls2 := [(0, .ref 111), (1, .int (nI g)), (2, .int (nI c))]) (st2 := [.int (nI c), .int 7, .ref 112]) (w3 := w) rfl rfl ?_
    refine sx_RP.step (pc2 := 8) (ls2 := [(0, .ref 111), (1, .int (nI g)), (2, .int (nI c))]) (st2 := [.int (7 + (nI c)), .ref 112]) (w3 := w) rfl rfl ?_
    rw [show (7 + (nI c) : Int32) = nI (7 + c) from nI_add 7 c]
    refine sx_RP.ild (c := (7 + c)) rfl hI.1.a112.1 hI.1.a112.2 (sx_in_nI (show (7 + c) < 172 by omega) (by decide)) (show (nI (7 + c)).toNatClampNeg = (7 + c) from nI_clamp (by omega)) (show _ = 9 from rfl) ?_
    rw [es]
    refine sx_RP.step (pc2 := 10) (ls2 := [(3, .int 1), (0, .ref 111), (1, .int (nI g)), (2, .int (nI c))]) (st2 := []) (w3 := w) rfl rfl ?_
    refine sx_RP.step (pc2 := 11) (ls2 := [(3, .int 1), (0, .ref 111), (1, .int (nI g)), (2, .int (nI c))]) (st2 := [.int 1]) (w3 := w) rfl rfl ?_
    refine sx_RP.step (pc2 := 12) (ls2 := [(3, .int 1), (0, .ref 111), (1, .int (nI g)), (2, .int (nI c))]) (st2 := [.int 3, .int 1]) (w3 := w) rfl rfl ?_
    refine sx_RP.step (pc2 := 17) (ls2 := [(3, .int 1), (0, .ref 111), (1, .int (nI g)), (2, .int (nI c))]) (st2 := []) (w3 := w) rfl rfl ?_
    refine sx_RP.step (pc2 := 18) (ls2 := [(3, .int 1), (0, .ref 111), (1, .int (nI g)), (2, .int (nI c))]) (st2 := [.ref 111]) (w3 := w) rfl rfl ?_
    refine sx_RP.step (pc2 := 19) (ls2 := [(3, .int 1), (0, .ref 111), (1, .int (nI g)), (2, .int (nI c))]) (st2 := [.int (nI g), .ref 111]) (w3 := w) rfl rfl ?_
    refine sx_RP.step (pc2 := 20) (ls2 := [(3, .int 1), (0, .ref 111), (1, .int (nI g)), (2, .int (nI c))]) (st2 := [.int 0, .int (nI g), .ref 111]) (w3 := w) rfl rfl ?_
    refine sx_RP.cu (as := [.ref 111, .int (nI g), .int 0]) (rest2 := []) (st3 := [.int (nI k)]) rfl rfl (sx_inv_v2 (mi := 147) (k := 59) (st := [.int 0, .int (nI g), .ref 111]) (w := w) rfl rfl hI.1.o111 rfl rfl rfl) rfl rfl (x138e hI hg (show 0 < 6 by decide) ek) rfl ?_
    refine sx_RP.step (pc2 := 25) (ls2 := [(4, .int (nI k)), (3, .int 1), (0, .ref 111), (1, .int (nI g)), (2, .int (nI c))]) (st2 := []) (w3 := w) rfl rfl ?_
    refine sx_RP.step (pc2 := 26) (ls2 := [(4, .int (nI k)), (3, .int 1), (0, .ref 111), (1, .int (nI g)), (2, .int (nI c))]) (st2 := [.int 1]) (w3 := w) rfl rfl ?_
    refine sx_RP.cu (as := [.int 1]) (rest2 := []) (st3 := [.int 2]) rfl rfl rfl rfl rfl (frI_ok (t148 1 (by decide)) _ _ _) rfl ?_
    refine sx_RP.step (pc2 := 31) (ls2 := [(5, .int 2), (4, .int (nI k)), (3, .int 1), (0, .ref 111), (1, .int (nI g)), (2, .int (nI c))]) (st2 := []) (w3 := w) rfl rfl ?_
    refine sx_RP.step (pc2 := 33) (ls2 := [(5, .int 2), (4, .int (nI k)), (3, .int 1), (0, .ref 111), (1, .int (nI g)), (2, .int (nI c))]) (st2 := [.int (nI k)]) (w3 := w) rfl rfl ?_
    rcases sw_cases (n := 5) (nI k) with q1 | ⟨x2, hx3, ex4⟩
    · refine sx_RP.swo (t := 116) rfl q1 rfl ?_
      refine sx_RP.step (pc2 := 118) (ls2 := [(5, .int 2), (4, .int (nI k)), (3, .int 1), (0, .ref 111), (1, .int (nI g)), (2, .int (nI c))]) (st2 := [.int 2]) (w3 := w) rfl rfl ?_
      refine sx_RP.step (pc2 := 119) (ls2 := [(5, .int 2), (4, .int (nI k)), (3, .int 1), (0, .ref 111), (1, .int (nI g)), (2, .int (nI c))]) (st2 := [.int 1, .int 2]) (w3 := w) rfl rfl ?_
      refine sx_RP.step (pc2 := 120) (ls2 := [(5, .int 2), (4, .int (nI k)), (3, .int 1), (0, .ref 111), (1, .int (nI g)), (2, .int (nI c))]) (st2 := [.int 3]) (w3 := w) rfl rfl ?_
      refine sx_RP.step (pc2 := 121) (ls2 := [(5, .int 2), (4, .int (nI k)), (3, .int 1), (0, .ref 111), (1, .int (nI g)), (2, .int (nI c))]) (st2 := [.ref 111, .int 3]) (w3 := w) rfl rfl ?_
      refine sx_RP.gf (v := .ref 112) rfl rfl hI.1.o111 rfl rfl (show _ = 124 from rfl) ?_
      refine sx_RP.step (pc2 := 126) (ls2 := [(5, .int 2), (4, .int (nI k)), (3, .int 1), (0, .ref 111), (1, .int (nI g)), (2, .int (nI c))]) (st2 := [.int 55, .ref 112, .int 3]) (w3 := w) rfl rfl ?_
      refine sx_RP.step (pc2 := 127) (ls2 := [(5, .int 2), (4, .int (nI k)), (3, .int 1), (0, .ref 111), (1, .int (nI g)), (2, .int (nI c))]) (st2 := [.int (nI c), .int 55, .ref 112, .int 3]) (w3 := w) rfl rfl ?_
      refine sx_RP.step (pc2 := 128) (ls2 := [(5, .int 2), (4, .int (nI k)), (3, .int 1), (0, .ref 111), (1, .int (nI g)), (2, .int (nI c))]) (st2 := [.int (55 + (nI c)), .ref 112, .int 3]) (w3 := w) rfl rfl ?_
      rw [show (55 + (nI c) : Int32) = nI (55 + c) from nI_add 55 c]
      refine sx_RP.ild (c := (55 + c)) rfl hI.1.a112.1 hI.1.a112.2 (sx_in_nI (show (55 + c) < 172 by omega) (by decide)) (show (nI ((55 + c))).toNatClampNeg = (55 + c) from nI_clamp (by omega)) (show _ = 129 from rfl) ?_
      refine sx_RP.step (pc2 := 130) (ls2 := [(5, .int 2), (4, .int (nI k)), (3, .int 1), (0, .ref 111), (1, .int (nI g)), (2, .int (nI c))]) (st2 := [.int (3 + ((ia w 112).getD ((55 + c)) 0))]) (w3 := w) rfl rfl ?_
      refine sx_RP.ret (r := (some (.int (3 + ((ia w 112).getD ((55 + c)) 0))))) rfl rfl ?_
      exact (sw6 hk (by assumption)).elim
    · rw [ex4]
      rcases (show x2 = 0 ∨ x2 = 1 ∨ x2 = 2 ∨ x2 = 3 ∨ x2 = 4 ∨ x2 = 5 by omega) with rfl | rfl | rfl | rfl | rfl | rfl
      · refine sx_RP.step (pc2 := 72) (ls2 := [(5, .int 2), (4, .int (nI 0)), (3, .int 1), (0, .ref 111), (1, .int (nI g)), (2, .int (nI c))]) (st2 := []) (w3 := w) rfl rfl ?_
        refine sx_RP.step (pc2 := 74) (ls2 := [(5, .int 2), (4, .int (nI 0)), (3, .int 1), (0, .ref 111), (1, .int (nI g)), (2, .int (nI c))]) (st2 := [.int 2]) (w3 := w) rfl rfl ?_
        refine sx_RP.ret (r := (some (.int 2))) rfl rfl ?_
        obtain rfl : k = 0 := (nI_eq (a := k) (b := 0) (by omega) (by decide)).mp ex4
        exact ⟨by first | rfl | decide, rfl⟩
      · refine sx_RP.step (pc2 := 75) (ls2 := [(5, .int 2), (4, .int (nI 1)), (3, .int 1), (0, .ref 111), (1, .int (nI g)), (2, .int (nI c))]) (st2 := []) (w3 := w) rfl rfl ?_
        refine sx_RP.step (pc2 := 77) (ls2 := [(5, .int 2), (4, .int (nI 1)), (3, .int 1), (0, .ref 111), (1, .int (nI g)), (2, .int (nI c))]) (st2 := [.int 2]) (w3 := w) rfl rfl ?_
        refine sx_RP.step (pc2 := 78) (ls2 := [(5, .int 2), (4, .int (nI 1)), (3, .int 1), (0, .ref 111), (1, .int (nI g)), (2, .int (nI c))]) (st2 := [.int 1, .int 2]) (w3 := w) rfl rfl ?_
        refine sx_RP.step (pc2 := 79) (ls2 := [(5, .int 2), (4, .int (nI 1)), (3, .int 1), (0, .ref 111), (1, .int (nI g)), (2, .int (nI c))]) (st2 := [.int 3]) (w3 := w) rfl rfl ?_
        refine sx_RP.ret (r := (some (.int 3))) rfl rfl ?_
        obtain rfl : k = 1 := (nI_eq (a := k) (b := 1) (by omega) (by decide)).mp ex4
        exact ⟨by first | rfl | decide, rfl⟩
      · refine sx_RP.step (pc2 := 80) (ls2 := [(5, .int 2), (4, .int (nI 2)), (3, .int 1), (0, .ref 111), (1, .int (nI g)), (2, .int (nI c))]) (st2 := []) (w3 := w) rfl rfl ?_
        refine sx_RP.step (pc2 := 82) (ls2 := [(5, .int 2), (4, .int (nI 2)), (3, .int 1), (0, .ref 111), (1, .int (nI g)), (2, .int (nI c))]) (st2 := [.int 2]) (w3 := w) rfl rfl ?_
        refine sx_RP.step (pc2 := 83) (ls2 := [(5, .int 2), (4, .int (nI 2)), (3, .int 1), (0, .ref 111), (1, .int (nI g)), (2, .int (nI c))]) (st2 := [.int 4, .int 2]) (w3 := w) rfl rfl ?_
        refine sx_RP.step (pc2 := 86) (ls2 := [(5, .int 2), (4, .int (nI 2)), (3, .int 1), (0, .ref 111), (1, .int (nI g)), (2, .int (nI c))]) (st2 := []) (w3 := w) rfl rfl ?_
        refine sx_RP.step (pc2 := 87) (ls2 := [(5, .int 2), (4, .int (nI 2)), (3, .int 1), (0, .ref 111), (1, .int (nI g)), (2, .int (nI c))]) (st2 := [.int 1]) (w3 := w) rfl rfl ?_
        refine sx_RP.step (pc2 := 91) (ls2 := [(5, .int 2), (4, .int (nI 2)), (3, .int 1), (0, .ref 111), (1, .int (nI g)), (2, .int (nI c))]) (st2 := [.int 1]) (w3 := w) rfl rfl ?_
        refine sx_RP.ret (r := (some (.int 1))) rfl rfl ?_
        obtain rfl : k = 2 := (nI_eq (a := k) (b := 2) (by omega) (by decide)).mp ex4
        exact ⟨by first | rfl | decide, rfl⟩
      · refine sx_RP.step (pc2 := 116) (ls2 := [(5, .int 2), (4, .int (nI 3)), (3, .int 1), (0, .ref 111), (1, .int (nI g)), (2, .int (nI c))]) (st2 := []) (w3 := w) rfl rfl ?_
        refine sx_RP.step (pc2 := 118) (ls2 := [(5, .int 2), (4, .int (nI 3)), (3, .int 1), (0, .ref 111), (1, .int (nI g)), (2, .int (nI c))]) (st2 := [.int 2]) (w3 := w) rfl rfl ?_
        refine sx_RP.step (pc2 := 119) (ls2 := [(5, .int 2), (4, .int (nI 3)), (3, .int 1), (0, .ref 111), (1, .int (nI g)), (2, .int (nI c))]) (st2 := [.int 1, .int 2]) (w3 := w) rfl rfl ?_
        refine sx_RP.step (pc2 := 120) (ls2 := [(5, .int 2), (4, .int (nI 3)), (3, .int 1), (0, .ref 111), (1, .int (nI g)), (2, .int (nI c))]) (st2 := [.int 3]) (w3 := w) rfl rfl ?_
        refine sx_RP.step (pc2 := 121) (ls2 := [(5, .int 2), (4, .int (nI 3)), (3, .int 1), (0, .ref 111), (1, .int (nI g)), (2, .int (nI c))]) (st2 := [.ref 111, .int 3]) (w3 := w) rfl rfl ?_
        refine sx_RP.gf (v := .ref 112) rfl rfl hI.1.o111 rfl rfl (show _ = 124 from rfl) ?_
        refine sx_RP.step (pc2 := 126) (ls2 := [(5, .int 2), (4, .int (nI 3)), (3, .int 1), (0, .ref 111), (1, .int (nI g)), (2, .int (nI c))]) (st2 := [.int 55, .ref 112, .int 3]) (w3 := w) rfl rfl ?_
        refine sx_RP.step (pc2 := 127) (ls2 := [(5, .int 2), (4, .int (nI 3)), (3, .int 1), (0, .ref 111), (1, .int (nI g)), (2, .int (nI c))]) (st2 := [.int (nI c), .int 55, .ref 112, .int 3]) (w3 := w) rfl rfl ?_
        refine sx_RP.step (pc2 := 128) (ls2 := [(5, .int 2), (4, .int (nI 3)), (3, .int 1), (0, .ref 111), (1, .int (nI g)), (2, .int (nI c))]) (st2 := [.int (55 + (nI c)), .ref 112, .int 3]) (w3 := w) rfl rfl ?_
        rw [show (55 + (nI c) : Int32) = nI (55 + c) from nI_add 55 c]
        refine sx_RP.ild (c := (55 + c)) rfl hI.1.a112.1 hI.1.a112.2 (sx_in_nI (show (55 + c) < 172 by omega) (by decide)) (show (nI ((55 + c))).toNatClampNeg = (55 + c) from nI_clamp (by omega)) (show _ = 129 from rfl) ?_
        refine sx_RP.step (pc2 := 130) (ls2 := [(5, .int 2), (4, .int (nI 3)), (3, .int 1), (0, .ref 111), (1, .int (nI g)), (2, .int (nI c))]) (st2 := [.int (3 + ((ia w 112).getD ((55 + c)) 0))]) (w3 := w) rfl rfl ?_
        refine sx_RP.ret (r := (some (.int (3 + ((ia w 112).getD ((55 + c)) 0))))) rfl rfl ?_
        obtain rfl : k = 3 := (nI_eq (a := k) (b := 3) (by omega) (by decide)).mp ex4
        exact ⟨by first | rfl | decide, rfl⟩
      · refine sx_RP.step (pc2 := 80) (ls2 := [(5, .int 2), (4, .int (nI 4)), (3, .int 1), (0, .ref 111), (1, .int (nI g)), (2, .int (nI c))]) (st2 := []) (w3 := w) rfl rfl ?_
        refine sx_RP.step (pc2 := 82) (ls2 := [(5, .int 2), (4, .int (nI 4)), (3, .int 1), (0, .ref 111), (1, .int (nI g)), (2, .int (nI c))]) (st2 := [.int 2]) (w3 := w) rfl rfl ?_
        refine sx_RP.step (pc2 := 83) (ls2 := [(5, .int 2), (4, .int (nI 4)), (3, .int 1), (0, .ref 111), (1, .int (nI g)), (2, .int (nI c))]) (st2 := [.int 4, .int 2]) (w3 := w) rfl rfl ?_
        refine sx_RP.step (pc2 := 86) (ls2 := [(5, .int 2), (4, .int (nI 4)), (3, .int 1), (0, .ref 111), (1, .int (nI g)), (2, .int (nI c))]) (st2 := []) (w3 := w) rfl rfl ?_
        refine sx_RP.step (pc2 := 87) (ls2 := [(5, .int 2), (4, .int (nI 4)), (3, .int 1), (0, .ref 111), (1, .int (nI g)), (2, .int (nI c))]) (st2 := [.int 1]) (w3 := w) rfl rfl ?_
        refine sx_RP.step (pc2 := 91) (ls2 := [(5, .int 2), (4, .int (nI 4)), (3, .int 1), (0, .ref 111), (1, .int (nI g)), (2, .int (nI c))]) (st2 := [.int 1]) (w3 := w) rfl rfl ?_
        refine sx_RP.ret (r := (some (.int 1))) rfl rfl ?_
        obtain rfl : k = 4 := (nI_eq (a := k) (b := 4) (by omega) (by decide)).mp ex4
        exact ⟨by first | rfl | decide, rfl⟩
      · refine sx_RP.step (pc2 := 92) (ls2 := [(5, .int 2), (4, .int (nI 5)), (3, .int 1), (0, .ref 111), (1, .int (nI g)), (2, .int (nI c))]) (st2 := []) (w3 := w) rfl rfl ?_
        refine sx_RP.step (pc2 := 93) (ls2 := [(5, .int 2), (4, .int (nI 5)), (3, .int 1), (0, .ref 111), (1, .int (nI g)), (2, .int (nI c))]) (st2 := [.int 1]) (w3 := w) rfl rfl ?_
        refine sx_RP.step (pc2 := 94) (ls2 := [(5, .int 2), (4, .int (nI 5)), (3, .int 1), (0, .ref 111), (1, .int (nI g)), (2, .int (nI c))]) (st2 := [.int 2, .int 1]) (w3 := w) rfl rfl ?_
        refine sx_RP.step (pc2 := 101) (ls2 := [(5, .int 2), (4, .int (nI 5)), (3, .int 1), (0, .ref 111), (1, .int (nI g)), (2, .int (nI c))]) (st2 := []) (w3 := w) rfl rfl ?_
        refine sx_RP.step (pc2 := 103) (ls2 := [(5, .int 2), (4, .int (nI 5)), (3, .int 1), (0, .ref 111), (1, .int (nI g)), (2, .int (nI c))]) (st2 := [.int 2]) (w3 := w) rfl rfl ?_
        refine sx_RP.step (pc2 := 104) (ls2 := [(5, .int 2), (4, .int (nI 5)), (3, .int 1), (0, .ref 111), (1, .int (nI g)), (2, .int (nI c))]) (st2 := [.int 1, .int 2]) (w3 := w) rfl rfl ?_
        refine sx_RP.step (pc2 := 105) (ls2 := [(5, .int 2), (4, .int (nI 5)), (3, .int 1), (0, .ref 111), (1, .int (nI g)), (2, .int (nI c))]) (st2 := [.int 3]) (w3 := w) rfl rfl ?_
        refine sx_RP.step (pc2 := 106) (ls2 := [(5, .int 2), (4, .int (nI 5)), (3, .int 1), (0, .ref 111), (1, .int (nI g)), (2, .int (nI c))]) (st2 := [.ref 111, .int 3]) (w3 := w) rfl rfl ?_
        refine sx_RP.gf (v := .ref 112) rfl rfl hI.1.o111 rfl rfl (show _ = 109 from rfl) ?_
        refine sx_RP.step (pc2 := 111) (ls2 := [(5, .int 2), (4, .int (nI 5)), (3, .int 1), (0, .ref 111), (1, .int (nI g)), (2, .int (nI c))]) (st2 := [.int 55, .ref 112, .int 3]) (w3 := w) rfl rfl ?_
        refine sx_RP.step (pc2 := 112) (ls2 := [(5, .int 2), (4, .int (nI 5)), (3, .int 1), (0, .ref 111), (1, .int (nI g)), (2, .int (nI c))]) (st2 := [.int (nI c), .int 55, .ref 112, .int 3]) (w3 := w) rfl rfl ?_
        refine sx_RP.step (pc2 := 113) (ls2 := [(5, .int 2), (4, .int (nI 5)), (3, .int 1), (0, .ref 111), (1, .int (nI g)), (2, .int (nI c))]) (st2 := [.int (55 + (nI c)), .ref 112, .int 3]) (w3 := w) rfl rfl ?_
        rw [show (55 + (nI c) : Int32) = nI (55 + c) from nI_add 55 c]
        refine sx_RP.ild (c := (55 + c)) rfl hI.1.a112.1 hI.1.a112.2 (sx_in_nI (show (55 + c) < 172 by omega) (by decide)) (show (nI ((55 + c))).toNatClampNeg = (55 + c) from nI_clamp (by omega)) (show _ = 114 from rfl) ?_
        refine sx_RP.step (pc2 := 115) (ls2 := [(5, .int 2), (4, .int (nI 5)), (3, .int 1), (0, .ref 111), (1, .int (nI g)), (2, .int (nI c))]) (st2 := [.int (3 + ((ia w 112).getD ((55 + c)) 0))]) (w3 := w) rfl rfl ?_
        refine sx_RP.ret (r := (some (.int (3 + ((ia w 112).getD ((55 + c)) 0))))) rfl rfl ?_
        obtain rfl : k = 5 := (nI_eq (a := k) (b := 5) (by omega) (by decide)).mp ex4
        exact ⟨by first | rfl | decide, rfl⟩
  obtain ⟨r9, w2, h1, rfl, rfl⟩ := h
  exact h1
set_option maxRecDepth 20000 in
set_option maxHeartbeats 4000000 in
theorem x147_2 {xs : Option (List Int32)} {d : Nat} {w : List sx_C} (hI : WI w) {g c k : Nat} (hg : g < 10) (hc : c < 48) (hk : k < 6) (ek : (ia w 112).getD (103 + 6 * g + 0) 0 = nI k) (es : (ia w 112).getD (7 + c) 0 = 2) : sx_RU xs (d + 1) 147 0 (lv_args 0 [.ref 111, .int (nI g), .int (nI c)]) [] w (some (.int (if 2 = 3 then -1 else tmV k 2 ((ia w 112).getD (55 + c) 0)))) w := by
  have h : sx_RP xs (d + 1) 147 0 (lv_args 0 [.ref 111, .int (nI g), .int (nI c)]) [] w (fun r9 w2 => r9 = some (.int (if 2 = 3 then -1 else tmV k 2 ((ia w 112).getD (55 + c) 0))) ∧ w2 = w) := by
    refine sx_RP.step (pc2 := 1) (ls2 := [(0, .ref 111), (1, .int (nI g)), (2, .int (nI c))]) (st2 := [.ref 111]) (w3 := w) rfl rfl ?_
    refine sx_RP.gf (v := .ref 112) rfl rfl hI.1.o111 rfl rfl (show _ = 4 from rfl) ?_
    refine sx_RP.step (pc2 := 6) (ls2 := [(0, .ref 111), (1, .int (nI g)), (2, .int (nI c))]) (st2 := [.int 7, .ref 112]) (w3 := w) rfl rfl ?_
    refine sx_RP.step (pc2 := 7) (ls2 := [(0, .ref 111), (1, .int (nI g)), (2, .int (nI c))]) (st2 := [.int (nI c), .int 7, .ref 112]) (w3 := w) rfl rfl ?_
    refine sx_RP.step (pc2 := 8) (ls2 := [(0, .ref 111), (1, .int (nI g)), (2, .int (nI c))]) (st2 := [.int (7 + (nI c)), .ref 112]) (w3 := w) rfl rfl ?_
    rw [show (7 + (nI c) : Int32) = nI (7 + c) from nI_add 7 c]
    refine sx_RP.ild (c := (7 + c)) rfl hI.1.a112.1 hI.1.a112.2 (sx_in_nI (show (7 + c) < 172 by omega) (by decide)) (show (nI (7 + c)).toNatClampNeg = (7 + c) from nI_clamp (by omega)) (show _ = 9 from rfl) ?_
    rw [es]
    refine sx_RP.step (pc2 := 10) (ls2 := [(3, .int 2), (0, .ref 111), (1, .int (nI g)), (2, .int (nI c))]) (st2 := []) (w3 := w) rfl rfl ?_
    refine sx_RP.step (pc2 := 11) (ls2 := [(3, .int 2), (0, .ref 111), (1, .int (nI g)), (2, .int (nI c))]) (st2 := [.int 2]) (w3 := w) rfl rfl ?_
    refine sx_RP.step (pc2 := 12) (ls2 := [(3, .int 2), (0, .ref 111), (1, .int (nI g)), (2, .int (nI c))]) (st2 := [.int 3, .int 2]) (w3 := w) rfl rfl ?_
    refine sx_RP.step (pc2 := 17) (ls2 := [(3, .int 2), (0, .ref 111), (1, .int (nI g)), (2, .int (nI c))]) (st2 := []) (w3 := w) rfl rfl ?_
    refine sx_RP.step (pc2 := 18) (ls2 := [(3, .int 2), (0, .ref 111), (1, .int (nI g)), (2, .int (nI c))]) (st2 := [.ref 111]) (w3 := w) rfl rfl ?_
    refine sx_RP.step (pc2 := 19) (ls2 := [(3, .int 2), (0, .ref 111), (1, .int (nI g)), (2, .int (nI c))]) (st2 := [.int (nI g), .ref 111]) (w3 := w) rfl rfl ?_
    refine sx_RP.step (pc2 := 20) (ls2 := [(3, .int 2), (0, .ref 111), (1, .int (nI g)), (2, .int (nI c))]) (st2 := [.int 0, .int (nI g), .ref 111]) (w3 := w) rfl rfl ?_
    refine sx_RP.cu (as := [.ref 111, .int (nI g), .int 0]) (rest2 := []) (st3 := [.int (nI k)]) rfl rfl (sx_inv_v2 (mi := 147) (k := 59) (st := [.int 0, .int (nI g), .ref 111]) (w := w) rfl rfl hI.1.o111 rfl rfl rfl) rfl rfl (x138e hI hg (show 0 < 6 by decide) ek) rfl ?_
    refine sx_RP.step (pc2 := 25) (ls2 := [(4, .int (nI k)), (3, .int 2), (0, .ref 111), (1, .int (nI g)), (2, .int (nI c))]) (st2 := []) (w3 := w) rfl rfl ?_
    refine sx_RP.step (pc2 := 26) (ls2 := [(4, .int (nI k)), (3, .int 2), (0, .ref 111), (1, .int (nI g)), (2, .int (nI c))]) (st2 := [.int 2]) (w3 := w) rfl rfl ?_
    refine sx_RP.cu (as := [.int 2]) (rest2 := []) (st3 := [.int 4]) rfl rfl rfl rfl rfl (frI_ok (t148 2 (by decide)) _ _ _) rfl ?_
    refine sx_RP.step (pc2 := 31) (ls2 := [(5, .int 4), (4, .int (nI k)), (3, .int 2), (0, .ref 111), (1, .int (nI g)), (2, .int (nI c))]) (st2 := []) (w3 := w) rfl rfl ?_
    refine sx_RP.step (pc2 := 33) (ls2 := [(5, .int 4), (4, .int (nI k)), (3, .int 2), (0, .ref 111), (1, .int (nI g)), (2, .int (nI c))]) (st2 := [.int (nI k)]) (w3 := w) rfl rfl ?_
    rcases sw_cases (n := 5) (nI k) with q1 | ⟨x2, hx3, ex4⟩
    · refine sx_RP.swo (t := 116) rfl q1 rfl ?_
      refine sx_RP.step (pc2 := 118) (ls2 := [(5, .int 4), (4, .int (nI k)), (3, .int 2), (0, .ref 111), (1, .int (nI g)), (2, .int (nI c))]) (st2 := [.int 4]) (w3 := w) rfl rfl ?_
      refine sx_RP.step (pc2 := 119) (ls2 := [(5, .int 4), (4, .int (nI k)), (3, .int 2), (0, .ref 111), (1, .int (nI g)), (2, .int (nI c))]) (st2 := [.int 1, .int 4]) (w3 := w) rfl rfl ?_
      refine sx_RP.step (pc2 := 120) (ls2 := [(5, .int 4), (4, .int (nI k)), (3, .int 2), (0, .ref 111), (1, .int (nI g)), (2, .int (nI c))]) (st2 := [.int 5]) (w3 := w) rfl rfl ?_
      refine sx_RP.step (pc2 := 121) (ls2 := [(5, .int 4), (4, .int (nI k)), (3, .int 2), (0, .ref 111), (1, .int (nI g)), (2, .int (nI c))]) (st2 := [.ref 111, .int 5]) (w3 := w) rfl rfl ?_
      refine sx_RP.gf (v := .ref 112) rfl rfl hI.1.o111 rfl rfl (show _ = 124 from rfl) ?_
      refine sx_RP.step (pc2 := 126) (ls2 := [(5, .int 4), (4, .int (nI k)), (3, .int 2), (0, .ref 111), (1, .int (nI g)), (2, .int (nI c))]) (st2 := [.int 55, .ref 112, .int 5]) (w3 := w) rfl rfl ?_
      refine sx_RP.step (pc2 := 127) (ls2 := [(5, .int 4), (4, .int (nI k)), (3, .int 2), (0, .ref 111), (1, .int (nI g)), (2, .int (nI c))]) (st2 := [.int (nI c), .int 55, .ref 112, .int 5]) (w3 := w) rfl rfl ?_
      refine sx_RP.step (pc2 := 128) (ls2 := [(5, .int 4), (4, .int (nI k)), (3, .int 2), (0, .ref 111), (1, .int (nI g)), (2, .int (nI c))]) (st2 := [.int (55 + (nI c)), .ref 112, .int 5]) (w3 := w) rfl rfl ?_
      rw [show (55 + (nI c) : Int32) = nI (55 + c) from nI_add 55 c]
      refine sx_RP.ild (c := (55 + c)) rfl hI.1.a112.1 hI.1.a112.2 (sx_in_nI (show (55 + c) < 172 by omega) (by decide)) (show (nI ((55 + c))).toNatClampNeg = (55 + c) from nI_clamp (by omega)) (show _ = 129 from rfl) ?_
      refine sx_RP.step (pc2 := 130) (ls2 := [(5, .int 4), (4, .int (nI k)), (3, .int 2), (0, .ref 111), (1, .int (nI g)), (2, .int (nI c))]) (st2 := [.int (5 + ((ia w 112).getD ((55 + c)) 0))]) (w3 := w) rfl rfl ?_
      refine sx_RP.ret (r := (some (.int (5 + ((ia w 112).getD ((55 + c)) 0))))) rfl rfl ?_
      exact (sw6 hk (by assumption)).elim
    · rw [ex4]
      rcases (show x2 = 0 ∨ x2 = 1 ∨ x2 = 2 ∨ x2 = 3 ∨ x2 = 4 ∨ x2 = 5 by omega) with rfl | rfl | rfl | rfl | rfl | rfl
      · refine sx_RP.step (pc2 := 72) (ls2 := [(5, .int 4), (4, .int (nI 0)), (3, .int 2), (0, .ref 111), (1, .int (nI g)), (2, .int (nI c))]) (st2 := []) (w3 := w) rfl rfl ?_
        refine sx_RP.step (pc2 := 74) (ls2 := [(5, .int 4), (4, .int (nI 0)), (3, .int 2), (0, .ref 111), (1, .int (nI g)), (2, .int (nI c))]) (st2 := [.int 4]) (w3 := w) rfl rfl ?_
        refine sx_RP.ret (r := (some (.int 4))) rfl rfl ?_
        obtain rfl : k = 0 := (nI_eq (a := k) (b := 0) (by omega) (by decide)).mp ex4
        exact ⟨by first | rfl | decide, rfl⟩
      · refine sx_RP.step (pc2 := 75) (ls2 := [(5, .int 4), (4, .int (nI 1)), (3, .int 2), (0, .ref 111), (1, .int (nI g)), (2, .int (nI c))]) (st2 := []) (w3 := w) rfl rfl ?_
        refine sx_RP.step (pc2 := 77) (ls2 := [(5, .int 4), (4, .int (nI 1)), (3, .int 2), (0, .ref 111), (1, .int (nI g)), (2, .int (nI c))]) (st2 := [.int 4]) (w3 := w) rfl rfl ?_
        refine sx_RP.step (pc2 := 78) (ls2 := [(5, .int 4), (4, .int (nI 1)), (3, .int 2), (0, .ref 111), (1, .int (nI g)), (2, .int (nI c))]) (st2 := [.int 1, .int 4]) (w3 := w) rfl rfl ?_
        refine sx_RP.step (pc2 := 79) (ls2 := [(5, .int 4), (4, .int (nI 1)), (3, .int 2), (0, .ref 111), (1, .int (nI g)), (2, .int (nI c))]) (st2 := [.int 5]) (w3 := w) rfl rfl ?_
        refine sx_RP.ret (r := (some (.int 5))) rfl rfl ?_
        obtain rfl : k = 1 := (nI_eq (a := k) (b := 1) (by omega) (by decide)).mp ex4
        exact ⟨by first | rfl | decide, rfl⟩
      · refine sx_RP.step (pc2 := 80) (ls2 := [(5, .int 4), (4, .int (nI 2)), (3, .int 2), (0, .ref 111), (1, .int (nI g)), (2, .int (nI c))]) (st2 := []) (w3 := w) rfl rfl ?_
        refine sx_RP.step (pc2 := 82) (ls2 := [(5, .int 4), (4, .int (nI 2)), (3, .int 2), (0, .ref 111), (1, .int (nI g)), (2, .int (nI c))]) (st2 := [.int 4]) (w3 := w) rfl rfl ?_
        refine sx_RP.step (pc2 := 83) (ls2 := [(5, .int 4), (4, .int (nI 2)), (3, .int 2), (0, .ref 111), (1, .int (nI g)), (2, .int (nI c))]) (st2 := [.int 4, .int 4]) (w3 := w) rfl rfl ?_
        refine sx_RP.step (pc2 := 90) (ls2 := [(5, .int 4), (4, .int (nI 2)), (3, .int 2), (0, .ref 111), (1, .int (nI g)), (2, .int (nI c))]) (st2 := []) (w3 := w) rfl rfl ?_
        refine sx_RP.step (pc2 := 91) (ls2 := [(5, .int 4), (4, .int (nI 2)), (3, .int 2), (0, .ref 111), (1, .int (nI g)), (2, .int (nI c))]) (st2 := [.int 2]) (w3 := w) rfl rfl ?_
        refine sx_RP.ret (r := (some (.int 2))) rfl rfl ?_
        obtain rfl : k = 2 := (nI_eq (a := k) (b := 2) (by omega) (by decide)).mp ex4
        exact ⟨by first | rfl | decide, rfl⟩
      · refine sx_RP.step (pc2 := 116) (ls2 := [(5, .int 4), (4, .int (nI 3)), (3, .int 2), (0, .ref 111), (1, .int (nI g)), (2, .int (nI c))]) (st2 := []) (w3 := w) rfl rfl ?_
        refine sx_RP.step (pc2 := 118) (ls2 := [(5, .int 4), (4, .int (nI 3)), (3, .int 2), (0, .ref 111), (1, .int (nI g)), (2, .int (nI c))]) (st2 := [.int 4]) (w3 := w) rfl rfl ?_
        refine sx_RP.step (pc2 := 119) (ls2 := [(5, .int 4), (4, .int (nI 3)), (3, .int 2), (0, .ref 111), (1, .int (nI g)), (2, .int (nI c))]) (st2 := [.int 1, .int 4]) (w3 := w) rfl rfl ?_
        refine sx_RP.step (pc2 := 120) (ls2 := [(5, .int 4), (4, .int (nI 3)), (3, .int 2), (0, .ref 111), (1, .int (nI g)), (2, .int (nI c))]) (st2 := [.int 5]) (w3 := w) rfl rfl ?_
        refine sx_RP.step (pc2 := 121) (ls2 := [(5, .int 4), (4, .int (nI 3)), (3, .int 2), (0, .ref 111), (1, .int (nI g)), (2, .int (nI c))]) (st2 := [.ref 111, .int 5]) (w3 := w) rfl rfl ?_
        refine sx_RP.gf (v := .ref 112) rfl rfl hI.1.o111 rfl rfl (show _ = 124 from rfl) ?_
        refine sx_RP.step (pc2 := 126) (ls2 := [(5, .int 4), (4, .int (nI 3)), (3, .int 2), (0, .ref 111), (1, .int (nI g)), (2, .int (nI c))]) (st2 := [.int 55, .ref 112, .int 5]) (w3 := w) rfl rfl ?_
        refine sx_RP.step (pc2 := 127) (ls2 := [(5, .int 4), (4, .int (nI 3)), (3, .int 2), (0, .ref 111), (1, .int (nI g)), (2, .int (nI c))]) (st2 := [.int (nI c), .int 55, .ref 112, .int 5]) (w3 := w) rfl rfl ?_
        refine sx_RP.step (pc2 := 128) (ls2 := [(5, .int 4), (4, .int (nI 3)), (3, .int 2), (0, .ref 111), (1, .int (nI g)), (2, .int (nI c))]) (st2 := [.int (55 + (nI c)), .ref 112, .int 5]) (w3 := w) rfl rfl ?_
        rw [show (55 + (nI c) : Int32) = nI (55 + c) from nI_add 55 c]
        refine sx_RP.ild (c := (55 + c)) rfl hI.1.a112.1 hI.1.a112.2 (sx_in_nI (show (55 + c) < 172 by omega) (by decide)) (show (nI ((55 + c))).toNatClampNeg = (55 + c) from nI_clamp (by omega)) (show _ = 129 from rfl) ?_
        refine sx_RP.step (pc2 := 130) (ls2 := [(5, .int 4), (4, .int (nI 3)), (3, .int 2), (0, .ref 111), (1, .int (nI g)), (2, .int (nI c))]) (st2 := [.int (5 + ((ia w 112).getD ((55 + c)) 0))]) (w3 := w) rfl rfl ?_
        refine sx_RP.ret (r := (some (.int (5 + ((ia w 112).getD ((55 + c)) 0))))) rfl rfl ?_
        obtain rfl : k = 3 := (nI_eq (a := k) (b := 3) (by omega) (by decide)).mp ex4
        exact ⟨by first | rfl | decide, rfl⟩
      · refine sx_RP.step (pc2 := 80) (ls2 := [(5, .int 4), (4, .int (nI 4)), (3, .int 2), (0, .ref 111), (1, .int (nI g)), (2, .int (nI c))]) (st2 := []) (w3 := w) rfl rfl ?_
        refine sx_RP.step (pc2 := 82) (ls2 := [(5, .int 4), (4, .int (nI 4)), (3, .int 2), (0, .ref 111), (1, .int (nI g)), (2, .int (nI c))]) (st2 := [.int 4]) (w3 := w) rfl rfl ?_
        refine sx_RP.step (pc2 := 83) (ls2 := [(5, .int 4), (4, .int (nI 4)), (3, .int 2), (0, .ref 111), (1, .int (nI g)), (2, .int (nI c))]) (st2 := [.int 4, .int 4]) (w3 := w) rfl rfl ?_
        refine sx_RP.step (pc2 := 90) (ls2 := [(5, .int 4), (4, .int (nI 4)), (3, .int 2), (0, .ref 111), (1, .int (nI g)), (2, .int (nI c))]) (st2 := []) (w3 := w) rfl rfl ?_
        refine sx_RP.step (pc2 := 91) (ls2 := [(5, .int 4), (4, .int (nI 4)), (3, .int 2), (0, .ref 111), (1, .int (nI g)), (2, .int (nI c))]) (st2 := [.int 2]) (w3 := w) rfl rfl ?_
        refine sx_RP.ret (r := (some (.int 2))) rfl rfl ?_
        obtain rfl : k = 4 := (nI_eq (a := k) (b := 4) (by omega) (by decide)).mp ex4
        exact ⟨by first | rfl | decide, rfl⟩
      · refine sx_RP.step (pc2 := 92) (ls2 := [(5, .int 4), (4, .int (nI 5)), (3, .int 2), (0, .ref 111), (1, .int (nI g)), (2, .int (nI c))]) (st2 := []) (w3 := w) rfl rfl ?_
        refine sx_RP.step (pc2 := 93) (ls2 := [(5, .int 4), (4, .int (nI 5)), (3, .int 2), (0, .ref 111), (1, .int (nI g)), (2, .int (nI c))]) (st2 := [.int 2]) (w3 := w) rfl rfl ?_
        refine sx_RP.step (pc2 := 94) (ls2 := [(5, .int 4), (4, .int (nI 5)), (3, .int 2), (0, .ref 111), (1, .int (nI g)), (2, .int (nI c))]) (st2 := [.int 2, .int 2]) (w3 := w) rfl rfl ?_
        refine sx_RP.step (pc2 := 97) (ls2 := [(5, .int 4), (4, .int (nI 5)), (3, .int 2), (0, .ref 111), (1, .int (nI g)), (2, .int (nI c))]) (st2 := []) (w3 := w) rfl rfl ?_
        refine sx_RP.step (pc2 := 98) (ls2 := [(5, .int 4), (4, .int (nI 5)), (3, .int 2), (0, .ref 111), (1, .int (nI g)), (2, .int (nI c))]) (st2 := [.int 3]) (w3 := w) rfl rfl ?_
        refine sx_RP.step (pc2 := 115) (ls2 := [(5, .int 4), (4, .int (nI 5)), (3, .int 2), (0, .ref 111), (1, .int (nI g)), (2, .int (nI c))]) (st2 := [.int 3]) (w3 := w) rfl rfl ?_
        refine sx_RP.ret (r := (some (.int 3))) rfl rfl ?_
        obtain rfl : k = 5 := (nI_eq (a := k) (b := 5) (by omega) (by decide)).mp ex4
        exact ⟨by first | rfl | decide, rfl⟩
  obtain ⟨r9, w2, h1, rfl, rfl⟩ := h
  exact h1
set_option maxRecDepth 20000 in
set_option maxHeartbeats 4000000 in
theorem x147_3 {xs : Option (List Int32)} {d : Nat} {w : List sx_C} (hI : WI w) {g c k : Nat} (hg : g < 10) (hc : c < 48) (hk : k < 6) (ek : (ia w 112).getD (103 + 6 * g + 0) 0 = nI k) (es : (ia w 112).getD (7 + c) 0 = 3) : sx_RU xs (d + 1) 147 0 (lv_args 0 [.ref 111, .int (nI g), .int (nI c)]) [] w (some (.int (if 3 = 3 then -1 else tmV k 3 ((ia w 112).getD (55 + c) 0)))) w := by
  have h : sx_RP xs (d + 1) 147 0 (lv_args 0 [.ref 111, .int (nI g), .int (nI c)]) [] w (fun r9 w2 => r9 = some (.int (if 3 = 3 then -1 else tmV k 3 ((ia w 112).getD (55 + c) 0))) ∧ w2 = w) := by
    refine sx_RP.step (pc2 := 1) (ls2 := [(0, .ref 111), (1, .int (nI g)), (2, .int (nI c))]) (st2 := [.ref 111]) (w3 := w) rfl rfl ?_
    refine sx_RP.gf (v := .ref 112) rfl rfl hI.1.o111 rfl rfl (show _ = 4 from rfl) ?_
    refine sx_RP.step (pc2 := 6) (ls2 := [(0, .ref 111), (1, .int (nI g)), (2, .int (nI c))]) (st2 := [.int 7, .ref 112]) (w3 := w) rfl rfl ?_
    refine sx_RP.step (pc2 := 7) (ls2 := [(0, .ref 111), (1, .int (nI g)), (2, .int (nI c))]) (st2 := [.int (nI c), .int 7, .ref 112]) (w3 := w) rfl rfl ?_
    refine sx_RP.step (pc2 := 8) (ls2 := [(0, .ref 111), (1, .int (nI g)), (2, .int (nI c))]) (st2 := [.int (7 + (nI c)), .ref 112]) (w3 := w) rfl rfl ?_
    rw [show (7 + (nI c) : Int32) = nI (7 + c) from nI_add 7 c]
    refine sx_RP.ild (c := (7 + c)) rfl hI.1.a112.1 hI.1.a112.2 (sx_in_nI (show (7 + c) < 172 by omega) (by decide)) (show (nI (7 + c)).toNatClampNeg = (7 + c) from nI_clamp (by omega)) (show _ = 9 from rfl) ?_
    rw [es]
    refine sx_RP.step (pc2 := 10) (ls2 := [(3, .int 3), (0, .ref 111), (1, .int (nI g)), (2, .int (nI c))]) (st2 := []) (w3 := w) rfl rfl ?_
    refine sx_RP.step (pc2 := 11) (ls2 := [(3, .int 3), (0, .ref 111), (1, .int (nI g)), (2, .int (nI c))]) (st2 := [.int 3]) (w3 := w) rfl rfl ?_
    refine sx_RP.step (pc2 := 12) (ls2 := [(3, .int 3), (0, .ref 111), (1, .int (nI g)), (2, .int (nI c))]) (st2 := [.int 3, .int 3]) (w3 := w) rfl rfl ?_
    refine sx_RP.step (pc2 := 15) (ls2 := [(3, .int 3), (0, .ref 111), (1, .int (nI g)), (2, .int (nI c))]) (st2 := []) (w3 := w) rfl rfl ?_
    refine sx_RP.step (pc2 := 16) (ls2 := [(3, .int 3), (0, .ref 111), (1, .int (nI g)), (2, .int (nI c))]) (st2 := [.int (-1)]) (w3 := w) rfl rfl ?_
    refine sx_RP.ret (r := (some (.int (-1)))) rfl rfl ?_
    exact ⟨by first | rfl | decide, rfl⟩
  obtain ⟨r9, w2, h1, rfl, rfl⟩ := h
  exact h1
theorem x147 {xs : Option (List Int32)} {d : Nat} {w : List sx_C} (hI : WI w) {g c k s : Nat} (hg : g < 10) (hc : c < 48) (hk : k < 6) (ek : (ia w 112).getD (103 + 6 * g + 0) 0 = nI k) (hs : s < 4) (es : (ia w 112).getD (7 + c) 0 = nI s) : sx_RU xs (d + 1) 147 0 (lv_args 0 [.ref 111, .int (nI g), .int (nI c)]) [] w (some (.int (if s = 3 then -1 else tmV k s ((ia w 112).getD (55 + c) 0)))) w := by
  rcases (show s = 0 ∨ s = 1 ∨ s = 2 ∨ s = 3 by omega) with rfl | rfl | rfl | rfl
  · exact x147_0 hI hg hc hk ek es
  · exact x147_1 hI hg hc hk ek es
  · exact x147_2 hI hg hc hk ek es
  · exact x147_3 hI hg hc hk ek es
set_option maxRecDepth 20000 in
set_option maxHeartbeats 4000000 in
theorem x162_0 {xs : Option (List Int32)} {d : Nat} {w : List sx_C} (hI : WI w) {c k : Nat} (hc : c < 48) (hk : k < 6) (es : (ia w 112).getD (7 + c) 0 = 0) : sx_RU xs (d + 1) 162 0 (lv_args 0 [.ref 111, .int (nI k), .int (nI c)]) [] w (some (.int (ldV k 0))) w := by
  have h : sx_RP xs (d + 1) 162 0 (lv_args 0 [.ref 111, .int (nI k), .int (nI c)]) [] w (fun r9 w2 => r9 = some (.int (ldV k 0)) ∧ w2 = w) := by
    refine sx_RP.step (pc2 := 1) (ls2 := [(0, .ref 111), (1, .int (nI k)), (2, .int (nI c))]) (st2 := [.ref 111]) (w3 := w) rfl rfl ?_
    refine sx_RP.gf (v := .ref 112) rfl rfl hI.1.o111 rfl rfl (show _ = 4 from rfl) ?_
    refine sx_RP.step (pc2 := 6) (ls2 := [(0, .ref 111), (1, .int (nI k)), (2, .int (nI c))]) (st2 := [.int 7, .ref 112]) (w3 := w) rfl rfl ?_
    refine sx_RP.step (pc2 := 7) (ls2 := [(0, .ref 111), (1, .int (nI k)), (2, .int (nI c))]) (st2 := [.int (nI c), .int 7, .ref 112]) (w3 := w) rfl rfl ?_
    refine sx_RP.step (pc2 := 8) (ls2 := [(0, .ref 111), (1, .int (nI k)), (2, .int (nI c))]) (st2 := [.int (7 + (nI c)), .ref 112]) (w3 := w) rfl rfl ?_
    rw [show (7 + (nI c) : Int32) = nI (7 + c) from nI_add 7 c]
    refine sx_RP.ild (c := (7 + c)) rfl hI.1.a112.1 hI.1.a112.2 (sx_in_nI (show (7 + c) < 172 by omega) (by decide)) (show (nI (7 + c)).toNatClampNeg = (7 + c) from nI_clamp (by omega)) (show _ = 9 from rfl) ?_
    rw [es]
    refine sx_RP.cu (as := [.int 0]) (rest2 := []) (st3 := [.int 12]) rfl rfl rfl rfl rfl (frI_ok (t163 0 (by decide)) _ _ _) rfl ?_
    refine sx_RP.step (pc2 := 13) (ls2 := [(3, .int 12), (0, .ref 111), (1, .int (nI k)), (2, .int (nI c))]) (st2 := []) (w3 := w) rfl rfl ?_
    refine sx_RP.step (pc2 := 14) (ls2 := [(3, .int 12), (0, .ref 111), (1, .int (nI k)), (2, .int (nI c))]) (st2 := [.int 12]) (w3 := w) rfl rfl ?_
    refine sx_RP.step (pc2 := 15) (ls2 := [(3, .int 12), (0, .ref 111), (1, .int (nI k)), (2, .int (nI c))]) (st2 := [.int 2, .int 12]) (w3 := w) rfl rfl ?_
    refine sx_RP.step (pc2 := 22) (ls2 := [(3, .int 12), (0, .ref 111), (1, .int (nI k)), (2, .int (nI c))]) (st2 := []) (w3 := w) rfl rfl ?_
    refine sx_RP.step (pc2 := 23) (ls2 := [(3, .int 12), (0, .ref 111), (1, .int (nI k)), (2, .int (nI c))]) (st2 := [.int 12]) (w3 := w) rfl rfl ?_
    refine sx_RP.step (pc2 := 24) (ls2 := [(3, .int 12), (0, .ref 111), (1, .int (nI k)), (2, .int (nI c))]) (st2 := [.int 2, .int 12]) (w3 := w) rfl rfl ?_
    refine sx_RP.step (pc2 := 25) (ls2 := [(3, .int 12), (0, .ref 111), (1, .int (nI k)), (2, .int (nI c))]) (st2 := [.int 10]) (w3 := w) rfl rfl ?_
    refine sx_RP.step (pc2 := 27) (ls2 := [(4, .int 10), (3, .int 12), (0, .ref 111), (1, .int (nI k)), (2, .int (nI c))]) (st2 := []) (w3 := w) rfl rfl ?_
    refine sx_RP.step (pc2 := 28) (ls2 := [(4, .int 10), (3, .int 12), (0, .ref 111), (1, .int (nI k)), (2, .int (nI c))]) (st2 := [.int (nI k)]) (w3 := w) rfl rfl ?_
    rcases sw_cases (n := 4) (nI k) with q1 | ⟨x2, hx3, ex4⟩
    · refine sx_RP.swo (t := 79) rfl q1 rfl ?_
      refine sx_RP.step (pc2 := 81) (ls2 := [(4, .int 10), (3, .int 12), (0, .ref 111), (1, .int (nI k)), (2, .int (nI c))]) (st2 := [.int 10]) (w3 := w) rfl rfl ?_
      refine sx_RP.step (pc2 := 82) (ls2 := [(4, .int 10), (3, .int 12), (0, .ref 111), (1, .int (nI k)), (2, .int (nI c))]) (st2 := [.int 2, .int 10]) (w3 := w) rfl rfl ?_
      refine sx_RP.step (pc2 := 83) (ls2 := [(4, .int 10), (3, .int 12), (0, .ref 111), (1, .int (nI k)), (2, .int (nI c))]) (st2 := [.int 5]) (w3 := w) rfl rfl ?_
      refine sx_RP.ret (r := (some (.int 5))) rfl rfl ?_
      obtain rfl := sw5 hk (by assumption)
      exact ⟨by first | rfl | decide, rfl⟩
    · rw [ex4]
      rcases (show x2 = 0 ∨ x2 = 1 ∨ x2 = 2 ∨ x2 = 3 ∨ x2 = 4 by omega) with rfl | rfl | rfl | rfl | rfl
      · refine sx_RP.step (pc2 := 64) (ls2 := [(4, .int 10), (3, .int 12), (0, .ref 111), (1, .int (nI 0)), (2, .int (nI c))]) (st2 := []) (w3 := w) rfl rfl ?_
        refine sx_RP.step (pc2 := 65) (ls2 := [(4, .int 10), (3, .int 12), (0, .ref 111), (1, .int (nI 0)), (2, .int (nI c))]) (st2 := [.int 12]) (w3 := w) rfl rfl ?_
        refine sx_RP.ret (r := (some (.int 12))) rfl rfl ?_
        obtain rfl : k = 0 := (nI_eq (a := k) (b := 0) (by omega) (by decide)).mp ex4
        exact ⟨by first | rfl | decide, rfl⟩
      · refine sx_RP.step (pc2 := 66) (ls2 := [(4, .int 10), (3, .int 12), (0, .ref 111), (1, .int (nI 1)), (2, .int (nI c))]) (st2 := []) (w3 := w) rfl rfl ?_
        refine sx_RP.step (pc2 := 68) (ls2 := [(4, .int 10), (3, .int 12), (0, .ref 111), (1, .int (nI 1)), (2, .int (nI c))]) (st2 := [.int 10]) (w3 := w) rfl rfl ?_
        refine sx_RP.ret (r := (some (.int 10))) rfl rfl ?_
        obtain rfl : k = 1 := (nI_eq (a := k) (b := 1) (by omega) (by decide)).mp ex4
        exact ⟨by first | rfl | decide, rfl⟩
      · refine sx_RP.step (pc2 := 69) (ls2 := [(4, .int 10), (3, .int 12), (0, .ref 111), (1, .int (nI 2)), (2, .int (nI c))]) (st2 := []) (w3 := w) rfl rfl ?_
        refine sx_RP.step (pc2 := 70) (ls2 := [(4, .int 10), (3, .int 12), (0, .ref 111), (1, .int (nI 2)), (2, .int (nI c))]) (st2 := [.int 12]) (w3 := w) rfl rfl ?_
        refine sx_RP.step (pc2 := 71) (ls2 := [(4, .int 10), (3, .int 12), (0, .ref 111), (1, .int (nI 2)), (2, .int (nI c))]) (st2 := [.int 2, .int 12]) (w3 := w) rfl rfl ?_
        refine sx_RP.step (pc2 := 72) (ls2 := [(4, .int 10), (3, .int 12), (0, .ref 111), (1, .int (nI 2)), (2, .int (nI c))]) (st2 := [.int 6]) (w3 := w) rfl rfl ?_
        refine sx_RP.ret (r := (some (.int 6))) rfl rfl ?_
        obtain rfl : k = 2 := (nI_eq (a := k) (b := 2) (by omega) (by decide)).mp ex4
        exact ⟨by first | rfl | decide, rfl⟩
      · refine sx_RP.step (pc2 := 79) (ls2 := [(4, .int 10), (3, .int 12), (0, .ref 111), (1, .int (nI 3)), (2, .int (nI c))]) (st2 := []) (w3 := w) rfl rfl ?_
        refine sx_RP.step (pc2 := 81) (ls2 := [(4, .int 10), (3, .int 12), (0, .ref 111), (1, .int (nI 3)), (2, .int (nI c))]) (st2 := [.int 10]) (w3 := w) rfl rfl ?_
        refine sx_RP.step (pc2 := 82) (ls2 := [(4, .int 10), (3, .int 12), (0, .ref 111), (1, .int (nI 3)), (2, .int (nI c))]) (st2 := [.int 2, .int 10]) (w3 := w) rfl rfl ?_
        refine sx_RP.step (pc2 := 83) (ls2 := [(4, .int 10), (3, .int 12), (0, .ref 111), (1, .int (nI 3)), (2, .int (nI c))]) (st2 := [.int 5]) (w3 := w) rfl rfl ?_
        refine sx_RP.ret (r := (some (.int 5))) rfl rfl ?_
        obtain rfl : k = 3 := (nI_eq (a := k) (b := 3) (by omega) (by decide)).mp ex4
        exact ⟨by first | rfl | decide, rfl⟩
      · refine sx_RP.step (pc2 := 73) (ls2 := [(4, .int 10), (3, .int 12), (0, .ref 111), (1, .int (nI 4)), (2, .int (nI c))]) (st2 := []) (w3 := w) rfl rfl ?_
        refine sx_RP.step (pc2 := 74) (ls2 := [(4, .int 10), (3, .int 12), (0, .ref 111), (1, .int (nI 4)), (2, .int (nI c))]) (st2 := [.int 3]) (w3 := w) rfl rfl ?_
        refine sx_RP.step (pc2 := 75) (ls2 := [(4, .int 10), (3, .int 12), (0, .ref 111), (1, .int (nI 4)), (2, .int (nI c))]) (st2 := [.int 12, .int 3]) (w3 := w) rfl rfl ?_
        refine sx_RP.step (pc2 := 76) (ls2 := [(4, .int 10), (3, .int 12), (0, .ref 111), (1, .int (nI 4)), (2, .int (nI c))]) (st2 := [.int 2, .int 12, .int 3]) (w3 := w) rfl rfl ?_
        refine sx_RP.step (pc2 := 77) (ls2 := [(4, .int 10), (3, .int 12), (0, .ref 111), (1, .int (nI 4)), (2, .int (nI c))]) (st2 := [.int 6, .int 3]) (w3 := w) rfl rfl ?_
        refine sx_RP.step (pc2 := 78) (ls2 := [(4, .int 10), (3, .int 12), (0, .ref 111), (1, .int (nI 4)), (2, .int (nI c))]) (st2 := [.int 18]) (w3 := w) rfl rfl ?_
        refine sx_RP.ret (r := (some (.int 18))) rfl rfl ?_
        obtain rfl : k = 4 := (nI_eq (a := k) (b := 4) (by omega) (by decide)).mp ex4
        exact ⟨by first | rfl | decide, rfl⟩
  obtain ⟨r9, w2, h1, rfl, rfl⟩ := h
  exact h1
set_option maxRecDepth 20000 in
set_option maxHeartbeats 4000000 in
theorem x162_1 {xs : Option (List Int32)} {d : Nat} {w : List sx_C} (hI : WI w) {c k : Nat} (hc : c < 48) (hk : k < 6) (es : (ia w 112).getD (7 + c) 0 = 1) : sx_RU xs (d + 1) 162 0 (lv_args 0 [.ref 111, .int (nI k), .int (nI c)]) [] w (some (.int (ldV k 1))) w := by
  have h : sx_RP xs (d + 1) 162 0 (lv_args 0 [.ref 111, .int (nI k), .int (nI c)]) [] w (fun r9 w2 => r9 = some (.int (ldV k 1)) ∧ w2 = w) := by
    refine sx_RP.step (pc2 := 1) (ls2 := [(0, .ref 111), (1, .int (nI k)), (2, .int (nI c))]) (st2 := [.ref 111]) (w3 := w) rfl rfl ?_
    refine sx_RP.gf (v := .ref 112) rfl rfl hI.1.o111 rfl rfl (show _ = 4 from rfl) ?_
    refine sx_RP.step (pc2 := 6) (ls2 := [(0, .ref 111), (1, .int (nI k)), (2, .int (nI c))]) (st2 := [.int 7, .ref 112]) (w3 := w) rfl rfl ?_
    refine sx_RP.step (pc2 := 7) (ls2 := [(0, .ref 111), (1, .int (nI k)), (2, .int (nI c))]) (st2 := [.int (nI c), .int 7, .ref 112]) (w3 := w) rfl rfl ?_
    refine sx_RP.step (pc2 := 8) (ls2 := [(0, .ref 111), (1, .int (nI k)), (2, .int (nI c))]) (st2 := [.int (7 + (nI c)), .ref 112]) (w3 := w) rfl rfl ?_
    rw [show (7 + (nI c) : Int32) = nI (7 + c) from nI_add 7 c]
    refine sx_RP.ild (c := (7 + c)) rfl hI.1.a112.1 hI.1.a112.2 (sx_in_nI (show (7 + c) < 172 by omega) (by decide)) (show (nI (7 + c)).toNatClampNeg = (7 + c) from nI_clamp (by omega)) (show _ = 9 from rfl) ?_
    rw [es]
    refine sx_RP.cu (as := [.int 1]) (rest2 := []) (st3 := [.int 8]) rfl rfl rfl rfl rfl (frI_ok (t163 1 (by decide)) _ _ _) rfl ?_
    refine sx_RP.step (pc2 := 13) (ls2 := [(3, .int 8), (0, .ref 111), (1, .int (nI k)), (2, .int (nI c))]) (st2 := []) (w3 := w) rfl rfl ?_
    refine sx_RP.step (pc2 := 14) (ls2 := [(3, .int 8), (0, .ref 111), (1, .int (nI k)), (2, .int (nI c))]) (st2 := [.int 8]) (w3 := w) rfl rfl ?_
    refine sx_RP.step (pc2 := 15) (ls2 := [(3, .int 8), (0, .ref 111), (1, .int (nI k)), (2, .int (nI c))]) (st2 := [.int 2, .int 8]) (w3 := w) rfl rfl ?_
    refine sx_RP.step (pc2 := 22) (ls2 := [(3, .int 8), (0, .ref 111), (1, .int (nI k)), (2, .int (nI c))]) (st2 := []) (w3 := w) rfl rfl ?_
    refine sx_RP.step (pc2 := 23) (ls2 := [(3, .int 8), (0, .ref 111), (1, .int (nI k)), (2, .int (nI c))]) (st2 := [.int 8]) (w3 := w) rfl rfl ?_
    refine sx_RP.step (pc2 := 24) (ls2 := [(3, .int 8), (0, .ref 111), (1, .int (nI k)), (2, .int (nI c))]) (st2 := [.int 2, .int 8]) (w3 := w) rfl rfl ?_
    refine sx_RP.step (pc2 := 25) (ls2 := [(3, .int 8), (0, .ref 111), (1, .int (nI k)), (2, .int (nI c))]) (st2 := [.int 6]) (w3 := w) rfl rfl ?_
    refine sx_RP.step (pc2 := 27) (ls2 := [(4, .int 6), (3, .int 8), (0, .ref 111), (1, .int (nI k)), (2, .int (nI c))]) (st2 := []) (w3 := w) rfl rfl ?_
    refine sx_RP.step (pc2 := 28) (ls2 := [(4, .int 6), (3, .int 8), (0, .ref 111), (1, .int (nI k)), (2, .int (nI c))]) (st2 := [.int (nI k)]) (w3 := w) rfl rfl ?_
    rcases sw_cases (n := 4) (nI k) with q1 | ⟨x2, hx3, ex4⟩
    · refine sx_RP.swo (t := 79) rfl q1 rfl ?_
      refine sx_RP.step (pc2 := 81) (ls2 := [(4, .int 6), (3, .int 8), (0, .ref 111), (1, .int (nI k)), (2, .int (nI c))]) (st2 := [.int 6]) (w3 := w) rfl rfl ?_
      refine sx_RP.step (pc2 := 82) (ls2 := [(4, .int 6), (3, .int 8), (0, .ref 111), (1, .int (nI k)), (2, .int (nI c))]) (st2 := [.int 2, .int 6]) (w3 := w) rfl rfl ?_
      refine sx_RP.step (pc2 := 83) (ls2 := [(4, .int 6), (3, .int 8), (0, .ref 111), (1, .int (nI k)), (2, .int (nI c))]) (st2 := [.int 3]) (w3 := w) rfl rfl ?_
      refine sx_RP.ret (r := (some (.int 3))) rfl rfl ?_
      obtain rfl := sw5 hk (by assumption)
      exact ⟨by first | rfl | decide, rfl⟩
    · rw [ex4]
      rcases (show x2 = 0 ∨ x2 = 1 ∨ x2 = 2 ∨ x2 = 3 ∨ x2 = 4 by omega) with rfl | rfl | rfl | rfl | rfl
      · refine sx_RP.step (pc2 := 64) (ls2 := [(4, .int 6), (3, .int 8), (0, .ref 111), (1, .int (nI 0)), (2, .int (nI c))]) (st2 := []) (w3 := w) rfl rfl ?_
        refine sx_RP.step (pc2 := 65) (ls2 := [(4, .int 6), (3, .int 8), (0, .ref 111), (1, .int (nI 0)), (2, .int (nI c))]) (st2 := [.int 8]) (w3 := w) rfl rfl ?_
        refine sx_RP.ret (r := (some (.int 8))) rfl rfl ?_
        obtain rfl : k = 0 := (nI_eq (a := k) (b := 0) (by omega) (by decide)).mp ex4
        exact ⟨by first | rfl | decide, rfl⟩
      · refine sx_RP.step (pc2 := 66) (ls2 := [(4, .int 6), (3, .int 8), (0, .ref 111), (1, .int (nI 1)), (2, .int (nI c))]) (st2 := []) (w3 := w) rfl rfl ?_
        refine sx_RP.step (pc2 := 68) (ls2 := [(4, .int 6), (3, .int 8), (0, .ref 111), (1, .int (nI 1)), (2, .int (nI c))]) (st2 := [.int 6]) (w3 := w) rfl rfl ?_
        refine sx_RP.ret (r := (some (.int 6))) rfl rfl ?_
        obtain rfl : k = 1 := (nI_eq (a := k) (b := 1) (by omega) (by decide)).mp ex4
        exact ⟨by first | rfl | decide, rfl⟩
      · refine sx_RP.step (pc2 := 69) (ls2 := [(4, .int 6), (3, .int 8), (0, .ref 111), (1, .int (nI 2)), (2, .int (nI c))]) (st2 := []) (w3 := w) rfl rfl ?_
        refine sx_RP.step (pc2 := 70) (ls2 := [(4, .int 6), (3, .int 8), (0, .ref 111), (1, .int (nI 2)), (2, .int (nI c))]) (st2 := [.int 8]) (w3 := w) rfl rfl ?_
        refine sx_RP.step (pc2 := 71) (ls2 := [(4, .int 6), (3, .int 8), (0, .ref 111), (1, .int (nI 2)), (2, .int (nI c))]) (st2 := [.int 2, .int 8]) (w3 := w) rfl rfl ?_
        refine sx_RP.step (pc2 := 72) (ls2 := [(4, .int 6), (3, .int 8), (0, .ref 111), (1, .int (nI 2)), (2, .int (nI c))]) (st2 := [.int 4]) (w3 := w) rfl rfl ?_
        refine sx_RP.ret (r := (some (.int 4))) rfl rfl ?_
        obtain rfl : k = 2 := (nI_eq (a := k) (b := 2) (by omega) (by decide)).mp ex4
        exact ⟨by first | rfl | decide, rfl⟩
      · refine sx_RP.step (pc2 := 79) (ls2 := [(4, .int 6), (3, .int 8), (0, .ref 111), (1, .int (nI 3)), (2, .int (nI c))]) (st2 := []) (w3 := w) rfl rfl ?_
        refine sx_RP.step (pc2 := 81) (ls2 := [(4, .int 6), (3, .int 8), (0, .ref 111), (1, .int (nI 3)), (2, .int (nI c))]) (st2 := [.int 6]) (w3 := w) rfl rfl ?_
        refine sx_RP.step (pc2 := 82) (ls2 := [(4, .int 6), (3, .int 8), (0, .ref 111), (1, .int (nI 3)), (2, .int (nI c))]) (st2 := [.int 2, .int 6]) (w3 := w) rfl rfl ?_
        refine sx_RP.step (pc2 := 83) (ls2 := [(4, .int 6), (3, .int 8), (0, .ref 111), (1, .int (nI 3)), (2, .int (nI c))]) (st2 := [.int 3]) (w3 := w) rfl rfl ?_
        refine sx_RP.ret (r := (some (.int 3))) rfl rfl ?_
        obtain rfl : k = 3 := (nI_eq (a := k) (b := 3) (by omega) (by decide)).mp ex4
        exact ⟨by first | rfl | decide, rfl⟩
      · refine sx_RP.step (pc2 := 73) (ls2 := [(4, .int 6), (3, .int 8), (0, .ref 111), (1, .int (nI 4)), (2, .int (nI c))]) (st2 := []) (w3 := w) rfl rfl ?_
        refine sx_RP.step (pc2 := 74) (ls2 := [(4, .int 6), (3, .int 8), (0, .ref 111), (1, .int (nI 4)), (2, .int (nI c))]) (st2 := [.int 3]) (w3 := w) rfl rfl ?_
        refine sx_RP.step (pc2 := 75) (ls2 := [(4, .int 6), (3, .int 8), (0, .ref 111), (1, .int (nI 4)), (2, .int (nI c))]) (st2 := [.int 8, .int 3]) (w3 := w) rfl rfl ?_
        refine sx_RP.step (pc2 := 76) (ls2 := [(4, .int 6), (3, .int 8), (0, .ref 111), (1, .int (nI 4)), (2, .int (nI c))]) (st2 := [.int 2, .int 8, .int 3]) (w3 := w) rfl rfl ?_
        refine sx_RP.step (pc2 := 77) (ls2 := [(4, .int 6), (3, .int 8), (0, .ref 111), (1, .int (nI 4)), (2, .int (nI c))]) (st2 := [.int 4, .int 3]) (w3 := w) rfl rfl ?_
        refine sx_RP.step (pc2 := 78) (ls2 := [(4, .int 6), (3, .int 8), (0, .ref 111), (1, .int (nI 4)), (2, .int (nI c))]) (st2 := [.int 12]) (w3 := w) rfl rfl ?_
        refine sx_RP.ret (r := (some (.int 12))) rfl rfl ?_
        obtain rfl : k = 4 := (nI_eq (a := k) (b := 4) (by omega) (by decide)).mp ex4
        exact ⟨by first | rfl | decide, rfl⟩
  obtain ⟨r9, w2, h1, rfl, rfl⟩ := h
  exact h1
set_option maxRecDepth 20000 in
set_option maxHeartbeats 4000000 in
theorem x162_2 {xs : Option (List Int32)} {d : Nat} {w : List sx_C} (hI : WI w) {c k : Nat} (hc : c < 48) (hk : k < 6) (es : (ia w 112).getD (7 + c) 0 = 2) : sx_RU xs (d + 1) 162 0 (lv_args 0 [.ref 111, .int (nI k), .int (nI c)]) [] w (some (.int (ldV k 2))) w := by
  have h : sx_RP xs (d + 1) 162 0 (lv_args 0 [.ref 111, .int (nI k), .int (nI c)]) [] w (fun r9 w2 => r9 = some (.int (ldV k 2)) ∧ w2 = w) := by
    refine sx_RP.step (pc2 := 1) (ls2 := [(0, .ref 111), (1, .int (nI k)), (2, .int (nI c))]) (st2 := [.ref 111]) (w3 := w) rfl rfl ?_
    refine sx_RP.gf (v := .ref 112) rfl rfl hI.1.o111 rfl rfl (show _ = 4 from rfl) ?_
    refine sx_RP.step (pc2 := 6) (ls2 := [(0, .ref 111), (1, .int (nI k)), (2, .int (nI c))]) (st2 := [.int 7, .ref 112]) (w3 := w) rfl rfl ?_
    refine sx_RP.step (pc2 := 7) (ls2 := [(0, .ref 111), (1, .int (nI k)), (2, .int (nI c))]) (st2 := [.int (nI c), .int 7, .ref 112]) (w3 := w) rfl rfl ?_
    refine sx_RP.step (pc2 := 8) (ls2 := [(0, .ref 111), (1, .int (nI k)), (2, .int (nI c))]) (st2 := [.int (7 + (nI c)), .ref 112]) (w3 := w) rfl rfl ?_
    rw [show (7 + (nI c) : Int32) = nI (7 + c) from nI_add 7 c]
    refine sx_RP.ild (c := (7 + c)) rfl hI.1.a112.1 hI.1.a112.2 (sx_in_nI (show (7 + c) < 172 by omega) (by decide)) (show (nI (7 + c)).toNatClampNeg = (7 + c) from nI_clamp (by omega)) (show _ = 9 from rfl) ?_
    rw [es]
    refine sx_RP.cu (as := [.int 2]) (rest2 := []) (st3 := [.int 20]) rfl rfl rfl rfl rfl (frI_ok (t163 2 (by decide)) _ _ _) rfl ?_
    refine sx_RP.step (pc2 := 13) (ls2 := [(3, .int 20), (0, .ref 111), (1, .int (nI k)), (2, .int (nI c))]) (st2 := []) (w3 := w) rfl rfl ?_
    refine sx_RP.step (pc2 := 14) (ls2 := [(3, .int 20), (0, .ref 111), (1, .int (nI k)), (2, .int (nI c))]) (st2 := [.int 20]) (w3 := w) rfl rfl ?_
    refine sx_RP.step (pc2 := 15) (ls2 := [(3, .int 20), (0, .ref 111), (1, .int (nI k)), (2, .int (nI c))]) (st2 := [.int 2, .int 20]) (w3 := w) rfl rfl ?_
    refine sx_RP.step (pc2 := 22) (ls2 := [(3, .int 20), (0, .ref 111), (1, .int (nI k)), (2, .int (nI c))]) (st2 := []) (w3 := w) rfl rfl ?_
    refine sx_RP.step (pc2 := 23) (ls2 := [(3, .int 20), (0, .ref 111), (1, .int (nI k)), (2, .int (nI c))]) (st2 := [.int 20]) (w3 := w) rfl rfl ?_
    refine sx_RP.step (pc2 := 24) (ls2 := [(3, .int 20), (0, .ref 111), (1, .int (nI k)), (2, .int (nI c))]) (st2 := [.int 2, .int 20]) (w3 := w) rfl rfl ?_
    refine sx_RP.step (pc2 := 25) (ls2 := [(3, .int 20), (0, .ref 111), (1, .int (nI k)), (2, .int (nI c))]) (st2 := [.int 18]) (w3 := w) rfl rfl ?_
    refine sx_RP.step (pc2 := 27) (ls2 := [(4, .int 18), (3, .int 20), (0, .ref 111), (1, .int (nI k)), (2, .int (nI c))]) (st2 := []) (w3 := w) rfl rfl ?_
    refine sx_RP.step (pc2 := 28) (ls2 := [(4, .int 18), (3, .int 20), (0, .ref 111), (1, .int (nI k)), (2, .int (nI c))]) (st2 := [.int (nI k)]) (w3 := w) rfl rfl ?_
    rcases sw_cases (n := 4) (nI k) with q1 | ⟨x2, hx3, ex4⟩
    · refine sx_RP.swo (t := 79) rfl q1 rfl ?_
      refine sx_RP.step (pc2 := 81) (ls2 := [(4, .int 18), (3, .int 20), (0, .ref 111), (1, .int (nI k)), (2, .int (nI c))]) (st2 := [.int 18]) (w3 := w) rfl rfl ?_
      refine sx_RP.step (pc2 := 82) (ls2 := [(4, .int 18), (3, .int 20), (0, .ref 111), (1, .int (nI k)), (2, .int (nI c))]) (st2 := [.int 2, .int 18]) (w3 := w) rfl rfl ?_
      refine sx_RP.step (pc2 := 83) (ls2 := [(4, .int 18), (3, .int 20), (0, .ref 111), (1, .int (nI k)), (2, .int (nI c))]) (st2 := [.int 9]) (w3 := w) rfl rfl ?_
      refine sx_RP.ret (r := (some (.int 9))) rfl rfl ?_
      obtain rfl := sw5 hk (by assumption)
      exact ⟨by first | rfl | decide, rfl⟩
    · rw [ex4]
      rcases (show x2 = 0 ∨ x2 = 1 ∨ x2 = 2 ∨ x2 = 3 ∨ x2 = 4 by omega) with rfl | rfl | rfl | rfl | rfl
      · refine sx_RP.step (pc2 := 64) (ls2 := [(4, .int 18), (3, .int 20), (0, .ref 111), (1, .int (nI 0)), (2, .int (nI c))]) (st2 := []) (w3 := w) rfl rfl ?_
        refine sx_RP.step (pc2 := 65) (ls2 := [(4, .int 18), (3, .int 20), (0, .ref 111), (1, .int (nI 0)), (2, .int (nI c))]) (st2 := [.int 20]) (w3 := w) rfl rfl ?_
        refine sx_RP.ret (r := (some (.int 20))) rfl rfl ?_
        obtain rfl : k = 0 := (nI_eq (a := k) (b := 0) (by omega) (by decide)).mp ex4
        exact ⟨by first | rfl | decide, rfl⟩
      · refine sx_RP.step (pc2 := 66) (ls2 := [(4, .int 18), (3, .int 20), (0, .ref 111), (1, .int (nI 1)), (2, .int (nI c))]) (st2 := []) (w3 := w) rfl rfl ?_
        refine sx_RP.step (pc2 := 68) (ls2 := [(4, .int 18), (3, .int 20), (0, .ref 111), (1, .int (nI 1)), (2, .int (nI c))]) (st2 := [.int 18]) (w3 := w) rfl rfl ?_
        refine sx_RP.ret (r := (some (.int 18))) rfl rfl ?_
        obtain rfl : k = 1 := (nI_eq (a := k) (b := 1) (by omega) (by decide)).mp ex4
        exact ⟨by first | rfl | decide, rfl⟩
      · refine sx_RP.step (pc2 := 69) (ls2 := [(4, .int 18), (3, .int 20), (0, .ref 111), (1, .int (nI 2)), (2, .int (nI c))]) (st2 := []) (w3 := w) rfl rfl ?_
        refine sx_RP.step (pc2 := 70) (ls2 := [(4, .int 18), (3, .int 20), (0, .ref 111), (1, .int (nI 2)), (2, .int (nI c))]) (st2 := [.int 20]) (w3 := w) rfl rfl ?_
        refine sx_RP.step (pc2 := 71) (ls2 := [(4, .int 18), (3, .int 20), (0, .ref 111), (1, .int (nI 2)), (2, .int (nI c))]) (st2 := [.int 2, .int 20]) (w3 := w) rfl rfl ?_
        refine sx_RP.step (pc2 := 72) (ls2 := [(4, .int 18), (3, .int 20), (0, .ref 111), (1, .int (nI 2)), (2, .int (nI c))]) (st2 := [.int 10]) (w3 := w) rfl rfl ?_
        refine sx_RP.ret (r := (some (.int 10))) rfl rfl ?_
        obtain rfl : k = 2 := (nI_eq (a := k) (b := 2) (by omega) (by decide)).mp ex4
        exact ⟨by first | rfl | decide, rfl⟩
      · refine sx_RP.step (pc2 := 79) (ls2 := [(4, .int 18), (3, .int 20), (0, .ref 111), (1, .int (nI 3)), (2, .int (nI c))]) (st2 := []) (w3 := w) rfl rfl ?_
        refine sx_RP.step (pc2 := 81) (ls2 := [(4, .int 18), (3, .int 20), (0, .ref 111), (1, .int (nI 3)), (2, .int (nI c))]) (st2 := [.int 18]) (w3 := w) rfl rfl ?_
        refine sx_RP.step (pc2 := 82) (ls2 := [(4, .int 18), (3, .int 20), (0, .ref 111), (1, .int (nI 3)), (2, .int (nI c))]) (st2 := [.int 2, .int 18]) (w3 := w) rfl rfl ?_
        refine sx_RP.step (pc2 := 83) (ls2 := [(4, .int 18), (3, .int 20), (0, .ref 111), (1, .int (nI 3)), (2, .int (nI c))]) (st2 := [.int 9]) (w3 := w) rfl rfl ?_
        refine sx_RP.ret (r := (some (.int 9))) rfl rfl ?_
        obtain rfl : k = 3 := (nI_eq (a := k) (b := 3) (by omega) (by decide)).mp ex4
        exact ⟨by first | rfl | decide, rfl⟩
      · refine sx_RP.step (pc2 := 73) (ls2 := [(4, .int 18), (3, .int 20), (0, .ref 111), (1, .int (nI 4)), (2, .int (nI c))]) (st2 := []) (w3 := w) rfl rfl ?_
        refine sx_RP.step (pc2 := 74) (ls2 := [(4, .int 18), (3, .int 20), (0, .ref 111), (1, .int (nI 4)), (2, .int (nI c))]) (st2 := [.int 3]) (w3 := w) rfl rfl ?_
        refine sx_RP.step (pc2 := 75) (ls2 := [(4, .int 18), (3, .int 20), (0, .ref 111), (1, .int (nI 4)), (2, .int (nI c))]) (st2 := [.int 20, .int 3]) (w3 := w) rfl rfl ?_
        refine sx_RP.step (pc2 := 76) (ls2 := [(4, .int 18), (3, .int 20), (0, .ref 111), (1, .int (nI 4)), (2, .int (nI c))]) (st2 := [.int 2, .int 20, .int 3]) (w3 := w) rfl rfl ?_
        refine sx_RP.step (pc2 := 77) (ls2 := [(4, .int 18), (3, .int 20), (0, .ref 111), (1, .int (nI 4)), (2, .int (nI c))]) (st2 := [.int 10, .int 3]) (w3 := w) rfl rfl ?_
        refine sx_RP.step (pc2 := 78) (ls2 := [(4, .int 18), (3, .int 20), (0, .ref 111), (1, .int (nI 4)), (2, .int (nI c))]) (st2 := [.int 30]) (w3 := w) rfl rfl ?_
        refine sx_RP.ret (r := (some (.int 30))) rfl rfl ?_
        obtain rfl : k = 4 := (nI_eq (a := k) (b := 4) (by omega) (by decide)).mp ex4
        exact ⟨by first | rfl | decide, rfl⟩
  obtain ⟨r9, w2, h1, rfl, rfl⟩ := h
  exact h1
set_option maxRecDepth 20000 in
set_option maxHeartbeats 4000000 in
theorem x162_3 {xs : Option (List Int32)} {d : Nat} {w : List sx_C} (hI : WI w) {c k : Nat} (hc : c < 48) (hk : k < 6) (es : (ia w 112).getD (7 + c) 0 = 3) : sx_RU xs (d + 1) 162 0 (lv_args 0 [.ref 111, .int (nI k), .int (nI c)]) [] w (some (.int (ldV k 3))) w := by
  have h : sx_RP xs (d + 1) 162 0 (lv_args 0 [.ref 111, .int (nI k), .int (nI c)]) [] w (fun r9 w2 => r9 = some (.int (ldV k 3)) ∧ w2 = w) := by
    refine sx_RP.step (pc2 := 1) (ls2 := [(0, .ref 111), (1, .int (nI k)), (2, .int (nI c))]) (st2 := [.ref 111]) (w3 := w) rfl rfl ?_
    refine sx_RP.gf (v := .ref 112) rfl rfl hI.1.o111 rfl rfl (show _ = 4 from rfl) ?_
    refine sx_RP.step (pc2 := 6) (ls2 := [(0, .ref 111), (1, .int (nI k)), (2, .int (nI c))]) (st2 := [.int 7, .ref 112]) (w3 := w) rfl rfl ?_
    refine sx_RP.step (pc2 := 7) (ls2 := [(0, .ref 111), (1, .int (nI k)), (2, .int (nI c))]) (st2 := [.int (nI c), .int 7, .ref 112]) (w3 := w) rfl rfl ?_
    refine sx_RP.step (pc2 := 8) (ls2 := [(0, .ref 111), (1, .int (nI k)), (2, .int (nI c))]) (st2 := [.int (7 + (nI c)), .ref 112]) (w3 := w) rfl rfl ?_
    rw [show (7 + (nI c) : Int32) = nI (7 + c) from nI_add 7 c]
    refine sx_RP.ild (c := (7 + c)) rfl hI.1.a112.1 hI.1.a112.2 (sx_in_nI (show (7 + c) < 172 by omega) (by decide)) (show (nI (7 + c)).toNatClampNeg = (7 + c) from nI_clamp (by omega)) (show _ = 9 from rfl) ?_
    rw [es]
    refine sx_RP.cu (as := [.int 3]) (rest2 := []) (st3 := [.int 0]) rfl rfl rfl rfl rfl (frI_ok (t163 3 (by decide)) _ _ _) rfl ?_
    refine sx_RP.step (pc2 := 13) (ls2 := [(3, .int 0), (0, .ref 111), (1, .int (nI k)), (2, .int (nI c))]) (st2 := []) (w3 := w) rfl rfl ?_
    refine sx_RP.step (pc2 := 14) (ls2 := [(3, .int 0), (0, .ref 111), (1, .int (nI k)), (2, .int (nI c))]) (st2 := [.int 0]) (w3 := w) rfl rfl ?_
    refine sx_RP.step (pc2 := 15) (ls2 := [(3, .int 0), (0, .ref 111), (1, .int (nI k)), (2, .int (nI c))]) (st2 := [.int 2, .int 0]) (w3 := w) rfl rfl ?_
    refine sx_RP.step (pc2 := 18) (ls2 := [(3, .int 0), (0, .ref 111), (1, .int (nI k)), (2, .int (nI c))]) (st2 := []) (w3 := w) rfl rfl ?_
    refine sx_RP.step (pc2 := 19) (ls2 := [(3, .int 0), (0, .ref 111), (1, .int (nI k)), (2, .int (nI c))]) (st2 := [.int 0]) (w3 := w) rfl rfl ?_
    refine sx_RP.step (pc2 := 25) (ls2 := [(3, .int 0), (0, .ref 111), (1, .int (nI k)), (2, .int (nI c))]) (st2 := [.int 0]) (w3 := w) rfl rfl ?_
    refine sx_RP.step (pc2 := 27) (ls2 := [(4, .int 0), (3, .int 0), (0, .ref 111), (1, .int (nI k)), (2, .int (nI c))]) (st2 := []) (w3 := w) rfl rfl ?_
    refine sx_RP.step (pc2 := 28) (ls2 := [(4, .int 0), (3, .int 0), (0, .ref 111), (1, .int (nI k)), (2, .int (nI c))]) (st2 := [.int (nI k)]) (w3 := w) rfl rfl ?_
    rcases sw_cases (n := 4) (nI k) with q1 | ⟨x2, hx3, ex4⟩
    · refine sx_RP.swo (t := 79) rfl q1 rfl ?_
      refine sx_RP.step (pc2 := 81) (ls2 := [(4, .int 0), (3, .int 0), (0, .ref 111), (1, .int (nI k)), (2, .int (nI c))]) (st2 := [.int 0]) (w3 := w) rfl rfl ?_
      refine sx_RP.step (pc2 := 82) (ls2 := [(4, .int 0), (3, .int 0), (0, .ref 111), (1, .int (nI k)), (2, .int (nI c))]) (st2 := [.int 2, .int 0]) (w3 := w) rfl rfl ?_
      refine sx_RP.step (pc2 := 83) (ls2 := [(4, .int 0), (3, .int 0), (0, .ref 111), (1, .int (nI k)), (2, .int (nI c))]) (st2 := [.int 0]) (w3 := w) rfl rfl ?_
      refine sx_RP.ret (r := (some (.int 0))) rfl rfl ?_
      obtain rfl := sw5 hk (by assumption)
      exact ⟨by first | rfl | decide, rfl⟩
    · rw [ex4]
      rcases (show x2 = 0 ∨ x2 = 1 ∨ x2 = 2 ∨ x2 = 3 ∨ x2 = 4 by omega) with rfl | rfl | rfl | rfl | rfl
      · refine sx_RP.step (pc2 := 64) (ls2 := [(4, .int 0), (3, .int 0), (0, .ref 111), (1, .int (nI 0)), (2, .int (nI c))]) (st2 := []) (w3 := w) rfl rfl ?_
        refine sx_RP.step (pc2 := 65) (ls2 := [(4, .int 0), (3, .int 0), (0, .ref 111), (1, .int (nI 0)), (2, .int (nI c))]) (st2 := [.int 0]) (w3 := w) rfl rfl ?_
        refine sx_RP.ret (r := (some (.int 0))) rfl rfl ?_
        obtain rfl : k = 0 := (nI_eq (a := k) (b := 0) (by omega) (by decide)).mp ex4
        exact ⟨by first | rfl | decide, rfl⟩
      · refine sx_RP.step (pc2 := 66) (ls2 := [(4, .int 0), (3, .int 0), (0, .ref 111), (1, .int (nI 1)), (2, .int (nI c))]) (st2 := []) (w3 := w) rfl rfl ?_
        refine sx_RP.step (pc2 := 68) (ls2 := [(4, .int 0), (3, .int 0), (0, .ref 111), (1, .int (nI 1)), (2, .int (nI c))]) (st2 := [.int 0]) (w3 := w) rfl rfl ?_
        refine sx_RP.ret (r := (some (.int 0))) rfl rfl ?_
        obtain rfl : k = 1 := (nI_eq (a := k) (b := 1) (by omega) (by decide)).mp ex4
        exact ⟨by first | rfl | decide, rfl⟩
      · refine sx_RP.step (pc2 := 69) (ls2 := [(4, .int 0), (3, .int 0), (0, .ref 111), (1, .int (nI 2)), (2, .int (nI c))]) (st2 := []) (w3 := w) rfl rfl ?_
        refine sx_RP.step (pc2 := 70) (ls2 := [(4, .int 0), (3, .int 0), (0, .ref 111), (1, .int (nI 2)), (2, .int (nI c))]) (st2 := [.int 0]) (w3 := w) rfl rfl ?_
        refine sx_RP.step (pc2 := 71) (ls2 := [(4, .int 0), (3, .int 0), (0, .ref 111), (1, .int (nI 2)), (2, .int (nI c))]) (st2 := [.int 2, .int 0]) (w3 := w) rfl rfl ?_
        refine sx_RP.step (pc2 := 72) (ls2 := [(4, .int 0), (3, .int 0), (0, .ref 111), (1, .int (nI 2)), (2, .int (nI c))]) (st2 := [.int 0]) (w3 := w) rfl rfl ?_
        refine sx_RP.ret (r := (some (.int 0))) rfl rfl ?_
        obtain rfl : k = 2 := (nI_eq (a := k) (b := 2) (by omega) (by decide)).mp ex4
        exact ⟨by first | rfl | decide, rfl⟩
      · refine sx_RP.step (pc2 := 79) (ls2 := [(4, .int 0), (3, .int 0), (0, .ref 111), (1, .int (nI 3)), (2, .int (nI c))]) (st2 := []) (w3 := w) rfl rfl ?_
        refine sx_RP.step (pc2 := 81) (ls2 := [(4, .int 0), (3, .int 0), (0, .ref 111), (1, .int (nI 3)), (2, .int (nI c))]) (st2 := [.int 0]) (w3 := w) rfl rfl ?_
        refine sx_RP.step (pc2 := 82) (ls2 := [(4, .int 0), (3, .int 0), (0, .ref 111), (1, .int (nI 3)), (2, .int (nI c))]) (st2 := [.int 2, .int 0]) (w3 := w) rfl rfl ?_
        refine sx_RP.step (pc2 := 83) (ls2 := [(4, .int 0), (3, .int 0), (0, .ref 111), (1, .int (nI 3)), (2, .int (nI c))]) (st2 := [.int 0]) (w3 := w) rfl rfl ?_
        refine sx_RP.ret (r := (some (.int 0))) rfl rfl ?_
        obtain rfl : k = 3 := (nI_eq (a := k) (b := 3) (by omega) (by decide)).mp ex4
        exact ⟨by first | rfl | decide, rfl⟩
      · refine sx_RP.step (pc2 := 73) (ls2 := [(4, .int 0), (3, .int 0), (0, .ref 111), (1, .int (nI 4)), (2, .int (nI c))]) (st2 := []) (w3 := w) rfl rfl ?_
        refine sx_RP.step (pc2 := 74) (ls2 := [(4, .int 0), (3, .int 0), (0, .ref 111), (1, .int (nI 4)), (2, .int (nI c))]) (st2 := [.int 3]) (w3 := w) rfl rfl ?_
        refine sx_RP.step (pc2 := 75) (ls2 := [(4, .int 0), (3, .int 0), (0, .ref 111), (1, .int (nI 4)), (2, .int (nI c))]) (st2 := [.int 0, .int 3]) (w3 := w) rfl rfl ?_
        refine sx_RP.step (pc2 := 76) (ls2 := [(4, .int 0), (3, .int 0), (0, .ref 111), (1, .int (nI 4)), (2, .int (nI c))]) (st2 := [.int 2, .int 0, .int 3]) (w3 := w) rfl rfl ?_
        refine sx_RP.step (pc2 := 77) (ls2 := [(4, .int 0), (3, .int 0), (0, .ref 111), (1, .int (nI 4)), (2, .int (nI c))]) (st2 := [.int 0, .int 3]) (w3 := w) rfl rfl ?_
        refine sx_RP.step (pc2 := 78) (ls2 := [(4, .int 0), (3, .int 0), (0, .ref 111), (1, .int (nI 4)), (2, .int (nI c))]) (st2 := [.int 0]) (w3 := w) rfl rfl ?_
        refine sx_RP.ret (r := (some (.int 0))) rfl rfl ?_
        obtain rfl : k = 4 := (nI_eq (a := k) (b := 4) (by omega) (by decide)).mp ex4
        exact ⟨by first | rfl | decide, rfl⟩
  obtain ⟨r9, w2, h1, rfl, rfl⟩ := h
  exact h1
theorem x162 {xs : Option (List Int32)} {d : Nat} {w : List sx_C} (hI : WI w) {c k s : Nat} (hc : c < 48) (hk : k < 6) (hs : s < 4) (es : (ia w 112).getD (7 + c) 0 = nI s) : sx_RU xs (d + 1) 162 0 (lv_args 0 [.ref 111, .int (nI k), .int (nI c)]) [] w (some (.int (ldV k s))) w := by
  rcases (show s = 0 ∨ s = 1 ∨ s = 2 ∨ s = 3 by omega) with rfl | rfl | rfl | rfl
  · exact x162_0 hI hc hk es
  · exact x162_1 hI hc hk es
  · exact x162_2 hI hc hk es
  · exact x162_3 hI hc hk es
