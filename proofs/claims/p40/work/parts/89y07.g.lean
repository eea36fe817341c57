-- 89y07.kinds.lean.txt
section
theorem sw6 {k : Nat} (hk : k < 6) (q : (nI k).toInt < 0 ∨ (5 : Int) < (nI k).toInt) : False := by
  rw [nI_toInt (by omega)] at q
  omega
theorem sw5 {k : Nat} (hk : k < 6) (q : (nI k).toInt < 0 ∨ (4 : Int) < (nI k).toInt) : k = 5 := by
  rw [nI_toInt (by omega)] at q
  omega
theorem x138e {xs : Option (List Int32)} {d g c : Nat} {w : List sx_C} {v : Int32} (hI : WI w) (hg : g < 10) (hc : c < 6) (e : (ia w 112).getD (103 + 6 * g + c) 0 = v) : sx_RU xs d 138 0 (lv_args 0 [.ref 111, .int (nI g), .int (nI c)]) [] w (some (.int v)) w := by
  rw [← e]
  exact x138 hI hg hc
set_option maxRecDepth 20000 in
set_option maxHeartbeats 4000000 in
theorem x47 {xs : Option (List Int32)} {d : Nat} {w : List sx_C} (hI : WI w) (x : Int32) : sx_RU xs d 47 0 (lv_args 0 [.int x]) [] w (some (.int (abF x))) w := by
  have h : sx_RP xs d 47 0 (lv_args 0 [.int x]) [] w (fun r9 w2 => r9 = some (.int (abF x)) ∧ w2 = w) := by
    refine sx_RP.step (pc2 := 1) (ls2 := [(0, .int x)]) (st2 := [.int x]) (w3 := w) rfl rfl ?_
    refine sx_RP.br (p1 := 9) (l1 := [(0, .int x)]) (s1 := []) (v1 := w) (p2 := 4) (l2 := [(0, .int x)]) (s2 := []) (v2 := w) rfl rfl (fun q1 => ?_) (fun q1 => ?_)
    · replace q1 := of_decide_eq_true q1
      refine sx_RP.step (pc2 := 10) (ls2 := [(0, .int x)]) (st2 := [.int x]) (w3 := w) rfl rfl ?_
      refine sx_RP.ret (r := (some (.int x))) rfl rfl ?_
      exact ⟨by unfold abF; rw [if_neg (Int32.not_lt.mpr q1)], rfl⟩
    · replace q1 := of_decide_eq_false q1
      refine sx_RP.step (pc2 := 5) (ls2 := [(0, .int x)]) (st2 := [.int x]) (w3 := w) rfl rfl ?_
      refine sx_RP.step (pc2 := 6) (ls2 := [(0, .int x)]) (st2 := [.int (-x)]) (w3 := w) rfl rfl ?_
      refine sx_RP.step (pc2 := 10) (ls2 := [(0, .int x)]) (st2 := [.int (-x)]) (w3 := w) rfl rfl ?_
      refine sx_RP.ret (r := (some (.int (-x)))) rfl rfl ?_
      exact ⟨by unfold abF; rw [if_pos (Int32.not_le.mp q1)], rfl⟩
  obtain ⟨r9, w2, h1, rfl, rfl⟩ := h
  exact h1
set_option maxRecDepth 20000 in
set_option maxHeartbeats 4000000 in
theorem x46 {xs : Option (List Int32)} {d : Nat} {w : List sx_C} (hI : WI w) (a b : Nat) : sx_RU xs (d + 1) 46 0 (lv_args 0 [.int (nI a), .int (nI b)]) [] w (some (.int (apF a b))) w := by
  have h : sx_RP xs (d + 1) 46 0 (lv_args 0 [.int (nI a), .int (nI b)]) [] w (fun r9 w2 => r9 = some (.int (apF a b)) ∧ w2 = w) := by
    refine sx_RP.step (pc2 := 1) (ls2 := [(0, .int (nI a)), (1, .int (nI b))]) (st2 := [.int (nI a)]) (w3 := w) rfl rfl ?_
    refine sx_RP.step (pc2 := 3) (ls2 := [(0, .int (nI a)), (1, .int (nI b))]) (st2 := [.int 8, .int (nI a)]) (w3 := w) rfl rfl ?_
    refine sx_RP.step (pc2 := 4) (ls2 := [(0, .int (nI a)), (1, .int (nI b))]) (st2 := [.int ((nI a) / 8)]) (w3 := w) rfl rfl ?_
    refine sx_RP.step (pc2 := 5) (ls2 := [(0, .int (nI a)), (1, .int (nI b))]) (st2 := [.int (nI b), .int ((nI a) / 8)]) (w3 := w) rfl rfl ?_
    refine sx_RP.step (pc2 := 7) (ls2 := [(0, .int (nI a)), (1, .int (nI b))]) (st2 := [.int 8, .int (nI b), .int ((nI a) / 8)]) (w3 := w) rfl rfl ?_
    refine sx_RP.step (pc2 := 8) (ls2 := [(0, .int (nI a)), (1, .int (nI b))]) (st2 := [.int ((nI b) / 8), .int ((nI a) / 8)]) (w3 := w) rfl rfl ?_
    refine sx_RP.step (pc2 := 9) (ls2 := [(0, .int (nI a)), (1, .int (nI b))]) (st2 := [.int (((nI a) / 8) - ((nI b) / 8))]) (w3 := w) rfl rfl ?_
    refine sx_RP.cu (as := [.int (((nI a) / 8) - ((nI b) / 8))]) (rest2 := []) (st3 := [.int (abF (((nI a) / 8) - ((nI b) / 8)))]) rfl rfl rfl rfl rfl (x47 hI _) rfl ?_
    refine sx_RP.step (pc2 := 13) (ls2 := [(0, .int (nI a)), (1, .int (nI b))]) (st2 := [.int (nI a), .int (abF (((nI a) / 8) - ((nI b) / 8)))]) (w3 := w) rfl rfl ?_
    refine sx_RP.step (pc2 := 15) (ls2 := [(0, .int (nI a)), (1, .int (nI b))]) (st2 := [.int 8, .int (nI a), .int (abF (((nI a) / 8) - ((nI b) / 8)))]) (w3 := w) rfl rfl ?_
    refine sx_RP.step (pc2 := 16) (ls2 := [(0, .int (nI a)), (1, .int (nI b))]) (st2 := [.int ((nI a) - (nI a) / 8 * 8), .int (abF (((nI a) / 8) - ((nI b) / 8)))]) (w3 := w) rfl rfl ?_
    refine sx_RP.step (pc2 := 17) (ls2 := [(0, .int (nI a)), (1, .int (nI b))]) (st2 := [.int (nI b), .int ((nI a) - (nI a) / 8 * 8), .int (abF (((nI a) / 8) - ((nI b) / 8)))]) (w3 := w) rfl rfl ?_
    refine sx_RP.step (pc2 := 19) (ls2 := [(0, .int (nI a)), (1, .int (nI b))]) (st2 := [.int 8, .int (nI b), .int ((nI a) - (nI a) / 8 * 8), .int (abF (((nI a) / 8) - ((nI b) / 8)))]) (w3 := w) rfl rfl ?_
    refine sx_RP.step (pc2 := 20) (ls2 := [(0, .int (nI a)), (1, .int (nI b))]) (st2 := [.int ((nI b) - (nI b) / 8 * 8), .int ((nI a) - (nI a) / 8 * 8), .int (abF (((nI a) / 8) - ((nI b) / 8)))]) (w3 := w) rfl rfl ?_
    refine sx_RP.step (pc2 := 21) (ls2 := [(0, .int (nI a)), (1, .int (nI b))]) (st2 := [.int (((nI a) - (nI a) / 8 * 8) - ((nI b) - (nI b) / 8 * 8)), .int (abF (((nI a) / 8) - ((nI b) / 8)))]) (w3 := w) rfl rfl ?_
    refine sx_RP.cu (as := [.int (((nI a) - (nI a) / 8 * 8) - ((nI b) - (nI b) / 8 * 8))]) (rest2 := [.int (abF (((nI a) / 8) - ((nI b) / 8)))]) (st3 := [.int (abF (((nI a) - (nI a) / 8 * 8) - ((nI b) - (nI b) / 8 * 8))), .int (abF (((nI a) / 8) - ((nI b) / 8)))]) rfl rfl rfl rfl rfl (x47 hI _) rfl ?_
    refine sx_RP.step (pc2 := 25) (ls2 := [(0, .int (nI a)), (1, .int (nI b))]) (st2 := [.int ((abF (((nI a) / 8) - ((nI b) / 8))) + (abF (((nI a) - (nI a) / 8 * 8) - ((nI b) - (nI b) / 8 * 8))))]) (w3 := w) rfl rfl ?_
    refine sx_RP.ret (r := (some (.int ((abF (((nI a) / 8) - ((nI b) / 8))) + (abF (((nI a) - (nI a) / 8 * 8) - ((nI b) - (nI b) / 8 * 8))))))) rfl rfl ?_
    exact ⟨rfl, rfl⟩
  obtain ⟨r9, w2, h1, rfl, rfl⟩ := h
  exact h1
set_option maxRecDepth 20000 in
set_option maxHeartbeats 4000000 in
theorem x200 {xs : Option (List Int32)} {d : Nat} {w : List sx_C} (hI : WI w) (a b : Nat) : sx_RU xs d 200 0 (lv_args 0 [.int (nI a), .int (nI b)]) [] w (some (.int (apF a b))) w := by
  have h : sx_RP xs d 200 0 (lv_args 0 [.int (nI a), .int (nI b)]) [] w (fun r9 w2 => r9 = some (.int (apF a b)) ∧ w2 = w) := by
    refine sx_RP.step (pc2 := 1) (ls2 := [(0, .int (nI a)), (1, .int (nI b))]) (st2 := [.int (nI a)]) (w3 := w) rfl rfl ?_
    refine sx_RP.step (pc2 := 3) (ls2 := [(0, .int (nI a)), (1, .int (nI b))]) (st2 := [.int 8, .int (nI a)]) (w3 := w) rfl rfl ?_
    refine sx_RP.step (pc2 := 4) (ls2 := [(0, .int (nI a)), (1, .int (nI b))]) (st2 := [.int ((nI a) / 8)]) (w3 := w) rfl rfl ?_
    refine sx_RP.step (pc2 := 5) (ls2 := [(0, .int (nI a)), (1, .int (nI b))]) (st2 := [.int (nI b), .int ((nI a) / 8)]) (w3 := w) rfl rfl ?_
    refine sx_RP.step (pc2 := 7) (ls2 := [(0, .int (nI a)), (1, .int (nI b))]) (st2 := [.int 8, .int (nI b), .int ((nI a) / 8)]) (w3 := w) rfl rfl ?_
    refine sx_RP.step (pc2 := 8) (ls2 := [(0, .int (nI a)), (1, .int (nI b))]) (st2 := [.int ((nI b) / 8), .int ((nI a) / 8)]) (w3 := w) rfl rfl ?_
    refine sx_RP.step (pc2 := 9) (ls2 := [(0, .int (nI a)), (1, .int (nI b))]) (st2 := [.int (((nI a) / 8) - ((nI b) / 8))]) (w3 := w) rfl rfl ?_
    refine sx_RP.step (pc2 := 10) (ls2 := [(2, .int (((nI a) / 8) - ((nI b) / 8))), (0, .int (nI a)), (1, .int (nI b))]) (st2 := []) (w3 := w) rfl rfl ?_
    refine sx_RP.step (pc2 := 11) (ls2 := [(2, .int (((nI a) / 8) - ((nI b) / 8))), (0, .int (nI a)), (1, .int (nI b))]) (st2 := [.int (nI a)]) (w3 := w) rfl rfl ?_
    refine sx_RP.step (pc2 := 13) (ls2 := [(2, .int (((nI a) / 8) - ((nI b) / 8))), (0, .int (nI a)), (1, .int (nI b))]) (st2 := [.int 8, .int (nI a)]) (w3 := w) rfl rfl ?_
    refine sx_RP.step (pc2 := 14) (ls2 := [(2, .int (((nI a) / 8) - ((nI b) / 8))), (0, .int (nI a)), (1, .int (nI b))]) (st2 := [.int ((nI a) - (nI a) / 8 * 8)]) (w3 := w) rfl rfl ?_
    refine sx_RP.step (pc2 := 15) (ls2 := [(2, .int (((nI a) / 8) - ((nI b) / 8))), (0, .int (nI a)), (1, .int (nI b))]) (st2 := [.int (nI b), .int ((nI a) - (nI a) / 8 * 8)]) (w3 := w) rfl rfl ?_
    refine sx_RP.step (pc2 := 17) (ls2 := [(2, .int (((nI a) / 8) - ((nI b) / 8))), (0, .int (nI a)), (1, .int (nI b))]) (st2 := [.int 8, .int (nI b), .int ((nI a) - (nI a) / 8 * 8)]) (w3 := w) rfl rfl ?_
    refine sx_RP.step (pc2 := 18) (ls2 := [(2, .int (((nI a) / 8) - ((nI b) / 8))), (0, .int (nI a)), (1, .int (nI b))]) (st2 := [.int ((nI b) - (nI b) / 8 * 8), .int ((nI a) - (nI a) / 8 * 8)]) (w3 := w) rfl rfl ?_
    refine sx_RP.step (pc2 := 19) (ls2 := [(2, .int (((nI a) / 8) - ((nI b) / 8))), (0, .int (nI a)), (1, .int (nI b))]) (st2 := [.int (((nI a) - (nI a) / 8 * 8) - ((nI b) - (nI b) / 8 * 8))]) (w3 := w) rfl rfl ?_
    refine sx_RP.step (pc2 := 20) (ls2 := [(3, .int (((nI a) - (nI a) / 8 * 8) - ((nI b) - (nI b) / 8 * 8))), (2, .int (((nI a) / 8) - ((nI b) / 8))), (0, .int (nI a)), (1, .int (nI b))]) (st2 := []) (w3 := w) rfl rfl ?_
    refine sx_RP.step (pc2 := 21) (ls2 := [(3, .int (((nI a) - (nI a) / 8 * 8) - ((nI b) - (nI b) / 8 * 8))), (2, .int (((nI a) / 8) - ((nI b) / 8))), (0, .int (nI a)), (1, .int (nI b))]) (st2 := [.int (((nI a) / 8) - ((nI b) / 8))]) (w3 := w) rfl rfl ?_
    refine sx_RP.br (p1 := 29) (l1 := [(3, .int (((nI a) - (nI a) / 8 * 8) - ((nI b) - (nI b) / 8 * 8))), (2, .int (((nI a) / 8) - ((nI b) / 8))), (0, .int (nI a)), (1, .int (nI b))]) (s1 := []) (v1 := w) (p2 := 24) (l2 := [(3, .int (((nI a) - (nI a) / 8 * 8) - ((nI b) - (nI b) / 8 * 8))), (2, .int (((nI a) / 8) - ((nI b) / 8))), (0, .int (nI a)), (1, .int (nI b))]) (s2 := []) (v2 := w) rfl rfl (fun q1 => ?_) (fun q1 => ?_)
    · replace q1 := of_decide_eq_true q1
      refine sx_RP.step (pc2 := 30) (ls2 := [(3, .int (((nI a) - (nI a) / 8 * 8) - ((nI b) - (nI b) / 8 * 8))), (2, .int (((nI a) / 8) - ((nI b) / 8))), (0, .int (nI a)), (1, .int (nI b))]) (st2 := [.int (((nI a) / 8) - ((nI b) / 8))]) (w3 := w) rfl rfl ?_
      refine sx_RP.step (pc2 := 31) (ls2 := [(3, .int (((nI a) - (nI a) / 8 * 8) - ((nI b) - (nI b) / 8 * 8))), (2, .int (((nI a) / 8) - ((nI b) / 8))), (0, .int (nI a)), (1, .int (nI b))]) (st2 := [.int (((nI a) - (nI a) / 8 * 8) - ((nI b) - (nI b) / 8 * 8)), .int (((nI a) / 8) - ((nI b) / 8))]) (w3 := w) rfl rfl ?_
      refine sx_RP.br (p1 := 39) (l1 := [(3, .int (((nI a) - (nI a) / 8 * 8) - ((nI b) - (nI b) / 8 * 8))), (2, .int (((nI a) / 8) - ((nI b) / 8))), (0, .int (nI a)), (1, .int (nI b))]) (s1 := [.int (((nI a) / 8) - ((nI b) / 8))]) (v1 := w) (p2 := 34) (l2 := [(3, .int (((nI a) - (nI a) / 8 * 8) - ((nI b) - (nI b) / 8 * 8))), (2, .int (((nI a) / 8) - ((nI b) / 8))), (0, .int (nI a)), (1, .int (nI b))]) (s2 := [.int (((nI a) / 8) - ((nI b) / 8))]) (v2 := w) rfl rfl (fun q2 => ?_) (fun q2 => ?_)
      · replace q2 := of_decide_eq_true q2
        refine sx_RP.step (pc2 := 40) (ls2 := [(3, .int (((nI a) - (nI a) / 8 * 8) - ((nI b) - (nI b) / 8 * 8))), (2, .int (((nI a) / 8) - ((nI b) / 8))), (0, .int (nI a)), (1, .int (nI b))]) (st2 := [.int (((nI a) - (nI a) / 8 * 8) - ((nI b) - (nI b) / 8 * 8)), .int (((nI a) / 8) - ((nI b) / 8))]) (w3 := w) rfl rfl ?_
        refine sx_RP.step (pc2 := 41) (ls2 := [(3, .int (((nI a) - (nI a) / 8 * 8) - ((nI b) - (nI b) / 8 * 8))), (2, .int (((nI a) / 8) - ((nI b) / 8))), (0, .int (nI a)), (1, .int (nI b))]) (st2 := [.int ((((nI a) / 8) - ((nI b) / 8)) + (((nI a) - (nI a) / 8 * 8) - ((nI b) - (nI b) / 8 * 8)))]) (w3 := w) rfl rfl ?_
        refine sx_RP.ret (r := (some (.int ((((nI a) / 8) - ((nI b) / 8)) + (((nI a) - (nI a) / 8 * 8) - ((nI b) - (nI b) / 8 * 8)))))) rfl rfl ?_
        exact ⟨by unfold apF abF; rw [if_neg (Int32.not_lt.mpr q1), if_neg (Int32.not_lt.mpr q2)], rfl⟩
      · replace q2 := of_decide_eq_false q2
        refine sx_RP.step (pc2 := 35) (ls2 := [(3, .int (((nI a) - (nI a) / 8 * 8) - ((nI b) - (nI b) / 8 * 8))), (2, .int (((nI a) / 8) - ((nI b) / 8))), (0, .int (nI a)), (1, .int (nI b))]) (st2 := [.int (((nI a) - (nI a) / 8 * 8) - ((nI b) - (nI b) / 8 * 8)), .int (((nI a) / 8) - ((nI b) / 8))]) (w3 := w) rfl rfl ?_
        refine sx_RP.step (pc2 := 36) (ls2 := [(3, .int (((nI a) - (nI a) / 8 * 8) - ((nI b) - (nI b) / 8 * 8))), (2, .int (((nI a) / 8) - ((nI b) / 8))), (0, .int (nI a)), (1, .int (nI b))]) (st2 := [.int (-(((nI a) - (nI a) / 8 * 8) - ((nI b) - (nI b) / 8 * 8))), .int (((nI a) / 8) - ((nI b) / 8))]) (w3 := w) rfl rfl ?_
        refine sx_RP.step (pc2 := 40) (ls2 := [(3, .int (((nI a) - (nI a) / 8 * 8) - ((nI b) - (nI b) / 8 * 8))), (2, .int (((nI a) / 8) - ((nI b) / 8))), (0, .int (nI a)), (1, .int (nI b))]) (st2 := [.int (-(((nI a) - (nI a) / 8 * 8) - ((nI b) - (nI b) / 8 * 8))), .int (((nI a) / 8) - ((nI b) / 8))]) (w3 := w) rfl rfl ?_
        refine sx_RP.step (pc2 := 41) (ls2 := [(3, .int (((nI a) - (nI a) / 8 * 8) - ((nI b) - (nI b) / 8 * 8))), (2, .int (((nI a) / 8) - ((nI b) / 8))), (0, .int (nI a)), (1, .int (nI b))]) (st2 := [.int ((((nI a) / 8) - ((nI b) / 8)) + (-(((nI a) - (nI a) / 8 * 8) - ((nI b) - (nI b) / 8 * 8))))]) (w3 := w) rfl rfl ?_
        refine sx_RP.ret (r := (some (.int ((((nI a) / 8) - ((nI b) / 8)) + (-(((nI a) - (nI a) / 8 * 8) - ((nI b) - (nI b) / 8 * 8))))))) rfl rfl ?_
        exact ⟨by unfold apF abF; rw [if_neg (Int32.not_lt.mpr q1), if_pos (Int32.not_le.mp q2)], rfl⟩
    · replace q1 := of_decide_eq_false q1
      refine sx_RP.step (pc2 := 25) (ls2 := [(3, .int (((nI a) - (nI a) / 8 * 8) - ((nI b) - (nI b) / 8 * 8))), (2, .int (((nI a) / 8) - ((nI b) / 8))), (0, .int (nI a)), (1, .int (nI b))]) (st2 := [.int (((nI a) / 8) - ((nI b) / 8))]) (w3 := w) rfl rfl ?_
      refine sx_RP.step (pc2 := 26) (ls2 := [(3, .int (((nI a) - (nI a) / 8 * 8) - ((nI b) - (nI b) / 8 * 8))), (2, .int (((nI a) / 8) - ((nI b) / 8))), (0, .int (nI a)), (1, .int (nI b))]) (st2 := [.int (-(((nI a) / 8) - ((nI b) / 8)))]) (w3 := w) rfl rfl ?_
      refine sx_RP.step (pc2 := 30) (ls2 := [(3, .int (((nI a) - (nI a) / 8 * 8) - ((nI b) - (nI b) / 8 * 8))), (2, .int (((nI a) / 8) - ((nI b) / 8))), (0, .int (nI a)), (1, .int (nI b))]) (st2 := [.int (-(((nI a) / 8) - ((nI b) / 8)))]) (w3 := w) rfl rfl ?_
      refine sx_RP.step (pc2 := 31) (ls2 := [(3, .int (((nI a) - (nI a) / 8 * 8) - ((nI b) - (nI b) / 8 * 8))), (2, .int (((nI a) / 8) - ((nI b) / 8))), (0, .int (nI a)), (1, .int (nI b))]) (st2 := [.int (((nI a) - (nI a) / 8 * 8) - ((nI b) - (nI b) / 8 * 8)), .int (-(((nI a) / 8) - ((nI b) / 8)))]) (w3 := w) rfl rfl ?_
      refine sx_RP.br (p1 := 39) (l1 := [(3, .int (((nI a) - (nI a) / 8 * 8) - ((nI b) - (nI b) / 8 * 8))), (2, .int (((nI a) / 8) - ((nI b) / 8))), (0, .int (nI a)), (1, .int (nI b))]) (s1 := [.int (-(((nI a) / 8) - ((nI b) / 8)))]) (v1 := w) (p2 := 34) (l2 := [(3, .int (((nI a) - (nI a) / 8 * 8) - ((nI b) - (nI b) / 8 * 8))), (2, .int (((nI a) / 8) - ((nI b) / 8))), (0, .int (nI a)), (1, .int (nI b))]) (s2 := [.int (-(((nI a) / 8) - ((nI b) / 8)))]) (v2 := w) rfl rfl (fun q3 => ?_) (fun q3 => ?_)
      · replace q3 := of_decide_eq_true q3
        refine sx_RP.step (pc2 := 40) (ls2 := [(3, .int (((nI a) - (nI a) / 8 * 8) - ((nI b) - (nI b) / 8 * 8))), (2, .int (((nI a) / 8) - ((nI b) / 8))), (0, .int (nI a)), (1, .int (nI b))]) (st2 := [.int (((nI a) - (nI a) / 8 * 8) - ((nI b) - (nI b) / 8 * 8)), .int (-(((nI a) / 8) - ((nI b) / 8)))]) (w3 := w) rfl rfl ?_
        refine sx_RP.step (pc2 := 41) (ls2 := [(3, .int (((nI a) - (nI a) / 8 * 8) - ((nI b) - (nI b) / 8 * 8))), (2, .int (((nI a) / 8) - ((nI b) / 8))), (0, .int (nI a)), (1, .int (nI b))]) (st2 := [.int ((-(((nI a) / 8) - ((nI b) / 8))) + (((nI a) - (nI a) / 8 * 8) - ((nI b) - (nI b) / 8 * 8)))]) (w3 := w) rfl rfl ?_
        refine sx_RP.ret (r := (some (.int ((-(((nI a) / 8) - ((nI b) / 8))) + (((nI a) - (nI a) / 8 * 8) - ((nI b) - (nI b) / 8 * 8)))))) rfl rfl ?_
        exact ⟨by unfold apF abF; rw [if_pos (Int32.not_le.mp q1), if_neg (Int32.not_lt.mpr q3)], rfl⟩
      · replace q3 := of_decide_eq_false q3
        refine sx_RP.step (pc2 := 35) (ls2 := [(3, .int (((nI a) - (nI a) / 8 * 8) - ((nI b) - (nI b) / 8 * 8))), (2, .int (((nI a) / 8) - ((nI b) / 8))), (0, .int (nI a)), (1, .int (nI b))]) (st2 := [.int (((nI a) - (nI a) / 8 * 8) - ((nI b) - (nI b) / 8 * 8)), .int (-(((nI a) / 8) - ((nI b) / 8)))]) (w3 := w) rfl rfl ?_
        refine sx_RP.step (pc2 := 36) (ls2 := [(3, .int (((nI a) - (nI a) / 8 * 8) - ((nI b) - (nI b) / 8 * 8))), (2, .int (((nI a) / 8) - ((nI b) / 8))), (0, .int (nI a)), (1, .int (nI b))]) (st2 := [.int (-(((nI a) - (nI a) / 8 * 8) - ((nI b) - (nI b) / 8 * 8))), .int (-(((nI a) / 8) - ((nI b) / 8)))]) (w3 := w) rfl rfl ?_
        refine sx_RP.step (pc2 := 40) (ls2 := [(3, .int (((nI a) - (nI a) / 8 * 8) - ((nI b) - (nI b) / 8 * 8))), (2, .int (((nI a) / 8) - ((nI b) / 8))), (0, .int (nI a)), (1, .int (nI b))]) (st2 := [.int (-(((nI a) - (nI a) / 8 * 8) - ((nI b) - (nI b) / 8 * 8))), .int (-(((nI a) / 8) - ((nI b) / 8)))]) (w3 := w) rfl rfl ?_
        refine sx_RP.step (pc2 := 41) (ls2 := [(3, .int (((nI a) - (nI a) / 8 * 8) - ((nI b) - (nI b) / 8 * 8))), (2, .int (((nI a) / 8) - ((nI b) / 8))), (0, .int (nI a)), (1, .int (nI b))]) (st2 := [.int ((-(((nI a) / 8) - ((nI b) / 8))) + (-(((nI a) - (nI a) / 8 * 8) - ((nI b) - (nI b) / 8 * 8))))]) (w3 := w) rfl rfl ?_
        refine sx_RP.ret (r := (some (.int ((-(((nI a) / 8) - ((nI b) / 8))) + (-(((nI a) - (nI a) / 8 * 8) - ((nI b) - (nI b) / 8 * 8))))))) rfl rfl ?_
        exact ⟨by unfold apF abF; rw [if_pos (Int32.not_le.mp q1), if_pos (Int32.not_le.mp q3)], rfl⟩
  obtain ⟨r9, w2, h1, rfl, rfl⟩ := h
  exact h1
set_option maxRecDepth 20000 in
set_option maxHeartbeats 4000000 in
theorem x38 {xs : Option (List Int32)} {d : Nat} {w : List sx_C} (hI : WI w) {k s : Nat} (hk : k ≤ 5) (hs : s ≤ 3) : sx_RU xs (d + 1) 38 0 (lv_args 0 [.int (nI k), .int (nI s)]) [] w (some (.int (b01 (fmB k s)))) w := by
  have h : sx_RP xs (d + 1) 38 0 (lv_args 0 [.int (nI k), .int (nI s)]) [] w (fun r9 w2 => r9 = some (.int (b01 (fmB k s))) ∧ w2 = w) := by
    refine sx_RP.step (pc2 := 1) (ls2 := [(0, .int (nI k)), (1, .int (nI s))]) (st2 := [.int (nI s)]) (w3 := w) rfl rfl ?_
    refine sx_RP.step (pc2 := 2) (ls2 := [(0, .int (nI k)), (1, .int (nI s))]) (st2 := [.int 1, .int (nI s)]) (w3 := w) rfl rfl ?_
    refine sx_RP.br (p1 := 13) (l1 := [(0, .int (nI k)), (1, .int (nI s))]) (s1 := []) (v1 := w) (p2 := 5) (l2 := [(0, .int (nI k)), (1, .int (nI s))]) (s2 := []) (v2 := w) rfl rfl (fun q1 => ?_) (fun q1 => ?_)
    · replace q1 := of_decide_eq_true q1
      replace q1 := mt (nI_eq (a := s) (b := 1) (by omega) (by omega)).mpr q1
      refine sx_RP.step (pc2 := 14) (ls2 := [(0, .int (nI k)), (1, .int (nI s))]) (st2 := [.int 1]) (w3 := w) rfl rfl ?_
      refine sx_RP.step (pc2 := 18) (ls2 := [(0, .int (nI k)), (1, .int (nI s))]) (st2 := [.int 1]) (w3 := w) rfl rfl ?_
      refine sx_RP.ret (r := (some (.int 1))) rfl rfl ?_
      exact ⟨by unfold fmB; rw [show (s == 1) = false from beq_false_of_ne q1]; rfl, rfl⟩
    · replace q1 := Decidable.not_not.mp (of_decide_eq_false q1)
      replace q1 := (nI_eq (a := s) (b := 1) (by omega) (by omega)).mp q1
      refine sx_RP.step (pc2 := 6) (ls2 := [(0, .int (nI k)), (1, .int (nI s))]) (st2 := [.int (nI k)]) (w3 := w) rfl rfl ?_
      refine sx_RP.step (pc2 := 7) (ls2 := [(0, .int (nI k)), (1, .int (nI s))]) (st2 := [.int 1, .int (nI k)]) (w3 := w) rfl rfl ?_
      rcases Bool.eq_false_or_eq_true (prB k) with hp | hp
      · refine sx_RP.cu (as := [.int (nI k), .int 1]) (rest2 := []) (st3 := [.int 1]) rfl rfl rfl rfl rfl ((by have z := frI_ok (t31 k (by omega) 1 (by decide)) xs d w; rw [show unB k 1 = prB k from rfl, hp] at z; exact z)) rfl ?_
        refine sx_RP.step (pc2 := 13) (ls2 := [(0, .int (nI k)), (1, .int (nI s))]) (st2 := []) (w3 := w) rfl rfl ?_
        refine sx_RP.step (pc2 := 14) (ls2 := [(0, .int (nI k)), (1, .int (nI s))]) (st2 := [.int 1]) (w3 := w) rfl rfl ?_
        refine sx_RP.step (pc2 := 18) (ls2 := [(0, .int (nI k)), (1, .int (nI s))]) (st2 := [.int 1]) (w3 := w) rfl rfl ?_
        refine sx_RP.ret (r := (some (.int 1))) rfl rfl ?_
        exact ⟨by unfold fmB; rw [show (s == 1) = true from beq_iff_eq.mpr q1, hp]; rfl, rfl⟩
      · refine sx_RP.cu (as := [.int (nI k), .int 1]) (rest2 := []) (st3 := [.int 0]) rfl rfl rfl rfl rfl ((by have z := frI_ok (t31 k (by omega) 1 (by decide)) xs d w; rw [show unB k 1 = prB k from rfl, hp] at z; exact z)) rfl ?_
        refine sx_RP.step (pc2 := 17) (ls2 := [(0, .int (nI k)), (1, .int (nI s))]) (st2 := []) (w3 := w) rfl rfl ?_
        refine sx_RP.step (pc2 := 18) (ls2 := [(0, .int (nI k)), (1, .int (nI s))]) (st2 := [.int 0]) (w3 := w) rfl rfl ?_
        refine sx_RP.ret (r := (some (.int 0))) rfl rfl ?_
        exact ⟨by unfold fmB; rw [show (s == 1) = true from beq_iff_eq.mpr q1, hp]; rfl, rfl⟩
  obtain ⟨r9, w2, h1, rfl, rfl⟩ := h
  exact h1
theorem b01_r37 (b : Bool) : sx_ret 37 .ireturn [.int (b01 b)] = some (some (.int (b01 b))) := by cases b <;> rfl
set_option maxRecDepth 20000 in
set_option maxHeartbeats 4000000 in
theorem x37 {xs : Option (List Int32)} {d : Nat} {w : List sx_C} (hI : WI w) {A : Nat} (hA : isA A) {k c : Nat} (hk : k ≤ 5) (hc : c < 48) : sx_RU xs (d + 2) 37 0 (lv_args 0 [.ref A, .int (nI k), .int (nI c)]) [] w (some (.int (b01 (fmB k (iN ((ia w (A + 1)).getD c 0)))))) w := by
  have h : sx_RP xs (d + 2) 37 0 (lv_args 0 [.ref A, .int (nI k), .int (nI c)]) [] w (fun r9 w2 => r9 = some (.int (b01 (fmB k (iN ((ia w (A + 1)).getD c 0))))) ∧ w2 = w) := by
    refine sx_RP.step (pc2 := 1) (ls2 := [(0, .ref A), (1, .int (nI k)), (2, .int (nI c))]) (st2 := [.int (nI k)]) (w3 := w) rfl rfl ?_
    refine sx_RP.step (pc2 := 2) (ls2 := [(0, .ref A), (1, .int (nI k)), (2, .int (nI c))]) (st2 := [.ref A, .int (nI k)]) (w3 := w) rfl rfl ?_
    refine sx_RP.gref (k := 0) (b := A + 1) hI hA rfl rfl (by omega) (show _ = 5 from rfl) ?_
    refine sx_RP.step (pc2 := 6) (ls2 := [(0, .ref A), (1, .int (nI k)), (2, .int (nI c))]) (st2 := [.int (nI c), .ref (A + 1), .int (nI k)]) (w3 := w) rfl rfl ?_
    refine sx_RP.ild (c := c) rfl (hI.1.aS hA).1 (hI.1.aS hA).2 (sx_in_nI (show c < 48 by omega) (by decide)) (show (nI c).toNatClampNeg = c from nI_clamp (by omega)) (show _ = 7 from rfl) ?_
    obtain ⟨x1, hx2, ex3⟩ : inR ((ia w (A + 1)).getD c 0) 3 := hI.st hA (show c < 48 by omega)
    rw [ex3]
    refine sx_RP.cu (as := [.int (nI k), .int (nI x1)]) (rest2 := []) (st3 := [.int (b01 (fmB k x1))]) rfl rfl rfl rfl rfl (x38 hI hk (show x1 ≤ 3 by omega)) rfl ?_
    refine sx_RP.ret (r := (some (.int (b01 (fmB k x1))))) rfl (b01_r37 _) ?_
    exact ⟨by rw [iN_n (by omega)], rfl⟩
  obtain ⟨r9, w2, h1, rfl, rfl⟩ := h
  exact h1
set_option maxRecDepth 20000 in
set_option maxHeartbeats 4000000 in
theorem x35 {xs : Option (List Int32)} {d : Nat} {w : List sx_C} (hI : WI w) {A : Nat} (hA : isA A) {k c : Nat} (hk : k ≤ 5) (hc : c < 48) : sx_RU xs (d + 1) 35 0 (lv_args 0 [.ref A, .int (nI k), .int (nI c)]) [] w (some (.int (ldV k (iN ((ia w (A + 1)).getD c 0))))) w := by
  have h : sx_RP xs (d + 1) 35 0 (lv_args 0 [.ref A, .int (nI k), .int (nI c)]) [] w (fun r9 w2 => r9 = some (.int (ldV k (iN ((ia w (A + 1)).getD c 0)))) ∧ w2 = w) := by
    refine sx_RP.step (pc2 := 1) (ls2 := [(0, .ref A), (1, .int (nI k)), (2, .int (nI c))]) (st2 := [.int (nI k)]) (w3 := w) rfl rfl ?_
    refine sx_RP.step (pc2 := 2) (ls2 := [(0, .ref A), (1, .int (nI k)), (2, .int (nI c))]) (st2 := [.ref A, .int (nI k)]) (w3 := w) rfl rfl ?_
    refine sx_RP.gref (k := 0) (b := A + 1) hI hA rfl rfl (by omega) (show _ = 5 from rfl) ?_
    refine sx_RP.step (pc2 := 6) (ls2 := [(0, .ref A), (1, .int (nI k)), (2, .int (nI c))]) (st2 := [.int (nI c), .ref (A + 1), .int (nI k)]) (w3 := w) rfl rfl ?_
    refine sx_RP.ild (c := c) rfl (hI.1.aS hA).1 (hI.1.aS hA).2 (sx_in_nI (show c < 48 by omega) (by decide)) (show (nI c).toNatClampNeg = c from nI_clamp (by omega)) (show _ = 7 from rfl) ?_
    obtain ⟨x1, hx2, ex3⟩ : inR ((ia w (A + 1)).getD c 0) 3 := hI.st hA (show c < 48 by omega)
    rw [ex3]
    refine sx_RP.cu (as := [.int (nI k), .int (nI x1)]) (rest2 := []) (st3 := [.int (ldV k x1)]) rfl rfl rfl rfl rfl (frI_ok (t36 k (by omega) x1 (by omega)) _ _ _) rfl ?_
    refine sx_RP.ret (r := (some (.int (ldV k x1)))) rfl rfl ?_
    exact ⟨by rw [iN_n (by omega)], rfl⟩
  obtain ⟨r9, w2, h1, rfl, rfl⟩ := h
  exact h1
set_option maxRecDepth 20000 in
set_option maxHeartbeats 4000000 in
theorem x33 {xs : Option (List Int32)} {d : Nat} {w : List sx_C} (hI : WI w) {A : Nat} (hA : isA A) {k c : Nat} (hk : k ≤ 5) (hc : c < 48) : sx_RU xs (d + 1) 33 0 (lv_args 0 [.ref A, .int (nI k), .int (nI c)]) [] w (some (.int (tmV k (iN ((ia w (A + 1)).getD c 0)) (b01 (bitL (fj w A 1) c))))) w := by
  have h : sx_RP xs (d + 1) 33 0 (lv_args 0 [.ref A, .int (nI k), .int (nI c)]) [] w (fun r9 w2 => r9 = some (.int (tmV k (iN ((ia w (A + 1)).getD c 0)) (b01 (bitL (fj w A 1) c)))) ∧ w2 = w) := by
    refine sx_RP.step (pc2 := 1) (ls2 := [(0, .ref A), (1, .int (nI k)), (2, .int (nI c))]) (st2 := [.int (nI k)]) (w3 := w) rfl rfl ?_
    refine sx_RP.step (pc2 := 2) (ls2 := [(0, .ref A), (1, .int (nI k)), (2, .int (nI c))]) (st2 := [.ref A, .int (nI k)]) (w3 := w) rfl rfl ?_
    refine sx_RP.gref (k := 0) (b := A + 1) hI hA rfl rfl (by omega) (show _ = 5 from rfl) ?_
    refine sx_RP.step (pc2 := 6) (ls2 := [(0, .ref A), (1, .int (nI k)), (2, .int (nI c))]) (st2 := [.int (nI c), .ref (A + 1), .int (nI k)]) (w3 := w) rfl rfl ?_
    refine sx_RP.ild (c := c) rfl (hI.1.aS hA).1 (hI.1.aS hA).2 (sx_in_nI (show c < 48 by omega) (by decide)) (show (nI c).toNatClampNeg = c from nI_clamp (by omega)) (show _ = 7 from rfl) ?_
    obtain ⟨x1, hx2, ex3⟩ : inR ((ia w (A + 1)).getD c 0) 3 := hI.st hA (show c < 48 by omega)
    rw [ex3]
    refine sx_RP.step (pc2 := 8) (ls2 := [(0, .ref A), (1, .int (nI k)), (2, .int (nI c))]) (st2 := [.ref A, .int (nI x1), .int (nI k)]) (w3 := w) rfl rfl ?_
    refine sx_RP.step (pc2 := 9) (ls2 := [(0, .ref A), (1, .int (nI k)), (2, .int (nI c))]) (st2 := [.int (nI c), .ref A, .int (nI x1), .int (nI k)]) (w3 := w) rfl rfl ?_
    rcases Bool.eq_false_or_eq_true (bitL (fj w A 1) c) with hb | hb
    · refine sx_RP.cu (as := [.ref A, .int (nI c)]) (rest2 := [.int (nI x1), .int (nI k)]) (st3 := [.int 1, .int (nI x1), .int (nI k)]) rfl rfl (sx_inv_v2 (mi := 33) (k := 86) (st := [.int (nI c), .ref A, .int (nI x1), .int (nI k)]) (w := w) rfl rfl (hI.1.oC hA) rfl rfl rfl) rfl rfl (x11t hI hA hc hb) rfl ?_
      refine sx_RP.cu (as := [.int (nI k), .int (nI x1), .int 1]) (rest2 := []) (st3 := [.int (tmV k x1 (nI 1))]) rfl rfl rfl rfl rfl (frI_ok (t34 k (by omega) x1 (by omega) 1 (by decide)) _ _ _) rfl ?_
      refine sx_RP.ret (r := (some (.int (tmV k x1 (nI 1))))) rfl rfl ?_
      exact ⟨by rw [iN_n (by omega), hb]; rfl, rfl⟩
    · refine sx_RP.cu (as := [.ref A, .int (nI c)]) (rest2 := [.int (nI x1), .int (nI k)]) (st3 := [.int 0, .int (nI x1), .int (nI k)]) rfl rfl (sx_inv_v2 (mi := 33) (k := 86) (st := [.int (nI c), .ref A, .int (nI x1), .int (nI k)]) (w := w) rfl rfl (hI.1.oC hA) rfl rfl rfl) rfl rfl (x11f hI hA hc hb) rfl ?_
      refine sx_RP.cu (as := [.int (nI k), .int (nI x1), .int 0]) (rest2 := []) (st3 := [.int (tmV k x1 (nI 0))]) rfl rfl rfl rfl rfl (frI_ok (t34 k (by omega) x1 (by omega) 0 (by decide)) _ _ _) rfl ?_
      refine sx_RP.ret (r := (some (.int (tmV k x1 (nI 0))))) rfl rfl ?_
      exact ⟨by rw [iN_n (by omega), hb]; rfl, rfl⟩
  obtain ⟨r9, w2, h1, rfl, rfl⟩ := h
  exact h1
set_option maxRecDepth 20000 in
set_option maxHeartbeats 4000000 in
theorem x40y {xs : Option (List Int32)} {d : Nat} {w : List sx_C} (hI : WI w) {A : Nat} (hA : isA A) {x : Int32} (hh : fi w A 6 + x ≤ 999) : sx_RU xs d 40 0 (lv_args 0 [.ref A, .int x]) [] w (some (.int (1))) w := by
  have h : sx_RP xs d 40 0 (lv_args 0 [.ref A, .int x]) [] w (fun r9 w2 => r9 = some (.int (1)) ∧ w2 = w) := by
    refine sx_RP.step (pc2 := 1) (ls2 := [(0, .ref A), (1, .int x)]) (st2 := [.ref A]) (w3 := w) rfl rfl ?_
    refine sx_RP.gc (k := 6) hI hA rfl rfl (by omega) (show _ = 4 from rfl) ?_
    refine sx_RP.step (pc2 := 5) (ls2 := [(0, .ref A), (1, .int x)]) (st2 := [.int x, .int (fi w A 6)]) (w3 := w) rfl rfl ?_
    refine sx_RP.step (pc2 := 6) (ls2 := [(0, .ref A), (1, .int x)]) (st2 := [.int ((fi w A 6) + x)]) (w3 := w) rfl rfl ?_
    refine sx_RP.step (pc2 := 9) (ls2 := [(0, .ref A), (1, .int x)]) (st2 := [.int 999, .int ((fi w A 6) + x)]) (w3 := w) rfl rfl ?_
    refine sx_RP.br (p2 := 12) (l2 := [(0, .ref A), (1, .int x)]) (s2 := []) (v2 := w) rfl rfl (fun q => absurd (of_decide_eq_true q) (fun z => absurd hh (Int32.not_le.mpr z))) (fun _ => ?_)
    refine sx_RP.step (pc2 := 13) (ls2 := [(0, .ref A), (1, .int x)]) (st2 := [.int 1]) (w3 := w) rfl rfl ?_
    refine sx_RP.step (pc2 := 17) (ls2 := [(0, .ref A), (1, .int x)]) (st2 := [.int 1]) (w3 := w) rfl rfl ?_
    refine sx_RP.ret (r := (some (.int 1))) rfl rfl ?_
    exact ⟨rfl, rfl⟩
  obtain ⟨r9, w2, h1, rfl, rfl⟩ := h
  exact h1
set_option maxRecDepth 20000 in
set_option maxHeartbeats 4000000 in
theorem x40n {xs : Option (List Int32)} {d : Nat} {w : List sx_C} (hI : WI w) {A : Nat} (hA : isA A) {x : Int32} (hh : ¬ fi w A 6 + x ≤ 999) : sx_RU xs d 40 0 (lv_args 0 [.ref A, .int x]) [] w (some (.int (0))) w := by
  have h : sx_RP xs d 40 0 (lv_args 0 [.ref A, .int x]) [] w (fun r9 w2 => r9 = some (.int (0)) ∧ w2 = w) := by
    refine sx_RP.step (pc2 := 1) (ls2 := [(0, .ref A), (1, .int x)]) (st2 := [.ref A]) (w3 := w) rfl rfl ?_
    refine sx_RP.gc (k := 6) hI hA rfl rfl (by omega) (show _ = 4 from rfl) ?_
    refine sx_RP.step (pc2 := 5) (ls2 := [(0, .ref A), (1, .int x)]) (st2 := [.int x, .int (fi w A 6)]) (w3 := w) rfl rfl ?_
    refine sx_RP.step (pc2 := 6) (ls2 := [(0, .ref A), (1, .int x)]) (st2 := [.int ((fi w A 6) + x)]) (w3 := w) rfl rfl ?_
    refine sx_RP.step (pc2 := 9) (ls2 := [(0, .ref A), (1, .int x)]) (st2 := [.int 999, .int ((fi w A 6) + x)]) (w3 := w) rfl rfl ?_
    refine sx_RP.br (p1 := 16) (l1 := [(0, .ref A), (1, .int x)]) (s1 := []) (v1 := w) rfl rfl (fun _ => ?_) (fun q => absurd (Int32.not_le.mp hh) (of_decide_eq_false q))
    refine sx_RP.step (pc2 := 17) (ls2 := [(0, .ref A), (1, .int x)]) (st2 := [.int 0]) (w3 := w) rfl rfl ?_
    refine sx_RP.ret (r := (some (.int 0))) rfl rfl ?_
    exact ⟨rfl, rfl⟩
  obtain ⟨r9, w2, h1, rfl, rfl⟩ := h
  exact h1
set_option maxRecDepth 20000 in
set_option maxHeartbeats 4000000 in
theorem x165n {xs : Option (List Int32)} {d : Nat} {w : List sx_C} (hI : WI w) {x : Int32} (hh : (ia w 112).getD 0 0 + x ≤ 999) : sx_RU xs d 165 0 (lv_args 0 [.ref 111, .int x]) [] w (some (.int (0))) w := by
  have h : sx_RP xs d 165 0 (lv_args 0 [.ref 111, .int x]) [] w (fun r9 w2 => r9 = some (.int (0)) ∧ w2 = w) := by
    refine sx_RP.step (pc2 := 1) (ls2 := [(0, .ref 111), (1, .int x)]) (st2 := [.ref 111]) (w3 := w) rfl rfl ?_
    refine sx_RP.gf (v := .ref 112) rfl rfl hI.1.o111 rfl rfl (show _ = 4 from rfl) ?_
    refine sx_RP.step (pc2 := 5) (ls2 := [(0, .ref 111), (1, .int x)]) (st2 := [.int 0, .ref 112]) (w3 := w) rfl rfl ?_
    refine sx_RP.ild (c := 0) rfl hI.1.a112.1 hI.1.a112.2 (sx_in_nI (show 0 < 172 by omega) (by decide)) (show (nI (0)).toNatClampNeg = 0 from nI_clamp (by omega)) (show _ = 6 from rfl) ?_
    refine sx_RP.step (pc2 := 7) (ls2 := [(0, .ref 111), (1, .int x)]) (st2 := [.int x, .int ((ia w 112).getD (0) 0)]) (w3 := w) rfl rfl ?_
    refine sx_RP.step (pc2 := 8) (ls2 := [(0, .ref 111), (1, .int x)]) (st2 := [.int (((ia w 112).getD (0) 0) + x)]) (w3 := w) rfl rfl ?_
    refine sx_RP.step (pc2 := 11) (ls2 := [(0, .ref 111), (1, .int x)]) (st2 := [.int 999, .int (((ia w 112).getD (0) 0) + x)]) (w3 := w) rfl rfl ?_
    refine sx_RP.br (p1 := 18) (l1 := [(0, .ref 111), (1, .int x)]) (s1 := []) (v1 := w) rfl rfl (fun _ => ?_) (fun q => absurd hh (of_decide_eq_false q))
    refine sx_RP.step (pc2 := 19) (ls2 := [(0, .ref 111), (1, .int x)]) (st2 := [.int 0]) (w3 := w) rfl rfl ?_
    refine sx_RP.ret (r := (some (.int 0))) rfl rfl ?_
    exact ⟨rfl, rfl⟩
  obtain ⟨r9, w2, h1, rfl, rfl⟩ := h
  exact h1
set_option maxRecDepth 20000 in
set_option maxHeartbeats 4000000 in
theorem x165y {xs : Option (List Int32)} {d : Nat} {w : List sx_C} (hI : WI w) {x : Int32} (hh : ¬ (ia w 112).getD 0 0 + x ≤ 999) : sx_RU xs d 165 0 (lv_args 0 [.ref 111, .int x]) [] w (some (.int (1))) w := by
  have h : sx_RP xs d 165 0 (lv_args 0 [.ref 111, .int x]) [] w (fun r9 w2 => r9 = some (.int (1)) ∧ w2 = w) := by
    refine sx_RP.step (pc2 := 1) (ls2 := [(0, .ref 111), (1, .int x)]) (st2 := [.ref 111]) (w3 := w) rfl rfl ?_
    refine sx_RP.gf (v := .ref 112) rfl rfl hI.1.o111 rfl rfl (show _ = 4 from rfl) ?_
    refine sx_RP.step (pc2 := 5) (ls2 := [(0, .ref 111), (1, .int x)]) (st2 := [.int 0, .ref 112]) (w3 := w) rfl rfl ?_
    refine sx_RP.ild (c := 0) rfl hI.1.a112.1 hI.1.a112.2 (sx_in_nI (show 0 < 172 by omega) (by decide)) (show (nI (0)).toNatClampNeg = 0 from nI_clamp (by omega)) (show _ = 6 from rfl) ?_
    refine sx_RP.step (pc2 := 7) (ls2 := [(0, .ref 111), (1, .int x)]) (st2 := [.int x, .int ((ia w 112).getD (0) 0)]) (w3 := w) rfl rfl ?_
    refine sx_RP.step (pc2 := 8) (ls2 := [(0, .ref 111), (1, .int x)]) (st2 := [.int (((ia w 112).getD (0) 0) + x)]) (w3 := w) rfl rfl ?_
    refine sx_RP.step (pc2 := 11) (ls2 := [(0, .ref 111), (1, .int x)]) (st2 := [.int 999, .int (((ia w 112).getD (0) 0) + x)]) (w3 := w) rfl rfl ?_
    refine sx_RP.br (p2 := 14) (l2 := [(0, .ref 111), (1, .int x)]) (s2 := []) (v2 := w) rfl rfl (fun q => absurd (of_decide_eq_true q) hh) (fun _ => ?_)
    refine sx_RP.step (pc2 := 15) (ls2 := [(0, .ref 111), (1, .int x)]) (st2 := [.int 1]) (w3 := w) rfl rfl ?_
    refine sx_RP.step (pc2 := 19) (ls2 := [(0, .ref 111), (1, .int x)]) (st2 := [.int 1]) (w3 := w) rfl rfl ?_
    refine sx_RP.ret (r := (some (.int 1))) rfl rfl ?_
    exact ⟨rfl, rfl⟩
  obtain ⟨r9, w2, h1, rfl, rfl⟩ := h
  exact h1
set_option maxRecDepth 20000 in
set_option maxHeartbeats 4000000 in
theorem x43y {xs : Option (List Int32)} {d : Nat} {w : List sx_C} (hI : WI w) {ga : Nat} (hg : gAd ga) {x : Int32} (hh : fi w ga 1 = x ∧ fi w ga 5 = 0) : sx_RU xs d 43 0 (lv_args 0 [.ref ga, .int x]) [] w (some (.int (1))) w := by
  have h : sx_RP xs d 43 0 (lv_args 0 [.ref ga, .int x]) [] w (fun r9 w2 => r9 = some (.int (1)) ∧ w2 = w) := by
    refine sx_RP.step (pc2 := 1) (ls2 := [(0, .ref ga), (1, .int x)]) (st2 := [.ref ga]) (w3 := w) rfl rfl ?_
    refine sx_RP.gg (k := 1) hI hg rfl rfl (by decide) (show _ = 4 from rfl) ?_
    refine sx_RP.step (pc2 := 5) (ls2 := [(0, .ref ga), (1, .int x)]) (st2 := [.int x, .int (fi w ga 1)]) (w3 := w) rfl rfl ?_
    refine sx_RP.br (p1 := 19) (l1 := [(0, .ref ga), (1, .int x)]) (s1 := []) (v1 := w) (p2 := 8) (l2 := [(0, .ref ga), (1, .int x)]) (s2 := []) (v2 := w) rfl rfl (fun q1 => ?_) (fun q1 => ?_)
    · replace q1 := of_decide_eq_true q1
      refine sx_RP.step (pc2 := 20) (ls2 := [(0, .ref ga), (1, .int x)]) (st2 := [.int 0]) (w3 := w) rfl rfl ?_
      refine sx_RP.ret (r := (some (.int 0))) rfl rfl ?_
      first | exact ⟨rfl, rfl⟩ | exact absurd hh.1 (by assumption) | exact absurd hh.2 (by assumption)
    · replace q1 := Decidable.not_not.mp (of_decide_eq_false q1)
      refine sx_RP.step (pc2 := 9) (ls2 := [(0, .ref ga), (1, .int x)]) (st2 := [.ref ga]) (w3 := w) rfl rfl ?_
      refine sx_RP.gg (k := 5) hI hg rfl rfl (by decide) (show _ = 12 from rfl) ?_
      refine sx_RP.br (p1 := 19) (l1 := [(0, .ref ga), (1, .int x)]) (s1 := []) (v1 := w) (p2 := 15) (l2 := [(0, .ref ga), (1, .int x)]) (s2 := []) (v2 := w) rfl rfl (fun q2 => ?_) (fun q2 => ?_)
      · replace q2 := of_decide_eq_true q2
        refine sx_RP.step (pc2 := 20) (ls2 := [(0, .ref ga), (1, .int x)]) (st2 := [.int 0]) (w3 := w) rfl rfl ?_
        refine sx_RP.ret (r := (some (.int 0))) rfl rfl ?_
        first | exact ⟨rfl, rfl⟩ | exact absurd hh.1 (by assumption) | exact absurd hh.2 (by assumption)
      · replace q2 := Decidable.not_not.mp (of_decide_eq_false q2)
        refine sx_RP.step (pc2 := 16) (ls2 := [(0, .ref ga), (1, .int x)]) (st2 := [.int 1]) (w3 := w) rfl rfl ?_
        refine sx_RP.step (pc2 := 20) (ls2 := [(0, .ref ga), (1, .int x)]) (st2 := [.int 1]) (w3 := w) rfl rfl ?_
        refine sx_RP.ret (r := (some (.int 1))) rfl rfl ?_
        first | exact ⟨rfl, rfl⟩ | exact absurd hh.1 (by assumption) | exact absurd hh.2 (by assumption)
  obtain ⟨r9, w2, h1, rfl, rfl⟩ := h
  exact h1
set_option maxRecDepth 20000 in
set_option maxHeartbeats 4000000 in
theorem x43n {xs : Option (List Int32)} {d : Nat} {w : List sx_C} (hI : WI w) {ga : Nat} (hg : gAd ga) {x : Int32} (hh : ¬ (fi w ga 1 = x ∧ fi w ga 5 = 0)) : sx_RU xs d 43 0 (lv_args 0 [.ref ga, .int x]) [] w (some (.int (0))) w := by
  have h : sx_RP xs d 43 0 (lv_args 0 [.ref ga, .int x]) [] w (fun r9 w2 => r9 = some (.int (0)) ∧ w2 = w) := by
    refine sx_RP.step (pc2 := 1) (ls2 := [(0, .ref ga), (1, .int x)]) (st2 := [.ref ga]) (w3 := w) rfl rfl ?_
    refine sx_RP.gg (k := 1) hI hg rfl rfl (by decide) (show _ = 4 from rfl) ?_
    refine sx_RP.step (pc2 := 5) (ls2 := [(0, .ref ga), (1, .int x)]) (st2 := [.int x, .int (fi w ga 1)]) (w3 := w) rfl rfl ?_
    refine sx_RP.br (p1 := 19) (l1 := [(0, .ref ga), (1, .int x)]) (s1 := []) (v1 := w) (p2 := 8) (l2 := [(0, .ref ga), (1, .int x)]) (s2 := []) (v2 := w) rfl rfl (fun q1 => ?_) (fun q1 => ?_)
    · replace q1 := of_decide_eq_true q1
      refine sx_RP.step (pc2 := 20) (ls2 := [(0, .ref ga), (1, .int x)]) (st2 := [.int 0]) (w3 := w) rfl rfl ?_
      refine sx_RP.ret (r := (some (.int 0))) rfl rfl ?_
      first | exact ⟨rfl, rfl⟩ | exact absurd ⟨by assumption, by assumption⟩ hh
    · replace q1 := Decidable.not_not.mp (of_decide_eq_false q1)
      refine sx_RP.step (pc2 := 9) (ls2 := [(0, .ref ga), (1, .int x)]) (st2 := [.ref ga]) (w3 := w) rfl rfl ?_
      refine sx_RP.gg (k := 5) hI hg rfl rfl (by decide) (show _ = 12 from rfl) ?_
      refine sx_RP.br (p1 := 19) (l1 := [(0, .ref ga), (1, .int x)]) (s1 := []) (v1 := w) (p2 := 15) (l2 := [(0, .ref ga), (1, .int x)]) (s2 := []) (v2 := w) rfl rfl (fun q2 => ?_) (fun q2 => ?_)
      · replace q2 := of_decide_eq_true q2
        refine sx_RP.step (pc2 := 20) (ls2 := [(0, .ref ga), (1, .int x)]) (st2 := [.int 0]) (w3 := w) rfl rfl ?_
        refine sx_RP.ret (r := (some (.int 0))) rfl rfl ?_
        first | exact ⟨rfl, rfl⟩ | exact absurd ⟨by assumption, by assumption⟩ hh
      · replace q2 := Decidable.not_not.mp (of_decide_eq_false q2)
        refine sx_RP.step (pc2 := 16) (ls2 := [(0, .ref ga), (1, .int x)]) (st2 := [.int 1]) (w3 := w) rfl rfl ?_
        refine sx_RP.step (pc2 := 20) (ls2 := [(0, .ref ga), (1, .int x)]) (st2 := [.int 1]) (w3 := w) rfl rfl ?_
        refine sx_RP.ret (r := (some (.int 1))) rfl rfl ?_
        first | exact ⟨rfl, rfl⟩ | exact absurd ⟨by assumption, by assumption⟩ hh
  obtain ⟨r9, w2, h1, rfl, rfl⟩ := h
  exact h1
set_option maxRecDepth 20000 in
set_option maxHeartbeats 4000000 in
theorem x144 {xs : Option (List Int32)} {d : Nat} {w : List sx_C} (hI : WI w) {g c k s : Nat} (hg : g < 10) (hc : c < 48) (hk : k < 6) (ek : (ia w 112).getD (103 + 6 * g + 0) 0 = nI k) (hs : s < 4) (es : (ia w 112).getD (7 + c) 0 = nI s) : sx_RU xs (d + 1) 144 0 (lv_args 0 [.ref 111, .int (nI g), .int (nI c)]) [] w (some (.int (b01 (fmB k s)))) w := by
  have h : sx_RP xs (d + 1) 144 0 (lv_args 0 [.ref 111, .int (nI g), .int (nI c)]) [] w (fun r9 w2 => r9 = some (.int (b01 (fmB k s))) ∧ w2 = w) := by
    refine sx_RP.step (pc2 := 1) (ls2 := [(0, .ref 111), (1, .int (nI g)), (2, .int (nI c))]) (st2 := [.ref 111]) (w3 := w) rfl rfl ?_
    refine sx_RP.step (pc2 := 2) (ls2 := [(0, .ref 111), (1, .int (nI g)), (2, .int (nI c))]) (st2 := [.int (nI g), .ref 111]) (w3 := w) rfl rfl ?_
    refine sx_RP.step (pc2 := 3) (ls2 := [(0, .ref 111), (1, .int (nI g)), (2, .int (nI c))]) (st2 := [.int 0, .int (nI g), .ref 111]) (w3 := w) rfl rfl ?_
    refine sx_RP.cu (as := [.ref 111, .int (nI g), .int 0]) (rest2 := []) (st3 := [.int (nI k)]) rfl rfl (sx_inv_v2 (mi := 144) (k := 59) (st := [.int 0, .int (nI g), .ref 111]) (w := w) rfl rfl hI.1.o111 rfl rfl rfl) rfl rfl (x138e hI hg (show 0 < 6 by decide) ek) rfl ?_
    rcases Bool.eq_false_or_eq_true (prB k) with hp | hp
    · refine sx_RP.cu (as := [.int (nI k)]) (rest2 := []) (st3 := [.int 1]) rfl rfl rfl rfl rfl ((by have z := frI_ok (t145 k hk) xs d w; rw [hp] at z; exact z)) rfl ?_
      refine sx_RP.step (pc2 := 25) (ls2 := [(0, .ref 111), (1, .int (nI g)), (2, .int (nI c))]) (st2 := []) (w3 := w) rfl rfl ?_
      refine sx_RP.step (pc2 := 26) (ls2 := [(0, .ref 111), (1, .int (nI g)), (2, .int (nI c))]) (st2 := [.int 1]) (w3 := w) rfl rfl ?_
      refine sx_RP.step (pc2 := 30) (ls2 := [(0, .ref 111), (1, .int (nI g)), (2, .int (nI c))]) (st2 := [.int 1]) (w3 := w) rfl rfl ?_
      refine sx_RP.ret (r := (some (.int 1))) rfl rfl ?_
      exact ⟨by unfold fmB; rw [hp, Bool.or_true]; rfl, rfl⟩
    · refine sx_RP.cu (as := [.int (nI k)]) (rest2 := []) (st3 := [.int 0]) rfl rfl rfl rfl rfl ((by have z := frI_ok (t145 k hk) xs d w; rw [hp] at z; exact z)) rfl ?_
      refine sx_RP.step (pc2 := 12) (ls2 := [(0, .ref 111), (1, .int (nI g)), (2, .int (nI c))]) (st2 := []) (w3 := w) rfl rfl ?_
      refine sx_RP.step (pc2 := 13) (ls2 := [(0, .ref 111), (1, .int (nI g)), (2, .int (nI c))]) (st2 := [.ref 111]) (w3 := w) rfl rfl ?_
      refine sx_RP.gf (v := .ref 112) rfl rfl hI.1.o111 rfl rfl (show _ = 16 from rfl) ?_
      refine sx_RP.step (pc2 := 18) (ls2 := [(0, .ref 111), (1, .int (nI g)), (2, .int (nI c))]) (st2 := [.int 7, .ref 112]) (w3 := w) rfl rfl ?_
      refine sx_RP.step (pc2 := 19) (ls2 := [(0, .ref 111), (1, .int (nI g)), (2, .int (nI c))]) (st2 := [.int (nI c), .int 7, .ref 112]) (w3 := w) rfl rfl ?_
      refine sx_RP.step (pc2 := 20) (ls2 := [(0, .ref 111), (1, .int (nI g)), (2, .int (nI c))]) (st2 := [.int (7 + (nI c)), .ref 112]) (w3 := w) rfl rfl ?_
      rw [show (7 + (nI c) : Int32) = nI (7 + c) from nI_add 7 c]
      refine sx_RP.ild (c := (7 + c)) rfl hI.1.a112.1 hI.1.a112.2 (sx_in_nI (show (7 + c) < 172 by omega) (by decide)) (show (nI (7 + c)).toNatClampNeg = (7 + c) from nI_clamp (by omega)) (show _ = 21 from rfl) ?_
      rw [es]
      refine sx_RP.step (pc2 := 22) (ls2 := [(0, .ref 111), (1, .int (nI g)), (2, .int (nI c))]) (st2 := [.int 1, .int (nI s)]) (w3 := w) rfl rfl ?_
      refine sx_RP.br (p1 := 29) (l1 := [(0, .ref 111), (1, .int (nI g)), (2, .int (nI c))]) (s1 := []) (v1 := w) (p2 := 25) (l2 := [(0, .ref 111), (1, .int (nI g)), (2, .int (nI c))]) (s2 := []) (v2 := w) rfl rfl (fun q1 => ?_) (fun q1 => ?_)
      · replace q1 := of_decide_eq_true q1
        replace q1 := (nI_eq (a := s) (b := 1) (by omega) (by omega)).mp q1
        refine sx_RP.step (pc2 := 30) (ls2 := [(0, .ref 111), (1, .int (nI g)), (2, .int (nI c))]) (st2 := [.int 0]) (w3 := w) rfl rfl ?_
        refine sx_RP.ret (r := (some (.int 0))) rfl rfl ?_
        exact ⟨by unfold fmB; rw [hp, show (s == 1) = true from beq_iff_eq.mpr q1]; rfl, rfl⟩
      · replace q1 := of_decide_eq_false q1
        replace q1 := mt (nI_eq (a := s) (b := 1) (by omega) (by omega)).mpr q1
        refine sx_RP.step (pc2 := 26) (ls2 := [(0, .ref 111), (1, .int (nI g)), (2, .int (nI c))]) (st2 := [.int 1]) (w3 := w) rfl rfl ?_
        refine sx_RP.step (pc2 := 30) (ls2 := [(0, .ref 111), (1, .int (nI g)), (2, .int (nI c))]) (st2 := [.int 1]) (w3 := w) rfl rfl ?_
        refine sx_RP.ret (r := (some (.int 1))) rfl rfl ?_
        exact ⟨by unfold fmB; rw [hp, show (s == 1) = false from beq_false_of_ne q1]; rfl, rfl⟩
  obtain ⟨r9, w2, h1, rfl, rfl⟩ := h
  exact h1
set_option maxRecDepth 20000 in
set_option maxHeartbeats 4000000 in
theorem x147_0 {xs : Option (List Int32)} {d : Nat} {w : List sx_C} (hI : WI w) {g c k : Nat} (hg : g < 10) (hc : c < 48) (hk : k < 6) (ek : (ia w 112).getD (103 + 6 * g + 0) 0 = nI k) (es : (ia w 112).getD (7 + c) 0 = 0) : sx_RU xs (d + 1) 147 0 (lv_args 0 [.ref 111, .int (nI g), .int (nI c)]) [] w (some (.int (if 0 = 3 then -1 else tmV k 0 ((ia w 112).getD (55 + c) 0)))) w := by
  have h : sx_RP xs (d + 1) 147 0 (lv_args 0 [.ref 111, .int (nI g), .int (nI c)]) [] w (fun r9 w2 => r9 = some (.int (if 0 = 3 then -1 else tmV k 0 ((ia w 112).getD (55 + c) 0))) ∧ w2 = w) := by
    refine sx_RP.step (pc2 := 1) (ls2 := [(0, .ref 111), (1, .int (nI g)), (2, .int (nI c))]) (st2 := [.ref 111]) (w3 := w) rfl rfl ?_
    refine sx_RP.gf (v := .ref 112) rfl rfl hI.1.o111 rfl rfl (show _ = 4 from rfl) ?_
    refine sx_RP.step (pc2 := 6) (ls2 := [(0, .ref 111), (1, .int (nI g)), (2, .int (nI c))]) (st2 := [.int 7, .ref 112]) (w3 := w) rfl rfl ?_
    refine sx_RP.step (pc2 := 7) (ls2 := [(0, .ref 111), (1, .int (nI g)), (2, .int (nI c))]) (st2 := [.int (nI c), .int 7, .ref 112]) (w3 := w) rfl rfl ?_
    refine sx_RP.step (pc2 := 8) (ls2 := [(0, .ref 111), (1, .int (nI g)), (2, .int (nI c))]) (st2 := [.int (7 + (nI c)), .ref 112]) (w3 := w) rfl rfl ?_
    rw [show (7 + (nI c) : Int32) = nI (7 + c) from nI_add 7 c]
    refine sx_RP.ild (c := (7 + c)) rfl hI.1.a112.1 hI.1.a112.2 (sx_in_nI (show (7 + c) < 172 by omega) (by decide)) (show (nI (7 + c)).toNatClampNeg = (7 + c) from nI_clamp (by omega)) (show _ = 9 from rfl) ?_
    rw [es]
    refine sx_RP.step (pc2 := 10) (ls2 := [(3, .int 0), (0, .ref 111), (1, .int (nI g)), (2, .int (nI c))]) (st2 := []) (w3 := w) rfl rfl ?_
    refine sx_RP.step (pc2 := 11) (ls2 := [(3, .int 0), (0, .ref 111), (1, .int (nI g)), (2, .int (nI c))]) (st2 := [.int 0]) (w3 := w) rfl rfl ?_
    refine sx_RP.step (pc2 := 12) (ls2 := [(3, .int 0), (0, .ref 111), (1, .int (nI g)), (2, .int (nI c))]) (st2 := [.int 3, .int 0]) (w3 := w) rfl rfl ?_
    refine sx_RP.step (pc2 := 17) (ls2 := [(3, .int 0), (0, .ref 111), (1, .int (nI g)), (2, .int (nI c))]) (st2 := []) (w3 := w) rfl rfl ?_
    refine sx_RP.step (pc2 := 18) (ls2 := [(3, .int 0), (0, .ref 111), (1, .int (nI g)), (2, .int (nI c))]) (st2 := [.ref 111]) (w3 := w) rfl rfl ?_
    refine sx_RP.step (pc2 := 19) (ls2 := [(3, .int 0), (0, .ref 111), (1, .int (nI g)), (2, .int (nI c))]) (st2 := [.int (nI g), .ref 111]) (w3 := w) rfl rfl ?_
    refine sx_RP.step (pc2 := 20) (ls2 := [(3, .int 0), (0, .ref 111), (1, .int (nI g)), (2, .int (nI c))]) (st2 := [.int 0, .int (nI g), .ref 111]) (w3 := w) rfl rfl ?_
    refine sx_RP.cu (as := [.ref 111, .int (nI g), .int 0]) (rest2 := []) (st3 := [.int (nI k)]) rfl rfl (sx_inv_v2 (mi := 147) (k := 59) (st := [.int 0, .int (nI g), .ref 111]) (w := w) rfl rfl hI.1.o111 rfl rfl rfl) rfl rfl (x138e hI hg (show 0 < 6 by decide) ek) rfl ?_
    refine sx_RP.step (pc2 := 25) (ls2 := [(4, .int (nI k)), (3, .int 0), (0, .ref 111), (1, .int (nI g)), (2, .int (nI c))]) (st2 := []) (w3 := w) rfl rfl ?_
    refine sx_RP.step (pc2 := 26) (ls2 := [(4, .int (nI k)), (3, .int 0), (0, .ref 111), (1, .int (nI g)), (2, .int (nI c))]) (st2 := [.int 0]) (w3 := w) rfl rfl ?_
    refine sx_RP.cu (as := [.int 0]) (rest2 := []) (st3 := [.int 1]) rfl rfl rfl rfl rfl (frI_ok (t148 0 (by decide)) _ _ _) rfl ?_
    refine sx_RP.step (pc2 := 31) (ls2 := [(5, .int 1), (4, .int (nI k)), (3, .int 0), (0, .ref 111), (1, .int (nI g)), (2, .int (nI c))]) (st2 := []) (w3 := w) rfl rfl ?_
    refine sx_RP.step (pc2 := 33) (ls2 := [(5, .int 1), (4, .int (nI k)), (3, .int 0), (0, .ref 111), (1, .int (nI g)), (2, .int (nI c))]) (st2 := [.int (nI k)]) (w3 := w) rfl rfl ?_
    rcases sw_cases (n := 5) (nI k) with q1 | ⟨x2, hx3, ex4⟩
    · refine sx_RP.swo (t := 116) rfl q1 rfl ?_
      refine sx_RP.step (pc2 := 118) (ls2 := [(5, .int 1), (4, .int (nI k)), (3, .int 0), (0, .ref 111), (1, .int (nI g)), (2, .int (nI c))]) (st2 := [.int 1]) (w3 := w) rfl rfl ?_
      refine sx_RP.step (pc2 := 119) (ls2 := [(5, .int 1), (4, .int (nI k)), (3, .int 0), (0, .ref 111), (1, .int (nI g)), (2, .int (nI c))]) (st2 := [.int 1, .int 1]) (w3 := w) rfl rfl ?_
      refine sx_RP.step (pc2 := 120) (ls2 := [(5, .int 1), (4, .int (nI k)), (3, .int 0), (0, .ref 111), (1, .int (nI g)), (2, .int (nI c))]) (st2 := [.int 2]) (w3 := w) rfl rfl ?_
      refine sx_RP.step (pc2 := 121) (ls2 := [(5, .int 1), (4, .int (nI k)), (3, .int 0), (0, .ref 111), (1, .int (nI g)), (2, .int (nI c))]) (st2 := [.ref 111, .int 2]) (w3 := w) rfl rfl ?_
      refine sx_RP.gf (v := .ref 112) rfl rfl hI.1.o111 rfl rfl (show _ = 124 from rfl) ?_
      refine sx_RP.step (pc2 := 126) (ls2 := [(5, .int 1), (4, .int (nI k)), (3, .int 0), (0, .ref 111), (1, .int (nI g)), (2, .int (nI c))]) (st2 := [.int 55, .ref 112, .int 2]) (w3 := w) rfl rfl ?_
      refine sx_RP.step (pc2 := 127) (ls2 := [(5, .int 1), (4, .int (nI k)), (3, .int 0), (0, .ref 111), (1, .int (nI g)), (2, .int (nI c))]) (st2 := [.int (nI c), .int 55, .ref 112, .int 2]) (w3 := w) rfl rfl ?_
      refine sx_RP.step (pc2 := 128) (ls2 := [(5, .int 1), (4, .int (nI k)), (3, .int 0), (0, .ref 111), (1, .int (nI g)), (2, .int (nI c))]) (st2 := [.int (55 + (nI c)), .ref 112, .int 2]) (w3 := w) rfl rfl ?_
      rw [show (55 + (nI c) : Int32) = nI (55 + c) from nI_add 55 c]
      refine sx_RP.ild (c := (55 + c)) rfl hI.1.a112.1 hI.1.a112.2 (sx_in_nI (show (55 + c) < 172 by omega) (by decide)) (show (nI ((55 + c))).toNatClampNeg = (55 + c) from nI_clamp (by omega)) (show _ = 129 from rfl) ?_
      refine sx_RP.step (pc2 := 130) (ls2 := [(5, .int 1), (4, .int (nI k)), (3, .int 0), (0, .ref 111), (1, .int (nI g)), (2, .int (nI c))]) (st2 := [.int (2 + ((ia w 112).getD ((55 + c)) 0))]) (w3 := w) rfl rfl ?_
      refine sx_RP.ret (r := (some (.int (2 + ((ia w 112).getD ((55 + c)) 0))))) rfl rfl ?_
      exact (sw6 hk (by assumption)).elim
    · rw [ex4]
      rcases (show x2 = 0 ∨ x2 = 1 ∨ x2 = 2 ∨ x2 = 3 ∨ x2 = 4 ∨ x2 = 5 by omega) with rfl | rfl | rfl | rfl | rfl | rfl
      · refine sx_RP.step (pc2 := 72) (ls2 := [(5, .int 1), (4, .int (nI 0)), (3, .int 0), (0, .ref 111), (1, .int (nI g)), (2, .int (nI c))]) (st2 := []) (w3 := w) rfl rfl ?_
        refine sx_RP.step (pc2 := 74) (ls2 := [(5, .int 1), (4, .int (nI 0)), (3, .int 0), (0, .ref 111), (1, .int (nI g)), (2, .int (nI c))]) (st2 := [.int 1]) (w3 := w) rfl rfl ?_
        refine sx_RP.ret (r := (some (.int 1))) rfl rfl ?_
        obtain rfl : k = 0 := (nI_eq (a := k) (b := 0) (by omega) (by decide)).mp ex4
        exact ⟨by first | rfl | decide, rfl⟩
      · refine sx_RP.step (pc2 := 75) (ls2 := [(5, .int 1), (4, .int (nI 1)), (3, .int 0), (0, .ref 111), (1, .int (nI g)), (2, .int (nI c))]) (st2 := []) (w3 := w) rfl rfl ?_
        refine sx_RP.step (pc2 := 77) (ls2 := [(5, .int 1), (4, .int (nI 1)), (3, .int 0), (0, .ref 111), (1, .int (nI g)), (2, .int (nI c))]) (st2 := [.int 1]) (w3 := w) rfl rfl ?_
        refine sx_RP.step (pc2 := 78) (ls2 := [(5, .int 1), (4, .int (nI 1)), (3, .int 0), (0, .ref 111), (1, .int (nI g)), (2, .int (nI c))]) (st2 := [.int 1, .int 1]) (w3 := w) rfl rfl ?_
        refine sx_RP.step (pc2 := 79) (ls2 := [(5, .int 1), (4, .int (nI 1)), (3, .int 0), (0, .ref 111), (1, .int (nI g)), (2, .int (nI c))]) (st2 := [.int 2]) (w3 := w) rfl rfl ?_
        refine sx_RP.ret (r := (some (.int 2))) rfl rfl ?_
        obtain rfl : k = 1 := (nI_eq (a := k) (b := 1) (by omega) (by decide)).mp ex4
        exact ⟨by first | rfl | decide, rfl⟩
      · refine sx_RP.step (pc2 := 80) (ls2 := [(5, .int 1), (4, .int (nI 2)), (3, .int 0), (0, .ref 111), (1, .int (nI g)), (2, .int (nI c))]) (st2 := []) (w3 := w) rfl rfl ?_
        refine sx_RP.step (pc2 := 82) (ls2 := [(5, .int 1), (4, .int (nI 2)), (3, .int 0), (0, .ref 111), (1, .int (nI g)), (2, .int (nI c))]) (st2 := [.int 1]) (w3 := w) rfl rfl ?_
        refine sx_RP.step (pc2 := 83) (ls2 := [(5, .int 1), (4, .int (nI 2)), (3, .int 0), (0, .ref 111), (1, .int (nI g)), (2, .int (nI c))]) (st2 := [.int 4, .int 1]) (w3 := w) rfl rfl ?_
        refine sx_RP.step (pc2 := 86) (ls2 := [(5, .int 1), (4, .int (nI 2)), (3, .int 0), (0, .ref 111), (1, .int (nI g)), (2, .int (nI c))]) (st2 := []) (w3 := w) rfl rfl ?_
        refine sx_RP.step (pc2 := 87) (ls2 := [(5, .int 1), (4, .int (nI 2)), (3, .int 0), (0, .ref 111), (1, .int (nI g)), (2, .int (nI c))]) (st2 := [.int 1]) (w3 := w) rfl rfl ?_
        refine sx_RP.step (pc2 := 91) (ls2 := [(5, .int 1), (4, .int (nI 2)), (3, .int 0), (0, .ref 111), (1, .int (nI g)), (2, .int (nI c))]) (st2 := [.int 1]) (w3 := w) rfl rfl ?_
        refine sx_RP.ret (r := (some (.int 1))) rfl rfl ?_
        obtain rfl : k = 2 := (nI_eq (a := k) (b := 2) (by omega) (by decide)).mp ex4
        exact ⟨by first | rfl | decide, rfl⟩
      · refine sx_RP.step (pc2 := 116) (ls2 := [(5, .int 1), (4, .int (nI 3)), (3, .int 0), (0, .ref 111), (1, .int (nI g)), (2, .int (nI c))]) (st2 := []) (w3 := w) rfl rfl ?_
        refine sx_RP.step (pc2 := 118) (ls2 := [(5, .int 1), (4, .int (nI 3)), (3, .int 0), (0, .ref 111), (1, .int (nI g)), (2, .int (nI c))]) (st2 := [.int 1]) (w3 := w) rfl rfl ?_
        refine sx_RP.step (pc2 := 119) (ls2 := [(5, .int 1), (4, .int (nI 3)), (3, .int 0), (0, .ref 111), (1, .int (nI g)), (2, .int (nI c))]) (st2 := [.int 1, .int 1]) (w3 := w) rfl rfl ?_
        refine sx_RP.step (pc2 := 120) (ls2 := [(5, .int 1), (4, .int (nI 3)), (3, .int 0), (0, .ref 111), (1, .int (nI g)), (2, .int (nI c))]) (st2 := [.int 2]) (w3 := w) rfl rfl ?_
        refine sx_RP.step (pc2 := 121) (ls2 := [(5, .int 1), (4, .int (nI 3)), (3, .int 0), (0, .ref 111), (1, .int (nI g)), (2, .int (nI c))]) (st2 := [.ref 111, .int 2]) (w3 := w) rfl rfl ?_
        refine sx_RP.gf (v := .ref 112) rfl rfl hI.1.o111 rfl rfl (show _ = 124 from rfl) ?_
        refine sx_RP.step (pc2 := 126) (ls2 := [(5, .int 1), (4, .int (nI 3)), (3, .int 0), (0, .ref 111), (1, .int (nI g)), (2, .int (nI c))]) (st2 := [.int 55, .ref 112, .int 2]) (w3 := w) rfl rfl ?_
        refine sx_RP.step (pc2 := 127) (ls2 := [(5, .int 1), (4, .int (nI 3)), (3, .int 0), (0, .ref 111), (1, .int (nI g)), (2, .int (nI c))]) (st2 := [.int (nI c), .int 55, .ref 112, .int 2]) (w3 := w) rfl rfl ?_
        refine sx_RP.step (pc2 := 128) (ls2 := [(5, .int 1), (4, .int (nI 3)), (3, .int 0), (0, .ref 111), (1, .int (nI g)), (2, .int (nI c))]) (st2 := [.int (55 + (nI c)), .ref 112, .int 2]) (w3 := w) rfl rfl ?_
        rw [show (55 + (nI c) : Int32) = nI (55 + c) from nI_add 55 c]
        refine sx_RP.ild (c := (55 + c)) rfl hI.1.a112.1 hI.1.a112.2 (sx_in_nI (show (55 + c) < 172 by omega) (by decide)) (show (nI ((55 + c))).toNatClampNeg = (55 + c) from nI_clamp (by omega)) (show _ = 129 from rfl) ?_
        refine sx_RP.step (pc2 := 130) (ls2 := [(5, .int 1), (4, .int (nI 3)), (3, .int 0), (0, .ref 111), (1, .int (nI g)), (2, .int (nI c))]) (st2 := [.int (2 + ((ia w 112).getD ((55 + c)) 0))]) (w3 := w) rfl rfl ?_
        refine sx_RP.ret (r := (some (.int (2 + ((ia w 112).getD ((55 + c)) 0))))) rfl rfl ?_
        obtain rfl : k = 3 := (nI_eq (a := k) (b := 3) (by omega) (by decide)).mp ex4
        exact ⟨by first | rfl | decide, rfl⟩
      · refine sx_RP.step (pc2 := 80) (ls2 := [(5, .int 1), (4, .int (nI 4)), (3, .int 0), (0, .ref 111), (1, .int (nI g)), (2, .int (nI c))]) (st2 := []) (w3 := w) rfl rfl ?_
        refine sx_RP.step (pc2 := 82) (ls2 := [(5, .int 1), (4, .int (nI 4)), (3, .int 0), (0, .ref 111), (1, .int (nI g)), (2, .int (nI c))]) (st2 := [.int 1]) (w3 := w) rfl rfl ?_
        refine sx_RP.step (pc2 := 83) (ls2 := [(5, .int 1), (4, .int (nI 4)), (3, .int 0), (0, .ref 111), (1, .int (nI g)), (2, .int (nI c))]) (st2 := [.int 4, .int 1]) (w3 := w) rfl rfl ?_
        refine sx_RP.step (pc2 := 86) (ls2 := [(5, .int 1), (4, .int (nI 4)), (3, .int 0), (0, .ref 111), (1, .int (nI g)), (2, .int (nI c))]) (st2 := []) (w3 := w) rfl rfl ?_
        refine sx_RP.step (pc2 := 87) (ls2 := [(5, .int 1), (4, .int (nI 4)), (3, .int 0), (0, .ref 111), (1, .int (nI g)), (2, .int (nI c))]) (st2 := [.int 1]) (w3 := w) rfl rfl ?_
        refine sx_RP.step (pc2 := 91) (ls2 := [(5, .int 1), (4, .int (nI 4)), (3, .int 0), (0, .ref 111), (1, .int (nI g)), (2, .int (nI c))]) (st2 := [.int 1]) (w3 := w) rfl rfl ?_
        refine sx_RP.ret (r := (some (.int 1))) rfl rfl ?_
        obtain rfl : k = 4 := (nI_eq (a := k) (b := 4) (by omega) (by decide)).mp ex4
        exact ⟨by first | rfl | decide, rfl⟩
      · refine sx_RP.step (pc2 := 92) (ls2 := [(5, .int 1), (4, .int (nI 5)), (3, .int 0), (0, .ref 111), (1, .int (nI g)), (2, .int (nI c))]) (st2 := []) (w3 := w) rfl rfl ?_
        refine sx_RP.step (pc2 := 93) (ls2 := [(5, .int 1), (4, .int (nI 5)), (3, .int 0), (0, .ref 111), (1, .int (nI g)), (2, .int (nI c))]) (st2 := [.int 0]) (w3 := w) rfl rfl ?_
        refine sx_RP.step (pc2 := 94) (ls2 := [(5, .int 1), (4, .int (nI 5)), (3, .int 0), (0, .ref 111), (1, .int (nI g)), (2, .int (nI c))]) (st2 := [.int 2, .int 0]) (w3 := w) rfl rfl ?_
        refine sx_RP.step (pc2 := 101) (ls2 := [(5, .int 1), (4, .int (nI 5)), (3, .int 0), (0, .ref 111), (1, .int (nI g)), (2, .int (nI c))]) (st2 := []) (w3 := w) rfl rfl ?_
        refine sx_RP.step (pc2 := 103) (ls2 := [(5, .int 1), (4, .int (nI 5)), (3, .int 0), (0, .ref 111), (1, .int (nI g)), (2, .int (nI c))]) (st2 := [.int 1]) (w3 := w) rfl rfl ?_
        refine sx_RP.step (pc2 := 104) (ls2 := [(5, .int 1), (4, .int (nI 5)), (3, .int 0), (0, .ref 111), (1, .int (nI g)), (2, .int (nI c))]) (st2 := [.int 1, .int 1]) (w3 := w) rfl rfl ?_
        refine sx_RP.step (pc2 := 105) (ls2 := [(5, .int 1), (4, .int (nI 5)), (3, .int 0), (0, .ref 111), (1, .int (nI g)), (2, .int (nI c))]) (st2 := [.int 2]) (w3 := w) rfl rfl ?_
        refine sx_RP.step (pc2 := 106) (ls2 := [(5, .int 1), (4, .int (nI 5)), (3, .int 0), (0, .ref 111), (1, .int (nI g)), (2, .int (nI c))]) (st2 := [.ref 111, .int 2]) (w3 := w) rfl rfl ?_
        refine sx_RP.gf (v := .ref 112) rfl rfl hI.1.o111 rfl rfl (show _ = 109 from rfl) ?_
        refine sx_RP.step (pc2 := 111) (ls2 := [(5, .int 1), (4, .int (nI 5)), (3, .int 0), (0, .ref 111), (1, .int (nI g)), (2, .int (nI c))]) (st2 := [.int 55, .ref 112, .int 2]) (w3 := w) rfl rfl ?_
        refine sx_RP.step (pc2 := 112) (ls2 := [(5, .int 1), (4, .int (nI 5)), (3, .int 0), (0, .ref 111), (1, .int (nI g)), (2, .int (nI c))]) (st2 := [.int (nI c), .int 55, .ref 112, .int 2]) (w3 := w) rfl rfl ?_
        refine sx_RP.step (pc2 := 113) (ls2 := [(5, .int 1), (4, .int (nI 5)), (3, .int 0), (0, .ref 111), (1, .int (nI g)), (2, .int (nI c))]) (st2 := [.int (55 + (nI c)), .ref 112, .int 2]) (w3 := w) rfl rfl ?_
        rw [show (55 + (nI c) : Int32) = nI (55 + c) from nI_add 55 c]
        refine sx_RP.ild (c := (55 + c)) rfl hI.1.a112.1 hI.1.a112.2 (sx_in_nI (show (55 + c) < 172 by omega) (by decide)) (show (nI ((55 + c))).toNatClampNeg = (55 + c) from nI_clamp (by omega)) (show _ = 114 from rfl) ?_
        refine sx_RP.step (pc2 := 115) (ls2 := [(5, .int 1), (4, .int (nI 5)), (3, .int 0), (0, .ref 111), (1, .int (nI g)), (2, .int (nI c))]) (st2 := [.int (2 + ((ia w 112).getD ((55 + c)) 0))]) (w3 := w) rfl rfl ?_
        refine sx_RP.ret (r := (some (.int (2 + ((ia w 112).getD ((55 + c)) 0))))) rfl rfl ?_
        obtain rfl : k = 5 := (nI_eq (a := k) (b := 5) (by omega) (by decide)).mp ex4
        exact ⟨by first | rfl | decide, rfl⟩
  obtain ⟨r9, w2, h1, rfl, rfl⟩ := h
  exact h1
set_option maxRecDepth 20000 in
set_option maxHeartbeats 4000000 in
theorem x147_1 {xs : Option (List Int32)} {d : Nat} {w : List sx_C} (hI : WI w) {g c k : Nat} (hg : g < 10) (hc : c < 48) (hk : k < 6) (ek : (ia w 112).getD (103 + 6 * g + 0) 0 = nI k) (es : (ia w 112).getD (7 + c) 0 = 1) : sx_RU xs (d + 1) 147 0 (lv_args 0 [.ref 111, .int (nI g), .int (nI c)]) [] w (some (.int (if 1 = 3 then -1 else tmV k 1 ((ia w 112).getD (55 + c) 0)))) w := by
  have h : sx_RP xs (d + 1) 147 0 (lv_args 0 [.ref 111, .int (nI g), .int (nI c)]) [] w (fun r9 w2 => r9 = some (.int (if 1 = 3 then -1 else tmV k 1 ((ia w 112).getD (55 + c) 0))) ∧ w2 = w) := by
    refine sx_RP.step (pc2 := 1) (ls2 := [(0, .ref 111), (1, .int (nI g)), (2, .int (nI c))]) (st2 := [.ref 111]) (w3 := w) rfl rfl ?_
    refine sx_RP.gf (v := .ref 112) rfl rfl hI.1.o111 rfl rfl (show _ = 4 from rfl) ?_
    refine sx_RP.step (pc2 := 6) (ls2 := [(0, .ref 111), (1, .int (nI g)), (2, .int (nI c))]) (st2 := [.int 7, .ref 112]) (w3 := w) rfl rfl ?_
    refine sx_RP.step (pc2 := 7) (ls2 := [(0, .ref 111), (1, .int (nI g)), (2, .int (nI c))]) (st2 := [.int (nI c), .int 7, .ref 112]) (w3 := w) rfl rfl ?_
    refine sx_RP.step (pc2 := 8) (ls2 := [(0, .ref 111), (1, .int (nI g)), (2, .int (nI c))]) (st2 := [.int (7 + (nI c)), .ref 112]) (w3 := w) rfl rfl ?_
    rw [show (7 + (nI c) : Int32) = nI (7 + c) from nI_add 7 c]
    refine sx_RP.ild (c := (7 + c)) rfl hI.1.a112.1 hI.1.a112.2 (sx_in_nI (show (7 + c) < 172 by omega) (by decide)) (show (nI (7 + c)).toNatClampNeg = (7 + c) from nI_clamp (by omega)) (show _ = 9 from rfl) ?_
    rw [es]
    refine sx_RP.step (pc2 := 10) (ls2 := [(3, .int 1), (0, .ref 111), (1, .int (nI g)), (2, .int (nI c))]) (st2 := []) (w3 := w) rfl rfl ?_
    refine sx_RP.step (pc2 := 11) (ls2 := [(3, .int 1), (0, .ref 111), (1, .int (nI g)), (2, .int (nI c))]) (st2 := [.int 1]) (w3 := w) rfl rfl ?_
    refine sx_RP.step (pc2 := 12) (ls2 := [(3, .int 1), (0, .ref 111), (1, .int (nI g)), (2, .int (nI c))]) (st2 := [.int 3, .int 1]) (w3 := w) rfl rfl ?_
    refine sx_RP.step (pc2 := 17) (ls2 := [(3, .int 1), (0, .ref 111), (1, .int (nI g)), (2, .int (nI c))]) (st2 := []) (w3 := w) rfl rfl ?_
    refine sx_RP.step (pc2 := 18) (ls2 := [(3, .int 1), (0, .ref 111), (1, .int (nI g)), (2, .int (nI c))]) (st2 := [.ref 111]) (w3 := w) rfl rfl ?_
    refine sx_RP.step (pc2 := 19) (ls2 := [(3, .int 1), (0, .ref 111), (1, .int (nI g)), (2, .int (nI c))]) (st2 := [.int (nI g), .ref 111]) (w3 := w) rfl rfl ?_
    refine sx_RP.step (pc2 := 20) (ls2 := [(3, .int 1), (0, .ref 111), (1, .int (nI g)), (2, .int (nI c))]) (st2 := [.int 0, .int (nI g), .ref 111]) (w3 := w) rfl rfl ?_
    refine sx_RP.cu (as := [.ref 111, .int (nI g), .int 0]) (rest2 := []) (st3 := [.int (nI k)]) rfl rfl (sx_inv_v2 (mi := 147) (k := 59) (st := [.int 0, .int (nI g), .ref 111]) (w := w) rfl rfl hI.1.o111 rfl rfl rfl) rfl rfl (x138e hI hg (show 0 < 6 by decide) ek) rfl ?_
    refine sx_RP.step (pc2 := 25) (ls2 := [(4, .int (nI k)), (3, .int 1), (0, .ref 111), (1, .int (nI g)), (2, .int (nI c))]) (st2 := []) (w3 := w) rfl rfl ?_
    refine sx_RP.step (pc2 := 26) (ls2 := [(4, .int (nI k)), (3, .int 1), (0, .ref 111), (1, .int (nI g)), (2, .int (nI c))]) (st2 := [.int 1]) (w3 := w) rfl rfl ?_
    refine sx_RP.cu (as := [.int 1]) (rest2 := []) (st3 := [.int 2]) rfl rfl rfl rfl rfl (frI_ok (t148 1 (by decide)) _ _ _) rfl ?_
    refine sx_RP.step (pc2 := 31) (ls2 := [(5, .int 2), (4, .int (nI k)), (3, .int 1), (0, .ref 111), (1, .int (nI g)), (2, .int (nI c))]) (st2 := []) (w3 := w) rfl rfl ?_
    refine sx_RP.step (pc2 := 33) (ls2 := [(5, .int 2), (4, .int (nI k)), (3, .int 1), (0, .ref 111), (1, .int (nI g)), (2, .int (nI c))]) (st2 := [.int (nI k)]) (w3 := w) rfl rfl ?_
    rcases sw_cases (n := 5) (nI k) with q1 | ⟨x2, hx3, ex4⟩
    · refine sx_RP.swo (t := 116) rfl q1 rfl ?_
      refine sx_RP.step (pc2 := 118) (ls2 := [(5, .int 2), (4, .int (nI k)), (3, .int 1), (0, .ref 111), (1, .int (nI g)), (2, .int (nI c))]) (st2 := [.int 2]) (w3 := w) rfl rfl ?_
      refine sx_RP.step (pc2 := 119) (ls2 := [(5, .int 2), (4, .int (nI k)), (3, .int 1), (0, .ref 111), (1, .int (nI g)), (2, .int (nI c))]) (st2 := [.int 1, .int 2]) (w3 := w) rfl rfl ?_
      refine sx_RP.step (pc2 := 120) (ls2 := [(5, .int 2), (4, .int (nI k)), (3, .int 1), (0, .ref 111), (1, .int (nI g)), (2, .int (nI c))]) (st2 := [.int 3]) (w3 := w) rfl rfl ?_
      refine sx_RP.step (pc2 := 121) (ls2 := [(5, .int 2), (4, .int (nI k)), (3, .int 1), (0, .ref 111), (1, .int (nI g)), (2, .int (nI c))]) (st2 := [.ref 111, .int 3]) (w3 := w) rfl rfl ?_
      refine sx_RP.gf (v := .ref 112) rfl rfl hI.1.o111 rfl rfl (show _ = 124 from rfl) ?_
      refine sx_RP.step (pc2 := 126) (ls2 := [(5, .int 2), (4, .int (nI k)), (3, .int 1), (0, .ref 111), (1, .int (nI g)), (2, .int (nI c))]) (st2 := [.int 55, .ref 112, .int 3]) (w3 := w) rfl rfl ?_
      refine sx_RP.step (pc2 := 127) (ls2 := [(5, .int 2), (4, .int (nI k)), (3, .int 1), (0, .ref 111), (1, .int (nI g)), (2, .int (nI c))]) (st2 := [.int (nI c), .int 55, .ref 112, .int 3]) (w3 := w) rfl rfl ?_
      refine sx_RP.step (pc2 := 128) (ls2 := [(5, .int 2), (4, .int (nI k)), (3, .int 1), (0, .ref 111), (1, .int (nI g)), (2, .int (nI c))]) (st2 := [.int (55 + (nI c)), .ref 112, .int 3]) (w3 := w) rfl rfl ?_
      rw [show (55 + (nI c) : Int32) = nI (55 + c) from nI_add 55 c]
      refine sx_RP.ild (c := (55 + c)) rfl hI.1.a112.1 hI.1.a112.2 (sx_in_nI (show (55 + c) < 172 by omega) (by decide)) (show (nI ((55 + c))).toNatClampNeg = (55 + c) from nI_clamp (by omega)) (show _ = 129 from rfl) ?_
      refine sx_RP.step (pc2 := 130) (ls2 := [(5, .int 2), (4, .int (nI k)), (3, .int 1), (0, .ref 111), (1, .int (nI g)), (2, .int (nI c))]) (st2 := [.int (3 + ((ia w 112).getD ((55 + c)) 0))]) (w3 := w) rfl rfl ?_
      refine sx_RP.ret (r := (some (.int (3 + ((ia w 112).getD ((55 + c)) 0))))) rfl rfl ?_
      exact (sw6 hk (by assumption)).elim
    · rw [ex4]
      rcases (show x2 = 0 ∨ x2 = 1 ∨ x2 = 2 ∨ x2 = 3 ∨ x2 = 4 ∨ x2 = 5 by omega) with rfl | rfl | rfl | rfl | rfl | rfl
      · refine sx_RP.step (pc2 := 72) (ls2 := [(5, .int 2), (4, .int (nI 0)), (3, .int 1), (0, .ref 111), (1, .int (nI g)), (2, .int (nI c))]) (st2 := []) (w3 := w) rfl rfl ?_
        refine sx_RP.step (pc2 := 74) (ls2 := [(5, .int 2), (4, .int (nI 0)), (3, .int 1), (0, .ref 111), (1, .int (nI g)), (2, .int (nI c))]) (st2 := [.int 2]) (w3 := w) rfl rfl ?_
        refine sx_RP.ret (r := (some (.int 2))) rfl rfl ?_
        obtain rfl : k = 0 := (nI_eq (a := k) (b := 0) (by omega) (by decide)).mp ex4
        exact ⟨by first | rfl | decide, rfl⟩
      · refine sx_RP.step (pc2 := 75) (ls2 := [(5, .int 2), (4, .int (nI 1)), (3, .int 1), (0, .ref 111), (1, .int (nI g)), (2, .int (nI c))]) (st2 := []) (w3 := w) rfl rfl ?_
        refine sx_RP.step (pc2 := 77) (ls2 := [(5, .int 2), (4, .int (nI 1)), (3, .int 1), (0, .ref 111), (1, .int (nI g)), (2, .int (nI c))]) (st2 := [.int 2]) (w3 := w) rfl rfl ?_
        refine sx_RP.step (pc2 := 78) (ls2 := [(5, .int 2), (4, .int (nI 1)), (3, .int 1), (0, .ref 111), (1, .int (nI g)), (2, .int (nI c))]) (st2 := [.int 1, .int 2]) (w3 := w) rfl rfl ?_
        refine sx_RP.step (pc2 := 79) (ls2 := [(5, .int 2), (4, .int (nI 1)), (3, .int 1), (0, .ref 111), (1, .int (nI g)), (2, .int (nI c))]) (st2 := [.int 3]) (w3 := w) rfl rfl ?_
        refine sx_RP.ret (r := (some (.int 3))) rfl rfl ?_
        obtain rfl : k = 1 := (nI_eq (a := k) (b := 1) (by omega) (by decide)).mp ex4
        exact ⟨by first | rfl | decide, rfl⟩
      · refine sx_RP.step (pc2 := 80) (ls2 := [(5, .int 2), (4, .int (nI 2)), (3, .int 1), (0, .ref 111), (1, .int (nI g)), (2, .int (nI c))]) (st2 := []) (w3 := w) rfl rfl ?_
        refine sx_RP.step (pc2 := 82) (ls2 := [(5, .int 2), (4, .int (nI 2)), (3, .int 1), (0, .ref 111), (1, .int (nI g)), (2, .int (nI c))]) (st2 := [.int 2]) (w3 := w) rfl rfl ?_
        refine sx_RP.step (pc2 := 83) (ls2 := [(5, .int 2), (4, .int (nI 2)), (3, .int 1), (0, .ref 111), (1, .int (nI g)), (2, .int (nI c))]) (st2 := [.int 4, .int 2]) (w3 := w) rfl rfl ?_
        refine sx_RP.step (pc2 := 86) (ls2 := [(5, .int 2), (4, .int (nI 2)), (3, .int 1), (0, .ref 111), (1, .int (nI g)), (2, .int (nI c))]) (st2 := []) (w3 := w) rfl rfl ?_
        refine sx_RP.step (pc2 := 87) (ls2 := [(5, .int 2), (4, .int (nI 2)), (3, .int 1), (0, .ref 111), (1, .int (nI g)), (2, .int (nI c))]) (st2 := [.int 1]) (w3 := w) rfl rfl ?_
        refine sx_RP.step (pc2 := 91) (ls2 := [(5, .int 2), (4, .int (nI 2)), (3, .int 1), (0, .ref 111), (1, .int (nI g)), (2, .int (nI c))]) (st2 := [.int 1]) (w3 := w) rfl rfl ?_
        refine sx_RP.ret (r := (some (.int 1))) rfl rfl ?_
        obtain rfl : k = 2 := (nI_eq (a := k) (b := 2) (by omega) (by decide)).mp ex4
        exact ⟨by first | rfl | decide, rfl⟩
      · refine sx_RP.step (pc2 := 116) (ls2 := [(5, .int 2), (4, .int (nI 3)), (3, .int 1), (0, .ref 111), (1, .int (nI g)), (2, .int (nI c))]) (st2 := []) (w3 := w) rfl rfl ?_
        refine sx_RP.step (pc2 := 118) (ls2 := [(5, .int 2), (4, .int (nI 3)), (3, .int 1), (0, .ref 111), (1, .int (nI g)), (2, .int (nI c))]) (st2 := [.int 2]) (w3 := w) rfl rfl ?_
        refine sx_RP.step (pc2 := 119) (ls2 := [(5, .int 2), (4, .int (nI 3)), (3, .int 1), (0, .ref 111), (1, .int (nI g)), (2, .int (nI c))]) (st2 := [.int 1, .int 2]) (w3 := w) rfl rfl ?_
        refine sx_RP.step (pc2 := 120) (ls2 := [(5, .int 2), (4, .int (nI 3)), (3, .int 1), (0, .ref 111), (1, .int (nI g)), (2, .int (nI c))]) (st2 := [.int 3]) (w3 := w) rfl rfl ?_
        refine sx_RP.step (pc2 := 121) (ls2 := [(5, .int 2), (4, .int (nI 3)), (3, .int 1), (0, .ref 111), (1, .int (nI g)), (2, .int (nI c))]) (st2 := [.ref 111, .int 3]) (w3 := w) rfl rfl ?_
        refine sx_RP.gf (v := .ref 112) rfl rfl hI.1.o111 rfl rfl (show _ = 124 from rfl) ?_
        refine sx_RP.step (pc2 := 126) (ls2 := [(5, .int 2), (4, .int (nI 3)), (3, .int 1), (0, .ref 111), (1, .int (nI g)), (2, .int (nI c))]) (st2 := [.int 55, .ref 112, .int 3]) (w3 := w) rfl rfl ?_
        refine sx_RP.step (pc2 := 127) (ls2 := [(5, .int 2), (4, .int (nI 3)), (3, .int 1), (0, .ref 111), (1, .int (nI g)), (2, .int (nI c))]) (st2 := [.int (nI c), .int 55, .ref 112, .int 3]) (w3 := w) rfl rfl ?_
        refine sx_RP.step (pc2 := 128) (ls2 := [(5, .int 2), (4, .int (nI 3)), (3, .int 1), (0, .ref 111), (1, .int (nI g)), (2, .int (nI c))]) (st2 := [.int (55 + (nI c)), .ref 112, .int 3]) (w3 := w) rfl rfl ?_
        rw [show (55 + (nI c) : Int32) = nI (55 + c) from nI_add 55 c]
        refine sx_RP.ild (c := (55 + c)) rfl hI.1.a112.1 hI.1.a112.2 (sx_in_nI (show (55 + c) < 172 by omega) (by decide)) (show (nI ((55 + c))).toNatClampNeg = (55 + c) from nI_clamp (by omega)) (show _ = 129 from rfl) ?_
        refine sx_RP.step (pc2 := 130) (ls2 := [(5, .int 2), (4, .int (nI 3)), (3, .int 1), (0, .ref 111), (1, .int (nI g)), (2, .int (nI c))]) (st2 := [.int (3 + ((ia w 112).getD ((55 + c)) 0))]) (w3 := w) rfl rfl ?_
        refine sx_RP.ret (r := (some (.int (3 + ((ia w 112).getD ((55 + c)) 0))))) rfl rfl ?_
        obtain rfl : k = 3 := (nI_eq (a := k) (b := 3) (by omega) (by decide)).mp ex4
        exact ⟨by first | rfl | decide, rfl⟩
      · refine sx_RP.step (pc2 := 80) (ls2 := [(5, .int 2), (4, .int (nI 4)), (3, .int 1), (0, .ref 111), (1, .int (nI g)), (2, .int (nI c))]) (st2 := []) (w3 := w) rfl rfl ?_
        refine sx_RP.step (pc2 := 82) (ls2 := [(5, .int 2), (4, .int (nI 4)), (3, .int 1), (0, .ref 111), (1, .int (nI g)), (2, .int (nI c))]) (st2 := [.int 2]) (w3 := w) rfl rfl ?_
        refine sx_RP.step (pc2 := 83) (ls2 := [(5, .int 2), (4, .int (nI 4)), (3, .int 1), (0, .ref 111), (1, .int (nI g)), (2, .int (nI c))]) (st2 := [.int 4, .int 2]) (w3 := w) rfl rfl ?_
        refine sx_RP.step (pc2 := 86) (ls2 := [(5, .int 2), (4, .int (nI 4)), (3, .int 1), (0, .ref 111), (1, .int (nI g)), (2, .int (nI c))]) (st2 := []) (w3 := w) rfl rfl ?_
        refine sx_RP.step (pc2 := 87) (ls2 := [(5, .int 2), (4, .int (nI 4)), (3, .int 1), (0, .ref 111), (1, .int (nI g)), (2, .int (nI c))]) (st2 := [.int 1]) (w3 := w) rfl rfl ?_
        refine sx_RP.step (pc2 := 91) (ls2 := [(5, .int 2), (4, .int (nI 4)), (3, .int 1), (0, .ref 111), (1, .int (nI g)), (2, .int (nI c))]) (st2 := [.int 1]) (w3 := w) rfl rfl ?_
        refine sx_RP.ret (r := (some (.int 1))) rfl rfl ?_
        obtain rfl : k = 4 := (nI_eq (a := k) (b := 4) (by omega) (by decide)).mp ex4
        exact ⟨by first | rfl | decide, rfl⟩
      · refine sx_RP.step (pc2 := 92) (ls2 := [(5, .int 2), (4, .int (nI 5)), (3, .int 1), (0, .ref 111), (1, .int (nI g)), (2, .int (nI c))]) (st2 := []) (w3 := w) rfl rfl ?_
        refine sx_RP.step (pc2 := 93) (ls2 := [(5, .int 2), (4, .int (nI 5)), (3, .int 1), (0, .ref 111), (1, .int (nI g)), (2, .int (nI c))]) (st2 := [.int 1]) (w3 := w) rfl rfl ?_
        refine sx_RP.step (pc2 := 94) (ls2 := [(5, .int 2), (4, .int (nI 5)), (3, .int 1), (0, .ref 111), (1, .int (nI g)), (2, .int (nI c))]) (st2 := [.int 2, .int 1]) (w3 := w) rfl rfl ?_
        refine sx_RP.step (pc2 := 101) (ls2 := [(5, .int 2), (4, .int (nI 5)), (3, .int 1), (0, .ref 111), (1, .int (nI g)), (2, .int (nI c))]) (st2 := []) (w3 := w) rfl rfl ?_
        refine sx_RP.step (pc2 := 103) (ls2 := [(5, .int 2), (4, .int (nI 5)), (3, .int 1), (0, .ref 111), (1, .int (nI g)), (2, .int (nI c))]) (st2 := [.int 2]) (w3 := w) rfl rfl ?_
        refine sx_RP.step (pc2 := 104) (ls2 := [(5, .int 2), (4, .int (nI 5)), (3, .int 1), (0, .ref 111), (1, .int (nI g)), (2, .int (nI c))]) (st2 := [.int 1, .int 2]) (w3 := w) rfl rfl ?_
        refine sx_RP.step (pc2 := 105) (ls2 := [(5, .int 2), (4, .int (nI 5)), (3, .int 1), (0, .ref 111), (1, .int (nI g)), (2, .int (nI c))]) (st2 := [.int 3]) (w3 := w) rfl rfl ?_
        refine sx_RP.step (pc2 := 106) (ls2 := [(5, .int 2), (4, .int (nI 5)), (3, .int 1), (0, .ref 111), (1, .int (nI g)), (2, .int (nI c))]) (st2 := [.ref 111, .int 3]) (w3 := w) rfl rfl ?_
        refine sx_RP.gf (v := .ref 112) rfl rfl hI.1.o111 rfl rfl (show _ = 109 from rfl) ?_
        refine sx_RP.step (pc2 := 111) (ls2 := [(5, .int 2), (4, .int (nI 5)), (3, .int 1), (0, .ref 111), (1, .int (nI g)), (2, .int (nI c))]) (st2 := [.int 55, .ref 112, .int 3]) (w3 := w) rfl rfl ?_
        refine sx_RP.step (pc2 := 112) (ls2 := [(5, .int 2), (4, .int (nI 5)), (3, .int 1), (0, .ref 111), (1, .int (nI g)), (2, .int (nI c))]) (st2 := [.int (nI c), .int 55, .ref 112, .int 3]) (w3 := w) rfl rfl ?_
        refine sx_RP.step (pc2 := 113) (ls2 := [(5, .int 2), (4, .int (nI 5)), (3, .int 1), (0, .ref 111), (1, .int (nI g)), (2, .int (nI c))]) (st2 := [.int (55 + (nI c)), .ref 112, .int 3]) (w3 := w) rfl rfl ?_
        rw [show (55 + (nI c) : Int32) = nI (55 + c) from nI_add 55 c]
        refine sx_RP.ild (c := (55 + c)) rfl hI.1.a112.1 hI.1.a112.2 (sx_in_nI (show (55 + c) < 172 by omega) (by decide)) (show (nI ((55 + c))).toNatClampNeg = (55 + c) from nI_clamp (by omega)) (show _ = 114 from rfl) ?_
        refine sx_RP.step (pc2 := 115) (ls2 := [(5, .int 2), (4, .int (nI 5)), (3, .int 1), (0, .ref 111), (1, .int (nI g)), (2, .int (nI c))]) (st2 := [.int (3 + ((ia w 112).getD ((55 + c)) 0))]) (w3 := w) rfl rfl ?_
        refine sx_RP.ret (r := (some (.int (3 + ((ia w 112).getD ((55 + c)) 0))))) rfl rfl ?_
        obtain rfl : k = 5 := (nI_eq (a := k) (b := 5) (by omega) (by decide)).mp ex4
        exact ⟨by first | rfl | decide, rfl⟩
  obtain ⟨r9, w2, h1, rfl, rfl⟩ := h
  exact h1
set_option maxRecDepth 20000 in
set_option maxHeartbeats 4000000 in
theorem x147_2 {xs : Option (List Int32)} {d : Nat} {w : List sx_C} (hI : WI w) {g c k : Nat} (hg : g < 10) (hc : c < 48) (hk : k < 6) (ek : (ia w 112).getD (103 + 6 * g + 0) 0 = nI k) (es : (ia w 112).getD (7 + c) 0 = 2) : sx_RU xs (d + 1) 147 0 (lv_args 0 [.ref 111, .int (nI g), .int (nI c)]) [] w (some (.int (if 2 = 3 then -1 else tmV k 2 ((ia w 112).getD (55 + c) 0)))) w := by
  have h : sx_RP xs (d + 1) 147 0 (lv_args 0 [.ref 111, .int (nI g), .int (nI c)]) [] w (fun r9 w2 => r9 = some (.int (if 2 = 3 then -1 else tmV k 2 ((ia w 112).getD (55 + c) 0))) ∧ w2 = w) := by
    refine sx_RP.step (pc2 := 1) (ls2 := [(0, .ref 111), (1, .int (nI g)), (2, .int (nI c))]) (st2 := [.ref 111]) (w3 := w) rfl rfl ?_
    refine sx_RP.gf (v := .ref 112) rfl rfl hI.1.o111 rfl rfl (show _ = 4 from rfl) ?_
    refine sx_RP.step (pc2 := 6) (ls2 := [(0, .ref 111), (1, .int (nI g)), (2, .int (nI c))]) (st2 := [.int 7, .ref 112]) (w3 := w) rfl rfl ?_
    refine sx_RP.step (pc2 := 7) (ls2 := [(0, .ref 111), (1, .int (nI g)), (2, .int (nI c))]) (st2 := [.int (nI c), .int 7, .ref 112]) (w3 := w) rfl rfl ?_
    refine sx_RP.step (pc2 := 8) (ls2 := [(0, .ref 111), (1, .int (nI g)), (2, .int (nI c))]) (st2 := [.int (7 + (nI c)), .ref 112]) (w3 := w) rfl rfl ?_
    rw [show (7 + (nI c) : Int32) = nI (7 + c) from nI_add 7 c]
    refine sx_RP.ild (c := (7 + c)) rfl hI.1.a112.1 hI.1.a112.2 (sx_in_nI (show (7 + c) < 172 by omega) (by decide)) (show (nI (7 + c)).toNatClampNeg = (7 + c) from nI_clamp (by omega)) (show _ = 9 from rfl) ?_
    rw [es]
    refine sx_RP.step (pc2 := 10) (ls2 := [(3, .int 2), (0, .ref 111), (1, .int (nI g)), (2, .int (nI c))]) (st2 := []) (w3 := w) rfl rfl ?_
    refine sx_RP.step (pc2 := 11) (ls2 := [(3, .int 2), (0, .ref 111), (1, .int (nI g)), (2, .int (nI c))]) (st2 := [.int 2]) (w3 := w) rfl rfl ?_
    refine sx_RP.step (pc2 := 12) (ls2 := [(3, .int 2), (0, .ref 111), (1, .int (nI g)), (2, .int (nI c))]) (st2 := [.int 3, .int 2]) (w3 := w) rfl rfl ?_
    refine sx_RP.step (pc2 := 17) (ls2 := [(3, .int 2), (0, .ref 111), (1, .int (nI g)), (2, .int (nI c))]) (st2 := []) (w3 := w) rfl rfl ?_
    refine sx_RP.step (pc2 := 18) (ls2 := [(3, .int 2), (0, .ref 111), (1, .int (nI g)), (2, .int (nI c))]) (st2 := [.ref 111]) (w3 := w) rfl rfl ?_
    refine sx_RP.step (pc2 := 19) (ls2 := [(3, .int 2), (0, .ref 111), (1, .int (nI g)), (2, .int (nI c))]) (st2 := [.int (nI g), .ref 111]) (w3 := w) rfl rfl ?_
    refine sx_RP.step (pc2 := 20) (ls2 := [(3, .int 2), (0, .ref 111), (1, .int (nI g)), (2, .int (nI c))]) (st2 := [.int 0, .int (nI g), .ref 111]) (w3 := w) rfl rfl ?_
    refine sx_RP.cu (as := [.ref 111, .int (nI g), .int 0]) (rest2 := []) (st3 := [.int (nI k)]) rfl rfl (sx_inv_v2 (mi := 147) (k := 59) (st := [.int 0, .int (nI g), .ref 111]) (w := w) rfl rfl hI.1.o111 rfl rfl rfl) rfl rfl (x138e hI hg (show 0 < 6 by decide) ek) rfl ?_
    refine sx_RP.step (pc2 := 25) (ls2 := [(4, .int (nI k)), (3, .int 2), (0, .ref 111), (1, .int (nI g)), (2, .int (nI c))]) (st2 := []) (w3 := w) rfl rfl ?_
    refine sx_RP.step (pc2 := 26) (ls2 := [(4, .int (nI k)), (3, .int 2), (0, .ref 111), (1, .int (nI g)), (2, .int (nI c))]) (st2 := [.int 2]) (w3 := w) rfl rfl ?_
    refine sx_RP.cu (as := [.int 2]) (rest2 := []) (st3 := [.int 4]) rfl rfl rfl rfl rfl (frI_ok (t148 2 (by decide)) _ _ _) rfl ?_
    refine sx_RP.step (pc2 := 31) (ls2 := [(5, .int 4), (4, .int (nI k)), (3, .int 2), (0, .ref 111), (1, .int (nI g)), (2, .int (nI c))]) (st2 := []) (w3 := w) rfl rfl ?_
    refine sx_RP.step (pc2 := 33) (ls2 := [(5, .int 4), (4, .int (nI k)), (3, .int 2), (0, .ref 111), (1, .int (nI g)), (2, .int (nI c))]) (st2 := [.int (nI k)]) (w3 := w) rfl rfl ?_
    rcases sw_cases (n := 5) (nI k) with q1 | ⟨x2, hx3, ex4⟩
    · refine sx_RP.swo (t := 116) rfl q1 rfl ?_
      refine sx_RP.step (pc2 := 118) (ls2 := [(5, .int 4), (4, .int (nI k)), (3, .int 2), (0, .ref 111), (1, .int (nI g)), (2, .int (nI c))]) (st2 := [.int 4]) (w3 := w) rfl rfl ?_
      refine sx_RP.step (pc2 := 119) (ls2 := [(5, .int 4), (4, .int (nI k)), (3, .int 2), (0, .ref 111), (1, .int (nI g)), (2, .int (nI c))]) (st2 := [.int 1, .int 4]) (w3 := w) rfl rfl ?_
      refine sx_RP.step (pc2 := 120) (ls2 := [(5, .int 4), (4, .int (nI k)), (3, .int 2), (0, .ref 111), (1, .int (nI g)), (2, .int (nI c))]) (st2 := [.int 5]) (w3 := w) rfl rfl ?_
      refine sx_RP.step (pc2 := 121) (ls2 := [(5, .int 4), (4, .int (nI k)), (3, .int 2), (0, .ref 111), (1, .int (nI g)), (2, .int (nI c))]) (st2 := [.ref 111, .int 5]) (w3 := w) rfl rfl ?_
      refine sx_RP.gf (v := .ref 112) rfl rfl hI.1.o111 rfl rfl (show _ = 124 from rfl) ?_
      refine sx_RP.step (pc2 := 126) (ls2 := [(5, .int 4), (4, .int (nI k)), (3, .int 2), (0, .ref 111), (1, .int (nI g)), (2, .int (nI c))]) (st2 := [.int 55, .ref 112, .int 5]) (w3 := w) rfl rfl ?_
      refine sx_RP.step (pc2 := 127) (ls2 := [(5, .int 4), (4, .int (nI k)), (3, .int 2), (0, .ref 111), (1, .int (nI g)), (2, .int (nI c))]) (st2 := [.int (nI c), .int 55, .ref 112, .int 5]) (w3 := w) rfl rfl ?_
      refine sx_RP.step (pc2 := 128) (ls2 := [(5, .int 4), (4, .int (nI k)), (3, .int 2), (0, .ref 111), (1, .int (nI g)), (2, .int (nI c))]) (st2 := [.int (55 + (nI c)), .ref 112, .int 5]) (w3 := w) rfl rfl ?_
      rw [show (55 + (nI c) : Int32) = nI (55 + c) from nI_add 55 c]
      refine sx_RP.ild (c := (55 + c)) rfl hI.1.a112.1 hI.1.a112.2 (sx_in_nI (show (55 + c) < 172 by omega) (by decide)) (show (nI ((55 + c))).toNatClampNeg = (55 + c) from nI_clamp (by omega)) (show _ = 129 from rfl) ?_
      refine sx_RP.step (pc2 := 130) (ls2 := [(5, .int 4), (4, .int (nI k)), (3, .int 2), (0, .ref 111), (1, .int (nI g)), (2, .int (nI c))]) (st2 := [.int (5 + ((ia w 112).getD ((55 + c)) 0))]) (w3 := w) rfl rfl ?_
      refine sx_RP.ret (r := (some (.int (5 + ((ia w 112).getD ((55 + c)) 0))))) rfl rfl ?_
      exact (sw6 hk (by assumption)).elim
    · rw [ex4]
      rcases (show x2 = 0 ∨ x2 = 1 ∨ x2 = 2 ∨ x2 = 3 ∨ x2 = 4 ∨ x2 = 5 by omega) with rfl | rfl | rfl | rfl | rfl | rfl
      · refine sx_RP.step (pc2 := 72) (ls2 := [(5, .int 4), (4, .int (nI 0)), (3, .int 2), (0, .ref 111), (1, .int (nI g)), (2, .int (nI c))]) (st2 := []) (w3 := w) rfl rfl ?_
        refine sx_RP.step (pc2 := 74) (ls2 := [(5, .int 4), (4, .int (nI 0)), (3, .int 2), (0, .ref 111), (1, .int (nI g)), (2, .int (nI c))]) (st2 := [.int 4]) (w3 := w) rfl rfl ?_
        refine sx_RP.ret (r := (some (.int 4))) rfl rfl ?_
        obtain rfl : k = 0 := (nI_eq (a := k) (b := 0) (by omega) (by decide)).mp ex4
        exact ⟨by first | rfl | decide, rfl⟩
      · refine sx_RP.step (pc2 := 75) (ls2 := [(5, .int 4), (4, .int (nI 1)), (3, .int 2), (0, .ref 111), (1, .int (nI g)), (2, .int (nI c))]) (st2 := []) (w3 := w) rfl rfl ?_
        refine sx_RP.step (pc2 := 77) (ls2 := [(5, .int 4), (4, .int (nI 1)), (3, .int 2), (0, .ref 111), (1, .int (nI g)), (2, .int (nI c))]) (st2 := [.int 4]) (w3 := w) rfl rfl ?_
        refine sx_RP.step (pc2 := 78) (ls2 := [(5, .int 4), (4, .int (nI 1)), (3, .int 2), (0, .ref 111), (1, .int (nI g)), (2, .int (nI c))]) (st2 := [.int 1, .int 4]) (w3 := w) rfl rfl ?_
        refine sx_RP.step (pc2 := 79) (ls2 := [(5, .int 4), (4, .int (nI 1)), (3, .int 2), (0, .ref 111), (1, .int (nI g)), (2, .int (nI c))]) (st2 := [.int 5]) (w3 := w) rfl rfl ?_
        refine sx_RP.ret (r := (some (.int 5))) rfl rfl ?_
        obtain rfl : k = 1 := (nI_eq (a := k) (b := 1) (by omega) (by decide)).mp ex4
        exact ⟨by first | rfl | decide, rfl⟩
      · refine sx_RP.step (pc2 := 80) (ls2 := [(5, .int 4), (4, .int (nI 2)), (3, .int 2), (0, .ref 111), (1, .int (nI g)), (2, .int (nI c))]) (st2 := []) (w3 := w) rfl rfl ?_
        refine sx_RP.step (pc2 := 82) (ls2 := [(5, .int 4), (4, .int (nI 2)), (3, .int 2), (0, .ref 111), (1, .int (nI g)), (2, .int (nI c))]) (st2 := [.int 4]) (w3 := w) rfl rfl ?_
        refine sx_RP.step (pc2 := 83) (ls2 := [(5, .int 4), (4, .int (nI 2)), (3, .int 2), (0, .ref 111), (1, .int (nI g)), (2, .int (nI c))]) (st2 := [.int 4, .int 4]) (w3 := w) rfl rfl ?_
        refine sx_RP.step (pc2 := 90) (ls2 := [(5, .int 4), (4, .int (nI 2)), (3, .int 2), (0, .ref 111), (1, .int (nI g)), (2, .int (nI c))]) (st2 := []) (w3 := w) rfl rfl ?_
        refine sx_RP.step (pc2 := 91) (ls2 := [(5, .int 4), (4, .int (nI 2)), (3, .int 2), (0, .ref 111), (1, .int (nI g)), (2, .int (nI c))]) (st2 := [.int 2]) (w3 := w) rfl rfl ?_
        refine sx_RP.ret (r := (some (.int 2))) rfl rfl ?_
        obtain rfl : k = 2 := (nI_eq (a := k) (b := 2) (by omega) (by decide)).mp ex4
        exact ⟨by first | rfl | decide, rfl⟩
      · refine sx_RP.step (pc2 := 116) (ls2 := [(5, .int 4), (4, .int (nI 3)), (3, .int 2), (0, .ref 111), (1, .int (nI g)), (2, .int (nI c))]) (st2 := []) (w3 := w) rfl rfl ?_
        refine sx_RP.step (pc2 := 118) (ls2 := [(5, .int 4), (4, .int (nI 3)), (3, .int 2), (0, .ref 111), (1, .int (nI g)), (2, .int (nI c))]) (st2 := [.int 4]) (w3 := w) rfl rfl ?_
        refine sx_RP.step (pc2 := 119) (ls2 := [(5, .int 4), (4, .int (nI 3)), (3, .int 2), (0, .ref 111), (1, .int (nI g)), (2, .int (nI c))]) (st2 := [.int 1, .int 4]) (w3 := w) rfl rfl ?_
        refine sx_RP.step (pc2 := 120) (ls2 := [(5, .int 4), (4, .int (nI 3)), (3, .int 2), (0, .ref 111), (1, .int (nI g)), (2, .int (nI c))]) (st2 := [.int 5]) (w3 := w) rfl rfl ?_
        refine sx_RP.step (pc2 := 121) (ls2 := [(5, .int 4), (4, .int (nI 3)), (3, .int 2), (0, .ref 111), (1, .int (nI g)), (2, .int (nI c))]) (st2 := [.ref 111, .int 5]) (w3 := w) rfl rfl ?_
        refine sx_RP.gf (v := .ref 112) rfl rfl hI.1.o111 rfl rfl (show _ = 124 from rfl) ?_
        refine sx_RP.step (pc2 := 126) (ls2 := [(5, .int 4), (4, .int (nI 3)), (3, .int 2), (0, .ref 111), (1, .int (nI g)), (2, .int (nI c))]) (st2 := [.int 55, .ref 112, .int 5]) (w3 := w) rfl rfl ?_
        refine sx_RP.step (pc2 := 127) (ls2 := [(5, .int 4), (4, .int (nI 3)), (3, .int 2), (0, .ref 111), (1, .int (nI g)), (2, .int (nI c))]) (st2 := [.int (nI c), .int 55, .ref 112, .int 5]) (w3 := w) rfl rfl ?_
        refine sx_RP.step (pc2 := 128) (ls2 := [(5, .int 4), (4, .int (nI 3)), (3, .int 2), (0, .ref 111), (1, .int (nI g)), (2, .int (nI c))]) (st2 := [.int (55 + (nI c)), .ref 112, .int 5]) (w3 := w) rfl rfl ?_
        rw [show (55 + (nI c) : Int32) = nI (55 + c) from nI_add 55 c]
        refine sx_RP.ild (c := (55 + c)) rfl hI.1.a112.1 hI.1.a112.2 (sx_in_nI (show (55 + c) < 172 by omega) (by decide)) (show (nI ((55 + c))).toNatClampNeg = (55 + c) from nI_clamp (by omega)) (show _ = 129 from rfl) ?_
        refine sx_RP.step (pc2 := 130) (ls2 := [(5, .int 4), (4, .int (nI 3)), (3, .int 2), (0, .ref 111), (1, .int (nI g)), (2, .int (nI c))]) (st2 := [.int (5 + ((ia w 112).getD ((55 + c)) 0))]) (w3 := w) rfl rfl ?_
        refine sx_RP.ret (r := (some (.int (5 + ((ia w 112).getD ((55 + c)) 0))))) rfl rfl ?_
        obtain rfl : k = 3 := (nI_eq (a := k) (b := 3) (by omega) (by decide)).mp ex4
        exact ⟨by first | rfl | decide, rfl⟩
      · refine sx_RP.step (pc2 := 80) (ls2 := [(5, .int 4), (4, .int (nI 4)), (3, .int 2), (0, .ref 111), (1, .int (nI g)), (2, .int (nI c))]) (st2 := []) (w3 := w) rfl rfl ?_
        refine sx_RP.step (pc2 := 82) (ls2 := [(5, .int 4), (4, .int (nI 4)), (3, .int 2), (0, .ref 111), (1, .int (nI g)), (2, .int (nI c))]) (st2 := [.int 4]) (w3 := w) rfl rfl ?_
        refine sx_RP.step (pc2 := 83) (ls2 := [(5, .int 4), (4, .int (nI 4)), (3, .int 2), (0, .ref 111), (1, .int (nI g)), (2, .int (nI c))]) (st2 := [.int 4, .int 4]) (w3 := w) rfl rfl ?_
        refine sx_RP.step (pc2 := 90) (ls2 := [(5, .int 4), (4, .int (nI 4)), (3, .int 2), (0, .ref 111), (1, .int (nI g)), (2, .int (nI c))]) (st2 := []) (w3 := w) rfl rfl ?_
        refine sx_RP.step (pc2 := 91) (ls2 := [(5, .int 4), (4, .int (nI 4)), (3, .int 2), (0, .ref 111), (1, .int (nI g)), (2, .int (nI c))]) (st2 := [.int 2]) (w3 := w) rfl rfl ?_
        refine sx_RP.ret (r := (some (.int 2))) rfl rfl ?_
        obtain rfl : k = 4 := (nI_eq (a := k) (b := 4) (by omega) (by decide)).mp ex4
        exact ⟨by first | rfl | decide, rfl⟩
      · refine sx_RP.step (pc2 := 92) (ls2 := [(5, .int 4), (4, .int (nI 5)), (3, .int 2), (0, .ref 111), (1, .int (nI g)), (2, .int (nI c))]) (st2 := []) (w3 := w) rfl rfl ?_
        refine sx_RP.step (pc2 := 93) (ls2 := [(5, .int 4), (4, .int (nI 5)), (3, .int 2), (0, .ref 111), (1, .int (nI g)), (2, .int (nI c))]) (st2 := [.int 2]) (w3 := w) rfl rfl ?_
        refine sx_RP.step (pc2 := 94) (ls2 := [(5, .int 4), (4, .int (nI 5)), (3, .int 2), (0, .ref 111), (1, .int (nI g)), (2, .int (nI c))]) (st2 := [.int 2, .int 2]) (w3 := w) rfl rfl ?_
        refine sx_RP.step (pc2 := 97) (ls2 := [(5, .int 4), (4, .int (nI 5)), (3, .int 2), (0, .ref 111), (1, .int (nI g)), (2, .int (nI c))]) (st2 := []) (w3 := w) rfl rfl ?_
        refine sx_RP.step (pc2 := 98) (ls2 := [(5, .int 4), (4, .int (nI 5)), (3, .int 2), (0, .ref 111), (1, .int (nI g)), (2, .int (nI c))]) (st2 := [.int 3]) (w3 := w) rfl rfl ?_
        refine sx_RP.step (pc2 := 115) (ls2 := [(5, .int 4), (4, .int (nI 5)), (3, .int 2), (0, .ref 111), (1, .int (nI g)), (2, .int (nI c))]) (st2 := [.int 3]) (w3 := w) rfl rfl ?_
        refine sx_RP.ret (r := (some (.int 3))) rfl rfl ?_
        obtain rfl : k = 5 := (nI_eq (a := k) (b := 5) (by omega) (by decide)).mp ex4
        exact ⟨by first | rfl | decide, rfl⟩
  obtain ⟨r9, w2, h1, rfl, rfl⟩ := h
  exact h1
set_option maxRecDepth 20000 in
set_option maxHeartbeats 4000000 in
theorem x147_3 {xs : Option (List Int32)} {d : Nat} {w : List sx_C} (hI : WI w) {g c k : Nat} (hg : g < 10) (hc : c < 48) (hk : k < 6) (ek : (ia w 112).getD (103 + 6 * g + 0) 0 = nI k) (es : (ia w 112).getD (7 + c) 0 = 3) : sx_RU xs (d + 1) 147 0 (lv_args 0 [.ref 111, .int (nI g), .int (nI c)]) [] w (some (.int (if 3 = 3 then -1 else tmV k 3 ((ia w 112).getD (55 + c) 0)))) w := by
  have h : sx_RP xs (d + 1) 147 0 (lv_args 0 [.ref 111, .int (nI g), .int (nI c)]) [] w (fun r9 w2 => r9 = some (.int (if 3 = 3 then -1 else tmV k 3 ((ia w 112).getD (55 + c) 0))) ∧ w2 = w) := by
    refine sx_RP.step (pc2 := 1) (ls2 := [(0, .ref 111), (1, .int (nI g)), (2, .int (nI c))]) (st2 := [.ref 111]) (w3 := w) rfl rfl ?_
    refine sx_RP.gf (v := .ref 112) rfl rfl hI.1.o111 rfl rfl (show _ = 4 from rfl) ?_
    refine sx_RP.step (pc2 := 6) (ls2 := [(0, .ref 111), (1, .int (nI g)), (2, .int (nI c))]) (st2 := [.int 7, .ref 112]) (w3 := w) rfl rfl ?_
    refine sx_RP.step (pc2 := 7) (ls2 := [(0, .ref 111), (1, .int (nI g)), (2, .int (nI c))]) (st2 := [.int (nI c), .int 7, .ref 112]) (w3 := w) rfl rfl ?_
    refine sx_RP.step (pc2 := 8) (ls2 := [(0, .ref 111), (1, .int (nI g)), (2, .int (nI c))]) (st2 := [.int (7 + (nI c)), .ref 112]) (w3 := w) rfl rfl ?_
    rw [show (7 + (nI c) : Int32) = nI (7 + c) from nI_add 7 c]
    refine sx_RP.ild (c := (7 + c)) rfl hI.1.a112.1 hI.1.a112.2 (sx_in_nI (show (7 + c) < 172 by omega) (by decide)) (show (nI (7 + c)).toNatClampNeg = (7 + c) from nI_clamp (by omega)) (show _ = 9 from rfl) ?_
    rw [es]
    refine sx_RP.step (pc2 := 10) (ls2 := [(3, .int 3), (0, .ref 111), (1, .int (nI g)), (2, .int (nI c))]) (st2 := []) (w3 := w) rfl rfl ?_
    refine sx_RP.step (pc2 := 11) (ls2 := [(3, .int 3), (0, .ref 111), (1, .int (nI g)), (2, .int (nI c))]) (st2 := [.int 3]) (w3 := w) rfl rfl ?_
    refine sx_RP.step (pc2 := 12) (ls2 := [(3, .int 3), (0, .ref 111), (1, .int (nI g)), (2, .int (nI c))]) (st2 := [.int 3, .int 3]) (w3 := w) rfl rfl ?_
    refine sx_RP.step (pc2 := 15) (ls2 := [(3, .int 3), (0, .ref 111), (1, .int (nI g)), (2, .int (nI c))]) (st2 := []) (w3 := w) rfl rfl ?_
    refine sx_RP.step (pc2 := 16) (ls2 := [(3, .int 3), (0, .ref 111), (1, .int (nI g)), (2, .int (nI c))]) (st2 := [.int (-1)]) (w3 := w) rfl rfl ?_
    refine sx_RP.ret (r := (some (.int (-1)))) rfl rfl ?_
    exact ⟨by first | rfl | decide, rfl⟩
  obtain ⟨r9, w2, h1, rfl, rfl⟩ := h
  exact h1
theorem x147 {xs : Option (List Int32)} {d : Nat} {w : List sx_C} (hI : WI w) {g c k s : Nat} (hg : g < 10) (hc : c < 48) (hk : k < 6) (ek : (ia w 112).getD (103 + 6 * g + 0) 0 = nI k) (hs : s < 4) (es : (ia w 112).getD (7 + c) 0 = nI s) : sx_RU xs (d + 1) 147 0 (lv_args 0 [.ref 111, .int (nI g), .int (nI c)]) [] w (some (.int (if s = 3 then -1 else tmV k s ((ia w 112).getD (55 + c) 0)))) w := by
  rcases (show s = 0 ∨ s = 1 ∨ s = 2 ∨ s = 3 by omega) with rfl | rfl | rfl | rfl
  · exact x147_0 hI hg hc hk ek es
  · exact x147_1 hI hg hc hk ek es
  · exact x147_2 hI hg hc hk ek es
  · exact x147_3 hI hg hc hk ek es
set_option maxRecDepth 20000 in
set_option maxHeartbeats 4000000 in
theorem x162_0 {xs : Option (List Int32)} {d : Nat} {w : List sx_C} (hI : WI w) {c k : Nat} (hc : c < 48) (hk : k < 6) (es : (ia w 112).getD (7 + c) 0 = 0) : sx_RU xs (d + 1) 162 0 (lv_args 0 [.ref 111, .int (nI k), .int (nI c)]) [] w (some (.int (ldV k 0))) w := by
  have h : sx_RP xs (d + 1) 162 0 (lv_args 0 [.ref 111, .int (nI k), .int (nI c)]) [] w (fun r9 w2 => r9 = some (.int (ldV k 0)) ∧ w2 = w) := by
    refine sx_RP.step (pc2 := 1) (ls2 := [(0, .ref 111), (1, .int (nI k)), (2, .int (nI c))]) (st2 := [.ref 111]) (w3 := w) rfl rfl ?_
    refine sx_RP.gf (v := .ref 112) rfl rfl hI.1.o111 rfl rfl (show _ = 4 from rfl) ?_
    refine sx_RP.step (pc2 := 6) (ls2 := [(0, .ref 111), (1, .int (nI k)), (2, .int (nI c))]) (st2 := [.int 7, .ref 112]) (w3 := w) rfl rfl ?_
    refine sx_RP.step (pc2 := 7) (ls2 := [(0, .ref 111), (1, .int (nI k)), (2, .int (nI c))]) (st2 := [.int (nI c), .int 7, .ref 112]) (w3 := w) rfl rfl ?_
    refine sx_RP.step (pc2 := 8) (ls2 := [(0, .ref 111), (1, .int (nI k)), (2, .int (nI c))]) (st2 := [.int (7 + (nI c)), .ref 112]) (w3 := w) rfl rfl ?_
    rw [show (7 + (nI c) : Int32) = nI (7 + c) from nI_add 7 c]
    refine sx_RP.ild (c := (7 + c)) rfl hI.1.a112.1 hI.1.a112.2 (sx_in_nI (show (7 + c) < 172 by omega) (by decide)) (show (nI (7 + c)).toNatClampNeg = (7 + c) from nI_clamp (by omega)) (show _ = 9 from rfl) ?_
    rw [es]
    refine sx_RP.cu (as := [.int 0]) (rest2 := []) (st3 := [.int 12]) rfl rfl rfl rfl rfl (frI_ok (t163 0 (by decide)) _ _ _) rfl ?_
    refine sx_RP.step (pc2 := 13) (ls2 := [(3, .int 12), (0, .ref 111), (1, .int (nI k)), (2, .int (nI c))]) (st2 := []) (w3 := w) rfl rfl ?_
    refine sx_RP.step (pc2 := 14) (ls2 := [(3, .int 12), (0, .ref 111), (1, .int (nI k)), (2, .int (nI c))]) (st2 := [.int 12]) (w3 := w) rfl rfl ?_
    refine sx_RP.step (pc2 := 15) (ls2 := [(3, .int 12), (0, .ref 111), (1, .int (nI k)), (2, .int (nI c))]) (st2 := [.int 2, .int 12]) (w3 := w) rfl rfl ?_
    refine sx_RP.step (pc2 := 22) (ls2 := [(3, .int 12), (0, .ref 111), (1, .int (nI k)), (2, .int (nI c))]) (st2 := []) (w3 := w) rfl rfl ?_
    refine sx_RP.step (pc2 := 23) (ls2 := [(3, .int 12), (0, .ref 111), (1, .int (nI k)), (2, .int (nI c))]) (st2 := [.int 12]) (w3 := w) rfl rfl ?_
    refine sx_RP.step (pc2 := 24) (ls2 := [(3, .int 12), (0, .ref 111), (1, .int (nI k)), (2, .int (nI c))]) (st2 := [.int 2, .int 12]) (w3 := w) rfl rfl ?_
    refine sx_RP.step (pc2 := 25) (ls2 := [(3, .int 12), (0, .ref 111), (1, .int (nI k)), (2, .int (nI c))]) (st2 := [.int 10]) (w3 := w) rfl rfl ?_
    refine sx_RP.step (pc2 := 27) (ls2 := [(4, .int 10), (3, .int 12), (0, .ref 111), (1, .int (nI k)), (2, .int (nI c))]) (st2 := []) (w3 := w) rfl rfl ?_
    refine sx_RP.step (pc2 := 28) (ls2 := [(4, .int 10), (3, .int 12), (0, .ref 111), (1, .int (nI k)), (2, .int (nI c))]) (st2 := [.int (nI k)]) (w3 := w) rfl rfl ?_
    rcases sw_cases (n := 4) (nI k) with q1 | ⟨x2, hx3, ex4⟩
    · refine sx_RP.swo (t := 79) rfl q1 rfl ?_
      refine sx_RP.step (pc2 := 81) (ls2 := [(4, .int 10), (3, .int 12), (0, .ref 111), (1, .int (nI k)), (2, .int (nI c))]) (st2 := [.int 10]) (w3 := w) rfl rfl ?_
      refine sx_RP.step (pc2 := 82) (ls2 := [(4, .int 10), (3, .int 12), (0, .ref 111), (1, .int (nI k)), (2, .int (nI c))]) (st2 := [.int 2, .int 10]) (w3 := w) rfl rfl ?_
      refine sx_RP.step (pc2 := 83) (ls2 := [(4, .int 10), (3, .int 12), (0, .ref 111), (1, .int (nI k)), (2, .int (nI c))]) (st2 := [.int 5]) (w3 := w) rfl rfl ?_
      refine sx_RP.ret (r := (some (.int 5))) rfl rfl ?_
      obtain rfl := sw5 hk (by assumption)
      exact ⟨by first | rfl | decide, rfl⟩
    · rw [ex4]
      rcases (show x2 = 0 ∨ x2 = 1 ∨ x2 = 2 ∨ x2 = 3 ∨ x2 = 4 by omega) with rfl | rfl | rfl | rfl | rfl
      · refine sx_RP.step (pc2 := 64) (ls2 := [(4, .int 10), (3, .int 12), (0, .ref 111), (1, .int (nI 0)), (2, .int (nI c))]) (st2 := []) (w3 := w) rfl rfl ?_
        refine sx_RP.step (pc2 := 65) (ls2 := [(4, .int 10), (3, .int 12), (0, .ref 111), (1, .int (nI 0)), (2, .int (nI c))]) (st2 := [.int 12]) (w3 := w) rfl rfl ?_
        refine sx_RP.ret (r := (some (.int 12))) rfl rfl ?_
        obtain rfl : k = 0 := (nI_eq (a := k) (b := 0) (by omega) (by decide)).mp ex4
        exact ⟨by first | rfl | decide, rfl⟩
      · refine sx_RP.step (pc2 := 66) (ls2 := [(4, .int 10), (3, .int 12), (0, .ref 111), (1, .int (nI 1)), (2, .int (nI c))]) (st2 := []) (w3 := w) rfl rfl ?_
        refine sx_RP.step (pc2 := 68) (ls2 := [(4, .int 10), (3, .int 12), (0, .ref 111), (1, .int (nI 1)), (2, .int (nI c))]) (st2 := [.int 10]) (w3 := w) rfl rfl ?_
        refine sx_RP.ret (r := (some (.int 10))) rfl rfl ?_
        obtain rfl : k = 1 := (nI_eq (a := k) (b := 1) (by omega) (by decide)).mp ex4
        exact ⟨by first | rfl | decide, rfl⟩
      · refine sx_RP.step (pc2 := 69) (ls2 := [(4, .int 10), (3, .int 12), (0, .ref 111), (1, .int (nI 2)), (2, .int (nI c))]) (st2 := []) (w3 := w) rfl rfl ?_
        refine sx_RP.step (pc2 := 70) (ls2 := [(4, .int 10), (3, .int 12), (0, .ref 111), (1, .int (nI 2)), (2, .int (nI c))]) (st2 := [.int 12]) (w3 := w) rfl rfl ?_
        refine sx_RP.step (pc2 := 71) (ls2 := [(4, .int 10), (3, .int 12), (0, .ref 111), (1, .int (nI 2)), (2, .int (nI c))]) (st2 := [.int 2, .int 12]) (w3 := w) rfl rfl ?_
        refine sx_RP.step (pc2 := 72) (ls2 := [(4, .int 10), (3, .int 12), (0, .ref 111), (1, .int (nI 2)), (2, .int (nI c))]) (st2 := [.int 6]) (w3 := w) rfl rfl ?_
        refine sx_RP.ret (r := (some (.int 6))) rfl rfl ?_
        obtain rfl : k = 2 := (nI_eq (a := k) (b := 2) (by omega) (by decide)).mp ex4
        exact ⟨by first | rfl | decide, rfl⟩
      · refine sx_RP.step (pc2 := 79) (ls2 := [(4, .int 10), (3, .int 12), (0, .ref 111), (1, .int (nI 3)), (2, .int (nI c))]) (st2 := []) (w3 := w) rfl rfl ?_
        refine sx_RP.step (pc2 := 81) (ls2 := [(4, .int 10), (3, .int 12), (0, .ref 111), (1, .int (nI 3)), (2, .int (nI c))]) (st2 := [.int 10]) (w3 := w) rfl rfl ?_
        refine sx_RP.step (pc2 := 82) (ls2 := [(4, .int 10), (3, .int 12), (0, .ref 111), (1, .int (nI 3)), (2, .int (nI c))]) (st2 := [.int 2, .int 10]) (w3 := w) rfl rfl ?_
        refine sx_RP.step (pc2 := 83) (ls2 := [(4, .int 10), (3, .int 12), (0, .ref 111), (1, .int (nI 3)), (2, .int (nI c))]) (st2 := [.int 5]) (w3 := w) rfl rfl ?_
        refine sx_RP.ret (r := (some (.int 5))) rfl rfl ?_
        obtain rfl : k = 3 := (nI_eq (a := k) (b := 3) (by omega) (by decide)).mp ex4
        exact ⟨by first | rfl | decide, rfl⟩
      · refine sx_RP.step (pc2 := 73) (ls2 := [(4, .int 10), (3, .int 12), (0, .ref 111), (1, .int (nI 4)), (2, .int (nI c))]) (st2 := []) (w3 := w) rfl rfl ?_
        refine sx_RP.step (pc2 := 74) (ls2 := [(4, .int 10), (3, .int 12), (0, .ref 111), (1, .int (nI 4)), (2, .int (nI c))]) (st2 := [.int 3]) (w3 := w) rfl rfl ?_
        refine sx_RP.step (pc2 := 75) (ls2 := [(4, .int 10), (3, .int 12), (0, .ref 111), (1, .int (nI 4)), (2, .int (nI c))]) (st2 := [.int 12, .int 3]) (w3 := w) rfl rfl ?_
        refine sx_RP.step (pc2 := 76) (ls2 := [(4, .int 10), (3, .int 12), (0, .ref 111), (1, .int (nI 4)), (2, .int (nI c))]) (st2 := [.int 2, .int 12, .int 3]) (w3 := w) rfl rfl ?_
        refine sx_RP.step (pc2 := 77) (ls2 := [(4, .int 10), (3, .int 12), (0, .ref 111), (1, .int (nI 4)), (2, .int (nI c))]) (st2 := [.int 6, .int 3]) (w3 := w) rfl rfl ?_
        refine sx_RP.step (pc2 := 78) (ls2 := [(4, .int 10), (3, .int 12), (0, .ref 111), (1, .int (nI 4)), (2, .int (nI c))]) (st2 := [.int 18]) (w3 := w) rfl rfl ?_
        refine sx_RP.ret (r := (some (.int 18))) rfl rfl ?_
        obtain rfl : k = 4 := (nI_eq (a := k) (b := 4) (by omega) (by decide)).mp ex4
        exact ⟨by first | rfl | decide, rfl⟩
  obtain ⟨r9, w2, h1, rfl, rfl⟩ := h
  exact h1
set_option maxRecDepth 20000 in
set_option maxHeartbeats 4000000 in
theorem x162_1 {xs : Option (List Int32)} {d : Nat} {w : List sx_C} (hI : WI w) {c k : Nat} (hc : c < 48) (hk : k < 6) (es : (ia w 112).getD (7 + c) 0 = 1) : sx_RU xs (d + 1) 162 0 (lv_args 0 [.ref 111, .int (nI k), .int (nI c)]) [] w (some (.int (ldV k 1))) w := by
  have h : sx_RP xs (d + 1) 162 0 (lv_args 0 [.ref 111, .int (nI k), .int (nI c)]) [] w (fun r9 w2 => r9 = some (.int (ldV k 1)) ∧ w2 = w) := by
    refine sx_RP.step (pc2 := 1) (ls2 := [(0, .ref 111), (1, .int (nI k)), (2, .int (nI c))]) (st2 := [.ref 111]) (w3 := w) rfl rfl ?_
    refine sx_RP.gf (v := .ref 112) rfl rfl hI.1.o111 rfl rfl (show _ = 4 from rfl) ?_
    refine sx_RP.step (pc2 := 6) (ls2 := [(0, .ref 111), (1, .int (nI k)), (2, .int (nI c))]) (st2 := [.int 7, .ref 112]) (w3 := w) rfl rfl ?_
    refine sx_RP.step (pc2 := 7) (ls2 := [(0, .ref 111), (1, .int (nI k)), (2, .int (nI c))]) (st2 := [.int (nI c), .int 7, .ref 112]) (w3 := w) rfl rfl ?_
    refine sx_RP.step (pc2 := 8) (ls2 := [(0, .ref 111), (1, .int (nI k)), (2, .int (nI c))]) (st2 := [.int (7 + (nI c)), .ref 112]) (w3 := w) rfl rfl ?_
    rw [show (7 + (nI c) : Int32) = nI (7 + c) from nI_add 7 c]
    refine sx_RP.ild (c := (7 + c)) rfl hI.1.a112.1 hI.1.a112.2 (sx_in_nI (show (7 + c) < 172 by omega) (by decide)) (show (nI (7 + c)).toNatClampNeg = (7 + c) from nI_clamp (by omega)) (show _ = 9 from rfl) ?_
    rw [es]
    refine sx_RP.cu (as := [.int 1]) (rest2 := []) (st3 := [.int 8]) rfl rfl rfl rfl rfl (frI_ok (t163 1 (by decide)) _ _ _) rfl ?_
    refine sx_RP.step (pc2 := 13) (ls2 := [(3, .int 8), (0, .ref 111), (1, .int (nI k)), (2, .int (nI c))]) (st2 := []) (w3 := w) rfl rfl ?_
    refine sx_RP.step (pc2 := 14) (ls2 := [(3, .int 8), (0, .ref 111), (1, .int (nI k)), (2, .int (nI c))]) (st2 := [.int 8]) (w3 := w) rfl rfl ?_
    refine sx_RP.step (pc2 := 15) (ls2 := [(3, .int 8), (0, .ref 111), (1, .int (nI k)), (2, .int (nI c))]) (st2 := [.int 2, .int 8]) (w3 := w) rfl rfl ?_
    refine sx_RP.step (pc2 := 22) (ls2 := [(3, .int 8), (0, .ref 111), (1, .int (nI k)), (2, .int (nI c))]) (st2 := []) (w3 := w) rfl rfl ?_
    refine sx_RP.step (pc2 := 23) (ls2 := [(3, .int 8), (0, .ref 111), (1, .int (nI k)), (2, .int (nI c))]) (st2 := [.int 8]) (w3 := w) rfl rfl ?_
    refine sx_RP.step (pc2 := 24) (ls2 := [(3, .int 8), (0, .ref 111), (1, .int (nI k)), (2, .int (nI c))]) (st2 := [.int 2, .int 8]) (w3 := w) rfl rfl ?_
    refine sx_RP.step (pc2 := 25) (ls2 := [(3, .int 8), (0, .ref 111), (1, .int (nI k)), (2, .int (nI c))]) (st2 := [.int 6]) (w3 := w) rfl rfl ?_
    refine sx_RP.step (pc2 := 27) (ls2 := [(4, .int 6), (3, .int 8), (0, .ref 111), (1, .int (nI k)), (2, .int (nI c))]) (st2 := []) (w3 := w) rfl rfl ?_
    refine sx_RP.step (pc2 := 28) (ls2 := [(4, .int 6), (3, .int 8), (0, .ref 111), (1, .int (nI k)), (2, .int (nI c))]) (st2 := [.int (nI k)]) (w3 := w) rfl rfl ?_
    rcases sw_cases (n := 4) (nI k) with q1 | ⟨x2, hx3, ex4⟩
    · refine sx_RP.swo (t := 79) rfl q1 rfl ?_
      refine sx_RP.step (pc2 := 81) (ls2 := [(4, .int 6), (3, .int 8), (0, .ref 111), (1, .int (nI k)), (2, .int (nI c))]) (st2 := [.int 6]) (w3 := w) rfl rfl ?_
      refine sx_RP.step (pc2 := 82) (ls2 := [(4, .int 6), (3, .int 8), (0, .ref 111), (1, .int (nI k)), (2, .int (nI c))]) (st2 := [.int 2, .int 6]) (w3 := w) rfl rfl ?_
      refine sx_RP.step (pc2 := 83) (ls2 := [(4, .int 6), (3, .int 8), (0, .ref 111), (1, .int (nI k)), (2, .int (nI c))]) (st2 := [.int 3]) (w3 := w) rfl rfl ?_
      refine sx_RP.ret (r := (some (.int 3))) rfl rfl ?_
      obtain rfl := sw5 hk (by assumption)
      exact ⟨by first | rfl | decide, rfl⟩
    · rw [ex4]
      rcases (show x2 = 0 ∨ x2 = 1 ∨ x2 = 2 ∨ x2 = 3 ∨ x2 = 4 by omega) with rfl | rfl | rfl | rfl | rfl
      · refine sx_RP.step (pc2 := 64) (ls2 := [(4, .int 6), (3, .int 8), (0, .ref 111), (1, .int (nI 0)), (2, .int (nI c))]) (st2 := []) (w3 := w) rfl rfl ?_
        refine sx_RP.step (pc2 := 65) (ls2 := [(4, .int 6), (3, .int 8), (0, .ref 111), (1, .int (nI 0)), (2, .int (nI c))]) (st2 := [.int 8]) (w3 := w) rfl rfl ?_
        refine sx_RP.ret (r := (some (.int 8))) rfl rfl ?_
        obtain rfl : k = 0 := (nI_eq (a := k) (b := 0) (by omega) (by decide)).mp ex4
        exact ⟨by first | rfl | decide, rfl⟩
      · refine sx_RP.step (pc2 := 66) (ls2 := [(4, .int 6), (3, .int 8), (0, .ref 111), (1, .int (nI 1)), (2, .int (nI c))]) (st2 := []) (w3 := w) rfl rfl ?_
        refine sx_RP.step (pc2 := 68) (ls2 := [(4, .int 6), (3, .int 8), (0, .ref 111), (1, .int (nI 1)), (2, .int (nI c))]) (st2 := [.int 6]) (w3 := w) rfl rfl ?_
        refine sx_RP.ret (r := (some (.int 6))) rfl rfl ?_
        obtain rfl : k = 1 := (nI_eq (a := k) (b := 1) (by omega) (by decide)).mp ex4
        exact ⟨by first | rfl | decide, rfl⟩
      · refine sx_RP.step (pc2 := 69) (ls2 := [(4, .int 6), (3, .int 8), (0, .ref 111), (1, .int (nI 2)), (2, .int (nI c))]) (st2 := []) (w3 := w) rfl rfl ?_
        refine sx_RP.step (pc2 := 70) (ls2 := [(4, .int 6), (3, .int 8), (0, .ref 111), (1, .int (nI 2)), (2, .int (nI c))]) (st2 := [.int 8]) (w3 := w) rfl rfl ?_
        refine sx_RP.step (pc2 := 71) (ls2 := [(4, .int 6), (3, .int 8), (0, .ref 111), (1, .int (nI 2)), (2, .int (nI c))]) (st2 := [.int 2, .int 8]) (w3 := w) rfl rfl ?_
        refine sx_RP.step (pc2 := 72) (ls2 := [(4, .int 6), (3, .int 8), (0, .ref 111), (1, .int (nI 2)), (2, .int (nI c))]) (st2 := [.int 4]) (w3 := w) rfl rfl ?_
        refine sx_RP.ret (r := (some (.int 4))) rfl rfl ?_
        obtain rfl : k = 2 := (nI_eq (a := k) (b := 2) (by omega) (by decide)).mp ex4
        exact ⟨by first | rfl | decide, rfl⟩
      · refine sx_RP.step (pc2 := 79) (ls2 := [(4, .int 6), (3, .int 8), (0, .ref 111), (1, .int (nI 3)), (2, .int (nI c))]) (st2 := []) (w3 := w) rfl rfl ?_
        refine sx_RP.step (pc2 := 81) (ls2 := [(4, .int 6), (3, .int 8), (0, .ref 111), (1, .int (nI 3)), (2, .int (nI c))]) (st2 := [.int 6]) (w3 := w) rfl rfl ?_
        refine sx_RP.step (pc2 := 82) (ls2 := [(4, .int 6), (3, .int 8), (0, .ref 111), (1, .int (nI 3)), (2, .int (nI c))]) (st2 := [.int 2, .int 6]) (w3 := w) rfl rfl ?_
        refine sx_RP.step (pc2 := 83) (ls2 := [(4, .int 6), (3, .int 8), (0, .ref 111), (1, .int (nI 3)), (2, .int (nI c))]) (st2 := [.int 3]) (w3 := w) rfl rfl ?_
        refine sx_RP.ret (r := (some (.int 3))) rfl rfl ?_
        obtain rfl : k = 3 := (nI_eq (a := k) (b := 3) (by omega) (by decide)).mp ex4
        exact ⟨by first | rfl | decide, rfl⟩
      · refine sx_RP.step (pc2 := 73) (ls2 := [(4, .int 6), (3, .int 8), (0, .ref 111), (1, .int (nI 4)), (2, .int (nI c))]) (st2 := []) (w3 := w) rfl rfl ?_
        refine sx_RP.step (pc2 := 74) (ls2 := [(4, .int 6), (3, .int 8), (0, .ref 111), (1, .int (nI 4)), (2, .int (nI c))]) (st2 := [.int 3]) (w3 := w) rfl rfl ?_
        refine sx_RP.step (pc2 := 75) (ls2 := [(4, .int 6), (3, .int 8), (0, .ref 111), (1, .int (nI 4)), (2, .int (nI c))]) (st2 := [.int 8, .int 3]) (w3 := w) rfl rfl ?_
        refine sx_RP.step (pc2 := 76) (ls2 := [(4, .int 6), (3, .int 8), (0, .ref 111), (1, .int (nI 4)), (2, .int (nI c))]) (st2 := [.int 2, .int 8, .int 3]) (w3 := w) rfl rfl ?_
        refine sx_RP.step (pc2 := 77) (ls2 := [(4, .int 6), (3, .int 8), (0, .ref 111), (1, .int (nI 4)), (2, .int (nI c))]) (st2 := [.int 4, .int 3]) (w3 := w) rfl rfl ?_
        refine sx_RP.step (pc2 := 78) (ls2 := [(4, .int 6), (3, .int 8), (0, .ref 111), (1, .int (nI 4)), (2, .int (nI c))]) (st2 := [.int 12]) (w3 := w) rfl rfl ?_
        refine sx_RP.ret (r := (some (.int 12))) rfl rfl ?_
        obtain rfl : k = 4 := (nI_eq (a := k) (b := 4) (by omega) (by decide)).mp ex4
        exact ⟨by first | rfl | decide, rfl⟩
  obtain ⟨r9, w2, h1, rfl, rfl⟩ := h
  exact h1
set_option maxRecDepth 20000 in
set_option maxHeartbeats 4000000 in
theorem x162_2 {xs : Option (List Int32)} {d : Nat} {w : List sx_C} (hI : WI w) {c k : Nat} (hc : c < 48) (hk : k < 6) (es : (ia w 112).getD (7 + c) 0 = 2) : sx_RU xs (d + 1) 162 0 (lv_args 0 [.ref 111, .int (nI k), .int (nI c)]) [] w (some (.int (ldV k 2))) w := by
  have h : sx_RP xs (d + 1) 162 0 (lv_args 0 [.ref 111, .int (nI k), .int (nI c)]) [] w (fun r9 w2 => r9 = some (.int (ldV k 2)) ∧ w2 = w) := by
    refine sx_RP.step (pc2 := 1) (ls2 := [(0, .ref 111), (1, .int (nI k)), (2, .int (nI c))]) (st2 := [.ref 111]) (w3 := w) rfl rfl ?_
    refine sx_RP.gf (v := .ref 112) rfl rfl hI.1.o111 rfl rfl (show _ = 4 from rfl) ?_
    refine sx_RP.step (pc2 := 6) (ls2 := [(0, .ref 111), (1, .int (nI k)), (2, .int (nI c))]) (st2 := [.int 7, .ref 112]) (w3 := w) rfl rfl ?_
    refine sx_RP.step (pc2 := 7) (ls2 := [(0, .ref 111), (1, .int (nI k)), (2, .int (nI c))]) (st2 := [.int (nI c), .int 7, .ref 112]) (w3 := w) rfl rfl ?_
    refine sx_RP.step (pc2 := 8) (ls2 := [(0, .ref 111), (1, .int (nI k)), (2, .int (nI c))]) (st2 := [.int (7 + (nI c)), .ref 112]) (w3 := w) rfl rfl ?_
    rw [show (7 + (nI c) : Int32) = nI (7 + c) from nI_add 7 c]
    refine sx_RP.ild (c := (7 + c)) rfl hI.1.a112.1 hI.1.a112.2 (sx_in_nI (show (7 + c) < 172 by omega) (by decide)) (show (nI (7 + c)).toNatClampNeg = (7 + c) from nI_clamp (by omega)) (show _ = 9 from rfl) ?_
    rw [es]
    refine sx_RP.cu (as := [.int 2]) (rest2 := []) (st3 := [.int 20]) rfl rfl rfl rfl rfl (frI_ok (t163 2 (by decide)) _ _ _) rfl ?_
    refine sx_RP.step (pc2 := 13) (ls2 := [(3, .int 20), (0, .ref 111), (1, .int (nI k)), (2, .int (nI c))]) (st2 := []) (w3 := w) rfl rfl ?_
    refine sx_RP.step (pc2 := 14) (ls2 := [(3, .int 20), (0, .ref 111), (1, .int (nI k)), (2, .int (nI c))]) (st2 := [.int 20]) (w3 := w) rfl rfl ?_
    refine sx_RP.step (pc2 := 15) (ls2 := [(3, .int 20), (0, .ref 111), (1, .int (nI k)), (2, .int (nI c))]) (st2 := [.int 2, .int 20]) (w3 := w) rfl rfl ?_
    refine sx_RP.step (pc2 := 22) (ls2 := [(3, .int 20), (0, .ref 111), (1, .int (nI k)), (2, .int (nI c))]) (st2 := []) (w3 := w) rfl rfl ?_
    refine sx_RP.step (pc2 := 23) (ls2 := [(3, .int 20), (0, .ref 111), (1, .int (nI k)), (2, .int (nI c))]) (st2 := [.int 20]) (w3 := w) rfl rfl ?_
    refine sx_RP.step (pc2 := 24) (ls2 := [(3, .int 20), (0, .ref 111), (1, .int (nI k)), (2, .int (nI c))]) (st2 := [.int 2, .int 20]) (w3 := w) rfl rfl ?_
    refine sx_RP.step (pc2 := 25) (ls2 := [(3, .int 20), (0, .ref 111), (1, .int (nI k)), (2, .int (nI c))]) (st2 := [.int 18]) (w3 := w) rfl rfl ?_
    refine sx_RP.step (pc2 := 27) (ls2 := [(4, .int 18), (3, .int 20), (0, .ref 111), (1, .int (nI k)), (2, .int (nI c))]) (st2 := []) (w3 := w) rfl rfl ?_
    refine sx_RP.step (pc2 := 28) (ls2 := [(4, .int 18), (3, .int 20), (0, .ref 111), (1, .int (nI k)), (2, .int (nI c))]) (st2 := [.int (nI k)]) (w3 := w) rfl rfl ?_
    rcases sw_cases (n := 4) (nI k) with q1 | ⟨x2, hx3, ex4⟩
    · refine sx_RP.swo (t := 79) rfl q1 rfl ?_
      refine sx_RP.step (pc2 := 81) (ls2 := [(4, .int 18), (3, .int 20), (0, .ref 111), (1, .int (nI k)), (2, .int (nI c))]) (st2 := [.int 18]) (w3 := w) rfl rfl ?_
      refine sx_RP.step (pc2 := 82) (ls2 := [(4, .int 18), (3, .int 20), (0, .ref 111), (1, .int (nI k)), (2, .int (nI c))]) (st2 := [.int 2, .int 18]) (w3 := w) rfl rfl ?_
      refine sx_RP.step (pc2 := 83) (ls2 := [(4, .int 18), (3, .int 20), (0, .ref 111), (1, .int (nI k)), (2, .int (nI c))]) (st2 := [.int 9]) (w3 := w) rfl rfl ?_
      refine sx_RP.ret (r := (some (.int 9))) rfl rfl ?_
      obtain rfl := sw5 hk (by assumption)
      exact ⟨by first | rfl | decide, rfl⟩
    · rw [ex4]
      rcases (show x2 = 0 ∨ x2 = 1 ∨ x2 = 2 ∨ x2 = 3 ∨ x2 = 4 by omega) with rfl | rfl | rfl | rfl | rfl
      · refine sx_RP.step (pc2 := 64) (ls2 := [(4, .int 18), (3, .int 20), (0, .ref 111), (1, .int (nI 0)), (2, .int (nI c))]) (st2 := []) (w3 := w) rfl rfl ?_
        refine sx_RP.step (pc2 := 65) (ls2 := [(4, .int 18), (3, .int 20), (0, .ref 111), (1, .int (nI 0)), (2, .int (nI c))]) (st2 := [.int 20]) (w3 := w) rfl rfl ?_
        refine sx_RP.ret (r := (some (.int 20))) rfl rfl ?_
        obtain rfl : k = 0 := (nI_eq (a := k) (b := 0) (by omega) (by decide)).mp ex4
        exact ⟨by first | rfl | decide, rfl⟩
      · refine sx_RP.step (pc2 := 66) (ls2 := [(4, .int 18), (3, .int 20), (0, .ref 111), (1, .int (nI 1)), (2, .int (nI c))]) (st2 := []) (w3 := w) rfl rfl ?_
        refine sx_RP.step (pc2 := 68) (ls2 := [(4, .int 18), (3, .int 20), (0, .ref 111), (1, .int (nI 1)), (2, .int (nI c))]) (st2 := [.int 18]) (w3 := w) rfl rfl ?_
        refine sx_RP.ret (r := (some (.int 18))) rfl rfl ?_
        obtain rfl : k = 1 := (nI_eq (a := k) (b := 1) (by omega) (by decide)).mp ex4
        exact ⟨by first | rfl | decide, rfl⟩
      · refine sx_RP.step (pc2 := 69) (ls2 := [(4, .int 18), (3, .int 20), (0, .ref 111), (1, .int (nI 2)), (2, .int (nI c))]) (st2 := []) (w3 := w) rfl rfl ?_
        refine sx_RP.step (pc2 := 70) (ls2 := [(4, .int 18), (3, .int 20), (0, .ref 111), (1, .int (nI 2)), (2, .int (nI c))]) (st2 := [.int 20]) (w3 := w) rfl rfl ?_
        refine sx_RP.step (pc2 := 71) (ls2 := [(4, .int 18), (3, .int 20), (0, .ref 111), (1, .int (nI 2)), (2, .int (nI c))]) (st2 := [.int 2, .int 20]) (w3 := w) rfl rfl ?_
        refine sx_RP.step (pc2 := 72) (ls2 := [(4, .int 18), (3, .int 20), (0, .ref 111), (1, .int (nI 2)), (2, .int (nI c))]) (st2 := [.int 10]) (w3 := w) rfl rfl ?_
        refine sx_RP.ret (r := (some (.int 10))) rfl rfl ?_
        obtain rfl : k = 2 := (nI_eq (a := k) (b := 2) (by omega) (by decide)).mp ex4
        exact ⟨by first | rfl | decide, rfl⟩
      · refine sx_RP.step (pc2 := 79) (ls2 := [(4, .int 18), (3, .int 20), (0, .ref 111), (1, .int (nI 3)), (2, .int (nI c))]) (st2 := []) (w3 := w) rfl rfl ?_
        refine sx_RP.step (pc2 := 81) (ls2 := [(4, .int 18), (3, .int 20), (0, .ref 111), (1, .int (nI 3)), (2, .int (nI c))]) (st2 := [.int 18]) (w3 := w) rfl rfl ?_
        refine sx_RP.step (pc2 := 82) (ls2 := [(4, .int 18), (3, .int 20), (0, .ref 111), (1, .int (nI 3)), (2, .int (nI c))]) (st2 := [.int 2, .int 18]) (w3 := w) rfl rfl ?_
        refine sx_RP.step (pc2 := 83) (ls2 := [(4, .int 18), (3, .int 20), (0, .ref 111), (1, .int (nI 3)), (2, .int (nI c))]) (st2 := [.int 9]) (w3 := w) rfl rfl ?_
        refine sx_RP.ret (r := (some (.int 9))) rfl rfl ?_
        obtain rfl : k = 3 := (nI_eq (a := k) (b := 3) (by omega) (by decide)).mp ex4
        exact ⟨by first | rfl | decide, rfl⟩
      · refine sx_RP.step (pc2 := 73) (ls2 := [(4, .int 18), (3, .int 20), (0, .ref 111), (1, .int (nI 4)), (2, .int (nI c))]) (st2 := []) (w3 := w) rfl rfl ?_
        refine sx_RP.step (pc2 := 74) (ls2 := [(4, .int 18), (3, .int 20), (0, .ref 111), (1, .int (nI 4)), (2, .int (nI c))]) (st2 := [.int 3]) (w3 := w) rfl rfl ?_
        refine sx_RP.step (pc2 := 75) (ls2 := [(4, .int 18), (3, .int 20), (0, .ref 111), (1, .int (nI 4)), (2, .int (nI c))]) (st2 := [.int 20, .int 3]) (w3 := w) rfl rfl ?_
        refine sx_RP.step (pc2 := 76) (ls2 := [(4, .int 18), (3, .int 20), (0, .ref 111), (1, .int (nI 4)), (2, .int (nI c))]) (st2 := [.int 2, .int 20, .int 3]) (w3 := w) rfl rfl ?_
        refine sx_RP.step (pc2 := 77) (ls2 := [(4, .int 18), (3, .int 20), (0, .ref 111), (1, .int (nI 4)), (2, .int (nI c))]) (st2 := [.int 10, .int 3]) (w3 := w) rfl rfl ?_
        refine sx_RP.step (pc2 := 78) (ls2 := [(4, .int 18), (3, .int 20), (0, .ref 111), (1, .int (nI 4)), (2, .int (nI c))]) (st2 := [.int 30]) (w3 := w) rfl rfl ?_
        refine sx_RP.ret (r := (some (.int 30))) rfl rfl ?_
        obtain rfl : k = 4 := (nI_eq (a := k) (b := 4) (by omega) (by decide)).mp ex4
        exact ⟨by first | rfl | decide, rfl⟩
  obtain ⟨r9, w2, h1, rfl, rfl⟩ := h
  exact h1
set_option maxRecDepth 20000 in
set_option maxHeartbeats 4000000 in
theorem x162_3 {xs : Option (List Int32)} {d : Nat} {w : List sx_C} (hI : WI w) {c k : Nat} (hc : c < 48) (hk : k < 6) (es : (ia w 112).getD (7 + c) 0 = 3) : sx_RU xs (d + 1) 162 0 (lv_args 0 [.ref 111, .int (nI k), .int (nI c)]) [] w (some (.int (ldV k 3))) w := by
  have h : sx_RP xs (d + 1) 162 0 (lv_args 0 [.ref 111, .int (nI k), .int (nI c)]) [] w (fun r9 w2 => r9 = some (.int (ldV k 3)) ∧ w2 = w) := by
    refine sx_RP.step (pc2 := 1) (ls2 := [(0, .ref 111), (1, .int (nI k)), (2, .int (nI c))]) (st2 := [.ref 111]) (w3 := w) rfl rfl ?_
    refine sx_RP.gf (v := .ref 112) rfl rfl hI.1.o111 rfl rfl (show _ = 4 from rfl) ?_
    refine sx_RP.step (pc2 := 6) (ls2 := [(0, .ref 111), (1, .int (nI k)), (2, .int (nI c))]) (st2 := [.int 7, .ref 112]) (w3 := w) rfl rfl ?_
    refine sx_RP.step (pc2 := 7) (ls2 := [(0, .ref 111), (1, .int (nI k)), (2, .int (nI c))]) (st2 := [.int (nI c), .int 7, .ref 112]) (w3 := w) rfl rfl ?_
    refine sx_RP.step (pc2 := 8) (ls2 := [(0, .ref 111), (1, .int (nI k)), (2, .int (nI c))]) (st2 := [.int (7 + (nI c)), .ref 112]) (w3 := w) rfl rfl ?_
    rw [show (7 + (nI c) : Int32) = nI (7 + c) from nI_add 7 c]
    refine sx_RP.ild (c := (7 + c)) rfl hI.1.a112.1 hI.1.a112.2 (sx_in_nI (show (7 + c) < 172 by omega) (by decide)) (show (nI (7 + c)).toNatClampNeg = (7 + c) from nI_clamp (by omega)) (show _ = 9 from rfl) ?_
    rw [es]
    refine sx_RP.cu (as := [.int 3]) (rest2 := []) (st3 := [.int 0]) rfl rfl rfl rfl rfl (frI_ok (t163 3 (by decide)) _ _ _) rfl ?_
    refine sx_RP.step (pc2 := 13) (ls2 := [(3, .int 0), (0, .ref 111), (1, .int (nI k)), (2, .int (nI c))]) (st2 := []) (w3 := w) rfl rfl ?_
    refine sx_RP.step (pc2 := 14) (ls2 := [(3, .int 0), (0, .ref 111), (1, .int (nI k)), (2, .int (nI c))]) (st2 := [.int 0]) (w3 := w) rfl rfl ?_
    refine sx_RP.step (pc2 := 15) (ls2 := [(3, .int 0), (0, .ref 111), (1, .int (nI k)), (2, .int (nI c))]) (st2 := [.int 2, .int 0]) (w3 := w) rfl rfl ?_
    refine sx_RP.step (pc2 := 18) (ls2 := [(3, .int 0), (0, .ref 111), (1, .int (nI k)), (2, .int (nI c))]) (st2 := []) (w3 := w) rfl rfl ?_
    refine sx_RP.step (pc2 := 19) (ls2 := [(3, .int 0), (0, .ref 111), (1, .int (nI k)), (2, .int (nI c))]) (st2 := [.int 0]) (w3 := w) rfl rfl ?_
    refine sx_RP.step (pc2 := 25) (ls2 := [(3, .int 0), (0, .ref 111), (1, .int (nI k)), (2, .int (nI c))]) (st2 := [.int 0]) (w3 := w) rfl rfl ?_
    refine sx_RP.step (pc2 := 27) (ls2 := [(4, .int 0), (3, .int 0), (0, .ref 111), (1, .int (nI k)), (2, .int (nI c))]) (st2 := []) (w3 := w) rfl rfl ?_
    refine sx_RP.step (pc2 := 28) (ls2 := [(4, .int 0), (3, .int 0), (0, .ref 111), (1, .int (nI k)), (2, .int (nI c))]) (st2 := [.int (nI k)]) (w3 := w) rfl rfl ?_
    rcases sw_cases (n := 4) (nI k) with q1 | ⟨x2, hx3, ex4⟩
    · refine sx_RP.swo (t := 79) rfl q1 rfl ?_
      refine sx_RP.step (pc2 := 81) (ls2 := [(4, .int 0), (3, .int 0), (0, .ref 111), (1, .int (nI k)), (2, .int (nI c))]) (st2 := [.int 0]) (w3 := w) rfl rfl ?_
      refine sx_RP.step (pc2 := 82) (ls2 := [(4, .int 0), (3, .int 0), (0, .ref 111), (1, .int (nI k)), (2, .int (nI c))]) (st2 := [.int 2, .int 0]) (w3 := w) rfl rfl ?_
      refine sx_RP.step (pc2 := 83) (ls2 := [(4, .int 0), (3, .int 0), (0, .ref 111), (1, .int (nI k)), (2, .int (nI c))]) (st2 := [.int 0]) (w3 := w) rfl rfl ?_
      refine sx_RP.ret (r := (some (.int 0))) rfl rfl ?_
      obtain rfl := sw5 hk (by assumption)
      exact ⟨by first | rfl | decide, rfl⟩
    · rw [ex4]
      rcases (show x2 = 0 ∨ x2 = 1 ∨ x2 = 2 ∨ x2 = 3 ∨ x2 = 4 by omega) with rfl | rfl | rfl | rfl | rfl
      · refine sx_RP.step (pc2 := 64) (ls2 := [(4, .int 0), (3, .int 0), (0, .ref 111), (1, .int (nI 0)), (2, .int (nI c))]) (st2 := []) (w3 := w) rfl rfl ?_
        refine sx_RP.step (pc2 := 65) (ls2 := [(4, .int 0), (3, .int 0), (0, .ref 111), (1, .int (nI 0)), (2, .int (nI c))]) (st2 := [.int 0]) (w3 := w) rfl rfl ?_
        refine sx_RP.ret (r := (some (.int 0))) rfl rfl ?_
        obtain rfl : k = 0 := (nI_eq (a := k) (b := 0) (by omega) (by decide)).mp ex4
        exact ⟨by first | rfl | decide, rfl⟩
      · refine sx_RP.step (pc2 := 66) (ls2 := [(4, .int 0), (3, .int 0), (0, .ref 111), (1, .int (nI 1)), (2, .int (nI c))]) (st2 := []) (w3 := w) rfl rfl ?_
        refine sx_RP.step (pc2 := 68) (ls2 := [(4, .int 0), (3, .int 0), (0, .ref 111), (1, .int (nI 1)), (2, .int (nI c))]) (st2 := [.int 0]) (w3 := w) rfl rfl ?_
        refine sx_RP.ret (r := (some (.int 0))) rfl rfl ?_
        obtain rfl : k = 1 := (nI_eq (a := k) (b := 1) (by omega) (by decide)).mp ex4
        exact ⟨by first | rfl | decide, rfl⟩
      · refine sx_RP.step (pc2 := 69) (ls2 := [(4, .int 0), (3, .int 0), (0, .ref 111), (1, .int (nI 2)), (2, .int (nI c))]) (st2 := []) (w3 := w) rfl rfl ?_
        refine sx_RP.step (pc2 := 70) (ls2 := [(4, .int 0), (3, .int 0), (0, .ref 111), (1, .int (nI 2)), (2, .int (nI c))]) (st2 := [.int 0]) (w3 := w) rfl rfl ?_
        refine sx_RP.step (pc2 := 71) (ls2 := [(4, .int 0), (3, .int 0), (0, .ref 111), (1, .int (nI 2)), (2, .int (nI c))]) (st2 := [.int 2, .int 0]) (w3 := w) rfl rfl ?_
        refine sx_RP.step (pc2 := 72) (ls2 := [(4, .int 0), (3, .int 0), (0, .ref 111), (1, .int (nI 2)), (2, .int (nI c))]) (st2 := [.int 0]) (w3 := w) rfl rfl ?_
        refine sx_RP.ret (r := (some (.int 0))) rfl rfl ?_
        obtain rfl : k = 2 := (nI_eq (a := k) (b := 2) (by omega) (by decide)).mp ex4
        exact ⟨by first | rfl | decide, rfl⟩
      · refine sx_RP.step (pc2 := 79) (ls2 := [(4, .int 0), (3, .int 0), (0, .ref 111), (1, .int (nI 3)), (2, .int (nI c))]) (st2 := []) (w3 := w) rfl rfl ?_
        refine sx_RP.step (pc2 := 81) (ls2 := [(4, .int 0), (3, .int 0), (0, .ref 111), (1, .int (nI 3)), (2, .int (nI c))]) (st2 := [.int 0]) (w3 := w) rfl rfl ?_
        refine sx_RP.step (pc2 := 82) (ls2 := [(4, .int 0), (3, .int 0), (0, .ref 111), (1, .int (nI 3)), (2, .int (nI c))]) (st2 := [.int 2, .int 0]) (w3 := w) rfl rfl ?_
        refine sx_RP.step (pc2 := 83) (ls2 := [(4, .int 0), (3, .int 0), (0, .ref 111), (1, .int (nI 3)), (2, .int (nI c))]) (st2 := [.int 0]) (w3 := w) rfl rfl ?_
        refine sx_RP.ret (r := (some (.int 0))) rfl rfl ?_
        obtain rfl : k = 3 := (nI_eq (a := k) (b := 3) (by omega) (by decide)).mp ex4
        exact ⟨by first | rfl | decide, rfl⟩
      · refine sx_RP.step (pc2 := 73) (ls2 := [(4, .int 0), (3, .int 0), (0, .ref 111), (1, .int (nI 4)), (2, .int (nI c))]) (st2 := []) (w3 := w) rfl rfl ?_
        refine sx_RP.step (pc2 := 74) (ls2 := [(4, .int 0), (3, .int 0), (0, .ref 111), (1, .int (nI 4)), (2, .int (nI c))]) (st2 := [.int 3]) (w3 := w) rfl rfl ?_
        refine sx_RP.step (pc2 := 75) (ls2 := [(4, .int 0), (3, .int 0), (0, .ref 111), (1, .int (nI 4)), (2, .int (nI c))]) (st2 := [.int 0, .int 3]) (w3 := w) rfl rfl ?_
        refine sx_RP.step (pc2 := 76) (ls2 := [(4, .int 0), (3, .int 0), (0, .ref 111), (1, .int (nI 4)), (2, .int (nI c))]) (st2 := [.int 2, .int 0, .int 3]) (w3 := w) rfl rfl ?_
        refine sx_RP.step (pc2 := 77) (ls2 := [(4, .int 0), (3, .int 0), (0, .ref 111), (1, .int (nI 4)), (2, .int (nI c))]) (st2 := [.int 0, .int 3]) (w3 := w) rfl rfl ?_
        refine sx_RP.step (pc2 := 78) (ls2 := [(4, .int 0), (3, .int 0), (0, .ref 111), (1, .int (nI 4)), (2, .int (nI c))]) (st2 := [.int 0]) (w3 := w) rfl rfl ?_
        refine sx_RP.ret (r := (some (.int 0))) rfl rfl ?_
        obtain rfl : k = 4 := (nI_eq (a := k) (b := 4) (by omega) (by decide)).mp ex4
        exact ⟨by first | rfl | decide, rfl⟩
  obtain ⟨r9, w2, h1, rfl, rfl⟩ := h
  exact h1
theorem x162 {xs : Option (List Int32)} {d : Nat} {w : List sx_C} (hI : WI w) {c k s : Nat} (hc : c < 48) (hk : k < 6) (hs : s < 4) (es : (ia w 112).getD (7 + c) 0 = nI s) : sx_RU xs (d + 1) 162 0 (lv_args 0 [.ref 111, .int (nI k), .int (nI c)]) [] w (some (.int (ldV k s))) w := by
  rcases (show s = 0 ∨ s = 1 ∨ s = 2 ∨ s = 3 by omega) with rfl | rfl | rfl | rfl
  · exact x162_0 hI hc hk es
  · exact x162_1 hI hc hk es
  · exact x162_2 hI hc hk es
  · exact x162_3 hI hc hk es
end
-- 89y08.night.lean.txt
section
def gF (l : List Int32) (g k : Nat) : Int32 := l.getD (103 + 6 * g + k) 0
def gdL (l : List Int32) (c : Nat) : Int32 := l.getD (7 + c) 0
def wlL (l : List Int32) (c : Nat) : Int32 := l.getD (55 + c) 0
def dgT (gr wl : Nat → Int32) (k h y : Nat) (dn e : Int32) : Int32 × Int32 × Int32 := if bsd h y = -1 then (nI h, dn, e) else (if gr (iN (bsd h y)) = 3 then (nI h, dn, 1) else (if tmV k (iN (gr (iN (bsd h y)))) (wl (iN (bsd h y))) ≤ dn + 1 then (bsd h y, 0, b01 (!(fmB k (iN (gr (iN (bsd h y))))))) else (nI h, dn + 1, e)))
theorem bsd_or {c j : Nat} (hc : c < 48) (hj : j < 4) : bsd c j = -1 ∨ ∃ t, t < 48 ∧ bsd c j = nI t := by
  rcases bsd_nat c hc j hj with h | ⟨h1, h2⟩
  · exact Or.inl h
  · exact Or.inr ⟨_, h1, h2⟩
theorem cb20e {xs : Option (List Int32)} {d : Nat} {w : List sx_C} {c j : Nat} {v : Int32} (hc : c < 48) (hj : j < 4) (e : bsd c j = v) : sx_RU xs d 20 0 (lv_args 0 [.int (nI c), .int (nI j)]) [] w (some (.int v)) w := by
  rw [← e]
  exact cb_20 hc j hj
theorem cb142e {xs : Option (List Int32)} {d : Nat} {w : List sx_C} {c j : Nat} {v : Int32} (hc : c < 48) (hj : j < 4) (e : bsd c j = v) : sx_RU xs d 142 0 (lv_args 0 [.int (nI c), .int (nI j)]) [] w (some (.int v)) w := by
  rw [← e]
  exact cb_142 hc j hj
section SXDG
variable {gr wl gr2 wl2 : Nat → Int32} {k h y t s : Nat} {dn e : Int32}
theorem dgT_1 (hb : bsd h y = -1) : dgT gr wl k h y dn e = (nI h, dn, e) := if_pos hb
theorem dgT_2 (hb : bsd h y = nI t) (ht : t < 48) (hg : gr t = 3) : dgT gr wl k h y dn e = (nI h, dn, 1) := by
  unfold dgT
  rw [hb, if_neg (nI_ne1 (by omega)), iN_n (by omega), if_pos hg]
theorem dgT_3 (hb : bsd h y = nI t) (ht : t < 48) (hs : gr t = nI s) (hs4 : s < 4) (h3 : ¬ s = 3) (hle : tmV k s (wl t) ≤ dn + 1) : dgT gr wl k h y dn e = (nI t, 0, b01 (!(fmB k s))) := by
  unfold dgT
  rw [hb, if_neg (nI_ne1 (by omega)), iN_n (by omega), hs, if_neg (show ¬ nI s = 3 from fun z => h3 ((nI_eq (b := 3) (by omega) (by decide)).mp z)), iN_n (by omega), if_pos hle]
theorem dgT_4 (hb : bsd h y = nI t) (ht : t < 48) (hs : gr t = nI s) (hs4 : s < 4) (h3 : ¬ s = 3) (hle : ¬ tmV k s (wl t) ≤ dn + 1) : dgT gr wl k h y dn e = (nI h, dn + 1, e) := by
  unfold dgT
  rw [hb, if_neg (nI_ne1 (by omega)), iN_n (by omega), hs, if_neg (show ¬ nI s = 3 from fun z => h3 ((nI_eq (b := 3) (by omega) (by decide)).mp z)), iN_n (by omega), if_neg hle]
theorem dgT_congr (hh : h < 48) (hy : y < 4) (e1 : ∀ c, c < 48 → gr c = gr2 c) (e2 : ∀ c, c < 48 → wl c = wl2 c) : dgT gr wl k h y dn e = dgT gr2 wl2 k h y dn e := by
  unfold dgT
  rcases bsd_or hh hy with hb | ⟨t, ht, hb⟩
  · rw [if_pos hb, if_pos hb]
  · rw [hb, iN_n (by omega), e1 t ht, e2 t ht]
end SXDG
def digT (l : List Int32) (g : Nat) : Int32 × Int32 × Int32 := dgT (gdL l) (wlL l) (iN (gF l g 0)) (iN (gF l g 2)) (iN (gF l g 3)) (gF l g 4) (gF l g 5)
def digR (l : List Int32) (g : Nat) : List Int32 := ((l.set (103 + 6 * g + 2) (digT l g).1).set (103 + 6 * g + 4) (digT l g).2.1).set (103 + 6 * g + 5) (digT l g).2.2
def lfF (l : List Int32) (s : Int32) : Nat → Int32
  | 0 => 0
  | j + 1 => lfF l s j + (if gF l j 1 = s ∧ gF l j 5 = 0 then 1 else 0)
def meF (l : List Int32) (h : Nat) : Nat → Bool
  | 0 => false
  | j + 1 => meF l h j || (decide (gF l j 1 = 1 ∧ gF l j 5 = 0) && nearB (iN (gF l j 2)) h)
theorem meF_up {l : List Int32} {h j : Nat} (hj : meF l h j = true) : ∀ n, j ≤ n → meF l h n = true
  | 0, hn => by
    obtain rfl : j = 0 := by omega
    exact hj
  | n + 1, hn => by
    by_cases e : j = n + 1
    · rw [← e]
      exact hj
    · unfold meF
      rw [meF_up hj n (by omega)]
      rfl
def maN (l : List Int32) : Nat := iN (l.getD 1 0)
def metR (l : List Int32) (g : Nat) : List Int32 := if (gF l g 1 = 0 ∧ gF l g 5 = 0) ∧ meF l (iN (gF l g 2)) (maN l) = true then (l.set (103 + 6 * g + 5) 1).set 3 (l.getD 3 0 + 1) else l
def dgL : Nat → Nat → List Int32 → List Int32
  | 0, _, l => l
  | q + 1, j, l => dgL q (j + 1) (if gF l j 5 = 0 then digR l j else l)
def mtL : Nat → Nat → List Int32 → List Int32
  | 0, _, l => l
  | q + 1, j, l => mtL q (j + 1) (metR l j)
def nigR (l : List Int32) : List Int32 := (mtL (maN l) 0 (dgL (maN l) 0 l)).set 0 ((mtL (maN l) 0 (dgL (maN l) 0 l)).getD 0 0 + 1)
def goR : Nat → List Int32 → List Int32
  | 0, l => l
  | n + 1, l => goR n (nigR l)
def allF (l : List Int32) : Int32 := lfF l 0 (maN l) + lfF l 1 (maN l)
theorem digR_1 {l : List Int32} {g : Nat} : (digR l g).getD 1 0 = l.getD 1 0 := by
  unfold digR
  rw [gd_ne (by omega), gd_ne (by omega), gd_ne (by omega)]
theorem metR_1 {l : List Int32} {g : Nat} : (metR l g).getD 1 0 = l.getD 1 0 := by
  unfold metR
  split
  · rw [gd_ne (by omega), gd_ne (by omega)]
  · rfl
theorem dgL_1 : ∀ (q j : Nat) (l : List Int32), (dgL q j l).getD 1 0 = l.getD 1 0
  | 0, _, _ => rfl
  | q + 1, j, l => by
    show (dgL q (j + 1) _).getD 1 0 = _
    rw [dgL_1 q (j + 1)]
    split
    · exact digR_1
    · rfl
theorem mtL_1 : ∀ (q j : Nat) (l : List Int32), (mtL q j l).getD 1 0 = l.getD 1 0
  | 0, _, _ => rfl
  | q + 1, j, l => by
    show (mtL q (j + 1) _).getD 1 0 = _
    rw [mtL_1 q (j + 1), metR_1]
theorem nigR_1 {l : List Int32} : (nigR l).getD 1 0 = l.getD 1 0 := by
  unfold nigR
  rw [gd_ne (by omega), mtL_1, dgL_1]
theorem maN_n {l : List Int32} {n : Nat} (h : l.getD 1 0 = nI n) (hn : n ≤ 10) : maN l = n := by
  unfold maN
  rw [h, iN_n (by omega)]
theorem rel.s3 {w w2 : List sx_C} {A i : Nat} {l : List Int32} {a b c : Int32} (h : rel w A l) (hi10 : i < 10) (hs : Same (A + 4 + i) w w2) (h2 : fi w2 (A + 4 + i) 2 = a) (h4 : fi w2 (A + 4 + i) 4 = b) (h5 : fi w2 (A + 4 + i) 5 = c) (hr : ∀ k, k = 0 ∨ k = 1 ∨ k = 3 → fi w2 (A + 4 + i) k = fi w (A + 4 + i) k) : rel w2 A (((l.set (103 + 6 * i + 2) a).set (103 + 6 * i + 4) b).set (103 + 6 * i + 5) c) := by
  obtain ⟨h0, ⟨q1, q2, q3, q4, q5, q6, q7⟩, h8, h9, h10, h11⟩ := h
  have ea := hs A (by omega)
  have go : ∀ k, k < 103 ∨ 163 ≤ k → (((l.set (103 + 6 * i + 2) a).set (103 + 6 * i + 4) b).set (103 + 6 * i + 5) c).getD k 0 = l.getD k 0 := by
    intro k hk
    rw [gd_ne (by omega), gd_ne (by omega), gd_ne (by omega)]
  refine ⟨by rw [List.length_set, List.length_set, List.length_set]; exact h0, ⟨(fi_same 6 ea).trans (q1.trans (go 0 (by omega)).symm), (fi_same 3 ea).trans (q2.trans (go 1 (by omega)).symm), (fi_same 5 ea).trans (q3.trans (go 2 (by omega)).symm), (fi_same 7 ea).trans (q4.trans (go 3 (by omega)).symm), (fi_same 8 ea).trans (q5.trans (go 4 (by omega)).symm), (fi_same 9 ea).trans (q6.trans (go 5 (by omega)).symm), (fi_same 10 ea).trans (q7.trans (go 6 (by omega)).symm)⟩, fun b hb => ?_, fun b hb => ?_, fun i2 hi k2 hk => ?_, fun d hd => ?_⟩
  · rw [ia_of (hs (A + 1) (by omega)), go _ (by omega)]
    exact h8 b hb
  · rw [fj_same 1 ea, h9 b hb]
    unfold wlr
    split
    · exact (go _ (by omega)).symm
    · rfl
  · rw [go 1 (by omega)] at hi
    by_cases e : i2 = i
    · subst e
      rcases (show k2 = 0 ∨ k2 = 1 ∨ k2 = 2 ∨ k2 = 3 ∨ k2 = 4 ∨ k2 = 5 by omega) with rfl | rfl | rfl | rfl | rfl | rfl
      · rw [gd_ne (by omega), gd_ne (by omega), gd_ne (by omega), hr 0 (by omega)]
        exact h10 i2 hi 0 hk
      · rw [gd_ne (by omega), gd_ne (by omega), gd_ne (by omega), hr 1 (by omega)]
        exact h10 i2 hi 1 hk
      · rw [gd_ne (by omega), gd_ne (by omega), gd_eq (by omega)]
        exact h2
      · rw [gd_ne (by omega), gd_ne (by omega), gd_ne (by omega), hr 3 (by omega)]
        exact h10 i2 hi 3 hk
      · rw [gd_ne (by omega), gd_eq (by rw [List.length_set]; omega)]
        exact h4
      · rw [gd_eq (by rw [List.length_set, List.length_set]; omega)]
        exact h5
    · rw [gd_ne (by omega), gd_ne (by omega), gd_ne (by omega)]
      exact (fi_same k2 (hs _ (by omega))).trans (h10 i2 hi k2 hk)
  · rw [go 2 (by omega)] at hd
    exact (congrArg (fun q => List.getD q d 0) (ia_of (hs (A + 3) (by omega)))).trans ((h11 d hd).trans (go _ (by omega)).symm)
end
-- 89y09.dig.lean.txt
section
theorem digR_of {l : List Int32} {g : Nat} {a b c : Int32} (e : digT l g = (a, b, c)) : digR l g = ((l.set (103 + 6 * g + 2) a).set (103 + 6 * g + 4) b).set (103 + 6 * g + 5) c := by
  unfold digR
  rw [e]
section SXDR
variable {l : List Int32} {g : Nat}
theorem dg_1 (hl : l.length = 172) (hg : g < 10) {a b c : Int32} (h2 : l.getD (103 + 6 * g + 2) 0 = a) (h4 : l.getD (103 + 6 * g + 4) 0 = b) (h5 : l.getD (103 + 6 * g + 5) 0 = c) : ((l.set (103 + 6 * g + 2) a).set (103 + 6 * g + 4) b).set (103 + 6 * g + 5) c = l := by
  rw [set_self9 (by omega) h2, set_self9 (by omega) h4, set_self9 (by omega) h5]
theorem dg_2 (hl : l.length = 172) (hg : g < 10) {a b c : Int32} (h2 : l.getD (103 + 6 * g + 2) 0 = a) (h4 : l.getD (103 + 6 * g + 4) 0 = b) : ((l.set (103 + 6 * g + 2) a).set (103 + 6 * g + 4) b).set (103 + 6 * g + 5) c = l.set (103 + 6 * g + 5) c := by
  rw [set_self9 (by omega) h2, set_self9 (by omega) h4]
theorem dg_3 {a b c : Int32} : ((l.set (103 + 6 * g + 2) a).set (103 + 6 * g + 4) b).set (103 + 6 * g + 5) c = ((l.set (103 + 6 * g + 4) b).set (103 + 6 * g + 2) a).set (103 + 6 * g + 5) c := by
  rw [List.set_comm _ _ (show 103 + 6 * g + 2 ≠ 103 + 6 * g + 4 by omega)]
theorem dg_4 (hl : l.length = 172) (hg : g < 10) {a b c : Int32} (h2 : l.getD (103 + 6 * g + 2) 0 = a) (h5 : l.getD (103 + 6 * g + 5) 0 = c) : ((l.set (103 + 6 * g + 2) a).set (103 + 6 * g + 4) b).set (103 + 6 * g + 5) c = l.set (103 + 6 * g + 4) b := by
  rw [set_self9 (by omega) h2, set_self9 (by rw [List.length_set]; omega) (by rw [gd_ne (by omega)]; exact h5)]
end SXDR
def WB (l : List Int32) : Prop := ∀ c, c < 48 → ∃ b, b < 2 ∧ l.getD (55 + c) 0 = nI b
theorem rel.wb {w : List sx_C} {A : Nat} {l : List Int32} (h : rel w A l) : WB l := by
  intro c hc
  rw [← h.w48 hc]
  cases bitL (fj w A 1) c
  · exact ⟨0, by decide, rfl⟩
  · exact ⟨1, by decide, rfl⟩
theorem tmV_pos : ∀ k, k < 6 → ∀ s, s < 4 → ∀ b, b < 2 → ¬ tmV k s (nI b) < 0 := by decide +kernel
set_option maxRecDepth 20000 in
set_option maxHeartbeats 4000000 in
theorem X44g {xs : Option (List Int32)} {d : Nat} {w : List sx_C} (hI : WI w) {A ga k h y : Nat} (hA : isA A) (hg : gAd ga) (hd : ga < A ∨ A + 4 ≤ ga) (hk : k ≤ 5) (hh : h < 48) (hy : y ≤ 3) (e0 : fi w ga 0 = nI k) (e2 : fi w ga 2 = nI h) (e3 : fi w ga 3 = nI y) : sx_RP xs (d + 3) 44 0 (lv_args 0 [.ref A, .ref ga]) [] w (fun r w2 => (r = none ∧ fi w2 ga 2 = (dgT (fun c => (ia w (A + 1)).getD c 0) (fun c => b01 (bitL (fj w A 1) c)) k h y (fi w ga 4) (fi w ga 5)).1 ∧ fi w2 ga 4 = (dgT (fun c => (ia w (A + 1)).getD c 0) (fun c => b01 (bitL (fj w A 1) c)) k h y (fi w ga 4) (fi w ga 5)).2.1 ∧ fi w2 ga 5 = (dgT (fun c => (ia w (A + 1)).getD c 0) (fun c => b01 (bitL (fj w A 1) c)) k h y (fi w ga 4) (fi w ga 5)).2.2 ∧ fi w2 ga 0 = nI k ∧ fi w2 ga 3 = nI y ∧ fi w2 ga 1 = fi w ga 1) ∧ WI w2 ∧ Same ga w w2) := by
  refine sx_RP.step (pc2 := 1) (ls2 := [(0, .ref A), (1, .ref ga)]) (st2 := [.ref ga]) (w3 := w) rfl rfl ?_
  refine sx_RP.gg (k := 2) hI hg rfl rfl (by decide) (show _ = 4 from rfl) ?_
  rw [e2]
  refine sx_RP.step (pc2 := 5) (ls2 := [(0, .ref A), (1, .ref ga)]) (st2 := [.ref ga, .int (nI h)]) (w3 := w) rfl rfl ?_
  refine sx_RP.gg (k := 3) hI hg rfl rfl (by decide) (show _ = 8 from rfl) ?_
  rw [e3]
  rcases bsd_or hh (show y < 4 by omega) with hb | ⟨t, ht, hb⟩
  · refine sx_RP.cu (as := [.int (nI h), .int (nI y)]) (rest2 := []) (st3 := [.int (-1)]) rfl rfl rfl rfl rfl (cb20e hh (by omega) hb) rfl ?_
    refine sx_RP.step (pc2 := 12) (ls2 := [(2, .int (-1)), (0, .ref A), (1, .ref ga)]) (st2 := []) (w3 := w) rfl rfl ?_
    refine sx_RP.step (pc2 := 13) (ls2 := [(2, .int (-1)), (0, .ref A), (1, .ref ga)]) (st2 := [.int (-1)]) (w3 := w) rfl rfl ?_
    refine sx_RP.step (pc2 := 14) (ls2 := [(2, .int (-1)), (0, .ref A), (1, .ref ga)]) (st2 := [.int (-1), .int (-1)]) (w3 := w) rfl rfl ?_
    refine sx_RP.step (pc2 := 17) (ls2 := [(2, .int (-1)), (0, .ref A), (1, .ref ga)]) (st2 := []) (w3 := w) rfl rfl ?_
    refine sx_RP.ret (r := none) rfl rfl ?_
    have eT : dgT (fun c => (ia w (A + 1)).getD c 0) (fun c => b01 (bitL (fj w A 1) c)) k h y (fi w ga 4) (fi w ga 5) = _ := dgT_1 hb
    rw [eT]
    exact ⟨⟨rfl, e2, rfl, rfl, e0, e3, rfl⟩, hI, fun b hb => rfl⟩
  · refine sx_RP.cu (as := [.int (nI h), .int (nI y)]) (rest2 := []) (st3 := [.int (nI t)]) rfl rfl rfl rfl rfl (cb20e hh (by omega) hb) rfl ?_
    refine sx_RP.step (pc2 := 12) (ls2 := [(2, .int (nI t)), (0, .ref A), (1, .ref ga)]) (st2 := []) (w3 := w) rfl rfl ?_
    refine sx_RP.step (pc2 := 13) (ls2 := [(2, .int (nI t)), (0, .ref A), (1, .ref ga)]) (st2 := [.int (nI t)]) (w3 := w) rfl rfl ?_
    refine sx_RP.step (pc2 := 14) (ls2 := [(2, .int (nI t)), (0, .ref A), (1, .ref ga)]) (st2 := [.int (-1), .int (nI t)]) (w3 := w) rfl rfl ?_
    refine sx_RP.br (p1 := 18) (l1 := [(2, .int (nI t)), (0, .ref A), (1, .ref ga)]) (s1 := []) (v1 := w) rfl rfl (fun _ => ?_) (fun q => absurd (nI_ne1 (by omega)) (of_decide_eq_false q))
    refine sx_RP.step (pc2 := 19) (ls2 := [(2, .int (nI t)), (0, .ref A), (1, .ref ga)]) (st2 := [.ref A]) (w3 := w) rfl rfl ?_
    refine sx_RP.gref (k := 0) (b := A + 1) hI hA rfl rfl (by omega) (show _ = 22 from rfl) ?_
    refine sx_RP.step (pc2 := 23) (ls2 := [(2, .int (nI t)), (0, .ref A), (1, .ref ga)]) (st2 := [.int (nI t), .ref (A + 1)]) (w3 := w) rfl rfl ?_
    refine sx_RP.ild (c := t) rfl (hI.1.aS hA).1 (hI.1.aS hA).2 (sx_in_nI (show t < 48 by omega) (by decide)) (show (nI t).toNatClampNeg = t from nI_clamp (by omega)) (show _ = 24 from rfl) ?_
    obtain ⟨x1, hx2, ex3⟩ : inR ((ia w (A + 1)).getD t 0) 3 := hI.st hA (show t < 48 by omega)
    rw [ex3]
    refine sx_RP.step (pc2 := 25) (ls2 := [(2, .int (nI t)), (0, .ref A), (1, .ref ga)]) (st2 := [.int 3, .int (nI x1)]) (w3 := w) rfl rfl ?_
    refine sx_RP.br (p1 := 34) (l1 := [(2, .int (nI t)), (0, .ref A), (1, .ref ga)]) (s1 := []) (v1 := w) (p2 := 28) (l2 := [(2, .int (nI t)), (0, .ref A), (1, .ref ga)]) (s2 := []) (v2 := w) rfl rfl (fun q4 => ?_) (fun q4 => ?_)
    · replace q4 := of_decide_eq_true q4
      replace q4 := mt (nI_eq (a := x1) (b := 3) (by omega) (by omega)).mpr q4
      refine sx_RP.step (pc2 := 35) (ls2 := [(2, .int (nI t)), (0, .ref A), (1, .ref ga)]) (st2 := [.ref ga]) (w3 := w) rfl rfl ?_
      refine sx_RP.step (pc2 := 36) (ls2 := [(2, .int (nI t)), (0, .ref A), (1, .ref ga)]) (st2 := [.ref ga, .ref ga]) (w3 := w) rfl rfl ?_
      refine sx_RP.gg (k := 4) hI hg rfl rfl (by decide) (show _ = 39 from rfl) ?_
      refine sx_RP.step (pc2 := 40) (ls2 := [(2, .int (nI t)), (0, .ref A), (1, .ref ga)]) (st2 := [.int 1, .int (fi w ga 4), .ref ga]) (w3 := w) rfl rfl ?_
      refine sx_RP.step (pc2 := 41) (ls2 := [(2, .int (nI t)), (0, .ref A), (1, .ref ga)]) (st2 := [.int ((fi w ga 4) + 1), .ref ga]) (w3 := w) rfl rfl ?_
      refine sx_RP.xG (k := 4) hI hg rfl rfl (by decide) rfl trivial (show _ = 44 from rfl) (fun w5 hI6 hs7 hv8 hr9 => ?_)
      have ex10 := (hr9 0 (by decide)).trans e0
      have ex11 := (hr9 2 (by decide)).trans e2
      have ex12 := (hr9 3 (by decide)).trans e3
      refine sx_RP.step (pc2 := 45) (ls2 := [(2, .int (nI t)), (0, .ref A), (1, .ref ga)]) (st2 := [.ref ga]) (w3 := w5) rfl rfl ?_
      refine sx_RP.gg (k := 4) hI6 hg rfl rfl (by decide) (show _ = 48 from rfl) ?_
      rw [hv8]
      refine sx_RP.step (pc2 := 49) (ls2 := [(2, .int (nI t)), (0, .ref A), (1, .ref ga)]) (st2 := [.ref A, .int ((fi w ga 4) + 1)]) (w3 := w5) rfl rfl ?_
      refine sx_RP.step (pc2 := 50) (ls2 := [(2, .int (nI t)), (0, .ref A), (1, .ref ga)]) (st2 := [.ref ga, .ref A, .int ((fi w ga 4) + 1)]) (w3 := w5) rfl rfl ?_
      refine sx_RP.gg (k := 0) hI6 hg rfl rfl (by decide) (show _ = 53 from rfl) ?_
      rw [ex10]
      refine sx_RP.step (pc2 := 54) (ls2 := [(2, .int (nI t)), (0, .ref A), (1, .ref ga)]) (st2 := [.int (nI t), .int (nI k), .ref A, .int ((fi w ga 4) + 1)]) (w3 := w5) rfl rfl ?_
      refine sx_RP.cu (as := [.ref A, .int (nI k), .int (nI t)]) (rest2 := [.int ((fi w ga 4) + 1)]) (st3 := [.int (tmV k (iN ((ia w5 (A + 1)).getD t 0)) (b01 (bitL (fj w5 A 1) t))), .int ((fi w ga 4) + 1)]) rfl rfl (sx_inv_v2 (mi := 44) (k := 119) (st := [.int (nI t), .int (nI k), .ref A, .int ((fi w ga 4) + 1)]) (w := w5) rfl rfl (hI6.1.oC hA) rfl rfl rfl) rfl rfl (x33 hI6 hA hk (show t < 48 by omega)) rfl ?_
      refine sx_RP.br (p1 := 91) (l1 := [(2, .int (nI t)), (0, .ref A), (1, .ref ga)]) (s1 := []) (v1 := w5) (p2 := 60) (l2 := [(2, .int (nI t)), (0, .ref A), (1, .ref ga)]) (s2 := []) (v2 := w5) rfl rfl (fun q13 => ?_) (fun q13 => ?_)
      · replace q13 := of_decide_eq_true q13
        refine sx_RP.ret (r := none) rfl rfl ?_
        have eT : dgT (fun c => (ia w (A + 1)).getD c 0) (fun c => b01 (bitL (fj w A 1) c)) k h y (fi w ga 4) (fi w ga 5) = _ := dgT_4 hb ht ex3 (by omega) q4 (by have z := Int32.not_le.mpr q13; rw [show (ia w5 (A + 1)).getD t 0 = nI x1 from (congrArg (fun q => List.getD q t 0) (ia_of (hs7 (A + 1) (by omega)))).trans ex3, iN_n (by omega), fj_same 1 (hs7 A (by omega))] at z; exact z)
        rw [eT]
        exact ⟨⟨rfl, (hr9 2 (by decide)).trans (e2), hv8, (hr9 5 (by decide)).trans (rfl), (hr9 0 (by decide)).trans (e0), (hr9 3 (by decide)).trans (e3), (hr9 1 (by decide)).trans (rfl)⟩, hI6, fun b hb => (hs7 b hb).trans (rfl)⟩
      · replace q13 := of_decide_eq_false q13
        refine sx_RP.step (pc2 := 61) (ls2 := [(2, .int (nI t)), (0, .ref A), (1, .ref ga)]) (st2 := [.ref ga]) (w3 := w5) rfl rfl ?_
        refine sx_RP.step (pc2 := 62) (ls2 := [(2, .int (nI t)), (0, .ref A), (1, .ref ga)]) (st2 := [.int (nI t), .ref ga]) (w3 := w5) rfl rfl ?_
        refine sx_RP.xG (k := 2) hI6 hg rfl rfl (by decide) rfl (inR.n (show t ≤ 47 by omega)) (show _ = 65 from rfl) (fun w14 hI15 hs16 hv17 hr18 => ?_)
        have ex19 := (hr18 0 (by decide)).trans ex10
        have ex20 := (hr18 3 (by decide)).trans ex12
        have ex21 := (hr18 4 (by decide)).trans hv8
        refine sx_RP.step (pc2 := 66) (ls2 := [(2, .int (nI t)), (0, .ref A), (1, .ref ga)]) (st2 := [.ref ga]) (w3 := w14) rfl rfl ?_
        refine sx_RP.step (pc2 := 67) (ls2 := [(2, .int (nI t)), (0, .ref A), (1, .ref ga)]) (st2 := [.int 0, .ref ga]) (w3 := w14) rfl rfl ?_
        refine sx_RP.xG (k := 4) hI15 hg rfl rfl (by decide) rfl trivial (show _ = 70 from rfl) (fun w22 hI23 hs24 hv25 hr26 => ?_)
        have ex27 := (hr26 0 (by decide)).trans ex19
        have ex28 := (hr26 3 (by decide)).trans ex20
        refine sx_RP.step (pc2 := 71) (ls2 := [(2, .int (nI t)), (0, .ref A), (1, .ref ga)]) (st2 := [.ref ga]) (w3 := w22) rfl rfl ?_
        refine sx_RP.step (pc2 := 72) (ls2 := [(2, .int (nI t)), (0, .ref A), (1, .ref ga)]) (st2 := [.ref A, .ref ga]) (w3 := w22) rfl rfl ?_
        refine sx_RP.step (pc2 := 73) (ls2 := [(2, .int (nI t)), (0, .ref A), (1, .ref ga)]) (st2 := [.ref ga, .ref A, .ref ga]) (w3 := w22) rfl rfl ?_
        refine sx_RP.gg (k := 0) hI23 hg rfl rfl (by decide) (show _ = 76 from rfl) ?_
        rw [ex27]
        refine sx_RP.step (pc2 := 77) (ls2 := [(2, .int (nI t)), (0, .ref A), (1, .ref ga)]) (st2 := [.int (nI t), .int (nI k), .ref A, .ref ga]) (w3 := w22) rfl rfl ?_
        rcases Bool.eq_false_or_eq_true (fmB k (iN ((ia w22 (A + 1)).getD t 0))) with hf | hf
        · refine sx_RP.cu (as := [.ref A, .int (nI k), .int (nI t)]) (rest2 := [.ref ga]) (st3 := [.int 1, .ref ga]) rfl rfl (sx_inv_v2 (mi := 44) (k := 103) (st := [.int (nI t), .int (nI k), .ref A, .ref ga]) (w := w22) rfl rfl (hI23.1.oC hA) rfl rfl rfl) rfl rfl ((by have z := x37 (xs := xs) (d := d) hI23 hA hk (show t < 48 by omega); rw [hf] at z; exact z)) rfl ?_
          refine sx_RP.step (pc2 := 87) (ls2 := [(2, .int (nI t)), (0, .ref A), (1, .ref ga)]) (st2 := [.ref ga]) (w3 := w22) rfl rfl ?_
          refine sx_RP.step (pc2 := 88) (ls2 := [(2, .int (nI t)), (0, .ref A), (1, .ref ga)]) (st2 := [.int 0, .ref ga]) (w3 := w22) rfl rfl ?_
          refine sx_RP.xG (k := 5) hI23 hg rfl rfl (by decide) rfl (show inR 0 1 from ⟨0, by decide, rfl⟩) (show _ = 91 from rfl) (fun w29 hI30 hs31 hv32 hr33 => ?_)
          have ex34 := (hr33 0 (by decide)).trans ex27
          have ex35 := (hr33 3 (by decide)).trans ex28
          have ex36 := (hr33 4 (by decide)).trans hv25
          refine sx_RP.ret (r := none) rfl rfl ?_
          have eT : dgT (fun c => (ia w (A + 1)).getD c 0) (fun c => b01 (bitL (fj w A 1) c)) k h y (fi w ga 4) (fi w ga 5) = _ := dgT_3 hb ht ex3 (by omega) q4 (by have z := Int32.not_lt.mp q13; rw [show (ia w5 (A + 1)).getD t 0 = nI x1 from (congrArg (fun q => List.getD q t 0) (ia_of (hs7 (A + 1) (by omega)))).trans ex3, iN_n (by omega), fj_same 1 (hs7 A (by omega))] at z; exact z)
          rw [eT]
          exact ⟨⟨rfl, (hr33 2 (by decide)).trans ((hr26 2 (by decide)).trans (hv17)), (hr33 4 (by decide)).trans (hv25), (hv32).trans (by rw [show fmB k x1 = true from by have z := hf; rw [show (ia w22 (A + 1)).getD t 0 = nI x1 from (congrArg (fun q => List.getD q t 0) ((ia_of (hs24 (A + 1) (by omega))).trans ((ia_of (hs16 (A + 1) (by omega))).trans (ia_of (hs7 (A + 1) (by omega)))))).trans ex3, iN_n (by omega)] at z; exact z]; rfl), (hr33 0 (by decide)).trans ((hr26 0 (by decide)).trans ((hr18 0 (by decide)).trans ((hr9 0 (by decide)).trans (e0)))), (hr33 3 (by decide)).trans ((hr26 3 (by decide)).trans ((hr18 3 (by decide)).trans ((hr9 3 (by decide)).trans (e3)))), (hr33 1 (by decide)).trans ((hr26 1 (by decide)).trans ((hr18 1 (by decide)).trans ((hr9 1 (by decide)).trans (rfl))))⟩, hI30, fun b hb => (hs31 b hb).trans ((hs24 b hb).trans ((hs16 b hb).trans ((hs7 b hb).trans (rfl))))⟩
        · refine sx_RP.cu (as := [.ref A, .int (nI k), .int (nI t)]) (rest2 := [.ref ga]) (st3 := [.int 0, .ref ga]) rfl rfl (sx_inv_v2 (mi := 44) (k := 103) (st := [.int (nI t), .int (nI k), .ref A, .ref ga]) (w := w22) rfl rfl (hI23.1.oC hA) rfl rfl rfl) rfl rfl ((by have z := x37 (xs := xs) (d := d) hI23 hA hk (show t < 48 by omega); rw [hf] at z; exact z)) rfl ?_
          refine sx_RP.step (pc2 := 83) (ls2 := [(2, .int (nI t)), (0, .ref A), (1, .ref ga)]) (st2 := [.ref ga]) (w3 := w22) rfl rfl ?_
          refine sx_RP.step (pc2 := 84) (ls2 := [(2, .int (nI t)), (0, .ref A), (1, .ref ga)]) (st2 := [.int 1, .ref ga]) (w3 := w22) rfl rfl ?_
          refine sx_RP.step (pc2 := 88) (ls2 := [(2, .int (nI t)), (0, .ref A), (1, .ref ga)]) (st2 := [.int 1, .ref ga]) (w3 := w22) rfl rfl ?_
          refine sx_RP.xG (k := 5) hI23 hg rfl rfl (by decide) rfl (show inR 1 1 from ⟨1, by decide, rfl⟩) (show _ = 91 from rfl) (fun w37 hI38 hs39 hv40 hr41 => ?_)
          have ex42 := (hr41 0 (by decide)).trans ex27
          have ex43 := (hr41 3 (by decide)).trans ex28
          have ex44 := (hr41 4 (by decide)).trans hv25
          refine sx_RP.ret (r := none) rfl rfl ?_
          have eT : dgT (fun c => (ia w (A + 1)).getD c 0) (fun c => b01 (bitL (fj w A 1) c)) k h y (fi w ga 4) (fi w ga 5) = _ := dgT_3 hb ht ex3 (by omega) q4 (by have z := Int32.not_lt.mp q13; rw [show (ia w5 (A + 1)).getD t 0 = nI x1 from (congrArg (fun q => List.getD q t 0) (ia_of (hs7 (A + 1) (by omega)))).trans ex3, iN_n (by omega), fj_same 1 (hs7 A (by omega))] at z; exact z)
          rw [eT]
          exact ⟨⟨rfl, (hr41 2 (by decide)).trans ((hr26 2 (by decide)).trans (hv17)), (hr41 4 (by decide)).trans (hv25), (hv40).trans (by rw [show fmB k x1 = false from by have z := hf; rw [show (ia w22 (A + 1)).getD t 0 = nI x1 from (congrArg (fun q => List.getD q t 0) ((ia_of (hs24 (A + 1) (by omega))).trans ((ia_of (hs16 (A + 1) (by omega))).trans (ia_of (hs7 (A + 1) (by omega)))))).trans ex3, iN_n (by omega)] at z; exact z]; rfl), (hr41 0 (by decide)).trans ((hr26 0 (by decide)).trans ((hr18 0 (by decide)).trans ((hr9 0 (by decide)).trans (e0)))), (hr41 3 (by decide)).trans ((hr26 3 (by decide)).trans ((hr18 3 (by decide)).trans ((hr9 3 (by decide)).trans (e3)))), (hr41 1 (by decide)).trans ((hr26 1 (by decide)).trans ((hr18 1 (by decide)).trans ((hr9 1 (by decide)).trans (rfl))))⟩, hI38, fun b hb => (hs39 b hb).trans ((hs24 b hb).trans ((hs16 b hb).trans ((hs7 b hb).trans (rfl))))⟩
    · replace q4 := Decidable.not_not.mp (of_decide_eq_false q4)
      replace q4 := (nI_eq (a := x1) (b := 3) (by omega) (by omega)).mp q4
      refine sx_RP.step (pc2 := 29) (ls2 := [(2, .int (nI t)), (0, .ref A), (1, .ref ga)]) (st2 := [.ref ga]) (w3 := w) rfl rfl ?_
      refine sx_RP.step (pc2 := 30) (ls2 := [(2, .int (nI t)), (0, .ref A), (1, .ref ga)]) (st2 := [.int 1, .ref ga]) (w3 := w) rfl rfl ?_
      refine sx_RP.xG (k := 5) hI hg rfl rfl (by decide) rfl (show inR 1 1 from ⟨1, by decide, rfl⟩) (show _ = 33 from rfl) (fun w45 hI46 hs47 hv48 hr49 => ?_)
      have ex50 := (hr49 0 (by decide)).trans e0
      have ex51 := (hr49 2 (by decide)).trans e2
      have ex52 := (hr49 3 (by decide)).trans e3
      refine sx_RP.ret (r := none) rfl rfl ?_
      have eT : dgT (fun c => (ia w (A + 1)).getD c 0) (fun c => b01 (bitL (fj w A 1) c)) k h y (fi w ga 4) (fi w ga 5) = _ := dgT_2 hb ht (by show (ia w (A + 1)).getD t 0 = 3; rw [ex3, q4]; rfl)
      rw [eT]
      exact ⟨⟨rfl, (hr49 2 (by decide)).trans (e2), (hr49 4 (by decide)).trans (rfl), hv48, (hr49 0 (by decide)).trans (e0), (hr49 3 (by decide)).trans (e3), (hr49 1 (by decide)).trans (rfl)⟩, hI46, fun b hb => (hs47 b hb).trans (rfl)⟩
theorem X44 {xs : Option (List Int32)} {d : Nat} {w : List sx_C} (hI : WI w) {A i : Nat} {l : List Int32} (hA : isA A) (hR : rel w A l) (hi10 : i < 10) (hi : i < iN (l.getD 1 0)) : sx_RP xs (d + 3) 44 0 (lv_args 0 [.ref A, .ref (A + 4 + i)]) [] w (fun r w2 => (r = none ∧ rel w2 A (digR l i)) ∧ WI w2 ∧ Same (A + 4 + i) w w2) := by
  have hg : gAd (A + 4 + i) := gAd.of hA hi10
  obtain ⟨k, hk, e0⟩ : inR (fi w (A + 4 + i) 0) 5 := hI.gk (k := 0) hg (by decide)
  obtain ⟨h, hh, e2⟩ : inR (fi w (A + 4 + i) 2) 47 := hI.gk (k := 2) hg (by decide)
  obtain ⟨y, hy, e3⟩ : inR (fi w (A + 4 + i) 3) 3 := hI.gk (k := 3) hg (by decide)
  have r0 : gF l i 0 = nI k := (hR.ga hi (by decide)).symm.trans e0
  have r2 : gF l i 2 = nI h := (hR.ga hi (by decide)).symm.trans e2
  have r3 : gF l i 3 = nI y := (hR.ga hi (by decide)).symm.trans e3
  have r4 : gF l i 4 = fi w (A + 4 + i) 4 := (hR.ga hi (by decide)).symm
  have r5 : gF l i 5 = fi w (A + 4 + i) 5 := (hR.ga hi (by decide)).symm
  have eT : digT l i = dgT (fun c => (ia w (A + 1)).getD c 0) (fun c => b01 (bitL (fj w A 1) c)) k h y (fi w (A + 4 + i) 4) (fi w (A + 4 + i) 5) := by
    unfold digT
    rw [r0, r2, r3, r4, r5, iN_n (by omega), iN_n (by omega), iN_n (by omega)]
    exact dgT_congr (by omega) (by omega) (fun c hc => (hR.gr hc).symm) (fun c hc => (hR.w48 hc).symm)
  refine (X44g hI hA hg (by omega) hk (by omega) hy e0 e2 e3).mono9 ?_
  rintro r w2 ⟨⟨h1, h2, h4, h5, h6, h7, h8⟩, h9, h10⟩
  refine ⟨⟨h1, ?_⟩, h9, h10⟩
  rw [digR_of (Prod.ext (by rw [eT]) (Prod.ext (by rw [eT]) (by rw [eT])) : digT l i = (_, _, _))]
  exact hR.s3 hi10 h10 h2 h4 h5 (fun k hk => by
    rcases hk with rfl | rfl | rfl
    · exact h6.trans e0.symm
    · exact h8
    · exact h7.trans e3.symm)
set_option maxRecDepth 20000 in
set_option maxHeartbeats 4000000 in
theorem X170 {xs : Option (List Int32)} {d : Nat} {w : List sx_C} (hI : WI w) {g : Nat} (hg : g < 10) (hW : WB (ia w 112)) : sx_RP xs (d + 3) 170 0 (lv_args 0 [.ref 111, .int (nI g)]) [] w (fun r w2 => (r = none ∧ ia w2 112 = digR (ia w 112) g) ∧ WI w2 ∧ Same 112 w w2) := by
  obtain ⟨k, hk, ek⟩ : inR ((ia w 112).getD (103 + 6 * g + 0) 0) 5 := (hI.s (103 + 6 * g + 0) (by omega)).2.2.2.1 (by omega)
  obtain ⟨h, hh, eh⟩ : inR ((ia w 112).getD (103 + 6 * g + 2) 0) 47 := (hI.s (103 + 6 * g + 2) (by omega)).2.2.2.2.2.1 (by omega)
  obtain ⟨y, hy, ey⟩ : inR ((ia w 112).getD (103 + 6 * g + 3) 0) 3 := (hI.s (103 + 6 * g + 3) (by omega)).2.2.2.2.2.2.1 (by omega)
  refine sx_RP.step (pc2 := 1) (ls2 := [(0, .ref 111), (1, .int (nI g))]) (st2 := [.ref 111]) (w3 := w) rfl rfl ?_
  refine sx_RP.step (pc2 := 2) (ls2 := [(0, .ref 111), (1, .int (nI g))]) (st2 := [.int (nI g), .ref 111]) (w3 := w) rfl rfl ?_
  refine sx_RP.step (pc2 := 3) (ls2 := [(0, .ref 111), (1, .int (nI g))]) (st2 := [.int 2, .int (nI g), .ref 111]) (w3 := w) rfl rfl ?_
  refine sx_RP.cu (as := [.ref 111, .int (nI g), .int 2]) (rest2 := []) (st3 := [.int (nI h)]) rfl rfl (sx_inv_v2 (mi := 170) (k := 59) (st := [.int 2, .int (nI g), .ref 111]) (w := w) rfl rfl hI.1.o111 rfl rfl rfl) rfl rfl (x138e hI hg (show 2 < 6 by decide) eh) rfl ?_
  refine sx_RP.step (pc2 := 7) (ls2 := [(0, .ref 111), (1, .int (nI g))]) (st2 := [.ref 111, .int (nI h)]) (w3 := w) rfl rfl ?_
  refine sx_RP.step (pc2 := 8) (ls2 := [(0, .ref 111), (1, .int (nI g))]) (st2 := [.int (nI g), .ref 111, .int (nI h)]) (w3 := w) rfl rfl ?_
  refine sx_RP.step (pc2 := 9) (ls2 := [(0, .ref 111), (1, .int (nI g))]) (st2 := [.int 3, .int (nI g), .ref 111, .int (nI h)]) (w3 := w) rfl rfl ?_
  refine sx_RP.cu (as := [.ref 111, .int (nI g), .int 3]) (rest2 := [.int (nI h)]) (st3 := [.int (nI y), .int (nI h)]) rfl rfl (sx_inv_v2 (mi := 170) (k := 59) (st := [.int 3, .int (nI g), .ref 111, .int (nI h)]) (w := w) rfl rfl hI.1.o111 rfl rfl rfl) rfl rfl (x138e hI hg (show 3 < 6 by decide) ey) rfl ?_
  rcases bsd_or (show h < 48 by omega) (show y < 4 by omega) with hb | ⟨t, ht, hb⟩
  · refine sx_RP.cu (as := [.int (nI h), .int (nI y)]) (rest2 := []) (st3 := [.int (-1)]) rfl rfl rfl rfl rfl (cb142e (by omega) (by omega) hb) rfl ?_
    refine sx_RP.step (pc2 := 16) (ls2 := [(2, .int (-1)), (0, .ref 111), (1, .int (nI g))]) (st2 := []) (w3 := w) rfl rfl ?_
    refine sx_RP.step (pc2 := 17) (ls2 := [(2, .int (-1)), (0, .ref 111), (1, .int (nI g))]) (st2 := [.int (-1)]) (w3 := w) rfl rfl ?_
    refine sx_RP.step (pc2 := 20) (ls2 := [(2, .int (-1)), (0, .ref 111), (1, .int (nI g))]) (st2 := []) (w3 := w) rfl rfl ?_
    refine sx_RP.ret (r := none) rfl rfl ?_
    have hl := hI.1.a112.2
    have e0 : digT (ia w 112) g = dgT (gdL (ia w 112)) (wlL (ia w 112)) k h y (gF (ia w 112) g 4) (gF (ia w 112) g 5) := by unfold digT gF; rw [ek, eh, ey, iN_n (by omega), iN_n (by omega), iN_n (by omega)]
    refine ⟨⟨rfl, ?_⟩, hI, Same.rf⟩
    rw [digR_of (e0.trans (dgT_1 hb))]
    exact (dg_1 hl hg eh rfl rfl).symm
  · refine sx_RP.cu (as := [.int (nI h), .int (nI y)]) (rest2 := []) (st3 := [.int (nI t)]) rfl rfl rfl rfl rfl (cb142e (by omega) (by omega) hb) rfl ?_
    refine sx_RP.step (pc2 := 16) (ls2 := [(2, .int (nI t)), (0, .ref 111), (1, .int (nI g))]) (st2 := []) (w3 := w) rfl rfl ?_
    refine sx_RP.step (pc2 := 17) (ls2 := [(2, .int (nI t)), (0, .ref 111), (1, .int (nI g))]) (st2 := [.int (nI t)]) (w3 := w) rfl rfl ?_
    refine sx_RP.br (p1 := 21) (l1 := [(2, .int (nI t)), (0, .ref 111), (1, .int (nI g))]) (s1 := []) (v1 := w) rfl rfl (fun _ => ?_) (fun q => absurd (nI_pos' (by omega)) (of_decide_eq_false q))
    refine sx_RP.step (pc2 := 22) (ls2 := [(2, .int (nI t)), (0, .ref 111), (1, .int (nI g))]) (st2 := [.ref 111]) (w3 := w) rfl rfl ?_
    refine sx_RP.step (pc2 := 23) (ls2 := [(2, .int (nI t)), (0, .ref 111), (1, .int (nI g))]) (st2 := [.int (nI g), .ref 111]) (w3 := w) rfl rfl ?_
    refine sx_RP.step (pc2 := 24) (ls2 := [(2, .int (nI t)), (0, .ref 111), (1, .int (nI g))]) (st2 := [.int (nI t), .int (nI g), .ref 111]) (w3 := w) rfl rfl ?_
    obtain ⟨s, hs, es⟩ : inR ((ia w 112).getD (7 + t) 0) 3 := (hI.s (7 + t) (by omega)).2.2.1 (by omega)
    obtain ⟨b, hb2, eb⟩ := hW t ht
    rcases Decidable.em (s = 3) with h3 | h3
    · refine sx_RP.cu (as := [.ref 111, .int (nI g), .int (nI t)]) (rest2 := []) (st3 := [.int (-1)]) rfl rfl (sx_inv_v2 (mi := 170) (k := 87) (st := [.int (nI t), .int (nI g), .ref 111]) (w := w) rfl rfl hI.1.o111 rfl rfl rfl) rfl rfl ((by have z := x147 (xs := xs) (d := d + 1) hI hg ht (by omega) ek (show s < 4 by omega) es; rw [if_pos h3] at z; exact z)) rfl ?_
      refine sx_RP.step (pc2 := 28) (ls2 := [(3, .int (-1)), (2, .int (nI t)), (0, .ref 111), (1, .int (nI g))]) (st2 := []) (w3 := w) rfl rfl ?_
      refine sx_RP.step (pc2 := 29) (ls2 := [(3, .int (-1)), (2, .int (nI t)), (0, .ref 111), (1, .int (nI g))]) (st2 := [.int (-1)]) (w3 := w) rfl rfl ?_
      refine sx_RP.step (pc2 := 32) (ls2 := [(3, .int (-1)), (2, .int (nI t)), (0, .ref 111), (1, .int (nI g))]) (st2 := []) (w3 := w) rfl rfl ?_
      refine sx_RP.step (pc2 := 33) (ls2 := [(3, .int (-1)), (2, .int (nI t)), (0, .ref 111), (1, .int (nI g))]) (st2 := [.ref 111]) (w3 := w) rfl rfl ?_
      refine sx_RP.step (pc2 := 34) (ls2 := [(3, .int (-1)), (2, .int (nI t)), (0, .ref 111), (1, .int (nI g))]) (st2 := [.int (nI g), .ref 111]) (w3 := w) rfl rfl ?_
      refine sx_RP.step (pc2 := 35) (ls2 := [(3, .int (-1)), (2, .int (nI t)), (0, .ref 111), (1, .int (nI g))]) (st2 := [.int 5, .int (nI g), .ref 111]) (w3 := w) rfl rfl ?_
      refine sx_RP.step (pc2 := 36) (ls2 := [(3, .int (-1)), (2, .int (nI t)), (0, .ref 111), (1, .int (nI g))]) (st2 := [.int 1, .int 5, .int (nI g), .ref 111]) (w3 := w) rfl rfl ?_
      refine sx_RP.callp (as2 := [.ref 111, .int (nI g), .int 5, .int 1]) (rest2 := []) rfl rfl (sx_inv_v2 (mi := 170) (k := 110) (st := [.int 1, .int 5, .int (nI g), .ref 111]) (w := w) rfl rfl hI.1.o111 rfl rfl rfl) rfl rfl rfl (X154 (c := 5) hI (show g < 10 by omega) (by decide) (eOK_g (g := g) (c := 5) (by omega) (by decide) (show inR 1 1 from ⟨1, by decide, rfl⟩))) (show _ = 39 from rfl) ?_
      rintro r4 w3 ⟨⟨rfl, hv1⟩, hI4, hs2⟩
      show sx_RP _ _ _ _ _ [.int ((ia w 112).getD (103 + 6 * g + 5) 0)] _ _
      refine sx_RP.step (pc2 := 40) (ls2 := [(3, .int (-1)), (2, .int (nI t)), (0, .ref 111), (1, .int (nI g))]) (st2 := []) (w3 := w3) rfl rfl ?_
      refine sx_RP.ret (r := none) rfl rfl ?_
      have hl := hI.1.a112.2
      have e0 : digT (ia w 112) g = dgT (gdL (ia w 112)) (wlL (ia w 112)) k h y (gF (ia w 112) g 4) (gF (ia w 112) g 5) := by unfold digT gF; rw [ek, eh, ey, iN_n (by omega), iN_n (by omega), iN_n (by omega)]
      refine ⟨⟨rfl, ?_⟩, hI4, (Same.tr Same.rf hs2)⟩
      rw [digR_of (e0.trans (dgT_2 hb ht (es.trans (by rw [h3]; rfl)))), hv1]
      exact (dg_2 hl hg eh rfl).symm
    · refine sx_RP.cu (as := [.ref 111, .int (nI g), .int (nI t)]) (rest2 := []) (st3 := [.int (tmV k s (nI b))]) rfl rfl (sx_inv_v2 (mi := 170) (k := 87) (st := [.int (nI t), .int (nI g), .ref 111]) (w := w) rfl rfl hI.1.o111 rfl rfl rfl) rfl rfl ((by have z := x147 (xs := xs) (d := d + 1) hI hg ht (by omega) ek (show s < 4 by omega) es; rw [if_neg h3, eb] at z; exact z)) rfl ?_
      refine sx_RP.step (pc2 := 28) (ls2 := [(3, .int (tmV k s (nI b))), (2, .int (nI t)), (0, .ref 111), (1, .int (nI g))]) (st2 := []) (w3 := w) rfl rfl ?_
      refine sx_RP.step (pc2 := 29) (ls2 := [(3, .int (tmV k s (nI b))), (2, .int (nI t)), (0, .ref 111), (1, .int (nI g))]) (st2 := [.int (tmV k s (nI b))]) (w3 := w) rfl rfl ?_
      refine sx_RP.br (p1 := 41) (l1 := [(3, .int (tmV k s (nI b))), (2, .int (nI t)), (0, .ref 111), (1, .int (nI g))]) (s1 := []) (v1 := w) rfl rfl (fun _ => ?_) (fun q => absurd (Int32.not_lt.mp (tmV_pos k (by omega) s (by omega) b hb2)) (of_decide_eq_false q))
      refine sx_RP.step (pc2 := 42) (ls2 := [(3, .int (tmV k s (nI b))), (2, .int (nI t)), (0, .ref 111), (1, .int (nI g))]) (st2 := [.ref 111]) (w3 := w) rfl rfl ?_
      refine sx_RP.step (pc2 := 43) (ls2 := [(3, .int (tmV k s (nI b))), (2, .int (nI t)), (0, .ref 111), (1, .int (nI g))]) (st2 := [.int (nI g), .ref 111]) (w3 := w) rfl rfl ?_
      refine sx_RP.step (pc2 := 44) (ls2 := [(3, .int (tmV k s (nI b))), (2, .int (nI t)), (0, .ref 111), (1, .int (nI g))]) (st2 := [.int 4, .int (nI g), .ref 111]) (w3 := w) rfl rfl ?_
      refine sx_RP.cu (as := [.ref 111, .int (nI g), .int 4]) (rest2 := []) (st3 := [.int ((ia w 112).getD (103 + 6 * g + 4) 0)]) rfl rfl (sx_inv_v2 (mi := 170) (k := 59) (st := [.int 4, .int (nI g), .ref 111]) (w := w) rfl rfl hI.1.o111 rfl rfl rfl) rfl rfl (x138 hI hg (show 4 < 6 by decide)) rfl ?_
      refine sx_RP.step (pc2 := 48) (ls2 := [(3, .int (tmV k s (nI b))), (2, .int (nI t)), (0, .ref 111), (1, .int (nI g))]) (st2 := [.int 1, .int ((ia w 112).getD (103 + 6 * g + 4) 0)]) (w3 := w) rfl rfl ?_
      refine sx_RP.step (pc2 := 49) (ls2 := [(3, .int (tmV k s (nI b))), (2, .int (nI t)), (0, .ref 111), (1, .int (nI g))]) (st2 := [.int (((ia w 112).getD (103 + 6 * g + 4) 0) + 1)]) (w3 := w) rfl rfl ?_
      refine sx_RP.step (pc2 := 51) (ls2 := [(4, .int (((ia w 112).getD (103 + 6 * g + 4) 0) + 1)), (3, .int (tmV k s (nI b))), (2, .int (nI t)), (0, .ref 111), (1, .int (nI g))]) (st2 := []) (w3 := w) rfl rfl ?_
      refine sx_RP.step (pc2 := 52) (ls2 := [(4, .int (((ia w 112).getD (103 + 6 * g + 4) 0) + 1)), (3, .int (tmV k s (nI b))), (2, .int (nI t)), (0, .ref 111), (1, .int (nI g))]) (st2 := [.ref 111]) (w3 := w) rfl rfl ?_
      refine sx_RP.step (pc2 := 53) (ls2 := [(4, .int (((ia w 112).getD (103 + 6 * g + 4) 0) + 1)), (3, .int (tmV k s (nI b))), (2, .int (nI t)), (0, .ref 111), (1, .int (nI g))]) (st2 := [.int (nI g), .ref 111]) (w3 := w) rfl rfl ?_
      refine sx_RP.step (pc2 := 54) (ls2 := [(4, .int (((ia w 112).getD (103 + 6 * g + 4) 0) + 1)), (3, .int (tmV k s (nI b))), (2, .int (nI t)), (0, .ref 111), (1, .int (nI g))]) (st2 := [.int 4, .int (nI g), .ref 111]) (w3 := w) rfl rfl ?_
      refine sx_RP.step (pc2 := 56) (ls2 := [(4, .int (((ia w 112).getD (103 + 6 * g + 4) 0) + 1)), (3, .int (tmV k s (nI b))), (2, .int (nI t)), (0, .ref 111), (1, .int (nI g))]) (st2 := [.int (((ia w 112).getD (103 + 6 * g + 4) 0) + 1), .int 4, .int (nI g), .ref 111]) (w3 := w) rfl rfl ?_
      refine sx_RP.step (pc2 := 57) (ls2 := [(4, .int (((ia w 112).getD (103 + 6 * g + 4) 0) + 1)), (3, .int (tmV k s (nI b))), (2, .int (nI t)), (0, .ref 111), (1, .int (nI g))]) (st2 := [.int (tmV k s (nI b)), .int (((ia w 112).getD (103 + 6 * g + 4) 0) + 1), .int 4, .int (nI g), .ref 111]) (w3 := w) rfl rfl ?_
      refine sx_RP.br (p1 := 64) (l1 := [(4, .int (((ia w 112).getD (103 + 6 * g + 4) 0) + 1)), (3, .int (tmV k s (nI b))), (2, .int (nI t)), (0, .ref 111), (1, .int (nI g))]) (s1 := [.int 4, .int (nI g), .ref 111]) (v1 := w) (p2 := 60) (l2 := [(4, .int (((ia w 112).getD (103 + 6 * g + 4) 0) + 1)), (3, .int (tmV k s (nI b))), (2, .int (nI t)), (0, .ref 111), (1, .int (nI g))]) (s2 := [.int 4, .int (nI g), .ref 111]) (v2 := w) rfl rfl (fun q5 => ?_) (fun q5 => ?_)
      · replace q5 := of_decide_eq_true q5
        refine sx_RP.step (pc2 := 66) (ls2 := [(4, .int (((ia w 112).getD (103 + 6 * g + 4) 0) + 1)), (3, .int (tmV k s (nI b))), (2, .int (nI t)), (0, .ref 111), (1, .int (nI g))]) (st2 := [.int (((ia w 112).getD (103 + 6 * g + 4) 0) + 1), .int 4, .int (nI g), .ref 111]) (w3 := w) rfl rfl ?_
        refine sx_RP.callp (as2 := [.ref 111, .int (nI g), .int 4, .int (((ia w 112).getD (103 + 6 * g + 4) 0) + 1)]) (rest2 := []) rfl rfl (sx_inv_v2 (mi := 170) (k := 110) (st := [.int (((ia w 112).getD (103 + 6 * g + 4) 0) + 1), .int 4, .int (nI g), .ref 111]) (w := w) rfl rfl hI.1.o111 rfl rfl rfl) rfl rfl rfl (X154 (c := 4) hI (show g < 10 by omega) (by decide) (eOK_g (g := g) (c := 4) (by omega) (by decide) trivial)) (show _ = 69 from rfl) ?_
        rintro r4 w8 ⟨⟨rfl, hv6⟩, hI9, hs7⟩
        show sx_RP _ _ _ _ _ [.int ((ia w 112).getD (103 + 6 * g + 4) 0)] _ _
        refine sx_RP.step (pc2 := 70) (ls2 := [(4, .int (((ia w 112).getD (103 + 6 * g + 4) 0) + 1)), (3, .int (tmV k s (nI b))), (2, .int (nI t)), (0, .ref 111), (1, .int (nI g))]) (st2 := []) (w3 := w8) rfl rfl ?_
        refine sx_RP.step (pc2 := 72) (ls2 := [(4, .int (((ia w 112).getD (103 + 6 * g + 4) 0) + 1)), (3, .int (tmV k s (nI b))), (2, .int (nI t)), (0, .ref 111), (1, .int (nI g))]) (st2 := [.int (((ia w 112).getD (103 + 6 * g + 4) 0) + 1)]) (w3 := w8) rfl rfl ?_
        refine sx_RP.step (pc2 := 73) (ls2 := [(4, .int (((ia w 112).getD (103 + 6 * g + 4) 0) + 1)), (3, .int (tmV k s (nI b))), (2, .int (nI t)), (0, .ref 111), (1, .int (nI g))]) (st2 := [.int (tmV k s (nI b)), .int (((ia w 112).getD (103 + 6 * g + 4) 0) + 1)]) (w3 := w8) rfl rfl ?_
        refine sx_RP.br (p1 := 105) (l1 := [(4, .int (((ia w 112).getD (103 + 6 * g + 4) 0) + 1)), (3, .int (tmV k s (nI b))), (2, .int (nI t)), (0, .ref 111), (1, .int (nI g))]) (s1 := []) (v1 := w8) rfl rfl (fun _ => ?_) (fun q => absurd q5 (of_decide_eq_false q))
        refine sx_RP.ret (r := none) rfl rfl ?_
        have hl := hI.1.a112.2
        have e0 : digT (ia w 112) g = dgT (gdL (ia w 112)) (wlL (ia w 112)) k h y (gF (ia w 112) g 4) (gF (ia w 112) g 5) := by unfold digT gF; rw [ek, eh, ey, iN_n (by omega), iN_n (by omega), iN_n (by omega)]
        refine ⟨⟨rfl, ?_⟩, hI9, (Same.tr Same.rf hs7)⟩
        rw [digR_of (e0.trans (dgT_4 hb ht es (by omega) h3 (by show ¬ tmV k s ((ia w 112).getD (55 + t) 0) ≤ _; rw [eb]; exact Int32.not_le.mpr q5))), hv6]
        exact (dg_4 hl hg eh rfl).symm
      · replace q5 := of_decide_eq_false q5
        refine sx_RP.step (pc2 := 61) (ls2 := [(4, .int (((ia w 112).getD (103 + 6 * g + 4) 0) + 1)), (3, .int (tmV k s (nI b))), (2, .int (nI t)), (0, .ref 111), (1, .int (nI g))]) (st2 := [.int 0, .int 4, .int (nI g), .ref 111]) (w3 := w) rfl rfl ?_
        refine sx_RP.step (pc2 := 66) (ls2 := [(4, .int (((ia w 112).getD (103 + 6 * g + 4) 0) + 1)), (3, .int (tmV k s (nI b))), (2, .int (nI t)), (0, .ref 111), (1, .int (nI g))]) (st2 := [.int 0, .int 4, .int (nI g), .ref 111]) (w3 := w) rfl rfl ?_
        refine sx_RP.callp (as2 := [.ref 111, .int (nI g), .int 4, .int 0]) (rest2 := []) rfl rfl (sx_inv_v2 (mi := 170) (k := 110) (st := [.int 0, .int 4, .int (nI g), .ref 111]) (w := w) rfl rfl hI.1.o111 rfl rfl rfl) rfl rfl rfl (X154 (c := 4) hI (show g < 10 by omega) (by decide) (eOK_g (g := g) (c := 4) (by omega) (by decide) trivial)) (show _ = 69 from rfl) ?_
        rintro r4 w12 ⟨⟨rfl, hv10⟩, hI13, hs11⟩
        show sx_RP _ _ _ _ _ [.int ((ia w 112).getD (103 + 6 * g + 4) 0)] _ _
        refine sx_RP.step (pc2 := 70) (ls2 := [(4, .int (((ia w 112).getD (103 + 6 * g + 4) 0) + 1)), (3, .int (tmV k s (nI b))), (2, .int (nI t)), (0, .ref 111), (1, .int (nI g))]) (st2 := []) (w3 := w12) rfl rfl ?_
        refine sx_RP.step (pc2 := 72) (ls2 := [(4, .int (((ia w 112).getD (103 + 6 * g + 4) 0) + 1)), (3, .int (tmV k s (nI b))), (2, .int (nI t)), (0, .ref 111), (1, .int (nI g))]) (st2 := [.int (((ia w 112).getD (103 + 6 * g + 4) 0) + 1)]) (w3 := w12) rfl rfl ?_
        refine sx_RP.step (pc2 := 73) (ls2 := [(4, .int (((ia w 112).getD (103 + 6 * g + 4) 0) + 1)), (3, .int (tmV k s (nI b))), (2, .int (nI t)), (0, .ref 111), (1, .int (nI g))]) (st2 := [.int (tmV k s (nI b)), .int (((ia w 112).getD (103 + 6 * g + 4) 0) + 1)]) (w3 := w12) rfl rfl ?_
        refine sx_RP.br (p2 := 76) (l2 := [(4, .int (((ia w 112).getD (103 + 6 * g + 4) 0) + 1)), (3, .int (tmV k s (nI b))), (2, .int (nI t)), (0, .ref 111), (1, .int (nI g))]) (s2 := []) (v2 := w12) rfl rfl (fun q => absurd (of_decide_eq_true q) q5) (fun _ => ?_)
        refine sx_RP.step (pc2 := 77) (ls2 := [(4, .int (((ia w 112).getD (103 + 6 * g + 4) 0) + 1)), (3, .int (tmV k s (nI b))), (2, .int (nI t)), (0, .ref 111), (1, .int (nI g))]) (st2 := [.ref 111]) (w3 := w12) rfl rfl ?_
        refine sx_RP.step (pc2 := 78) (ls2 := [(4, .int (((ia w 112).getD (103 + 6 * g + 4) 0) + 1)), (3, .int (tmV k s (nI b))), (2, .int (nI t)), (0, .ref 111), (1, .int (nI g))]) (st2 := [.int (nI g), .ref 111]) (w3 := w12) rfl rfl ?_
        refine sx_RP.step (pc2 := 79) (ls2 := [(4, .int (((ia w 112).getD (103 + 6 * g + 4) 0) + 1)), (3, .int (tmV k s (nI b))), (2, .int (nI t)), (0, .ref 111), (1, .int (nI g))]) (st2 := [.int 2, .int (nI g), .ref 111]) (w3 := w12) rfl rfl ?_
        refine sx_RP.step (pc2 := 80) (ls2 := [(4, .int (((ia w 112).getD (103 + 6 * g + 4) 0) + 1)), (3, .int (tmV k s (nI b))), (2, .int (nI t)), (0, .ref 111), (1, .int (nI g))]) (st2 := [.int (nI t), .int 2, .int (nI g), .ref 111]) (w3 := w12) rfl rfl ?_
        refine sx_RP.callp (as2 := [.ref 111, .int (nI g), .int 2, .int (nI t)]) (rest2 := []) rfl rfl (sx_inv_v2 (mi := 170) (k := 110) (st := [.int (nI t), .int 2, .int (nI g), .ref 111]) (w := w12) rfl rfl hI13.1.o111 rfl rfl rfl) rfl rfl rfl (X154 (c := 2) hI13 (show g < 10 by omega) (by decide) (eOK_g (g := g) (c := 2) (by omega) (by decide) (inR.n (show t ≤ 47 by omega)))) (show _ = 83 from rfl) ?_
        rintro r4 w16 ⟨⟨rfl, hv14⟩, hI17, hs15⟩
        show sx_RP _ _ _ _ _ [.int ((ia w12 112).getD (103 + 6 * g + 2) 0)] _ _
        refine sx_RP.step (pc2 := 84) (ls2 := [(4, .int (((ia w 112).getD (103 + 6 * g + 4) 0) + 1)), (3, .int (tmV k s (nI b))), (2, .int (nI t)), (0, .ref 111), (1, .int (nI g))]) (st2 := []) (w3 := w16) rfl rfl ?_
        refine sx_RP.step (pc2 := 85) (ls2 := [(4, .int (((ia w 112).getD (103 + 6 * g + 4) 0) + 1)), (3, .int (tmV k s (nI b))), (2, .int (nI t)), (0, .ref 111), (1, .int (nI g))]) (st2 := [.ref 111]) (w3 := w16) rfl rfl ?_
        refine sx_RP.step (pc2 := 86) (ls2 := [(4, .int (((ia w 112).getD (103 + 6 * g + 4) 0) + 1)), (3, .int (tmV k s (nI b))), (2, .int (nI t)), (0, .ref 111), (1, .int (nI g))]) (st2 := [.int (nI g), .ref 111]) (w3 := w16) rfl rfl ?_
        refine sx_RP.step (pc2 := 87) (ls2 := [(4, .int (((ia w 112).getD (103 + 6 * g + 4) 0) + 1)), (3, .int (tmV k s (nI b))), (2, .int (nI t)), (0, .ref 111), (1, .int (nI g))]) (st2 := [.int 5, .int (nI g), .ref 111]) (w3 := w16) rfl rfl ?_
        refine sx_RP.step (pc2 := 88) (ls2 := [(4, .int (((ia w 112).getD (103 + 6 * g + 4) 0) + 1)), (3, .int (tmV k s (nI b))), (2, .int (nI t)), (0, .ref 111), (1, .int (nI g))]) (st2 := [.ref 111, .int 5, .int (nI g), .ref 111]) (w3 := w16) rfl rfl ?_
        refine sx_RP.step (pc2 := 89) (ls2 := [(4, .int (((ia w 112).getD (103 + 6 * g + 4) 0) + 1)), (3, .int (tmV k s (nI b))), (2, .int (nI t)), (0, .ref 111), (1, .int (nI g))]) (st2 := [.int (nI g), .ref 111, .int 5, .int (nI g), .ref 111]) (w3 := w16) rfl rfl ?_
        refine sx_RP.step (pc2 := 90) (ls2 := [(4, .int (((ia w 112).getD (103 + 6 * g + 4) 0) + 1)), (3, .int (tmV k s (nI b))), (2, .int (nI t)), (0, .ref 111), (1, .int (nI g))]) (st2 := [.int (nI t), .int (nI g), .ref 111, .int 5, .int (nI g), .ref 111]) (w3 := w16) rfl rfl ?_
        have ek9 : (ia w16 112).getD (103 + 6 * g + 0) 0 = nI k := by rw [hv14, hv10, gd_ne (by omega), gd_ne (by omega)]; exact ek
        have es9 : (ia w16 112).getD (7 + t) 0 = nI s := by rw [hv14, hv10, gd_ne (by omega), gd_ne (by omega)]; exact es
        rcases Bool.eq_false_or_eq_true (fmB k s) with hf | hf
        · refine sx_RP.cu (as := [.ref 111, .int (nI g), .int (nI t)]) (rest2 := [.int 5, .int (nI g), .ref 111]) (st3 := [.int 1, .int 5, .int (nI g), .ref 111]) rfl rfl (sx_inv_v2 (mi := 170) (k := 107) (st := [.int (nI t), .int (nI g), .ref 111, .int 5, .int (nI g), .ref 111]) (w := w16) rfl rfl hI17.1.o111 rfl rfl rfl) rfl rfl ((by have z := x144 (xs := xs) (d := d + 1) hI17 hg ht (by omega) ek9 (show s < 4 by omega) es9; rw [hf] at z; exact z)) rfl ?_
          refine sx_RP.step (pc2 := 96) (ls2 := [(4, .int (((ia w 112).getD (103 + 6 * g + 4) 0) + 1)), (3, .int (tmV k s (nI b))), (2, .int (nI t)), (0, .ref 111), (1, .int (nI g))]) (st2 := [.int 5, .int (nI g), .ref 111]) (w3 := w16) rfl rfl ?_
          refine sx_RP.step (pc2 := 97) (ls2 := [(4, .int (((ia w 112).getD (103 + 6 * g + 4) 0) + 1)), (3, .int (tmV k s (nI b))), (2, .int (nI t)), (0, .ref 111), (1, .int (nI g))]) (st2 := [.int 0, .int 5, .int (nI g), .ref 111]) (w3 := w16) rfl rfl ?_
          refine sx_RP.step (pc2 := 101) (ls2 := [(4, .int (((ia w 112).getD (103 + 6 * g + 4) 0) + 1)), (3, .int (tmV k s (nI b))), (2, .int (nI t)), (0, .ref 111), (1, .int (nI g))]) (st2 := [.int 0, .int 5, .int (nI g), .ref 111]) (w3 := w16) rfl rfl ?_
          refine sx_RP.callp (as2 := [.ref 111, .int (nI g), .int 5, .int 0]) (rest2 := []) rfl rfl (sx_inv_v2 (mi := 170) (k := 110) (st := [.int 0, .int 5, .int (nI g), .ref 111]) (w := w16) rfl rfl hI17.1.o111 rfl rfl rfl) rfl rfl rfl (X154 (c := 5) hI17 (show g < 10 by omega) (by decide) (eOK_g (g := g) (c := 5) (by omega) (by decide) (show inR 0 1 from ⟨0, by decide, rfl⟩))) (show _ = 104 from rfl) ?_
          rintro r4 w20 ⟨⟨rfl, hv18⟩, hI21, hs19⟩
          show sx_RP _ _ _ _ _ [.int ((ia w16 112).getD (103 + 6 * g + 5) 0)] _ _
          refine sx_RP.step (pc2 := 105) (ls2 := [(4, .int (((ia w 112).getD (103 + 6 * g + 4) 0) + 1)), (3, .int (tmV k s (nI b))), (2, .int (nI t)), (0, .ref 111), (1, .int (nI g))]) (st2 := []) (w3 := w20) rfl rfl ?_
          refine sx_RP.ret (r := none) rfl rfl ?_
          have hl := hI.1.a112.2
          have e0 : digT (ia w 112) g = dgT (gdL (ia w 112)) (wlL (ia w 112)) k h y (gF (ia w 112) g 4) (gF (ia w 112) g 5) := by unfold digT gF; rw [ek, eh, ey, iN_n (by omega), iN_n (by omega), iN_n (by omega)]
          refine ⟨⟨rfl, ?_⟩, hI21, (Same.tr (Same.tr (Same.tr Same.rf hs11) hs15) hs19)⟩
          rw [digR_of (e0.trans (dgT_3 hb ht es (by omega) h3 (by show tmV k s ((ia w 112).getD (55 + t) 0) ≤ _; rw [eb]; exact Int32.not_lt.mp q5))), hf, hv18, hv14, hv10]
          exact (dg_3).symm
        · refine sx_RP.cu (as := [.ref 111, .int (nI g), .int (nI t)]) (rest2 := [.int 5, .int (nI g), .ref 111]) (st3 := [.int 0, .int 5, .int (nI g), .ref 111]) rfl rfl (sx_inv_v2 (mi := 170) (k := 107) (st := [.int (nI t), .int (nI g), .ref 111, .int 5, .int (nI g), .ref 111]) (w := w16) rfl rfl hI17.1.o111 rfl rfl rfl) rfl rfl ((by have z := x144 (xs := xs) (d := d + 1) hI17 hg ht (by omega) ek9 (show s < 4 by omega) es9; rw [hf] at z; exact z)) rfl ?_
          refine sx_RP.step (pc2 := 100) (ls2 := [(4, .int (((ia w 112).getD (103 + 6 * g + 4) 0) + 1)), (3, .int (tmV k s (nI b))), (2, .int (nI t)), (0, .ref 111), (1, .int (nI g))]) (st2 := [.int 5, .int (nI g), .ref 111]) (w3 := w16) rfl rfl ?_
          refine sx_RP.step (pc2 := 101) (ls2 := [(4, .int (((ia w 112).getD (103 + 6 * g + 4) 0) + 1)), (3, .int (tmV k s (nI b))), (2, .int (nI t)), (0, .ref 111), (1, .int (nI g))]) (st2 := [.int 1, .int 5, .int (nI g), .ref 111]) (w3 := w16) rfl rfl ?_
          refine sx_RP.callp (as2 := [.ref 111, .int (nI g), .int 5, .int 1]) (rest2 := []) rfl rfl (sx_inv_v2 (mi := 170) (k := 110) (st := [.int 1, .int 5, .int (nI g), .ref 111]) (w := w16) rfl rfl hI17.1.o111 rfl rfl rfl) rfl rfl rfl (X154 (c := 5) hI17 (show g < 10 by omega) (by decide) (eOK_g (g := g) (c := 5) (by omega) (by decide) (show inR 1 1 from ⟨1, by decide, rfl⟩))) (show _ = 104 from rfl) ?_
          rintro r4 w24 ⟨⟨rfl, hv22⟩, hI25, hs23⟩
          show sx_RP _ _ _ _ _ [.int ((ia w16 112).getD (103 + 6 * g + 5) 0)] _ _
          refine sx_RP.step (pc2 := 105) (ls2 := [(4, .int (((ia w 112).getD (103 + 6 * g + 4) 0) + 1)), (3, .int (tmV k s (nI b))), (2, .int (nI t)), (0, .ref 111), (1, .int (nI g))]) (st2 := []) (w3 := w24) rfl rfl ?_
          refine sx_RP.ret (r := none) rfl rfl ?_
          have hl := hI.1.a112.2
          have e0 : digT (ia w 112) g = dgT (gdL (ia w 112)) (wlL (ia w 112)) k h y (gF (ia w 112) g 4) (gF (ia w 112) g 5) := by unfold digT gF; rw [ek, eh, ey, iN_n (by omega), iN_n (by omega), iN_n (by omega)]
          refine ⟨⟨rfl, ?_⟩, hI25, (Same.tr (Same.tr (Same.tr Same.rf hs11) hs15) hs23)⟩
          rw [digR_of (e0.trans (dgT_3 hb ht es (by omega) h3 (by show tmV k s ((ia w 112).getD (55 + t) 0) ≤ _; rw [eb]; exact Int32.not_lt.mp q5))), hf, hv22, hv14, hv10]
          exact (dg_3).symm
end
-- 89y10.night.lean.txt
section
theorem near_t {a b : Nat} (h : a = b ∨ ∃ j, j < 4 ∧ bsd a j = nI b) : nearB a b = true := by
  unfold nearB
  rcases h with h | h
  · rw [beq_iff_eq.mpr h]
    rfl
  · rw [nbb_iff.mpr h, Bool.or_true]
theorem near_f {a b : Nat} (h0 : ¬ a = b) (h1 : ¬ bsd a 0 = nI b) (h2 : ¬ bsd a 1 = nI b) (h3 : ¬ bsd a 2 = nI b) (h4 : ¬ bsd a 3 = nI b) : nearB a b = false := by
  unfold nearB
  rw [beq_false_of_ne h0, Bool.false_or]
  refine Bool.eq_false_iff.mpr (fun z => ?_)
  obtain ⟨j, hj, e⟩ := nbb_iff.mp z
  rcases (show j = 0 ∨ j = 1 ∨ j = 2 ∨ j = 3 by omega) with rfl | rfl | rfl | rfl
  · exact h1 e
  · exact h2 e
  · exact h3 e
  · exact h4 e
theorem lf_y {l : List Int32} {x : Int32} {j : Nat} (h : gF l j 1 = x ∧ gF l j 5 = 0) : lfF l x (j + 1) = lfF l x j + 1 := by
  show lfF l x j + _ = _
  rw [if_pos h]
theorem lf_n {l : List Int32} {x : Int32} {j : Nat} (h : ¬ (gF l j 1 = x ∧ gF l j 5 = 0)) : lfF l x (j + 1) = lfF l x j := by
  show lfF l x j + _ = _
  rw [if_neg h]
  exact Int32.add_zero _
theorem me_n {l : List Int32} {h j : Nat} (h0 : meF l h j = false) (hc : ¬ (gF l j 1 = 1 ∧ gF l j 5 = 0)) : meF l h (j + 1) = false := by
  unfold meF
  rw [h0, decide_eq_false hc]
  rfl
theorem me_c {l : List Int32} {h j c : Nat} (h0 : meF l h j = false) (hc : gF l j 1 = 1 ∧ gF l j 5 = 0) (e : gF l j 2 = nI c) (hc48 : c < 48) : meF l h (j + 1) = nearB c h := by
  unfold meF
  rw [h0, decide_eq_true hc, e, iN_n (by omega)]
  rfl
theorem near_le {a b : Nat} (ha : a < 48) (hb : b < 48) (h : apF a b ≤ 1) : nearB a b = true := by
  rw [← ap_near a ha b hb]
  exact decide_eq_true h
theorem near_gt {a b : Nat} (ha : a < 48) (hb : b < 48) (h : ¬ apF a b ≤ 1) : nearB a b = false := by
  rw [← ap_near a ha b hb]
  exact decide_eq_false h
theorem tel9 {a b c e : Int32} : (a - b) + (b - c - e) = a - (c + e) := by
  simp only [Int32.sub_eq_add_neg, Int32.neg_add, Int32.add_assoc]
  rw [← Int32.add_assoc (-b) b, Int32.add_left_neg, Int32.zero_add]
theorem Out.tr {A : Nat} {w w1 w2 : List sx_C} (h : Out A w w1) (h2 : Out A w1 w2) : Out A w w2 := fun a ha => (h2 a ha).trans (h a ha)
theorem Same.out {A a : Nat} {w w2 : List sx_C} (h : Same a w w2) (ha : A ≤ a ∧ a < A + 14) : Out A w w2 := fun b hb => h b (by omega)
set_option maxRecDepth 20000 in
set_option maxHeartbeats 4000000 in
theorem x172 {xs : Option (List Int32)} {d : Nat} {w : List sx_C} (hI : WI w) {a b : Nat} (ha : a < 48) (hb : b < 48) : sx_RU xs (d + 1) 172 0 (lv_args 0 [.int (nI a), .int (nI b)]) [] w (some (.int (b01 (nearB a b)))) w := by
  have h : sx_RP xs (d + 1) 172 0 (lv_args 0 [.int (nI a), .int (nI b)]) [] w (fun r9 w2 => r9 = some (.int (b01 (nearB a b))) ∧ w2 = w) := by
    refine sx_RP.step (pc2 := 1) (ls2 := [(0, .int (nI a)), (1, .int (nI b))]) (st2 := [.int (nI a)]) (w3 := w) rfl rfl ?_
    refine sx_RP.step (pc2 := 2) (ls2 := [(0, .int (nI a)), (1, .int (nI b))]) (st2 := [.int (nI b), .int (nI a)]) (w3 := w) rfl rfl ?_
    refine sx_RP.br (p1 := 9) (l1 := [(0, .int (nI a)), (1, .int (nI b))]) (s1 := []) (v1 := w) (p2 := 5) (l2 := [(0, .int (nI a)), (1, .int (nI b))]) (s2 := []) (v2 := w) rfl rfl (fun q1 => ?_) (fun q1 => ?_)
    · replace q1 := of_decide_eq_true q1
      replace q1 := mt (nI_eq (a := a) (b := b) (by omega) (by omega)).mpr q1
      refine sx_RP.step (pc2 := 10) (ls2 := [(0, .int (nI a)), (1, .int (nI b))]) (st2 := [.int 0]) (w3 := w) rfl rfl ?_
      refine sx_RP.step (pc2 := 11) (ls2 := [(2, .int 0), (0, .int (nI a)), (1, .int (nI b))]) (st2 := []) (w3 := w) rfl rfl ?_
      refine sx_RP.step (pc2 := 12) (ls2 := [(2, .int 0), (0, .int (nI a)), (1, .int (nI b))]) (st2 := [.int 0]) (w3 := w) rfl rfl ?_
      refine sx_RP.step (pc2 := 13) (ls2 := [(3, .int 0), (2, .int 0), (0, .int (nI a)), (1, .int (nI b))]) (st2 := []) (w3 := w) rfl rfl ?_
      refine sx_RP.step (pc2 := 14) (ls2 := [(3, .int 0), (2, .int 0), (0, .int (nI a)), (1, .int (nI b))]) (st2 := [.int 0]) (w3 := w) rfl rfl ?_
      refine sx_RP.step (pc2 := 15) (ls2 := [(3, .int 0), (2, .int 0), (0, .int (nI a)), (1, .int (nI b))]) (st2 := [.int 4, .int 0]) (w3 := w) rfl rfl ?_
      refine sx_RP.step (pc2 := 18) (ls2 := [(3, .int 0), (2, .int 0), (0, .int (nI a)), (1, .int (nI b))]) (st2 := []) (w3 := w) rfl rfl ?_
      refine sx_RP.step (pc2 := 19) (ls2 := [(3, .int 0), (2, .int 0), (0, .int (nI a)), (1, .int (nI b))]) (st2 := [.int 0]) (w3 := w) rfl rfl ?_
      refine sx_RP.step (pc2 := 22) (ls2 := [(3, .int 0), (2, .int 0), (0, .int (nI a)), (1, .int (nI b))]) (st2 := []) (w3 := w) rfl rfl ?_
      refine sx_RP.step (pc2 := 23) (ls2 := [(3, .int 0), (2, .int 0), (0, .int (nI a)), (1, .int (nI b))]) (st2 := [.int (nI a)]) (w3 := w) rfl rfl ?_
      refine sx_RP.step (pc2 := 24) (ls2 := [(3, .int 0), (2, .int 0), (0, .int (nI a)), (1, .int (nI b))]) (st2 := [.int 0, .int (nI a)]) (w3 := w) rfl rfl ?_
      refine sx_RP.cu (as := [.int (nI a), .int 0]) (rest2 := []) (st3 := [.int (bsd a 0)]) rfl rfl rfl rfl rfl (cb_142 ha 0 (by decide)) rfl ?_
      refine sx_RP.step (pc2 := 28) (ls2 := [(3, .int 0), (2, .int 0), (0, .int (nI a)), (1, .int (nI b))]) (st2 := [.int (nI b), .int (bsd a 0)]) (w3 := w) rfl rfl ?_
      refine sx_RP.br (p1 := 35) (l1 := [(3, .int 0), (2, .int 0), (0, .int (nI a)), (1, .int (nI b))]) (s1 := []) (v1 := w) (p2 := 31) (l2 := [(3, .int 0), (2, .int 0), (0, .int (nI a)), (1, .int (nI b))]) (s2 := []) (v2 := w) rfl rfl (fun q2 => ?_) (fun q2 => ?_)
      · replace q2 := of_decide_eq_true q2
        refine sx_RP.step (pc2 := 36) (ls2 := [(3, .int 0), (2, .int 0), (0, .int (nI a)), (1, .int (nI b))]) (st2 := [.int 0]) (w3 := w) rfl rfl ?_
        refine sx_RP.step (pc2 := 37) (ls2 := [(2, .int 0), (3, .int 0), (0, .int (nI a)), (1, .int (nI b))]) (st2 := []) (w3 := w) rfl rfl ?_
        refine sx_RP.step (pc2 := 40) (ls2 := [(3, .int 1), (2, .int 0), (0, .int (nI a)), (1, .int (nI b))]) (st2 := []) (w3 := w) rfl rfl ?_
        refine sx_RP.step (pc2 := 13) (ls2 := [(3, .int 1), (2, .int 0), (0, .int (nI a)), (1, .int (nI b))]) (st2 := []) (w3 := w) rfl rfl ?_
        refine sx_RP.step (pc2 := 14) (ls2 := [(3, .int 1), (2, .int 0), (0, .int (nI a)), (1, .int (nI b))]) (st2 := [.int 1]) (w3 := w) rfl rfl ?_
        refine sx_RP.step (pc2 := 15) (ls2 := [(3, .int 1), (2, .int 0), (0, .int (nI a)), (1, .int (nI b))]) (st2 := [.int 4, .int 1]) (w3 := w) rfl rfl ?_
        refine sx_RP.step (pc2 := 18) (ls2 := [(3, .int 1), (2, .int 0), (0, .int (nI a)), (1, .int (nI b))]) (st2 := []) (w3 := w) rfl rfl ?_
        refine sx_RP.step (pc2 := 19) (ls2 := [(3, .int 1), (2, .int 0), (0, .int (nI a)), (1, .int (nI b))]) (st2 := [.int 0]) (w3 := w) rfl rfl ?_
        refine sx_RP.step (pc2 := 22) (ls2 := [(3, .int 1), (2, .int 0), (0, .int (nI a)), (1, .int (nI b))]) (st2 := []) (w3 := w) rfl rfl ?_
        refine sx_RP.step (pc2 := 23) (ls2 := [(3, .int 1), (2, .int 0), (0, .int (nI a)), (1, .int (nI b))]) (st2 := [.int (nI a)]) (w3 := w) rfl rfl ?_
        refine sx_RP.step (pc2 := 24) (ls2 := [(3, .int 1), (2, .int 0), (0, .int (nI a)), (1, .int (nI b))]) (st2 := [.int 1, .int (nI a)]) (w3 := w) rfl rfl ?_
        refine sx_RP.cu (as := [.int (nI a), .int 1]) (rest2 := []) (st3 := [.int (bsd a 1)]) rfl rfl rfl rfl rfl (cb_142 ha 1 (by decide)) rfl ?_
        refine sx_RP.step (pc2 := 28) (ls2 := [(3, .int 1), (2, .int 0), (0, .int (nI a)), (1, .int (nI b))]) (st2 := [.int (nI b), .int (bsd a 1)]) (w3 := w) rfl rfl ?_
        refine sx_RP.br (p1 := 35) (l1 := [(3, .int 1), (2, .int 0), (0, .int (nI a)), (1, .int (nI b))]) (s1 := []) (v1 := w) (p2 := 31) (l2 := [(3, .int 1), (2, .int 0), (0, .int (nI a)), (1, .int (nI b))]) (s2 := []) (v2 := w) rfl rfl (fun q3 => ?_) (fun q3 => ?_)
        · replace q3 := of_decide_eq_true q3
          refine sx_RP.step (pc2 := 36) (ls2 := [(3, .int 1), (2, .int 0), (0, .int (nI a)), (1, .int (nI b))]) (st2 := [.int 0]) (w3 := w) rfl rfl ?_
          refine sx_RP.step (pc2 := 37) (ls2 := [(2, .int 0), (3, .int 1), (0, .int (nI a)), (1, .int (nI b))]) (st2 := []) (w3 := w) rfl rfl ?_
          refine sx_RP.step (pc2 := 40) (ls2 := [(3, .int 2), (2, .int 0), (0, .int (nI a)), (1, .int (nI b))]) (st2 := []) (w3 := w) rfl rfl ?_
          refine sx_RP.step (pc2 := 13) (ls2 := [(3, .int 2), (2, .int 0), (0, .int (nI a)), (1, .int (nI b))]) (st2 := []) (w3 := w) rfl rfl ?_
          refine sx_RP.step (pc2 := 14) (ls2 := [(3, .int 2), (2, .int 0), (0, .int (nI a)), (1, .int (nI b))]) (st2 := [.int 2]) (w3 := w) rfl rfl ?_
          refine sx_RP.step (pc2 := 15) (ls2 := [(3, .int 2), (2, .int 0), (0, .int (nI a)), (1, .int (nI b))]) (st2 := [.int 4, .int 2]) (w3 := w) rfl rfl ?_
          refine sx_RP.step (pc2 := 18) (ls2 := [(3, .int 2), (2, .int 0), (0, .int (nI a)), (1, .int (nI b))]) (st2 := []) (w3 := w) rfl rfl ?_
          refine sx_RP.step (pc2 := 19) (ls2 := [(3, .int 2), (2, .int 0), (0, .int (nI a)), (1, .int (nI b))]) (st2 := [.int 0]) (w3 := w) rfl rfl ?_
          refine sx_RP.step (pc2 := 22) (ls2 := [(3, .int 2), (2, .int 0), (0, .int (nI a)), (1, .int (nI b))]) (st2 := []) (w3 := w) rfl rfl ?_
          refine sx_RP.step (pc2 := 23) (ls2 := [(3, .int 2), (2, .int 0), (0, .int (nI a)), (1, .int (nI b))]) (st2 := [.int (nI a)]) (w3 := w) rfl rfl ?_
          refine sx_RP.step (pc2 := 24) (ls2 := [(3, .int 2), (2, .int 0), (0, .int (nI a)), (1, .int (nI b))]) (st2 := [.int 2, .int (nI a)]) (w3 := w) rfl rfl ?_
          refine sx_RP.cu (as := [.int (nI a), .int 2]) (rest2 := []) (st3 := [.int (bsd a 2)]) rfl rfl rfl rfl rfl (cb_142 ha 2 (by decide)) rfl ?_
          refine sx_RP.step (pc2 := 28) (ls2 := [(3, .int 2), (2, .int 0), (0, .int (nI a)), (1, .int (nI b))]) (st2 := [.int (nI b), .int (bsd a 2)]) (w3 := w) rfl rfl ?_
          refine sx_RP.br (p1 := 35) (l1 := [(3, .int 2), (2, .int 0), (0, .int (nI a)), (1, .int (nI b))]) (s1 := []) (v1 := w) (p2 := 31) (l2 := [(3, .int 2), (2, .int 0), (0, .int (nI a)), (1, .int (nI b))]) (s2 := []) (v2 := w) rfl rfl (fun q4 => ?_) (fun q4 => ?_)
          · replace q4 := of_decide_eq_true q4
            refine sx_RP.step (pc2 := 36) (ls2 := [(3, .int 2), (2, .int 0), (0, .int (nI a)), (1, .int (nI b))]) (st2 := [.int 0]) (w3 := w) rfl rfl ?_
            refine sx_RP.step (pc2 := 37) (ls2 := [(2, .int 0), (3, .int 2), (0, .int (nI a)), (1, .int (nI b))]) (st2 := []) (w3 := w) rfl rfl ?_
            refine sx_RP.step (pc2 := 40) (ls2 := [(3, .int 3), (2, .int 0), (0, .int (nI a)), (1, .int (nI b))]) (st2 := []) (w3 := w) rfl rfl ?_
            refine sx_RP.step (pc2 := 13) (ls2 := [(3, .int 3), (2, .int 0), (0, .int (nI a)), (1, .int (nI b))]) (st2 := []) (w3 := w) rfl rfl ?_
            refine sx_RP.step (pc2 := 14) (ls2 := [(3, .int 3), (2, .int 0), (0, .int (nI a)), (1, .int (nI b))]) (st2 := [.int 3]) (w3 := w) rfl rfl ?_
            refine sx_RP.step (pc2 := 15) (ls2 := [(3, .int 3), (2, .int 0), (0, .int (nI a)), (1, .int (nI b))]) (st2 := [.int 4, .int 3]) (w3 := w) rfl rfl ?_
            refine sx_RP.step (pc2 := 18) (ls2 := [(3, .int 3), (2, .int 0), (0, .int (nI a)), (1, .int (nI b))]) (st2 := []) (w3 := w) rfl rfl ?_
            refine sx_RP.step (pc2 := 19) (ls2 := [(3, .int 3), (2, .int 0), (0, .int (nI a)), (1, .int (nI b))]) (st2 := [.int 0]) (w3 := w) rfl rfl ?_
            refine sx_RP.step (pc2 := 22) (ls2 := [(3, .int 3), (2, .int 0), (0, .int (nI a)), (1, .int (nI b))]) (st2 := []) (w3 := w) rfl rfl ?_
            refine sx_RP.step (pc2 := 23) (ls2 := [(3, .int 3), (2, .int 0), (0, .int (nI a)), (1, .int (nI b))]) (st2 := [.int (nI a)]) (w3 := w) rfl rfl ?_
            refine sx_RP.step (pc2 := 24) (ls2 := [(3, .int 3), (2, .int 0), (0, .int (nI a)), (1, .int (nI b))]) (st2 := [.int 3, .int (nI a)]) (w3 := w) rfl rfl ?_
            refine sx_RP.cu (as := [.int (nI a), .int 3]) (rest2 := []) (st3 := [.int (bsd a 3)]) rfl rfl rfl rfl rfl (cb_142 ha 3 (by decide)) rfl ?_
            refine sx_RP.step (pc2 := 28) (ls2 := [(3, .int 3), (2, .int 0), (0, .int (nI a)), (1, .int (nI b))]) (st2 := [.int (nI b), .int (bsd a 3)]) (w3 := w) rfl rfl ?_
            refine sx_RP.br (p1 := 35) (l1 := [(3, .int 3), (2, .int 0), (0, .int (nI a)), (1, .int (nI b))]) (s1 := []) (v1 := w) (p2 := 31) (l2 := [(3, .int 3), (2, .int 0), (0, .int (nI a)), (1, .int (nI b))]) (s2 := []) (v2 := w) rfl rfl (fun q5 => ?_) (fun q5 => ?_)
            · replace q5 := of_decide_eq_true q5
              refine sx_RP.step (pc2 := 36) (ls2 := [(3, .int 3), (2, .int 0), (0, .int (nI a)), (1, .int (nI b))]) (st2 := [.int 0]) (w3 := w) rfl rfl ?_
              refine sx_RP.step (pc2 := 37) (ls2 := [(2, .int 0), (3, .int 3), (0, .int (nI a)), (1, .int (nI b))]) (st2 := []) (w3 := w) rfl rfl ?_
              refine sx_RP.step (pc2 := 40) (ls2 := [(3, .int 4), (2, .int 0), (0, .int (nI a)), (1, .int (nI b))]) (st2 := []) (w3 := w) rfl rfl ?_
              refine sx_RP.step (pc2 := 13) (ls2 := [(3, .int 4), (2, .int 0), (0, .int (nI a)), (1, .int (nI b))]) (st2 := []) (w3 := w) rfl rfl ?_
              refine sx_RP.step (pc2 := 14) (ls2 := [(3, .int 4), (2, .int 0), (0, .int (nI a)), (1, .int (nI b))]) (st2 := [.int 4]) (w3 := w) rfl rfl ?_
              refine sx_RP.step (pc2 := 15) (ls2 := [(3, .int 4), (2, .int 0), (0, .int (nI a)), (1, .int (nI b))]) (st2 := [.int 4, .int 4]) (w3 := w) rfl rfl ?_
              refine sx_RP.step (pc2 := 43) (ls2 := [(3, .int 4), (2, .int 0), (0, .int (nI a)), (1, .int (nI b))]) (st2 := []) (w3 := w) rfl rfl ?_
              refine sx_RP.step (pc2 := 44) (ls2 := [(3, .int 4), (2, .int 0), (0, .int (nI a)), (1, .int (nI b))]) (st2 := [.int 0]) (w3 := w) rfl rfl ?_
              refine sx_RP.ret (r := (some (.int 0))) rfl rfl ?_
              exact ⟨by rw [near_f q1 q2 q3 q4 q5]; rfl, rfl⟩
            · replace q5 := Decidable.not_not.mp (of_decide_eq_false q5)
              refine sx_RP.step (pc2 := 32) (ls2 := [(3, .int 3), (2, .int 0), (0, .int (nI a)), (1, .int (nI b))]) (st2 := [.int 1]) (w3 := w) rfl rfl ?_
              refine sx_RP.step (pc2 := 36) (ls2 := [(3, .int 3), (2, .int 0), (0, .int (nI a)), (1, .int (nI b))]) (st2 := [.int 1]) (w3 := w) rfl rfl ?_
              refine sx_RP.step (pc2 := 37) (ls2 := [(2, .int 1), (3, .int 3), (0, .int (nI a)), (1, .int (nI b))]) (st2 := []) (w3 := w) rfl rfl ?_
              refine sx_RP.step (pc2 := 40) (ls2 := [(3, .int 4), (2, .int 1), (0, .int (nI a)), (1, .int (nI b))]) (st2 := []) (w3 := w) rfl rfl ?_
              refine sx_RP.step (pc2 := 13) (ls2 := [(3, .int 4), (2, .int 1), (0, .int (nI a)), (1, .int (nI b))]) (st2 := []) (w3 := w) rfl rfl ?_
              refine sx_RP.step (pc2 := 14) (ls2 := [(3, .int 4), (2, .int 1), (0, .int (nI a)), (1, .int (nI b))]) (st2 := [.int 4]) (w3 := w) rfl rfl ?_
              refine sx_RP.step (pc2 := 15) (ls2 := [(3, .int 4), (2, .int 1), (0, .int (nI a)), (1, .int (nI b))]) (st2 := [.int 4, .int 4]) (w3 := w) rfl rfl ?_
              refine sx_RP.step (pc2 := 43) (ls2 := [(3, .int 4), (2, .int 1), (0, .int (nI a)), (1, .int (nI b))]) (st2 := []) (w3 := w) rfl rfl ?_
              refine sx_RP.step (pc2 := 44) (ls2 := [(3, .int 4), (2, .int 1), (0, .int (nI a)), (1, .int (nI b))]) (st2 := [.int 1]) (w3 := w) rfl rfl ?_
              refine sx_RP.ret (r := (some (.int 1))) rfl rfl ?_
              exact ⟨by rw [near_t (Or.inr ⟨3, by decide, q5⟩)]; rfl, rfl⟩
          · replace q4 := Decidable.not_not.mp (of_decide_eq_false q4)
            refine sx_RP.step (pc2 := 32) (ls2 := [(3, .int 2), (2, .int 0), (0, .int (nI a)), (1, .int (nI b))]) (st2 := [.int 1]) (w3 := w) rfl rfl ?_
            refine sx_RP.step (pc2 := 36) (ls2 := [(3, .int 2), (2, .int 0), (0, .int (nI a)), (1, .int (nI b))]) (st2 := [.int 1]) (w3 := w) rfl rfl ?_
            refine sx_RP.step (pc2 := 37) (ls2 := [(2, .int 1), (3, .int 2), (0, .int (nI a)), (1, .int (nI b))]) (st2 := []) (w3 := w) rfl rfl ?_
            refine sx_RP.step (pc2 := 40) (ls2 := [(3, .int 3), (2, .int 1), (0, .int (nI a)), (1, .int (nI b))]) (st2 := []) (w3 := w) rfl rfl ?_
            refine sx_RP.step (pc2 := 13) (ls2 := [(3, .int 3), (2, .int 1), (0, .int (nI a)), (1, .int (nI b))]) (st2 := []) (w3 := w) rfl rfl ?_
            refine sx_RP.step (pc2 := 14) (ls2 := [(3, .int 3), (2, .int 1), (0, .int (nI a)), (1, .int (nI b))]) (st2 := [.int 3]) (w3 := w) rfl rfl ?_
            refine sx_RP.step (pc2 := 15) (ls2 := [(3, .int 3), (2, .int 1), (0, .int (nI a)), (1, .int (nI b))]) (st2 := [.int 4, .int 3]) (w3 := w) rfl rfl ?_
            refine sx_RP.step (pc2 := 18) (ls2 := [(3, .int 3), (2, .int 1), (0, .int (nI a)), (1, .int (nI b))]) (st2 := []) (w3 := w) rfl rfl ?_
            refine sx_RP.step (pc2 := 19) (ls2 := [(3, .int 3), (2, .int 1), (0, .int (nI a)), (1, .int (nI b))]) (st2 := [.int 1]) (w3 := w) rfl rfl ?_
            refine sx_RP.step (pc2 := 43) (ls2 := [(3, .int 3), (2, .int 1), (0, .int (nI a)), (1, .int (nI b))]) (st2 := []) (w3 := w) rfl rfl ?_
            refine sx_RP.step (pc2 := 44) (ls2 := [(3, .int 3), (2, .int 1), (0, .int (nI a)), (1, .int (nI b))]) (st2 := [.int 1]) (w3 := w) rfl rfl ?_
            refine sx_RP.ret (r := (some (.int 1))) rfl rfl ?_
            exact ⟨by rw [near_t (Or.inr ⟨2, by decide, q4⟩)]; rfl, rfl⟩
        · replace q3 := Decidable.not_not.mp (of_decide_eq_false q3)
          refine sx_RP.step (pc2 := 32) (ls2 := [(3, .int 1), (2, .int 0), (0, .int (nI a)), (1, .int (nI b))]) (st2 := [.int 1]) (w3 := w) rfl rfl ?_
          refine sx_RP.step (pc2 := 36) (ls2 := [(3, .int 1), (2, .int 0), (0, .int (nI a)), (1, .int (nI b))]) (st2 := [.int 1]) (w3 := w) rfl rfl ?_
          refine sx_RP.step (pc2 := 37) (ls2 := [(2, .int 1), (3, .int 1), (0, .int (nI a)), (1, .int (nI b))]) (st2 := []) (w3 := w) rfl rfl ?_
          refine sx_RP.step (pc2 := 40) (ls2 := [(3, .int 2), (2, .int 1), (0, .int (nI a)), (1, .int (nI b))]) (st2 := []) (w3 := w) rfl rfl ?_
          refine sx_RP.step (pc2 := 13) (ls2 := [(3, .int 2), (2, .int 1), (0, .int (nI a)), (1, .int (nI b))]) (st2 := []) (w3 := w) rfl rfl ?_
          refine sx_RP.step (pc2 := 14) (ls2 := [(3, .int 2), (2, .int 1), (0, .int (nI a)), (1, .int (nI b))]) (st2 := [.int 2]) (w3 := w) rfl rfl ?_
          refine sx_RP.step (pc2 := 15) (ls2 := [(3, .int 2), (2, .int 1), (0, .int (nI a)), (1, .int (nI b))]) (st2 := [.int 4, .int 2]) (w3 := w) rfl rfl ?_
          refine sx_RP.step (pc2 := 18) (ls2 := [(3, .int 2), (2, .int 1), (0, .int (nI a)), (1, .int (nI b))]) (st2 := []) (w3 := w) rfl rfl ?_
          refine sx_RP.step (pc2 := 19) (ls2 := [(3, .int 2), (2, .int 1), (0, .int (nI a)), (1, .int (nI b))]) (st2 := [.int 1]) (w3 := w) rfl rfl ?_
          refine sx_RP.step (pc2 := 43) (ls2 := [(3, .int 2), (2, .int 1), (0, .int (nI a)), (1, .int (nI b))]) (st2 := []) (w3 := w) rfl rfl ?_
          refine sx_RP.step (pc2 := 44) (ls2 := [(3, .int 2), (2, .int 1), (0, .int (nI a)), (1, .int (nI b))]) (st2 := [.int 1]) (w3 := w) rfl rfl ?_
          refine sx_RP.ret (r := (some (.int 1))) rfl rfl ?_
          exact ⟨by rw [near_t (Or.inr ⟨1, by decide, q3⟩)]; rfl, rfl⟩
      · replace q2 := Decidable.not_not.mp (of_decide_eq_false q2)
        refine sx_RP.step (pc2 := 32) (ls2 := [(3, .int 0), (2, .int 0), (0, .int (nI a)), (1, .int (nI b))]) (st2 := [.int 1]) (w3 := w) rfl rfl ?_
        refine sx_RP.step (pc2 := 36) (ls2 := [(3, .int 0), (2, .int 0), (0, .int (nI a)), (1, .int (nI b))]) (st2 := [.int 1]) (w3 := w) rfl rfl ?_
        refine sx_RP.step (pc2 := 37) (ls2 := [(2, .int 1), (3, .int 0), (0, .int (nI a)), (1, .int (nI b))]) (st2 := []) (w3 := w) rfl rfl ?_
        refine sx_RP.step (pc2 := 40) (ls2 := [(3, .int 1), (2, .int 1), (0, .int (nI a)), (1, .int (nI b))]) (st2 := []) (w3 := w) rfl rfl ?_
        refine sx_RP.step (pc2 := 13) (ls2 := [(3, .int 1), (2, .int 1), (0, .int (nI a)), (1, .int (nI b))]) (st2 := []) (w3 := w) rfl rfl ?_
        refine sx_RP.step (pc2 := 14) (ls2 := [(3, .int 1), (2, .int 1), (0, .int (nI a)), (1, .int (nI b))]) (st2 := [.int 1]) (w3 := w) rfl rfl ?_
        refine sx_RP.step (pc2 := 15) (ls2 := [(3, .int 1), (2, .int 1), (0, .int (nI a)), (1, .int (nI b))]) (st2 := [.int 4, .int 1]) (w3 := w) rfl rfl ?_
        refine sx_RP.step (pc2 := 18) (ls2 := [(3, .int 1), (2, .int 1), (0, .int (nI a)), (1, .int (nI b))]) (st2 := []) (w3 := w) rfl rfl ?_
        refine sx_RP.step (pc2 := 19) (ls2 := [(3, .int 1), (2, .int 1), (0, .int (nI a)), (1, .int (nI b))]) (st2 := [.int 1]) (w3 := w) rfl rfl ?_
        refine sx_RP.step (pc2 := 43) (ls2 := [(3, .int 1), (2, .int 1), (0, .int (nI a)), (1, .int (nI b))]) (st2 := []) (w3 := w) rfl rfl ?_
        refine sx_RP.step (pc2 := 44) (ls2 := [(3, .int 1), (2, .int 1), (0, .int (nI a)), (1, .int (nI b))]) (st2 := [.int 1]) (w3 := w) rfl rfl ?_
        refine sx_RP.ret (r := (some (.int 1))) rfl rfl ?_
        exact ⟨by rw [near_t (Or.inr ⟨0, by decide, q2⟩)]; rfl, rfl⟩
    · replace q1 := Decidable.not_not.mp (of_decide_eq_false q1)
      replace q1 := (nI_eq (a := a) (b := b) (by omega) (by omega)).mp q1
      refine sx_RP.step (pc2 := 6) (ls2 := [(0, .int (nI a)), (1, .int (nI b))]) (st2 := [.int 1]) (w3 := w) rfl rfl ?_
      refine sx_RP.step (pc2 := 10) (ls2 := [(0, .int (nI a)), (1, .int (nI b))]) (st2 := [.int 1]) (w3 := w) rfl rfl ?_
      refine sx_RP.step (pc2 := 11) (ls2 := [(2, .int 1), (0, .int (nI a)), (1, .int (nI b))]) (st2 := []) (w3 := w) rfl rfl ?_
      refine sx_RP.step (pc2 := 12) (ls2 := [(2, .int 1), (0, .int (nI a)), (1, .int (nI b))]) (st2 := [.int 0]) (w3 := w) rfl rfl ?_
      refine sx_RP.step (pc2 := 13) (ls2 := [(3, .int 0), (2, .int 1), (0, .int (nI a)), (1, .int (nI b))]) (st2 := []) (w3 := w) rfl rfl ?_
      refine sx_RP.step (pc2 := 14) (ls2 := [(3, .int 0), (2, .int 1), (0, .int (nI a)), (1, .int (nI b))]) (st2 := [.int 0]) (w3 := w) rfl rfl ?_
      refine sx_RP.step (pc2 := 15) (ls2 := [(3, .int 0), (2, .int 1), (0, .int (nI a)), (1, .int (nI b))]) (st2 := [.int 4, .int 0]) (w3 := w) rfl rfl ?_
      refine sx_RP.step (pc2 := 18) (ls2 := [(3, .int 0), (2, .int 1), (0, .int (nI a)), (1, .int (nI b))]) (st2 := []) (w3 := w) rfl rfl ?_
      refine sx_RP.step (pc2 := 19) (ls2 := [(3, .int 0), (2, .int 1), (0, .int (nI a)), (1, .int (nI b))]) (st2 := [.int 1]) (w3 := w) rfl rfl ?_
      refine sx_RP.step (pc2 := 43) (ls2 := [(3, .int 0), (2, .int 1), (0, .int (nI a)), (1, .int (nI b))]) (st2 := []) (w3 := w) rfl rfl ?_
      refine sx_RP.step (pc2 := 44) (ls2 := [(3, .int 0), (2, .int 1), (0, .int (nI a)), (1, .int (nI b))]) (st2 := [.int 1]) (w3 := w) rfl rfl ?_
      refine sx_RP.ret (r := (some (.int 1))) rfl rfl ?_
      exact ⟨by rw [near_t (Or.inl q1)]; rfl, rfl⟩
  obtain ⟨r9, w2, h1, rfl, rfl⟩ := h
  exact h1
set_option maxRecDepth 20000 in
set_option maxHeartbeats 4000000 in
theorem x42L {xs : Option (List Int32)} {d : Nat} {w : List sx_C} {x : Int32} (hI : WI w) {A n : Nat} {l : List Int32} (hA : isA A) (hR : rel w A l) (hn : n ≤ 10) (en : l.getD 1 0 = nI n) : ∀ (q j : Nat), j + q = n → sx_RP xs (d + 1) 42 4 [(0, .ref A), (1, .int x), (2, .int (lfF l x j)), (3, .int (nI j))] [] w (fun r w2 => r = some (.int (lfF l x n)) ∧ w2 = w)
  | 0, j, hj => by
    obtain rfl : j = n := by omega
    refine sx_RP.step (pc2 := 5) (ls2 := [(0, .ref A), (1, .int x), (2, .int (lfF l x j)), (3, .int (nI j))]) (st2 := [.int (nI j)]) (w3 := w) rfl rfl ?_
    refine sx_RP.step (pc2 := 6) (ls2 := [(0, .ref A), (1, .int x), (2, .int (lfF l x j)), (3, .int (nI j))]) (st2 := [.ref A, .int (nI j)]) (w3 := w) rfl rfl ?_
    refine sx_RP.gc (k := 3) hI hA rfl rfl (by omega) (show _ = 9 from rfl) ?_
    rw [(hR.many.trans en)]
    refine sx_RP.br (p1 := 34) (l1 := [(0, .ref A), (1, .int x), (2, .int (lfF l x j)), (3, .int (nI j))]) (s1 := []) (v1 := w) rfl rfl (fun _ => ?_) (fun q => absurd (nI_le (a := j) (b := j) (by omega) (by omega)) (of_decide_eq_false q))
    refine sx_RP.step (pc2 := 35) (ls2 := [(0, .ref A), (1, .int x), (2, .int (lfF l x j)), (3, .int (nI j))]) (st2 := [.int (lfF l x j)]) (w3 := w) rfl rfl ?_
    refine sx_RP.ret (r := (some (.int (lfF l x j)))) rfl rfl ?_
    exact ⟨rfl, rfl⟩
  | q + 1, j, hj => by
    refine sx_RP.step (pc2 := 5) (ls2 := [(0, .ref A), (1, .int x), (2, .int (lfF l x j)), (3, .int (nI j))]) (st2 := [.int (nI j)]) (w3 := w) rfl rfl ?_
    refine sx_RP.step (pc2 := 6) (ls2 := [(0, .ref A), (1, .int x), (2, .int (lfF l x j)), (3, .int (nI j))]) (st2 := [.ref A, .int (nI j)]) (w3 := w) rfl rfl ?_
    refine sx_RP.gc (k := 3) hI hA rfl rfl (by omega) (show _ = 9 from rfl) ?_
    rw [(hR.many.trans en)]
    refine sx_RP.br (p2 := 12) (l2 := [(0, .ref A), (1, .int x), (2, .int (lfF l x j)), (3, .int (nI j))]) (s2 := []) (v2 := w) rfl rfl (fun q => absurd (of_decide_eq_true q) (fun z => absurd ((nI_leI (a := n) (b := j) (by omega) (by omega)).mp z) (by omega))) (fun _ => ?_)
    refine sx_RP.step (pc2 := 13) (ls2 := [(0, .ref A), (1, .int x), (2, .int (lfF l x j)), (3, .int (nI j))]) (st2 := [.ref A]) (w3 := w) rfl rfl ?_
    refine sx_RP.gref (k := 2) (b := A + 2) hI hA rfl rfl (by omega) (show _ = 16 from rfl) ?_
    refine sx_RP.step (pc2 := 17) (ls2 := [(0, .ref A), (1, .int x), (2, .int (lfF l x j)), (3, .int (nI j))]) (st2 := [.int (nI j), .ref (A + 2)]) (w3 := w) rfl rfl ?_
    refine sx_RP.ald (v := .ref (A + 4 + j)) rfl (hI.1.aG hA) rfl (grA_at (show j < 10 by omega)) (show _ = 18 from rfl) ?_
    refine sx_RP.step (pc2 := 19) (ls2 := [(0, .ref A), (1, .int x), (2, .int (lfF l x j)), (3, .int (nI j))]) (st2 := [.int x, .ref (A + 4 + j)]) (w3 := w) rfl rfl ?_
    rcases Decidable.em (gF l j 1 = x ∧ gF l j 5 = 0) with hc | hc
    · refine sx_RP.cu (as := [.ref (A + 4 + j), .int x]) (rest2 := []) (st3 := [.int 1]) rfl rfl (sx_inv_v2 (mi := 42) (k := 82) (st := [.int x, .ref (A + 4 + j)]) (w := w) rfl rfl (hI.1.oG (gAd.of hA (show j < 10 by omega))) rfl rfl rfl) rfl rfl (x43y hI (gAd.of hA (show j < 10 by omega)) ⟨(hR.ga (by rw [en, iN_n (by omega)]; omega) (by decide)).trans hc.1, (hR.ga (by rw [en, iN_n (by omega)]; omega) (by decide)).trans hc.2⟩) rfl ?_
      refine sx_RP.step (pc2 := 25) (ls2 := [(0, .ref A), (1, .int x), (2, .int (lfF l x j)), (3, .int (nI j))]) (st2 := []) (w3 := w) rfl rfl ?_
      refine sx_RP.step (pc2 := 28) (ls2 := [(2, .int ((lfF l x j) + 1)), (0, .ref A), (1, .int x), (3, .int (nI j))]) (st2 := []) (w3 := w) rfl rfl ?_
      refine sx_RP.step (pc2 := 31) (ls2 := [(3, .int ((nI j) + 1)), (2, .int ((lfF l x j) + 1)), (0, .ref A), (1, .int x)]) (st2 := []) (w3 := w) rfl rfl ?_
      rw [nI_1 j]
      refine sx_RP.step (pc2 := 4) (ls2 := [(3, .int (nI (j + 1))), (2, .int ((lfF l x j) + 1)), (0, .ref A), (1, .int x)]) (st2 := []) (w3 := w) rfl rfl ?_
      rw [← lf_y hc]
      exact sx_RP.ls (sx_lr.cons rfl (sx_lr.cons rfl (sx_lr.cons rfl (sx_lr.cons rfl sx_lr.nil)))) (x42L hI hA hR hn en q (j + 1) (by omega))
    · refine sx_RP.cu (as := [.ref (A + 4 + j), .int x]) (rest2 := []) (st3 := [.int 0]) rfl rfl (sx_inv_v2 (mi := 42) (k := 82) (st := [.int x, .ref (A + 4 + j)]) (w := w) rfl rfl (hI.1.oG (gAd.of hA (show j < 10 by omega))) rfl rfl rfl) rfl rfl (x43n hI (gAd.of hA (show j < 10 by omega)) (fun z => hc ⟨(hR.ga (by rw [en, iN_n (by omega)]; omega) (by decide)).symm.trans z.1, (hR.ga (by rw [en, iN_n (by omega)]; omega) (by decide)).symm.trans z.2⟩)) rfl ?_
      refine sx_RP.step (pc2 := 28) (ls2 := [(0, .ref A), (1, .int x), (2, .int (lfF l x j)), (3, .int (nI j))]) (st2 := []) (w3 := w) rfl rfl ?_
      refine sx_RP.step (pc2 := 31) (ls2 := [(3, .int ((nI j) + 1)), (0, .ref A), (1, .int x), (2, .int (lfF l x j))]) (st2 := []) (w3 := w) rfl rfl ?_
      rw [nI_1 j]
      refine sx_RP.step (pc2 := 4) (ls2 := [(3, .int (nI (j + 1))), (0, .ref A), (1, .int x), (2, .int (lfF l x j))]) (st2 := []) (w3 := w) rfl rfl ?_
      rw [← lf_n hc]
      exact sx_RP.ls (sx_lr.cons rfl (sx_lr.cons rfl (sx_lr.cons rfl (sx_lr.cons rfl sx_lr.nil)))) (x42L hI hA hR hn en q (j + 1) (by omega))
set_option maxRecDepth 20000 in
set_option maxHeartbeats 4000000 in
theorem x42 {xs : Option (List Int32)} {d : Nat} {w : List sx_C} (hI : WI w) {A n : Nat} {l : List Int32} (hA : isA A) (hR : rel w A l) (hn : n ≤ 10) (en : l.getD 1 0 = nI n) (x : Int32) : sx_RU xs (d + 1) 42 0 (lv_args 0 [.ref A, .int x]) [] w (some (.int (lfF l x n))) w := by
  have h : sx_RP xs (d + 1) 42 0 (lv_args 0 [.ref A, .int x]) [] w (fun r9 w2 => r9 = some (.int (lfF l x n)) ∧ w2 = w) := by
    refine sx_RP.step (pc2 := 1) (ls2 := [(0, .ref A), (1, .int x)]) (st2 := [.int 0]) (w3 := w) rfl rfl ?_
    refine sx_RP.step (pc2 := 2) (ls2 := [(2, .int 0), (0, .ref A), (1, .int x)]) (st2 := []) (w3 := w) rfl rfl ?_
    refine sx_RP.step (pc2 := 3) (ls2 := [(2, .int 0), (0, .ref A), (1, .int x)]) (st2 := [.int 0]) (w3 := w) rfl rfl ?_
    refine sx_RP.step (pc2 := 4) (ls2 := [(3, .int 0), (2, .int 0), (0, .ref A), (1, .int x)]) (st2 := []) (w3 := w) rfl rfl ?_
    exact sx_RP.ls (sx_lr.cons rfl (sx_lr.cons rfl (sx_lr.cons rfl (sx_lr.cons rfl sx_lr.nil)))) (x42L hI hA hR hn en n 0 (by omega))
  obtain ⟨r9, w2, h1, rfl, rfl⟩ := h
  exact h1
set_option maxRecDepth 20000 in
set_option maxHeartbeats 4000000 in
theorem x45L {xs : Option (List Int32)} {d h : Nat} {w : List sx_C} (hI : WI w) {A n : Nat} {l : List Int32} (hA : isA A) (hR : rel w A l) (hn : n ≤ 10) (en : l.getD 1 0 = nI n) (hh : h < 48) : ∀ (q j : Nat), j + q = n → meF l h j = false → sx_RP xs (d + 2) 45 2 [(0, .ref A), (1, .int (nI h)), (2, .int (nI j))] [] w (fun r w2 => r = some (.int (b01 (meF l h n))) ∧ w2 = w)
  | 0, j, hj, h0 => by
    obtain rfl : j = n := by omega
    refine sx_RP.step (pc2 := 3) (ls2 := [(0, .ref A), (1, .int (nI h)), (2, .int (nI j))]) (st2 := [.int (nI j)]) (w3 := w) rfl rfl ?_
    refine sx_RP.step (pc2 := 4) (ls2 := [(0, .ref A), (1, .int (nI h)), (2, .int (nI j))]) (st2 := [.ref A, .int (nI j)]) (w3 := w) rfl rfl ?_
    refine sx_RP.gc (k := 3) hI hA rfl rfl (by omega) (show _ = 7 from rfl) ?_
    rw [(hR.many.trans en)]
    refine sx_RP.br (p1 := 48) (l1 := [(0, .ref A), (1, .int (nI h)), (2, .int (nI j))]) (s1 := []) (v1 := w) rfl rfl (fun _ => ?_) (fun q => absurd (nI_le (a := j) (b := j) (by omega) (by omega)) (of_decide_eq_false q))
    refine sx_RP.step (pc2 := 49) (ls2 := [(0, .ref A), (1, .int (nI h)), (2, .int (nI j))]) (st2 := [.int 0]) (w3 := w) rfl rfl ?_
    refine sx_RP.ret (r := (some (.int 0))) rfl rfl ?_
    exact ⟨by rw [h0]; rfl, rfl⟩
  | q + 1, j, hj, h0 => by
    refine sx_RP.step (pc2 := 3) (ls2 := [(0, .ref A), (1, .int (nI h)), (2, .int (nI j))]) (st2 := [.int (nI j)]) (w3 := w) rfl rfl ?_
    refine sx_RP.step (pc2 := 4) (ls2 := [(0, .ref A), (1, .int (nI h)), (2, .int (nI j))]) (st2 := [.ref A, .int (nI j)]) (w3 := w) rfl rfl ?_
    refine sx_RP.gc (k := 3) hI hA rfl rfl (by omega) (show _ = 7 from rfl) ?_
    rw [(hR.many.trans en)]
    refine sx_RP.br (p2 := 10) (l2 := [(0, .ref A), (1, .int (nI h)), (2, .int (nI j))]) (s2 := []) (v2 := w) rfl rfl (fun q => absurd (of_decide_eq_true q) (fun z => absurd ((nI_leI (a := n) (b := j) (by omega) (by omega)).mp z) (by omega))) (fun _ => ?_)
    refine sx_RP.step (pc2 := 11) (ls2 := [(0, .ref A), (1, .int (nI h)), (2, .int (nI j))]) (st2 := [.ref A]) (w3 := w) rfl rfl ?_
    refine sx_RP.gref (k := 2) (b := A + 2) hI hA rfl rfl (by omega) (show _ = 14 from rfl) ?_
    refine sx_RP.step (pc2 := 15) (ls2 := [(0, .ref A), (1, .int (nI h)), (2, .int (nI j))]) (st2 := [.int (nI j), .ref (A + 2)]) (w3 := w) rfl rfl ?_
    refine sx_RP.ald (v := .ref (A + 4 + j)) rfl (hI.1.aG hA) rfl (grA_at (show j < 10 by omega)) (show _ = 16 from rfl) ?_
    refine sx_RP.step (pc2 := 17) (ls2 := [(0, .ref A), (1, .int (nI h)), (2, .int (nI j))]) (st2 := [.int 1, .ref (A + 4 + j)]) (w3 := w) rfl rfl ?_
    rcases Decidable.em (gF l j 1 = 1 ∧ gF l j 5 = 0) with hc | hc
    · refine sx_RP.cu (as := [.ref (A + 4 + j), .int 1]) (rest2 := []) (st3 := [.int 1]) rfl rfl (sx_inv_v2 (mi := 45) (k := 82) (st := [.int 1, .ref (A + 4 + j)]) (w := w) rfl rfl (hI.1.oG (gAd.of hA (show j < 10 by omega))) rfl rfl rfl) rfl rfl (x43y hI (gAd.of hA (show j < 10 by omega)) ⟨(hR.ga (by rw [en, iN_n (by omega)]; omega) (by decide)).trans hc.1, (hR.ga (by rw [en, iN_n (by omega)]; omega) (by decide)).trans hc.2⟩) rfl ?_
      refine sx_RP.step (pc2 := 23) (ls2 := [(0, .ref A), (1, .int (nI h)), (2, .int (nI j))]) (st2 := []) (w3 := w) rfl rfl ?_
      refine sx_RP.step (pc2 := 24) (ls2 := [(0, .ref A), (1, .int (nI h)), (2, .int (nI j))]) (st2 := [.ref A]) (w3 := w) rfl rfl ?_
      refine sx_RP.gref (k := 2) (b := A + 2) hI hA rfl rfl (by omega) (show _ = 27 from rfl) ?_
      refine sx_RP.step (pc2 := 28) (ls2 := [(0, .ref A), (1, .int (nI h)), (2, .int (nI j))]) (st2 := [.int (nI j), .ref (A + 2)]) (w3 := w) rfl rfl ?_
      refine sx_RP.ald (v := .ref (A + 4 + j)) rfl (hI.1.aG hA) rfl (grA_at (show j < 10 by omega)) (show _ = 29 from rfl) ?_
      refine sx_RP.gg (k := 2) hI (gAd.of hA (show j < 10 by omega)) rfl rfl (by decide) (show _ = 32 from rfl) ?_
      obtain ⟨x1, hx2, ex3⟩ : inR (fi w (A + 4 + j) 2) 47 := hI.gk (k := 2) (gAd.of hA (show j < 10 by omega)) (by decide)
      rw [ex3]
      refine sx_RP.step (pc2 := 33) (ls2 := [(0, .ref A), (1, .int (nI h)), (2, .int (nI j))]) (st2 := [.int (nI h), .int (nI x1)]) (w3 := w) rfl rfl ?_
      refine sx_RP.cu (as := [.int (nI x1), .int (nI h)]) (rest2 := []) (st3 := [.int (apF x1 h)]) rfl rfl rfl rfl rfl (x46 hI _ _) rfl ?_
      refine sx_RP.step (pc2 := 37) (ls2 := [(0, .ref A), (1, .int (nI h)), (2, .int (nI j))]) (st2 := [.int 1, .int (apF x1 h)]) (w3 := w) rfl rfl ?_
      refine sx_RP.br (p1 := 42) (l1 := [(0, .ref A), (1, .int (nI h)), (2, .int (nI j))]) (s1 := []) (v1 := w) (p2 := 40) (l2 := [(0, .ref A), (1, .int (nI h)), (2, .int (nI j))]) (s2 := []) (v2 := w) rfl rfl (fun q4 => ?_) (fun q4 => ?_)
      · replace q4 := of_decide_eq_true q4
        refine sx_RP.step (pc2 := 45) (ls2 := [(2, .int ((nI j) + 1)), (0, .ref A), (1, .int (nI h))]) (st2 := []) (w3 := w) rfl rfl ?_
        rw [nI_1 j]
        refine sx_RP.step (pc2 := 2) (ls2 := [(2, .int (nI (j + 1))), (0, .ref A), (1, .int (nI h))]) (st2 := []) (w3 := w) rfl rfl ?_
        exact sx_RP.ls (sx_lr.cons rfl (sx_lr.cons rfl (sx_lr.cons rfl sx_lr.nil))) (x45L hI hA hR hn en hh q (j + 1) (by omega) ((me_c h0 hc ((hR.ga (i := j) (k := 2) (by rw [en, iN_n (by omega)]; omega) (by decide)).symm.trans ex3) (by omega)).trans (near_gt (by omega) hh (Int32.not_le.mpr q4))))
      · replace q4 := of_decide_eq_false q4
        refine sx_RP.step (pc2 := 41) (ls2 := [(0, .ref A), (1, .int (nI h)), (2, .int (nI j))]) (st2 := [.int 1]) (w3 := w) rfl rfl ?_
        refine sx_RP.ret (r := (some (.int 1))) rfl rfl ?_
        exact ⟨by rw [meF_up ((me_c h0 hc ((hR.ga (i := j) (k := 2) (by rw [en, iN_n (by omega)]; omega) (by decide)).symm.trans ex3) (by omega)).trans (near_le (by omega) hh (Int32.not_lt.mp q4))) n (by omega)]; rfl, rfl⟩
    · refine sx_RP.cu (as := [.ref (A + 4 + j), .int 1]) (rest2 := []) (st3 := [.int 0]) rfl rfl (sx_inv_v2 (mi := 45) (k := 82) (st := [.int 1, .ref (A + 4 + j)]) (w := w) rfl rfl (hI.1.oG (gAd.of hA (show j < 10 by omega))) rfl rfl rfl) rfl rfl (x43n hI (gAd.of hA (show j < 10 by omega)) (fun z => hc ⟨(hR.ga (by rw [en, iN_n (by omega)]; omega) (by decide)).symm.trans z.1, (hR.ga (by rw [en, iN_n (by omega)]; omega) (by decide)).symm.trans z.2⟩)) rfl ?_
      refine sx_RP.step (pc2 := 42) (ls2 := [(0, .ref A), (1, .int (nI h)), (2, .int (nI j))]) (st2 := []) (w3 := w) rfl rfl ?_
      refine sx_RP.step (pc2 := 45) (ls2 := [(2, .int ((nI j) + 1)), (0, .ref A), (1, .int (nI h))]) (st2 := []) (w3 := w) rfl rfl ?_
      rw [nI_1 j]
      refine sx_RP.step (pc2 := 2) (ls2 := [(2, .int (nI (j + 1))), (0, .ref A), (1, .int (nI h))]) (st2 := []) (w3 := w) rfl rfl ?_
      exact sx_RP.ls (sx_lr.cons rfl (sx_lr.cons rfl (sx_lr.cons rfl sx_lr.nil))) (x45L hI hA hR hn en hh q (j + 1) (by omega) (me_n h0 hc))
set_option maxRecDepth 20000 in
set_option maxHeartbeats 4000000 in
theorem x45 {xs : Option (List Int32)} {d : Nat} {w : List sx_C} (hI : WI w) {A n : Nat} {l : List Int32} (hA : isA A) (hR : rel w A l) (hn : n ≤ 10) (en : l.getD 1 0 = nI n) {h : Nat} (hh : h < 48) : sx_RU xs (d + 2) 45 0 (lv_args 0 [.ref A, .int (nI h)]) [] w (some (.int (b01 (meF l h n)))) w := by
  have h : sx_RP xs (d + 2) 45 0 (lv_args 0 [.ref A, .int (nI h)]) [] w (fun r9 w2 => r9 = some (.int (b01 (meF l h n))) ∧ w2 = w) := by
    refine sx_RP.step (pc2 := 1) (ls2 := [(0, .ref A), (1, .int (nI h))]) (st2 := [.int 0]) (w3 := w) rfl rfl ?_
    refine sx_RP.step (pc2 := 2) (ls2 := [(2, .int 0), (0, .ref A), (1, .int (nI h))]) (st2 := []) (w3 := w) rfl rfl ?_
    exact sx_RP.ls (sx_lr.cons rfl (sx_lr.cons rfl (sx_lr.cons rfl sx_lr.nil))) (x45L hI hA hR hn en hh n 0 (by omega) rfl)
  obtain ⟨r9, w2, h1, rfl, rfl⟩ := h
  exact h1
set_option maxRecDepth 20000 in
set_option maxHeartbeats 4000000 in
theorem X41a {xs : Option (List Int32)} {d : Nat} {A n : Nat} {w0 : List sx_C} {P : Option Value → List sx_C → Prop} {v : Int32} (hA : isA A) (hn : n ≤ 10) : ∀ (q j : Nat) (w : List sx_C) (l : List Int32), j + q = n → WI w → rel w A l → l.getD 1 0 = nI n → Out A w0 w → (∀ w2, WI w2 → rel w2 A (dgL q j l) → Out A w0 w2 → sx_RP xs (d + 4) 41 50 [(0, .ref A), (1, .int v)] [] w2 P) → sx_RP xs (d + 4) 41 14 [(0, .ref A), (1, .int v), (2, .int (nI j))] [] w P
  | 0, j, w, l, hj, hI, hR, en, hO, kk => by
    obtain rfl : j = n := by omega
    refine sx_RP.step (pc2 := 15) (ls2 := [(0, .ref A), (1, .int v), (2, .int (nI j))]) (st2 := [.int (nI j)]) (w3 := w) rfl rfl ?_
    refine sx_RP.step (pc2 := 16) (ls2 := [(0, .ref A), (1, .int v), (2, .int (nI j))]) (st2 := [.ref A, .int (nI j)]) (w3 := w) rfl rfl ?_
    refine sx_RP.gc (k := 3) hI hA rfl rfl (by omega) (show _ = 19 from rfl) ?_
    rw [(hR.many.trans en)]
    refine sx_RP.br (p1 := 50) (l1 := [(0, .ref A), (1, .int v), (2, .int (nI j))]) (s1 := []) (v1 := w) rfl rfl (fun _ => ?_) (fun q => absurd (nI_le (a := j) (b := j) (by omega) (by omega)) (of_decide_eq_false q))
    exact sx_RP.ls (sx_lr.cons rfl (sx_lr.cons rfl sx_lr.nil)) (kk w hI hR hO)
  | q + 1, j, w, l, hj, hI, hR, en, hO, kk => by
    refine sx_RP.step (pc2 := 15) (ls2 := [(0, .ref A), (1, .int v), (2, .int (nI j))]) (st2 := [.int (nI j)]) (w3 := w) rfl rfl ?_
    refine sx_RP.step (pc2 := 16) (ls2 := [(0, .ref A), (1, .int v), (2, .int (nI j))]) (st2 := [.ref A, .int (nI j)]) (w3 := w) rfl rfl ?_
    refine sx_RP.gc (k := 3) hI hA rfl rfl (by omega) (show _ = 19 from rfl) ?_
    rw [(hR.many.trans en)]
    refine sx_RP.br (p2 := 22) (l2 := [(0, .ref A), (1, .int v), (2, .int (nI j))]) (s2 := []) (v2 := w) rfl rfl (fun q => absurd (of_decide_eq_true q) (fun z => absurd ((nI_leI (a := n) (b := j) (by omega) (by omega)).mp z) (by omega))) (fun _ => ?_)
    refine sx_RP.step (pc2 := 23) (ls2 := [(0, .ref A), (1, .int v), (2, .int (nI j))]) (st2 := [.ref A]) (w3 := w) rfl rfl ?_
    refine sx_RP.gref (k := 2) (b := A + 2) hI hA rfl rfl (by omega) (show _ = 26 from rfl) ?_
    refine sx_RP.step (pc2 := 27) (ls2 := [(0, .ref A), (1, .int v), (2, .int (nI j))]) (st2 := [.int (nI j), .ref (A + 2)]) (w3 := w) rfl rfl ?_
    refine sx_RP.ald (v := .ref (A + 4 + j)) rfl (hI.1.aG hA) rfl (grA_at (show j < 10 by omega)) (show _ = 28 from rfl) ?_
    refine sx_RP.gg (k := 5) hI (gAd.of hA (show j < 10 by omega)) rfl rfl (by decide) (show _ = 31 from rfl) ?_
    obtain ⟨x1, hx2, ex3⟩ : inR (fi w (A + 4 + j) 5) 1 := hI.gk (k := 5) (gAd.of hA (show j < 10 by omega)) (by decide)
    rw [ex3]
    refine sx_RP.br (p1 := 44) (l1 := [(0, .ref A), (1, .int v), (2, .int (nI j))]) (s1 := []) (v1 := w) (p2 := 34) (l2 := [(0, .ref A), (1, .int v), (2, .int (nI j))]) (s2 := []) (v2 := w) rfl rfl (fun q4 => ?_) (fun q4 => ?_)
    · replace q4 := of_decide_eq_true q4
      replace q4 := mt (nI_eq (a := x1) (b := 0) (by omega) (by omega)).mpr q4
      refine sx_RP.step (pc2 := 47) (ls2 := [(2, .int ((nI j) + 1)), (0, .ref A), (1, .int v)]) (st2 := []) (w3 := w) rfl rfl ?_
      rw [nI_1 j]
      refine sx_RP.step (pc2 := 14) (ls2 := [(2, .int (nI (j + 1))), (0, .ref A), (1, .int v)]) (st2 := []) (w3 := w) rfl rfl ?_
      refine sx_RP.ls (sx_lr.cons rfl (sx_lr.cons rfl (sx_lr.cons rfl sx_lr.nil))) (X41a hA hn q (j + 1) w l (by omega) hI hR en hO ?_)
      have e9 : dgL (q + 1) j l = dgL q (j + 1) l := by show dgL q (j + 1) _ = _; rw [if_neg (show ¬ gF l j 5 = 0 from fun z => q4 ((nI_eq (b := 0) (by omega) (by decide)).mp (((hR.ga (i := j) (k := 5) (by rw [en, iN_n (by omega)]; omega) (by decide)).symm.trans ex3).symm.trans z)))]
      rw [← e9]
      exact kk
    · replace q4 := Decidable.not_not.mp (of_decide_eq_false q4)
      replace q4 := (nI_eq (a := x1) (b := 0) (by omega) (by omega)).mp q4
      refine sx_RP.step (pc2 := 35) (ls2 := [(0, .ref A), (1, .int v), (2, .int (nI j))]) (st2 := [.ref A]) (w3 := w) rfl rfl ?_
      refine sx_RP.step (pc2 := 36) (ls2 := [(0, .ref A), (1, .int v), (2, .int (nI j))]) (st2 := [.ref A, .ref A]) (w3 := w) rfl rfl ?_
      refine sx_RP.gref (k := 2) (b := A + 2) hI hA rfl rfl (by omega) (show _ = 39 from rfl) ?_
      refine sx_RP.step (pc2 := 40) (ls2 := [(0, .ref A), (1, .int v), (2, .int (nI j))]) (st2 := [.int (nI j), .ref (A + 2), .ref A]) (w3 := w) rfl rfl ?_
      refine sx_RP.ald (v := .ref (A + 4 + j)) rfl (hI.1.aG hA) rfl (grA_at (show j < 10 by omega)) (show _ = 41 from rfl) ?_
      refine sx_RP.callp (as2 := [.ref A, .ref (A + 4 + j)]) (rest2 := []) rfl rfl (sx_inv_v2 (mi := 41) (k := 110) (st := [.ref (A + 4 + j), .ref A]) (w := w) rfl rfl (hI.1.oC hA) rfl rfl rfl) rfl rfl rfl (X44 hI hA hR (show j < 10 by omega) (by rw [en, iN_n (by omega)]; omega)) (show _ = 44 from rfl) ?_
      rintro r4 w7 ⟨⟨rfl, hR5⟩, hI8, hs6⟩
      show sx_RP _ _ _ _ _ [] _ _
      refine sx_RP.step (pc2 := 47) (ls2 := [(2, .int ((nI j) + 1)), (0, .ref A), (1, .int v)]) (st2 := []) (w3 := w7) rfl rfl ?_
      rw [nI_1 j]
      refine sx_RP.step (pc2 := 14) (ls2 := [(2, .int (nI (j + 1))), (0, .ref A), (1, .int v)]) (st2 := []) (w3 := w7) rfl rfl ?_
      refine sx_RP.ls (sx_lr.cons rfl (sx_lr.cons rfl (sx_lr.cons rfl sx_lr.nil))) (X41a hA hn q (j + 1) w7 (digR l j) (by omega) hI8 hR5 (digR_1.trans en) (hO.tr (hs6.out (by omega))) ?_)
      have e9 : dgL (q + 1) j l = dgL q (j + 1) (digR l j) := by show dgL q (j + 1) _ = _; rw [if_pos (show gF l j 5 = 0 from ((hR.ga (i := j) (k := 5) (by rw [en, iN_n (by omega)]; omega) (by decide)).symm.trans ex3).trans (by rw [q4]; rfl))]
      rw [← e9]
      exact kk
set_option maxRecDepth 20000 in
set_option maxHeartbeats 4000000 in
theorem X41b {xs : Option (List Int32)} {d : Nat} {A n : Nat} {w0 : List sx_C} {P : Option Value → List sx_C → Prop} {v : Int32} (hA : isA A) (hn : n ≤ 10) : ∀ (q j : Nat) (w : List sx_C) (l : List Int32), j + q = n → WI w → rel w A l → l.getD 1 0 = nI n → Out A w0 w → (∀ w2, WI w2 → rel w2 A (mtL q j l) → Out A w0 w2 → sx_RP xs (d + 4) 41 115 [(0, .ref A), (1, .int v)] [] w2 P) → sx_RP xs (d + 4) 41 52 [(0, .ref A), (1, .int v), (2, .int (nI j))] [] w P
  | 0, j, w, l, hj, hI, hR, en, hO, kk => by
    obtain rfl : j = n := by omega
    refine sx_RP.step (pc2 := 53) (ls2 := [(0, .ref A), (1, .int v), (2, .int (nI j))]) (st2 := [.int (nI j)]) (w3 := w) rfl rfl ?_
    refine sx_RP.step (pc2 := 54) (ls2 := [(0, .ref A), (1, .int v), (2, .int (nI j))]) (st2 := [.ref A, .int (nI j)]) (w3 := w) rfl rfl ?_
    refine sx_RP.gc (k := 3) hI hA rfl rfl (by omega) (show _ = 57 from rfl) ?_
    rw [(hR.many.trans en)]
    refine sx_RP.br (p1 := 115) (l1 := [(0, .ref A), (1, .int v), (2, .int (nI j))]) (s1 := []) (v1 := w) rfl rfl (fun _ => ?_) (fun q => absurd (nI_le (a := j) (b := j) (by omega) (by omega)) (of_decide_eq_false q))
    exact sx_RP.ls (sx_lr.cons rfl (sx_lr.cons rfl sx_lr.nil)) (kk w hI hR hO)
  | q + 1, j, w, l, hj, hI, hR, en, hO, kk => by
    refine sx_RP.step (pc2 := 53) (ls2 := [(0, .ref A), (1, .int v), (2, .int (nI j))]) (st2 := [.int (nI j)]) (w3 := w) rfl rfl ?_
    refine sx_RP.step (pc2 := 54) (ls2 := [(0, .ref A), (1, .int v), (2, .int (nI j))]) (st2 := [.ref A, .int (nI j)]) (w3 := w) rfl rfl ?_
    refine sx_RP.gc (k := 3) hI hA rfl rfl (by omega) (show _ = 57 from rfl) ?_
    rw [(hR.many.trans en)]
    refine sx_RP.br (p2 := 60) (l2 := [(0, .ref A), (1, .int v), (2, .int (nI j))]) (s2 := []) (v2 := w) rfl rfl (fun q => absurd (of_decide_eq_true q) (fun z => absurd ((nI_leI (a := n) (b := j) (by omega) (by omega)).mp z) (by omega))) (fun _ => ?_)
    refine sx_RP.step (pc2 := 61) (ls2 := [(0, .ref A), (1, .int v), (2, .int (nI j))]) (st2 := [.ref A]) (w3 := w) rfl rfl ?_
    refine sx_RP.gref (k := 2) (b := A + 2) hI hA rfl rfl (by omega) (show _ = 64 from rfl) ?_
    refine sx_RP.step (pc2 := 65) (ls2 := [(0, .ref A), (1, .int v), (2, .int (nI j))]) (st2 := [.int (nI j), .ref (A + 2)]) (w3 := w) rfl rfl ?_
    refine sx_RP.ald (v := .ref (A + 4 + j)) rfl (hI.1.aG hA) rfl (grA_at (show j < 10 by omega)) (show _ = 66 from rfl) ?_
    refine sx_RP.step (pc2 := 67) (ls2 := [(0, .ref A), (1, .int v), (2, .int (nI j))]) (st2 := [.int 0, .ref (A + 4 + j)]) (w3 := w) rfl rfl ?_
    rcases Decidable.em (gF l j 1 = 0 ∧ gF l j 5 = 0) with hc | hc
    · refine sx_RP.cu (as := [.ref (A + 4 + j), .int 0]) (rest2 := []) (st3 := [.int 1]) rfl rfl (sx_inv_v2 (mi := 41) (k := 82) (st := [.int 0, .ref (A + 4 + j)]) (w := w) rfl rfl (hI.1.oG (gAd.of hA (show j < 10 by omega))) rfl rfl rfl) rfl rfl (x43y hI (gAd.of hA (show j < 10 by omega)) ⟨(hR.ga (by rw [en, iN_n (by omega)]; omega) (by decide)).trans hc.1, (hR.ga (by rw [en, iN_n (by omega)]; omega) (by decide)).trans hc.2⟩) rfl ?_
      refine sx_RP.step (pc2 := 73) (ls2 := [(0, .ref A), (1, .int v), (2, .int (nI j))]) (st2 := []) (w3 := w) rfl rfl ?_
      refine sx_RP.step (pc2 := 74) (ls2 := [(0, .ref A), (1, .int v), (2, .int (nI j))]) (st2 := [.ref A]) (w3 := w) rfl rfl ?_
      refine sx_RP.step (pc2 := 75) (ls2 := [(0, .ref A), (1, .int v), (2, .int (nI j))]) (st2 := [.ref A, .ref A]) (w3 := w) rfl rfl ?_
      refine sx_RP.gref (k := 2) (b := A + 2) hI hA rfl rfl (by omega) (show _ = 78 from rfl) ?_
      refine sx_RP.step (pc2 := 79) (ls2 := [(0, .ref A), (1, .int v), (2, .int (nI j))]) (st2 := [.int (nI j), .ref (A + 2), .ref A]) (w3 := w) rfl rfl ?_
      refine sx_RP.ald (v := .ref (A + 4 + j)) rfl (hI.1.aG hA) rfl (grA_at (show j < 10 by omega)) (show _ = 80 from rfl) ?_
      refine sx_RP.gg (k := 2) hI (gAd.of hA (show j < 10 by omega)) rfl rfl (by decide) (show _ = 83 from rfl) ?_
      obtain ⟨x1, hx2, ex3⟩ : inR (fi w (A + 4 + j) 2) 47 := hI.gk (k := 2) (gAd.of hA (show j < 10 by omega)) (by decide)
      rw [ex3]
      rcases Bool.eq_false_or_eq_true (meF l x1 n) with hm | hm
      · refine sx_RP.cu (as := [.ref A, .int (nI x1)]) (rest2 := []) (st3 := [.int 1]) rfl rfl (sx_inv_v2 (mi := 41) (k := 113) (st := [.int (nI x1), .ref A]) (w := w) rfl rfl (hI.1.oC hA) rfl rfl rfl) rfl rfl ((by have z := x45 (xs := xs) (d := d + 1) hI hA hR hn en (show x1 < 48 by omega); rw [hm] at z; exact z)) rfl ?_
        refine sx_RP.step (pc2 := 89) (ls2 := [(0, .ref A), (1, .int v), (2, .int (nI j))]) (st2 := []) (w3 := w) rfl rfl ?_
        refine sx_RP.step (pc2 := 90) (ls2 := [(0, .ref A), (1, .int v), (2, .int (nI j))]) (st2 := [.ref A]) (w3 := w) rfl rfl ?_
        refine sx_RP.gref (k := 2) (b := A + 2) hI hA rfl rfl (by omega) (show _ = 93 from rfl) ?_
        refine sx_RP.step (pc2 := 94) (ls2 := [(0, .ref A), (1, .int v), (2, .int (nI j))]) (st2 := [.int (nI j), .ref (A + 2)]) (w3 := w) rfl rfl ?_
        refine sx_RP.ald (v := .ref (A + 4 + j)) rfl (hI.1.aG hA) rfl (grA_at (show j < 10 by omega)) (show _ = 95 from rfl) ?_
        refine sx_RP.step (pc2 := 96) (ls2 := [(0, .ref A), (1, .int v), (2, .int (nI j))]) (st2 := [.int 1, .ref (A + 4 + j)]) (w3 := w) rfl rfl ?_
        refine sx_RP.xG (k := 5) hI (gAd.of hA (show j < 10 by omega)) rfl rfl (by decide) rfl (show inR 1 1 from ⟨1, by decide, rfl⟩) (show _ = 99 from rfl) (fun w4 hI5 hs6 hv7 hr8 => ?_)
        have ex9 := (fi_same 3 (hs6 A (by omega))).trans (hR.many.trans en)
        have ex10 := (hr8 2 (by decide)).trans ex3
        refine sx_RP.step (pc2 := 100) (ls2 := [(0, .ref A), (1, .int v), (2, .int (nI j))]) (st2 := [.ref A]) (w3 := w4) rfl rfl ?_
        refine sx_RP.step (pc2 := 101) (ls2 := [(0, .ref A), (1, .int v), (2, .int (nI j))]) (st2 := [.ref A, .ref A]) (w3 := w4) rfl rfl ?_
        refine sx_RP.gc (k := 7) hI5 hA rfl rfl (by omega) (show _ = 104 from rfl) ?_
        refine sx_RP.step (pc2 := 105) (ls2 := [(0, .ref A), (1, .int v), (2, .int (nI j))]) (st2 := [.int 1, .int (fi w4 A 7), .ref A]) (w3 := w4) rfl rfl ?_
        refine sx_RP.step (pc2 := 106) (ls2 := [(0, .ref A), (1, .int v), (2, .int (nI j))]) (st2 := [.int ((fi w4 A 7) + 1), .ref A]) (w3 := w4) rfl rfl ?_
        refine sx_RP.xC (k := 7) hI5 hA rfl rfl (by omega) rfl trivial (show _ = 109 from rfl) (fun w11 hI12 hs13 hv14 hr15 hj16 => ?_)
        have ex17 := (hr15 3 (by decide)).trans ex9
        have ex18 := (fi_same 2 (hs13 (A + 4 + j) (by omega))).trans ex10
        refine sx_RP.step (pc2 := 112) (ls2 := [(2, .int ((nI j) + 1)), (0, .ref A), (1, .int v)]) (st2 := []) (w3 := w11) rfl rfl ?_
        rw [nI_1 j]
        refine sx_RP.step (pc2 := 52) (ls2 := [(2, .int (nI (j + 1))), (0, .ref A), (1, .int v)]) (st2 := []) (w3 := w11) rfl rfl ?_
        have e9 : metR l j = (l.set (103 + 6 * j + 5) 1).set 3 (l.getD 3 0 + 1) := if_pos ⟨hc, by rw [show gF l j 2 = nI x1 from ((hR.ga (i := j) (k := 2) (by rw [en, iN_n (by omega)]; omega) (by decide)).symm.trans ex3), iN_n (by omega), maN_n en hn]; exact hm⟩
        have hR1 := hR.sGa (show j < 10 by omega) (show 5 < 6 by decide) hs6 hv7 hr8
        have hv7 : fi w11 A 7 = l.getD 3 0 + 1 := hv14.trans (by rw [hR1.met, gd_ne (by omega)])
        have hR2 : rel w11 A (metR l j) := by rw [e9]; exact hR1.sFi (k := 7) (by decide) hs13 hv7 hr15 hj16
        exact sx_RP.ls (sx_lr.cons rfl (sx_lr.cons rfl (sx_lr.cons rfl sx_lr.nil))) (X41b hA hn q (j + 1) w11 (metR l j) (by omega) hI12 hR2 (metR_1.trans en) (hO.tr ((hs6.out (by omega)).tr (hs13.out (by omega)))) kk)
      · refine sx_RP.cu (as := [.ref A, .int (nI x1)]) (rest2 := []) (st3 := [.int 0]) rfl rfl (sx_inv_v2 (mi := 41) (k := 113) (st := [.int (nI x1), .ref A]) (w := w) rfl rfl (hI.1.oC hA) rfl rfl rfl) rfl rfl ((by have z := x45 (xs := xs) (d := d + 1) hI hA hR hn en (show x1 < 48 by omega); rw [hm] at z; exact z)) rfl ?_
        refine sx_RP.step (pc2 := 109) (ls2 := [(0, .ref A), (1, .int v), (2, .int (nI j))]) (st2 := []) (w3 := w) rfl rfl ?_
        refine sx_RP.step (pc2 := 112) (ls2 := [(2, .int ((nI j) + 1)), (0, .ref A), (1, .int v)]) (st2 := []) (w3 := w) rfl rfl ?_
        rw [nI_1 j]
        refine sx_RP.step (pc2 := 52) (ls2 := [(2, .int (nI (j + 1))), (0, .ref A), (1, .int v)]) (st2 := []) (w3 := w) rfl rfl ?_
        have e9 : metR l j = l := if_neg (fun z => by have z2 := z.2; rw [show gF l j 2 = nI x1 from ((hR.ga (i := j) (k := 2) (by rw [en, iN_n (by omega)]; omega) (by decide)).symm.trans ex3), iN_n (by omega), maN_n en hn, hm] at z2; exact absurd z2 (by decide))
        refine sx_RP.ls (sx_lr.cons rfl (sx_lr.cons rfl (sx_lr.cons rfl sx_lr.nil))) (X41b hA hn q (j + 1) w (metR l j) (by omega) hI (by rw [e9]; exact hR) (metR_1.trans en) hO kk)
    · refine sx_RP.cu (as := [.ref (A + 4 + j), .int 0]) (rest2 := []) (st3 := [.int 0]) rfl rfl (sx_inv_v2 (mi := 41) (k := 82) (st := [.int 0, .ref (A + 4 + j)]) (w := w) rfl rfl (hI.1.oG (gAd.of hA (show j < 10 by omega))) rfl rfl rfl) rfl rfl (x43n hI (gAd.of hA (show j < 10 by omega)) (fun z => hc ⟨(hR.ga (by rw [en, iN_n (by omega)]; omega) (by decide)).symm.trans z.1, (hR.ga (by rw [en, iN_n (by omega)]; omega) (by decide)).symm.trans z.2⟩)) rfl ?_
      refine sx_RP.step (pc2 := 109) (ls2 := [(0, .ref A), (1, .int v), (2, .int (nI j))]) (st2 := []) (w3 := w) rfl rfl ?_
      refine sx_RP.step (pc2 := 112) (ls2 := [(2, .int ((nI j) + 1)), (0, .ref A), (1, .int v)]) (st2 := []) (w3 := w) rfl rfl ?_
      rw [nI_1 j]
      refine sx_RP.step (pc2 := 52) (ls2 := [(2, .int (nI (j + 1))), (0, .ref A), (1, .int v)]) (st2 := []) (w3 := w) rfl rfl ?_
      have e9 : metR l j = l := if_neg (fun z => hc z.1)
      refine sx_RP.ls (sx_lr.cons rfl (sx_lr.cons rfl (sx_lr.cons rfl sx_lr.nil))) (X41b hA hn q (j + 1) w (metR l j) (by omega) hI (by rw [e9]; exact hR) (metR_1.trans en) hO kk)
set_option maxRecDepth 20000 in
set_option maxHeartbeats 4000000 in
theorem X41e {xs : Option (List Int32)} {d n : Nat} {A : Nat} {w w0 : List sx_C} {v : Int32} {m : List Int32} (hI : WI w) (hA : isA A) (hn : n ≤ 10) (hR : rel w A m) (en : m.getD 1 0 = nI n) (hO : Out A w0 w) : sx_RP xs (d + 4) 41 115 [(0, .ref A), (1, .int v)] [] w (fun r w2 => (r = some (.int (v - lfF (m.set 0 (m.getD 0 0 + 1)) 0 n - lfF (m.set 0 (m.getD 0 0 + 1)) 1 n)) ∧ rel w2 A (m.set 0 (m.getD 0 0 + 1))) ∧ WI w2 ∧ Out A w0 w2) := by
  refine sx_RP.step (pc2 := 116) (ls2 := [(0, .ref A), (1, .int v)]) (st2 := [.ref A]) (w3 := w) rfl rfl ?_
  refine sx_RP.step (pc2 := 117) (ls2 := [(0, .ref A), (1, .int v)]) (st2 := [.ref A, .ref A]) (w3 := w) rfl rfl ?_
  refine sx_RP.gc (k := 6) hI hA rfl rfl (by omega) (show _ = 120 from rfl) ?_
  refine sx_RP.step (pc2 := 121) (ls2 := [(0, .ref A), (1, .int v)]) (st2 := [.int 1, .int (fi w A 6), .ref A]) (w3 := w) rfl rfl ?_
  refine sx_RP.step (pc2 := 122) (ls2 := [(0, .ref A), (1, .int v)]) (st2 := [.int ((fi w A 6) + 1), .ref A]) (w3 := w) rfl rfl ?_
  refine sx_RP.xC (k := 6) hI hA rfl rfl (by omega) rfl trivial (show _ = 125 from rfl) (fun w1 hI2 hs3 hv4 hr5 hj6 => ?_)
  have hR2 : rel w1 A (m.set 0 (m.getD 0 0 + 1)) := hR.sFi (k := 6) (by decide) hs3 (hv4.trans (by rw [hR.night])) hr5 hj6
  have en2 : (m.set 0 (m.getD 0 0 + 1)).getD 1 0 = nI n := (gd_ne (by decide)).trans en
  refine sx_RP.step (pc2 := 126) (ls2 := [(0, .ref A), (1, .int v)]) (st2 := [.int v]) (w3 := w1) rfl rfl ?_
  refine sx_RP.step (pc2 := 127) (ls2 := [(0, .ref A), (1, .int v)]) (st2 := [.ref A, .int v]) (w3 := w1) rfl rfl ?_
  refine sx_RP.step (pc2 := 128) (ls2 := [(0, .ref A), (1, .int v)]) (st2 := [.int 0, .ref A, .int v]) (w3 := w1) rfl rfl ?_
  refine sx_RP.cu (as := [.ref A, .int 0]) (rest2 := [.int v]) (st3 := [.int (lfF (m.set 0 (m.getD 0 0 + 1)) 0 n), .int v]) rfl rfl (sx_inv_v2 (mi := 41) (k := 106) (st := [.int 0, .ref A, .int v]) (w := w1) rfl rfl (hI2.1.oC hA) rfl rfl rfl) rfl rfl (x42 hI2 hA hR2 hn en2 0) rfl ?_
  refine sx_RP.step (pc2 := 132) (ls2 := [(0, .ref A), (1, .int v)]) (st2 := [.int (v - (lfF (m.set 0 (m.getD 0 0 + 1)) 0 n))]) (w3 := w1) rfl rfl ?_
  refine sx_RP.step (pc2 := 133) (ls2 := [(0, .ref A), (1, .int v)]) (st2 := [.ref A, .int (v - (lfF (m.set 0 (m.getD 0 0 + 1)) 0 n))]) (w3 := w1) rfl rfl ?_
  refine sx_RP.step (pc2 := 134) (ls2 := [(0, .ref A), (1, .int v)]) (st2 := [.int 1, .ref A, .int (v - (lfF (m.set 0 (m.getD 0 0 + 1)) 0 n))]) (w3 := w1) rfl rfl ?_
  refine sx_RP.cu (as := [.ref A, .int 1]) (rest2 := [.int (v - (lfF (m.set 0 (m.getD 0 0 + 1)) 0 n))]) (st3 := [.int (lfF (m.set 0 (m.getD 0 0 + 1)) 1 n), .int (v - (lfF (m.set 0 (m.getD 0 0 + 1)) 0 n))]) rfl rfl (sx_inv_v2 (mi := 41) (k := 106) (st := [.int 1, .ref A, .int (v - (lfF (m.set 0 (m.getD 0 0 + 1)) 0 n))]) (w := w1) rfl rfl (hI2.1.oC hA) rfl rfl rfl) rfl rfl (x42 hI2 hA hR2 hn en2 1) rfl ?_
  refine sx_RP.step (pc2 := 138) (ls2 := [(0, .ref A), (1, .int v)]) (st2 := [.int ((v - (lfF (m.set 0 (m.getD 0 0 + 1)) 0 n)) - (lfF (m.set 0 (m.getD 0 0 + 1)) 1 n))]) (w3 := w1) rfl rfl ?_
  refine sx_RP.ret (r := (some (.int ((v - (lfF (m.set 0 (m.getD 0 0 + 1)) 0 n)) - (lfF (m.set 0 (m.getD 0 0 + 1)) 1 n))))) rfl rfl ?_
  exact ⟨⟨rfl, hR2⟩, hI2, hO.tr (hs3.out (by omega))⟩
set_option maxRecDepth 20000 in
set_option maxHeartbeats 4000000 in
theorem X41 {xs : Option (List Int32)} {d : Nat} {w : List sx_C} (hI : WI w) {A n : Nat} {l : List Int32} (hA : isA A) (hR : rel w A l) (hn : n ≤ 10) (en : l.getD 1 0 = nI n) : sx_RP xs (d + 4) 41 0 (lv_args 0 [.ref A]) [] w (fun r w2 => (r = some (.int (lfF l 0 n + lfF l 1 n - lfF (nigR l) 0 n - lfF (nigR l) 1 n)) ∧ rel w2 A (nigR l)) ∧ WI w2 ∧ Out A w w2) := by
  refine sx_RP.step (pc2 := 1) (ls2 := [(0, .ref A)]) (st2 := [.ref A]) (w3 := w) rfl rfl ?_
  refine sx_RP.step (pc2 := 2) (ls2 := [(0, .ref A)]) (st2 := [.int 0, .ref A]) (w3 := w) rfl rfl ?_
  refine sx_RP.cu (as := [.ref A, .int 0]) (rest2 := []) (st3 := [.int (lfF l 0 n)]) rfl rfl (sx_inv_v2 (mi := 41) (k := 106) (st := [.int 0, .ref A]) (w := w) rfl rfl (hI.1.oC hA) rfl rfl rfl) rfl rfl (x42 hI hA hR hn en 0) rfl ?_
  refine sx_RP.step (pc2 := 6) (ls2 := [(0, .ref A)]) (st2 := [.ref A, .int (lfF l 0 n)]) (w3 := w) rfl rfl ?_
  refine sx_RP.step (pc2 := 7) (ls2 := [(0, .ref A)]) (st2 := [.int 1, .ref A, .int (lfF l 0 n)]) (w3 := w) rfl rfl ?_
  refine sx_RP.cu (as := [.ref A, .int 1]) (rest2 := [.int (lfF l 0 n)]) (st3 := [.int (lfF l 1 n), .int (lfF l 0 n)]) rfl rfl (sx_inv_v2 (mi := 41) (k := 106) (st := [.int 1, .ref A, .int (lfF l 0 n)]) (w := w) rfl rfl (hI.1.oC hA) rfl rfl rfl) rfl rfl (x42 hI hA hR hn en 1) rfl ?_
  refine sx_RP.step (pc2 := 11) (ls2 := [(0, .ref A)]) (st2 := [.int ((lfF l 0 n) + (lfF l 1 n))]) (w3 := w) rfl rfl ?_
  refine sx_RP.step (pc2 := 12) (ls2 := [(1, .int ((lfF l 0 n) + (lfF l 1 n))), (0, .ref A)]) (st2 := []) (w3 := w) rfl rfl ?_
  refine sx_RP.step (pc2 := 13) (ls2 := [(1, .int ((lfF l 0 n) + (lfF l 1 n))), (0, .ref A)]) (st2 := [.int 0]) (w3 := w) rfl rfl ?_
  refine sx_RP.step (pc2 := 14) (ls2 := [(2, .int 0), (1, .int ((lfF l 0 n) + (lfF l 1 n))), (0, .ref A)]) (st2 := []) (w3 := w) rfl rfl ?_
  refine sx_RP.ls (sx_lr.cons rfl (sx_lr.cons rfl (sx_lr.cons rfl sx_lr.nil))) (X41a (w0 := w) (v := lfF l 0 n + lfF l 1 n) hA hn n 0 w l (by omega) hI hR en (fun _ _ => rfl) (fun w3 hI3 hR3 hO3 => ?_))
  refine sx_RP.step (pc2 := 51) (ls2 := [(0, .ref A), (1, .int (lfF l 0 n + lfF l 1 n))]) (st2 := [.int 0]) (w3 := w3) rfl rfl ?_
  refine sx_RP.step (pc2 := 52) (ls2 := [(2, .int 0), (0, .ref A), (1, .int (lfF l 0 n + lfF l 1 n))]) (st2 := []) (w3 := w3) rfl rfl ?_
  refine sx_RP.ls (sx_lr.cons rfl (sx_lr.cons rfl (sx_lr.cons rfl sx_lr.nil))) (X41b (w0 := w) (v := lfF l 0 n + lfF l 1 n) hA hn n 0 w3 _ (by omega) hI3 hR3 ((dgL_1 n 0 l).trans en) hO3 (fun w4 hI4 hR4 hO4 => ?_))
  have em : nigR l = (mtL n 0 (dgL n 0 l)).set 0 ((mtL n 0 (dgL n 0 l)).getD 0 0 + 1) := by unfold nigR; rw [maN_n en hn]
  rw [em]
  exact X41e hI4 hA hn hR4 ((mtL_1 n 0 _).trans ((dgL_1 n 0 l).trans en)) hO4
def ntsA (l : List Int32) (a1 : Int32) : Int32 := if ¬ (1 ≤ a1 ∧ a1 ≤ 60) then -1000000001 else (if ¬ l.getD 0 0 + a1 ≤ 999 then -1000000005 else (allF l - allF (goR (iN a1) l)))
def ntsR (l : List Int32) (a1 : Int32) : List Int32 := if ¬ (1 ≤ a1 ∧ a1 ≤ 60) then l else (if ¬ l.getD 0 0 + a1 ≤ 999 then l else (goR (iN a1) l))
theorem nts_1 {l : List Int32} {a1 : Int32} (h0 : ¬ (1 ≤ a1 ∧ a1 ≤ 60)) : ntsA l a1 = -1000000001 ∧ ntsR l a1 = l := ⟨if_pos h0, if_pos h0⟩
theorem nts_2 {l : List Int32} {a1 : Int32} (h0 : ¬ (¬ (1 ≤ a1 ∧ a1 ≤ 60))) (h1 : ¬ l.getD 0 0 + a1 ≤ 999) : ntsA l a1 = -1000000005 ∧ ntsR l a1 = l := ⟨(if_neg h0).trans (if_pos h1), (if_neg h0).trans (if_pos h1)⟩
theorem nts_z {l : List Int32} {a1 : Int32} (h0 : ¬ (¬ (1 ≤ a1 ∧ a1 ≤ 60))) (h1 : ¬ (¬ l.getD 0 0 + a1 ≤ 999)) : ntsA l a1 = allF l - allF (goR (iN a1) l) ∧ ntsR l a1 = goR (iN a1) l := ⟨(if_neg h0).trans (if_neg h1), (if_neg h0).trans (if_neg h1)⟩
theorem goR_1 : ∀ (n : Nat) (l : List Int32), (goR n l).getD 1 0 = l.getD 1 0
  | 0, _ => rfl
  | n + 1, l => (goR_1 n (nigR l)).trans nigR_1
theorem goR_s : ∀ (n : Nat) (l : List Int32), goR (n + 1) l = nigR (goR n l)
  | 0, _ => rfl
  | n + 1, l => goR_s n (nigR l)
theorem allF_n {l : List Int32} {n : Nat} (en : l.getD 1 0 = nI n) (hn : n ≤ 10) : allF l = lfF l 0 n + lfF l 1 n := by
  unfold allF
  rw [maN_n en hn]
set_option maxRecDepth 20000 in
set_option maxHeartbeats 4000000 in
theorem Z39L {xs : Option (List Int32)} {d n x : Nat} {l : List Int32} {w0 : List sx_C} (hn : n ≤ 10) (en : l.getD 1 0 = nI n) (hx : x ≤ 60) : ∀ (q j : Nat) (w : List sx_C), j + q = x → WI w → rel w 1 (goR j l) → Out 1 w0 w → sx_RP xs (d + 7) 39 39 [(0, .ref 0), (1, .int (nI x)), (2, .int (allF l - allF (goR j l))), (3, .int (nI j))] [] w (fun r w2 => (r = some (.int (allF l - allF (goR x l))) ∧ rel w2 1 (goR x l)) ∧ WI w2 ∧ Out 1 w0 w2)
  | 0, j, w, hj, hI, hR, hO => by
    obtain rfl : j = x := by omega
    refine sx_RP.step (pc2 := 40) (ls2 := [(0, .ref 0), (1, .int (nI j)), (2, .int (allF l - allF (goR j l))), (3, .int (nI j))]) (st2 := [.int (nI j)]) (w3 := w) rfl rfl ?_
    refine sx_RP.step (pc2 := 41) (ls2 := [(0, .ref 0), (1, .int (nI j)), (2, .int (allF l - allF (goR j l))), (3, .int (nI j))]) (st2 := [.int (nI j), .int (nI j)]) (w3 := w) rfl rfl ?_
    refine sx_RP.br (p1 := 60) (l1 := [(0, .ref 0), (1, .int (nI j)), (2, .int (allF l - allF (goR j l))), (3, .int (nI j))]) (s1 := []) (v1 := w) rfl rfl (fun _ => ?_) (fun q => absurd (nI_le (a := j) (b := j) (by omega) (by omega)) (of_decide_eq_false q))
    refine sx_RP.step (pc2 := 61) (ls2 := [(0, .ref 0), (1, .int (nI j)), (2, .int (allF l - allF (goR j l))), (3, .int (nI j))]) (st2 := [.int (allF l - allF (goR j l))]) (w3 := w) rfl rfl ?_
    refine sx_RP.ret (r := (some (.int (allF l - allF (goR j l))))) rfl rfl ?_
    exact ⟨⟨rfl, hR⟩, hI, hO⟩
  | q + 1, j, w, hj, hI, hR, hO => by
    refine sx_RP.step (pc2 := 40) (ls2 := [(0, .ref 0), (1, .int (nI x)), (2, .int (allF l - allF (goR j l))), (3, .int (nI j))]) (st2 := [.int (nI j)]) (w3 := w) rfl rfl ?_
    refine sx_RP.step (pc2 := 41) (ls2 := [(0, .ref 0), (1, .int (nI x)), (2, .int (allF l - allF (goR j l))), (3, .int (nI j))]) (st2 := [.int (nI x), .int (nI j)]) (w3 := w) rfl rfl ?_
    refine sx_RP.br (p2 := 44) (l2 := [(0, .ref 0), (1, .int (nI x)), (2, .int (allF l - allF (goR j l))), (3, .int (nI j))]) (s2 := []) (v2 := w) rfl rfl (fun q => absurd (of_decide_eq_true q) (fun z => absurd ((nI_leI (a := x) (b := j) (by omega) (by omega)).mp z) (by omega))) (fun _ => ?_)
    refine sx_RP.step (pc2 := 45) (ls2 := [(0, .ref 0), (1, .int (nI x)), (2, .int (allF l - allF (goR j l))), (3, .int (nI j))]) (st2 := [.int (allF l - allF (goR j l))]) (w3 := w) rfl rfl ?_
    refine sx_RP.step (pc2 := 46) (ls2 := [(0, .ref 0), (1, .int (nI x)), (2, .int (allF l - allF (goR j l))), (3, .int (nI j))]) (st2 := [.ref 0, .int (allF l - allF (goR j l))]) (w3 := w) rfl rfl ?_
    refine sx_RP.gf (v := .ref 1) rfl rfl hI.1.o0 rfl rfl (show _ = 49 from rfl) ?_
    refine sx_RP.callp (as2 := [.ref 1]) (rest2 := [.int (allF l - allF (goR j l))]) rfl rfl (sx_inv_v2 (mi := 39) (k := 166) (st := [.ref 1, .int (allF l - allF (goR j l))]) (w := w) rfl rfl (hI.1.oC (Or.inl rfl)) rfl rfl rfl) rfl rfl rfl (X41 hI (Or.inl rfl) hR hn ((goR_1 j l).trans en)) (show _ = 52 from rfl) ?_
    rintro r4 w3 ⟨⟨rfl, hR1⟩, hI4, ho2⟩
    show sx_RP _ _ _ _ _ [.int (lfF (goR j l) 0 n + lfF (goR j l) 1 n - lfF (nigR (goR j l)) 0 n - lfF (nigR (goR j l)) 1 n), .int (allF l - allF (goR j l))] _ _
    refine sx_RP.step (pc2 := 53) (ls2 := [(0, .ref 0), (1, .int (nI x)), (2, .int (allF l - allF (goR j l))), (3, .int (nI j))]) (st2 := [.int ((allF l - allF (goR j l)) + (lfF (goR j l) 0 n + lfF (goR j l) 1 n - lfF (nigR (goR j l)) 0 n - lfF (nigR (goR j l)) 1 n))]) (w3 := w3) rfl rfl ?_
    refine sx_RP.step (pc2 := 54) (ls2 := [(2, .int ((allF l - allF (goR j l)) + (lfF (goR j l) 0 n + lfF (goR j l) 1 n - lfF (nigR (goR j l)) 0 n - lfF (nigR (goR j l)) 1 n))), (0, .ref 0), (1, .int (nI x)), (3, .int (nI j))]) (st2 := []) (w3 := w3) rfl rfl ?_
    refine sx_RP.step (pc2 := 57) (ls2 := [(3, .int ((nI j) + 1)), (2, .int ((allF l - allF (goR j l)) + (lfF (goR j l) 0 n + lfF (goR j l) 1 n - lfF (nigR (goR j l)) 0 n - lfF (nigR (goR j l)) 1 n))), (0, .ref 0), (1, .int (nI x))]) (st2 := []) (w3 := w3) rfl rfl ?_
    rw [nI_1 j]
    refine sx_RP.step (pc2 := 39) (ls2 := [(3, .int (nI (j + 1))), (2, .int ((allF l - allF (goR j l)) + (lfF (goR j l) 0 n + lfF (goR j l) 1 n - lfF (nigR (goR j l)) 0 n - lfF (nigR (goR j l)) 1 n))), (0, .ref 0), (1, .int (nI x))]) (st2 := []) (w3 := w3) rfl rfl ?_
    have e9 : (allF l - allF (goR j l)) + (lfF (goR j l) 0 n + lfF (goR j l) 1 n - lfF (nigR (goR j l)) 0 n - lfF (nigR (goR j l)) 1 n) = allF l - allF (goR (j + 1) l) := by rw [← allF_n ((goR_1 j l).trans en) hn, tel9, goR_s, ← allF_n (nigR_1.trans ((goR_1 j l).trans en)) hn]
    rw [e9]
    exact sx_RP.ls (sx_lr.cons rfl (sx_lr.cons rfl (sx_lr.cons rfl (sx_lr.cons rfl sx_lr.nil)))) (Z39L hn en hx q (j + 1) w3 (by omega) hI4 (by rw [goR_s]; exact hR1) (hO.tr ho2))
set_option maxRecDepth 20000 in
set_option maxHeartbeats 4000000 in
theorem Z39 {xs : Option (List Int32)} {d : Nat} {w : List sx_C} (hI : WI w) (l : List Int32) (hR : rel w 1 l) (a1 : Int32) : sx_RP xs (d + 7) 39 0 (lv_args 0 [.ref 0, .int a1]) [] w (fun r w2 => (r = some (.int (ntsA l a1)) ∧ rel w2 1 (ntsR l a1)) ∧ WI w2 ∧ EO w w2) := by
  obtain ⟨n, hn, en⟩ := hR.n10 hI (Or.inl rfl)
  refine sx_RP.step (pc2 := 1) (ls2 := [(0, .ref 0), (1, .int a1)]) (st2 := [.int a1]) (w3 := w) rfl rfl ?_
  refine sx_RP.step (pc2 := 2) (ls2 := [(0, .ref 0), (1, .int a1)]) (st2 := [.int 1, .int a1]) (w3 := w) rfl rfl ?_
  refine sx_RP.step (pc2 := 4) (ls2 := [(0, .ref 0), (1, .int a1)]) (st2 := [.int 60, .int 1, .int a1]) (w3 := w) rfl rfl ?_
  rcases in_cases a1 1 60 (m := 1) (n := 60) rfl rfl (by decide) (by decide) with q1 | ⟨x2, hx3, hx4, rfl⟩
  · refine sx_RP.cu (as := [.int a1, .int 1, .int 60]) (rest2 := []) (st3 := [.int 0]) rfl rfl rfl rfl rfl (cx_8n q1) rfl ?_
    refine sx_RP.step (pc2 := 10) (ls2 := [(0, .ref 0), (1, .int a1)]) (st2 := []) (w3 := w) rfl rfl ?_
    refine sx_RP.step (pc2 := 11) (ls2 := [(0, .ref 0), (1, .int a1)]) (st2 := [.ref 0]) (w3 := w) rfl rfl ?_
    refine sx_RP.step (pc2 := 13) (ls2 := [(0, .ref 0), (1, .int a1)]) (st2 := [.int (-1000000001), .ref 0]) (w3 := w) rfl rfl ?_
    refine sx_RP.callp (as2 := [.ref 0, .int (-1000000001)]) (rest2 := []) rfl rfl (sx_inv_v2 (mi := 39) (k := 78) (st := [.int (-1000000001), .ref 0]) (w := w) rfl rfl hI.1.o0 rfl rfl rfl) rfl rfl rfl (S9_0 hI) (show _ = 16 from rfl) ?_
    rintro r4 w7 ⟨rfl, hI8, hs6⟩
    show sx_RP _ _ _ _ _ [.int (-1000000001)] _ _
    refine sx_RP.ret (r := (some (.int (-1000000001)))) rfl rfl ?_
    exact ⟨⟨by rw [(nts_1 (l := l) q1).1], by rw [(nts_1 (l := l) q1).2]; exact hR.same hI (Or.inl rfl) (fun a h1 h2 => hs6 a (by omega))⟩, hI8, fun a ha => hs6 a (by unfold oc at ha; omega)⟩
  · refine sx_RP.cu (as := [.int (nI x2), .int 1, .int 60]) (rest2 := []) (st3 := [.int 1]) rfl rfl rfl rfl rfl (cx_8p ⟨nI_le (a := 1) hx3 (by omega), nI_le (b := 60) hx4 (by decide)⟩) rfl ?_
    refine sx_RP.step (pc2 := 17) (ls2 := [(0, .ref 0), (1, .int (nI x2))]) (st2 := []) (w3 := w) rfl rfl ?_
    refine sx_RP.step (pc2 := 18) (ls2 := [(0, .ref 0), (1, .int (nI x2))]) (st2 := [.ref 0]) (w3 := w) rfl rfl ?_
    refine sx_RP.gf (v := .ref 1) rfl rfl hI.1.o0 rfl rfl (show _ = 21 from rfl) ?_
    refine sx_RP.step (pc2 := 22) (ls2 := [(0, .ref 0), (1, .int (nI x2))]) (st2 := [.int (nI x2), .ref 1]) (w3 := w) rfl rfl ?_
    rcases Decidable.em (l.getD 0 0 + nI x2 ≤ 999) with hc | hc
    · refine sx_RP.cu (as := [.ref 1, .int (nI x2)]) (rest2 := []) (st3 := [.int 1]) rfl rfl (sx_inv_v2 (mi := 39) (k := 163) (st := [.int (nI x2), .ref 1]) (w := w) rfl rfl (hI.1.oC (Or.inl rfl)) rfl rfl rfl) rfl rfl (x40y hI (Or.inl rfl) (by rw [hR.night]; exact hc)) rfl ?_
      refine sx_RP.step (pc2 := 35) (ls2 := [(0, .ref 0), (1, .int (nI x2))]) (st2 := []) (w3 := w) rfl rfl ?_
      refine sx_RP.step (pc2 := 36) (ls2 := [(0, .ref 0), (1, .int (nI x2))]) (st2 := [.int 0]) (w3 := w) rfl rfl ?_
      refine sx_RP.step (pc2 := 37) (ls2 := [(2, .int 0), (0, .ref 0), (1, .int (nI x2))]) (st2 := []) (w3 := w) rfl rfl ?_
      refine sx_RP.step (pc2 := 38) (ls2 := [(2, .int 0), (0, .ref 0), (1, .int (nI x2))]) (st2 := [.int 0]) (w3 := w) rfl rfl ?_
      refine sx_RP.step (pc2 := 39) (ls2 := [(3, .int 0), (2, .int 0), (0, .ref 0), (1, .int (nI x2))]) (st2 := []) (w3 := w) rfl rfl ?_
      rw [(nts_z (l := l) (fun z => z ⟨nI_le (a := 1) (show 1 ≤ x2 by omega) (by omega), nI_le (b := 60) (show x2 ≤ 60 by omega) (by decide)⟩) (fun z => z hc)).1, (nts_z (l := l) (fun z => z ⟨nI_le (a := 1) (show 1 ≤ x2 by omega) (by omega), nI_le (b := 60) (show x2 ≤ 60 by omega) (by decide)⟩) (fun z => z hc)).2, iN_n (show x2 < 2 ^ 31 by omega)]
      exact sx_RP.ls (sx_lr.cons rfl (sx_lr.cons rfl (sx_lr.cons (by show some (Value.int 0) = _; rw [show allF l - allF (goR 0 l) = 0 from Int32.sub_self _]) (sx_lr.cons rfl sx_lr.nil)))) ((Z39L (w0 := w) hn en (show x2 ≤ 60 by omega) x2 0 w (by omega) hI hR (fun _ _ => rfl)).mono9 (fun r w2 q => ⟨q.1, q.2.1, q.2.2.eo⟩))
    · refine sx_RP.cu (as := [.ref 1, .int (nI x2)]) (rest2 := []) (st3 := [.int 0]) rfl rfl (sx_inv_v2 (mi := 39) (k := 163) (st := [.int (nI x2), .ref 1]) (w := w) rfl rfl (hI.1.oC (Or.inl rfl)) rfl rfl rfl) rfl rfl (x40n hI (Or.inl rfl) (by rw [hR.night]; exact hc)) rfl ?_
      refine sx_RP.step (pc2 := 28) (ls2 := [(0, .ref 0), (1, .int (nI x2))]) (st2 := []) (w3 := w) rfl rfl ?_
      refine sx_RP.step (pc2 := 29) (ls2 := [(0, .ref 0), (1, .int (nI x2))]) (st2 := [.ref 0]) (w3 := w) rfl rfl ?_
      refine sx_RP.step (pc2 := 31) (ls2 := [(0, .ref 0), (1, .int (nI x2))]) (st2 := [.int (-1000000005), .ref 0]) (w3 := w) rfl rfl ?_
      refine sx_RP.callp (as2 := [.ref 0, .int (-1000000005)]) (rest2 := []) rfl rfl (sx_inv_v2 (mi := 39) (k := 78) (st := [.int (-1000000005), .ref 0]) (w := w) rfl rfl hI.1.o0 rfl rfl rfl) rfl rfl rfl (S9_4 hI) (show _ = 34 from rfl) ?_
      rintro r4 w10 ⟨rfl, hI11, hs9⟩
      show sx_RP _ _ _ _ _ [.int (-1000000005)] _ _
      refine sx_RP.ret (r := (some (.int (-1000000005)))) rfl rfl ?_
      exact ⟨⟨by rw [(nts_2 (l := l) (fun z => z ⟨nI_le (a := 1) (show 1 ≤ x2 by omega) (by omega), nI_le (b := 60) (show x2 ≤ 60 by omega) (by decide)⟩) hc).1], by rw [(nts_2 (l := l) (fun z => z ⟨nI_le (a := 1) (show 1 ≤ x2 by omega) (by omega), nI_le (b := 60) (show x2 ≤ 60 by omega) (by decide)⟩) hc).2]; exact hR.same hI (Or.inl rfl) (fun a h1 h2 => hs9 a (by omega))⟩, hI11, fun a ha => hs9 a (by unfold oc at ha; omega)⟩
end
