-- falls, blow, mine over a fresh object
noncomputable def sx_s0 : List Int32 := (((List.replicate 172 (0 : Int32)).set 5 10).set 6 16)
theorem sx_s7 : ∀ j, j < 48 → sx_in (7 + nI j) sx_s0.length = true ∧ sx_s0.getD (7 + nI j).toNatClampNeg 0 = 0 ∧ sx_s0.set (7 + nI j).toNatClampNeg 0 = sx_s0 := by decide +kernel
theorem sx_s55 : ∀ j, j < 48 → sx_in (55 + nI j) sx_s0.length = true ∧ sx_s0.getD (55 + nI j).toNatClampNeg 0 = 0 ∧ sx_s0.set (55 + nI j).toNatClampNeg 0 = sx_s0 := by decide +kernel
set_option maxRecDepth 20000 in
set_option maxHeartbeats 4000000 in
theorem cx_47 {xs : Option (List Int32)} {d : Nat} {w : List sx_C} (x : Int32) : ∃ v : Int32, sx_RU xs d 47 0 (lv_args 0 [.int x]) [] w (some (.int v)) w := by
  have h : sx_RP xs d 47 0 (lv_args 0 [.int x]) [] w (fun r w2 => (∃ v : Int32, r = some (.int v)) ∧ w2 = w) := by
    refine sx_RP.step (pc2 := 1) (ls2 := [(0, .int x)]) (st2 := [.int x]) (w3 := w) rfl rfl ?_
    refine sx_RP.br (p1 := 9) (l1 := [(0, .int x)]) (s1 := []) (v1 := w) (p2 := 4) (l2 := [(0, .int x)]) (s2 := []) (v2 := w) rfl rfl (fun q1 => ?_) (fun q1 => ?_)
    · refine sx_RP.step (pc2 := 10) (ls2 := [(0, .int x)]) (st2 := [.int x]) (w3 := w) rfl rfl ?_
      refine sx_RP.ret rfl rfl ?_
      exact ⟨⟨_, rfl⟩, rfl⟩
    · refine sx_RP.step (pc2 := 5) (ls2 := [(0, .int x)]) (st2 := [.int x]) (w3 := w) rfl rfl ?_
      refine sx_RP.step (pc2 := 6) (ls2 := [(0, .int x)]) (st2 := [.int (-x)]) (w3 := w) rfl rfl ?_
      refine sx_RP.step (pc2 := 10) (ls2 := [(0, .int x)]) (st2 := [.int (-x)]) (w3 := w) rfl rfl ?_
      refine sx_RP.ret rfl rfl ?_
      exact ⟨⟨_, rfl⟩, rfl⟩
  obtain ⟨r, w2, h1, ⟨v, rfl⟩, rfl⟩ := h
  exact ⟨v, h1⟩
set_option maxRecDepth 20000 in
set_option maxHeartbeats 4000000 in
theorem cx_46 {xs : Option (List Int32)} {d : Nat} {w : List sx_C} (x y : Int32) : ∃ v : Int32, sx_RU xs (d + 1) 46 0 (lv_args 0 [.int x, .int y]) [] w (some (.int v)) w := by
  have h : sx_RP xs (d + 1) 46 0 (lv_args 0 [.int x, .int y]) [] w (fun r w2 => (∃ v : Int32, r = some (.int v)) ∧ w2 = w) := by
    refine sx_RP.step (pc2 := 1) (ls2 := [(0, .int x), (1, .int y)]) (st2 := [.int x]) (w3 := w) rfl rfl ?_
    refine sx_RP.step (pc2 := 3) (ls2 := [(0, .int x), (1, .int y)]) (st2 := [.int 8, .int x]) (w3 := w) rfl rfl ?_
    refine sx_RP.step (pc2 := 4) (ls2 := [(0, .int x), (1, .int y)]) (st2 := [.int (x / 8)]) (w3 := w) rfl rfl ?_
    refine sx_RP.step (pc2 := 5) (ls2 := [(0, .int x), (1, .int y)]) (st2 := [.int y, .int (x / 8)]) (w3 := w) rfl rfl ?_
    refine sx_RP.step (pc2 := 7) (ls2 := [(0, .int x), (1, .int y)]) (st2 := [.int 8, .int y, .int (x / 8)]) (w3 := w) rfl rfl ?_
    refine sx_RP.step (pc2 := 8) (ls2 := [(0, .int x), (1, .int y)]) (st2 := [.int (y / 8), .int (x / 8)]) (w3 := w) rfl rfl ?_
    refine sx_RP.step (pc2 := 9) (ls2 := [(0, .int x), (1, .int y)]) (st2 := [.int ((x / 8) - (y / 8))]) (w3 := w) rfl rfl ?_
    obtain ⟨v1, c2⟩ := cx_47 (xs := xs) (d := d) (w := w) ((x / 8) - (y / 8))
    refine sx_RP.cu (as := [.int ((x / 8) - (y / 8))]) (rest2 := []) (st3 := [.int v1]) rfl rfl rfl rfl rfl (c2) rfl ?_
    refine sx_RP.step (pc2 := 13) (ls2 := [(0, .int x), (1, .int y)]) (st2 := [.int x, .int v1]) (w3 := w) rfl rfl ?_
    refine sx_RP.step (pc2 := 15) (ls2 := [(0, .int x), (1, .int y)]) (st2 := [.int 8, .int x, .int v1]) (w3 := w) rfl rfl ?_
    refine sx_RP.step (pc2 := 16) (ls2 := [(0, .int x), (1, .int y)]) (st2 := [.int (x - x / 8 * 8), .int v1]) (w3 := w) rfl rfl ?_
    refine sx_RP.step (pc2 := 17) (ls2 := [(0, .int x), (1, .int y)]) (st2 := [.int y, .int (x - x / 8 * 8), .int v1]) (w3 := w) rfl rfl ?_
    refine sx_RP.step (pc2 := 19) (ls2 := [(0, .int x), (1, .int y)]) (st2 := [.int 8, .int y, .int (x - x / 8 * 8), .int v1]) (w3 := w) rfl rfl ?_
    refine sx_RP.step (pc2 := 20) (ls2 := [(0, .int x), (1, .int y)]) (st2 := [.int (y - y / 8 * 8), .int (x - x / 8 * 8), .int v1]) (w3 := w) rfl rfl ?_
    refine sx_RP.step (pc2 := 21) (ls2 := [(0, .int x), (1, .int y)]) (st2 := [.int ((x - x / 8 * 8) - (y - y / 8 * 8)), .int v1]) (w3 := w) rfl rfl ?_
    obtain ⟨v3, c4⟩ := cx_47 (xs := xs) (d := d) (w := w) ((x - x / 8 * 8) - (y - y / 8 * 8))
    refine sx_RP.cu (as := [.int ((x - x / 8 * 8) - (y - y / 8 * 8))]) (rest2 := [.int v1]) (st3 := [.int v3, .int v1]) rfl rfl rfl rfl rfl (c4) rfl ?_
    refine sx_RP.step (pc2 := 25) (ls2 := [(0, .int x), (1, .int y)]) (st2 := [.int (v1 + v3)]) (w3 := w) rfl rfl ?_
    refine sx_RP.ret rfl rfl ?_
    exact ⟨⟨_, rfl⟩, rfl⟩
  obtain ⟨r, w2, h1, ⟨v, rfl⟩, rfl⟩ := h
  exact ⟨v, h1⟩
set_option maxRecDepth 20000 in
set_option maxHeartbeats 4000000 in
theorem cx_200 {xs : Option (List Int32)} {d : Nat} {w : List sx_C} (x y : Int32) : ∃ v : Int32, sx_RU xs d 200 0 (lv_args 0 [.int x, .int y]) [] w (some (.int v)) w := by
  have h : sx_RP xs d 200 0 (lv_args 0 [.int x, .int y]) [] w (fun r w2 => (∃ v : Int32, r = some (.int v)) ∧ w2 = w) := by
    refine sx_RP.step (pc2 := 1) (ls2 := [(0, .int x), (1, .int y)]) (st2 := [.int x]) (w3 := w) rfl rfl ?_
    refine sx_RP.step (pc2 := 3) (ls2 := [(0, .int x), (1, .int y)]) (st2 := [.int 8, .int x]) (w3 := w) rfl rfl ?_
    refine sx_RP.step (pc2 := 4) (ls2 := [(0, .int x), (1, .int y)]) (st2 := [.int (x / 8)]) (w3 := w) rfl rfl ?_
    refine sx_RP.step (pc2 := 5) (ls2 := [(0, .int x), (1, .int y)]) (st2 := [.int y, .int (x / 8)]) (w3 := w) rfl rfl ?_
    refine sx_RP.step (pc2 := 7) (ls2 := [(0, .int x), (1, .int y)]) (st2 := [.int 8, .int y, .int (x / 8)]) (w3 := w) rfl rfl ?_
    refine sx_RP.step (pc2 := 8) (ls2 := [(0, .int x), (1, .int y)]) (st2 := [.int (y / 8), .int (x / 8)]) (w3 := w) rfl rfl ?_
    refine sx_RP.step (pc2 := 9) (ls2 := [(0, .int x), (1, .int y)]) (st2 := [.int ((x / 8) - (y / 8))]) (w3 := w) rfl rfl ?_
    refine sx_RP.step (pc2 := 10) (ls2 := [(2, .int ((x / 8) - (y / 8))), (0, .int x), (1, .int y)]) (st2 := []) (w3 := w) rfl rfl ?_
    refine sx_RP.step (pc2 := 11) (ls2 := [(2, .int ((x / 8) - (y / 8))), (0, .int x), (1, .int y)]) (st2 := [.int x]) (w3 := w) rfl rfl ?_
    refine sx_RP.step (pc2 := 13) (ls2 := [(2, .int ((x / 8) - (y / 8))), (0, .int x), (1, .int y)]) (st2 := [.int 8, .int x]) (w3 := w) rfl rfl ?_
    refine sx_RP.step (pc2 := 14) (ls2 := [(2, .int ((x / 8) - (y / 8))), (0, .int x), (1, .int y)]) (st2 := [.int (x - x / 8 * 8)]) (w3 := w) rfl rfl ?_
    refine sx_RP.step (pc2 := 15) (ls2 := [(2, .int ((x / 8) - (y / 8))), (0, .int x), (1, .int y)]) (st2 := [.int y, .int (x - x / 8 * 8)]) (w3 := w) rfl rfl ?_
    refine sx_RP.step (pc2 := 17) (ls2 := [(2, .int ((x / 8) - (y / 8))), (0, .int x), (1, .int y)]) (st2 := [.int 8, .int y, .int (x - x / 8 * 8)]) (w3 := w) rfl rfl ?_
    refine sx_RP.step (pc2 := 18) (ls2 := [(2, .int ((x / 8) - (y / 8))), (0, .int x), (1, .int y)]) (st2 := [.int (y - y / 8 * 8), .int (x - x / 8 * 8)]) (w3 := w) rfl rfl ?_
    refine sx_RP.step (pc2 := 19) (ls2 := [(2, .int ((x / 8) - (y / 8))), (0, .int x), (1, .int y)]) (st2 := [.int ((x - x / 8 * 8) - (y - y / 8 * 8))]) (w3 := w) rfl rfl ?_
    refine sx_RP.step (pc2 := 20) (ls2 := [(3, .int ((x - x / 8 * 8) - (y - y / 8 * 8))), (2, .int ((x / 8) - (y / 8))), (0, .int x), (1, .int y)]) (st2 := []) (w3 := w) rfl rfl ?_
    refine sx_RP.step (pc2 := 21) (ls2 := [(3, .int ((x - x / 8 * 8) - (y - y / 8 * 8))), (2, .int ((x / 8) - (y / 8))), (0, .int x), (1, .int y)]) (st2 := [.int ((x / 8) - (y / 8))]) (w3 := w) rfl rfl ?_
    refine sx_RP.br (p1 := 29) (l1 := [(3, .int ((x - x / 8 * 8) - (y - y / 8 * 8))), (2, .int ((x / 8) - (y / 8))), (0, .int x), (1, .int y)]) (s1 := []) (v1 := w) (p2 := 24) (l2 := [(3, .int ((x - x / 8 * 8) - (y - y / 8 * 8))), (2, .int ((x / 8) - (y / 8))), (0, .int x), (1, .int y)]) (s2 := []) (v2 := w) rfl rfl (fun q1 => ?_) (fun q1 => ?_)
    · refine sx_RP.step (pc2 := 30) (ls2 := [(3, .int ((x - x / 8 * 8) - (y - y / 8 * 8))), (2, .int ((x / 8) - (y / 8))), (0, .int x), (1, .int y)]) (st2 := [.int ((x / 8) - (y / 8))]) (w3 := w) rfl rfl ?_
      refine sx_RP.step (pc2 := 31) (ls2 := [(3, .int ((x - x / 8 * 8) - (y - y / 8 * 8))), (2, .int ((x / 8) - (y / 8))), (0, .int x), (1, .int y)]) (st2 := [.int ((x - x / 8 * 8) - (y - y / 8 * 8)), .int ((x / 8) - (y / 8))]) (w3 := w) rfl rfl ?_
      refine sx_RP.br (p1 := 39) (l1 := [(3, .int ((x - x / 8 * 8) - (y - y / 8 * 8))), (2, .int ((x / 8) - (y / 8))), (0, .int x), (1, .int y)]) (s1 := [.int ((x / 8) - (y / 8))]) (v1 := w) (p2 := 34) (l2 := [(3, .int ((x - x / 8 * 8) - (y - y / 8 * 8))), (2, .int ((x / 8) - (y / 8))), (0, .int x), (1, .int y)]) (s2 := [.int ((x / 8) - (y / 8))]) (v2 := w) rfl rfl (fun q2 => ?_) (fun q2 => ?_)
      · refine sx_RP.step (pc2 := 40) (ls2 := [(3, .int ((x - x / 8 * 8) - (y - y / 8 * 8))), (2, .int ((x / 8) - (y / 8))), (0, .int x), (1, .int y)]) (st2 := [.int ((x - x / 8 * 8) - (y - y / 8 * 8)), .int ((x / 8) - (y / 8))]) (w3 := w) rfl rfl ?_
        refine sx_RP.step (pc2 := 41) (ls2 := [(3, .int ((x - x / 8 * 8) - (y - y / 8 * 8))), (2, .int ((x / 8) - (y / 8))), (0, .int x), (1, .int y)]) (st2 := [.int (((x / 8) - (y / 8)) + ((x - x / 8 * 8) - (y - y / 8 * 8)))]) (w3 := w) rfl rfl ?_
        refine sx_RP.ret rfl rfl ?_
        exact ⟨⟨_, rfl⟩, rfl⟩
      · refine sx_RP.step (pc2 := 35) (ls2 := [(3, .int ((x - x / 8 * 8) - (y - y / 8 * 8))), (2, .int ((x / 8) - (y / 8))), (0, .int x), (1, .int y)]) (st2 := [.int ((x - x / 8 * 8) - (y - y / 8 * 8)), .int ((x / 8) - (y / 8))]) (w3 := w) rfl rfl ?_
        refine sx_RP.step (pc2 := 36) (ls2 := [(3, .int ((x - x / 8 * 8) - (y - y / 8 * 8))), (2, .int ((x / 8) - (y / 8))), (0, .int x), (1, .int y)]) (st2 := [.int (-((x - x / 8 * 8) - (y - y / 8 * 8))), .int ((x / 8) - (y / 8))]) (w3 := w) rfl rfl ?_
        refine sx_RP.step (pc2 := 40) (ls2 := [(3, .int ((x - x / 8 * 8) - (y - y / 8 * 8))), (2, .int ((x / 8) - (y / 8))), (0, .int x), (1, .int y)]) (st2 := [.int (-((x - x / 8 * 8) - (y - y / 8 * 8))), .int ((x / 8) - (y / 8))]) (w3 := w) rfl rfl ?_
        refine sx_RP.step (pc2 := 41) (ls2 := [(3, .int ((x - x / 8 * 8) - (y - y / 8 * 8))), (2, .int ((x / 8) - (y / 8))), (0, .int x), (1, .int y)]) (st2 := [.int (((x / 8) - (y / 8)) + (-((x - x / 8 * 8) - (y - y / 8 * 8))))]) (w3 := w) rfl rfl ?_
        refine sx_RP.ret rfl rfl ?_
        exact ⟨⟨_, rfl⟩, rfl⟩
    · refine sx_RP.step (pc2 := 25) (ls2 := [(3, .int ((x - x / 8 * 8) - (y - y / 8 * 8))), (2, .int ((x / 8) - (y / 8))), (0, .int x), (1, .int y)]) (st2 := [.int ((x / 8) - (y / 8))]) (w3 := w) rfl rfl ?_
      refine sx_RP.step (pc2 := 26) (ls2 := [(3, .int ((x - x / 8 * 8) - (y - y / 8 * 8))), (2, .int ((x / 8) - (y / 8))), (0, .int x), (1, .int y)]) (st2 := [.int (-((x / 8) - (y / 8)))]) (w3 := w) rfl rfl ?_
      refine sx_RP.step (pc2 := 30) (ls2 := [(3, .int ((x - x / 8 * 8) - (y - y / 8 * 8))), (2, .int ((x / 8) - (y / 8))), (0, .int x), (1, .int y)]) (st2 := [.int (-((x / 8) - (y / 8)))]) (w3 := w) rfl rfl ?_
      refine sx_RP.step (pc2 := 31) (ls2 := [(3, .int ((x - x / 8 * 8) - (y - y / 8 * 8))), (2, .int ((x / 8) - (y / 8))), (0, .int x), (1, .int y)]) (st2 := [.int ((x - x / 8 * 8) - (y - y / 8 * 8)), .int (-((x / 8) - (y / 8)))]) (w3 := w) rfl rfl ?_
      refine sx_RP.br (p1 := 39) (l1 := [(3, .int ((x - x / 8 * 8) - (y - y / 8 * 8))), (2, .int ((x / 8) - (y / 8))), (0, .int x), (1, .int y)]) (s1 := [.int (-((x / 8) - (y / 8)))]) (v1 := w) (p2 := 34) (l2 := [(3, .int ((x - x / 8 * 8) - (y - y / 8 * 8))), (2, .int ((x / 8) - (y / 8))), (0, .int x), (1, .int y)]) (s2 := [.int (-((x / 8) - (y / 8)))]) (v2 := w) rfl rfl (fun q3 => ?_) (fun q3 => ?_)
      · refine sx_RP.step (pc2 := 40) (ls2 := [(3, .int ((x - x / 8 * 8) - (y - y / 8 * 8))), (2, .int ((x / 8) - (y / 8))), (0, .int x), (1, .int y)]) (st2 := [.int ((x - x / 8 * 8) - (y - y / 8 * 8)), .int (-((x / 8) - (y / 8)))]) (w3 := w) rfl rfl ?_
        refine sx_RP.step (pc2 := 41) (ls2 := [(3, .int ((x - x / 8 * 8) - (y - y / 8 * 8))), (2, .int ((x / 8) - (y / 8))), (0, .int x), (1, .int y)]) (st2 := [.int ((-((x / 8) - (y / 8))) + ((x - x / 8 * 8) - (y - y / 8 * 8)))]) (w3 := w) rfl rfl ?_
        refine sx_RP.ret rfl rfl ?_
        exact ⟨⟨_, rfl⟩, rfl⟩
      · refine sx_RP.step (pc2 := 35) (ls2 := [(3, .int ((x - x / 8 * 8) - (y - y / 8 * 8))), (2, .int ((x / 8) - (y / 8))), (0, .int x), (1, .int y)]) (st2 := [.int ((x - x / 8 * 8) - (y - y / 8 * 8)), .int (-((x / 8) - (y / 8)))]) (w3 := w) rfl rfl ?_
        refine sx_RP.step (pc2 := 36) (ls2 := [(3, .int ((x - x / 8 * 8) - (y - y / 8 * 8))), (2, .int ((x / 8) - (y / 8))), (0, .int x), (1, .int y)]) (st2 := [.int (-((x - x / 8 * 8) - (y - y / 8 * 8))), .int (-((x / 8) - (y / 8)))]) (w3 := w) rfl rfl ?_
        refine sx_RP.step (pc2 := 40) (ls2 := [(3, .int ((x - x / 8 * 8) - (y - y / 8 * 8))), (2, .int ((x / 8) - (y / 8))), (0, .int x), (1, .int y)]) (st2 := [.int (-((x - x / 8 * 8) - (y - y / 8 * 8))), .int (-((x / 8) - (y / 8)))]) (w3 := w) rfl rfl ?_
        refine sx_RP.step (pc2 := 41) (ls2 := [(3, .int ((x - x / 8 * 8) - (y - y / 8 * 8))), (2, .int ((x / 8) - (y / 8))), (0, .int x), (1, .int y)]) (st2 := [.int ((-((x / 8) - (y / 8))) + (-((x - x / 8 * 8) - (y - y / 8 * 8))))]) (w3 := w) rfl rfl ?_
        refine sx_RP.ret rfl rfl ?_
        exact ⟨⟨_, rfl⟩, rfl⟩
  obtain ⟨r, w2, h1, ⟨v, rfl⟩, rfl⟩ := h
  exact ⟨v, h1⟩
set_option maxRecDepth 20000 in
set_option maxHeartbeats 4000000 in
theorem cx_199 {xs : Option (List Int32)} {d : Nat} (x y : Int32) (j : Nat) (hlt : j < 48) : ∃ v : Int32, sx_RU xs (d + 1) 199 0 (lv_args 0 [.ref 111, .int x, .int y, .int (nI j)]) [] sx_w0 (some (.int v)) sx_w0 := by
  have h : sx_RP xs (d + 1) 199 0 (lv_args 0 [.ref 111, .int x, .int y, .int (nI j)]) [] sx_w0 (fun r w2 => (∃ v : Int32, r = some (.int v)) ∧ w2 = sx_w0) := by
    refine sx_RP.step (pc2 := 1) (ls2 := [(0, .ref 111), (1, .int x), (2, .int y), (3, .int (nI j))]) (st2 := [.int y]) (w3 := sx_w0) rfl rfl ?_
    refine sx_RP.step (pc2 := 2) (ls2 := [(0, .ref 111), (1, .int x), (2, .int y), (3, .int (nI j))]) (st2 := [.int 3, .int y]) (w3 := sx_w0) rfl rfl ?_
    refine sx_RP.step (pc2 := 3) (ls2 := [(0, .ref 111), (1, .int x), (2, .int y), (3, .int (nI j))]) (st2 := [.int x, .int 3, .int y]) (w3 := sx_w0) rfl rfl ?_
    refine sx_RP.step (pc2 := 4) (ls2 := [(0, .ref 111), (1, .int x), (2, .int y), (3, .int (nI j))]) (st2 := [.int (nI j), .int x, .int 3, .int y]) (w3 := sx_w0) rfl rfl ?_
    obtain ⟨v1, c2⟩ := cx_200 (xs := xs) (d := d) (w := sx_w0) x (nI j)
    refine sx_RP.cu (as := [.int x, .int (nI j)]) (rest2 := [.int 3, .int y]) (st3 := [.int v1, .int 3, .int y]) rfl rfl rfl rfl rfl (c2) rfl ?_
    refine sx_RP.step (pc2 := 8) (ls2 := [(0, .ref 111), (1, .int x), (2, .int y), (3, .int (nI j))]) (st2 := [.int (3 * v1), .int y]) (w3 := sx_w0) rfl rfl ?_
    refine sx_RP.step (pc2 := 9) (ls2 := [(0, .ref 111), (1, .int x), (2, .int y), (3, .int (nI j))]) (st2 := [.int (y - (3 * v1))]) (w3 := sx_w0) rfl rfl ?_
    refine sx_RP.step (pc2 := 10) (ls2 := [(0, .ref 111), (1, .int x), (2, .int y), (3, .int (nI j))]) (st2 := [.ref 111, .int (y - (3 * v1))]) (w3 := sx_w0) rfl rfl ?_
    refine sx_RP.step (pc2 := 13) (ls2 := [(0, .ref 111), (1, .int x), (2, .int y), (3, .int (nI j))]) (st2 := [.ref 112, .int (y - (3 * v1))]) (w3 := sx_w0) rfl rfl ?_
    refine sx_RP.step (pc2 := 15) (ls2 := [(0, .ref 111), (1, .int x), (2, .int y), (3, .int (nI j))]) (st2 := [.int 7, .ref 112, .int (y - (3 * v1))]) (w3 := sx_w0) rfl rfl ?_
    refine sx_RP.step (pc2 := 16) (ls2 := [(0, .ref 111), (1, .int x), (2, .int y), (3, .int (nI j))]) (st2 := [.int (nI j), .int 7, .ref 112, .int (y - (3 * v1))]) (w3 := sx_w0) rfl rfl ?_
    refine sx_RP.step (pc2 := 17) (ls2 := [(0, .ref 111), (1, .int x), (2, .int y), (3, .int (nI j))]) (st2 := [.int (7 + (nI j)), .ref 112, .int (y - (3 * v1))]) (w3 := sx_w0) rfl rfl ?_
    refine sx_RP.iald (l := sx_s0) (v := 0) rfl rfl (sx_s7 j hlt).1 (sx_s7 j hlt).2.1 (pc2 := 18) rfl ?_
    refine sx_RP.step (pc2 := 19) (ls2 := [(0, .ref 111), (1, .int x), (2, .int y), (3, .int (nI j))]) (st2 := [.int 2, .int 0, .int (y - (3 * v1))]) (w3 := sx_w0) rfl rfl ?_
    refine sx_RP.step (pc2 := 26) (ls2 := [(0, .ref 111), (1, .int x), (2, .int y), (3, .int (nI j))]) (st2 := [.int (y - (3 * v1))]) (w3 := sx_w0) rfl rfl ?_
    refine sx_RP.step (pc2 := 27) (ls2 := [(0, .ref 111), (1, .int x), (2, .int y), (3, .int (nI j))]) (st2 := [.int 0, .int (y - (3 * v1))]) (w3 := sx_w0) rfl rfl ?_
    refine sx_RP.br (p1 := 34) (l1 := [(0, .ref 111), (1, .int x), (2, .int y), (3, .int (nI j))]) (s1 := []) (v1 := sx_w0) (p2 := 30) (l2 := [(0, .ref 111), (1, .int x), (2, .int y), (3, .int (nI j))]) (s2 := []) (v2 := sx_w0) rfl rfl (fun q3 => ?_) (fun q3 => ?_)
    · refine sx_RP.step (pc2 := 35) (ls2 := [(0, .ref 111), (1, .int x), (2, .int y), (3, .int (nI j))]) (st2 := [.int 0]) (w3 := sx_w0) rfl rfl ?_
      refine sx_RP.ret rfl rfl ?_
      exact ⟨⟨_, rfl⟩, rfl⟩
    · refine sx_RP.step (pc2 := 31) (ls2 := [(0, .ref 111), (1, .int x), (2, .int y), (3, .int (nI j))]) (st2 := [.int 1]) (w3 := sx_w0) rfl rfl ?_
      refine sx_RP.step (pc2 := 35) (ls2 := [(0, .ref 111), (1, .int x), (2, .int y), (3, .int (nI j))]) (st2 := [.int 1]) (w3 := sx_w0) rfl rfl ?_
      refine sx_RP.ret rfl rfl ?_
      exact ⟨⟨_, rfl⟩, rfl⟩
  obtain ⟨r, w2, h1, ⟨v, rfl⟩, rfl⟩ := h
  exact ⟨v, h1⟩
set_option maxRecDepth 20000 in
set_option maxHeartbeats 4000000 in
theorem cp_77L (ys : List Int32) (x y : Int32) : ∀ k j : Nat, j + k = 48 → (∀ (x3 : Int64), sx_RP (some ys) 6 77 5 [(5, .int (nI j)), (3, .long x3), (0, .ref 1), (1, .int x), (2, .int y)] [] sx_w0 (fun r w => (∃ v : Int64, r = some (.long v)) ∧ w = sx_w0)) ∧ (∀ (x6 : Int32) (x3 : Int64), sx_RP (some ys) 6 77 5 [(5, .int (nI j)), (6, .int x6), (3, .long x3), (0, .ref 1), (1, .int x), (2, .int y)] [] sx_w0 (fun r w => (∃ v : Int64, r = some (.long v)) ∧ w = sx_w0)) ∧ (∀ (x3 : Int64) (x6 : Int32), sx_RP (some ys) 6 77 5 [(5, .int (nI j)), (3, .long x3), (6, .int x6), (0, .ref 1), (1, .int x), (2, .int y)] [] sx_w0 (fun r w => (∃ v : Int64, r = some (.long v)) ∧ w = sx_w0))
  | 0, j, h => by
    rw [show j = 48 by omega]
    refine ⟨?_, ?_, ?_⟩
    · intro x3
      refine sx_RP.step (pc2 := 7) (ls2 := [(5, .int (nI 48)), (3, .long x3), (0, .ref 1), (1, .int x), (2, .int y)]) (st2 := [.int (nI 48)]) (w3 := sx_w0) rfl rfl ?_
      refine sx_RP.step (pc2 := 9) (ls2 := [(5, .int (nI 48)), (3, .long x3), (0, .ref 1), (1, .int x), (2, .int y)]) (st2 := [.int 48, .int (nI 48)]) (w3 := sx_w0) rfl rfl ?_
      refine sx_RP.step (pc2 := 58) (ls2 := [(5, .int (nI 48)), (3, .long x3), (0, .ref 1), (1, .int x), (2, .int y)]) (st2 := []) (w3 := sx_w0) rfl rfl ?_
      refine sx_RP.step (pc2 := 59) (ls2 := [(5, .int (nI 48)), (3, .long x3), (0, .ref 1), (1, .int x), (2, .int y)]) (st2 := [.long x3]) (w3 := sx_w0) rfl rfl ?_
      refine sx_RP.ret rfl rfl ?_
      exact ⟨⟨_, rfl⟩, rfl⟩
    · intro x6 x3
      refine sx_RP.step (pc2 := 7) (ls2 := [(5, .int (nI 48)), (6, .int x6), (3, .long x3), (0, .ref 1), (1, .int x), (2, .int y)]) (st2 := [.int (nI 48)]) (w3 := sx_w0) rfl rfl ?_
      refine sx_RP.step (pc2 := 9) (ls2 := [(5, .int (nI 48)), (6, .int x6), (3, .long x3), (0, .ref 1), (1, .int x), (2, .int y)]) (st2 := [.int 48, .int (nI 48)]) (w3 := sx_w0) rfl rfl ?_
      refine sx_RP.step (pc2 := 58) (ls2 := [(5, .int (nI 48)), (6, .int x6), (3, .long x3), (0, .ref 1), (1, .int x), (2, .int y)]) (st2 := []) (w3 := sx_w0) rfl rfl ?_
      refine sx_RP.step (pc2 := 59) (ls2 := [(5, .int (nI 48)), (6, .int x6), (3, .long x3), (0, .ref 1), (1, .int x), (2, .int y)]) (st2 := [.long x3]) (w3 := sx_w0) rfl rfl ?_
      refine sx_RP.ret rfl rfl ?_
      exact ⟨⟨_, rfl⟩, rfl⟩
    · intro x3 x6
      refine sx_RP.step (pc2 := 7) (ls2 := [(5, .int (nI 48)), (3, .long x3), (6, .int x6), (0, .ref 1), (1, .int x), (2, .int y)]) (st2 := [.int (nI 48)]) (w3 := sx_w0) rfl rfl ?_
      refine sx_RP.step (pc2 := 9) (ls2 := [(5, .int (nI 48)), (3, .long x3), (6, .int x6), (0, .ref 1), (1, .int x), (2, .int y)]) (st2 := [.int 48, .int (nI 48)]) (w3 := sx_w0) rfl rfl ?_
      refine sx_RP.step (pc2 := 58) (ls2 := [(5, .int (nI 48)), (3, .long x3), (6, .int x6), (0, .ref 1), (1, .int x), (2, .int y)]) (st2 := []) (w3 := sx_w0) rfl rfl ?_
      refine sx_RP.step (pc2 := 59) (ls2 := [(5, .int (nI 48)), (3, .long x3), (6, .int x6), (0, .ref 1), (1, .int x), (2, .int y)]) (st2 := [.long x3]) (w3 := sx_w0) rfl rfl ?_
      refine sx_RP.ret rfl rfl ?_
      exact ⟨⟨_, rfl⟩, rfl⟩
  | k + 1, j, h => by
    have hlt : j < 48 := by omega
    have IH := cp_77L ys x y k (j + 1) (by omega)
    refine ⟨?_, ?_, ?_⟩
    · intro x3
      refine sx_RP.step (pc2 := 7) (ls2 := [(5, .int (nI j)), (3, .long x3), (0, .ref 1), (1, .int x), (2, .int y)]) (st2 := [.int (nI j)]) (w3 := sx_w0) rfl rfl ?_
      refine sx_RP.step (pc2 := 9) (ls2 := [(5, .int (nI j)), (3, .long x3), (0, .ref 1), (1, .int x), (2, .int y)]) (st2 := [.int 48, .int (nI j)]) (w3 := sx_w0) rfl rfl ?_
      refine sx_RP.br (p2 := 12) (l2 := [(5, .int (nI j)), (3, .long x3), (0, .ref 1), (1, .int x), (2, .int y)]) (s2 := []) (v2 := sx_w0) rfl rfl (fun q => absurd (of_decide_eq_true q) (nI_ge (b := 48) hlt (by omega))) (fun _ => ?_)
      refine sx_RP.step (pc2 := 13) (ls2 := [(5, .int (nI j)), (3, .long x3), (0, .ref 1), (1, .int x), (2, .int y)]) (st2 := [.int y]) (w3 := sx_w0) rfl rfl ?_
      refine sx_RP.step (pc2 := 14) (ls2 := [(5, .int (nI j)), (3, .long x3), (0, .ref 1), (1, .int x), (2, .int y)]) (st2 := [.int 3, .int y]) (w3 := sx_w0) rfl rfl ?_
      refine sx_RP.step (pc2 := 15) (ls2 := [(5, .int (nI j)), (3, .long x3), (0, .ref 1), (1, .int x), (2, .int y)]) (st2 := [.int x, .int 3, .int y]) (w3 := sx_w0) rfl rfl ?_
      refine sx_RP.step (pc2 := 17) (ls2 := [(5, .int (nI j)), (3, .long x3), (0, .ref 1), (1, .int x), (2, .int y)]) (st2 := [.int (nI j), .int x, .int 3, .int y]) (w3 := sx_w0) rfl rfl ?_
      obtain ⟨v101, c102⟩ := cx_46 (xs := some ys) (d := 4) (w := sx_w0) x (nI j)
      refine sx_RP.cu (as := [.int x, .int (nI j)]) (rest2 := [.int 3, .int y]) (st3 := [.int v101, .int 3, .int y]) rfl rfl rfl rfl rfl (c102) rfl ?_
      refine sx_RP.step (pc2 := 21) (ls2 := [(5, .int (nI j)), (3, .long x3), (0, .ref 1), (1, .int x), (2, .int y)]) (st2 := [.int (3 * v101), .int y]) (w3 := sx_w0) rfl rfl ?_
      refine sx_RP.step (pc2 := 22) (ls2 := [(5, .int (nI j)), (3, .long x3), (0, .ref 1), (1, .int x), (2, .int y)]) (st2 := [.int (y - (3 * v101))]) (w3 := sx_w0) rfl rfl ?_
      refine sx_RP.step (pc2 := 24) (ls2 := [(6, .int (y - (3 * v101))), (5, .int (nI j)), (3, .long x3), (0, .ref 1), (1, .int x), (2, .int y)]) (st2 := []) (w3 := sx_w0) rfl rfl ?_
      refine sx_RP.step (pc2 := 26) (ls2 := [(6, .int (y - (3 * v101))), (5, .int (nI j)), (3, .long x3), (0, .ref 1), (1, .int x), (2, .int y)]) (st2 := [.int (y - (3 * v101))]) (w3 := sx_w0) rfl rfl ?_
      refine sx_RP.step (pc2 := 27) (ls2 := [(6, .int (y - (3 * v101))), (5, .int (nI j)), (3, .long x3), (0, .ref 1), (1, .int x), (2, .int y)]) (st2 := [.ref 1, .int (y - (3 * v101))]) (w3 := sx_w0) rfl rfl ?_
      refine sx_RP.step (pc2 := 30) (ls2 := [(6, .int (y - (3 * v101))), (5, .int (nI j)), (3, .long x3), (0, .ref 1), (1, .int x), (2, .int y)]) (st2 := [.ref 2, .int (y - (3 * v101))]) (w3 := sx_w0) rfl rfl ?_
      refine sx_RP.step (pc2 := 32) (ls2 := [(6, .int (y - (3 * v101))), (5, .int (nI j)), (3, .long x3), (0, .ref 1), (1, .int x), (2, .int y)]) (st2 := [.int (nI j), .ref 2, .int (y - (3 * v101))]) (w3 := sx_w0) rfl rfl ?_
      refine sx_RP.iald (l := List.replicate 48 0) (v := 0) rfl rfl (sx_in_nI (n := 48) hlt (by decide)) sx_rep0 (pc2 := 33) rfl ?_
      refine sx_RP.step (pc2 := 34) (ls2 := [(6, .int (y - (3 * v101))), (5, .int (nI j)), (3, .long x3), (0, .ref 1), (1, .int x), (2, .int y)]) (st2 := [.int 2, .int 0, .int (y - (3 * v101))]) (w3 := sx_w0) rfl rfl ?_
      refine sx_RP.step (pc2 := 41) (ls2 := [(6, .int (y - (3 * v101))), (5, .int (nI j)), (3, .long x3), (0, .ref 1), (1, .int x), (2, .int y)]) (st2 := [.int (y - (3 * v101))]) (w3 := sx_w0) rfl rfl ?_
      refine sx_RP.step (pc2 := 42) (ls2 := [(6, .int (y - (3 * v101))), (5, .int (nI j)), (3, .long x3), (0, .ref 1), (1, .int x), (2, .int y)]) (st2 := [.int 0, .int (y - (3 * v101))]) (w3 := sx_w0) rfl rfl ?_
      refine sx_RP.br (p1 := 52) (l1 := [(6, .int (y - (3 * v101))), (5, .int (nI j)), (3, .long x3), (0, .ref 1), (1, .int x), (2, .int y)]) (s1 := []) (v1 := sx_w0) (p2 := 45) (l2 := [(6, .int (y - (3 * v101))), (5, .int (nI j)), (3, .long x3), (0, .ref 1), (1, .int x), (2, .int y)]) (s2 := []) (v2 := sx_w0) rfl rfl (fun q103 => ?_) (fun q103 => ?_)
      · refine sx_RP.step (pc2 := 55) (ls2 := [(5, .int ((nI j) + 1)), (6, .int (y - (3 * v101))), (3, .long x3), (0, .ref 1), (1, .int x), (2, .int y)]) (st2 := []) (w3 := sx_w0) rfl rfl ?_
        refine sx_RP.step (pc2 := 5) (ls2 := [(5, .int ((nI j) + 1)), (6, .int (y - (3 * v101))), (3, .long x3), (0, .ref 1), (1, .int x), (2, .int y)]) (st2 := []) (w3 := sx_w0) rfl rfl ?_
        rw [nI_1 j]
        exact IH.2.1 _ _
      · refine sx_RP.step (pc2 := 46) (ls2 := [(6, .int (y - (3 * v101))), (5, .int (nI j)), (3, .long x3), (0, .ref 1), (1, .int x), (2, .int y)]) (st2 := [.long x3]) (w3 := sx_w0) rfl rfl ?_
        refine sx_RP.step (pc2 := 47) (ls2 := [(6, .int (y - (3 * v101))), (5, .int (nI j)), (3, .long x3), (0, .ref 1), (1, .int x), (2, .int y)]) (st2 := [.long 1, .long x3]) (w3 := sx_w0) rfl rfl ?_
        refine sx_RP.step (pc2 := 49) (ls2 := [(6, .int (y - (3 * v101))), (5, .int (nI j)), (3, .long x3), (0, .ref 1), (1, .int x), (2, .int y)]) (st2 := [.int (nI j), .long 1, .long x3]) (w3 := sx_w0) rfl rfl ?_
        refine sx_RP.step (pc2 := 50) (ls2 := [(6, .int (y - (3 * v101))), (5, .int (nI j)), (3, .long x3), (0, .ref 1), (1, .int x), (2, .int y)]) (st2 := [.long (1 <<< ((nI j).toInt64 &&& 63)), .long x3]) (w3 := sx_w0) rfl rfl ?_
        refine sx_RP.step (pc2 := 51) (ls2 := [(6, .int (y - (3 * v101))), (5, .int (nI j)), (3, .long x3), (0, .ref 1), (1, .int x), (2, .int y)]) (st2 := [.long (x3 ||| (1 <<< ((nI j).toInt64 &&& 63)))]) (w3 := sx_w0) rfl rfl ?_
        refine sx_RP.step (pc2 := 52) (ls2 := [(3, .long (x3 ||| (1 <<< ((nI j).toInt64 &&& 63)))), (6, .int (y - (3 * v101))), (5, .int (nI j)), (0, .ref 1), (1, .int x), (2, .int y)]) (st2 := []) (w3 := sx_w0) rfl rfl ?_
        refine sx_RP.step (pc2 := 55) (ls2 := [(5, .int ((nI j) + 1)), (3, .long (x3 ||| (1 <<< ((nI j).toInt64 &&& 63)))), (6, .int (y - (3 * v101))), (0, .ref 1), (1, .int x), (2, .int y)]) (st2 := []) (w3 := sx_w0) rfl rfl ?_
        refine sx_RP.step (pc2 := 5) (ls2 := [(5, .int ((nI j) + 1)), (3, .long (x3 ||| (1 <<< ((nI j).toInt64 &&& 63)))), (6, .int (y - (3 * v101))), (0, .ref 1), (1, .int x), (2, .int y)]) (st2 := []) (w3 := sx_w0) rfl rfl ?_
        rw [nI_1 j]
        exact IH.2.2 _ _
    · intro x6 x3
      refine sx_RP.step (pc2 := 7) (ls2 := [(5, .int (nI j)), (6, .int x6), (3, .long x3), (0, .ref 1), (1, .int x), (2, .int y)]) (st2 := [.int (nI j)]) (w3 := sx_w0) rfl rfl ?_
      refine sx_RP.step (pc2 := 9) (ls2 := [(5, .int (nI j)), (6, .int x6), (3, .long x3), (0, .ref 1), (1, .int x), (2, .int y)]) (st2 := [.int 48, .int (nI j)]) (w3 := sx_w0) rfl rfl ?_
      refine sx_RP.br (p2 := 12) (l2 := [(5, .int (nI j)), (6, .int x6), (3, .long x3), (0, .ref 1), (1, .int x), (2, .int y)]) (s2 := []) (v2 := sx_w0) rfl rfl (fun q => absurd (of_decide_eq_true q) (nI_ge (b := 48) hlt (by omega))) (fun _ => ?_)
      refine sx_RP.step (pc2 := 13) (ls2 := [(5, .int (nI j)), (6, .int x6), (3, .long x3), (0, .ref 1), (1, .int x), (2, .int y)]) (st2 := [.int y]) (w3 := sx_w0) rfl rfl ?_
      refine sx_RP.step (pc2 := 14) (ls2 := [(5, .int (nI j)), (6, .int x6), (3, .long x3), (0, .ref 1), (1, .int x), (2, .int y)]) (st2 := [.int 3, .int y]) (w3 := sx_w0) rfl rfl ?_
      refine sx_RP.step (pc2 := 15) (ls2 := [(5, .int (nI j)), (6, .int x6), (3, .long x3), (0, .ref 1), (1, .int x), (2, .int y)]) (st2 := [.int x, .int 3, .int y]) (w3 := sx_w0) rfl rfl ?_
      refine sx_RP.step (pc2 := 17) (ls2 := [(5, .int (nI j)), (6, .int x6), (3, .long x3), (0, .ref 1), (1, .int x), (2, .int y)]) (st2 := [.int (nI j), .int x, .int 3, .int y]) (w3 := sx_w0) rfl rfl ?_
      obtain ⟨v101, c102⟩ := cx_46 (xs := some ys) (d := 4) (w := sx_w0) x (nI j)
      refine sx_RP.cu (as := [.int x, .int (nI j)]) (rest2 := [.int 3, .int y]) (st3 := [.int v101, .int 3, .int y]) rfl rfl rfl rfl rfl (c102) rfl ?_
      refine sx_RP.step (pc2 := 21) (ls2 := [(5, .int (nI j)), (6, .int x6), (3, .long x3), (0, .ref 1), (1, .int x), (2, .int y)]) (st2 := [.int (3 * v101), .int y]) (w3 := sx_w0) rfl rfl ?_
      refine sx_RP.step (pc2 := 22) (ls2 := [(5, .int (nI j)), (6, .int x6), (3, .long x3), (0, .ref 1), (1, .int x), (2, .int y)]) (st2 := [.int (y - (3 * v101))]) (w3 := sx_w0) rfl rfl ?_
      refine sx_RP.step (pc2 := 24) (ls2 := [(6, .int (y - (3 * v101))), (5, .int (nI j)), (3, .long x3), (0, .ref 1), (1, .int x), (2, .int y)]) (st2 := []) (w3 := sx_w0) rfl rfl ?_
      refine sx_RP.step (pc2 := 26) (ls2 := [(6, .int (y - (3 * v101))), (5, .int (nI j)), (3, .long x3), (0, .ref 1), (1, .int x), (2, .int y)]) (st2 := [.int (y - (3 * v101))]) (w3 := sx_w0) rfl rfl ?_
      refine sx_RP.step (pc2 := 27) (ls2 := [(6, .int (y - (3 * v101))), (5, .int (nI j)), (3, .long x3), (0, .ref 1), (1, .int x), (2, .int y)]) (st2 := [.ref 1, .int (y - (3 * v101))]) (w3 := sx_w0) rfl rfl ?_
      refine sx_RP.step (pc2 := 30) (ls2 := [(6, .int (y - (3 * v101))), (5, .int (nI j)), (3, .long x3), (0, .ref 1), (1, .int x), (2, .int y)]) (st2 := [.ref 2, .int (y - (3 * v101))]) (w3 := sx_w0) rfl rfl ?_
      refine sx_RP.step (pc2 := 32) (ls2 := [(6, .int (y - (3 * v101))), (5, .int (nI j)), (3, .long x3), (0, .ref 1), (1, .int x), (2, .int y)]) (st2 := [.int (nI j), .ref 2, .int (y - (3 * v101))]) (w3 := sx_w0) rfl rfl ?_
      refine sx_RP.iald (l := List.replicate 48 0) (v := 0) rfl rfl (sx_in_nI (n := 48) hlt (by decide)) sx_rep0 (pc2 := 33) rfl ?_
      refine sx_RP.step (pc2 := 34) (ls2 := [(6, .int (y - (3 * v101))), (5, .int (nI j)), (3, .long x3), (0, .ref 1), (1, .int x), (2, .int y)]) (st2 := [.int 2, .int 0, .int (y - (3 * v101))]) (w3 := sx_w0) rfl rfl ?_
      refine sx_RP.step (pc2 := 41) (ls2 := [(6, .int (y - (3 * v101))), (5, .int (nI j)), (3, .long x3), (0, .ref 1), (1, .int x), (2, .int y)]) (st2 := [.int (y - (3 * v101))]) (w3 := sx_w0) rfl rfl ?_
      refine sx_RP.step (pc2 := 42) (ls2 := [(6, .int (y - (3 * v101))), (5, .int (nI j)), (3, .long x3), (0, .ref 1), (1, .int x), (2, .int y)]) (st2 := [.int 0, .int (y - (3 * v101))]) (w3 := sx_w0) rfl rfl ?_
      refine sx_RP.br (p1 := 52) (l1 := [(6, .int (y - (3 * v101))), (5, .int (nI j)), (3, .long x3), (0, .ref 1), (1, .int x), (2, .int y)]) (s1 := []) (v1 := sx_w0) (p2 := 45) (l2 := [(6, .int (y - (3 * v101))), (5, .int (nI j)), (3, .long x3), (0, .ref 1), (1, .int x), (2, .int y)]) (s2 := []) (v2 := sx_w0) rfl rfl (fun q103 => ?_) (fun q103 => ?_)
      · refine sx_RP.step (pc2 := 55) (ls2 := [(5, .int ((nI j) + 1)), (6, .int (y - (3 * v101))), (3, .long x3), (0, .ref 1), (1, .int x), (2, .int y)]) (st2 := []) (w3 := sx_w0) rfl rfl ?_
        refine sx_RP.step (pc2 := 5) (ls2 := [(5, .int ((nI j) + 1)), (6, .int (y - (3 * v101))), (3, .long x3), (0, .ref 1), (1, .int x), (2, .int y)]) (st2 := []) (w3 := sx_w0) rfl rfl ?_
        rw [nI_1 j]
        exact IH.2.1 _ _
      · refine sx_RP.step (pc2 := 46) (ls2 := [(6, .int (y - (3 * v101))), (5, .int (nI j)), (3, .long x3), (0, .ref 1), (1, .int x), (2, .int y)]) (st2 := [.long x3]) (w3 := sx_w0) rfl rfl ?_
        refine sx_RP.step (pc2 := 47) (ls2 := [(6, .int (y - (3 * v101))), (5, .int (nI j)), (3, .long x3), (0, .ref 1), (1, .int x), (2, .int y)]) (st2 := [.long 1, .long x3]) (w3 := sx_w0) rfl rfl ?_
        refine sx_RP.step (pc2 := 49) (ls2 := [(6, .int (y - (3 * v101))), (5, .int (nI j)), (3, .long x3), (0, .ref 1), (1, .int x), (2, .int y)]) (st2 := [.int (nI j), .long 1, .long x3]) (w3 := sx_w0) rfl rfl ?_
        refine sx_RP.step (pc2 := 50) (ls2 := [(6, .int (y - (3 * v101))), (5, .int (nI j)), (3, .long x3), (0, .ref 1), (1, .int x), (2, .int y)]) (st2 := [.long (1 <<< ((nI j).toInt64 &&& 63)), .long x3]) (w3 := sx_w0) rfl rfl ?_
        refine sx_RP.step (pc2 := 51) (ls2 := [(6, .int (y - (3 * v101))), (5, .int (nI j)), (3, .long x3), (0, .ref 1), (1, .int x), (2, .int y)]) (st2 := [.long (x3 ||| (1 <<< ((nI j).toInt64 &&& 63)))]) (w3 := sx_w0) rfl rfl ?_
        refine sx_RP.step (pc2 := 52) (ls2 := [(3, .long (x3 ||| (1 <<< ((nI j).toInt64 &&& 63)))), (6, .int (y - (3 * v101))), (5, .int (nI j)), (0, .ref 1), (1, .int x), (2, .int y)]) (st2 := []) (w3 := sx_w0) rfl rfl ?_
        refine sx_RP.step (pc2 := 55) (ls2 := [(5, .int ((nI j) + 1)), (3, .long (x3 ||| (1 <<< ((nI j).toInt64 &&& 63)))), (6, .int (y - (3 * v101))), (0, .ref 1), (1, .int x), (2, .int y)]) (st2 := []) (w3 := sx_w0) rfl rfl ?_
        refine sx_RP.step (pc2 := 5) (ls2 := [(5, .int ((nI j) + 1)), (3, .long (x3 ||| (1 <<< ((nI j).toInt64 &&& 63)))), (6, .int (y - (3 * v101))), (0, .ref 1), (1, .int x), (2, .int y)]) (st2 := []) (w3 := sx_w0) rfl rfl ?_
        rw [nI_1 j]
        exact IH.2.2 _ _
    · intro x3 x6
      refine sx_RP.step (pc2 := 7) (ls2 := [(5, .int (nI j)), (3, .long x3), (6, .int x6), (0, .ref 1), (1, .int x), (2, .int y)]) (st2 := [.int (nI j)]) (w3 := sx_w0) rfl rfl ?_
      refine sx_RP.step (pc2 := 9) (ls2 := [(5, .int (nI j)), (3, .long x3), (6, .int x6), (0, .ref 1), (1, .int x), (2, .int y)]) (st2 := [.int 48, .int (nI j)]) (w3 := sx_w0) rfl rfl ?_
      refine sx_RP.br (p2 := 12) (l2 := [(5, .int (nI j)), (3, .long x3), (6, .int x6), (0, .ref 1), (1, .int x), (2, .int y)]) (s2 := []) (v2 := sx_w0) rfl rfl (fun q => absurd (of_decide_eq_true q) (nI_ge (b := 48) hlt (by omega))) (fun _ => ?_)
      refine sx_RP.step (pc2 := 13) (ls2 := [(5, .int (nI j)), (3, .long x3), (6, .int x6), (0, .ref 1), (1, .int x), (2, .int y)]) (st2 := [.int y]) (w3 := sx_w0) rfl rfl ?_
      refine sx_RP.step (pc2 := 14) (ls2 := [(5, .int (nI j)), (3, .long x3), (6, .int x6), (0, .ref 1), (1, .int x), (2, .int y)]) (st2 := [.int 3, .int y]) (w3 := sx_w0) rfl rfl ?_
      refine sx_RP.step (pc2 := 15) (ls2 := [(5, .int (nI j)), (3, .long x3), (6, .int x6), (0, .ref 1), (1, .int x), (2, .int y)]) (st2 := [.int x, .int 3, .int y]) (w3 := sx_w0) rfl rfl ?_
      refine sx_RP.step (pc2 := 17) (ls2 := [(5, .int (nI j)), (3, .long x3), (6, .int x6), (0, .ref 1), (1, .int x), (2, .int y)]) (st2 := [.int (nI j), .int x, .int 3, .int y]) (w3 := sx_w0) rfl rfl ?_
      obtain ⟨v101, c102⟩ := cx_46 (xs := some ys) (d := 4) (w := sx_w0) x (nI j)
      refine sx_RP.cu (as := [.int x, .int (nI j)]) (rest2 := [.int 3, .int y]) (st3 := [.int v101, .int 3, .int y]) rfl rfl rfl rfl rfl (c102) rfl ?_
      refine sx_RP.step (pc2 := 21) (ls2 := [(5, .int (nI j)), (3, .long x3), (6, .int x6), (0, .ref 1), (1, .int x), (2, .int y)]) (st2 := [.int (3 * v101), .int y]) (w3 := sx_w0) rfl rfl ?_
      refine sx_RP.step (pc2 := 22) (ls2 := [(5, .int (nI j)), (3, .long x3), (6, .int x6), (0, .ref 1), (1, .int x), (2, .int y)]) (st2 := [.int (y - (3 * v101))]) (w3 := sx_w0) rfl rfl ?_
      refine sx_RP.step (pc2 := 24) (ls2 := [(6, .int (y - (3 * v101))), (5, .int (nI j)), (3, .long x3), (0, .ref 1), (1, .int x), (2, .int y)]) (st2 := []) (w3 := sx_w0) rfl rfl ?_
      refine sx_RP.step (pc2 := 26) (ls2 := [(6, .int (y - (3 * v101))), (5, .int (nI j)), (3, .long x3), (0, .ref 1), (1, .int x), (2, .int y)]) (st2 := [.int (y - (3 * v101))]) (w3 := sx_w0) rfl rfl ?_
      refine sx_RP.step (pc2 := 27) (ls2 := [(6, .int (y - (3 * v101))), (5, .int (nI j)), (3, .long x3), (0, .ref 1), (1, .int x), (2, .int y)]) (st2 := [.ref 1, .int (y - (3 * v101))]) (w3 := sx_w0) rfl rfl ?_
      refine sx_RP.step (pc2 := 30) (ls2 := [(6, .int (y - (3 * v101))), (5, .int (nI j)), (3, .long x3), (0, .ref 1), (1, .int x), (2, .int y)]) (st2 := [.ref 2, .int (y - (3 * v101))]) (w3 := sx_w0) rfl rfl ?_
      refine sx_RP.step (pc2 := 32) (ls2 := [(6, .int (y - (3 * v101))), (5, .int (nI j)), (3, .long x3), (0, .ref 1), (1, .int x), (2, .int y)]) (st2 := [.int (nI j), .ref 2, .int (y - (3 * v101))]) (w3 := sx_w0) rfl rfl ?_
      refine sx_RP.iald (l := List.replicate 48 0) (v := 0) rfl rfl (sx_in_nI (n := 48) hlt (by decide)) sx_rep0 (pc2 := 33) rfl ?_
      refine sx_RP.step (pc2 := 34) (ls2 := [(6, .int (y - (3 * v101))), (5, .int (nI j)), (3, .long x3), (0, .ref 1), (1, .int x), (2, .int y)]) (st2 := [.int 2, .int 0, .int (y - (3 * v101))]) (w3 := sx_w0) rfl rfl ?_
      refine sx_RP.step (pc2 := 41) (ls2 := [(6, .int (y - (3 * v101))), (5, .int (nI j)), (3, .long x3), (0, .ref 1), (1, .int x), (2, .int y)]) (st2 := [.int (y - (3 * v101))]) (w3 := sx_w0) rfl rfl ?_
      refine sx_RP.step (pc2 := 42) (ls2 := [(6, .int (y - (3 * v101))), (5, .int (nI j)), (3, .long x3), (0, .ref 1), (1, .int x), (2, .int y)]) (st2 := [.int 0, .int (y - (3 * v101))]) (w3 := sx_w0) rfl rfl ?_
      refine sx_RP.br (p1 := 52) (l1 := [(6, .int (y - (3 * v101))), (5, .int (nI j)), (3, .long x3), (0, .ref 1), (1, .int x), (2, .int y)]) (s1 := []) (v1 := sx_w0) (p2 := 45) (l2 := [(6, .int (y - (3 * v101))), (5, .int (nI j)), (3, .long x3), (0, .ref 1), (1, .int x), (2, .int y)]) (s2 := []) (v2 := sx_w0) rfl rfl (fun q103 => ?_) (fun q103 => ?_)
      · refine sx_RP.step (pc2 := 55) (ls2 := [(5, .int ((nI j) + 1)), (6, .int (y - (3 * v101))), (3, .long x3), (0, .ref 1), (1, .int x), (2, .int y)]) (st2 := []) (w3 := sx_w0) rfl rfl ?_
        refine sx_RP.step (pc2 := 5) (ls2 := [(5, .int ((nI j) + 1)), (6, .int (y - (3 * v101))), (3, .long x3), (0, .ref 1), (1, .int x), (2, .int y)]) (st2 := []) (w3 := sx_w0) rfl rfl ?_
        rw [nI_1 j]
        exact IH.2.1 _ _
      · refine sx_RP.step (pc2 := 46) (ls2 := [(6, .int (y - (3 * v101))), (5, .int (nI j)), (3, .long x3), (0, .ref 1), (1, .int x), (2, .int y)]) (st2 := [.long x3]) (w3 := sx_w0) rfl rfl ?_
        refine sx_RP.step (pc2 := 47) (ls2 := [(6, .int (y - (3 * v101))), (5, .int (nI j)), (3, .long x3), (0, .ref 1), (1, .int x), (2, .int y)]) (st2 := [.long 1, .long x3]) (w3 := sx_w0) rfl rfl ?_
        refine sx_RP.step (pc2 := 49) (ls2 := [(6, .int (y - (3 * v101))), (5, .int (nI j)), (3, .long x3), (0, .ref 1), (1, .int x), (2, .int y)]) (st2 := [.int (nI j), .long 1, .long x3]) (w3 := sx_w0) rfl rfl ?_
        refine sx_RP.step (pc2 := 50) (ls2 := [(6, .int (y - (3 * v101))), (5, .int (nI j)), (3, .long x3), (0, .ref 1), (1, .int x), (2, .int y)]) (st2 := [.long (1 <<< ((nI j).toInt64 &&& 63)), .long x3]) (w3 := sx_w0) rfl rfl ?_
        refine sx_RP.step (pc2 := 51) (ls2 := [(6, .int (y - (3 * v101))), (5, .int (nI j)), (3, .long x3), (0, .ref 1), (1, .int x), (2, .int y)]) (st2 := [.long (x3 ||| (1 <<< ((nI j).toInt64 &&& 63)))]) (w3 := sx_w0) rfl rfl ?_
        refine sx_RP.step (pc2 := 52) (ls2 := [(3, .long (x3 ||| (1 <<< ((nI j).toInt64 &&& 63)))), (6, .int (y - (3 * v101))), (5, .int (nI j)), (0, .ref 1), (1, .int x), (2, .int y)]) (st2 := []) (w3 := sx_w0) rfl rfl ?_
        refine sx_RP.step (pc2 := 55) (ls2 := [(5, .int ((nI j) + 1)), (3, .long (x3 ||| (1 <<< ((nI j).toInt64 &&& 63)))), (6, .int (y - (3 * v101))), (0, .ref 1), (1, .int x), (2, .int y)]) (st2 := []) (w3 := sx_w0) rfl rfl ?_
        refine sx_RP.step (pc2 := 5) (ls2 := [(5, .int ((nI j) + 1)), (3, .long (x3 ||| (1 <<< ((nI j).toInt64 &&& 63)))), (6, .int (y - (3 * v101))), (0, .ref 1), (1, .int x), (2, .int y)]) (st2 := []) (w3 := sx_w0) rfl rfl ?_
        rw [nI_1 j]
        exact IH.2.2 _ _
set_option maxRecDepth 20000 in
set_option maxHeartbeats 4000000 in
theorem cp_77 (ys : List Int32) (x y : Int32) : ∃ v : Int64, sx_RU (some ys) 6 77 0 (lv_args 0 [.ref 1, .int x, .int y]) [] sx_w0 (some (.long v)) sx_w0 := by
  have h : sx_RP (some ys) 6 77 0 (lv_args 0 [.ref 1, .int x, .int y]) [] sx_w0 (fun r w2 => (∃ v : Int64, r = some (.long v)) ∧ w2 = sx_w0) := by
    refine sx_RP.step (pc2 := 1) (ls2 := [(0, .ref 1), (1, .int x), (2, .int y)]) (st2 := [.long 0]) (w3 := sx_w0) rfl rfl ?_
    refine sx_RP.step (pc2 := 2) (ls2 := [(3, .long 0), (0, .ref 1), (1, .int x), (2, .int y)]) (st2 := []) (w3 := sx_w0) rfl rfl ?_
    refine sx_RP.step (pc2 := 3) (ls2 := [(3, .long 0), (0, .ref 1), (1, .int x), (2, .int y)]) (st2 := [.int 0]) (w3 := sx_w0) rfl rfl ?_
    refine sx_RP.step (pc2 := 5) (ls2 := [(5, .int 0), (3, .long 0), (0, .ref 1), (1, .int x), (2, .int y)]) (st2 := []) (w3 := sx_w0) rfl rfl ?_
    exact (cp_77L ys x y 48 0 (by omega)).1 _
  obtain ⟨r, w2, h1, ⟨v, rfl⟩, rfl⟩ := h
  exact ⟨v, h1⟩
theorem e_78 : sx_is (sx_run false none 80 6 78 0 (lv_args 0 [.long 0]) [] sx_w0) (some (.int 0)) sx_w0 = true := by decide +kernel
theorem cl_78 (ys : List Int32) : sx_RU (some ys) 6 78 0 (lv_args 0 [.long 0]) [] sx_w0 (some (.int 0)) sx_w0 := sx_RU.eval (sx_is_of e_78)
set_option maxRecDepth 20000 in
set_option maxHeartbeats 4000000 in
theorem cp_198L (ys : List Int32) (x y : Int32) : ∀ k j : Nat, j + k = 48 → (sx_RP (some ys) 6 198 5 [(4, .int (nI j)), (3, .int 0), (0, .ref 111), (1, .int x), (2, .int y)] [] sx_w0 (fun r w => r = some (.int 0) ∧ w = sx_w0))
  | 0, j, h => by
    rw [show j = 48 by omega]
    refine sx_RP.step (pc2 := 7) (ls2 := [(4, .int (nI 48)), (3, .int 0), (0, .ref 111), (1, .int x), (2, .int y)]) (st2 := [.int (nI 48)]) (w3 := sx_w0) rfl rfl ?_
    refine sx_RP.step (pc2 := 9) (ls2 := [(4, .int (nI 48)), (3, .int 0), (0, .ref 111), (1, .int x), (2, .int y)]) (st2 := [.int 48, .int (nI 48)]) (w3 := sx_w0) rfl rfl ?_
    refine sx_RP.step (pc2 := 51) (ls2 := [(4, .int (nI 48)), (3, .int 0), (0, .ref 111), (1, .int x), (2, .int y)]) (st2 := []) (w3 := sx_w0) rfl rfl ?_
    refine sx_RP.step (pc2 := 52) (ls2 := [(4, .int (nI 48)), (3, .int 0), (0, .ref 111), (1, .int x), (2, .int y)]) (st2 := [.int 0]) (w3 := sx_w0) rfl rfl ?_
    refine sx_RP.ret rfl rfl ?_
    exact ⟨rfl, rfl⟩
  | k + 1, j, h => by
    have hlt : j < 48 := by omega
    have IH := cp_198L ys x y k (j + 1) (by omega)
    refine sx_RP.step (pc2 := 7) (ls2 := [(4, .int (nI j)), (3, .int 0), (0, .ref 111), (1, .int x), (2, .int y)]) (st2 := [.int (nI j)]) (w3 := sx_w0) rfl rfl ?_
    refine sx_RP.step (pc2 := 9) (ls2 := [(4, .int (nI j)), (3, .int 0), (0, .ref 111), (1, .int x), (2, .int y)]) (st2 := [.int 48, .int (nI j)]) (w3 := sx_w0) rfl rfl ?_
    refine sx_RP.br (p2 := 12) (l2 := [(4, .int (nI j)), (3, .int 0), (0, .ref 111), (1, .int x), (2, .int y)]) (s2 := []) (v2 := sx_w0) rfl rfl (fun q => absurd (of_decide_eq_true q) (nI_ge (b := 48) hlt (by omega))) (fun _ => ?_)
    refine sx_RP.step (pc2 := 13) (ls2 := [(4, .int (nI j)), (3, .int 0), (0, .ref 111), (1, .int x), (2, .int y)]) (st2 := [.int 0]) (w3 := sx_w0) rfl rfl ?_
    refine sx_RP.step (pc2 := 14) (ls2 := [(4, .int (nI j)), (3, .int 0), (0, .ref 111), (1, .int x), (2, .int y)]) (st2 := [.ref 111, .int 0]) (w3 := sx_w0) rfl rfl ?_
    refine sx_RP.step (pc2 := 17) (ls2 := [(4, .int (nI j)), (3, .int 0), (0, .ref 111), (1, .int x), (2, .int y)]) (st2 := [.ref 112, .int 0]) (w3 := sx_w0) rfl rfl ?_
    refine sx_RP.step (pc2 := 19) (ls2 := [(4, .int (nI j)), (3, .int 0), (0, .ref 111), (1, .int x), (2, .int y)]) (st2 := [.int 55, .ref 112, .int 0]) (w3 := sx_w0) rfl rfl ?_
    refine sx_RP.step (pc2 := 21) (ls2 := [(4, .int (nI j)), (3, .int 0), (0, .ref 111), (1, .int x), (2, .int y)]) (st2 := [.int (nI j), .int 55, .ref 112, .int 0]) (w3 := sx_w0) rfl rfl ?_
    refine sx_RP.step (pc2 := 22) (ls2 := [(4, .int (nI j)), (3, .int 0), (0, .ref 111), (1, .int x), (2, .int y)]) (st2 := [.int (55 + (nI j)), .ref 112, .int 0]) (w3 := sx_w0) rfl rfl ?_
    refine sx_RP.iald (l := sx_s0) (v := 0) rfl rfl (sx_s55 j hlt).1 (sx_s55 j hlt).2.1 (pc2 := 23) rfl ?_
    refine sx_RP.step (pc2 := 24) (ls2 := [(4, .int (nI j)), (3, .int 0), (0, .ref 111), (1, .int x), (2, .int y)]) (st2 := [.int 1, .int 0, .int 0]) (w3 := sx_w0) rfl rfl ?_
    refine sx_RP.step (pc2 := 42) (ls2 := [(4, .int (nI j)), (3, .int 0), (0, .ref 111), (1, .int x), (2, .int y)]) (st2 := [.int 0]) (w3 := sx_w0) rfl rfl ?_
    refine sx_RP.step (pc2 := 43) (ls2 := [(4, .int (nI j)), (3, .int 0), (0, .ref 111), (1, .int x), (2, .int y)]) (st2 := [.int 0, .int 0]) (w3 := sx_w0) rfl rfl ?_
    refine sx_RP.step (pc2 := 44) (ls2 := [(4, .int (nI j)), (3, .int 0), (0, .ref 111), (1, .int x), (2, .int y)]) (st2 := [.int 0]) (w3 := sx_w0) rfl rfl ?_
    refine sx_RP.step (pc2 := 45) (ls2 := [(3, .int 0), (4, .int (nI j)), (0, .ref 111), (1, .int x), (2, .int y)]) (st2 := []) (w3 := sx_w0) rfl rfl ?_
    refine sx_RP.step (pc2 := 48) (ls2 := [(4, .int ((nI j) + 1)), (3, .int 0), (0, .ref 111), (1, .int x), (2, .int y)]) (st2 := []) (w3 := sx_w0) rfl rfl ?_
    refine sx_RP.step (pc2 := 5) (ls2 := [(4, .int ((nI j) + 1)), (3, .int 0), (0, .ref 111), (1, .int x), (2, .int y)]) (st2 := []) (w3 := sx_w0) rfl rfl ?_
    rw [nI_1 j]
    exact IH
set_option maxRecDepth 20000 in
set_option maxHeartbeats 4000000 in
theorem cp_198 (ys : List Int32) (x y : Int32) : sx_RU (some ys) 6 198 0 (lv_args 0 [.ref 111, .int x, .int y]) [] sx_w0 (some (.int 0)) sx_w0 := by
  have h : sx_RP (some ys) 6 198 0 (lv_args 0 [.ref 111, .int x, .int y]) [] sx_w0 (fun r w2 => r = some (.int 0) ∧ w2 = sx_w0) := by
    refine sx_RP.step (pc2 := 1) (ls2 := [(0, .ref 111), (1, .int x), (2, .int y)]) (st2 := [.int 0]) (w3 := sx_w0) rfl rfl ?_
    refine sx_RP.step (pc2 := 2) (ls2 := [(3, .int 0), (0, .ref 111), (1, .int x), (2, .int y)]) (st2 := []) (w3 := sx_w0) rfl rfl ?_
    refine sx_RP.step (pc2 := 3) (ls2 := [(3, .int 0), (0, .ref 111), (1, .int x), (2, .int y)]) (st2 := [.int 0]) (w3 := sx_w0) rfl rfl ?_
    refine sx_RP.step (pc2 := 5) (ls2 := [(4, .int 0), (3, .int 0), (0, .ref 111), (1, .int x), (2, .int y)]) (st2 := []) (w3 := sx_w0) rfl rfl ?_
    exact (cp_198L ys x y 48 0 (by omega))
  obtain ⟨r, w2, h1, rfl, rfl⟩ := h
  exact h1
set_option maxRecDepth 20000 in
set_option maxHeartbeats 4000000 in
theorem cp_198Ln (ys : List Int32) (x y : Int32) : ∀ k j : Nat, j + k = 48 → (sx_RP (some ys) 6 198 5 [(4, .int (nI j)), (3, .int 0), (0, .ref 111), (1, .int x), (2, .int y)] [] sx_vN (fun r w => r = some (.int 0) ∧ w = sx_vN))
  | 0, j, h => by
    rw [show j = 48 by omega]
    refine sx_RP.step (pc2 := 7) (ls2 := [(4, .int (nI 48)), (3, .int 0), (0, .ref 111), (1, .int x), (2, .int y)]) (st2 := [.int (nI 48)]) (w3 := sx_vN) rfl rfl ?_
    refine sx_RP.step (pc2 := 9) (ls2 := [(4, .int (nI 48)), (3, .int 0), (0, .ref 111), (1, .int x), (2, .int y)]) (st2 := [.int 48, .int (nI 48)]) (w3 := sx_vN) rfl rfl ?_
    refine sx_RP.step (pc2 := 51) (ls2 := [(4, .int (nI 48)), (3, .int 0), (0, .ref 111), (1, .int x), (2, .int y)]) (st2 := []) (w3 := sx_vN) rfl rfl ?_
    refine sx_RP.step (pc2 := 52) (ls2 := [(4, .int (nI 48)), (3, .int 0), (0, .ref 111), (1, .int x), (2, .int y)]) (st2 := [.int 0]) (w3 := sx_vN) rfl rfl ?_
    refine sx_RP.ret rfl rfl ?_
    exact ⟨rfl, rfl⟩
  | k + 1, j, h => by
    have hlt : j < 48 := by omega
    have IH := cp_198Ln ys x y k (j + 1) (by omega)
    refine sx_RP.step (pc2 := 7) (ls2 := [(4, .int (nI j)), (3, .int 0), (0, .ref 111), (1, .int x), (2, .int y)]) (st2 := [.int (nI j)]) (w3 := sx_vN) rfl rfl ?_
    refine sx_RP.step (pc2 := 9) (ls2 := [(4, .int (nI j)), (3, .int 0), (0, .ref 111), (1, .int x), (2, .int y)]) (st2 := [.int 48, .int (nI j)]) (w3 := sx_vN) rfl rfl ?_
    refine sx_RP.br (p2 := 12) (l2 := [(4, .int (nI j)), (3, .int 0), (0, .ref 111), (1, .int x), (2, .int y)]) (s2 := []) (v2 := sx_vN) rfl rfl (fun q => absurd (of_decide_eq_true q) (nI_ge (b := 48) hlt (by omega))) (fun _ => ?_)
    refine sx_RP.step (pc2 := 13) (ls2 := [(4, .int (nI j)), (3, .int 0), (0, .ref 111), (1, .int x), (2, .int y)]) (st2 := [.int 0]) (w3 := sx_vN) rfl rfl ?_
    refine sx_RP.step (pc2 := 14) (ls2 := [(4, .int (nI j)), (3, .int 0), (0, .ref 111), (1, .int x), (2, .int y)]) (st2 := [.ref 111, .int 0]) (w3 := sx_vN) rfl rfl ?_
    refine sx_RP.step (pc2 := 17) (ls2 := [(4, .int (nI j)), (3, .int 0), (0, .ref 111), (1, .int x), (2, .int y)]) (st2 := [.ref 112, .int 0]) (w3 := sx_vN) rfl rfl ?_
    refine sx_RP.step (pc2 := 19) (ls2 := [(4, .int (nI j)), (3, .int 0), (0, .ref 111), (1, .int x), (2, .int y)]) (st2 := [.int 55, .ref 112, .int 0]) (w3 := sx_vN) rfl rfl ?_
    refine sx_RP.step (pc2 := 21) (ls2 := [(4, .int (nI j)), (3, .int 0), (0, .ref 111), (1, .int x), (2, .int y)]) (st2 := [.int (nI j), .int 55, .ref 112, .int 0]) (w3 := sx_vN) rfl rfl ?_
    refine sx_RP.step (pc2 := 22) (ls2 := [(4, .int (nI j)), (3, .int 0), (0, .ref 111), (1, .int x), (2, .int y)]) (st2 := [.int (55 + (nI j)), .ref 112, .int 0]) (w3 := sx_vN) rfl rfl ?_
    refine sx_RP.iald (l := sx_s0) (v := 0) rfl rfl (sx_s55 j hlt).1 (sx_s55 j hlt).2.1 (pc2 := 23) rfl ?_
    refine sx_RP.step (pc2 := 24) (ls2 := [(4, .int (nI j)), (3, .int 0), (0, .ref 111), (1, .int x), (2, .int y)]) (st2 := [.int 1, .int 0, .int 0]) (w3 := sx_vN) rfl rfl ?_
    refine sx_RP.step (pc2 := 42) (ls2 := [(4, .int (nI j)), (3, .int 0), (0, .ref 111), (1, .int x), (2, .int y)]) (st2 := [.int 0]) (w3 := sx_vN) rfl rfl ?_
    refine sx_RP.step (pc2 := 43) (ls2 := [(4, .int (nI j)), (3, .int 0), (0, .ref 111), (1, .int x), (2, .int y)]) (st2 := [.int 0, .int 0]) (w3 := sx_vN) rfl rfl ?_
    refine sx_RP.step (pc2 := 44) (ls2 := [(4, .int (nI j)), (3, .int 0), (0, .ref 111), (1, .int x), (2, .int y)]) (st2 := [.int 0]) (w3 := sx_vN) rfl rfl ?_
    refine sx_RP.step (pc2 := 45) (ls2 := [(3, .int 0), (4, .int (nI j)), (0, .ref 111), (1, .int x), (2, .int y)]) (st2 := []) (w3 := sx_vN) rfl rfl ?_
    refine sx_RP.step (pc2 := 48) (ls2 := [(4, .int ((nI j) + 1)), (3, .int 0), (0, .ref 111), (1, .int x), (2, .int y)]) (st2 := []) (w3 := sx_vN) rfl rfl ?_
    refine sx_RP.step (pc2 := 5) (ls2 := [(4, .int ((nI j) + 1)), (3, .int 0), (0, .ref 111), (1, .int x), (2, .int y)]) (st2 := []) (w3 := sx_vN) rfl rfl ?_
    rw [nI_1 j]
    exact IH
set_option maxRecDepth 20000 in
set_option maxHeartbeats 4000000 in
theorem cp_198n (ys : List Int32) (x y : Int32) : sx_RU (some ys) 6 198 0 (lv_args 0 [.ref 111, .int x, .int y]) [] sx_vN (some (.int 0)) sx_vN := by
  have h : sx_RP (some ys) 6 198 0 (lv_args 0 [.ref 111, .int x, .int y]) [] sx_vN (fun r w2 => r = some (.int 0) ∧ w2 = sx_vN) := by
    refine sx_RP.step (pc2 := 1) (ls2 := [(0, .ref 111), (1, .int x), (2, .int y)]) (st2 := [.int 0]) (w3 := sx_vN) rfl rfl ?_
    refine sx_RP.step (pc2 := 2) (ls2 := [(3, .int 0), (0, .ref 111), (1, .int x), (2, .int y)]) (st2 := []) (w3 := sx_vN) rfl rfl ?_
    refine sx_RP.step (pc2 := 3) (ls2 := [(3, .int 0), (0, .ref 111), (1, .int x), (2, .int y)]) (st2 := [.int 0]) (w3 := sx_vN) rfl rfl ?_
    refine sx_RP.step (pc2 := 5) (ls2 := [(4, .int 0), (3, .int 0), (0, .ref 111), (1, .int x), (2, .int y)]) (st2 := []) (w3 := sx_vN) rfl rfl ?_
    exact (cp_198Ln ys x y 48 0 (by omega))
  obtain ⟨r, w2, h1, rfl, rfl⟩ := h
  exact h1
set_option maxRecDepth 20000 in
set_option maxHeartbeats 4000000 in
theorem k_falls_in (ys : List Int32) (a1 a2 : Int32) (p0 : 0 ≤ a1 ∧ a1 ≤ 47) (p1 : 1 ≤ a2 ∧ a2 ≤ 30) : sx_twoI ys 76 196 [.int a1, .int a2] := by
  refine sx_twoI.of ?_
  refine sx_RP.step (pc2 := 1) (ls2 := [(0, .ref 0), (1, .int a1), (2, .int a2)]) (st2 := [.int a1]) (w3 := sx_w0) rfl rfl ?_
  refine sx_RP.cu (as := [.int a1]) (rest2 := []) (st3 := [.int 1]) rfl rfl rfl rfl rfl (cx_7p p0) rfl ?_
  refine sx_RP.step (pc2 := 7) (ls2 := [(0, .ref 0), (1, .int a1), (2, .int a2)]) (st2 := []) (w3 := sx_w0) rfl rfl ?_
  refine sx_RP.step (pc2 := 8) (ls2 := [(0, .ref 0), (1, .int a1), (2, .int a2)]) (st2 := [.int a2]) (w3 := sx_w0) rfl rfl ?_
  refine sx_RP.step (pc2 := 9) (ls2 := [(0, .ref 0), (1, .int a1), (2, .int a2)]) (st2 := [.int 1, .int a2]) (w3 := sx_w0) rfl rfl ?_
  refine sx_RP.step (pc2 := 11) (ls2 := [(0, .ref 0), (1, .int a1), (2, .int a2)]) (st2 := [.int 30, .int 1, .int a2]) (w3 := sx_w0) rfl rfl ?_
  refine sx_RP.cu (as := [.int a2, .int 1, .int 30]) (rest2 := []) (st3 := [.int 1]) rfl rfl rfl rfl rfl (cx_8p p1) rfl ?_
  refine sx_RP.step (pc2 := 24) (ls2 := [(0, .ref 0), (1, .int a1), (2, .int a2)]) (st2 := []) (w3 := sx_w0) rfl rfl ?_
  refine sx_RP.step (pc2 := 25) (ls2 := [(0, .ref 0), (1, .int a1), (2, .int a2)]) (st2 := [.ref 0]) (w3 := sx_w0) rfl rfl ?_
  refine sx_RP.step (pc2 := 28) (ls2 := [(0, .ref 0), (1, .int a1), (2, .int a2)]) (st2 := [.ref 1]) (w3 := sx_w0) rfl rfl ?_
  refine sx_RP.step (pc2 := 29) (ls2 := [(0, .ref 0), (1, .int a1), (2, .int a2)]) (st2 := [.int a1, .ref 1]) (w3 := sx_w0) rfl rfl ?_
  refine sx_RP.step (pc2 := 30) (ls2 := [(0, .ref 0), (1, .int a1), (2, .int a2)]) (st2 := [.int a2, .int a1, .ref 1]) (w3 := sx_w0) rfl rfl ?_
  obtain ⟨v1, c2⟩ := cp_77 ys a1 a2
  refine sx_RP.cu (as := [.ref 1, .int a1, .int a2]) (rest2 := []) (st3 := [.long v1]) rfl rfl rfl rfl rfl (c2) rfl ?_
  refine sx_RP.step (pc2 := 34) (ls2 := [(0, .ref 0), (1, .int a1), (2, .int a2)]) (st2 := [.ref 0, .long v1]) (w3 := sx_w0) rfl rfl ?_
  refine sx_RP.step (pc2 := 37) (ls2 := [(0, .ref 0), (1, .int a1), (2, .int a2)]) (st2 := [.ref 1, .long v1]) (w3 := sx_w0) rfl rfl ?_
  refine sx_RP.step (pc2 := 40) (ls2 := [(0, .ref 0), (1, .int a1), (2, .int a2)]) (st2 := [.long 0, .long v1]) (w3 := sx_w0) rfl rfl ?_
  refine sx_RP.and0r rfl (pc2 := 41) rfl ?_
  refine sx_RP.cu (as := [.long 0]) (rest2 := []) (st3 := [.int 0]) rfl rfl rfl rfl rfl (cl_78 ys) rfl ?_
  refine sx_RP.ret rfl rfl ?_
  refine ⟨0, rfl, ⟨_, rfl⟩, ?_⟩
  refine sx_RP.step (pc2 := 1) (ls2 := [(0, .ref 111), (1, .int a1), (2, .int a2)]) (st2 := [.int a1]) (w3 := sx_w0) rfl rfl ?_
  refine sx_RP.cu (as := [.int a1]) (rest2 := []) (st3 := [.int 1]) rfl rfl rfl rfl rfl (cx_131p p0) rfl ?_
  refine sx_RP.step (pc2 := 7) (ls2 := [(0, .ref 111), (1, .int a1), (2, .int a2)]) (st2 := []) (w3 := sx_w0) rfl rfl ?_
  refine sx_RP.step (pc2 := 8) (ls2 := [(0, .ref 111), (1, .int a1), (2, .int a2)]) (st2 := [.int a2]) (w3 := sx_w0) rfl rfl ?_
  refine sx_RP.cu (as := [.int a2]) (rest2 := []) (st3 := [.int 1]) rfl rfl rfl rfl rfl (cx_197p p1) rfl ?_
  refine sx_RP.step (pc2 := 14) (ls2 := [(0, .ref 111), (1, .int a1), (2, .int a2)]) (st2 := []) (w3 := sx_w0) rfl rfl ?_
  refine sx_RP.step (pc2 := 15) (ls2 := [(0, .ref 111), (1, .int a1), (2, .int a2)]) (st2 := [.ref 111]) (w3 := sx_w0) rfl rfl ?_
  refine sx_RP.step (pc2 := 16) (ls2 := [(0, .ref 111), (1, .int a1), (2, .int a2)]) (st2 := [.int a1, .ref 111]) (w3 := sx_w0) rfl rfl ?_
  refine sx_RP.step (pc2 := 17) (ls2 := [(0, .ref 111), (1, .int a1), (2, .int a2)]) (st2 := [.int a2, .int a1, .ref 111]) (w3 := sx_w0) rfl rfl ?_
  refine sx_RP.cu (as := [.ref 111, .int a1, .int a2]) (rest2 := []) (st3 := [.int 0]) rfl rfl rfl rfl rfl (cp_198 ys a1 a2) rfl ?_
  refine sx_RP.step (pc2 := 28) (ls2 := [(0, .ref 111), (1, .int a1), (2, .int a2)]) (st2 := [.int 0]) (w3 := sx_w0) rfl rfl ?_
  refine sx_RP.ret rfl rfl ?_
  rfl
set_option maxRecDepth 20000 in
set_option maxHeartbeats 4000000 in
theorem cp_80L (ys : List Int32) : ∀ k j : Nat, j + k = 48 → (∀ (x1 : Int64), sx_RP (some ys) 6 80 77 [(4, .int (nI j)), (3, .int 0), (0, .ref 1), (1, .long x1)] [] sx_w0 (fun r w => r = some (.int 0) ∧ w = sx_w0))
  | 0, j, h => by
    rw [show j = 48 by omega]
    intro x1
    refine sx_RP.step (pc2 := 79) (ls2 := [(4, .int (nI 48)), (3, .int 0), (0, .ref 1), (1, .long x1)]) (st2 := [.int (nI 48)]) (w3 := sx_w0) rfl rfl ?_
    refine sx_RP.step (pc2 := 81) (ls2 := [(4, .int (nI 48)), (3, .int 0), (0, .ref 1), (1, .long x1)]) (st2 := [.int 48, .int (nI 48)]) (w3 := sx_w0) rfl rfl ?_
    refine sx_RP.step (pc2 := 120) (ls2 := [(4, .int (nI 48)), (3, .int 0), (0, .ref 1), (1, .long x1)]) (st2 := []) (w3 := sx_w0) rfl rfl ?_
    refine sx_RP.step (pc2 := 121) (ls2 := [(4, .int (nI 48)), (3, .int 0), (0, .ref 1), (1, .long x1)]) (st2 := [.int 0]) (w3 := sx_w0) rfl rfl ?_
    refine sx_RP.ret rfl rfl ?_
    exact ⟨rfl, rfl⟩
  | k + 1, j, h => by
    have hlt : j < 48 := by omega
    have IH := cp_80L ys k (j + 1) (by omega)
    intro x1
    refine sx_RP.step (pc2 := 79) (ls2 := [(4, .int (nI j)), (3, .int 0), (0, .ref 1), (1, .long x1)]) (st2 := [.int (nI j)]) (w3 := sx_w0) rfl rfl ?_
    refine sx_RP.step (pc2 := 81) (ls2 := [(4, .int (nI j)), (3, .int 0), (0, .ref 1), (1, .long x1)]) (st2 := [.int 48, .int (nI j)]) (w3 := sx_w0) rfl rfl ?_
    refine sx_RP.br (p2 := 84) (l2 := [(4, .int (nI j)), (3, .int 0), (0, .ref 1), (1, .long x1)]) (s2 := []) (v2 := sx_w0) rfl rfl (fun q => absurd (of_decide_eq_true q) (nI_ge (b := 48) hlt (by omega))) (fun _ => ?_)
    refine sx_RP.step (pc2 := 85) (ls2 := [(4, .int (nI j)), (3, .int 0), (0, .ref 1), (1, .long x1)]) (st2 := [.ref 1]) (w3 := sx_w0) rfl rfl ?_
    refine sx_RP.step (pc2 := 88) (ls2 := [(4, .int (nI j)), (3, .int 0), (0, .ref 1), (1, .long x1)]) (st2 := [.ref 2]) (w3 := sx_w0) rfl rfl ?_
    refine sx_RP.step (pc2 := 90) (ls2 := [(4, .int (nI j)), (3, .int 0), (0, .ref 1), (1, .long x1)]) (st2 := [.int (nI j), .ref 2]) (w3 := sx_w0) rfl rfl ?_
    refine sx_RP.iald (l := List.replicate 48 0) (v := 0) rfl rfl (sx_in_nI (n := 48) hlt (by decide)) sx_rep0 (pc2 := 91) rfl ?_
    refine sx_RP.step (pc2 := 92) (ls2 := [(4, .int (nI j)), (3, .int 0), (0, .ref 1), (1, .long x1)]) (st2 := [.int 2, .int 0]) (w3 := sx_w0) rfl rfl ?_
    refine sx_RP.step (pc2 := 114) (ls2 := [(4, .int (nI j)), (3, .int 0), (0, .ref 1), (1, .long x1)]) (st2 := []) (w3 := sx_w0) rfl rfl ?_
    refine sx_RP.step (pc2 := 117) (ls2 := [(4, .int ((nI j) + 1)), (3, .int 0), (0, .ref 1), (1, .long x1)]) (st2 := []) (w3 := sx_w0) rfl rfl ?_
    refine sx_RP.step (pc2 := 77) (ls2 := [(4, .int ((nI j) + 1)), (3, .int 0), (0, .ref 1), (1, .long x1)]) (st2 := []) (w3 := sx_w0) rfl rfl ?_
    rw [nI_1 j]
    exact IH _
set_option maxRecDepth 20000 in
set_option maxHeartbeats 4000000 in
theorem cp_80 (ys : List Int32) (x : Int64) : sx_RU (some ys) 6 80 0 (lv_args 0 [.ref 1, .long x]) [] sx_w0 (some (.int 0)) sx_w0 := by
  have h : sx_RP (some ys) 6 80 0 (lv_args 0 [.ref 1, .long x]) [] sx_w0 (fun r w2 => r = some (.int 0) ∧ w2 = sx_w0) := by
    refine sx_RP.step (pc2 := 1) (ls2 := [(0, .ref 1), (1, .long x)]) (st2 := [.ref 1]) (w3 := sx_w0) rfl rfl ?_
    refine sx_RP.step (pc2 := 2) (ls2 := [(0, .ref 1), (1, .long x)]) (st2 := [.ref 1, .ref 1]) (w3 := sx_w0) rfl rfl ?_
    refine sx_RP.step (pc2 := 5) (ls2 := [(0, .ref 1), (1, .long x)]) (st2 := [.long 0, .ref 1]) (w3 := sx_w0) rfl rfl ?_
    refine sx_RP.step (pc2 := 6) (ls2 := [(0, .ref 1), (1, .long x)]) (st2 := [.long x, .long 0, .ref 1]) (w3 := sx_w0) rfl rfl ?_
    refine sx_RP.step (pc2 := 9) (ls2 := [(0, .ref 1), (1, .long x)]) (st2 := [.long (-1), .long x, .long 0, .ref 1]) (w3 := sx_w0) rfl rfl ?_
    refine sx_RP.step (pc2 := 10) (ls2 := [(0, .ref 1), (1, .long x)]) (st2 := [.long (x ^^^ (-1)), .long 0, .ref 1]) (w3 := sx_w0) rfl rfl ?_
    refine sx_RP.and0l rfl (pc2 := 11) rfl ?_
    refine sx_RP.step (pc2 := 14) (ls2 := [(0, .ref 1), (1, .long x)]) (st2 := []) (w3 := sx_w0) rfl rfl ?_
    refine sx_RP.step (pc2 := 15) (ls2 := [(0, .ref 1), (1, .long x)]) (st2 := [.int 0]) (w3 := sx_w0) rfl rfl ?_
    refine sx_RP.step (pc2 := 16) (ls2 := [(3, .int 0), (0, .ref 1), (1, .long x)]) (st2 := []) (w3 := sx_w0) rfl rfl ?_
    refine sx_RP.step (pc2 := 17) (ls2 := [(3, .int 0), (0, .ref 1), (1, .long x)]) (st2 := [.int 0]) (w3 := sx_w0) rfl rfl ?_
    refine sx_RP.step (pc2 := 19) (ls2 := [(4, .int 0), (3, .int 0), (0, .ref 1), (1, .long x)]) (st2 := []) (w3 := sx_w0) rfl rfl ?_
    refine sx_RP.step (pc2 := 21) (ls2 := [(4, .int 0), (3, .int 0), (0, .ref 1), (1, .long x)]) (st2 := [.int 0]) (w3 := sx_w0) rfl rfl ?_
    refine sx_RP.step (pc2 := 22) (ls2 := [(4, .int 0), (3, .int 0), (0, .ref 1), (1, .long x)]) (st2 := [.ref 1, .int 0]) (w3 := sx_w0) rfl rfl ?_
    refine sx_RP.step (pc2 := 25) (ls2 := [(4, .int 0), (3, .int 0), (0, .ref 1), (1, .long x)]) (st2 := [.int 0, .int 0]) (w3 := sx_w0) rfl rfl ?_
    refine sx_RP.step (pc2 := 74) (ls2 := [(4, .int 0), (3, .int 0), (0, .ref 1), (1, .long x)]) (st2 := []) (w3 := sx_w0) rfl rfl ?_
    refine sx_RP.step (pc2 := 75) (ls2 := [(4, .int 0), (3, .int 0), (0, .ref 1), (1, .long x)]) (st2 := [.int 0]) (w3 := sx_w0) rfl rfl ?_
    refine sx_RP.step (pc2 := 77) (ls2 := [(4, .int 0), (3, .int 0), (0, .ref 1), (1, .long x)]) (st2 := []) (w3 := sx_w0) rfl rfl ?_
    exact (cp_80L ys 48 0 (by omega)) _
  obtain ⟨r, w2, h1, rfl, rfl⟩ := h
  exact h1
set_option maxRecDepth 20000 in
set_option maxHeartbeats 4000000 in
theorem cp_201L (ys : List Int32) (x y : Int32) : ∀ k j : Nat, j + k = 48 → (sx_RP (some ys) 7 201 25 [(4, .int (nI j)), (3, .int 0), (0, .ref 111), (1, .int x), (2, .int y)] [] sx_w0 (fun r w => r = some (.int 0) ∧ w = sx_w0)) ∧ (sx_RP (some ys) 7 201 25 [(4, .int (nI j)), (5, .int 0), (3, .int 0), (0, .ref 111), (1, .int x), (2, .int y)] [] sx_w0 (fun r w => r = some (.int 0) ∧ w = sx_w0))
  | 0, j, h => by
    rw [show j = 48 by omega]
    refine ⟨?_, ?_⟩
    · refine sx_RP.step (pc2 := 27) (ls2 := [(4, .int (nI 48)), (3, .int 0), (0, .ref 111), (1, .int x), (2, .int y)]) (st2 := [.int (nI 48)]) (w3 := sx_w0) rfl rfl ?_
      refine sx_RP.step (pc2 := 29) (ls2 := [(4, .int (nI 48)), (3, .int 0), (0, .ref 111), (1, .int x), (2, .int y)]) (st2 := [.int 48, .int (nI 48)]) (w3 := sx_w0) rfl rfl ?_
      refine sx_RP.step (pc2 := 149) (ls2 := [(4, .int (nI 48)), (3, .int 0), (0, .ref 111), (1, .int x), (2, .int y)]) (st2 := []) (w3 := sx_w0) rfl rfl ?_
      refine sx_RP.step (pc2 := 150) (ls2 := [(4, .int (nI 48)), (3, .int 0), (0, .ref 111), (1, .int x), (2, .int y)]) (st2 := [.int 0]) (w3 := sx_w0) rfl rfl ?_
      refine sx_RP.ret rfl rfl ?_
      exact ⟨rfl, rfl⟩
    · refine sx_RP.step (pc2 := 27) (ls2 := [(4, .int (nI 48)), (5, .int 0), (3, .int 0), (0, .ref 111), (1, .int x), (2, .int y)]) (st2 := [.int (nI 48)]) (w3 := sx_w0) rfl rfl ?_
      refine sx_RP.step (pc2 := 29) (ls2 := [(4, .int (nI 48)), (5, .int 0), (3, .int 0), (0, .ref 111), (1, .int x), (2, .int y)]) (st2 := [.int 48, .int (nI 48)]) (w3 := sx_w0) rfl rfl ?_
      refine sx_RP.step (pc2 := 149) (ls2 := [(4, .int (nI 48)), (5, .int 0), (3, .int 0), (0, .ref 111), (1, .int x), (2, .int y)]) (st2 := []) (w3 := sx_w0) rfl rfl ?_
      refine sx_RP.step (pc2 := 150) (ls2 := [(4, .int (nI 48)), (5, .int 0), (3, .int 0), (0, .ref 111), (1, .int x), (2, .int y)]) (st2 := [.int 0]) (w3 := sx_w0) rfl rfl ?_
      refine sx_RP.ret rfl rfl ?_
      exact ⟨rfl, rfl⟩
  | k + 1, j, h => by
    have hlt : j < 48 := by omega
    have IH := cp_201L ys x y k (j + 1) (by omega)
    refine ⟨?_, ?_⟩
    · refine sx_RP.step (pc2 := 27) (ls2 := [(4, .int (nI j)), (3, .int 0), (0, .ref 111), (1, .int x), (2, .int y)]) (st2 := [.int (nI j)]) (w3 := sx_w0) rfl rfl ?_
      refine sx_RP.step (pc2 := 29) (ls2 := [(4, .int (nI j)), (3, .int 0), (0, .ref 111), (1, .int x), (2, .int y)]) (st2 := [.int 48, .int (nI j)]) (w3 := sx_w0) rfl rfl ?_
      refine sx_RP.br (p2 := 32) (l2 := [(4, .int (nI j)), (3, .int 0), (0, .ref 111), (1, .int x), (2, .int y)]) (s2 := []) (v2 := sx_w0) rfl rfl (fun q => absurd (of_decide_eq_true q) (nI_ge (b := 48) hlt (by omega))) (fun _ => ?_)
      refine sx_RP.step (pc2 := 33) (ls2 := [(4, .int (nI j)), (3, .int 0), (0, .ref 111), (1, .int x), (2, .int y)]) (st2 := [.ref 111]) (w3 := sx_w0) rfl rfl ?_
      refine sx_RP.step (pc2 := 34) (ls2 := [(4, .int (nI j)), (3, .int 0), (0, .ref 111), (1, .int x), (2, .int y)]) (st2 := [.int x, .ref 111]) (w3 := sx_w0) rfl rfl ?_
      refine sx_RP.step (pc2 := 35) (ls2 := [(4, .int (nI j)), (3, .int 0), (0, .ref 111), (1, .int x), (2, .int y)]) (st2 := [.int y, .int x, .ref 111]) (w3 := sx_w0) rfl rfl ?_
      refine sx_RP.step (pc2 := 37) (ls2 := [(4, .int (nI j)), (3, .int 0), (0, .ref 111), (1, .int x), (2, .int y)]) (st2 := [.int (nI j), .int y, .int x, .ref 111]) (w3 := sx_w0) rfl rfl ?_
      obtain ⟨v101, c102⟩ := cx_199 (xs := some ys) (d := 5) x y j hlt
      refine sx_RP.cu (as := [.ref 111, .int x, .int y, .int (nI j)]) (rest2 := []) (st3 := [.int v101]) rfl rfl rfl rfl rfl (c102) rfl ?_
      refine sx_RP.br (p1 := 143) (l1 := [(4, .int (nI j)), (3, .int 0), (0, .ref 111), (1, .int x), (2, .int y)]) (s1 := []) (v1 := sx_w0) (p2 := 43) (l2 := [(4, .int (nI j)), (3, .int 0), (0, .ref 111), (1, .int x), (2, .int y)]) (s2 := []) (v2 := sx_w0) rfl rfl (fun q103 => ?_) (fun q103 => ?_)
      · refine sx_RP.step (pc2 := 146) (ls2 := [(4, .int ((nI j) + 1)), (3, .int 0), (0, .ref 111), (1, .int x), (2, .int y)]) (st2 := []) (w3 := sx_w0) rfl rfl ?_
        refine sx_RP.step (pc2 := 25) (ls2 := [(4, .int ((nI j) + 1)), (3, .int 0), (0, .ref 111), (1, .int x), (2, .int y)]) (st2 := []) (w3 := sx_w0) rfl rfl ?_
        rw [nI_1 j]
        exact IH.1
      · refine sx_RP.step (pc2 := 44) (ls2 := [(4, .int (nI j)), (3, .int 0), (0, .ref 111), (1, .int x), (2, .int y)]) (st2 := [.ref 111]) (w3 := sx_w0) rfl rfl ?_
        refine sx_RP.step (pc2 := 47) (ls2 := [(4, .int (nI j)), (3, .int 0), (0, .ref 111), (1, .int x), (2, .int y)]) (st2 := [.ref 112]) (w3 := sx_w0) rfl rfl ?_
        refine sx_RP.step (pc2 := 49) (ls2 := [(4, .int (nI j)), (3, .int 0), (0, .ref 111), (1, .int x), (2, .int y)]) (st2 := [.int 55, .ref 112]) (w3 := sx_w0) rfl rfl ?_
        refine sx_RP.step (pc2 := 51) (ls2 := [(4, .int (nI j)), (3, .int 0), (0, .ref 111), (1, .int x), (2, .int y)]) (st2 := [.int (nI j), .int 55, .ref 112]) (w3 := sx_w0) rfl rfl ?_
        refine sx_RP.step (pc2 := 52) (ls2 := [(4, .int (nI j)), (3, .int 0), (0, .ref 111), (1, .int x), (2, .int y)]) (st2 := [.int (55 + (nI j)), .ref 112]) (w3 := sx_w0) rfl rfl ?_
        refine sx_RP.step (pc2 := 53) (ls2 := [(4, .int (nI j)), (3, .int 0), (0, .ref 111), (1, .int x), (2, .int y)]) (st2 := [.int 0, .int (55 + (nI j)), .ref 112]) (w3 := sx_w0) rfl rfl ?_
        refine sx_RP.iast (l := sx_s0) (w2 := sx_w0) rfl rfl (sx_s55 j hlt).1 (by rw [(sx_s55 j hlt).2.2]; rfl) (pc2 := 54) rfl ?_
        refine sx_RP.step (pc2 := 55) (ls2 := [(4, .int (nI j)), (3, .int 0), (0, .ref 111), (1, .int x), (2, .int y)]) (st2 := [.ref 111]) (w3 := sx_w0) rfl rfl ?_
        refine sx_RP.step (pc2 := 58) (ls2 := [(4, .int (nI j)), (3, .int 0), (0, .ref 111), (1, .int x), (2, .int y)]) (st2 := [.ref 112]) (w3 := sx_w0) rfl rfl ?_
        refine sx_RP.step (pc2 := 60) (ls2 := [(4, .int (nI j)), (3, .int 0), (0, .ref 111), (1, .int x), (2, .int y)]) (st2 := [.int 7, .ref 112]) (w3 := sx_w0) rfl rfl ?_
        refine sx_RP.step (pc2 := 62) (ls2 := [(4, .int (nI j)), (3, .int 0), (0, .ref 111), (1, .int x), (2, .int y)]) (st2 := [.int (nI j), .int 7, .ref 112]) (w3 := sx_w0) rfl rfl ?_
        refine sx_RP.step (pc2 := 63) (ls2 := [(4, .int (nI j)), (3, .int 0), (0, .ref 111), (1, .int x), (2, .int y)]) (st2 := [.int (7 + (nI j)), .ref 112]) (w3 := sx_w0) rfl rfl ?_
        refine sx_RP.step (pc2 := 64) (ls2 := [(4, .int (nI j)), (3, .int 0), (0, .ref 111), (1, .int x), (2, .int y)]) (st2 := [.ref 111, .int (7 + (nI j)), .ref 112]) (w3 := sx_w0) rfl rfl ?_
        refine sx_RP.step (pc2 := 67) (ls2 := [(4, .int (nI j)), (3, .int 0), (0, .ref 111), (1, .int x), (2, .int y)]) (st2 := [.ref 112, .int (7 + (nI j)), .ref 112]) (w3 := sx_w0) rfl rfl ?_
        refine sx_RP.step (pc2 := 69) (ls2 := [(4, .int (nI j)), (3, .int 0), (0, .ref 111), (1, .int x), (2, .int y)]) (st2 := [.int 7, .ref 112, .int (7 + (nI j)), .ref 112]) (w3 := sx_w0) rfl rfl ?_
        refine sx_RP.step (pc2 := 71) (ls2 := [(4, .int (nI j)), (3, .int 0), (0, .ref 111), (1, .int x), (2, .int y)]) (st2 := [.int (nI j), .int 7, .ref 112, .int (7 + (nI j)), .ref 112]) (w3 := sx_w0) rfl rfl ?_
        refine sx_RP.step (pc2 := 72) (ls2 := [(4, .int (nI j)), (3, .int 0), (0, .ref 111), (1, .int x), (2, .int y)]) (st2 := [.int (7 + (nI j)), .ref 112, .int (7 + (nI j)), .ref 112]) (w3 := sx_w0) rfl rfl ?_
        refine sx_RP.iald (l := sx_s0) (v := 0) rfl rfl (sx_s7 j hlt).1 (sx_s7 j hlt).2.1 (pc2 := 73) rfl ?_
        refine sx_RP.step (pc2 := 74) (ls2 := [(4, .int (nI j)), (3, .int 0), (0, .ref 111), (1, .int x), (2, .int y)]) (st2 := [.int 2, .int 0, .int (7 + (nI j)), .ref 112]) (w3 := sx_w0) rfl rfl ?_
        refine sx_RP.step (pc2 := 81) (ls2 := [(4, .int (nI j)), (3, .int 0), (0, .ref 111), (1, .int x), (2, .int y)]) (st2 := [.int (7 + (nI j)), .ref 112]) (w3 := sx_w0) rfl rfl ?_
        refine sx_RP.step (pc2 := 82) (ls2 := [(4, .int (nI j)), (3, .int 0), (0, .ref 111), (1, .int x), (2, .int y)]) (st2 := [.ref 111, .int (7 + (nI j)), .ref 112]) (w3 := sx_w0) rfl rfl ?_
        refine sx_RP.step (pc2 := 85) (ls2 := [(4, .int (nI j)), (3, .int 0), (0, .ref 111), (1, .int x), (2, .int y)]) (st2 := [.ref 112, .int (7 + (nI j)), .ref 112]) (w3 := sx_w0) rfl rfl ?_
        refine sx_RP.step (pc2 := 87) (ls2 := [(4, .int (nI j)), (3, .int 0), (0, .ref 111), (1, .int x), (2, .int y)]) (st2 := [.int 7, .ref 112, .int (7 + (nI j)), .ref 112]) (w3 := sx_w0) rfl rfl ?_
        refine sx_RP.step (pc2 := 89) (ls2 := [(4, .int (nI j)), (3, .int 0), (0, .ref 111), (1, .int x), (2, .int y)]) (st2 := [.int (nI j), .int 7, .ref 112, .int (7 + (nI j)), .ref 112]) (w3 := sx_w0) rfl rfl ?_
        refine sx_RP.step (pc2 := 90) (ls2 := [(4, .int (nI j)), (3, .int 0), (0, .ref 111), (1, .int x), (2, .int y)]) (st2 := [.int (7 + (nI j)), .ref 112, .int (7 + (nI j)), .ref 112]) (w3 := sx_w0) rfl rfl ?_
        refine sx_RP.iald (l := sx_s0) (v := 0) rfl rfl (sx_s7 j hlt).1 (sx_s7 j hlt).2.1 (pc2 := 91) rfl ?_
        refine sx_RP.iast (l := sx_s0) (w2 := sx_w0) rfl rfl (sx_s7 j hlt).1 (by rw [(sx_s7 j hlt).2.2]; rfl) (pc2 := 92) rfl ?_
        refine sx_RP.step (pc2 := 93) (ls2 := [(4, .int (nI j)), (3, .int 0), (0, .ref 111), (1, .int x), (2, .int y)]) (st2 := [.int 0]) (w3 := sx_w0) rfl rfl ?_
        refine sx_RP.step (pc2 := 95) (ls2 := [(5, .int 0), (4, .int (nI j)), (3, .int 0), (0, .ref 111), (1, .int x), (2, .int y)]) (st2 := []) (w3 := sx_w0) rfl rfl ?_
        refine sx_RP.step (pc2 := 97) (ls2 := [(5, .int 0), (4, .int (nI j)), (3, .int 0), (0, .ref 111), (1, .int x), (2, .int y)]) (st2 := [.int 0]) (w3 := sx_w0) rfl rfl ?_
        refine sx_RP.step (pc2 := 98) (ls2 := [(5, .int 0), (4, .int (nI j)), (3, .int 0), (0, .ref 111), (1, .int x), (2, .int y)]) (st2 := [.ref 111, .int 0]) (w3 := sx_w0) rfl rfl ?_
        refine sx_RP.step (pc2 := 101) (ls2 := [(5, .int 0), (4, .int (nI j)), (3, .int 0), (0, .ref 111), (1, .int x), (2, .int y)]) (st2 := [.ref 112, .int 0]) (w3 := sx_w0) rfl rfl ?_
        refine sx_RP.step (pc2 := 102) (ls2 := [(5, .int 0), (4, .int (nI j)), (3, .int 0), (0, .ref 111), (1, .int x), (2, .int y)]) (st2 := [.int 1, .ref 112, .int 0]) (w3 := sx_w0) rfl rfl ?_
        refine sx_RP.step (pc2 := 103) (ls2 := [(5, .int 0), (4, .int (nI j)), (3, .int 0), (0, .ref 111), (1, .int x), (2, .int y)]) (st2 := [.int 0, .int 0]) (w3 := sx_w0) rfl rfl ?_
        refine sx_RP.step (pc2 := 143) (ls2 := [(5, .int 0), (4, .int (nI j)), (3, .int 0), (0, .ref 111), (1, .int x), (2, .int y)]) (st2 := []) (w3 := sx_w0) rfl rfl ?_
        refine sx_RP.step (pc2 := 146) (ls2 := [(4, .int ((nI j) + 1)), (5, .int 0), (3, .int 0), (0, .ref 111), (1, .int x), (2, .int y)]) (st2 := []) (w3 := sx_w0) rfl rfl ?_
        refine sx_RP.step (pc2 := 25) (ls2 := [(4, .int ((nI j) + 1)), (5, .int 0), (3, .int 0), (0, .ref 111), (1, .int x), (2, .int y)]) (st2 := []) (w3 := sx_w0) rfl rfl ?_
        rw [nI_1 j]
        exact IH.2
    · refine sx_RP.step (pc2 := 27) (ls2 := [(4, .int (nI j)), (5, .int 0), (3, .int 0), (0, .ref 111), (1, .int x), (2, .int y)]) (st2 := [.int (nI j)]) (w3 := sx_w0) rfl rfl ?_
      refine sx_RP.step (pc2 := 29) (ls2 := [(4, .int (nI j)), (5, .int 0), (3, .int 0), (0, .ref 111), (1, .int x), (2, .int y)]) (st2 := [.int 48, .int (nI j)]) (w3 := sx_w0) rfl rfl ?_
      refine sx_RP.br (p2 := 32) (l2 := [(4, .int (nI j)), (5, .int 0), (3, .int 0), (0, .ref 111), (1, .int x), (2, .int y)]) (s2 := []) (v2 := sx_w0) rfl rfl (fun q => absurd (of_decide_eq_true q) (nI_ge (b := 48) hlt (by omega))) (fun _ => ?_)
      refine sx_RP.step (pc2 := 33) (ls2 := [(4, .int (nI j)), (5, .int 0), (3, .int 0), (0, .ref 111), (1, .int x), (2, .int y)]) (st2 := [.ref 111]) (w3 := sx_w0) rfl rfl ?_
      refine sx_RP.step (pc2 := 34) (ls2 := [(4, .int (nI j)), (5, .int 0), (3, .int 0), (0, .ref 111), (1, .int x), (2, .int y)]) (st2 := [.int x, .ref 111]) (w3 := sx_w0) rfl rfl ?_
      refine sx_RP.step (pc2 := 35) (ls2 := [(4, .int (nI j)), (5, .int 0), (3, .int 0), (0, .ref 111), (1, .int x), (2, .int y)]) (st2 := [.int y, .int x, .ref 111]) (w3 := sx_w0) rfl rfl ?_
      refine sx_RP.step (pc2 := 37) (ls2 := [(4, .int (nI j)), (5, .int 0), (3, .int 0), (0, .ref 111), (1, .int x), (2, .int y)]) (st2 := [.int (nI j), .int y, .int x, .ref 111]) (w3 := sx_w0) rfl rfl ?_
      obtain ⟨v101, c102⟩ := cx_199 (xs := some ys) (d := 5) x y j hlt
      refine sx_RP.cu (as := [.ref 111, .int x, .int y, .int (nI j)]) (rest2 := []) (st3 := [.int v101]) rfl rfl rfl rfl rfl (c102) rfl ?_
      refine sx_RP.br (p1 := 143) (l1 := [(4, .int (nI j)), (5, .int 0), (3, .int 0), (0, .ref 111), (1, .int x), (2, .int y)]) (s1 := []) (v1 := sx_w0) (p2 := 43) (l2 := [(4, .int (nI j)), (5, .int 0), (3, .int 0), (0, .ref 111), (1, .int x), (2, .int y)]) (s2 := []) (v2 := sx_w0) rfl rfl (fun q103 => ?_) (fun q103 => ?_)
      · refine sx_RP.step (pc2 := 146) (ls2 := [(4, .int ((nI j) + 1)), (5, .int 0), (3, .int 0), (0, .ref 111), (1, .int x), (2, .int y)]) (st2 := []) (w3 := sx_w0) rfl rfl ?_
        refine sx_RP.step (pc2 := 25) (ls2 := [(4, .int ((nI j) + 1)), (5, .int 0), (3, .int 0), (0, .ref 111), (1, .int x), (2, .int y)]) (st2 := []) (w3 := sx_w0) rfl rfl ?_
        rw [nI_1 j]
        exact IH.2
      · refine sx_RP.step (pc2 := 44) (ls2 := [(4, .int (nI j)), (5, .int 0), (3, .int 0), (0, .ref 111), (1, .int x), (2, .int y)]) (st2 := [.ref 111]) (w3 := sx_w0) rfl rfl ?_
        refine sx_RP.step (pc2 := 47) (ls2 := [(4, .int (nI j)), (5, .int 0), (3, .int 0), (0, .ref 111), (1, .int x), (2, .int y)]) (st2 := [.ref 112]) (w3 := sx_w0) rfl rfl ?_
        refine sx_RP.step (pc2 := 49) (ls2 := [(4, .int (nI j)), (5, .int 0), (3, .int 0), (0, .ref 111), (1, .int x), (2, .int y)]) (st2 := [.int 55, .ref 112]) (w3 := sx_w0) rfl rfl ?_
        refine sx_RP.step (pc2 := 51) (ls2 := [(4, .int (nI j)), (5, .int 0), (3, .int 0), (0, .ref 111), (1, .int x), (2, .int y)]) (st2 := [.int (nI j), .int 55, .ref 112]) (w3 := sx_w0) rfl rfl ?_
        refine sx_RP.step (pc2 := 52) (ls2 := [(4, .int (nI j)), (5, .int 0), (3, .int 0), (0, .ref 111), (1, .int x), (2, .int y)]) (st2 := [.int (55 + (nI j)), .ref 112]) (w3 := sx_w0) rfl rfl ?_
        refine sx_RP.step (pc2 := 53) (ls2 := [(4, .int (nI j)), (5, .int 0), (3, .int 0), (0, .ref 111), (1, .int x), (2, .int y)]) (st2 := [.int 0, .int (55 + (nI j)), .ref 112]) (w3 := sx_w0) rfl rfl ?_
        refine sx_RP.iast (l := sx_s0) (w2 := sx_w0) rfl rfl (sx_s55 j hlt).1 (by rw [(sx_s55 j hlt).2.2]; rfl) (pc2 := 54) rfl ?_
        refine sx_RP.step (pc2 := 55) (ls2 := [(4, .int (nI j)), (5, .int 0), (3, .int 0), (0, .ref 111), (1, .int x), (2, .int y)]) (st2 := [.ref 111]) (w3 := sx_w0) rfl rfl ?_
        refine sx_RP.step (pc2 := 58) (ls2 := [(4, .int (nI j)), (5, .int 0), (3, .int 0), (0, .ref 111), (1, .int x), (2, .int y)]) (st2 := [.ref 112]) (w3 := sx_w0) rfl rfl ?_
        refine sx_RP.step (pc2 := 60) (ls2 := [(4, .int (nI j)), (5, .int 0), (3, .int 0), (0, .ref 111), (1, .int x), (2, .int y)]) (st2 := [.int 7, .ref 112]) (w3 := sx_w0) rfl rfl ?_
        refine sx_RP.step (pc2 := 62) (ls2 := [(4, .int (nI j)), (5, .int 0), (3, .int 0), (0, .ref 111), (1, .int x), (2, .int y)]) (st2 := [.int (nI j), .int 7, .ref 112]) (w3 := sx_w0) rfl rfl ?_
        refine sx_RP.step (pc2 := 63) (ls2 := [(4, .int (nI j)), (5, .int 0), (3, .int 0), (0, .ref 111), (1, .int x), (2, .int y)]) (st2 := [.int (7 + (nI j)), .ref 112]) (w3 := sx_w0) rfl rfl ?_
        refine sx_RP.step (pc2 := 64) (ls2 := [(4, .int (nI j)), (5, .int 0), (3, .int 0), (0, .ref 111), (1, .int x), (2, .int y)]) (st2 := [.ref 111, .int (7 + (nI j)), .ref 112]) (w3 := sx_w0) rfl rfl ?_
        refine sx_RP.step (pc2 := 67) (ls2 := [(4, .int (nI j)), (5, .int 0), (3, .int 0), (0, .ref 111), (1, .int x), (2, .int y)]) (st2 := [.ref 112, .int (7 + (nI j)), .ref 112]) (w3 := sx_w0) rfl rfl ?_
        refine sx_RP.step (pc2 := 69) (ls2 := [(4, .int (nI j)), (5, .int 0), (3, .int 0), (0, .ref 111), (1, .int x), (2, .int y)]) (st2 := [.int 7, .ref 112, .int (7 + (nI j)), .ref 112]) (w3 := sx_w0) rfl rfl ?_
        refine sx_RP.step (pc2 := 71) (ls2 := [(4, .int (nI j)), (5, .int 0), (3, .int 0), (0, .ref 111), (1, .int x), (2, .int y)]) (st2 := [.int (nI j), .int 7, .ref 112, .int (7 + (nI j)), .ref 112]) (w3 := sx_w0) rfl rfl ?_
        refine sx_RP.step (pc2 := 72) (ls2 := [(4, .int (nI j)), (5, .int 0), (3, .int 0), (0, .ref 111), (1, .int x), (2, .int y)]) (st2 := [.int (7 + (nI j)), .ref 112, .int (7 + (nI j)), .ref 112]) (w3 := sx_w0) rfl rfl ?_
        refine sx_RP.iald (l := sx_s0) (v := 0) rfl rfl (sx_s7 j hlt).1 (sx_s7 j hlt).2.1 (pc2 := 73) rfl ?_
        refine sx_RP.step (pc2 := 74) (ls2 := [(4, .int (nI j)), (5, .int 0), (3, .int 0), (0, .ref 111), (1, .int x), (2, .int y)]) (st2 := [.int 2, .int 0, .int (7 + (nI j)), .ref 112]) (w3 := sx_w0) rfl rfl ?_
        refine sx_RP.step (pc2 := 81) (ls2 := [(4, .int (nI j)), (5, .int 0), (3, .int 0), (0, .ref 111), (1, .int x), (2, .int y)]) (st2 := [.int (7 + (nI j)), .ref 112]) (w3 := sx_w0) rfl rfl ?_
        refine sx_RP.step (pc2 := 82) (ls2 := [(4, .int (nI j)), (5, .int 0), (3, .int 0), (0, .ref 111), (1, .int x), (2, .int y)]) (st2 := [.ref 111, .int (7 + (nI j)), .ref 112]) (w3 := sx_w0) rfl rfl ?_
        refine sx_RP.step (pc2 := 85) (ls2 := [(4, .int (nI j)), (5, .int 0), (3, .int 0), (0, .ref 111), (1, .int x), (2, .int y)]) (st2 := [.ref 112, .int (7 + (nI j)), .ref 112]) (w3 := sx_w0) rfl rfl ?_
        refine sx_RP.step (pc2 := 87) (ls2 := [(4, .int (nI j)), (5, .int 0), (3, .int 0), (0, .ref 111), (1, .int x), (2, .int y)]) (st2 := [.int 7, .ref 112, .int (7 + (nI j)), .ref 112]) (w3 := sx_w0) rfl rfl ?_
        refine sx_RP.step (pc2 := 89) (ls2 := [(4, .int (nI j)), (5, .int 0), (3, .int 0), (0, .ref 111), (1, .int x), (2, .int y)]) (st2 := [.int (nI j), .int 7, .ref 112, .int (7 + (nI j)), .ref 112]) (w3 := sx_w0) rfl rfl ?_
        refine sx_RP.step (pc2 := 90) (ls2 := [(4, .int (nI j)), (5, .int 0), (3, .int 0), (0, .ref 111), (1, .int x), (2, .int y)]) (st2 := [.int (7 + (nI j)), .ref 112, .int (7 + (nI j)), .ref 112]) (w3 := sx_w0) rfl rfl ?_
        refine sx_RP.iald (l := sx_s0) (v := 0) rfl rfl (sx_s7 j hlt).1 (sx_s7 j hlt).2.1 (pc2 := 91) rfl ?_
        refine sx_RP.iast (l := sx_s0) (w2 := sx_w0) rfl rfl (sx_s7 j hlt).1 (by rw [(sx_s7 j hlt).2.2]; rfl) (pc2 := 92) rfl ?_
        refine sx_RP.step (pc2 := 93) (ls2 := [(4, .int (nI j)), (5, .int 0), (3, .int 0), (0, .ref 111), (1, .int x), (2, .int y)]) (st2 := [.int 0]) (w3 := sx_w0) rfl rfl ?_
        refine sx_RP.step (pc2 := 95) (ls2 := [(5, .int 0), (4, .int (nI j)), (3, .int 0), (0, .ref 111), (1, .int x), (2, .int y)]) (st2 := []) (w3 := sx_w0) rfl rfl ?_
        refine sx_RP.step (pc2 := 97) (ls2 := [(5, .int 0), (4, .int (nI j)), (3, .int 0), (0, .ref 111), (1, .int x), (2, .int y)]) (st2 := [.int 0]) (w3 := sx_w0) rfl rfl ?_
        refine sx_RP.step (pc2 := 98) (ls2 := [(5, .int 0), (4, .int (nI j)), (3, .int 0), (0, .ref 111), (1, .int x), (2, .int y)]) (st2 := [.ref 111, .int 0]) (w3 := sx_w0) rfl rfl ?_
        refine sx_RP.step (pc2 := 101) (ls2 := [(5, .int 0), (4, .int (nI j)), (3, .int 0), (0, .ref 111), (1, .int x), (2, .int y)]) (st2 := [.ref 112, .int 0]) (w3 := sx_w0) rfl rfl ?_
        refine sx_RP.step (pc2 := 102) (ls2 := [(5, .int 0), (4, .int (nI j)), (3, .int 0), (0, .ref 111), (1, .int x), (2, .int y)]) (st2 := [.int 1, .ref 112, .int 0]) (w3 := sx_w0) rfl rfl ?_
        refine sx_RP.step (pc2 := 103) (ls2 := [(5, .int 0), (4, .int (nI j)), (3, .int 0), (0, .ref 111), (1, .int x), (2, .int y)]) (st2 := [.int 0, .int 0]) (w3 := sx_w0) rfl rfl ?_
        refine sx_RP.step (pc2 := 143) (ls2 := [(5, .int 0), (4, .int (nI j)), (3, .int 0), (0, .ref 111), (1, .int x), (2, .int y)]) (st2 := []) (w3 := sx_w0) rfl rfl ?_
        refine sx_RP.step (pc2 := 146) (ls2 := [(4, .int ((nI j) + 1)), (5, .int 0), (3, .int 0), (0, .ref 111), (1, .int x), (2, .int y)]) (st2 := []) (w3 := sx_w0) rfl rfl ?_
        refine sx_RP.step (pc2 := 25) (ls2 := [(4, .int ((nI j) + 1)), (5, .int 0), (3, .int 0), (0, .ref 111), (1, .int x), (2, .int y)]) (st2 := []) (w3 := sx_w0) rfl rfl ?_
        rw [nI_1 j]
        exact IH.2
set_option maxRecDepth 20000 in
set_option maxHeartbeats 4000000 in
theorem k_blow_in (ys : List Int32) (a1 a2 : Int32) (p0 : 0 ≤ a1 ∧ a1 ≤ 47) (p1 : 1 ≤ a2 ∧ a2 ≤ 30) : sx_twoI ys 79 201 [.int a1, .int a2] := by
  refine sx_twoI.of ?_
  refine sx_RP.step (pc2 := 1) (ls2 := [(0, .ref 0), (1, .int a1), (2, .int a2)]) (st2 := [.int a1]) (w3 := sx_w0) rfl rfl ?_
  refine sx_RP.cu (as := [.int a1]) (rest2 := []) (st3 := [.int 1]) rfl rfl rfl rfl rfl (cx_7p p0) rfl ?_
  refine sx_RP.step (pc2 := 7) (ls2 := [(0, .ref 0), (1, .int a1), (2, .int a2)]) (st2 := []) (w3 := sx_w0) rfl rfl ?_
  refine sx_RP.step (pc2 := 8) (ls2 := [(0, .ref 0), (1, .int a1), (2, .int a2)]) (st2 := [.int a2]) (w3 := sx_w0) rfl rfl ?_
  refine sx_RP.step (pc2 := 9) (ls2 := [(0, .ref 0), (1, .int a1), (2, .int a2)]) (st2 := [.int 1, .int a2]) (w3 := sx_w0) rfl rfl ?_
  refine sx_RP.step (pc2 := 11) (ls2 := [(0, .ref 0), (1, .int a1), (2, .int a2)]) (st2 := [.int 30, .int 1, .int a2]) (w3 := sx_w0) rfl rfl ?_
  refine sx_RP.cu (as := [.int a2, .int 1, .int 30]) (rest2 := []) (st3 := [.int 1]) rfl rfl rfl rfl rfl (cx_8p p1) rfl ?_
  refine sx_RP.step (pc2 := 24) (ls2 := [(0, .ref 0), (1, .int a1), (2, .int a2)]) (st2 := []) (w3 := sx_w0) rfl rfl ?_
  refine sx_RP.step (pc2 := 25) (ls2 := [(0, .ref 0), (1, .int a1), (2, .int a2)]) (st2 := [.ref 0]) (w3 := sx_w0) rfl rfl ?_
  refine sx_RP.step (pc2 := 28) (ls2 := [(0, .ref 0), (1, .int a1), (2, .int a2)]) (st2 := [.ref 1]) (w3 := sx_w0) rfl rfl ?_
  refine sx_RP.step (pc2 := 29) (ls2 := [(0, .ref 0), (1, .int a1), (2, .int a2)]) (st2 := [.ref 0, .ref 1]) (w3 := sx_w0) rfl rfl ?_
  refine sx_RP.step (pc2 := 32) (ls2 := [(0, .ref 0), (1, .int a1), (2, .int a2)]) (st2 := [.ref 1, .ref 1]) (w3 := sx_w0) rfl rfl ?_
  refine sx_RP.step (pc2 := 33) (ls2 := [(0, .ref 0), (1, .int a1), (2, .int a2)]) (st2 := [.int a1, .ref 1, .ref 1]) (w3 := sx_w0) rfl rfl ?_
  refine sx_RP.step (pc2 := 34) (ls2 := [(0, .ref 0), (1, .int a1), (2, .int a2)]) (st2 := [.int a2, .int a1, .ref 1, .ref 1]) (w3 := sx_w0) rfl rfl ?_
  obtain ⟨v1, c2⟩ := cp_77 ys a1 a2
  refine sx_RP.cu (as := [.ref 1, .int a1, .int a2]) (rest2 := [.ref 1]) (st3 := [.long v1, .ref 1]) rfl rfl rfl rfl rfl (c2) rfl ?_
  refine sx_RP.cu (as := [.ref 1, .long v1]) (rest2 := []) (st3 := [.int 0]) rfl rfl rfl rfl rfl (cp_80 ys v1) rfl ?_
  refine sx_RP.ret rfl rfl ?_
  refine ⟨0, rfl, ⟨_, rfl⟩, ?_⟩
  refine sx_RP.step (pc2 := 1) (ls2 := [(0, .ref 111), (1, .int a1), (2, .int a2)]) (st2 := [.int a1]) (w3 := sx_w0) rfl rfl ?_
  refine sx_RP.cu (as := [.int a1]) (rest2 := []) (st3 := [.int 1]) rfl rfl rfl rfl rfl (cx_131p p0) rfl ?_
  refine sx_RP.step (pc2 := 7) (ls2 := [(0, .ref 111), (1, .int a1), (2, .int a2)]) (st2 := []) (w3 := sx_w0) rfl rfl ?_
  refine sx_RP.step (pc2 := 8) (ls2 := [(0, .ref 111), (1, .int a1), (2, .int a2)]) (st2 := [.int a2]) (w3 := sx_w0) rfl rfl ?_
  refine sx_RP.cu (as := [.int a2]) (rest2 := []) (st3 := [.int 1]) rfl rfl rfl rfl rfl (cx_197p p1) rfl ?_
  refine sx_RP.step (pc2 := 20) (ls2 := [(0, .ref 111), (1, .int a1), (2, .int a2)]) (st2 := []) (w3 := sx_w0) rfl rfl ?_
  refine sx_RP.step (pc2 := 21) (ls2 := [(0, .ref 111), (1, .int a1), (2, .int a2)]) (st2 := [.int 0]) (w3 := sx_w0) rfl rfl ?_
  refine sx_RP.step (pc2 := 22) (ls2 := [(3, .int 0), (0, .ref 111), (1, .int a1), (2, .int a2)]) (st2 := []) (w3 := sx_w0) rfl rfl ?_
  refine sx_RP.step (pc2 := 23) (ls2 := [(3, .int 0), (0, .ref 111), (1, .int a1), (2, .int a2)]) (st2 := [.int 0]) (w3 := sx_w0) rfl rfl ?_
  refine sx_RP.step (pc2 := 25) (ls2 := [(4, .int 0), (3, .int 0), (0, .ref 111), (1, .int a1), (2, .int a2)]) (st2 := []) (w3 := sx_w0) rfl rfl ?_
  refine sx_RP.mono ((cp_201L ys a1 a2 48 0 (by omega)).1) (fun r w h => h.1)
set_option maxRecDepth 20000 in
set_option maxHeartbeats 4000000 in
theorem cp_81L (ys : List Int32) (x : Int32) : ∀ k j : Nat, j + k = 48 → (sx_RP (some ys) 7 81 24 [(4, .int (nI j)), (3, .int (-1)), (2, .int 0), (0, .ref 0), (1, .int x)] [] sx_w0 (fun r w => r = some (.int (-1000000004)) ∧ w = sx_vN)) ∧ (sx_RP (some ys) 7 81 24 [(4, .int (nI j)), (5, .int 0), (3, .int (-1)), (2, .int 0), (0, .ref 0), (1, .int x)] [] sx_w0 (fun r w => r = some (.int (-1000000004)) ∧ w = sx_vN))
  | 0, j, h => by
    rw [show j = 48 by omega]
    refine ⟨?_, ?_⟩
    · refine sx_RP.step (pc2 := 26) (ls2 := [(4, .int (nI 48)), (3, .int (-1)), (2, .int 0), (0, .ref 0), (1, .int x)]) (st2 := [.int (nI 48)]) (w3 := sx_w0) rfl rfl ?_
      refine sx_RP.step (pc2 := 28) (ls2 := [(4, .int (nI 48)), (3, .int (-1)), (2, .int 0), (0, .ref 0), (1, .int x)]) (st2 := [.int 48, .int (nI 48)]) (w3 := sx_w0) rfl rfl ?_
      refine sx_RP.step (pc2 := 86) (ls2 := [(4, .int (nI 48)), (3, .int (-1)), (2, .int 0), (0, .ref 0), (1, .int x)]) (st2 := []) (w3 := sx_w0) rfl rfl ?_
      refine sx_RP.step (pc2 := 87) (ls2 := [(4, .int (nI 48)), (3, .int (-1)), (2, .int 0), (0, .ref 0), (1, .int x)]) (st2 := [.int (-1)]) (w3 := sx_w0) rfl rfl ?_
      refine sx_RP.step (pc2 := 88) (ls2 := [(4, .int (nI 48)), (3, .int (-1)), (2, .int 0), (0, .ref 0), (1, .int x)]) (st2 := [.int (-1), .int (-1)]) (w3 := sx_w0) rfl rfl ?_
      refine sx_RP.step (pc2 := 91) (ls2 := [(4, .int (nI 48)), (3, .int (-1)), (2, .int 0), (0, .ref 0), (1, .int x)]) (st2 := []) (w3 := sx_w0) rfl rfl ?_
      refine sx_RP.step (pc2 := 92) (ls2 := [(4, .int (nI 48)), (3, .int (-1)), (2, .int 0), (0, .ref 0), (1, .int x)]) (st2 := [.ref 0]) (w3 := sx_w0) rfl rfl ?_
      refine sx_RP.step (pc2 := 94) (ls2 := [(4, .int (nI 48)), (3, .int (-1)), (2, .int 0), (0, .ref 0), (1, .int x)]) (st2 := [.int (-1000000004), .ref 0]) (w3 := sx_w0) rfl rfl ?_
      refine sx_RP.cu (as := [.ref 0, .int (-1000000004)]) (rest2 := []) (st3 := [.int (-1000000004)]) rfl rfl rfl rfl rfl (cf_N _) rfl ?_
      refine sx_RP.step (pc2 := 101) (ls2 := [(4, .int (nI 48)), (3, .int (-1)), (2, .int 0), (0, .ref 0), (1, .int x)]) (st2 := [.int (-1000000004)]) (w3 := sx_vN) rfl rfl ?_
      refine sx_RP.ret rfl rfl ?_
      exact ⟨rfl, rfl⟩
    · refine sx_RP.step (pc2 := 26) (ls2 := [(4, .int (nI 48)), (5, .int 0), (3, .int (-1)), (2, .int 0), (0, .ref 0), (1, .int x)]) (st2 := [.int (nI 48)]) (w3 := sx_w0) rfl rfl ?_
      refine sx_RP.step (pc2 := 28) (ls2 := [(4, .int (nI 48)), (5, .int 0), (3, .int (-1)), (2, .int 0), (0, .ref 0), (1, .int x)]) (st2 := [.int 48, .int (nI 48)]) (w3 := sx_w0) rfl rfl ?_
      refine sx_RP.step (pc2 := 86) (ls2 := [(4, .int (nI 48)), (5, .int 0), (3, .int (-1)), (2, .int 0), (0, .ref 0), (1, .int x)]) (st2 := []) (w3 := sx_w0) rfl rfl ?_
      refine sx_RP.step (pc2 := 87) (ls2 := [(4, .int (nI 48)), (5, .int 0), (3, .int (-1)), (2, .int 0), (0, .ref 0), (1, .int x)]) (st2 := [.int (-1)]) (w3 := sx_w0) rfl rfl ?_
      refine sx_RP.step (pc2 := 88) (ls2 := [(4, .int (nI 48)), (5, .int 0), (3, .int (-1)), (2, .int 0), (0, .ref 0), (1, .int x)]) (st2 := [.int (-1), .int (-1)]) (w3 := sx_w0) rfl rfl ?_
      refine sx_RP.step (pc2 := 91) (ls2 := [(4, .int (nI 48)), (5, .int 0), (3, .int (-1)), (2, .int 0), (0, .ref 0), (1, .int x)]) (st2 := []) (w3 := sx_w0) rfl rfl ?_
      refine sx_RP.step (pc2 := 92) (ls2 := [(4, .int (nI 48)), (5, .int 0), (3, .int (-1)), (2, .int 0), (0, .ref 0), (1, .int x)]) (st2 := [.ref 0]) (w3 := sx_w0) rfl rfl ?_
      refine sx_RP.step (pc2 := 94) (ls2 := [(4, .int (nI 48)), (5, .int 0), (3, .int (-1)), (2, .int 0), (0, .ref 0), (1, .int x)]) (st2 := [.int (-1000000004), .ref 0]) (w3 := sx_w0) rfl rfl ?_
      refine sx_RP.cu (as := [.ref 0, .int (-1000000004)]) (rest2 := []) (st3 := [.int (-1000000004)]) rfl rfl rfl rfl rfl (cf_N _) rfl ?_
      refine sx_RP.step (pc2 := 101) (ls2 := [(4, .int (nI 48)), (5, .int 0), (3, .int (-1)), (2, .int 0), (0, .ref 0), (1, .int x)]) (st2 := [.int (-1000000004)]) (w3 := sx_vN) rfl rfl ?_
      refine sx_RP.ret rfl rfl ?_
      exact ⟨rfl, rfl⟩
  | k + 1, j, h => by
    have hlt : j < 48 := by omega
    have IH := cp_81L ys x k (j + 1) (by omega)
    refine ⟨?_, ?_⟩
    · refine sx_RP.step (pc2 := 26) (ls2 := [(4, .int (nI j)), (3, .int (-1)), (2, .int 0), (0, .ref 0), (1, .int x)]) (st2 := [.int (nI j)]) (w3 := sx_w0) rfl rfl ?_
      refine sx_RP.step (pc2 := 28) (ls2 := [(4, .int (nI j)), (3, .int (-1)), (2, .int 0), (0, .ref 0), (1, .int x)]) (st2 := [.int 48, .int (nI j)]) (w3 := sx_w0) rfl rfl ?_
      refine sx_RP.br (p2 := 31) (l2 := [(4, .int (nI j)), (3, .int (-1)), (2, .int 0), (0, .ref 0), (1, .int x)]) (s2 := []) (v2 := sx_w0) rfl rfl (fun q => absurd (of_decide_eq_true q) (nI_ge (b := 48) hlt (by omega))) (fun _ => ?_)
      refine sx_RP.step (pc2 := 32) (ls2 := [(4, .int (nI j)), (3, .int (-1)), (2, .int 0), (0, .ref 0), (1, .int x)]) (st2 := [.ref 0]) (w3 := sx_w0) rfl rfl ?_
      refine sx_RP.step (pc2 := 35) (ls2 := [(4, .int (nI j)), (3, .int (-1)), (2, .int 0), (0, .ref 0), (1, .int x)]) (st2 := [.ref 1]) (w3 := sx_w0) rfl rfl ?_
      refine sx_RP.step (pc2 := 37) (ls2 := [(4, .int (nI j)), (3, .int (-1)), (2, .int 0), (0, .ref 0), (1, .int x)]) (st2 := [.int (nI j), .ref 1]) (w3 := sx_w0) rfl rfl ?_
      refine sx_RP.step (pc2 := 38) (ls2 := [(4, .int (nI j)), (3, .int (-1)), (2, .int 0), (0, .ref 0), (1, .int x)]) (st2 := [.int x, .int (nI j), .ref 1]) (w3 := sx_w0) rfl rfl ?_
      obtain ⟨v101, c102⟩ := cp_77 ys (nI j) x
      refine sx_RP.cu (as := [.ref 1, .int (nI j), .int x]) (rest2 := []) (st3 := [.long v101]) rfl rfl rfl rfl rfl (c102) rfl ?_
      refine sx_RP.step (pc2 := 42) (ls2 := [(4, .int (nI j)), (3, .int (-1)), (2, .int 0), (0, .ref 0), (1, .int x)]) (st2 := [.ref 0, .long v101]) (w3 := sx_w0) rfl rfl ?_
      refine sx_RP.step (pc2 := 45) (ls2 := [(4, .int (nI j)), (3, .int (-1)), (2, .int 0), (0, .ref 0), (1, .int x)]) (st2 := [.ref 1, .long v101]) (w3 := sx_w0) rfl rfl ?_
      refine sx_RP.step (pc2 := 48) (ls2 := [(4, .int (nI j)), (3, .int (-1)), (2, .int 0), (0, .ref 0), (1, .int x)]) (st2 := [.long 0, .long v101]) (w3 := sx_w0) rfl rfl ?_
      refine sx_RP.and0r rfl (pc2 := 49) rfl ?_
      refine sx_RP.cu (as := [.long 0]) (rest2 := []) (st3 := [.int 0]) rfl rfl rfl rfl rfl (cl_78 ys) rfl ?_
      refine sx_RP.step (pc2 := 54) (ls2 := [(5, .int 0), (4, .int (nI j)), (3, .int (-1)), (2, .int 0), (0, .ref 0), (1, .int x)]) (st2 := []) (w3 := sx_w0) rfl rfl ?_
      refine sx_RP.step (pc2 := 55) (ls2 := [(5, .int 0), (4, .int (nI j)), (3, .int (-1)), (2, .int 0), (0, .ref 0), (1, .int x)]) (st2 := [.ref 0]) (w3 := sx_w0) rfl rfl ?_
      refine sx_RP.step (pc2 := 58) (ls2 := [(5, .int 0), (4, .int (nI j)), (3, .int (-1)), (2, .int 0), (0, .ref 0), (1, .int x)]) (st2 := [.ref 1]) (w3 := sx_w0) rfl rfl ?_
      refine sx_RP.step (pc2 := 61) (ls2 := [(5, .int 0), (4, .int (nI j)), (3, .int (-1)), (2, .int 0), (0, .ref 0), (1, .int x)]) (st2 := [.ref 2]) (w3 := sx_w0) rfl rfl ?_
      refine sx_RP.step (pc2 := 63) (ls2 := [(5, .int 0), (4, .int (nI j)), (3, .int (-1)), (2, .int 0), (0, .ref 0), (1, .int x)]) (st2 := [.int (nI j), .ref 2]) (w3 := sx_w0) rfl rfl ?_
      refine sx_RP.iald (l := List.replicate 48 0) (v := 0) rfl rfl (sx_in_nI (n := 48) hlt (by decide)) sx_rep0 (pc2 := 64) rfl ?_
      refine sx_RP.step (pc2 := 65) (ls2 := [(5, .int 0), (4, .int (nI j)), (3, .int (-1)), (2, .int 0), (0, .ref 0), (1, .int x)]) (st2 := [.int 3, .int 0]) (w3 := sx_w0) rfl rfl ?_
      refine sx_RP.step (pc2 := 68) (ls2 := [(5, .int 0), (4, .int (nI j)), (3, .int (-1)), (2, .int 0), (0, .ref 0), (1, .int x)]) (st2 := []) (w3 := sx_w0) rfl rfl ?_
      refine sx_RP.step (pc2 := 70) (ls2 := [(5, .int 0), (4, .int (nI j)), (3, .int (-1)), (2, .int 0), (0, .ref 0), (1, .int x)]) (st2 := [.int 0]) (w3 := sx_w0) rfl rfl ?_
      refine sx_RP.step (pc2 := 71) (ls2 := [(5, .int 0), (4, .int (nI j)), (3, .int (-1)), (2, .int 0), (0, .ref 0), (1, .int x)]) (st2 := [.int 0, .int 0]) (w3 := sx_w0) rfl rfl ?_
      refine sx_RP.step (pc2 := 80) (ls2 := [(5, .int 0), (4, .int (nI j)), (3, .int (-1)), (2, .int 0), (0, .ref 0), (1, .int x)]) (st2 := []) (w3 := sx_w0) rfl rfl ?_
      refine sx_RP.step (pc2 := 83) (ls2 := [(4, .int ((nI j) + 1)), (5, .int 0), (3, .int (-1)), (2, .int 0), (0, .ref 0), (1, .int x)]) (st2 := []) (w3 := sx_w0) rfl rfl ?_
      refine sx_RP.step (pc2 := 24) (ls2 := [(4, .int ((nI j) + 1)), (5, .int 0), (3, .int (-1)), (2, .int 0), (0, .ref 0), (1, .int x)]) (st2 := []) (w3 := sx_w0) rfl rfl ?_
      rw [nI_1 j]
      exact IH.2
    · refine sx_RP.step (pc2 := 26) (ls2 := [(4, .int (nI j)), (5, .int 0), (3, .int (-1)), (2, .int 0), (0, .ref 0), (1, .int x)]) (st2 := [.int (nI j)]) (w3 := sx_w0) rfl rfl ?_
      refine sx_RP.step (pc2 := 28) (ls2 := [(4, .int (nI j)), (5, .int 0), (3, .int (-1)), (2, .int 0), (0, .ref 0), (1, .int x)]) (st2 := [.int 48, .int (nI j)]) (w3 := sx_w0) rfl rfl ?_
      refine sx_RP.br (p2 := 31) (l2 := [(4, .int (nI j)), (5, .int 0), (3, .int (-1)), (2, .int 0), (0, .ref 0), (1, .int x)]) (s2 := []) (v2 := sx_w0) rfl rfl (fun q => absurd (of_decide_eq_true q) (nI_ge (b := 48) hlt (by omega))) (fun _ => ?_)
      refine sx_RP.step (pc2 := 32) (ls2 := [(4, .int (nI j)), (5, .int 0), (3, .int (-1)), (2, .int 0), (0, .ref 0), (1, .int x)]) (st2 := [.ref 0]) (w3 := sx_w0) rfl rfl ?_
      refine sx_RP.step (pc2 := 35) (ls2 := [(4, .int (nI j)), (5, .int 0), (3, .int (-1)), (2, .int 0), (0, .ref 0), (1, .int x)]) (st2 := [.ref 1]) (w3 := sx_w0) rfl rfl ?_
      refine sx_RP.step (pc2 := 37) (ls2 := [(4, .int (nI j)), (5, .int 0), (3, .int (-1)), (2, .int 0), (0, .ref 0), (1, .int x)]) (st2 := [.int (nI j), .ref 1]) (w3 := sx_w0) rfl rfl ?_
      refine sx_RP.step (pc2 := 38) (ls2 := [(4, .int (nI j)), (5, .int 0), (3, .int (-1)), (2, .int 0), (0, .ref 0), (1, .int x)]) (st2 := [.int x, .int (nI j), .ref 1]) (w3 := sx_w0) rfl rfl ?_
      obtain ⟨v101, c102⟩ := cp_77 ys (nI j) x
      refine sx_RP.cu (as := [.ref 1, .int (nI j), .int x]) (rest2 := []) (st3 := [.long v101]) rfl rfl rfl rfl rfl (c102) rfl ?_
      refine sx_RP.step (pc2 := 42) (ls2 := [(4, .int (nI j)), (5, .int 0), (3, .int (-1)), (2, .int 0), (0, .ref 0), (1, .int x)]) (st2 := [.ref 0, .long v101]) (w3 := sx_w0) rfl rfl ?_
      refine sx_RP.step (pc2 := 45) (ls2 := [(4, .int (nI j)), (5, .int 0), (3, .int (-1)), (2, .int 0), (0, .ref 0), (1, .int x)]) (st2 := [.ref 1, .long v101]) (w3 := sx_w0) rfl rfl ?_
      refine sx_RP.step (pc2 := 48) (ls2 := [(4, .int (nI j)), (5, .int 0), (3, .int (-1)), (2, .int 0), (0, .ref 0), (1, .int x)]) (st2 := [.long 0, .long v101]) (w3 := sx_w0) rfl rfl ?_
      refine sx_RP.and0r rfl (pc2 := 49) rfl ?_
      refine sx_RP.cu (as := [.long 0]) (rest2 := []) (st3 := [.int 0]) rfl rfl rfl rfl rfl (cl_78 ys) rfl ?_
      refine sx_RP.step (pc2 := 54) (ls2 := [(5, .int 0), (4, .int (nI j)), (3, .int (-1)), (2, .int 0), (0, .ref 0), (1, .int x)]) (st2 := []) (w3 := sx_w0) rfl rfl ?_
      refine sx_RP.step (pc2 := 55) (ls2 := [(5, .int 0), (4, .int (nI j)), (3, .int (-1)), (2, .int 0), (0, .ref 0), (1, .int x)]) (st2 := [.ref 0]) (w3 := sx_w0) rfl rfl ?_
      refine sx_RP.step (pc2 := 58) (ls2 := [(5, .int 0), (4, .int (nI j)), (3, .int (-1)), (2, .int 0), (0, .ref 0), (1, .int x)]) (st2 := [.ref 1]) (w3 := sx_w0) rfl rfl ?_
      refine sx_RP.step (pc2 := 61) (ls2 := [(5, .int 0), (4, .int (nI j)), (3, .int (-1)), (2, .int 0), (0, .ref 0), (1, .int x)]) (st2 := [.ref 2]) (w3 := sx_w0) rfl rfl ?_
      refine sx_RP.step (pc2 := 63) (ls2 := [(5, .int 0), (4, .int (nI j)), (3, .int (-1)), (2, .int 0), (0, .ref 0), (1, .int x)]) (st2 := [.int (nI j), .ref 2]) (w3 := sx_w0) rfl rfl ?_
      refine sx_RP.iald (l := List.replicate 48 0) (v := 0) rfl rfl (sx_in_nI (n := 48) hlt (by decide)) sx_rep0 (pc2 := 64) rfl ?_
      refine sx_RP.step (pc2 := 65) (ls2 := [(5, .int 0), (4, .int (nI j)), (3, .int (-1)), (2, .int 0), (0, .ref 0), (1, .int x)]) (st2 := [.int 3, .int 0]) (w3 := sx_w0) rfl rfl ?_
      refine sx_RP.step (pc2 := 68) (ls2 := [(5, .int 0), (4, .int (nI j)), (3, .int (-1)), (2, .int 0), (0, .ref 0), (1, .int x)]) (st2 := []) (w3 := sx_w0) rfl rfl ?_
      refine sx_RP.step (pc2 := 70) (ls2 := [(5, .int 0), (4, .int (nI j)), (3, .int (-1)), (2, .int 0), (0, .ref 0), (1, .int x)]) (st2 := [.int 0]) (w3 := sx_w0) rfl rfl ?_
      refine sx_RP.step (pc2 := 71) (ls2 := [(5, .int 0), (4, .int (nI j)), (3, .int (-1)), (2, .int 0), (0, .ref 0), (1, .int x)]) (st2 := [.int 0, .int 0]) (w3 := sx_w0) rfl rfl ?_
      refine sx_RP.step (pc2 := 80) (ls2 := [(5, .int 0), (4, .int (nI j)), (3, .int (-1)), (2, .int 0), (0, .ref 0), (1, .int x)]) (st2 := []) (w3 := sx_w0) rfl rfl ?_
      refine sx_RP.step (pc2 := 83) (ls2 := [(4, .int ((nI j) + 1)), (5, .int 0), (3, .int (-1)), (2, .int 0), (0, .ref 0), (1, .int x)]) (st2 := []) (w3 := sx_w0) rfl rfl ?_
      refine sx_RP.step (pc2 := 24) (ls2 := [(4, .int ((nI j) + 1)), (5, .int 0), (3, .int (-1)), (2, .int 0), (0, .ref 0), (1, .int x)]) (st2 := []) (w3 := sx_w0) rfl rfl ?_
      rw [nI_1 j]
      exact IH.2
set_option maxRecDepth 20000 in
set_option maxHeartbeats 4000000 in
theorem cp_202L (ys : List Int32) (x : Int32) : ∀ k j : Nat, j + k = 48 → (sx_RP (some ys) 7 202 20 [(4, .int (nI j)), (3, .int 0), (2, .int (-1)), (0, .ref 111), (1, .int x)] [] sx_vN (fun r w => r = some (.int (-1000000004)) ∧ w = sx_vN2)) ∧ (sx_RP (some ys) 7 202 20 [(4, .int (nI j)), (3, .int 0), (2, .int (-1)), (5, .int 0), (0, .ref 111), (1, .int x)] [] sx_vN (fun r w => r = some (.int (-1000000004)) ∧ w = sx_vN2))
  | 0, j, h => by
    rw [show j = 48 by omega]
    refine ⟨?_, ?_⟩
    · refine sx_RP.step (pc2 := 22) (ls2 := [(4, .int (nI 48)), (3, .int 0), (2, .int (-1)), (0, .ref 111), (1, .int x)]) (st2 := [.int (nI 48)]) (w3 := sx_vN) rfl rfl ?_
      refine sx_RP.step (pc2 := 24) (ls2 := [(4, .int (nI 48)), (3, .int 0), (2, .int (-1)), (0, .ref 111), (1, .int x)]) (st2 := [.int 48, .int (nI 48)]) (w3 := sx_vN) rfl rfl ?_
      refine sx_RP.step (pc2 := 86) (ls2 := [(4, .int (nI 48)), (3, .int 0), (2, .int (-1)), (0, .ref 111), (1, .int x)]) (st2 := []) (w3 := sx_vN) rfl rfl ?_
      refine sx_RP.step (pc2 := 87) (ls2 := [(4, .int (nI 48)), (3, .int 0), (2, .int (-1)), (0, .ref 111), (1, .int x)]) (st2 := [.int (-1)]) (w3 := sx_vN) rfl rfl ?_
      refine sx_RP.step (pc2 := 90) (ls2 := [(4, .int (nI 48)), (3, .int 0), (2, .int (-1)), (0, .ref 111), (1, .int x)]) (st2 := []) (w3 := sx_vN) rfl rfl ?_
      refine sx_RP.step (pc2 := 91) (ls2 := [(4, .int (nI 48)), (3, .int 0), (2, .int (-1)), (0, .ref 111), (1, .int x)]) (st2 := [.ref 111]) (w3 := sx_vN) rfl rfl ?_
      refine sx_RP.step (pc2 := 92) (ls2 := [(4, .int (nI 48)), (3, .int 0), (2, .int (-1)), (0, .ref 111), (1, .int x)]) (st2 := [.int 3, .ref 111]) (w3 := sx_vN) rfl rfl ?_
      refine sx_RP.cu (as := [.ref 111, .int 3]) (rest2 := []) (st3 := [.int (-1000000004)]) rfl rfl rfl rfl rfl (cn_N _) rfl ?_
      refine sx_RP.step (pc2 := 99) (ls2 := [(4, .int (nI 48)), (3, .int 0), (2, .int (-1)), (0, .ref 111), (1, .int x)]) (st2 := [.int (-1000000004)]) (w3 := sx_vN2) rfl rfl ?_
      refine sx_RP.ret rfl rfl ?_
      exact ⟨rfl, rfl⟩
    · refine sx_RP.step (pc2 := 22) (ls2 := [(4, .int (nI 48)), (3, .int 0), (2, .int (-1)), (5, .int 0), (0, .ref 111), (1, .int x)]) (st2 := [.int (nI 48)]) (w3 := sx_vN) rfl rfl ?_
      refine sx_RP.step (pc2 := 24) (ls2 := [(4, .int (nI 48)), (3, .int 0), (2, .int (-1)), (5, .int 0), (0, .ref 111), (1, .int x)]) (st2 := [.int 48, .int (nI 48)]) (w3 := sx_vN) rfl rfl ?_
      refine sx_RP.step (pc2 := 86) (ls2 := [(4, .int (nI 48)), (3, .int 0), (2, .int (-1)), (5, .int 0), (0, .ref 111), (1, .int x)]) (st2 := []) (w3 := sx_vN) rfl rfl ?_
      refine sx_RP.step (pc2 := 87) (ls2 := [(4, .int (nI 48)), (3, .int 0), (2, .int (-1)), (5, .int 0), (0, .ref 111), (1, .int x)]) (st2 := [.int (-1)]) (w3 := sx_vN) rfl rfl ?_
      refine sx_RP.step (pc2 := 90) (ls2 := [(4, .int (nI 48)), (3, .int 0), (2, .int (-1)), (5, .int 0), (0, .ref 111), (1, .int x)]) (st2 := []) (w3 := sx_vN) rfl rfl ?_
      refine sx_RP.step (pc2 := 91) (ls2 := [(4, .int (nI 48)), (3, .int 0), (2, .int (-1)), (5, .int 0), (0, .ref 111), (1, .int x)]) (st2 := [.ref 111]) (w3 := sx_vN) rfl rfl ?_
      refine sx_RP.step (pc2 := 92) (ls2 := [(4, .int (nI 48)), (3, .int 0), (2, .int (-1)), (5, .int 0), (0, .ref 111), (1, .int x)]) (st2 := [.int 3, .ref 111]) (w3 := sx_vN) rfl rfl ?_
      refine sx_RP.cu (as := [.ref 111, .int 3]) (rest2 := []) (st3 := [.int (-1000000004)]) rfl rfl rfl rfl rfl (cn_N _) rfl ?_
      refine sx_RP.step (pc2 := 99) (ls2 := [(4, .int (nI 48)), (3, .int 0), (2, .int (-1)), (5, .int 0), (0, .ref 111), (1, .int x)]) (st2 := [.int (-1000000004)]) (w3 := sx_vN2) rfl rfl ?_
      refine sx_RP.ret rfl rfl ?_
      exact ⟨rfl, rfl⟩
  | k + 1, j, h => by
    have hlt : j < 48 := by omega
    have IH := cp_202L ys x k (j + 1) (by omega)
    refine ⟨?_, ?_⟩
    · refine sx_RP.step (pc2 := 22) (ls2 := [(4, .int (nI j)), (3, .int 0), (2, .int (-1)), (0, .ref 111), (1, .int x)]) (st2 := [.int (nI j)]) (w3 := sx_vN) rfl rfl ?_
      refine sx_RP.step (pc2 := 24) (ls2 := [(4, .int (nI j)), (3, .int 0), (2, .int (-1)), (0, .ref 111), (1, .int x)]) (st2 := [.int 48, .int (nI j)]) (w3 := sx_vN) rfl rfl ?_
      refine sx_RP.br (p2 := 27) (l2 := [(4, .int (nI j)), (3, .int 0), (2, .int (-1)), (0, .ref 111), (1, .int x)]) (s2 := []) (v2 := sx_vN) rfl rfl (fun q => absurd (of_decide_eq_true q) (nI_ge (b := 48) hlt (by omega))) (fun _ => ?_)
      refine sx_RP.step (pc2 := 28) (ls2 := [(4, .int (nI j)), (3, .int 0), (2, .int (-1)), (0, .ref 111), (1, .int x)]) (st2 := [.ref 111]) (w3 := sx_vN) rfl rfl ?_
      refine sx_RP.step (pc2 := 31) (ls2 := [(4, .int (nI j)), (3, .int 0), (2, .int (-1)), (0, .ref 111), (1, .int x)]) (st2 := [.ref 112]) (w3 := sx_vN) rfl rfl ?_
      refine sx_RP.step (pc2 := 33) (ls2 := [(4, .int (nI j)), (3, .int 0), (2, .int (-1)), (0, .ref 111), (1, .int x)]) (st2 := [.int 7, .ref 112]) (w3 := sx_vN) rfl rfl ?_
      refine sx_RP.step (pc2 := 35) (ls2 := [(4, .int (nI j)), (3, .int 0), (2, .int (-1)), (0, .ref 111), (1, .int x)]) (st2 := [.int (nI j), .int 7, .ref 112]) (w3 := sx_vN) rfl rfl ?_
      refine sx_RP.step (pc2 := 36) (ls2 := [(4, .int (nI j)), (3, .int 0), (2, .int (-1)), (0, .ref 111), (1, .int x)]) (st2 := [.int (7 + (nI j)), .ref 112]) (w3 := sx_vN) rfl rfl ?_
      refine sx_RP.iald (l := sx_s0) (v := 0) rfl rfl (sx_s7 j hlt).1 (sx_s7 j hlt).2.1 (pc2 := 37) rfl ?_
      refine sx_RP.step (pc2 := 38) (ls2 := [(4, .int (nI j)), (3, .int 0), (2, .int (-1)), (0, .ref 111), (1, .int x)]) (st2 := [.int 3, .int 0]) (w3 := sx_vN) rfl rfl ?_
      refine sx_RP.step (pc2 := 45) (ls2 := [(4, .int (nI j)), (3, .int 0), (2, .int (-1)), (0, .ref 111), (1, .int x)]) (st2 := []) (w3 := sx_vN) rfl rfl ?_
      refine sx_RP.step (pc2 := 46) (ls2 := [(4, .int (nI j)), (3, .int 0), (2, .int (-1)), (0, .ref 111), (1, .int x)]) (st2 := [.ref 111]) (w3 := sx_vN) rfl rfl ?_
      refine sx_RP.step (pc2 := 48) (ls2 := [(4, .int (nI j)), (3, .int 0), (2, .int (-1)), (0, .ref 111), (1, .int x)]) (st2 := [.int (nI j), .ref 111]) (w3 := sx_vN) rfl rfl ?_
      refine sx_RP.step (pc2 := 49) (ls2 := [(4, .int (nI j)), (3, .int 0), (2, .int (-1)), (0, .ref 111), (1, .int x)]) (st2 := [.int x, .int (nI j), .ref 111]) (w3 := sx_vN) rfl rfl ?_
      refine sx_RP.cu (as := [.ref 111, .int (nI j), .int x]) (rest2 := []) (st3 := [.int 0]) rfl rfl rfl rfl rfl (cp_198n ys (nI j) x) rfl ?_
      refine sx_RP.step (pc2 := 54) (ls2 := [(5, .int 0), (4, .int (nI j)), (3, .int 0), (2, .int (-1)), (0, .ref 111), (1, .int x)]) (st2 := []) (w3 := sx_vN) rfl rfl ?_
      refine sx_RP.step (pc2 := 56) (ls2 := [(5, .int 0), (4, .int (nI j)), (3, .int 0), (2, .int (-1)), (0, .ref 111), (1, .int x)]) (st2 := [.int 0]) (w3 := sx_vN) rfl rfl ?_
      refine sx_RP.step (pc2 := 57) (ls2 := [(5, .int 0), (4, .int (nI j)), (3, .int 0), (2, .int (-1)), (0, .ref 111), (1, .int x)]) (st2 := [.int 0, .int 0]) (w3 := sx_vN) rfl rfl ?_
      refine sx_RP.step (pc2 := 65) (ls2 := [(5, .int 0), (4, .int (nI j)), (3, .int 0), (2, .int (-1)), (0, .ref 111), (1, .int x)]) (st2 := []) (w3 := sx_vN) rfl rfl ?_
      refine sx_RP.step (pc2 := 66) (ls2 := [(5, .int 0), (4, .int (nI j)), (3, .int 0), (2, .int (-1)), (0, .ref 111), (1, .int x)]) (st2 := [.int (-1)]) (w3 := sx_vN) rfl rfl ?_
      refine sx_RP.step (pc2 := 67) (ls2 := [(2, .int (-1)), (5, .int 0), (4, .int (nI j)), (3, .int 0), (0, .ref 111), (1, .int x)]) (st2 := []) (w3 := sx_vN) rfl rfl ?_
      refine sx_RP.step (pc2 := 69) (ls2 := [(2, .int (-1)), (5, .int 0), (4, .int (nI j)), (3, .int 0), (0, .ref 111), (1, .int x)]) (st2 := [.int 0]) (w3 := sx_vN) rfl rfl ?_
      refine sx_RP.step (pc2 := 70) (ls2 := [(2, .int (-1)), (5, .int 0), (4, .int (nI j)), (3, .int 0), (0, .ref 111), (1, .int x)]) (st2 := [.int 0, .int 0]) (w3 := sx_vN) rfl rfl ?_
      refine sx_RP.step (pc2 := 78) (ls2 := [(2, .int (-1)), (5, .int 0), (4, .int (nI j)), (3, .int 0), (0, .ref 111), (1, .int x)]) (st2 := []) (w3 := sx_vN) rfl rfl ?_
      refine sx_RP.step (pc2 := 79) (ls2 := [(2, .int (-1)), (5, .int 0), (4, .int (nI j)), (3, .int 0), (0, .ref 111), (1, .int x)]) (st2 := [.int 0]) (w3 := sx_vN) rfl rfl ?_
      refine sx_RP.step (pc2 := 80) (ls2 := [(3, .int 0), (2, .int (-1)), (5, .int 0), (4, .int (nI j)), (0, .ref 111), (1, .int x)]) (st2 := []) (w3 := sx_vN) rfl rfl ?_
      refine sx_RP.step (pc2 := 83) (ls2 := [(4, .int ((nI j) + 1)), (3, .int 0), (2, .int (-1)), (5, .int 0), (0, .ref 111), (1, .int x)]) (st2 := []) (w3 := sx_vN) rfl rfl ?_
      refine sx_RP.step (pc2 := 20) (ls2 := [(4, .int ((nI j) + 1)), (3, .int 0), (2, .int (-1)), (5, .int 0), (0, .ref 111), (1, .int x)]) (st2 := []) (w3 := sx_vN) rfl rfl ?_
      rw [nI_1 j]
      exact IH.2
    · refine sx_RP.step (pc2 := 22) (ls2 := [(4, .int (nI j)), (3, .int 0), (2, .int (-1)), (5, .int 0), (0, .ref 111), (1, .int x)]) (st2 := [.int (nI j)]) (w3 := sx_vN) rfl rfl ?_
      refine sx_RP.step (pc2 := 24) (ls2 := [(4, .int (nI j)), (3, .int 0), (2, .int (-1)), (5, .int 0), (0, .ref 111), (1, .int x)]) (st2 := [.int 48, .int (nI j)]) (w3 := sx_vN) rfl rfl ?_
      refine sx_RP.br (p2 := 27) (l2 := [(4, .int (nI j)), (3, .int 0), (2, .int (-1)), (5, .int 0), (0, .ref 111), (1, .int x)]) (s2 := []) (v2 := sx_vN) rfl rfl (fun q => absurd (of_decide_eq_true q) (nI_ge (b := 48) hlt (by omega))) (fun _ => ?_)
      refine sx_RP.step (pc2 := 28) (ls2 := [(4, .int (nI j)), (3, .int 0), (2, .int (-1)), (5, .int 0), (0, .ref 111), (1, .int x)]) (st2 := [.ref 111]) (w3 := sx_vN) rfl rfl ?_
      refine sx_RP.step (pc2 := 31) (ls2 := [(4, .int (nI j)), (3, .int 0), (2, .int (-1)), (5, .int 0), (0, .ref 111), (1, .int x)]) (st2 := [.ref 112]) (w3 := sx_vN) rfl rfl ?_
      refine sx_RP.step (pc2 := 33) (ls2 := [(4, .int (nI j)), (3, .int 0), (2, .int (-1)), (5, .int 0), (0, .ref 111), (1, .int x)]) (st2 := [.int 7, .ref 112]) (w3 := sx_vN) rfl rfl ?_
      refine sx_RP.step (pc2 := 35) (ls2 := [(4, .int (nI j)), (3, .int 0), (2, .int (-1)), (5, .int 0), (0, .ref 111), (1, .int x)]) (st2 := [.int (nI j), .int 7, .ref 112]) (w3 := sx_vN) rfl rfl ?_
      refine sx_RP.step (pc2 := 36) (ls2 := [(4, .int (nI j)), (3, .int 0), (2, .int (-1)), (5, .int 0), (0, .ref 111), (1, .int x)]) (st2 := [.int (7 + (nI j)), .ref 112]) (w3 := sx_vN) rfl rfl ?_
      refine sx_RP.iald (l := sx_s0) (v := 0) rfl rfl (sx_s7 j hlt).1 (sx_s7 j hlt).2.1 (pc2 := 37) rfl ?_
      refine sx_RP.step (pc2 := 38) (ls2 := [(4, .int (nI j)), (3, .int 0), (2, .int (-1)), (5, .int 0), (0, .ref 111), (1, .int x)]) (st2 := [.int 3, .int 0]) (w3 := sx_vN) rfl rfl ?_
      refine sx_RP.step (pc2 := 45) (ls2 := [(4, .int (nI j)), (3, .int 0), (2, .int (-1)), (5, .int 0), (0, .ref 111), (1, .int x)]) (st2 := []) (w3 := sx_vN) rfl rfl ?_
      refine sx_RP.step (pc2 := 46) (ls2 := [(4, .int (nI j)), (3, .int 0), (2, .int (-1)), (5, .int 0), (0, .ref 111), (1, .int x)]) (st2 := [.ref 111]) (w3 := sx_vN) rfl rfl ?_
      refine sx_RP.step (pc2 := 48) (ls2 := [(4, .int (nI j)), (3, .int 0), (2, .int (-1)), (5, .int 0), (0, .ref 111), (1, .int x)]) (st2 := [.int (nI j), .ref 111]) (w3 := sx_vN) rfl rfl ?_
      refine sx_RP.step (pc2 := 49) (ls2 := [(4, .int (nI j)), (3, .int 0), (2, .int (-1)), (5, .int 0), (0, .ref 111), (1, .int x)]) (st2 := [.int x, .int (nI j), .ref 111]) (w3 := sx_vN) rfl rfl ?_
      refine sx_RP.cu (as := [.ref 111, .int (nI j), .int x]) (rest2 := []) (st3 := [.int 0]) rfl rfl rfl rfl rfl (cp_198n ys (nI j) x) rfl ?_
      refine sx_RP.step (pc2 := 54) (ls2 := [(5, .int 0), (4, .int (nI j)), (3, .int 0), (2, .int (-1)), (0, .ref 111), (1, .int x)]) (st2 := []) (w3 := sx_vN) rfl rfl ?_
      refine sx_RP.step (pc2 := 56) (ls2 := [(5, .int 0), (4, .int (nI j)), (3, .int 0), (2, .int (-1)), (0, .ref 111), (1, .int x)]) (st2 := [.int 0]) (w3 := sx_vN) rfl rfl ?_
      refine sx_RP.step (pc2 := 57) (ls2 := [(5, .int 0), (4, .int (nI j)), (3, .int 0), (2, .int (-1)), (0, .ref 111), (1, .int x)]) (st2 := [.int 0, .int 0]) (w3 := sx_vN) rfl rfl ?_
      refine sx_RP.step (pc2 := 65) (ls2 := [(5, .int 0), (4, .int (nI j)), (3, .int 0), (2, .int (-1)), (0, .ref 111), (1, .int x)]) (st2 := []) (w3 := sx_vN) rfl rfl ?_
      refine sx_RP.step (pc2 := 66) (ls2 := [(5, .int 0), (4, .int (nI j)), (3, .int 0), (2, .int (-1)), (0, .ref 111), (1, .int x)]) (st2 := [.int (-1)]) (w3 := sx_vN) rfl rfl ?_
      refine sx_RP.step (pc2 := 67) (ls2 := [(2, .int (-1)), (5, .int 0), (4, .int (nI j)), (3, .int 0), (0, .ref 111), (1, .int x)]) (st2 := []) (w3 := sx_vN) rfl rfl ?_
      refine sx_RP.step (pc2 := 69) (ls2 := [(2, .int (-1)), (5, .int 0), (4, .int (nI j)), (3, .int 0), (0, .ref 111), (1, .int x)]) (st2 := [.int 0]) (w3 := sx_vN) rfl rfl ?_
      refine sx_RP.step (pc2 := 70) (ls2 := [(2, .int (-1)), (5, .int 0), (4, .int (nI j)), (3, .int 0), (0, .ref 111), (1, .int x)]) (st2 := [.int 0, .int 0]) (w3 := sx_vN) rfl rfl ?_
      refine sx_RP.step (pc2 := 78) (ls2 := [(2, .int (-1)), (5, .int 0), (4, .int (nI j)), (3, .int 0), (0, .ref 111), (1, .int x)]) (st2 := []) (w3 := sx_vN) rfl rfl ?_
      refine sx_RP.step (pc2 := 79) (ls2 := [(2, .int (-1)), (5, .int 0), (4, .int (nI j)), (3, .int 0), (0, .ref 111), (1, .int x)]) (st2 := [.int 0]) (w3 := sx_vN) rfl rfl ?_
      refine sx_RP.step (pc2 := 80) (ls2 := [(3, .int 0), (2, .int (-1)), (5, .int 0), (4, .int (nI j)), (0, .ref 111), (1, .int x)]) (st2 := []) (w3 := sx_vN) rfl rfl ?_
      refine sx_RP.step (pc2 := 83) (ls2 := [(4, .int ((nI j) + 1)), (3, .int 0), (2, .int (-1)), (5, .int 0), (0, .ref 111), (1, .int x)]) (st2 := []) (w3 := sx_vN) rfl rfl ?_
      refine sx_RP.step (pc2 := 20) (ls2 := [(4, .int ((nI j) + 1)), (3, .int 0), (2, .int (-1)), (5, .int 0), (0, .ref 111), (1, .int x)]) (st2 := []) (w3 := sx_vN) rfl rfl ?_
      rw [nI_1 j]
      exact IH.2
set_option maxRecDepth 20000 in
set_option maxHeartbeats 4000000 in
theorem k_mine_in (ys : List Int32) (a1 : Int32) (p0 : 1 ≤ a1 ∧ a1 ≤ 30) : sx_twoI ys 81 202 [.int a1] := by
  refine sx_twoI.of ?_
  refine sx_RP.step (pc2 := 1) (ls2 := [(0, .ref 0), (1, .int a1)]) (st2 := [.int a1]) (w3 := sx_w0) rfl rfl ?_
  refine sx_RP.step (pc2 := 2) (ls2 := [(0, .ref 0), (1, .int a1)]) (st2 := [.int 1, .int a1]) (w3 := sx_w0) rfl rfl ?_
  refine sx_RP.step (pc2 := 4) (ls2 := [(0, .ref 0), (1, .int a1)]) (st2 := [.int 30, .int 1, .int a1]) (w3 := sx_w0) rfl rfl ?_
  refine sx_RP.cu (as := [.int a1, .int 1, .int 30]) (rest2 := []) (st3 := [.int 1]) rfl rfl rfl rfl rfl (cx_8p p0) rfl ?_
  refine sx_RP.step (pc2 := 17) (ls2 := [(0, .ref 0), (1, .int a1)]) (st2 := []) (w3 := sx_w0) rfl rfl ?_
  refine sx_RP.step (pc2 := 18) (ls2 := [(0, .ref 0), (1, .int a1)]) (st2 := [.int 0]) (w3 := sx_w0) rfl rfl ?_
  refine sx_RP.step (pc2 := 19) (ls2 := [(2, .int 0), (0, .ref 0), (1, .int a1)]) (st2 := []) (w3 := sx_w0) rfl rfl ?_
  refine sx_RP.step (pc2 := 20) (ls2 := [(2, .int 0), (0, .ref 0), (1, .int a1)]) (st2 := [.int (-1)]) (w3 := sx_w0) rfl rfl ?_
  refine sx_RP.step (pc2 := 21) (ls2 := [(3, .int (-1)), (2, .int 0), (0, .ref 0), (1, .int a1)]) (st2 := []) (w3 := sx_w0) rfl rfl ?_
  refine sx_RP.step (pc2 := 22) (ls2 := [(3, .int (-1)), (2, .int 0), (0, .ref 0), (1, .int a1)]) (st2 := [.int 0]) (w3 := sx_w0) rfl rfl ?_
  refine sx_RP.step (pc2 := 24) (ls2 := [(4, .int 0), (3, .int (-1)), (2, .int 0), (0, .ref 0), (1, .int a1)]) (st2 := []) (w3 := sx_w0) rfl rfl ?_
  refine sx_RP.mono ((cp_81L ys a1 48 0 (by omega)).1) (fun r w h => ?_)
  obtain ⟨rfl, rfl⟩ := h
  refine ⟨(-1000000004), rfl, ⟨_, rfl⟩, ?_⟩
  refine sx_RP.step (pc2 := 1) (ls2 := [(0, .ref 111), (1, .int a1)]) (st2 := [.int a1]) (w3 := sx_vN) rfl rfl ?_
  refine sx_RP.cu (as := [.int a1]) (rest2 := []) (st3 := [.int 1]) rfl rfl rfl rfl rfl (cx_197p p0) rfl ?_
  refine sx_RP.step (pc2 := 13) (ls2 := [(0, .ref 111), (1, .int a1)]) (st2 := []) (w3 := sx_vN) rfl rfl ?_
  refine sx_RP.step (pc2 := 14) (ls2 := [(0, .ref 111), (1, .int a1)]) (st2 := [.int (-1)]) (w3 := sx_vN) rfl rfl ?_
  refine sx_RP.step (pc2 := 15) (ls2 := [(2, .int (-1)), (0, .ref 111), (1, .int a1)]) (st2 := []) (w3 := sx_vN) rfl rfl ?_
  refine sx_RP.step (pc2 := 16) (ls2 := [(2, .int (-1)), (0, .ref 111), (1, .int a1)]) (st2 := [.int 0]) (w3 := sx_vN) rfl rfl ?_
  refine sx_RP.step (pc2 := 17) (ls2 := [(3, .int 0), (2, .int (-1)), (0, .ref 111), (1, .int a1)]) (st2 := []) (w3 := sx_vN) rfl rfl ?_
  refine sx_RP.step (pc2 := 18) (ls2 := [(3, .int 0), (2, .int (-1)), (0, .ref 111), (1, .int a1)]) (st2 := [.int 0]) (w3 := sx_vN) rfl rfl ?_
  refine sx_RP.step (pc2 := 20) (ls2 := [(4, .int 0), (3, .int 0), (2, .int (-1)), (0, .ref 111), (1, .int a1)]) (st2 := []) (w3 := sx_vN) rfl rfl ?_
  refine sx_RP.mono ((cp_202L ys a1 48 0 (by omega)).1) (fun r w h => h.1)
