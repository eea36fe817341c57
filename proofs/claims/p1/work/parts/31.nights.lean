-- nights over a fresh object
theorem sx_RP.wd {xs : Option (List Int32)} {d mi pc : Nat} {ls : sx_L} {st : List Value} {w w2 : List sx_C} {P : Option Value → List sx_C → Prop} (h : w = w2) (k : sx_RP xs d mi pc ls st w2 P) : sx_RP xs d mi pc ls st w P := by
  subst h
  exact k
noncomputable def sx_nt (x : Int32) : List sx_C := sx_w0.set 1 (.inr (.inr (.inr (1, [.ref 2, .long 0, .ref 3, .int 0, .ref 4, .int 0, .int x, .int 0, .int 0, .int 10, .int 16]))))
noncomputable def sx_nm (u x : Int32) : List sx_C := (sx_nt u).set 112 (.inl (0, ((((List.replicate 172 (0 : Int32)).set 0 x).set 5 10).set 6 16)))
set_option maxRecDepth 20000 in
set_option maxHeartbeats 2000000 in
theorem cp_41 (ys : List Int32) (x : Int32) : sx_RU (some ys) 6 41 0 (lv_args 0 [.ref 1]) [] (sx_nt x) (some (.int 0)) (sx_nt (x + 1)) := by
  have h : sx_RP (some ys) 6 41 0 (lv_args 0 [.ref 1]) [] (sx_nt x) (fun r w => r = some (.int 0) ∧ w = sx_nt (x + 1)) := by
    refine sx_RP.step (pc2 := 1) (ls2 := [(0, .ref 1)]) (st2 := [.ref 1]) (w3 := (sx_nt x)) rfl rfl ?_
    refine sx_RP.step (pc2 := 2) (ls2 := [(0, .ref 1)]) (st2 := [.int 0, .ref 1]) (w3 := (sx_nt x)) rfl rfl ?_
    refine sx_RP.cl (as2 := [.ref 1, .int 0]) (rest2 := []) rfl rfl rfl rfl rfl rfl ?_
    refine sx_RP.step (pc2 := 1) (ls2 := [(0, .ref 1), (1, .int 0)]) (st2 := [.int 0]) (w3 := (sx_nt x)) rfl rfl ?_
    refine sx_RP.step (pc2 := 2) (ls2 := [(2, .int 0), (0, .ref 1), (1, .int 0)]) (st2 := []) (w3 := (sx_nt x)) rfl rfl ?_
    refine sx_RP.step (pc2 := 3) (ls2 := [(2, .int 0), (0, .ref 1), (1, .int 0)]) (st2 := [.int 0]) (w3 := (sx_nt x)) rfl rfl ?_
    refine sx_RP.step (pc2 := 4) (ls2 := [(3, .int 0), (2, .int 0), (0, .ref 1), (1, .int 0)]) (st2 := []) (w3 := (sx_nt x)) rfl rfl ?_
    refine sx_RP.step (pc2 := 5) (ls2 := [(3, .int 0), (2, .int 0), (0, .ref 1), (1, .int 0)]) (st2 := [.int 0]) (w3 := (sx_nt x)) rfl rfl ?_
    refine sx_RP.step (pc2 := 6) (ls2 := [(3, .int 0), (2, .int 0), (0, .ref 1), (1, .int 0)]) (st2 := [.ref 1, .int 0]) (w3 := (sx_nt x)) rfl rfl ?_
    refine sx_RP.step (pc2 := 9) (ls2 := [(3, .int 0), (2, .int 0), (0, .ref 1), (1, .int 0)]) (st2 := [.int 0, .int 0]) (w3 := (sx_nt x)) rfl rfl ?_
    refine sx_RP.step (pc2 := 34) (ls2 := [(3, .int 0), (2, .int 0), (0, .ref 1), (1, .int 0)]) (st2 := []) (w3 := (sx_nt x)) rfl rfl ?_
    refine sx_RP.step (pc2 := 35) (ls2 := [(3, .int 0), (2, .int 0), (0, .ref 1), (1, .int 0)]) (st2 := [.int 0]) (w3 := (sx_nt x)) rfl rfl ?_
    refine sx_RP.retc (st3 := [.int 0]) rfl rfl rfl ?_
    refine sx_RP.step (pc2 := 6) (ls2 := [(0, .ref 1)]) (st2 := [.ref 1, .int 0]) (w3 := (sx_nt x)) rfl rfl ?_
    refine sx_RP.step (pc2 := 7) (ls2 := [(0, .ref 1)]) (st2 := [.int 1, .ref 1, .int 0]) (w3 := (sx_nt x)) rfl rfl ?_
    refine sx_RP.cl (as2 := [.ref 1, .int 1]) (rest2 := [.int 0]) rfl rfl rfl rfl rfl rfl ?_
    refine sx_RP.step (pc2 := 1) (ls2 := [(0, .ref 1), (1, .int 1)]) (st2 := [.int 0]) (w3 := (sx_nt x)) rfl rfl ?_
    refine sx_RP.step (pc2 := 2) (ls2 := [(2, .int 0), (0, .ref 1), (1, .int 1)]) (st2 := []) (w3 := (sx_nt x)) rfl rfl ?_
    refine sx_RP.step (pc2 := 3) (ls2 := [(2, .int 0), (0, .ref 1), (1, .int 1)]) (st2 := [.int 0]) (w3 := (sx_nt x)) rfl rfl ?_
    refine sx_RP.step (pc2 := 4) (ls2 := [(3, .int 0), (2, .int 0), (0, .ref 1), (1, .int 1)]) (st2 := []) (w3 := (sx_nt x)) rfl rfl ?_
    refine sx_RP.step (pc2 := 5) (ls2 := [(3, .int 0), (2, .int 0), (0, .ref 1), (1, .int 1)]) (st2 := [.int 0]) (w3 := (sx_nt x)) rfl rfl ?_
    refine sx_RP.step (pc2 := 6) (ls2 := [(3, .int 0), (2, .int 0), (0, .ref 1), (1, .int 1)]) (st2 := [.ref 1, .int 0]) (w3 := (sx_nt x)) rfl rfl ?_
    refine sx_RP.step (pc2 := 9) (ls2 := [(3, .int 0), (2, .int 0), (0, .ref 1), (1, .int 1)]) (st2 := [.int 0, .int 0]) (w3 := (sx_nt x)) rfl rfl ?_
    refine sx_RP.step (pc2 := 34) (ls2 := [(3, .int 0), (2, .int 0), (0, .ref 1), (1, .int 1)]) (st2 := []) (w3 := (sx_nt x)) rfl rfl ?_
    refine sx_RP.step (pc2 := 35) (ls2 := [(3, .int 0), (2, .int 0), (0, .ref 1), (1, .int 1)]) (st2 := [.int 0]) (w3 := (sx_nt x)) rfl rfl ?_
    refine sx_RP.retc (st3 := [.int 0, .int 0]) rfl rfl rfl ?_
    refine sx_RP.step (pc2 := 11) (ls2 := [(0, .ref 1)]) (st2 := [.int 0]) (w3 := (sx_nt x)) rfl rfl ?_
    refine sx_RP.step (pc2 := 12) (ls2 := [(1, .int 0), (0, .ref 1)]) (st2 := []) (w3 := (sx_nt x)) rfl rfl ?_
    refine sx_RP.step (pc2 := 13) (ls2 := [(1, .int 0), (0, .ref 1)]) (st2 := [.int 0]) (w3 := (sx_nt x)) rfl rfl ?_
    refine sx_RP.step (pc2 := 14) (ls2 := [(2, .int 0), (1, .int 0), (0, .ref 1)]) (st2 := []) (w3 := (sx_nt x)) rfl rfl ?_
    refine sx_RP.step (pc2 := 15) (ls2 := [(2, .int 0), (1, .int 0), (0, .ref 1)]) (st2 := [.int 0]) (w3 := (sx_nt x)) rfl rfl ?_
    refine sx_RP.step (pc2 := 16) (ls2 := [(2, .int 0), (1, .int 0), (0, .ref 1)]) (st2 := [.ref 1, .int 0]) (w3 := (sx_nt x)) rfl rfl ?_
    refine sx_RP.step (pc2 := 19) (ls2 := [(2, .int 0), (1, .int 0), (0, .ref 1)]) (st2 := [.int 0, .int 0]) (w3 := (sx_nt x)) rfl rfl ?_
    refine sx_RP.step (pc2 := 50) (ls2 := [(2, .int 0), (1, .int 0), (0, .ref 1)]) (st2 := []) (w3 := (sx_nt x)) rfl rfl ?_
    refine sx_RP.step (pc2 := 51) (ls2 := [(2, .int 0), (1, .int 0), (0, .ref 1)]) (st2 := [.int 0]) (w3 := (sx_nt x)) rfl rfl ?_
    refine sx_RP.step (pc2 := 52) (ls2 := [(2, .int 0), (1, .int 0), (0, .ref 1)]) (st2 := []) (w3 := (sx_nt x)) rfl rfl ?_
    refine sx_RP.step (pc2 := 53) (ls2 := [(2, .int 0), (1, .int 0), (0, .ref 1)]) (st2 := [.int 0]) (w3 := (sx_nt x)) rfl rfl ?_
    refine sx_RP.step (pc2 := 54) (ls2 := [(2, .int 0), (1, .int 0), (0, .ref 1)]) (st2 := [.ref 1, .int 0]) (w3 := (sx_nt x)) rfl rfl ?_
    refine sx_RP.step (pc2 := 57) (ls2 := [(2, .int 0), (1, .int 0), (0, .ref 1)]) (st2 := [.int 0, .int 0]) (w3 := (sx_nt x)) rfl rfl ?_
    refine sx_RP.step (pc2 := 115) (ls2 := [(2, .int 0), (1, .int 0), (0, .ref 1)]) (st2 := []) (w3 := (sx_nt x)) rfl rfl ?_
    refine sx_RP.step (pc2 := 116) (ls2 := [(2, .int 0), (1, .int 0), (0, .ref 1)]) (st2 := [.ref 1]) (w3 := (sx_nt x)) rfl rfl ?_
    refine sx_RP.step (pc2 := 117) (ls2 := [(2, .int 0), (1, .int 0), (0, .ref 1)]) (st2 := [.ref 1, .ref 1]) (w3 := (sx_nt x)) rfl rfl ?_
    refine sx_RP.step (pc2 := 120) (ls2 := [(2, .int 0), (1, .int 0), (0, .ref 1)]) (st2 := [.int x, .ref 1]) (w3 := (sx_nt x)) rfl rfl ?_
    refine sx_RP.step (pc2 := 121) (ls2 := [(2, .int 0), (1, .int 0), (0, .ref 1)]) (st2 := [.int 1, .int x, .ref 1]) (w3 := (sx_nt x)) rfl rfl ?_
    refine sx_RP.step (pc2 := 122) (ls2 := [(2, .int 0), (1, .int 0), (0, .ref 1)]) (st2 := [.int (x + 1), .ref 1]) (w3 := (sx_nt x)) rfl rfl ?_
    refine sx_RP.step (pc2 := 125) (ls2 := [(2, .int 0), (1, .int 0), (0, .ref 1)]) (st2 := []) (w3 := ((sx_nt x).set 1 (.inr (.inr (.inr (1, [.ref 2, .long 0, .ref 3, .int 0, .ref 4, .int 0, .int (x + 1), .int 0, .int 0, .int 10, .int 16])))))) rfl rfl ?_
    refine sx_RP.step (pc2 := 126) (ls2 := [(2, .int 0), (1, .int 0), (0, .ref 1)]) (st2 := [.int 0]) (w3 := ((sx_nt x).set 1 (.inr (.inr (.inr (1, [.ref 2, .long 0, .ref 3, .int 0, .ref 4, .int 0, .int (x + 1), .int 0, .int 0, .int 10, .int 16])))))) rfl rfl ?_
    refine sx_RP.step (pc2 := 127) (ls2 := [(2, .int 0), (1, .int 0), (0, .ref 1)]) (st2 := [.ref 1, .int 0]) (w3 := ((sx_nt x).set 1 (.inr (.inr (.inr (1, [.ref 2, .long 0, .ref 3, .int 0, .ref 4, .int 0, .int (x + 1), .int 0, .int 0, .int 10, .int 16])))))) rfl rfl ?_
    refine sx_RP.step (pc2 := 128) (ls2 := [(2, .int 0), (1, .int 0), (0, .ref 1)]) (st2 := [.int 0, .ref 1, .int 0]) (w3 := ((sx_nt x).set 1 (.inr (.inr (.inr (1, [.ref 2, .long 0, .ref 3, .int 0, .ref 4, .int 0, .int (x + 1), .int 0, .int 0, .int 10, .int 16])))))) rfl rfl ?_
    refine sx_RP.cl (as2 := [.ref 1, .int 0]) (rest2 := [.int 0]) rfl rfl rfl rfl rfl rfl ?_
    refine sx_RP.step (pc2 := 1) (ls2 := [(0, .ref 1), (1, .int 0)]) (st2 := [.int 0]) (w3 := ((sx_nt x).set 1 (.inr (.inr (.inr (1, [.ref 2, .long 0, .ref 3, .int 0, .ref 4, .int 0, .int (x + 1), .int 0, .int 0, .int 10, .int 16])))))) rfl rfl ?_
    refine sx_RP.step (pc2 := 2) (ls2 := [(2, .int 0), (0, .ref 1), (1, .int 0)]) (st2 := []) (w3 := ((sx_nt x).set 1 (.inr (.inr (.inr (1, [.ref 2, .long 0, .ref 3, .int 0, .ref 4, .int 0, .int (x + 1), .int 0, .int 0, .int 10, .int 16])))))) rfl rfl ?_
    refine sx_RP.step (pc2 := 3) (ls2 := [(2, .int 0), (0, .ref 1), (1, .int 0)]) (st2 := [.int 0]) (w3 := ((sx_nt x).set 1 (.inr (.inr (.inr (1, [.ref 2, .long 0, .ref 3, .int 0, .ref 4, .int 0, .int (x + 1), .int 0, .int 0, .int 10, .int 16])))))) rfl rfl ?_
    refine sx_RP.step (pc2 := 4) (ls2 := [(3, .int 0), (2, .int 0), (0, .ref 1), (1, .int 0)]) (st2 := []) (w3 := ((sx_nt x).set 1 (.inr (.inr (.inr (1, [.ref 2, .long 0, .ref 3, .int 0, .ref 4, .int 0, .int (x + 1), .int 0, .int 0, .int 10, .int 16])))))) rfl rfl ?_
    refine sx_RP.step (pc2 := 5) (ls2 := [(3, .int 0), (2, .int 0), (0, .ref 1), (1, .int 0)]) (st2 := [.int 0]) (w3 := ((sx_nt x).set 1 (.inr (.inr (.inr (1, [.ref 2, .long 0, .ref 3, .int 0, .ref 4, .int 0, .int (x + 1), .int 0, .int 0, .int 10, .int 16])))))) rfl rfl ?_
    refine sx_RP.step (pc2 := 6) (ls2 := [(3, .int 0), (2, .int 0), (0, .ref 1), (1, .int 0)]) (st2 := [.ref 1, .int 0]) (w3 := ((sx_nt x).set 1 (.inr (.inr (.inr (1, [.ref 2, .long 0, .ref 3, .int 0, .ref 4, .int 0, .int (x + 1), .int 0, .int 0, .int 10, .int 16])))))) rfl rfl ?_
    refine sx_RP.step (pc2 := 9) (ls2 := [(3, .int 0), (2, .int 0), (0, .ref 1), (1, .int 0)]) (st2 := [.int 0, .int 0]) (w3 := ((sx_nt x).set 1 (.inr (.inr (.inr (1, [.ref 2, .long 0, .ref 3, .int 0, .ref 4, .int 0, .int (x + 1), .int 0, .int 0, .int 10, .int 16])))))) rfl rfl ?_
    refine sx_RP.step (pc2 := 34) (ls2 := [(3, .int 0), (2, .int 0), (0, .ref 1), (1, .int 0)]) (st2 := []) (w3 := ((sx_nt x).set 1 (.inr (.inr (.inr (1, [.ref 2, .long 0, .ref 3, .int 0, .ref 4, .int 0, .int (x + 1), .int 0, .int 0, .int 10, .int 16])))))) rfl rfl ?_
    refine sx_RP.step (pc2 := 35) (ls2 := [(3, .int 0), (2, .int 0), (0, .ref 1), (1, .int 0)]) (st2 := [.int 0]) (w3 := ((sx_nt x).set 1 (.inr (.inr (.inr (1, [.ref 2, .long 0, .ref 3, .int 0, .ref 4, .int 0, .int (x + 1), .int 0, .int 0, .int 10, .int 16])))))) rfl rfl ?_
    refine sx_RP.retc (st3 := [.int 0, .int 0]) rfl rfl rfl ?_
    refine sx_RP.step (pc2 := 132) (ls2 := [(2, .int 0), (1, .int 0), (0, .ref 1)]) (st2 := [.int 0]) (w3 := ((sx_nt x).set 1 (.inr (.inr (.inr (1, [.ref 2, .long 0, .ref 3, .int 0, .ref 4, .int 0, .int (x + 1), .int 0, .int 0, .int 10, .int 16])))))) rfl rfl ?_
    refine sx_RP.step (pc2 := 133) (ls2 := [(2, .int 0), (1, .int 0), (0, .ref 1)]) (st2 := [.ref 1, .int 0]) (w3 := ((sx_nt x).set 1 (.inr (.inr (.inr (1, [.ref 2, .long 0, .ref 3, .int 0, .ref 4, .int 0, .int (x + 1), .int 0, .int 0, .int 10, .int 16])))))) rfl rfl ?_
    refine sx_RP.step (pc2 := 134) (ls2 := [(2, .int 0), (1, .int 0), (0, .ref 1)]) (st2 := [.int 1, .ref 1, .int 0]) (w3 := ((sx_nt x).set 1 (.inr (.inr (.inr (1, [.ref 2, .long 0, .ref 3, .int 0, .ref 4, .int 0, .int (x + 1), .int 0, .int 0, .int 10, .int 16])))))) rfl rfl ?_
    refine sx_RP.cl (as2 := [.ref 1, .int 1]) (rest2 := [.int 0]) rfl rfl rfl rfl rfl rfl ?_
    refine sx_RP.step (pc2 := 1) (ls2 := [(0, .ref 1), (1, .int 1)]) (st2 := [.int 0]) (w3 := ((sx_nt x).set 1 (.inr (.inr (.inr (1, [.ref 2, .long 0, .ref 3, .int 0, .ref 4, .int 0, .int (x + 1), .int 0, .int 0, .int 10, .int 16])))))) rfl rfl ?_
    refine sx_RP.step (pc2 := 2) (ls2 := [(2, .int 0), (0, .ref 1), (1, .int 1)]) (st2 := []) (w3 := ((sx_nt x).set 1 (.inr (.inr (.inr (1, [.ref 2, .long 0, .ref 3, .int 0, .ref 4, .int 0, .int (x + 1), .int 0, .int 0, .int 10, .int 16])))))) rfl rfl ?_
    refine sx_RP.step (pc2 := 3) (ls2 := [(2, .int 0), (0, .ref 1), (1, .int 1)]) (st2 := [.int 0]) (w3 := ((sx_nt x).set 1 (.inr (.inr (.inr (1, [.ref 2, .long 0, .ref 3, .int 0, .ref 4, .int 0, .int (x + 1), .int 0, .int 0, .int 10, .int 16])))))) rfl rfl ?_
    refine sx_RP.step (pc2 := 4) (ls2 := [(3, .int 0), (2, .int 0), (0, .ref 1), (1, .int 1)]) (st2 := []) (w3 := ((sx_nt x).set 1 (.inr (.inr (.inr (1, [.ref 2, .long 0, .ref 3, .int 0, .ref 4, .int 0, .int (x + 1), .int 0, .int 0, .int 10, .int 16])))))) rfl rfl ?_
    refine sx_RP.step (pc2 := 5) (ls2 := [(3, .int 0), (2, .int 0), (0, .ref 1), (1, .int 1)]) (st2 := [.int 0]) (w3 := ((sx_nt x).set 1 (.inr (.inr (.inr (1, [.ref 2, .long 0, .ref 3, .int 0, .ref 4, .int 0, .int (x + 1), .int 0, .int 0, .int 10, .int 16])))))) rfl rfl ?_
    refine sx_RP.step (pc2 := 6) (ls2 := [(3, .int 0), (2, .int 0), (0, .ref 1), (1, .int 1)]) (st2 := [.ref 1, .int 0]) (w3 := ((sx_nt x).set 1 (.inr (.inr (.inr (1, [.ref 2, .long 0, .ref 3, .int 0, .ref 4, .int 0, .int (x + 1), .int 0, .int 0, .int 10, .int 16])))))) rfl rfl ?_
    refine sx_RP.step (pc2 := 9) (ls2 := [(3, .int 0), (2, .int 0), (0, .ref 1), (1, .int 1)]) (st2 := [.int 0, .int 0]) (w3 := ((sx_nt x).set 1 (.inr (.inr (.inr (1, [.ref 2, .long 0, .ref 3, .int 0, .ref 4, .int 0, .int (x + 1), .int 0, .int 0, .int 10, .int 16])))))) rfl rfl ?_
    refine sx_RP.step (pc2 := 34) (ls2 := [(3, .int 0), (2, .int 0), (0, .ref 1), (1, .int 1)]) (st2 := []) (w3 := ((sx_nt x).set 1 (.inr (.inr (.inr (1, [.ref 2, .long 0, .ref 3, .int 0, .ref 4, .int 0, .int (x + 1), .int 0, .int 0, .int 10, .int 16])))))) rfl rfl ?_
    refine sx_RP.step (pc2 := 35) (ls2 := [(3, .int 0), (2, .int 0), (0, .ref 1), (1, .int 1)]) (st2 := [.int 0]) (w3 := ((sx_nt x).set 1 (.inr (.inr (.inr (1, [.ref 2, .long 0, .ref 3, .int 0, .ref 4, .int 0, .int (x + 1), .int 0, .int 0, .int 10, .int 16])))))) rfl rfl ?_
    refine sx_RP.retc (st3 := [.int 0, .int 0]) rfl rfl rfl ?_
    refine sx_RP.step (pc2 := 138) (ls2 := [(2, .int 0), (1, .int 0), (0, .ref 1)]) (st2 := [.int 0]) (w3 := ((sx_nt x).set 1 (.inr (.inr (.inr (1, [.ref 2, .long 0, .ref 3, .int 0, .ref 4, .int 0, .int (x + 1), .int 0, .int 0, .int 10, .int 16])))))) rfl rfl ?_
    refine sx_RP.ret rfl rfl ?_
    exact ⟨rfl, rfl⟩
  obtain ⟨r, w2, h1, rfl, rfl⟩ := h
  exact h1
set_option maxRecDepth 20000 in
set_option maxHeartbeats 2000000 in
theorem cp_169 (ys : List Int32) (u x : Int32) : sx_RU (some ys) 5 169 0 (lv_args 0 [.ref 111]) [] (sx_nm u x) none (sx_nm u (x + 1)) := by
  have h : sx_RP (some ys) 5 169 0 (lv_args 0 [.ref 111]) [] (sx_nm u x) (fun r w => r = none ∧ w = sx_nm u (x + 1)) := by
    refine sx_RP.step (pc2 := 1) (ls2 := [(0, .ref 111)]) (st2 := [.int 0]) (w3 := (sx_nm u x)) rfl rfl ?_
    refine sx_RP.step (pc2 := 2) (ls2 := [(1, .int 0), (0, .ref 111)]) (st2 := []) (w3 := (sx_nm u x)) rfl rfl ?_
    refine sx_RP.step (pc2 := 3) (ls2 := [(1, .int 0), (0, .ref 111)]) (st2 := [.int 0]) (w3 := (sx_nm u x)) rfl rfl ?_
    refine sx_RP.step (pc2 := 4) (ls2 := [(1, .int 0), (0, .ref 111)]) (st2 := [.ref 111, .int 0]) (w3 := (sx_nm u x)) rfl rfl ?_
    refine sx_RP.step (pc2 := 7) (ls2 := [(1, .int 0), (0, .ref 111)]) (st2 := [.ref 112, .int 0]) (w3 := (sx_nm u x)) rfl rfl ?_
    refine sx_RP.step (pc2 := 8) (ls2 := [(1, .int 0), (0, .ref 111)]) (st2 := [.int 1, .ref 112, .int 0]) (w3 := (sx_nm u x)) rfl rfl ?_
    refine sx_RP.step (pc2 := 9) (ls2 := [(1, .int 0), (0, .ref 111)]) (st2 := [.int 0, .int 0]) (w3 := (sx_nm u x)) rfl rfl ?_
    refine sx_RP.step (pc2 := 31) (ls2 := [(1, .int 0), (0, .ref 111)]) (st2 := []) (w3 := (sx_nm u x)) rfl rfl ?_
    refine sx_RP.step (pc2 := 32) (ls2 := [(1, .int 0), (0, .ref 111)]) (st2 := [.int 0]) (w3 := (sx_nm u x)) rfl rfl ?_
    refine sx_RP.step (pc2 := 33) (ls2 := [(1, .int 0), (0, .ref 111)]) (st2 := []) (w3 := (sx_nm u x)) rfl rfl ?_
    refine sx_RP.step (pc2 := 34) (ls2 := [(1, .int 0), (0, .ref 111)]) (st2 := [.int 0]) (w3 := (sx_nm u x)) rfl rfl ?_
    refine sx_RP.step (pc2 := 35) (ls2 := [(1, .int 0), (0, .ref 111)]) (st2 := [.ref 111, .int 0]) (w3 := (sx_nm u x)) rfl rfl ?_
    refine sx_RP.step (pc2 := 38) (ls2 := [(1, .int 0), (0, .ref 111)]) (st2 := [.ref 112, .int 0]) (w3 := (sx_nm u x)) rfl rfl ?_
    refine sx_RP.step (pc2 := 39) (ls2 := [(1, .int 0), (0, .ref 111)]) (st2 := [.int 1, .ref 112, .int 0]) (w3 := (sx_nm u x)) rfl rfl ?_
    refine sx_RP.step (pc2 := 40) (ls2 := [(1, .int 0), (0, .ref 111)]) (st2 := [.int 0, .int 0]) (w3 := (sx_nm u x)) rfl rfl ?_
    refine sx_RP.step (pc2 := 92) (ls2 := [(1, .int 0), (0, .ref 111)]) (st2 := []) (w3 := (sx_nm u x)) rfl rfl ?_
    refine sx_RP.step (pc2 := 93) (ls2 := [(1, .int 0), (0, .ref 111)]) (st2 := [.ref 111]) (w3 := (sx_nm u x)) rfl rfl ?_
    refine sx_RP.step (pc2 := 96) (ls2 := [(1, .int 0), (0, .ref 111)]) (st2 := [.ref 112]) (w3 := (sx_nm u x)) rfl rfl ?_
    refine sx_RP.step (pc2 := 97) (ls2 := [(1, .int 0), (0, .ref 111)]) (st2 := [.int 0, .ref 112]) (w3 := (sx_nm u x)) rfl rfl ?_
    refine sx_RP.step (pc2 := 98) (ls2 := [(1, .int 0), (0, .ref 111)]) (st2 := [.int 0, .ref 112, .int 0, .ref 112]) (w3 := (sx_nm u x)) rfl rfl ?_
    refine sx_RP.step (pc2 := 99) (ls2 := [(1, .int 0), (0, .ref 111)]) (st2 := [.int x, .int 0, .ref 112]) (w3 := (sx_nm u x)) rfl rfl ?_
    refine sx_RP.step (pc2 := 100) (ls2 := [(1, .int 0), (0, .ref 111)]) (st2 := [.int 1, .int x, .int 0, .ref 112]) (w3 := (sx_nm u x)) rfl rfl ?_
    refine sx_RP.step (pc2 := 101) (ls2 := [(1, .int 0), (0, .ref 111)]) (st2 := [.int (x + 1), .int 0, .ref 112]) (w3 := (sx_nm u x)) rfl rfl ?_
    refine sx_RP.step (pc2 := 102) (ls2 := [(1, .int 0), (0, .ref 111)]) (st2 := []) (w3 := ((sx_nm u x).set 112 (.inl (0, ((((List.replicate 172 (0 : Int32)).set 0 (x + 1)).set 5 10).set 6 16))))) rfl rfl ?_
    refine sx_RP.ret rfl rfl ?_
    exact ⟨rfl, rfl⟩
  obtain ⟨r, w2, h1, rfl, rfl⟩ := h
  exact h1
set_option maxRecDepth 20000 in
set_option maxHeartbeats 2000000 in
theorem cp_39 (ys : List Int32) (N : Nat) (hN : N ≤ 60) : ∀ k j : Nat, j + k = N → sx_RP (some ys) 7 39 39 [(3, .int (nI j)), (2, .int 0), (0, .ref 0), (1, .int (nI N))] [] (sx_nt (nI j)) (fun r w => r = some (.int 0) ∧ w = sx_nt (nI N))
  | 0, j, h => by
    rw [show j = N by omega]
    refine sx_RP.step (pc2 := 40) (ls2 := [(3, .int (nI N)), (2, .int 0), (0, .ref 0), (1, .int (nI N))]) (st2 := [.int (nI N)]) (w3 := (sx_nt (nI N))) rfl rfl ?_
    refine sx_RP.step (pc2 := 41) (ls2 := [(3, .int (nI N)), (2, .int 0), (0, .ref 0), (1, .int (nI N))]) (st2 := [.int (nI N), .int (nI N)]) (w3 := (sx_nt (nI N))) rfl rfl ?_
    refine sx_RP.br (p1 := 60) (l1 := [(3, .int (nI N)), (2, .int 0), (0, .ref 0), (1, .int (nI N))]) (s1 := []) (v1 := (sx_nt (nI N))) rfl rfl (fun _ => ?_) (fun q => absurd (Int32.le_refl (nI N)) (of_decide_eq_false q))
    refine sx_RP.step (pc2 := 61) (ls2 := [(3, .int (nI N)), (2, .int 0), (0, .ref 0), (1, .int (nI N))]) (st2 := [.int 0]) (w3 := (sx_nt (nI N))) rfl rfl ?_
    refine sx_RP.ret rfl rfl ?_
    exact ⟨rfl, rfl⟩
  | k + 1, j, h => by
    have hlt : j < N := by omega
    refine sx_RP.step (pc2 := 40) (ls2 := [(3, .int (nI j)), (2, .int 0), (0, .ref 0), (1, .int (nI N))]) (st2 := [.int (nI j)]) (w3 := (sx_nt (nI j))) rfl rfl ?_
    refine sx_RP.step (pc2 := 41) (ls2 := [(3, .int (nI j)), (2, .int 0), (0, .ref 0), (1, .int (nI N))]) (st2 := [.int (nI N), .int (nI j)]) (w3 := (sx_nt (nI j))) rfl rfl ?_
    refine sx_RP.br (p2 := 44) (l2 := [(3, .int (nI j)), (2, .int 0), (0, .ref 0), (1, .int (nI N))]) (s2 := []) (v2 := (sx_nt (nI j))) rfl rfl (fun q => absurd (of_decide_eq_true q) (nI_ge hlt (by omega))) (fun _ => ?_)
    refine sx_RP.step (pc2 := 45) (ls2 := [(3, .int (nI j)), (2, .int 0), (0, .ref 0), (1, .int (nI N))]) (st2 := [.int 0]) (w3 := (sx_nt (nI j))) rfl rfl ?_
    refine sx_RP.step (pc2 := 46) (ls2 := [(3, .int (nI j)), (2, .int 0), (0, .ref 0), (1, .int (nI N))]) (st2 := [.ref 0, .int 0]) (w3 := (sx_nt (nI j))) rfl rfl ?_
    refine sx_RP.step (pc2 := 49) (ls2 := [(3, .int (nI j)), (2, .int 0), (0, .ref 0), (1, .int (nI N))]) (st2 := [.ref 1, .int 0]) (w3 := (sx_nt (nI j))) rfl rfl ?_
    refine sx_RP.cu (as := [.ref 1]) (rest2 := [.int 0]) (st3 := [.int 0, .int 0]) rfl rfl rfl rfl rfl (cp_41 ys (nI j)) rfl ?_
    refine sx_RP.step (pc2 := 53) (ls2 := [(3, .int (nI j)), (2, .int 0), (0, .ref 0), (1, .int (nI N))]) (st2 := [.int 0]) (w3 := (sx_nt (nI j + 1))) rfl rfl ?_
    refine sx_RP.step (pc2 := 54) (ls2 := [(2, .int 0), (3, .int (nI j)), (0, .ref 0), (1, .int (nI N))]) (st2 := []) (w3 := (sx_nt (nI j + 1))) rfl rfl ?_
    refine sx_RP.step (pc2 := 57) (ls2 := [(3, .int ((nI j) + 1)), (2, .int 0), (0, .ref 0), (1, .int (nI N))]) (st2 := []) (w3 := (sx_nt (nI j + 1))) rfl rfl ?_
    refine sx_RP.step (pc2 := 39) (ls2 := [(3, .int ((nI j) + 1)), (2, .int 0), (0, .ref 0), (1, .int (nI N))]) (st2 := []) (w3 := (sx_nt (nI j + 1))) rfl rfl ?_
    rw [nI_1]
    exact cp_39 ys N hN k (j + 1) (by omega)
set_option maxRecDepth 20000 in
set_option maxHeartbeats 2000000 in
theorem cp_168L (ys : List Int32) (u : Int32) (N : Nat) (hN : N ≤ 60) : ∀ k j : Nat, j + k = N → sx_RP (some ys) 6 168 2 [(2, .int (nI j)), (0, .ref 111), (1, .int (nI N))] [] (sx_nm u (nI j)) (fun r w => r = none ∧ w = sx_nm u (nI N))
  | 0, j, h => by
    rw [show j = N by omega]
    refine sx_RP.step (pc2 := 3) (ls2 := [(2, .int (nI N)), (0, .ref 111), (1, .int (nI N))]) (st2 := [.int (nI N)]) (w3 := (sx_nm u (nI N))) rfl rfl ?_
    refine sx_RP.step (pc2 := 4) (ls2 := [(2, .int (nI N)), (0, .ref 111), (1, .int (nI N))]) (st2 := [.int (nI N), .int (nI N)]) (w3 := (sx_nm u (nI N))) rfl rfl ?_
    refine sx_RP.br (p1 := 17) (l1 := [(2, .int (nI N)), (0, .ref 111), (1, .int (nI N))]) (s1 := []) (v1 := (sx_nm u (nI N))) rfl rfl (fun _ => ?_) (fun q => absurd (Int32.le_refl (nI N)) (of_decide_eq_false q))
    refine sx_RP.ret rfl rfl ?_
    exact ⟨rfl, rfl⟩
  | k + 1, j, h => by
    have hlt : j < N := by omega
    refine sx_RP.step (pc2 := 3) (ls2 := [(2, .int (nI j)), (0, .ref 111), (1, .int (nI N))]) (st2 := [.int (nI j)]) (w3 := (sx_nm u (nI j))) rfl rfl ?_
    refine sx_RP.step (pc2 := 4) (ls2 := [(2, .int (nI j)), (0, .ref 111), (1, .int (nI N))]) (st2 := [.int (nI N), .int (nI j)]) (w3 := (sx_nm u (nI j))) rfl rfl ?_
    refine sx_RP.br (p2 := 7) (l2 := [(2, .int (nI j)), (0, .ref 111), (1, .int (nI N))]) (s2 := []) (v2 := (sx_nm u (nI j))) rfl rfl (fun q => absurd (of_decide_eq_true q) (nI_ge hlt (by omega))) (fun _ => ?_)
    refine sx_RP.step (pc2 := 8) (ls2 := [(2, .int (nI j)), (0, .ref 111), (1, .int (nI N))]) (st2 := [.ref 111]) (w3 := (sx_nm u (nI j))) rfl rfl ?_
    refine sx_RP.cu (as := [.ref 111]) (rest2 := []) (st3 := []) rfl rfl rfl rfl rfl (cp_169 ys u (nI j)) rfl ?_
    refine sx_RP.step (pc2 := 14) (ls2 := [(2, .int ((nI j) + 1)), (0, .ref 111), (1, .int (nI N))]) (st2 := []) (w3 := (sx_nm u (nI j + 1))) rfl rfl ?_
    refine sx_RP.step (pc2 := 2) (ls2 := [(2, .int ((nI j) + 1)), (0, .ref 111), (1, .int (nI N))]) (st2 := []) (w3 := (sx_nm u (nI j + 1))) rfl rfl ?_
    rw [nI_1]
    exact cp_168L ys u N hN k (j + 1) (by omega)
set_option maxRecDepth 20000 in
set_option maxHeartbeats 2000000 in
theorem cp_168 (ys : List Int32) (u : Int32) (N : Nat) (hN : N ≤ 60) : sx_RU (some ys) 6 168 0 (lv_args 0 [.ref 111, .int (nI N)]) [] (sx_nt u) none (sx_nm u (nI N)) := by
  have h : sx_RP (some ys) 6 168 0 (lv_args 0 [.ref 111, .int (nI N)]) [] (sx_nt u) (fun r w => r = none ∧ w = sx_nm u (nI N)) := by
    refine sx_RP.step (pc2 := 1) (ls2 := [(0, .ref 111), (1, .int (nI N))]) (st2 := [.int 0]) (w3 := (sx_nt u)) rfl rfl ?_
    refine sx_RP.step (pc2 := 2) (ls2 := [(2, .int 0), (0, .ref 111), (1, .int (nI N))]) (st2 := []) (w3 := (sx_nt u)) rfl rfl ?_
    refine sx_RP.wd (w2 := sx_nm u (nI 0)) rfl ?_
    exact cp_168L ys u N hN N 0 (by omega)
  obtain ⟨r, w2, h1, rfl, rfl⟩ := h
  exact h1
set_option maxRecDepth 20000 in
set_option maxHeartbeats 2000000 in
theorem k_nights_in (ys : List Int32) (N : Nat) (hN : N ≤ 60) (p0 : 1 ≤ nI N ∧ nI N ≤ 60) : sx_twoI ys 39 164 [.int (nI N)] := by
  have h8 : 0 + nI N ≤ 999 := by
    rw [show (0 : Int32) + nI N = nI (0 + N) from nI_add 0 N]
    exact nI_le (b := 999) (by omega) (by decide)
  have h9 : ¬ 999 < 0 + nI N := Int32.not_lt.mpr h8
  refine sx_twoI.of ?_
  refine sx_RP.step (pc2 := 1) (ls2 := [(0, .ref 0), (1, .int (nI N))]) (st2 := [.int (nI N)]) (w3 := sx_w0) rfl rfl ?_
  refine sx_RP.step (pc2 := 2) (ls2 := [(0, .ref 0), (1, .int (nI N))]) (st2 := [.int 1, .int (nI N)]) (w3 := sx_w0) rfl rfl ?_
  refine sx_RP.step (pc2 := 4) (ls2 := [(0, .ref 0), (1, .int (nI N))]) (st2 := [.int 60, .int 1, .int (nI N)]) (w3 := sx_w0) rfl rfl ?_
  refine sx_RP.cu (as := [.int (nI N), .int 1, .int 60]) (rest2 := []) (st3 := [.int 1]) rfl rfl rfl rfl rfl (cx_8p p0) rfl ?_
  refine sx_RP.step (pc2 := 17) (ls2 := [(0, .ref 0), (1, .int (nI N))]) (st2 := []) (w3 := sx_w0) rfl rfl ?_
  refine sx_RP.step (pc2 := 18) (ls2 := [(0, .ref 0), (1, .int (nI N))]) (st2 := [.ref 0]) (w3 := sx_w0) rfl rfl ?_
  refine sx_RP.step (pc2 := 21) (ls2 := [(0, .ref 0), (1, .int (nI N))]) (st2 := [.ref 1]) (w3 := sx_w0) rfl rfl ?_
  refine sx_RP.step (pc2 := 22) (ls2 := [(0, .ref 0), (1, .int (nI N))]) (st2 := [.int (nI N), .ref 1]) (w3 := sx_w0) rfl rfl ?_
  refine sx_RP.cl (as2 := [.ref 1, .int (nI N)]) (rest2 := []) rfl rfl rfl rfl rfl rfl ?_
  refine sx_RP.step (pc2 := 1) (ls2 := [(0, .ref 1), (1, .int (nI N))]) (st2 := [.ref 1]) (w3 := sx_w0) rfl rfl ?_
  refine sx_RP.step (pc2 := 4) (ls2 := [(0, .ref 1), (1, .int (nI N))]) (st2 := [.int 0]) (w3 := sx_w0) rfl rfl ?_
  refine sx_RP.step (pc2 := 5) (ls2 := [(0, .ref 1), (1, .int (nI N))]) (st2 := [.int (nI N), .int 0]) (w3 := sx_w0) rfl rfl ?_
  refine sx_RP.step (pc2 := 6) (ls2 := [(0, .ref 1), (1, .int (nI N))]) (st2 := [.int (0 + (nI N))]) (w3 := sx_w0) rfl rfl ?_
  refine sx_RP.step (pc2 := 9) (ls2 := [(0, .ref 1), (1, .int (nI N))]) (st2 := [.int 999, .int (0 + (nI N))]) (w3 := sx_w0) rfl rfl ?_
  refine sx_RP.br (p2 := 12) (l2 := [(0, .ref 1), (1, .int (nI N))]) (s2 := []) (v2 := sx_w0) rfl rfl (fun q => absurd (of_decide_eq_true q) h9) (fun _ => ?_)
  refine sx_RP.step (pc2 := 13) (ls2 := [(0, .ref 1), (1, .int (nI N))]) (st2 := [.int 1]) (w3 := sx_w0) rfl rfl ?_
  refine sx_RP.step (pc2 := 17) (ls2 := [(0, .ref 1), (1, .int (nI N))]) (st2 := [.int 1]) (w3 := sx_w0) rfl rfl ?_
  refine sx_RP.retc (st3 := [.int 1]) rfl rfl rfl ?_
  refine sx_RP.step (pc2 := 35) (ls2 := [(0, .ref 0), (1, .int (nI N))]) (st2 := []) (w3 := sx_w0) rfl rfl ?_
  refine sx_RP.step (pc2 := 36) (ls2 := [(0, .ref 0), (1, .int (nI N))]) (st2 := [.int 0]) (w3 := sx_w0) rfl rfl ?_
  refine sx_RP.step (pc2 := 37) (ls2 := [(2, .int 0), (0, .ref 0), (1, .int (nI N))]) (st2 := []) (w3 := sx_w0) rfl rfl ?_
  refine sx_RP.step (pc2 := 38) (ls2 := [(2, .int 0), (0, .ref 0), (1, .int (nI N))]) (st2 := [.int 0]) (w3 := sx_w0) rfl rfl ?_
  refine sx_RP.step (pc2 := 39) (ls2 := [(3, .int 0), (2, .int 0), (0, .ref 0), (1, .int (nI N))]) (st2 := []) (w3 := sx_w0) rfl rfl ?_
  refine sx_RP.wd (w2 := sx_nt (nI 0)) rfl ?_
  refine sx_RP.mono (cp_39 ys N hN N 0 (by omega)) (fun r w2 h => ?_)
  obtain ⟨rfl, rfl⟩ := h
  refine ⟨0, rfl, ⟨_, rfl⟩, ?_⟩
  refine sx_RP.step (pc2 := 1) (ls2 := [(0, .ref 111), (1, .int (nI N))]) (st2 := [.int (nI N)]) (w3 := (sx_nt (nI N))) rfl rfl ?_
  refine sx_RP.step (pc2 := 2) (ls2 := [(0, .ref 111), (1, .int (nI N))]) (st2 := [.int 1, .int (nI N)]) (w3 := (sx_nt (nI N))) rfl rfl ?_
  refine sx_RP.step (pc2 := 4) (ls2 := [(0, .ref 111), (1, .int (nI N))]) (st2 := [.int 60, .int 1, .int (nI N)]) (w3 := (sx_nt (nI N))) rfl rfl ?_
  refine sx_RP.cu (as := [.int (nI N), .int 1, .int 60]) (rest2 := []) (st3 := [.int 1]) rfl rfl rfl rfl rfl (cx_132p p0) rfl ?_
  refine sx_RP.step (pc2 := 16) (ls2 := [(0, .ref 111), (1, .int (nI N))]) (st2 := []) (w3 := (sx_nt (nI N))) rfl rfl ?_
  refine sx_RP.step (pc2 := 17) (ls2 := [(0, .ref 111), (1, .int (nI N))]) (st2 := [.ref 111]) (w3 := (sx_nt (nI N))) rfl rfl ?_
  refine sx_RP.step (pc2 := 18) (ls2 := [(0, .ref 111), (1, .int (nI N))]) (st2 := [.int (nI N), .ref 111]) (w3 := (sx_nt (nI N))) rfl rfl ?_
  refine sx_RP.cl (as2 := [.ref 111, .int (nI N)]) (rest2 := []) rfl rfl rfl rfl rfl rfl ?_
  refine sx_RP.step (pc2 := 1) (ls2 := [(0, .ref 111), (1, .int (nI N))]) (st2 := [.ref 111]) (w3 := (sx_nt (nI N))) rfl rfl ?_
  refine sx_RP.step (pc2 := 4) (ls2 := [(0, .ref 111), (1, .int (nI N))]) (st2 := [.ref 112]) (w3 := (sx_nt (nI N))) rfl rfl ?_
  refine sx_RP.step (pc2 := 5) (ls2 := [(0, .ref 111), (1, .int (nI N))]) (st2 := [.int 0, .ref 112]) (w3 := (sx_nt (nI N))) rfl rfl ?_
  refine sx_RP.step (pc2 := 6) (ls2 := [(0, .ref 111), (1, .int (nI N))]) (st2 := [.int 0]) (w3 := (sx_nt (nI N))) rfl rfl ?_
  refine sx_RP.step (pc2 := 7) (ls2 := [(0, .ref 111), (1, .int (nI N))]) (st2 := [.int (nI N), .int 0]) (w3 := (sx_nt (nI N))) rfl rfl ?_
  refine sx_RP.step (pc2 := 8) (ls2 := [(0, .ref 111), (1, .int (nI N))]) (st2 := [.int (0 + (nI N))]) (w3 := (sx_nt (nI N))) rfl rfl ?_
  refine sx_RP.step (pc2 := 11) (ls2 := [(0, .ref 111), (1, .int (nI N))]) (st2 := [.int 999, .int (0 + (nI N))]) (w3 := (sx_nt (nI N))) rfl rfl ?_
  refine sx_RP.br (p1 := 18) (l1 := [(0, .ref 111), (1, .int (nI N))]) (s1 := []) (v1 := (sx_nt (nI N))) rfl rfl (fun _ => ?_) (fun q => absurd h8 (of_decide_eq_false q))
  refine sx_RP.step (pc2 := 19) (ls2 := [(0, .ref 111), (1, .int (nI N))]) (st2 := [.int 0]) (w3 := (sx_nt (nI N))) rfl rfl ?_
  refine sx_RP.retc (st3 := [.int 0]) rfl rfl rfl ?_
  refine sx_RP.step (pc2 := 30) (ls2 := [(0, .ref 111), (1, .int (nI N))]) (st2 := []) (w3 := (sx_nt (nI N))) rfl rfl ?_
  refine sx_RP.step (pc2 := 31) (ls2 := [(0, .ref 111), (1, .int (nI N))]) (st2 := [.ref 111]) (w3 := (sx_nt (nI N))) rfl rfl ?_
  refine sx_RP.cl (as2 := [.ref 111]) (rest2 := []) rfl rfl rfl rfl rfl rfl ?_
  refine sx_RP.step (pc2 := 1) (ls2 := [(0, .ref 111)]) (st2 := [.ref 111]) (w3 := (sx_nt (nI N))) rfl rfl ?_
  refine sx_RP.step (pc2 := 2) (ls2 := [(0, .ref 111)]) (st2 := [.int 0, .ref 111]) (w3 := (sx_nt (nI N))) rfl rfl ?_
  refine sx_RP.cl (as2 := [.ref 111, .int 0]) (rest2 := []) rfl rfl rfl rfl rfl rfl ?_
  refine sx_RP.step (pc2 := 1) (ls2 := [(0, .ref 111), (1, .int 0)]) (st2 := [.int 0]) (w3 := (sx_nt (nI N))) rfl rfl ?_
  refine sx_RP.step (pc2 := 2) (ls2 := [(2, .int 0), (0, .ref 111), (1, .int 0)]) (st2 := []) (w3 := (sx_nt (nI N))) rfl rfl ?_
  refine sx_RP.step (pc2 := 3) (ls2 := [(2, .int 0), (0, .ref 111), (1, .int 0)]) (st2 := [.int 0]) (w3 := (sx_nt (nI N))) rfl rfl ?_
  refine sx_RP.step (pc2 := 4) (ls2 := [(3, .int 0), (2, .int 0), (0, .ref 111), (1, .int 0)]) (st2 := []) (w3 := (sx_nt (nI N))) rfl rfl ?_
  refine sx_RP.step (pc2 := 5) (ls2 := [(3, .int 0), (2, .int 0), (0, .ref 111), (1, .int 0)]) (st2 := [.int 0]) (w3 := (sx_nt (nI N))) rfl rfl ?_
  refine sx_RP.step (pc2 := 6) (ls2 := [(3, .int 0), (2, .int 0), (0, .ref 111), (1, .int 0)]) (st2 := [.ref 111, .int 0]) (w3 := (sx_nt (nI N))) rfl rfl ?_
  refine sx_RP.step (pc2 := 9) (ls2 := [(3, .int 0), (2, .int 0), (0, .ref 111), (1, .int 0)]) (st2 := [.ref 112, .int 0]) (w3 := (sx_nt (nI N))) rfl rfl ?_
  refine sx_RP.step (pc2 := 10) (ls2 := [(3, .int 0), (2, .int 0), (0, .ref 111), (1, .int 0)]) (st2 := [.int 1, .ref 112, .int 0]) (w3 := (sx_nt (nI N))) rfl rfl ?_
  refine sx_RP.step (pc2 := 11) (ls2 := [(3, .int 0), (2, .int 0), (0, .ref 111), (1, .int 0)]) (st2 := [.int 0, .int 0]) (w3 := (sx_nt (nI N))) rfl rfl ?_
  refine sx_RP.step (pc2 := 46) (ls2 := [(3, .int 0), (2, .int 0), (0, .ref 111), (1, .int 0)]) (st2 := []) (w3 := (sx_nt (nI N))) rfl rfl ?_
  refine sx_RP.step (pc2 := 47) (ls2 := [(3, .int 0), (2, .int 0), (0, .ref 111), (1, .int 0)]) (st2 := [.int 0]) (w3 := (sx_nt (nI N))) rfl rfl ?_
  refine sx_RP.retc (st3 := [.int 0]) rfl rfl rfl ?_
  refine sx_RP.step (pc2 := 6) (ls2 := [(0, .ref 111)]) (st2 := [.ref 111, .int 0]) (w3 := (sx_nt (nI N))) rfl rfl ?_
  refine sx_RP.step (pc2 := 7) (ls2 := [(0, .ref 111)]) (st2 := [.int 1, .ref 111, .int 0]) (w3 := (sx_nt (nI N))) rfl rfl ?_
  refine sx_RP.cl (as2 := [.ref 111, .int 1]) (rest2 := [.int 0]) rfl rfl rfl rfl rfl rfl ?_
  refine sx_RP.step (pc2 := 1) (ls2 := [(0, .ref 111), (1, .int 1)]) (st2 := [.int 0]) (w3 := (sx_nt (nI N))) rfl rfl ?_
  refine sx_RP.step (pc2 := 2) (ls2 := [(2, .int 0), (0, .ref 111), (1, .int 1)]) (st2 := []) (w3 := (sx_nt (nI N))) rfl rfl ?_
  refine sx_RP.step (pc2 := 3) (ls2 := [(2, .int 0), (0, .ref 111), (1, .int 1)]) (st2 := [.int 0]) (w3 := (sx_nt (nI N))) rfl rfl ?_
  refine sx_RP.step (pc2 := 4) (ls2 := [(3, .int 0), (2, .int 0), (0, .ref 111), (1, .int 1)]) (st2 := []) (w3 := (sx_nt (nI N))) rfl rfl ?_
  refine sx_RP.step (pc2 := 5) (ls2 := [(3, .int 0), (2, .int 0), (0, .ref 111), (1, .int 1)]) (st2 := [.int 0]) (w3 := (sx_nt (nI N))) rfl rfl ?_
  refine sx_RP.step (pc2 := 6) (ls2 := [(3, .int 0), (2, .int 0), (0, .ref 111), (1, .int 1)]) (st2 := [.ref 111, .int 0]) (w3 := (sx_nt (nI N))) rfl rfl ?_
  refine sx_RP.step (pc2 := 9) (ls2 := [(3, .int 0), (2, .int 0), (0, .ref 111), (1, .int 1)]) (st2 := [.ref 112, .int 0]) (w3 := (sx_nt (nI N))) rfl rfl ?_
  refine sx_RP.step (pc2 := 10) (ls2 := [(3, .int 0), (2, .int 0), (0, .ref 111), (1, .int 1)]) (st2 := [.int 1, .ref 112, .int 0]) (w3 := (sx_nt (nI N))) rfl rfl ?_
  refine sx_RP.step (pc2 := 11) (ls2 := [(3, .int 0), (2, .int 0), (0, .ref 111), (1, .int 1)]) (st2 := [.int 0, .int 0]) (w3 := (sx_nt (nI N))) rfl rfl ?_
  refine sx_RP.step (pc2 := 46) (ls2 := [(3, .int 0), (2, .int 0), (0, .ref 111), (1, .int 1)]) (st2 := []) (w3 := (sx_nt (nI N))) rfl rfl ?_
  refine sx_RP.step (pc2 := 47) (ls2 := [(3, .int 0), (2, .int 0), (0, .ref 111), (1, .int 1)]) (st2 := [.int 0]) (w3 := (sx_nt (nI N))) rfl rfl ?_
  refine sx_RP.retc (st3 := [.int 0, .int 0]) rfl rfl rfl ?_
  refine sx_RP.step (pc2 := 11) (ls2 := [(0, .ref 111)]) (st2 := [.int 0]) (w3 := (sx_nt (nI N))) rfl rfl ?_
  refine sx_RP.retc (st3 := [.int 0]) rfl rfl rfl ?_
  refine sx_RP.step (pc2 := 35) (ls2 := [(2, .int 0), (0, .ref 111), (1, .int (nI N))]) (st2 := []) (w3 := (sx_nt (nI N))) rfl rfl ?_
  refine sx_RP.step (pc2 := 36) (ls2 := [(2, .int 0), (0, .ref 111), (1, .int (nI N))]) (st2 := [.ref 111]) (w3 := (sx_nt (nI N))) rfl rfl ?_
  refine sx_RP.step (pc2 := 37) (ls2 := [(2, .int 0), (0, .ref 111), (1, .int (nI N))]) (st2 := [.int (nI N), .ref 111]) (w3 := (sx_nt (nI N))) rfl rfl ?_
  refine sx_RP.cu (as := [.ref 111, .int (nI N)]) (rest2 := []) (st3 := []) rfl rfl rfl rfl rfl (cp_168 ys (nI N) N hN) rfl ?_
  refine sx_RP.step (pc2 := 41) (ls2 := [(2, .int 0), (0, .ref 111), (1, .int (nI N))]) (st2 := [.int 0]) (w3 := (sx_nm (nI N) (nI N))) rfl rfl ?_
  refine sx_RP.step (pc2 := 42) (ls2 := [(2, .int 0), (0, .ref 111), (1, .int (nI N))]) (st2 := [.ref 111, .int 0]) (w3 := (sx_nm (nI N) (nI N))) rfl rfl ?_
  refine sx_RP.cl (as2 := [.ref 111]) (rest2 := [.int 0]) rfl rfl rfl rfl rfl rfl ?_
  refine sx_RP.step (pc2 := 1) (ls2 := [(0, .ref 111)]) (st2 := [.ref 111]) (w3 := (sx_nm (nI N) (nI N))) rfl rfl ?_
  refine sx_RP.step (pc2 := 2) (ls2 := [(0, .ref 111)]) (st2 := [.int 0, .ref 111]) (w3 := (sx_nm (nI N) (nI N))) rfl rfl ?_
  refine sx_RP.cl (as2 := [.ref 111, .int 0]) (rest2 := []) rfl rfl rfl rfl rfl rfl ?_
  refine sx_RP.step (pc2 := 1) (ls2 := [(0, .ref 111), (1, .int 0)]) (st2 := [.int 0]) (w3 := (sx_nm (nI N) (nI N))) rfl rfl ?_
  refine sx_RP.step (pc2 := 2) (ls2 := [(2, .int 0), (0, .ref 111), (1, .int 0)]) (st2 := []) (w3 := (sx_nm (nI N) (nI N))) rfl rfl ?_
  refine sx_RP.step (pc2 := 3) (ls2 := [(2, .int 0), (0, .ref 111), (1, .int 0)]) (st2 := [.int 0]) (w3 := (sx_nm (nI N) (nI N))) rfl rfl ?_
  refine sx_RP.step (pc2 := 4) (ls2 := [(3, .int 0), (2, .int 0), (0, .ref 111), (1, .int 0)]) (st2 := []) (w3 := (sx_nm (nI N) (nI N))) rfl rfl ?_
  refine sx_RP.step (pc2 := 5) (ls2 := [(3, .int 0), (2, .int 0), (0, .ref 111), (1, .int 0)]) (st2 := [.int 0]) (w3 := (sx_nm (nI N) (nI N))) rfl rfl ?_
  refine sx_RP.step (pc2 := 6) (ls2 := [(3, .int 0), (2, .int 0), (0, .ref 111), (1, .int 0)]) (st2 := [.ref 111, .int 0]) (w3 := (sx_nm (nI N) (nI N))) rfl rfl ?_
  refine sx_RP.step (pc2 := 9) (ls2 := [(3, .int 0), (2, .int 0), (0, .ref 111), (1, .int 0)]) (st2 := [.ref 112, .int 0]) (w3 := (sx_nm (nI N) (nI N))) rfl rfl ?_
  refine sx_RP.step (pc2 := 10) (ls2 := [(3, .int 0), (2, .int 0), (0, .ref 111), (1, .int 0)]) (st2 := [.int 1, .ref 112, .int 0]) (w3 := (sx_nm (nI N) (nI N))) rfl rfl ?_
  refine sx_RP.step (pc2 := 11) (ls2 := [(3, .int 0), (2, .int 0), (0, .ref 111), (1, .int 0)]) (st2 := [.int 0, .int 0]) (w3 := (sx_nm (nI N) (nI N))) rfl rfl ?_
  refine sx_RP.step (pc2 := 46) (ls2 := [(3, .int 0), (2, .int 0), (0, .ref 111), (1, .int 0)]) (st2 := []) (w3 := (sx_nm (nI N) (nI N))) rfl rfl ?_
  refine sx_RP.step (pc2 := 47) (ls2 := [(3, .int 0), (2, .int 0), (0, .ref 111), (1, .int 0)]) (st2 := [.int 0]) (w3 := (sx_nm (nI N) (nI N))) rfl rfl ?_
  refine sx_RP.retc (st3 := [.int 0]) rfl rfl rfl ?_
  refine sx_RP.step (pc2 := 6) (ls2 := [(0, .ref 111)]) (st2 := [.ref 111, .int 0]) (w3 := (sx_nm (nI N) (nI N))) rfl rfl ?_
  refine sx_RP.step (pc2 := 7) (ls2 := [(0, .ref 111)]) (st2 := [.int 1, .ref 111, .int 0]) (w3 := (sx_nm (nI N) (nI N))) rfl rfl ?_
  refine sx_RP.cl (as2 := [.ref 111, .int 1]) (rest2 := [.int 0]) rfl rfl rfl rfl rfl rfl ?_
  refine sx_RP.step (pc2 := 1) (ls2 := [(0, .ref 111), (1, .int 1)]) (st2 := [.int 0]) (w3 := (sx_nm (nI N) (nI N))) rfl rfl ?_
  refine sx_RP.step (pc2 := 2) (ls2 := [(2, .int 0), (0, .ref 111), (1, .int 1)]) (st2 := []) (w3 := (sx_nm (nI N) (nI N))) rfl rfl ?_
  refine sx_RP.step (pc2 := 3) (ls2 := [(2, .int 0), (0, .ref 111), (1, .int 1)]) (st2 := [.int 0]) (w3 := (sx_nm (nI N) (nI N))) rfl rfl ?_
  refine sx_RP.step (pc2 := 4) (ls2 := [(3, .int 0), (2, .int 0), (0, .ref 111), (1, .int 1)]) (st2 := []) (w3 := (sx_nm (nI N) (nI N))) rfl rfl ?_
  refine sx_RP.step (pc2 := 5) (ls2 := [(3, .int 0), (2, .int 0), (0, .ref 111), (1, .int 1)]) (st2 := [.int 0]) (w3 := (sx_nm (nI N) (nI N))) rfl rfl ?_
  refine sx_RP.step (pc2 := 6) (ls2 := [(3, .int 0), (2, .int 0), (0, .ref 111), (1, .int 1)]) (st2 := [.ref 111, .int 0]) (w3 := (sx_nm (nI N) (nI N))) rfl rfl ?_
  refine sx_RP.step (pc2 := 9) (ls2 := [(3, .int 0), (2, .int 0), (0, .ref 111), (1, .int 1)]) (st2 := [.ref 112, .int 0]) (w3 := (sx_nm (nI N) (nI N))) rfl rfl ?_
  refine sx_RP.step (pc2 := 10) (ls2 := [(3, .int 0), (2, .int 0), (0, .ref 111), (1, .int 1)]) (st2 := [.int 1, .ref 112, .int 0]) (w3 := (sx_nm (nI N) (nI N))) rfl rfl ?_
  refine sx_RP.step (pc2 := 11) (ls2 := [(3, .int 0), (2, .int 0), (0, .ref 111), (1, .int 1)]) (st2 := [.int 0, .int 0]) (w3 := (sx_nm (nI N) (nI N))) rfl rfl ?_
  refine sx_RP.step (pc2 := 46) (ls2 := [(3, .int 0), (2, .int 0), (0, .ref 111), (1, .int 1)]) (st2 := []) (w3 := (sx_nm (nI N) (nI N))) rfl rfl ?_
  refine sx_RP.step (pc2 := 47) (ls2 := [(3, .int 0), (2, .int 0), (0, .ref 111), (1, .int 1)]) (st2 := [.int 0]) (w3 := (sx_nm (nI N) (nI N))) rfl rfl ?_
  refine sx_RP.retc (st3 := [.int 0, .int 0]) rfl rfl rfl ?_
  refine sx_RP.step (pc2 := 11) (ls2 := [(0, .ref 111)]) (st2 := [.int 0]) (w3 := (sx_nm (nI N) (nI N))) rfl rfl ?_
  refine sx_RP.retc (st3 := [.int 0, .int 0]) rfl rfl rfl ?_
  refine sx_RP.step (pc2 := 46) (ls2 := [(2, .int 0), (0, .ref 111), (1, .int (nI N))]) (st2 := [.int 0]) (w3 := (sx_nm (nI N) (nI N))) rfl rfl ?_
  refine sx_RP.ret rfl rfl ?_
  rfl
