-- 91a.cases.lean.txt
section
set_option maxRecDepth 20000 in
set_option maxHeartbeats 4000000 in
theorem lc0 {ys : List Int32} {i : Nat} {w : List sx_C} {P : Option Value → List sx_C → Prop} (hl : ys.length ≤ 3072) (hn : i + 6 ≤ ys.length) (hI : WI w) (hL : LI w) (kk : ∀ w2, WI w2 → LI w2 → sx_RP (some ys) 9 246 1539 [(3, .int (nI i)), (2, .ref 111), (1, .ref 0), (0, .float 4)] [] w2 P) : sx_RP (some ys) 9 246 228 [(3, .int (nI i)), (2, .ref 111), (1, .ref 0), (0, .float 4)] [] w P := by
  refine sx_RP.step (pc2 := 229) (ls2 := [(3, .int (nI i)), (2, .ref 111), (1, .ref 0), (0, .float 4)]) (st2 := [.ref 0]) (w3 := w) rfl rfl ?_
  refine sx_RP.step (pc2 := 230) (ls2 := [(3, .int (nI i)), (2, .ref 111), (1, .ref 0), (0, .float 4)]) (st2 := [.float 4, .ref 0]) (w3 := w) rfl rfl ?_
  refine sx_RP.step (pc2 := 231) (ls2 := [(3, .int (nI i)), (2, .ref 111), (1, .ref 0), (0, .float 4)]) (st2 := [.int (nI i), .float 4, .ref 0]) (w3 := w) rfl rfl ?_
  refine sx_RP.step (pc2 := 232) (ls2 := [(3, .int (nI i)), (2, .ref 111), (1, .ref 0), (0, .float 4)]) (st2 := [.int 1, .int (nI i), .float 4, .ref 0]) (w3 := w) rfl rfl ?_
  refine sx_RP.step (pc2 := 233) (ls2 := [(3, .int (nI i)), (2, .ref 111), (1, .ref 0), (0, .float 4)]) (st2 := [.int ((nI i) + 1), .float 4, .ref 0]) (w3 := w) rfl rfl ?_
  rw [show ((nI i) + 1 : Int32) = nI (i + 1) from nI_add i 1]
  refine sx_RP.scr (x := (i + 1)) rfl (by omega) hl (show _ = 234 from rfl) ?_
  refine sx_RP.step (pc2 := 235) (ls2 := [(3, .int (nI i)), (2, .ref 111), (1, .ref 0), (0, .float 4)]) (st2 := [.float 4, .int (ys.getD ((i + 1)) 0), .ref 0]) (w3 := w) rfl rfl ?_
  refine sx_RP.step (pc2 := 236) (ls2 := [(3, .int (nI i)), (2, .ref 111), (1, .ref 0), (0, .float 4)]) (st2 := [.int (nI i), .float 4, .int (ys.getD ((i + 1)) 0), .ref 0]) (w3 := w) rfl rfl ?_
  refine sx_RP.step (pc2 := 237) (ls2 := [(3, .int (nI i)), (2, .ref 111), (1, .ref 0), (0, .float 4)]) (st2 := [.int 2, .int (nI i), .float 4, .int (ys.getD ((i + 1)) 0), .ref 0]) (w3 := w) rfl rfl ?_
  refine sx_RP.step (pc2 := 238) (ls2 := [(3, .int (nI i)), (2, .ref 111), (1, .ref 0), (0, .float 4)]) (st2 := [.int ((nI i) + 2), .float 4, .int (ys.getD ((i + 1)) 0), .ref 0]) (w3 := w) rfl rfl ?_
  rw [show ((nI i) + 2 : Int32) = nI (i + 2) from nI_add i 2]
  refine sx_RP.scr (x := (i + 2)) rfl (by omega) hl (show _ = 239 from rfl) ?_
  refine sx_RP.callp (as2 := [.ref 0, .int (ys.getD ((i + 1)) 0), .int (ys.getD ((i + 2)) 0)]) (rest2 := []) rfl rfl (sx_inv_v2 (mi := 246) (k := 13) (st := [.int (ys.getD ((i + 2)) 0), .int (ys.getD ((i + 1)) 0), .ref 0]) (w := w) rfl rfl hI.1.o0 rfl rfl rfl) rfl rfl rfl (sx_RP.byk (N6 (d := 1) hI (ys.getD ((i + 1)) 0) (ys.getD ((i + 2)) 0))) (show _ = 242 from rfl) ?_
  rintro r4 w1 ⟨⟨⟨v3, rfl⟩, hI2, hE4⟩, hbk6⟩
  have hL5 : LI w1 := hL.rc hI hE4 hbk6
  show sx_RP _ _ _ _ _ [.int v3] _ _
  refine sx_RP.step (pc2 := 243) (ls2 := [(3, .int (nI i)), (2, .ref 111), (1, .ref 0), (0, .float 4)]) (st2 := []) (w3 := w1) rfl rfl ?_
  refine sx_RP.step (pc2 := 244) (ls2 := [(3, .int (nI i)), (2, .ref 111), (1, .ref 0), (0, .float 4)]) (st2 := [.ref 111]) (w3 := w1) rfl rfl ?_
  refine sx_RP.step (pc2 := 245) (ls2 := [(3, .int (nI i)), (2, .ref 111), (1, .ref 0), (0, .float 4)]) (st2 := [.float 4, .ref 111]) (w3 := w1) rfl rfl ?_
  refine sx_RP.step (pc2 := 246) (ls2 := [(3, .int (nI i)), (2, .ref 111), (1, .ref 0), (0, .float 4)]) (st2 := [.int (nI i), .float 4, .ref 111]) (w3 := w1) rfl rfl ?_
  refine sx_RP.step (pc2 := 247) (ls2 := [(3, .int (nI i)), (2, .ref 111), (1, .ref 0), (0, .float 4)]) (st2 := [.int 1, .int (nI i), .float 4, .ref 111]) (w3 := w1) rfl rfl ?_
  refine sx_RP.step (pc2 := 248) (ls2 := [(3, .int (nI i)), (2, .ref 111), (1, .ref 0), (0, .float 4)]) (st2 := [.int ((nI i) + 1), .float 4, .ref 111]) (w3 := w1) rfl rfl ?_
  rw [show ((nI i) + 1 : Int32) = nI (i + 1) from nI_add i 1]
  refine sx_RP.scr (x := (i + 1)) rfl (by omega) hl (show _ = 249 from rfl) ?_
  refine sx_RP.step (pc2 := 250) (ls2 := [(3, .int (nI i)), (2, .ref 111), (1, .ref 0), (0, .float 4)]) (st2 := [.float 4, .int (ys.getD ((i + 1)) 0), .ref 111]) (w3 := w1) rfl rfl ?_
  refine sx_RP.step (pc2 := 251) (ls2 := [(3, .int (nI i)), (2, .ref 111), (1, .ref 0), (0, .float 4)]) (st2 := [.int (nI i), .float 4, .int (ys.getD ((i + 1)) 0), .ref 111]) (w3 := w1) rfl rfl ?_
  refine sx_RP.step (pc2 := 252) (ls2 := [(3, .int (nI i)), (2, .ref 111), (1, .ref 0), (0, .float 4)]) (st2 := [.int 2, .int (nI i), .float 4, .int (ys.getD ((i + 1)) 0), .ref 111]) (w3 := w1) rfl rfl ?_
  refine sx_RP.step (pc2 := 253) (ls2 := [(3, .int (nI i)), (2, .ref 111), (1, .ref 0), (0, .float 4)]) (st2 := [.int ((nI i) + 2), .float 4, .int (ys.getD ((i + 1)) 0), .ref 111]) (w3 := w1) rfl rfl ?_
  rw [show ((nI i) + 2 : Int32) = nI (i + 2) from nI_add i 2]
  refine sx_RP.scr (x := (i + 2)) rfl (by omega) hl (show _ = 254 from rfl) ?_
  refine sx_RP.callp (as2 := [.ref 111, .int (ys.getD ((i + 1)) 0), .int (ys.getD ((i + 2)) 0)]) (rest2 := []) rfl rfl (sx_inv_v2 (mi := 246) (k := 17) (st := [.int (ys.getD ((i + 2)) 0), .int (ys.getD ((i + 1)) 0), .ref 111]) (w := w1) rfl rfl hI2.1.o111 rfl rfl rfl) rfl rfl rfl (sx_RP.byk (K130 (d := 1) hI2 (ys.getD ((i + 1)) 0) (ys.getD ((i + 2)) 0))) (show _ = 257 from rfl) ?_
  rintro r4 w7 ⟨⟨⟨v9, rfl⟩, hI8, hE10⟩, hbk12⟩
  have hL11 : LI w7 := hL5.rm hI2 hE10.el hbk12
  show sx_RP _ _ _ _ _ [.int v9] _ _
  refine sx_RP.step (pc2 := 258) (ls2 := [(3, .int (nI i)), (2, .ref 111), (1, .ref 0), (0, .float 4)]) (st2 := []) (w3 := w7) rfl rfl ?_
  refine sx_RP.step (pc2 := 1539) (ls2 := [(3, .int (nI i)), (2, .ref 111), (1, .ref 0), (0, .float 4)]) (st2 := []) (w3 := w7) rfl rfl ?_
  exact kk w7 hI8 hL11
set_option maxRecDepth 20000 in
set_option maxHeartbeats 4000000 in
theorem lc1 {ys : List Int32} {i : Nat} {w : List sx_C} {P : Option Value → List sx_C → Prop} (hl : ys.length ≤ 3072) (hn : i + 6 ≤ ys.length) (hI : WI w) (hL : LI w) (kk : ∀ w2, WI w2 → LI w2 → sx_RP (some ys) 9 246 1539 [(3, .int (nI i)), (2, .ref 111), (1, .ref 0), (0, .float 4)] [] w2 P) : sx_RP (some ys) 9 246 261 [(3, .int (nI i)), (2, .ref 111), (1, .ref 0), (0, .float 4)] [] w P := by
  refine sx_RP.step (pc2 := 262) (ls2 := [(3, .int (nI i)), (2, .ref 111), (1, .ref 0), (0, .float 4)]) (st2 := [.ref 0]) (w3 := w) rfl rfl ?_
  refine sx_RP.step (pc2 := 263) (ls2 := [(3, .int (nI i)), (2, .ref 111), (1, .ref 0), (0, .float 4)]) (st2 := [.float 4, .ref 0]) (w3 := w) rfl rfl ?_
  refine sx_RP.step (pc2 := 264) (ls2 := [(3, .int (nI i)), (2, .ref 111), (1, .ref 0), (0, .float 4)]) (st2 := [.int (nI i), .float 4, .ref 0]) (w3 := w) rfl rfl ?_
  refine sx_RP.step (pc2 := 265) (ls2 := [(3, .int (nI i)), (2, .ref 111), (1, .ref 0), (0, .float 4)]) (st2 := [.int 1, .int (nI i), .float 4, .ref 0]) (w3 := w) rfl rfl ?_
  refine sx_RP.step (pc2 := 266) (ls2 := [(3, .int (nI i)), (2, .ref 111), (1, .ref 0), (0, .float 4)]) (st2 := [.int ((nI i) + 1), .float 4, .ref 0]) (w3 := w) rfl rfl ?_
  rw [show ((nI i) + 1 : Int32) = nI (i + 1) from nI_add i 1]
  refine sx_RP.scr (x := (i + 1)) rfl (by omega) hl (show _ = 267 from rfl) ?_
  refine sx_RP.step (pc2 := 268) (ls2 := [(3, .int (nI i)), (2, .ref 111), (1, .ref 0), (0, .float 4)]) (st2 := [.float 4, .int (ys.getD ((i + 1)) 0), .ref 0]) (w3 := w) rfl rfl ?_
  refine sx_RP.step (pc2 := 269) (ls2 := [(3, .int (nI i)), (2, .ref 111), (1, .ref 0), (0, .float 4)]) (st2 := [.int (nI i), .float 4, .int (ys.getD ((i + 1)) 0), .ref 0]) (w3 := w) rfl rfl ?_
  refine sx_RP.step (pc2 := 270) (ls2 := [(3, .int (nI i)), (2, .ref 111), (1, .ref 0), (0, .float 4)]) (st2 := [.int 2, .int (nI i), .float 4, .int (ys.getD ((i + 1)) 0), .ref 0]) (w3 := w) rfl rfl ?_
  refine sx_RP.step (pc2 := 271) (ls2 := [(3, .int (nI i)), (2, .ref 111), (1, .ref 0), (0, .float 4)]) (st2 := [.int ((nI i) + 2), .float 4, .int (ys.getD ((i + 1)) 0), .ref 0]) (w3 := w) rfl rfl ?_
  rw [show ((nI i) + 2 : Int32) = nI (i + 2) from nI_add i 2]
  refine sx_RP.scr (x := (i + 2)) rfl (by omega) hl (show _ = 272 from rfl) ?_
  refine sx_RP.br (p1 := 279) (l1 := [(3, .int (nI i)), (2, .ref 111), (1, .ref 0), (0, .float 4)]) (s1 := [.int (ys.getD ((i + 1)) 0), .ref 0]) (v1 := w) (p2 := 275) (l2 := [(3, .int (nI i)), (2, .ref 111), (1, .ref 0), (0, .float 4)]) (s2 := [.int (ys.getD ((i + 1)) 0), .ref 0]) (v2 := w) rfl rfl (fun q1 => ?_) (fun q1 => ?_)
  · replace q1 := of_decide_eq_true q1
    refine sx_RP.step (pc2 := 280) (ls2 := [(3, .int (nI i)), (2, .ref 111), (1, .ref 0), (0, .float 4)]) (st2 := [.int 0, .int (ys.getD ((i + 1)) 0), .ref 0]) (w3 := w) rfl rfl ?_
    refine sx_RP.callp (as2 := [.ref 0, .int (ys.getD ((i + 1)) 0), .int 0]) (rest2 := []) rfl rfl (sx_inv_v2 (mi := 246) (k := 18) (st := [.int 0, .int (ys.getD ((i + 1)) 0), .ref 0]) (w := w) rfl rfl hI.1.o0 rfl rfl rfl) rfl rfl rfl (sx_RP.byk (N10 (d := 1) hI (ys.getD ((i + 1)) 0) 0)) (show _ = 283 from rfl) ?_
    rintro r4 w2 ⟨⟨⟨v4, rfl⟩, hI3, hE5⟩, hbk7⟩
    have hL6 : LI w2 := hL.rc hI hE5 hbk7
    show sx_RP _ _ _ _ _ [.int v4] _ _
    refine sx_RP.step (pc2 := 284) (ls2 := [(3, .int (nI i)), (2, .ref 111), (1, .ref 0), (0, .float 4)]) (st2 := []) (w3 := w2) rfl rfl ?_
    refine sx_RP.step (pc2 := 285) (ls2 := [(3, .int (nI i)), (2, .ref 111), (1, .ref 0), (0, .float 4)]) (st2 := [.ref 111]) (w3 := w2) rfl rfl ?_
    refine sx_RP.step (pc2 := 286) (ls2 := [(3, .int (nI i)), (2, .ref 111), (1, .ref 0), (0, .float 4)]) (st2 := [.float 4, .ref 111]) (w3 := w2) rfl rfl ?_
    refine sx_RP.step (pc2 := 287) (ls2 := [(3, .int (nI i)), (2, .ref 111), (1, .ref 0), (0, .float 4)]) (st2 := [.int (nI i), .float 4, .ref 111]) (w3 := w2) rfl rfl ?_
    refine sx_RP.step (pc2 := 288) (ls2 := [(3, .int (nI i)), (2, .ref 111), (1, .ref 0), (0, .float 4)]) (st2 := [.int 1, .int (nI i), .float 4, .ref 111]) (w3 := w2) rfl rfl ?_
    refine sx_RP.step (pc2 := 289) (ls2 := [(3, .int (nI i)), (2, .ref 111), (1, .ref 0), (0, .float 4)]) (st2 := [.int ((nI i) + 1), .float 4, .ref 111]) (w3 := w2) rfl rfl ?_
    rw [show ((nI i) + 1 : Int32) = nI (i + 1) from nI_add i 1]
    refine sx_RP.scr (x := (i + 1)) rfl (by omega) hl (show _ = 290 from rfl) ?_
    refine sx_RP.step (pc2 := 291) (ls2 := [(3, .int (nI i)), (2, .ref 111), (1, .ref 0), (0, .float 4)]) (st2 := [.float 4, .int (ys.getD ((i + 1)) 0), .ref 111]) (w3 := w2) rfl rfl ?_
    refine sx_RP.step (pc2 := 292) (ls2 := [(3, .int (nI i)), (2, .ref 111), (1, .ref 0), (0, .float 4)]) (st2 := [.int (nI i), .float 4, .int (ys.getD ((i + 1)) 0), .ref 111]) (w3 := w2) rfl rfl ?_
    refine sx_RP.step (pc2 := 293) (ls2 := [(3, .int (nI i)), (2, .ref 111), (1, .ref 0), (0, .float 4)]) (st2 := [.int 2, .int (nI i), .float 4, .int (ys.getD ((i + 1)) 0), .ref 111]) (w3 := w2) rfl rfl ?_
    refine sx_RP.step (pc2 := 294) (ls2 := [(3, .int (nI i)), (2, .ref 111), (1, .ref 0), (0, .float 4)]) (st2 := [.int ((nI i) + 2), .float 4, .int (ys.getD ((i + 1)) 0), .ref 111]) (w3 := w2) rfl rfl ?_
    rw [show ((nI i) + 2 : Int32) = nI (i + 2) from nI_add i 2]
    refine sx_RP.scr (x := (i + 2)) rfl (by omega) hl (show _ = 295 from rfl) ?_
    refine sx_RP.br (p1 := 302) (l1 := [(3, .int (nI i)), (2, .ref 111), (1, .ref 0), (0, .float 4)]) (s1 := [.int (ys.getD ((i + 1)) 0), .ref 111]) (v1 := w2) rfl rfl (fun _ => ?_) (fun q => absurd q1 (of_decide_eq_false q))
    refine sx_RP.step (pc2 := 303) (ls2 := [(3, .int (nI i)), (2, .ref 111), (1, .ref 0), (0, .float 4)]) (st2 := [.int 0, .int (ys.getD ((i + 1)) 0), .ref 111]) (w3 := w2) rfl rfl ?_
    refine sx_RP.callp (as2 := [.ref 111, .int (ys.getD ((i + 1)) 0), .int 0]) (rest2 := []) rfl rfl (sx_inv_v2 (mi := 246) (k := 22) (st := [.int 0, .int (ys.getD ((i + 1)) 0), .ref 111]) (w := w2) rfl rfl hI3.1.o111 rfl rfl rfl) rfl rfl rfl (sx_RP.byk (K134 (d := 1) hI3 (ys.getD ((i + 1)) 0) 0)) (show _ = 306 from rfl) ?_
    rintro r4 w8 ⟨⟨⟨v10, rfl⟩, hI9, hE11⟩, hbk13⟩
    have hL12 : LI w8 := hL6.rm hI3 hE11.el hbk13
    show sx_RP _ _ _ _ _ [.int v10] _ _
    refine sx_RP.step (pc2 := 307) (ls2 := [(3, .int (nI i)), (2, .ref 111), (1, .ref 0), (0, .float 4)]) (st2 := []) (w3 := w8) rfl rfl ?_
    refine sx_RP.step (pc2 := 1539) (ls2 := [(3, .int (nI i)), (2, .ref 111), (1, .ref 0), (0, .float 4)]) (st2 := []) (w3 := w8) rfl rfl ?_
    exact kk w8 hI9 hL12
  · replace q1 := of_decide_eq_false q1
    refine sx_RP.step (pc2 := 276) (ls2 := [(3, .int (nI i)), (2, .ref 111), (1, .ref 0), (0, .float 4)]) (st2 := [.int 1, .int (ys.getD ((i + 1)) 0), .ref 0]) (w3 := w) rfl rfl ?_
    refine sx_RP.step (pc2 := 280) (ls2 := [(3, .int (nI i)), (2, .ref 111), (1, .ref 0), (0, .float 4)]) (st2 := [.int 1, .int (ys.getD ((i + 1)) 0), .ref 0]) (w3 := w) rfl rfl ?_
    refine sx_RP.callp (as2 := [.ref 0, .int (ys.getD ((i + 1)) 0), .int 1]) (rest2 := []) rfl rfl (sx_inv_v2 (mi := 246) (k := 18) (st := [.int 1, .int (ys.getD ((i + 1)) 0), .ref 0]) (w := w) rfl rfl hI.1.o0 rfl rfl rfl) rfl rfl rfl (sx_RP.byk (N10 (d := 1) hI (ys.getD ((i + 1)) 0) 1)) (show _ = 283 from rfl) ?_
    rintro r4 w14 ⟨⟨⟨v16, rfl⟩, hI15, hE17⟩, hbk19⟩
    have hL18 : LI w14 := hL.rc hI hE17 hbk19
    show sx_RP _ _ _ _ _ [.int v16] _ _
    refine sx_RP.step (pc2 := 284) (ls2 := [(3, .int (nI i)), (2, .ref 111), (1, .ref 0), (0, .float 4)]) (st2 := []) (w3 := w14) rfl rfl ?_
    refine sx_RP.step (pc2 := 285) (ls2 := [(3, .int (nI i)), (2, .ref 111), (1, .ref 0), (0, .float 4)]) (st2 := [.ref 111]) (w3 := w14) rfl rfl ?_
    refine sx_RP.step (pc2 := 286) (ls2 := [(3, .int (nI i)), (2, .ref 111), (1, .ref 0), (0, .float 4)]) (st2 := [.float 4, .ref 111]) (w3 := w14) rfl rfl ?_
    refine sx_RP.step (pc2 := 287) (ls2 := [(3, .int (nI i)), (2, .ref 111), (1, .ref 0), (0, .float 4)]) (st2 := [.int (nI i), .float 4, .ref 111]) (w3 := w14) rfl rfl ?_
    refine sx_RP.step (pc2 := 288) (ls2 := [(3, .int (nI i)), (2, .ref 111), (1, .ref 0), (0, .float 4)]) (st2 := [.int 1, .int (nI i), .float 4, .ref 111]) (w3 := w14) rfl rfl ?_
    refine sx_RP.step (pc2 := 289) (ls2 := [(3, .int (nI i)), (2, .ref 111), (1, .ref 0), (0, .float 4)]) (st2 := [.int ((nI i) + 1), .float 4, .ref 111]) (w3 := w14) rfl rfl ?_
    rw [show ((nI i) + 1 : Int32) = nI (i + 1) from nI_add i 1]
    refine sx_RP.scr (x := (i + 1)) rfl (by omega) hl (show _ = 290 from rfl) ?_
    refine sx_RP.step (pc2 := 291) (ls2 := [(3, .int (nI i)), (2, .ref 111), (1, .ref 0), (0, .float 4)]) (st2 := [.float 4, .int (ys.getD ((i + 1)) 0), .ref 111]) (w3 := w14) rfl rfl ?_
    refine sx_RP.step (pc2 := 292) (ls2 := [(3, .int (nI i)), (2, .ref 111), (1, .ref 0), (0, .float 4)]) (st2 := [.int (nI i), .float 4, .int (ys.getD ((i + 1)) 0), .ref 111]) (w3 := w14) rfl rfl ?_
    refine sx_RP.step (pc2 := 293) (ls2 := [(3, .int (nI i)), (2, .ref 111), (1, .ref 0), (0, .float 4)]) (st2 := [.int 2, .int (nI i), .float 4, .int (ys.getD ((i + 1)) 0), .ref 111]) (w3 := w14) rfl rfl ?_
    refine sx_RP.step (pc2 := 294) (ls2 := [(3, .int (nI i)), (2, .ref 111), (1, .ref 0), (0, .float 4)]) (st2 := [.int ((nI i) + 2), .float 4, .int (ys.getD ((i + 1)) 0), .ref 111]) (w3 := w14) rfl rfl ?_
    rw [show ((nI i) + 2 : Int32) = nI (i + 2) from nI_add i 2]
    refine sx_RP.scr (x := (i + 2)) rfl (by omega) hl (show _ = 295 from rfl) ?_
    refine sx_RP.br (p2 := 298) (l2 := [(3, .int (nI i)), (2, .ref 111), (1, .ref 0), (0, .float 4)]) (s2 := [.int (ys.getD ((i + 1)) 0), .ref 111]) (v2 := w14) rfl rfl (fun q => absurd (of_decide_eq_true q) q1) (fun _ => ?_)
    refine sx_RP.step (pc2 := 299) (ls2 := [(3, .int (nI i)), (2, .ref 111), (1, .ref 0), (0, .float 4)]) (st2 := [.int 1, .int (ys.getD ((i + 1)) 0), .ref 111]) (w3 := w14) rfl rfl ?_
    refine sx_RP.step (pc2 := 303) (ls2 := [(3, .int (nI i)), (2, .ref 111), (1, .ref 0), (0, .float 4)]) (st2 := [.int 1, .int (ys.getD ((i + 1)) 0), .ref 111]) (w3 := w14) rfl rfl ?_
    refine sx_RP.callp (as2 := [.ref 111, .int (ys.getD ((i + 1)) 0), .int 1]) (rest2 := []) rfl rfl (sx_inv_v2 (mi := 246) (k := 22) (st := [.int 1, .int (ys.getD ((i + 1)) 0), .ref 111]) (w := w14) rfl rfl hI15.1.o111 rfl rfl rfl) rfl rfl rfl (sx_RP.byk (K134 (d := 1) hI15 (ys.getD ((i + 1)) 0) 1)) (show _ = 306 from rfl) ?_
    rintro r4 w20 ⟨⟨⟨v22, rfl⟩, hI21, hE23⟩, hbk25⟩
    have hL24 : LI w20 := hL18.rm hI15 hE23.el hbk25
    show sx_RP _ _ _ _ _ [.int v22] _ _
    refine sx_RP.step (pc2 := 307) (ls2 := [(3, .int (nI i)), (2, .ref 111), (1, .ref 0), (0, .float 4)]) (st2 := []) (w3 := w20) rfl rfl ?_
    refine sx_RP.step (pc2 := 1539) (ls2 := [(3, .int (nI i)), (2, .ref 111), (1, .ref 0), (0, .float 4)]) (st2 := []) (w3 := w20) rfl rfl ?_
    exact kk w20 hI21 hL24
set_option maxRecDepth 20000 in
set_option maxHeartbeats 4000000 in
theorem lc2 {ys : List Int32} {i : Nat} {w : List sx_C} {P : Option Value → List sx_C → Prop} (hl : ys.length ≤ 3072) (hn : i + 6 ≤ ys.length) (hI : WI w) (hL : LI w) (kk : ∀ w2, WI w2 → LI w2 → sx_RP (some ys) 9 246 1539 [(3, .int (nI i)), (2, .ref 111), (1, .ref 0), (0, .float 4)] [] w2 P) : sx_RP (some ys) 9 246 310 [(3, .int (nI i)), (2, .ref 111), (1, .ref 0), (0, .float 4)] [] w P := by
  refine sx_RP.step (pc2 := 311) (ls2 := [(3, .int (nI i)), (2, .ref 111), (1, .ref 0), (0, .float 4)]) (st2 := [.ref 0]) (w3 := w) rfl rfl ?_
  refine sx_RP.step (pc2 := 312) (ls2 := [(3, .int (nI i)), (2, .ref 111), (1, .ref 0), (0, .float 4)]) (st2 := [.float 4, .ref 0]) (w3 := w) rfl rfl ?_
  refine sx_RP.step (pc2 := 313) (ls2 := [(3, .int (nI i)), (2, .ref 111), (1, .ref 0), (0, .float 4)]) (st2 := [.int (nI i), .float 4, .ref 0]) (w3 := w) rfl rfl ?_
  refine sx_RP.step (pc2 := 314) (ls2 := [(3, .int (nI i)), (2, .ref 111), (1, .ref 0), (0, .float 4)]) (st2 := [.int 1, .int (nI i), .float 4, .ref 0]) (w3 := w) rfl rfl ?_
  refine sx_RP.step (pc2 := 315) (ls2 := [(3, .int (nI i)), (2, .ref 111), (1, .ref 0), (0, .float 4)]) (st2 := [.int ((nI i) + 1), .float 4, .ref 0]) (w3 := w) rfl rfl ?_
  rw [show ((nI i) + 1 : Int32) = nI (i + 1) from nI_add i 1]
  refine sx_RP.scr (x := (i + 1)) rfl (by omega) hl (show _ = 316 from rfl) ?_
  refine sx_RP.step (pc2 := 317) (ls2 := [(3, .int (nI i)), (2, .ref 111), (1, .ref 0), (0, .float 4)]) (st2 := [.float 4, .int (ys.getD ((i + 1)) 0), .ref 0]) (w3 := w) rfl rfl ?_
  refine sx_RP.step (pc2 := 318) (ls2 := [(3, .int (nI i)), (2, .ref 111), (1, .ref 0), (0, .float 4)]) (st2 := [.int (nI i), .float 4, .int (ys.getD ((i + 1)) 0), .ref 0]) (w3 := w) rfl rfl ?_
  refine sx_RP.step (pc2 := 319) (ls2 := [(3, .int (nI i)), (2, .ref 111), (1, .ref 0), (0, .float 4)]) (st2 := [.int 2, .int (nI i), .float 4, .int (ys.getD ((i + 1)) 0), .ref 0]) (w3 := w) rfl rfl ?_
  refine sx_RP.step (pc2 := 320) (ls2 := [(3, .int (nI i)), (2, .ref 111), (1, .ref 0), (0, .float 4)]) (st2 := [.int ((nI i) + 2), .float 4, .int (ys.getD ((i + 1)) 0), .ref 0]) (w3 := w) rfl rfl ?_
  rw [show ((nI i) + 2 : Int32) = nI (i + 2) from nI_add i 2]
  refine sx_RP.scr (x := (i + 2)) rfl (by omega) hl (show _ = 321 from rfl) ?_
  refine sx_RP.callp (as2 := [.ref 0, .int (ys.getD ((i + 1)) 0), .int (ys.getD ((i + 2)) 0)]) (rest2 := []) rfl rfl (sx_inv_v2 (mi := 246) (k := 23) (st := [.int (ys.getD ((i + 2)) 0), .int (ys.getD ((i + 1)) 0), .ref 0]) (w := w) rfl rfl hI.1.o0 rfl rfl rfl) rfl rfl rfl (sx_RP.byk (Q12 (d := 1) hI (ys.getD ((i + 1)) 0) (ys.getD ((i + 2)) 0))) (show _ = 324 from rfl) ?_
  rintro r4 w1 ⟨⟨⟨v3, rfl⟩, hI2, hE4⟩, hbk6⟩
  have hL5 : LI w1 := hL.rc hI hE4.en hbk6
  show sx_RP _ _ _ _ _ [.int v3] _ _
  refine sx_RP.step (pc2 := 325) (ls2 := [(3, .int (nI i)), (2, .ref 111), (1, .ref 0), (0, .float 4)]) (st2 := []) (w3 := w1) rfl rfl ?_
  refine sx_RP.step (pc2 := 326) (ls2 := [(3, .int (nI i)), (2, .ref 111), (1, .ref 0), (0, .float 4)]) (st2 := [.ref 111]) (w3 := w1) rfl rfl ?_
  refine sx_RP.step (pc2 := 327) (ls2 := [(3, .int (nI i)), (2, .ref 111), (1, .ref 0), (0, .float 4)]) (st2 := [.float 4, .ref 111]) (w3 := w1) rfl rfl ?_
  refine sx_RP.step (pc2 := 328) (ls2 := [(3, .int (nI i)), (2, .ref 111), (1, .ref 0), (0, .float 4)]) (st2 := [.int (nI i), .float 4, .ref 111]) (w3 := w1) rfl rfl ?_
  refine sx_RP.step (pc2 := 329) (ls2 := [(3, .int (nI i)), (2, .ref 111), (1, .ref 0), (0, .float 4)]) (st2 := [.int 1, .int (nI i), .float 4, .ref 111]) (w3 := w1) rfl rfl ?_
  refine sx_RP.step (pc2 := 330) (ls2 := [(3, .int (nI i)), (2, .ref 111), (1, .ref 0), (0, .float 4)]) (st2 := [.int ((nI i) + 1), .float 4, .ref 111]) (w3 := w1) rfl rfl ?_
  rw [show ((nI i) + 1 : Int32) = nI (i + 1) from nI_add i 1]
  refine sx_RP.scr (x := (i + 1)) rfl (by omega) hl (show _ = 331 from rfl) ?_
  refine sx_RP.step (pc2 := 332) (ls2 := [(3, .int (nI i)), (2, .ref 111), (1, .ref 0), (0, .float 4)]) (st2 := [.float 4, .int (ys.getD ((i + 1)) 0), .ref 111]) (w3 := w1) rfl rfl ?_
  refine sx_RP.step (pc2 := 333) (ls2 := [(3, .int (nI i)), (2, .ref 111), (1, .ref 0), (0, .float 4)]) (st2 := [.int (nI i), .float 4, .int (ys.getD ((i + 1)) 0), .ref 111]) (w3 := w1) rfl rfl ?_
  refine sx_RP.step (pc2 := 334) (ls2 := [(3, .int (nI i)), (2, .ref 111), (1, .ref 0), (0, .float 4)]) (st2 := [.int 2, .int (nI i), .float 4, .int (ys.getD ((i + 1)) 0), .ref 111]) (w3 := w1) rfl rfl ?_
  refine sx_RP.step (pc2 := 335) (ls2 := [(3, .int (nI i)), (2, .ref 111), (1, .ref 0), (0, .float 4)]) (st2 := [.int ((nI i) + 2), .float 4, .int (ys.getD ((i + 1)) 0), .ref 111]) (w3 := w1) rfl rfl ?_
  rw [show ((nI i) + 2 : Int32) = nI (i + 2) from nI_add i 2]
  refine sx_RP.scr (x := (i + 2)) rfl (by omega) hl (show _ = 336 from rfl) ?_
  refine sx_RP.callp (as2 := [.ref 111, .int (ys.getD ((i + 1)) 0), .int (ys.getD ((i + 2)) 0)]) (rest2 := []) rfl rfl (sx_inv_v2 (mi := 246) (k := 26) (st := [.int (ys.getD ((i + 2)) 0), .int (ys.getD ((i + 1)) 0), .ref 111]) (w := w1) rfl rfl hI2.1.o111 rfl rfl rfl) rfl rfl rfl (sx_RP.byk (K135 (d := 1) hI2 (ys.getD ((i + 1)) 0) (ys.getD ((i + 2)) 0))) (show _ = 339 from rfl) ?_
  rintro r4 w7 ⟨⟨⟨v9, rfl⟩, hI8, hE10⟩, hbk12⟩
  have hL11 : LI w7 := hL5.rm hI2 hE10.el hbk12
  show sx_RP _ _ _ _ _ [.int v9] _ _
  refine sx_RP.step (pc2 := 340) (ls2 := [(3, .int (nI i)), (2, .ref 111), (1, .ref 0), (0, .float 4)]) (st2 := []) (w3 := w7) rfl rfl ?_
  refine sx_RP.step (pc2 := 1539) (ls2 := [(3, .int (nI i)), (2, .ref 111), (1, .ref 0), (0, .float 4)]) (st2 := []) (w3 := w7) rfl rfl ?_
  exact kk w7 hI8 hL11
set_option maxRecDepth 20000 in
set_option maxHeartbeats 4000000 in
theorem lc3 {ys : List Int32} {i : Nat} {w : List sx_C} {P : Option Value → List sx_C → Prop} (hl : ys.length ≤ 3072) (hn : i + 6 ≤ ys.length) (hI : WI w) (hL : LI w) (kk : ∀ w2, WI w2 → LI w2 → sx_RP (some ys) 9 246 1539 [(3, .int (nI i)), (2, .ref 111), (1, .ref 0), (0, .float 4)] [] w2 P) : sx_RP (some ys) 9 246 343 [(3, .int (nI i)), (2, .ref 111), (1, .ref 0), (0, .float 4)] [] w P := by
  refine sx_RP.step (pc2 := 344) (ls2 := [(3, .int (nI i)), (2, .ref 111), (1, .ref 0), (0, .float 4)]) (st2 := [.ref 0]) (w3 := w) rfl rfl ?_
  refine sx_RP.callp (as2 := [.ref 0]) (rest2 := []) rfl rfl (sx_inv_v2 (mi := 246) (k := 27) (st := [.ref 0]) (w := w) rfl rfl hI.1.o0 rfl rfl rfl) rfl rfl rfl (sx_RP.byk (Q14 (d := 1) hI)) (show _ = 347 from rfl) ?_
  rintro r4 w1 ⟨⟨⟨v3, rfl⟩, hI2, hE4⟩, hbk6⟩
  have hL5 : LI w1 := hL.rc hI hE4.en hbk6
  show sx_RP _ _ _ _ _ [.long v3] _ _
  refine sx_RP.step (pc2 := 348) (ls2 := [(3, .int (nI i)), (2, .ref 111), (1, .ref 0), (0, .float 4)]) (st2 := []) (w3 := w1) rfl rfl ?_
  refine sx_RP.step (pc2 := 349) (ls2 := [(3, .int (nI i)), (2, .ref 111), (1, .ref 0), (0, .float 4)]) (st2 := [.ref 111]) (w3 := w1) rfl rfl ?_
  refine sx_RP.callp (as2 := [.ref 111]) (rest2 := []) rfl rfl (sx_inv_v2 (mi := 246) (k := 31) (st := [.ref 111]) (w := w1) rfl rfl hI2.1.o111 rfl rfl rfl) rfl rfl rfl (sx_RP.byk (t139 (d := 1) hI2)) (show _ = 352 from rfl) ?_
  rintro r4 w7 ⟨⟨⟨v9, rfl⟩, hI8, hE10⟩, hbk12⟩
  have hL11 : LI w7 := hL5.rm hI2 hE10 hbk12
  show sx_RP _ _ _ _ _ [.long v9] _ _
  refine sx_RP.step (pc2 := 353) (ls2 := [(3, .int (nI i)), (2, .ref 111), (1, .ref 0), (0, .float 4)]) (st2 := []) (w3 := w7) rfl rfl ?_
  refine sx_RP.step (pc2 := 1539) (ls2 := [(3, .int (nI i)), (2, .ref 111), (1, .ref 0), (0, .float 4)]) (st2 := []) (w3 := w7) rfl rfl ?_
  exact kk w7 hI8 hL11
set_option maxRecDepth 20000 in
set_option maxHeartbeats 4000000 in
theorem lc4 {ys : List Int32} {i : Nat} {w : List sx_C} {P : Option Value → List sx_C → Prop} (hl : ys.length ≤ 3072) (hn : i + 6 ≤ ys.length) (hI : WI w) (hL : LI w) (kk : ∀ w2, WI w2 → LI w2 → sx_RP (some ys) 9 246 1539 [(3, .int (nI i)), (2, .ref 111), (1, .ref 0), (0, .float 4)] [] w2 P) : sx_RP (some ys) 9 246 356 [(3, .int (nI i)), (2, .ref 111), (1, .ref 0), (0, .float 4)] [] w P := by
  refine sx_RP.step (pc2 := 357) (ls2 := [(3, .int (nI i)), (2, .ref 111), (1, .ref 0), (0, .float 4)]) (st2 := [.ref 0]) (w3 := w) rfl rfl ?_
  refine sx_RP.step (pc2 := 358) (ls2 := [(3, .int (nI i)), (2, .ref 111), (1, .ref 0), (0, .float 4)]) (st2 := [.float 4, .ref 0]) (w3 := w) rfl rfl ?_
  refine sx_RP.step (pc2 := 359) (ls2 := [(3, .int (nI i)), (2, .ref 111), (1, .ref 0), (0, .float 4)]) (st2 := [.int (nI i), .float 4, .ref 0]) (w3 := w) rfl rfl ?_
  refine sx_RP.step (pc2 := 360) (ls2 := [(3, .int (nI i)), (2, .ref 111), (1, .ref 0), (0, .float 4)]) (st2 := [.int 1, .int (nI i), .float 4, .ref 0]) (w3 := w) rfl rfl ?_
  refine sx_RP.step (pc2 := 361) (ls2 := [(3, .int (nI i)), (2, .ref 111), (1, .ref 0), (0, .float 4)]) (st2 := [.int ((nI i) + 1), .float 4, .ref 0]) (w3 := w) rfl rfl ?_
  rw [show ((nI i) + 1 : Int32) = nI (i + 1) from nI_add i 1]
  refine sx_RP.scr (x := (i + 1)) rfl (by omega) hl (show _ = 362 from rfl) ?_
  refine sx_RP.step (pc2 := 363) (ls2 := [(3, .int (nI i)), (2, .ref 111), (1, .ref 0), (0, .float 4)]) (st2 := [.float 4, .int (ys.getD ((i + 1)) 0), .ref 0]) (w3 := w) rfl rfl ?_
  refine sx_RP.step (pc2 := 364) (ls2 := [(3, .int (nI i)), (2, .ref 111), (1, .ref 0), (0, .float 4)]) (st2 := [.int (nI i), .float 4, .int (ys.getD ((i + 1)) 0), .ref 0]) (w3 := w) rfl rfl ?_
  refine sx_RP.step (pc2 := 365) (ls2 := [(3, .int (nI i)), (2, .ref 111), (1, .ref 0), (0, .float 4)]) (st2 := [.int 2, .int (nI i), .float 4, .int (ys.getD ((i + 1)) 0), .ref 0]) (w3 := w) rfl rfl ?_
  refine sx_RP.step (pc2 := 366) (ls2 := [(3, .int (nI i)), (2, .ref 111), (1, .ref 0), (0, .float 4)]) (st2 := [.int ((nI i) + 2), .float 4, .int (ys.getD ((i + 1)) 0), .ref 0]) (w3 := w) rfl rfl ?_
  rw [show ((nI i) + 2 : Int32) = nI (i + 2) from nI_add i 2]
  refine sx_RP.scr (x := (i + 2)) rfl (by omega) hl (show _ = 367 from rfl) ?_
  refine sx_RP.callp (as2 := [.ref 0, .int (ys.getD ((i + 1)) 0), .int (ys.getD ((i + 2)) 0)]) (rest2 := []) rfl rfl (sx_inv_v2 (mi := 246) (k := 32) (st := [.int (ys.getD ((i + 2)) 0), .int (ys.getD ((i + 1)) 0), .ref 0]) (w := w) rfl rfl hI.1.o0 rfl rfl rfl) rfl rfl rfl (sx_RP.byk (Q15 (d := 1) hI (ys.getD ((i + 1)) 0) (ys.getD ((i + 2)) 0))) (show _ = 370 from rfl) ?_
  rintro r4 w1 ⟨⟨⟨v3, rfl⟩, hI2, hE4⟩, hbk6⟩
  have hL5 : LI w1 := hL.rc hI hE4.en hbk6
  show sx_RP _ _ _ _ _ [.int v3] _ _
  refine sx_RP.step (pc2 := 371) (ls2 := [(3, .int (nI i)), (2, .ref 111), (1, .ref 0), (0, .float 4)]) (st2 := []) (w3 := w1) rfl rfl ?_
  refine sx_RP.step (pc2 := 372) (ls2 := [(3, .int (nI i)), (2, .ref 111), (1, .ref 0), (0, .float 4)]) (st2 := [.ref 111]) (w3 := w1) rfl rfl ?_
  refine sx_RP.step (pc2 := 373) (ls2 := [(3, .int (nI i)), (2, .ref 111), (1, .ref 0), (0, .float 4)]) (st2 := [.float 4, .ref 111]) (w3 := w1) rfl rfl ?_
  refine sx_RP.step (pc2 := 374) (ls2 := [(3, .int (nI i)), (2, .ref 111), (1, .ref 0), (0, .float 4)]) (st2 := [.int (nI i), .float 4, .ref 111]) (w3 := w1) rfl rfl ?_
  refine sx_RP.step (pc2 := 375) (ls2 := [(3, .int (nI i)), (2, .ref 111), (1, .ref 0), (0, .float 4)]) (st2 := [.int 1, .int (nI i), .float 4, .ref 111]) (w3 := w1) rfl rfl ?_
  refine sx_RP.step (pc2 := 376) (ls2 := [(3, .int (nI i)), (2, .ref 111), (1, .ref 0), (0, .float 4)]) (st2 := [.int ((nI i) + 1), .float 4, .ref 111]) (w3 := w1) rfl rfl ?_
  rw [show ((nI i) + 1 : Int32) = nI (i + 1) from nI_add i 1]
  refine sx_RP.scr (x := (i + 1)) rfl (by omega) hl (show _ = 377 from rfl) ?_
  refine sx_RP.step (pc2 := 378) (ls2 := [(3, .int (nI i)), (2, .ref 111), (1, .ref 0), (0, .float 4)]) (st2 := [.float 4, .int (ys.getD ((i + 1)) 0), .ref 111]) (w3 := w1) rfl rfl ?_
  refine sx_RP.step (pc2 := 379) (ls2 := [(3, .int (nI i)), (2, .ref 111), (1, .ref 0), (0, .float 4)]) (st2 := [.int (nI i), .float 4, .int (ys.getD ((i + 1)) 0), .ref 111]) (w3 := w1) rfl rfl ?_
  refine sx_RP.step (pc2 := 380) (ls2 := [(3, .int (nI i)), (2, .ref 111), (1, .ref 0), (0, .float 4)]) (st2 := [.int 2, .int (nI i), .float 4, .int (ys.getD ((i + 1)) 0), .ref 111]) (w3 := w1) rfl rfl ?_
  refine sx_RP.step (pc2 := 381) (ls2 := [(3, .int (nI i)), (2, .ref 111), (1, .ref 0), (0, .float 4)]) (st2 := [.int ((nI i) + 2), .float 4, .int (ys.getD ((i + 1)) 0), .ref 111]) (w3 := w1) rfl rfl ?_
  rw [show ((nI i) + 2 : Int32) = nI (i + 2) from nI_add i 2]
  refine sx_RP.scr (x := (i + 2)) rfl (by omega) hl (show _ = 382 from rfl) ?_
  refine sx_RP.callp (as2 := [.ref 111, .int (ys.getD ((i + 1)) 0), .int (ys.getD ((i + 2)) 0)]) (rest2 := []) rfl rfl (sx_inv_v2 (mi := 246) (k := 35) (st := [.int (ys.getD ((i + 2)) 0), .int (ys.getD ((i + 1)) 0), .ref 111]) (w := w1) rfl rfl hI2.1.o111 rfl rfl rfl) rfl rfl rfl (sx_RP.byk (K140 (d := 1) hI2 (ys.getD ((i + 1)) 0) (ys.getD ((i + 2)) 0))) (show _ = 385 from rfl) ?_
  rintro r4 w7 ⟨⟨⟨v9, rfl⟩, hI8, hE10⟩, hbk12⟩
  have hL11 : LI w7 := hL5.rm hI2 hE10.el hbk12
  show sx_RP _ _ _ _ _ [.int v9] _ _
  refine sx_RP.step (pc2 := 386) (ls2 := [(3, .int (nI i)), (2, .ref 111), (1, .ref 0), (0, .float 4)]) (st2 := []) (w3 := w7) rfl rfl ?_
  refine sx_RP.step (pc2 := 1539) (ls2 := [(3, .int (nI i)), (2, .ref 111), (1, .ref 0), (0, .float 4)]) (st2 := []) (w3 := w7) rfl rfl ?_
  exact kk w7 hI8 hL11
set_option maxRecDepth 20000 in
set_option maxHeartbeats 4000000 in
theorem lc5 {ys : List Int32} {i : Nat} {w : List sx_C} {P : Option Value → List sx_C → Prop} (hl : ys.length ≤ 3072) (hn : i + 6 ≤ ys.length) (hI : WI w) (hL : LI w) (kk : ∀ w2, WI w2 → LI w2 → sx_RP (some ys) 9 246 1539 [(3, .int (nI i)), (2, .ref 111), (1, .ref 0), (0, .float 4)] [] w2 P) : sx_RP (some ys) 9 246 389 [(3, .int (nI i)), (2, .ref 111), (1, .ref 0), (0, .float 4)] [] w P := by
  refine sx_RP.step (pc2 := 390) (ls2 := [(3, .int (nI i)), (2, .ref 111), (1, .ref 0), (0, .float 4)]) (st2 := [.ref 0]) (w3 := w) rfl rfl ?_
  refine sx_RP.step (pc2 := 391) (ls2 := [(3, .int (nI i)), (2, .ref 111), (1, .ref 0), (0, .float 4)]) (st2 := [.float 4, .ref 0]) (w3 := w) rfl rfl ?_
  refine sx_RP.step (pc2 := 392) (ls2 := [(3, .int (nI i)), (2, .ref 111), (1, .ref 0), (0, .float 4)]) (st2 := [.int (nI i), .float 4, .ref 0]) (w3 := w) rfl rfl ?_
  refine sx_RP.step (pc2 := 393) (ls2 := [(3, .int (nI i)), (2, .ref 111), (1, .ref 0), (0, .float 4)]) (st2 := [.int 1, .int (nI i), .float 4, .ref 0]) (w3 := w) rfl rfl ?_
  refine sx_RP.step (pc2 := 394) (ls2 := [(3, .int (nI i)), (2, .ref 111), (1, .ref 0), (0, .float 4)]) (st2 := [.int ((nI i) + 1), .float 4, .ref 0]) (w3 := w) rfl rfl ?_
  rw [show ((nI i) + 1 : Int32) = nI (i + 1) from nI_add i 1]
  refine sx_RP.scr (x := (i + 1)) rfl (by omega) hl (show _ = 395 from rfl) ?_
  refine sx_RP.step (pc2 := 396) (ls2 := [(3, .int (nI i)), (2, .ref 111), (1, .ref 0), (0, .float 4)]) (st2 := [.float 4, .int (ys.getD ((i + 1)) 0), .ref 0]) (w3 := w) rfl rfl ?_
  refine sx_RP.step (pc2 := 397) (ls2 := [(3, .int (nI i)), (2, .ref 111), (1, .ref 0), (0, .float 4)]) (st2 := [.int (nI i), .float 4, .int (ys.getD ((i + 1)) 0), .ref 0]) (w3 := w) rfl rfl ?_
  refine sx_RP.step (pc2 := 398) (ls2 := [(3, .int (nI i)), (2, .ref 111), (1, .ref 0), (0, .float 4)]) (st2 := [.int 2, .int (nI i), .float 4, .int (ys.getD ((i + 1)) 0), .ref 0]) (w3 := w) rfl rfl ?_
  refine sx_RP.step (pc2 := 399) (ls2 := [(3, .int (nI i)), (2, .ref 111), (1, .ref 0), (0, .float 4)]) (st2 := [.int ((nI i) + 2), .float 4, .int (ys.getD ((i + 1)) 0), .ref 0]) (w3 := w) rfl rfl ?_
  rw [show ((nI i) + 2 : Int32) = nI (i + 2) from nI_add i 2]
  refine sx_RP.scr (x := (i + 2)) rfl (by omega) hl (show _ = 400 from rfl) ?_
  refine sx_RP.step (pc2 := 401) (ls2 := [(3, .int (nI i)), (2, .ref 111), (1, .ref 0), (0, .float 4)]) (st2 := [.float 4, .int (ys.getD ((i + 2)) 0), .int (ys.getD ((i + 1)) 0), .ref 0]) (w3 := w) rfl rfl ?_
  refine sx_RP.step (pc2 := 402) (ls2 := [(3, .int (nI i)), (2, .ref 111), (1, .ref 0), (0, .float 4)]) (st2 := [.int (nI i), .float 4, .int (ys.getD ((i + 2)) 0), .int (ys.getD ((i + 1)) 0), .ref 0]) (w3 := w) rfl rfl ?_
  refine sx_RP.step (pc2 := 403) (ls2 := [(3, .int (nI i)), (2, .ref 111), (1, .ref 0), (0, .float 4)]) (st2 := [.int 3, .int (nI i), .float 4, .int (ys.getD ((i + 2)) 0), .int (ys.getD ((i + 1)) 0), .ref 0]) (w3 := w) rfl rfl ?_
  refine sx_RP.step (pc2 := 404) (ls2 := [(3, .int (nI i)), (2, .ref 111), (1, .ref 0), (0, .float 4)]) (st2 := [.int ((nI i) + 3), .float 4, .int (ys.getD ((i + 2)) 0), .int (ys.getD ((i + 1)) 0), .ref 0]) (w3 := w) rfl rfl ?_
  rw [show ((nI i) + 3 : Int32) = nI (i + 3) from nI_add i 3]
  refine sx_RP.scr (x := (i + 3)) rfl (by omega) hl (show _ = 405 from rfl) ?_
  refine sx_RP.step (pc2 := 406) (ls2 := [(3, .int (nI i)), (2, .ref 111), (1, .ref 0), (0, .float 4)]) (st2 := [.float 4, .int (ys.getD ((i + 3)) 0), .int (ys.getD ((i + 2)) 0), .int (ys.getD ((i + 1)) 0), .ref 0]) (w3 := w) rfl rfl ?_
  refine sx_RP.step (pc2 := 407) (ls2 := [(3, .int (nI i)), (2, .ref 111), (1, .ref 0), (0, .float 4)]) (st2 := [.int (nI i), .float 4, .int (ys.getD ((i + 3)) 0), .int (ys.getD ((i + 2)) 0), .int (ys.getD ((i + 1)) 0), .ref 0]) (w3 := w) rfl rfl ?_
  refine sx_RP.step (pc2 := 408) (ls2 := [(3, .int (nI i)), (2, .ref 111), (1, .ref 0), (0, .float 4)]) (st2 := [.int 4, .int (nI i), .float 4, .int (ys.getD ((i + 3)) 0), .int (ys.getD ((i + 2)) 0), .int (ys.getD ((i + 1)) 0), .ref 0]) (w3 := w) rfl rfl ?_
  refine sx_RP.step (pc2 := 409) (ls2 := [(3, .int (nI i)), (2, .ref 111), (1, .ref 0), (0, .float 4)]) (st2 := [.int ((nI i) + 4), .float 4, .int (ys.getD ((i + 3)) 0), .int (ys.getD ((i + 2)) 0), .int (ys.getD ((i + 1)) 0), .ref 0]) (w3 := w) rfl rfl ?_
  rw [show ((nI i) + 4 : Int32) = nI (i + 4) from nI_add i 4]
  refine sx_RP.scr (x := (i + 4)) rfl (by omega) hl (show _ = 410 from rfl) ?_
  refine sx_RP.callp (as2 := [.ref 0, .int (ys.getD ((i + 1)) 0), .int (ys.getD ((i + 2)) 0), .int (ys.getD ((i + 3)) 0), .int (ys.getD ((i + 4)) 0)]) (rest2 := []) rfl rfl (sx_inv_v2 (mi := 246) (k := 36) (st := [.int (ys.getD ((i + 4)) 0), .int (ys.getD ((i + 3)) 0), .int (ys.getD ((i + 2)) 0), .int (ys.getD ((i + 1)) 0), .ref 0]) (w := w) rfl rfl hI.1.o0 rfl rfl rfl) rfl rfl rfl (sx_RP.byk (B21 (d := 1) hI (ys.getD ((i + 1)) 0) (ys.getD ((i + 2)) 0) (ys.getD ((i + 3)) 0) (ys.getD ((i + 4)) 0))) (show _ = 413 from rfl) ?_
  rintro r4 w1 ⟨⟨⟨rfl, hF4⟩, hI2, hE3⟩, hbk5⟩
  show sx_RP _ _ _ _ _ [.int (galA (FCb w) (ys.getD ((i + 1)) 0) (ys.getD ((i + 2)) 0) (ys.getD ((i + 3)) 0) (ys.getD ((i + 4)) 0))] _ _
  refine sx_RP.step (pc2 := 414) (ls2 := [(3, .int (nI i)), (2, .ref 111), (1, .ref 0), (0, .float 4)]) (st2 := []) (w3 := w1) rfl rfl ?_
  refine sx_RP.step (pc2 := 415) (ls2 := [(3, .int (nI i)), (2, .ref 111), (1, .ref 0), (0, .float 4)]) (st2 := [.ref 111]) (w3 := w1) rfl rfl ?_
  refine sx_RP.step (pc2 := 416) (ls2 := [(3, .int (nI i)), (2, .ref 111), (1, .ref 0), (0, .float 4)]) (st2 := [.float 4, .ref 111]) (w3 := w1) rfl rfl ?_
  refine sx_RP.step (pc2 := 417) (ls2 := [(3, .int (nI i)), (2, .ref 111), (1, .ref 0), (0, .float 4)]) (st2 := [.int (nI i), .float 4, .ref 111]) (w3 := w1) rfl rfl ?_
  refine sx_RP.step (pc2 := 418) (ls2 := [(3, .int (nI i)), (2, .ref 111), (1, .ref 0), (0, .float 4)]) (st2 := [.int 1, .int (nI i), .float 4, .ref 111]) (w3 := w1) rfl rfl ?_
  refine sx_RP.step (pc2 := 419) (ls2 := [(3, .int (nI i)), (2, .ref 111), (1, .ref 0), (0, .float 4)]) (st2 := [.int ((nI i) + 1), .float 4, .ref 111]) (w3 := w1) rfl rfl ?_
  rw [show ((nI i) + 1 : Int32) = nI (i + 1) from nI_add i 1]
  refine sx_RP.scr (x := (i + 1)) rfl (by omega) hl (show _ = 420 from rfl) ?_
  refine sx_RP.step (pc2 := 421) (ls2 := [(3, .int (nI i)), (2, .ref 111), (1, .ref 0), (0, .float 4)]) (st2 := [.float 4, .int (ys.getD ((i + 1)) 0), .ref 111]) (w3 := w1) rfl rfl ?_
  refine sx_RP.step (pc2 := 422) (ls2 := [(3, .int (nI i)), (2, .ref 111), (1, .ref 0), (0, .float 4)]) (st2 := [.int (nI i), .float 4, .int (ys.getD ((i + 1)) 0), .ref 111]) (w3 := w1) rfl rfl ?_
  refine sx_RP.step (pc2 := 423) (ls2 := [(3, .int (nI i)), (2, .ref 111), (1, .ref 0), (0, .float 4)]) (st2 := [.int 2, .int (nI i), .float 4, .int (ys.getD ((i + 1)) 0), .ref 111]) (w3 := w1) rfl rfl ?_
  refine sx_RP.step (pc2 := 424) (ls2 := [(3, .int (nI i)), (2, .ref 111), (1, .ref 0), (0, .float 4)]) (st2 := [.int ((nI i) + 2), .float 4, .int (ys.getD ((i + 1)) 0), .ref 111]) (w3 := w1) rfl rfl ?_
  rw [show ((nI i) + 2 : Int32) = nI (i + 2) from nI_add i 2]
  refine sx_RP.scr (x := (i + 2)) rfl (by omega) hl (show _ = 425 from rfl) ?_
  refine sx_RP.step (pc2 := 426) (ls2 := [(3, .int (nI i)), (2, .ref 111), (1, .ref 0), (0, .float 4)]) (st2 := [.float 4, .int (ys.getD ((i + 2)) 0), .int (ys.getD ((i + 1)) 0), .ref 111]) (w3 := w1) rfl rfl ?_
  refine sx_RP.step (pc2 := 427) (ls2 := [(3, .int (nI i)), (2, .ref 111), (1, .ref 0), (0, .float 4)]) (st2 := [.int (nI i), .float 4, .int (ys.getD ((i + 2)) 0), .int (ys.getD ((i + 1)) 0), .ref 111]) (w3 := w1) rfl rfl ?_
  refine sx_RP.step (pc2 := 428) (ls2 := [(3, .int (nI i)), (2, .ref 111), (1, .ref 0), (0, .float 4)]) (st2 := [.int 3, .int (nI i), .float 4, .int (ys.getD ((i + 2)) 0), .int (ys.getD ((i + 1)) 0), .ref 111]) (w3 := w1) rfl rfl ?_
  refine sx_RP.step (pc2 := 429) (ls2 := [(3, .int (nI i)), (2, .ref 111), (1, .ref 0), (0, .float 4)]) (st2 := [.int ((nI i) + 3), .float 4, .int (ys.getD ((i + 2)) 0), .int (ys.getD ((i + 1)) 0), .ref 111]) (w3 := w1) rfl rfl ?_
  rw [show ((nI i) + 3 : Int32) = nI (i + 3) from nI_add i 3]
  refine sx_RP.scr (x := (i + 3)) rfl (by omega) hl (show _ = 430 from rfl) ?_
  refine sx_RP.step (pc2 := 431) (ls2 := [(3, .int (nI i)), (2, .ref 111), (1, .ref 0), (0, .float 4)]) (st2 := [.float 4, .int (ys.getD ((i + 3)) 0), .int (ys.getD ((i + 2)) 0), .int (ys.getD ((i + 1)) 0), .ref 111]) (w3 := w1) rfl rfl ?_
  refine sx_RP.step (pc2 := 432) (ls2 := [(3, .int (nI i)), (2, .ref 111), (1, .ref 0), (0, .float 4)]) (st2 := [.int (nI i), .float 4, .int (ys.getD ((i + 3)) 0), .int (ys.getD ((i + 2)) 0), .int (ys.getD ((i + 1)) 0), .ref 111]) (w3 := w1) rfl rfl ?_
  refine sx_RP.step (pc2 := 433) (ls2 := [(3, .int (nI i)), (2, .ref 111), (1, .ref 0), (0, .float 4)]) (st2 := [.int 4, .int (nI i), .float 4, .int (ys.getD ((i + 3)) 0), .int (ys.getD ((i + 2)) 0), .int (ys.getD ((i + 1)) 0), .ref 111]) (w3 := w1) rfl rfl ?_
  refine sx_RP.step (pc2 := 434) (ls2 := [(3, .int (nI i)), (2, .ref 111), (1, .ref 0), (0, .float 4)]) (st2 := [.int ((nI i) + 4), .float 4, .int (ys.getD ((i + 3)) 0), .int (ys.getD ((i + 2)) 0), .int (ys.getD ((i + 1)) 0), .ref 111]) (w3 := w1) rfl rfl ?_
  rw [show ((nI i) + 4 : Int32) = nI (i + 4) from nI_add i 4]
  refine sx_RP.scr (x := (i + 4)) rfl (by omega) hl (show _ = 435 from rfl) ?_
  refine sx_RP.callp (as2 := [.ref 111, .int (ys.getD ((i + 1)) 0), .int (ys.getD ((i + 2)) 0), .int (ys.getD ((i + 3)) 0), .int (ys.getD ((i + 4)) 0)]) (rest2 := []) rfl rfl (sx_inv_v2 (mi := 246) (k := 40) (st := [.int (ys.getD ((i + 4)) 0), .int (ys.getD ((i + 3)) 0), .int (ys.getD ((i + 2)) 0), .int (ys.getD ((i + 1)) 0), .ref 111]) (w := w1) rfl rfl hI2.1.o111 rfl rfl rfl) rfl rfl rfl (sx_RP.byk (B150 (d := 1) hI2 (ys.getD ((i + 1)) 0) (ys.getD ((i + 2)) 0) (ys.getD ((i + 3)) 0) (ys.getD ((i + 4)) 0))) (show _ = 438 from rfl) ?_
  rintro r4 w6 ⟨⟨⟨rfl, hF9⟩, hI7, hE8⟩, hbk11⟩
  have hL10 : LI w6 := LI.two (fun t => galU t (ys.getD ((i + 1)) 0) (ys.getD ((i + 2)) 0) (ys.getD ((i + 3)) 0) (ys.getD ((i + 4)) 0)) hL hE3 hF4 hI2 hE8 hF9 (hL.1.2.gal (ys.getD ((i + 1)) 0) (ys.getD ((i + 2)) 0) (ys.getD ((i + 3)) 0) (ys.getD ((i + 4)) 0)) hbk5 hbk11
  show sx_RP _ _ _ _ _ [.int (galA (FMb w1) (ys.getD ((i + 1)) 0) (ys.getD ((i + 2)) 0) (ys.getD ((i + 3)) 0) (ys.getD ((i + 4)) 0))] _ _
  refine sx_RP.step (pc2 := 439) (ls2 := [(3, .int (nI i)), (2, .ref 111), (1, .ref 0), (0, .float 4)]) (st2 := []) (w3 := w6) rfl rfl ?_
  refine sx_RP.step (pc2 := 1539) (ls2 := [(3, .int (nI i)), (2, .ref 111), (1, .ref 0), (0, .float 4)]) (st2 := []) (w3 := w6) rfl rfl ?_
  exact kk w6 hI7 hL10
set_option maxRecDepth 20000 in
set_option maxHeartbeats 4000000 in
theorem lc6 {ys : List Int32} {i : Nat} {w : List sx_C} {P : Option Value → List sx_C → Prop} (hl : ys.length ≤ 3072) (hn : i + 6 ≤ ys.length) (hI : WI w) (hL : LI w) (kk : ∀ w2, WI w2 → LI w2 → sx_RP (some ys) 9 246 1539 [(3, .int (nI i)), (2, .ref 111), (1, .ref 0), (0, .float 4)] [] w2 P) : sx_RP (some ys) 9 246 442 [(3, .int (nI i)), (2, .ref 111), (1, .ref 0), (0, .float 4)] [] w P := by
  refine sx_RP.step (pc2 := 443) (ls2 := [(3, .int (nI i)), (2, .ref 111), (1, .ref 0), (0, .float 4)]) (st2 := [.ref 0]) (w3 := w) rfl rfl ?_
  refine sx_RP.step (pc2 := 444) (ls2 := [(3, .int (nI i)), (2, .ref 111), (1, .ref 0), (0, .float 4)]) (st2 := [.float 4, .ref 0]) (w3 := w) rfl rfl ?_
  refine sx_RP.step (pc2 := 445) (ls2 := [(3, .int (nI i)), (2, .ref 111), (1, .ref 0), (0, .float 4)]) (st2 := [.int (nI i), .float 4, .ref 0]) (w3 := w) rfl rfl ?_
  refine sx_RP.step (pc2 := 446) (ls2 := [(3, .int (nI i)), (2, .ref 111), (1, .ref 0), (0, .float 4)]) (st2 := [.int 1, .int (nI i), .float 4, .ref 0]) (w3 := w) rfl rfl ?_
  refine sx_RP.step (pc2 := 447) (ls2 := [(3, .int (nI i)), (2, .ref 111), (1, .ref 0), (0, .float 4)]) (st2 := [.int ((nI i) + 1), .float 4, .ref 0]) (w3 := w) rfl rfl ?_
  rw [show ((nI i) + 1 : Int32) = nI (i + 1) from nI_add i 1]
  refine sx_RP.scr (x := (i + 1)) rfl (by omega) hl (show _ = 448 from rfl) ?_
  refine sx_RP.step (pc2 := 449) (ls2 := [(3, .int (nI i)), (2, .ref 111), (1, .ref 0), (0, .float 4)]) (st2 := [.float 4, .int (ys.getD ((i + 1)) 0), .ref 0]) (w3 := w) rfl rfl ?_
  refine sx_RP.step (pc2 := 450) (ls2 := [(3, .int (nI i)), (2, .ref 111), (1, .ref 0), (0, .float 4)]) (st2 := [.int (nI i), .float 4, .int (ys.getD ((i + 1)) 0), .ref 0]) (w3 := w) rfl rfl ?_
  refine sx_RP.step (pc2 := 451) (ls2 := [(3, .int (nI i)), (2, .ref 111), (1, .ref 0), (0, .float 4)]) (st2 := [.int 2, .int (nI i), .float 4, .int (ys.getD ((i + 1)) 0), .ref 0]) (w3 := w) rfl rfl ?_
  refine sx_RP.step (pc2 := 452) (ls2 := [(3, .int (nI i)), (2, .ref 111), (1, .ref 0), (0, .float 4)]) (st2 := [.int ((nI i) + 2), .float 4, .int (ys.getD ((i + 1)) 0), .ref 0]) (w3 := w) rfl rfl ?_
  rw [show ((nI i) + 2 : Int32) = nI (i + 2) from nI_add i 2]
  refine sx_RP.scr (x := (i + 2)) rfl (by omega) hl (show _ = 453 from rfl) ?_
  refine sx_RP.callp (as2 := [.ref 0, .int (ys.getD ((i + 1)) 0), .int (ys.getD ((i + 2)) 0)]) (rest2 := []) rfl rfl (sx_inv_v2 (mi := 246) (k := 41) (st := [.int (ys.getD ((i + 2)) 0), .int (ys.getD ((i + 1)) 0), .ref 0]) (w := w) rfl rfl hI.1.o0 rfl rfl rfl) rfl rfl rfl (sx_RP.byk (Q26 (d := 1) hI (ys.getD ((i + 1)) 0) (ys.getD ((i + 2)) 0))) (show _ = 456 from rfl) ?_
  rintro r4 w1 ⟨⟨⟨v3, rfl⟩, hI2, hE4⟩, hbk6⟩
  have hL5 : LI w1 := hL.rc hI hE4.en hbk6
  show sx_RP _ _ _ _ _ [.int v3] _ _
  refine sx_RP.step (pc2 := 457) (ls2 := [(3, .int (nI i)), (2, .ref 111), (1, .ref 0), (0, .float 4)]) (st2 := []) (w3 := w1) rfl rfl ?_
  refine sx_RP.step (pc2 := 458) (ls2 := [(3, .int (nI i)), (2, .ref 111), (1, .ref 0), (0, .float 4)]) (st2 := [.ref 111]) (w3 := w1) rfl rfl ?_
  refine sx_RP.step (pc2 := 459) (ls2 := [(3, .int (nI i)), (2, .ref 111), (1, .ref 0), (0, .float 4)]) (st2 := [.float 4, .ref 111]) (w3 := w1) rfl rfl ?_
  refine sx_RP.step (pc2 := 460) (ls2 := [(3, .int (nI i)), (2, .ref 111), (1, .ref 0), (0, .float 4)]) (st2 := [.int (nI i), .float 4, .ref 111]) (w3 := w1) rfl rfl ?_
  refine sx_RP.step (pc2 := 461) (ls2 := [(3, .int (nI i)), (2, .ref 111), (1, .ref 0), (0, .float 4)]) (st2 := [.int 1, .int (nI i), .float 4, .ref 111]) (w3 := w1) rfl rfl ?_
  refine sx_RP.step (pc2 := 462) (ls2 := [(3, .int (nI i)), (2, .ref 111), (1, .ref 0), (0, .float 4)]) (st2 := [.int ((nI i) + 1), .float 4, .ref 111]) (w3 := w1) rfl rfl ?_
  rw [show ((nI i) + 1 : Int32) = nI (i + 1) from nI_add i 1]
  refine sx_RP.scr (x := (i + 1)) rfl (by omega) hl (show _ = 463 from rfl) ?_
  refine sx_RP.step (pc2 := 464) (ls2 := [(3, .int (nI i)), (2, .ref 111), (1, .ref 0), (0, .float 4)]) (st2 := [.float 4, .int (ys.getD ((i + 1)) 0), .ref 111]) (w3 := w1) rfl rfl ?_
  refine sx_RP.step (pc2 := 465) (ls2 := [(3, .int (nI i)), (2, .ref 111), (1, .ref 0), (0, .float 4)]) (st2 := [.int (nI i), .float 4, .int (ys.getD ((i + 1)) 0), .ref 111]) (w3 := w1) rfl rfl ?_
  refine sx_RP.step (pc2 := 466) (ls2 := [(3, .int (nI i)), (2, .ref 111), (1, .ref 0), (0, .float 4)]) (st2 := [.int 2, .int (nI i), .float 4, .int (ys.getD ((i + 1)) 0), .ref 111]) (w3 := w1) rfl rfl ?_
  refine sx_RP.step (pc2 := 467) (ls2 := [(3, .int (nI i)), (2, .ref 111), (1, .ref 0), (0, .float 4)]) (st2 := [.int ((nI i) + 2), .float 4, .int (ys.getD ((i + 1)) 0), .ref 111]) (w3 := w1) rfl rfl ?_
  rw [show ((nI i) + 2 : Int32) = nI (i + 2) from nI_add i 2]
  refine sx_RP.scr (x := (i + 2)) rfl (by omega) hl (show _ = 468 from rfl) ?_
  refine sx_RP.callp (as2 := [.ref 111, .int (ys.getD ((i + 1)) 0), .int (ys.getD ((i + 2)) 0)]) (rest2 := []) rfl rfl (sx_inv_v2 (mi := 246) (k := 44) (st := [.int (ys.getD ((i + 2)) 0), .int (ys.getD ((i + 1)) 0), .ref 111]) (w := w1) rfl rfl hI2.1.o111 rfl rfl rfl) rfl rfl rfl (sx_RP.byk (K155 (d := 1) hI2 (ys.getD ((i + 1)) 0) (ys.getD ((i + 2)) 0))) (show _ = 471 from rfl) ?_
  rintro r4 w7 ⟨⟨⟨v9, rfl⟩, hI8, hE10⟩, hbk12⟩
  have hL11 : LI w7 := hL5.rm hI2 hE10.el hbk12
  show sx_RP _ _ _ _ _ [.int v9] _ _
  refine sx_RP.step (pc2 := 472) (ls2 := [(3, .int (nI i)), (2, .ref 111), (1, .ref 0), (0, .float 4)]) (st2 := []) (w3 := w7) rfl rfl ?_
  refine sx_RP.step (pc2 := 1539) (ls2 := [(3, .int (nI i)), (2, .ref 111), (1, .ref 0), (0, .float 4)]) (st2 := []) (w3 := w7) rfl rfl ?_
  exact kk w7 hI8 hL11
set_option maxRecDepth 20000 in
set_option maxHeartbeats 4000000 in
theorem lc7 {ys : List Int32} {i : Nat} {w : List sx_C} {P : Option Value → List sx_C → Prop} (hl : ys.length ≤ 3072) (hn : i + 6 ≤ ys.length) (hI : WI w) (hL : LI w) (kk : ∀ w2, WI w2 → LI w2 → sx_RP (some ys) 9 246 1539 [(3, .int (nI i)), (2, .ref 111), (1, .ref 0), (0, .float 4)] [] w2 P) : sx_RP (some ys) 9 246 475 [(3, .int (nI i)), (2, .ref 111), (1, .ref 0), (0, .float 4)] [] w P := by
  refine sx_RP.step (pc2 := 476) (ls2 := [(3, .int (nI i)), (2, .ref 111), (1, .ref 0), (0, .float 4)]) (st2 := [.ref 0]) (w3 := w) rfl rfl ?_
  refine sx_RP.step (pc2 := 477) (ls2 := [(3, .int (nI i)), (2, .ref 111), (1, .ref 0), (0, .float 4)]) (st2 := [.float 4, .ref 0]) (w3 := w) rfl rfl ?_
  refine sx_RP.step (pc2 := 478) (ls2 := [(3, .int (nI i)), (2, .ref 111), (1, .ref 0), (0, .float 4)]) (st2 := [.int (nI i), .float 4, .ref 0]) (w3 := w) rfl rfl ?_
  refine sx_RP.step (pc2 := 479) (ls2 := [(3, .int (nI i)), (2, .ref 111), (1, .ref 0), (0, .float 4)]) (st2 := [.int 1, .int (nI i), .float 4, .ref 0]) (w3 := w) rfl rfl ?_
  refine sx_RP.step (pc2 := 480) (ls2 := [(3, .int (nI i)), (2, .ref 111), (1, .ref 0), (0, .float 4)]) (st2 := [.int ((nI i) + 1), .float 4, .ref 0]) (w3 := w) rfl rfl ?_
  rw [show ((nI i) + 1 : Int32) = nI (i + 1) from nI_add i 1]
  refine sx_RP.scr (x := (i + 1)) rfl (by omega) hl (show _ = 481 from rfl) ?_
  refine sx_RP.step (pc2 := 482) (ls2 := [(3, .int (nI i)), (2, .ref 111), (1, .ref 0), (0, .float 4)]) (st2 := [.float 4, .int (ys.getD ((i + 1)) 0), .ref 0]) (w3 := w) rfl rfl ?_
  refine sx_RP.step (pc2 := 483) (ls2 := [(3, .int (nI i)), (2, .ref 111), (1, .ref 0), (0, .float 4)]) (st2 := [.int (nI i), .float 4, .int (ys.getD ((i + 1)) 0), .ref 0]) (w3 := w) rfl rfl ?_
  refine sx_RP.step (pc2 := 484) (ls2 := [(3, .int (nI i)), (2, .ref 111), (1, .ref 0), (0, .float 4)]) (st2 := [.int 2, .int (nI i), .float 4, .int (ys.getD ((i + 1)) 0), .ref 0]) (w3 := w) rfl rfl ?_
  refine sx_RP.step (pc2 := 485) (ls2 := [(3, .int (nI i)), (2, .ref 111), (1, .ref 0), (0, .float 4)]) (st2 := [.int ((nI i) + 2), .float 4, .int (ys.getD ((i + 1)) 0), .ref 0]) (w3 := w) rfl rfl ?_
  rw [show ((nI i) + 2 : Int32) = nI (i + 2) from nI_add i 2]
  refine sx_RP.scr (x := (i + 2)) rfl (by omega) hl (show _ = 486 from rfl) ?_
  refine sx_RP.callp (as2 := [.ref 0, .int (ys.getD ((i + 1)) 0), .int (ys.getD ((i + 2)) 0)]) (rest2 := []) rfl rfl (sx_inv_v2 (mi := 246) (k := 45) (st := [.int (ys.getD ((i + 2)) 0), .int (ys.getD ((i + 1)) 0), .ref 0]) (w := w) rfl rfl hI.1.o0 rfl rfl rfl) rfl rfl rfl (sx_RP.byk (N28 (d := 1) hI (ys.getD ((i + 1)) 0) (ys.getD ((i + 2)) 0))) (show _ = 489 from rfl) ?_
  rintro r4 w1 ⟨⟨⟨v3, rfl⟩, hI2, hE4⟩, hbk6⟩
  have hL5 : LI w1 := hL.rc hI hE4 hbk6
  show sx_RP _ _ _ _ _ [.int v3] _ _
  refine sx_RP.step (pc2 := 490) (ls2 := [(3, .int (nI i)), (2, .ref 111), (1, .ref 0), (0, .float 4)]) (st2 := []) (w3 := w1) rfl rfl ?_
  refine sx_RP.step (pc2 := 491) (ls2 := [(3, .int (nI i)), (2, .ref 111), (1, .ref 0), (0, .float 4)]) (st2 := [.ref 111]) (w3 := w1) rfl rfl ?_
  refine sx_RP.step (pc2 := 492) (ls2 := [(3, .int (nI i)), (2, .ref 111), (1, .ref 0), (0, .float 4)]) (st2 := [.float 4, .ref 111]) (w3 := w1) rfl rfl ?_
  refine sx_RP.step (pc2 := 493) (ls2 := [(3, .int (nI i)), (2, .ref 111), (1, .ref 0), (0, .float 4)]) (st2 := [.int (nI i), .float 4, .ref 111]) (w3 := w1) rfl rfl ?_
  refine sx_RP.step (pc2 := 494) (ls2 := [(3, .int (nI i)), (2, .ref 111), (1, .ref 0), (0, .float 4)]) (st2 := [.int 1, .int (nI i), .float 4, .ref 111]) (w3 := w1) rfl rfl ?_
  refine sx_RP.step (pc2 := 495) (ls2 := [(3, .int (nI i)), (2, .ref 111), (1, .ref 0), (0, .float 4)]) (st2 := [.int ((nI i) + 1), .float 4, .ref 111]) (w3 := w1) rfl rfl ?_
  rw [show ((nI i) + 1 : Int32) = nI (i + 1) from nI_add i 1]
  refine sx_RP.scr (x := (i + 1)) rfl (by omega) hl (show _ = 496 from rfl) ?_
  refine sx_RP.step (pc2 := 497) (ls2 := [(3, .int (nI i)), (2, .ref 111), (1, .ref 0), (0, .float 4)]) (st2 := [.float 4, .int (ys.getD ((i + 1)) 0), .ref 111]) (w3 := w1) rfl rfl ?_
  refine sx_RP.step (pc2 := 498) (ls2 := [(3, .int (nI i)), (2, .ref 111), (1, .ref 0), (0, .float 4)]) (st2 := [.int (nI i), .float 4, .int (ys.getD ((i + 1)) 0), .ref 111]) (w3 := w1) rfl rfl ?_
  refine sx_RP.step (pc2 := 499) (ls2 := [(3, .int (nI i)), (2, .ref 111), (1, .ref 0), (0, .float 4)]) (st2 := [.int 2, .int (nI i), .float 4, .int (ys.getD ((i + 1)) 0), .ref 111]) (w3 := w1) rfl rfl ?_
  refine sx_RP.step (pc2 := 500) (ls2 := [(3, .int (nI i)), (2, .ref 111), (1, .ref 0), (0, .float 4)]) (st2 := [.int ((nI i) + 2), .float 4, .int (ys.getD ((i + 1)) 0), .ref 111]) (w3 := w1) rfl rfl ?_
  rw [show ((nI i) + 2 : Int32) = nI (i + 2) from nI_add i 2]
  refine sx_RP.scr (x := (i + 2)) rfl (by omega) hl (show _ = 501 from rfl) ?_
  refine sx_RP.callp (as2 := [.ref 111, .int (ys.getD ((i + 1)) 0), .int (ys.getD ((i + 2)) 0)]) (rest2 := []) rfl rfl (sx_inv_v2 (mi := 246) (k := 48) (st := [.int (ys.getD ((i + 2)) 0), .int (ys.getD ((i + 1)) 0), .ref 111]) (w := w1) rfl rfl hI2.1.o111 rfl rfl rfl) rfl rfl rfl (sx_RP.byk (K157 (d := 1) hI2 (ys.getD ((i + 1)) 0) (ys.getD ((i + 2)) 0))) (show _ = 504 from rfl) ?_
  rintro r4 w7 ⟨⟨⟨v9, rfl⟩, hI8, hE10⟩, hbk12⟩
  have hL11 : LI w7 := hL5.rm hI2 hE10.el hbk12
  show sx_RP _ _ _ _ _ [.int v9] _ _
  refine sx_RP.step (pc2 := 505) (ls2 := [(3, .int (nI i)), (2, .ref 111), (1, .ref 0), (0, .float 4)]) (st2 := []) (w3 := w7) rfl rfl ?_
  refine sx_RP.step (pc2 := 1539) (ls2 := [(3, .int (nI i)), (2, .ref 111), (1, .ref 0), (0, .float 4)]) (st2 := []) (w3 := w7) rfl rfl ?_
  exact kk w7 hI8 hL11
set_option maxRecDepth 20000 in
set_option maxHeartbeats 4000000 in
theorem lc8 {ys : List Int32} {i : Nat} {w : List sx_C} {P : Option Value → List sx_C → Prop} (hl : ys.length ≤ 3072) (hn : i + 6 ≤ ys.length) (hI : WI w) (hL : LI w) (kk : ∀ w2, WI w2 → LI w2 → sx_RP (some ys) 9 246 1539 [(3, .int (nI i)), (2, .ref 111), (1, .ref 0), (0, .float 4)] [] w2 P) : sx_RP (some ys) 9 246 508 [(3, .int (nI i)), (2, .ref 111), (1, .ref 0), (0, .float 4)] [] w P := by
  refine sx_RP.step (pc2 := 509) (ls2 := [(3, .int (nI i)), (2, .ref 111), (1, .ref 0), (0, .float 4)]) (st2 := [.ref 0]) (w3 := w) rfl rfl ?_
  refine sx_RP.step (pc2 := 510) (ls2 := [(3, .int (nI i)), (2, .ref 111), (1, .ref 0), (0, .float 4)]) (st2 := [.float 4, .ref 0]) (w3 := w) rfl rfl ?_
  refine sx_RP.step (pc2 := 511) (ls2 := [(3, .int (nI i)), (2, .ref 111), (1, .ref 0), (0, .float 4)]) (st2 := [.int (nI i), .float 4, .ref 0]) (w3 := w) rfl rfl ?_
  refine sx_RP.step (pc2 := 512) (ls2 := [(3, .int (nI i)), (2, .ref 111), (1, .ref 0), (0, .float 4)]) (st2 := [.int 1, .int (nI i), .float 4, .ref 0]) (w3 := w) rfl rfl ?_
  refine sx_RP.step (pc2 := 513) (ls2 := [(3, .int (nI i)), (2, .ref 111), (1, .ref 0), (0, .float 4)]) (st2 := [.int ((nI i) + 1), .float 4, .ref 0]) (w3 := w) rfl rfl ?_
  rw [show ((nI i) + 1 : Int32) = nI (i + 1) from nI_add i 1]
  refine sx_RP.scr (x := (i + 1)) rfl (by omega) hl (show _ = 514 from rfl) ?_
  refine sx_RP.step (pc2 := 515) (ls2 := [(3, .int (nI i)), (2, .ref 111), (1, .ref 0), (0, .float 4)]) (st2 := [.float 4, .int (ys.getD ((i + 1)) 0), .ref 0]) (w3 := w) rfl rfl ?_
  refine sx_RP.step (pc2 := 516) (ls2 := [(3, .int (nI i)), (2, .ref 111), (1, .ref 0), (0, .float 4)]) (st2 := [.int (nI i), .float 4, .int (ys.getD ((i + 1)) 0), .ref 0]) (w3 := w) rfl rfl ?_
  refine sx_RP.step (pc2 := 517) (ls2 := [(3, .int (nI i)), (2, .ref 111), (1, .ref 0), (0, .float 4)]) (st2 := [.int 2, .int (nI i), .float 4, .int (ys.getD ((i + 1)) 0), .ref 0]) (w3 := w) rfl rfl ?_
  refine sx_RP.step (pc2 := 518) (ls2 := [(3, .int (nI i)), (2, .ref 111), (1, .ref 0), (0, .float 4)]) (st2 := [.int ((nI i) + 2), .float 4, .int (ys.getD ((i + 1)) 0), .ref 0]) (w3 := w) rfl rfl ?_
  rw [show ((nI i) + 2 : Int32) = nI (i + 2) from nI_add i 2]
  refine sx_RP.scr (x := (i + 2)) rfl (by omega) hl (show _ = 519 from rfl) ?_
  refine sx_RP.callp (as2 := [.ref 0, .int (ys.getD ((i + 1)) 0), .int (ys.getD ((i + 2)) 0)]) (rest2 := []) rfl rfl (sx_inv_v2 (mi := 246) (k := 49) (st := [.int (ys.getD ((i + 2)) 0), .int (ys.getD ((i + 1)) 0), .ref 0]) (w := w) rfl rfl hI.1.o0 rfl rfl rfl) rfl rfl rfl (sx_RP.byk (B29 (d := 1) hI (ys.getD ((i + 1)) 0) (ys.getD ((i + 2)) 0))) (show _ = 522 from rfl) ?_
  rintro r4 w1 ⟨⟨⟨rfl, hF4⟩, hI2, hE3⟩, hbk5⟩
  show sx_RP _ _ _ _ _ [.int (becA (FCb w) (ys.getD ((i + 1)) 0) (ys.getD ((i + 2)) 0))] _ _
  refine sx_RP.step (pc2 := 523) (ls2 := [(3, .int (nI i)), (2, .ref 111), (1, .ref 0), (0, .float 4)]) (st2 := []) (w3 := w1) rfl rfl ?_
  refine sx_RP.step (pc2 := 524) (ls2 := [(3, .int (nI i)), (2, .ref 111), (1, .ref 0), (0, .float 4)]) (st2 := [.ref 111]) (w3 := w1) rfl rfl ?_
  refine sx_RP.step (pc2 := 525) (ls2 := [(3, .int (nI i)), (2, .ref 111), (1, .ref 0), (0, .float 4)]) (st2 := [.float 4, .ref 111]) (w3 := w1) rfl rfl ?_
  refine sx_RP.step (pc2 := 526) (ls2 := [(3, .int (nI i)), (2, .ref 111), (1, .ref 0), (0, .float 4)]) (st2 := [.int (nI i), .float 4, .ref 111]) (w3 := w1) rfl rfl ?_
  refine sx_RP.step (pc2 := 527) (ls2 := [(3, .int (nI i)), (2, .ref 111), (1, .ref 0), (0, .float 4)]) (st2 := [.int 1, .int (nI i), .float 4, .ref 111]) (w3 := w1) rfl rfl ?_
  refine sx_RP.step (pc2 := 528) (ls2 := [(3, .int (nI i)), (2, .ref 111), (1, .ref 0), (0, .float 4)]) (st2 := [.int ((nI i) + 1), .float 4, .ref 111]) (w3 := w1) rfl rfl ?_
  rw [show ((nI i) + 1 : Int32) = nI (i + 1) from nI_add i 1]
  refine sx_RP.scr (x := (i + 1)) rfl (by omega) hl (show _ = 529 from rfl) ?_
  refine sx_RP.step (pc2 := 530) (ls2 := [(3, .int (nI i)), (2, .ref 111), (1, .ref 0), (0, .float 4)]) (st2 := [.float 4, .int (ys.getD ((i + 1)) 0), .ref 111]) (w3 := w1) rfl rfl ?_
  refine sx_RP.step (pc2 := 531) (ls2 := [(3, .int (nI i)), (2, .ref 111), (1, .ref 0), (0, .float 4)]) (st2 := [.int (nI i), .float 4, .int (ys.getD ((i + 1)) 0), .ref 111]) (w3 := w1) rfl rfl ?_
  refine sx_RP.step (pc2 := 532) (ls2 := [(3, .int (nI i)), (2, .ref 111), (1, .ref 0), (0, .float 4)]) (st2 := [.int 2, .int (nI i), .float 4, .int (ys.getD ((i + 1)) 0), .ref 111]) (w3 := w1) rfl rfl ?_
  refine sx_RP.step (pc2 := 533) (ls2 := [(3, .int (nI i)), (2, .ref 111), (1, .ref 0), (0, .float 4)]) (st2 := [.int ((nI i) + 2), .float 4, .int (ys.getD ((i + 1)) 0), .ref 111]) (w3 := w1) rfl rfl ?_
  rw [show ((nI i) + 2 : Int32) = nI (i + 2) from nI_add i 2]
  refine sx_RP.scr (x := (i + 2)) rfl (by omega) hl (show _ = 534 from rfl) ?_
  refine sx_RP.callp (as2 := [.ref 111, .int (ys.getD ((i + 1)) 0), .int (ys.getD ((i + 2)) 0)]) (rest2 := []) rfl rfl (sx_inv_v2 (mi := 246) (k := 52) (st := [.int (ys.getD ((i + 2)) 0), .int (ys.getD ((i + 1)) 0), .ref 111]) (w := w1) rfl rfl hI2.1.o111 rfl rfl rfl) rfl rfl rfl (sx_RP.byk (B158 (d := 1) hI2 (ys.getD ((i + 1)) 0) (ys.getD ((i + 2)) 0))) (show _ = 537 from rfl) ?_
  rintro r4 w6 ⟨⟨⟨rfl, hF9⟩, hI7, hE8⟩, hbk11⟩
  have hL10 : LI w6 := LI.two (fun t => becU t (ys.getD ((i + 1)) 0) (ys.getD ((i + 2)) 0)) hL hE3 hF4 hI2 hE8 hF9 (hL.1.2.bec (ys.getD ((i + 1)) 0) (ys.getD ((i + 2)) 0)) hbk5 hbk11
  show sx_RP _ _ _ _ _ [.int (becA (FMb w1) (ys.getD ((i + 1)) 0) (ys.getD ((i + 2)) 0))] _ _
  refine sx_RP.step (pc2 := 538) (ls2 := [(3, .int (nI i)), (2, .ref 111), (1, .ref 0), (0, .float 4)]) (st2 := []) (w3 := w6) rfl rfl ?_
  refine sx_RP.step (pc2 := 1539) (ls2 := [(3, .int (nI i)), (2, .ref 111), (1, .ref 0), (0, .float 4)]) (st2 := []) (w3 := w6) rfl rfl ?_
  exact kk w6 hI7 hL10
set_option maxRecDepth 20000 in
set_option maxHeartbeats 4000000 in
theorem lc9 {ys : List Int32} {i : Nat} {w : List sx_C} {P : Option Value → List sx_C → Prop} (hl : ys.length ≤ 3072) (hn : i + 6 ≤ ys.length) (hI : WI w) (hL : LI w) (kk : ∀ w2, WI w2 → LI w2 → sx_RP (some ys) 9 246 1539 [(3, .int (nI i)), (2, .ref 111), (1, .ref 0), (0, .float 4)] [] w2 P) : sx_RP (some ys) 9 246 541 [(3, .int (nI i)), (2, .ref 111), (1, .ref 0), (0, .float 4)] [] w P := by
  refine sx_RP.step (pc2 := 542) (ls2 := [(3, .int (nI i)), (2, .ref 111), (1, .ref 0), (0, .float 4)]) (st2 := [.ref 0]) (w3 := w) rfl rfl ?_
  refine sx_RP.step (pc2 := 543) (ls2 := [(3, .int (nI i)), (2, .ref 111), (1, .ref 0), (0, .float 4)]) (st2 := [.float 4, .ref 0]) (w3 := w) rfl rfl ?_
  refine sx_RP.step (pc2 := 544) (ls2 := [(3, .int (nI i)), (2, .ref 111), (1, .ref 0), (0, .float 4)]) (st2 := [.int (nI i), .float 4, .ref 0]) (w3 := w) rfl rfl ?_
  refine sx_RP.step (pc2 := 545) (ls2 := [(3, .int (nI i)), (2, .ref 111), (1, .ref 0), (0, .float 4)]) (st2 := [.int 1, .int (nI i), .float 4, .ref 0]) (w3 := w) rfl rfl ?_
  refine sx_RP.step (pc2 := 546) (ls2 := [(3, .int (nI i)), (2, .ref 111), (1, .ref 0), (0, .float 4)]) (st2 := [.int ((nI i) + 1), .float 4, .ref 0]) (w3 := w) rfl rfl ?_
  rw [show ((nI i) + 1 : Int32) = nI (i + 1) from nI_add i 1]
  refine sx_RP.scr (x := (i + 1)) rfl (by omega) hl (show _ = 547 from rfl) ?_
  refine sx_RP.step (pc2 := 548) (ls2 := [(3, .int (nI i)), (2, .ref 111), (1, .ref 0), (0, .float 4)]) (st2 := [.float 4, .int (ys.getD ((i + 1)) 0), .ref 0]) (w3 := w) rfl rfl ?_
  refine sx_RP.step (pc2 := 549) (ls2 := [(3, .int (nI i)), (2, .ref 111), (1, .ref 0), (0, .float 4)]) (st2 := [.int (nI i), .float 4, .int (ys.getD ((i + 1)) 0), .ref 0]) (w3 := w) rfl rfl ?_
  refine sx_RP.step (pc2 := 550) (ls2 := [(3, .int (nI i)), (2, .ref 111), (1, .ref 0), (0, .float 4)]) (st2 := [.int 2, .int (nI i), .float 4, .int (ys.getD ((i + 1)) 0), .ref 0]) (w3 := w) rfl rfl ?_
  refine sx_RP.step (pc2 := 551) (ls2 := [(3, .int (nI i)), (2, .ref 111), (1, .ref 0), (0, .float 4)]) (st2 := [.int ((nI i) + 2), .float 4, .int (ys.getD ((i + 1)) 0), .ref 0]) (w3 := w) rfl rfl ?_
  rw [show ((nI i) + 2 : Int32) = nI (i + 2) from nI_add i 2]
  refine sx_RP.scr (x := (i + 2)) rfl (by omega) hl (show _ = 552 from rfl) ?_
  refine sx_RP.callp (as2 := [.ref 0, .int (ys.getD ((i + 1)) 0), .int (ys.getD ((i + 2)) 0)]) (rest2 := []) rfl rfl (sx_inv_v2 (mi := 246) (k := 53) (st := [.int (ys.getD ((i + 2)) 0), .int (ys.getD ((i + 1)) 0), .ref 0]) (w := w) rfl rfl hI.1.o0 rfl rfl rfl) rfl rfl rfl (sx_RP.byk (Q30 (d := 1) hI (ys.getD ((i + 1)) 0) (ys.getD ((i + 2)) 0))) (show _ = 555 from rfl) ?_
  rintro r4 w1 ⟨⟨⟨v3, rfl⟩, hI2, hE4⟩, hbk6⟩
  have hL5 : LI w1 := hL.rc hI hE4.en hbk6
  show sx_RP _ _ _ _ _ [.int v3] _ _
  refine sx_RP.step (pc2 := 556) (ls2 := [(3, .int (nI i)), (2, .ref 111), (1, .ref 0), (0, .float 4)]) (st2 := []) (w3 := w1) rfl rfl ?_
  refine sx_RP.step (pc2 := 557) (ls2 := [(3, .int (nI i)), (2, .ref 111), (1, .ref 0), (0, .float 4)]) (st2 := [.ref 111]) (w3 := w1) rfl rfl ?_
  refine sx_RP.step (pc2 := 558) (ls2 := [(3, .int (nI i)), (2, .ref 111), (1, .ref 0), (0, .float 4)]) (st2 := [.float 4, .ref 111]) (w3 := w1) rfl rfl ?_
  refine sx_RP.step (pc2 := 559) (ls2 := [(3, .int (nI i)), (2, .ref 111), (1, .ref 0), (0, .float 4)]) (st2 := [.int (nI i), .float 4, .ref 111]) (w3 := w1) rfl rfl ?_
  refine sx_RP.step (pc2 := 560) (ls2 := [(3, .int (nI i)), (2, .ref 111), (1, .ref 0), (0, .float 4)]) (st2 := [.int 1, .int (nI i), .float 4, .ref 111]) (w3 := w1) rfl rfl ?_
  refine sx_RP.step (pc2 := 561) (ls2 := [(3, .int (nI i)), (2, .ref 111), (1, .ref 0), (0, .float 4)]) (st2 := [.int ((nI i) + 1), .float 4, .ref 111]) (w3 := w1) rfl rfl ?_
  rw [show ((nI i) + 1 : Int32) = nI (i + 1) from nI_add i 1]
  refine sx_RP.scr (x := (i + 1)) rfl (by omega) hl (show _ = 562 from rfl) ?_
  refine sx_RP.step (pc2 := 563) (ls2 := [(3, .int (nI i)), (2, .ref 111), (1, .ref 0), (0, .float 4)]) (st2 := [.float 4, .int (ys.getD ((i + 1)) 0), .ref 111]) (w3 := w1) rfl rfl ?_
  refine sx_RP.step (pc2 := 564) (ls2 := [(3, .int (nI i)), (2, .ref 111), (1, .ref 0), (0, .float 4)]) (st2 := [.int (nI i), .float 4, .int (ys.getD ((i + 1)) 0), .ref 111]) (w3 := w1) rfl rfl ?_
  refine sx_RP.step (pc2 := 565) (ls2 := [(3, .int (nI i)), (2, .ref 111), (1, .ref 0), (0, .float 4)]) (st2 := [.int 2, .int (nI i), .float 4, .int (ys.getD ((i + 1)) 0), .ref 111]) (w3 := w1) rfl rfl ?_
  refine sx_RP.step (pc2 := 566) (ls2 := [(3, .int (nI i)), (2, .ref 111), (1, .ref 0), (0, .float 4)]) (st2 := [.int ((nI i) + 2), .float 4, .int (ys.getD ((i + 1)) 0), .ref 111]) (w3 := w1) rfl rfl ?_
  rw [show ((nI i) + 2 : Int32) = nI (i + 2) from nI_add i 2]
  refine sx_RP.scr (x := (i + 2)) rfl (by omega) hl (show _ = 567 from rfl) ?_
  refine sx_RP.callp (as2 := [.ref 111, .int (ys.getD ((i + 1)) 0), .int (ys.getD ((i + 2)) 0)]) (rest2 := []) rfl rfl (sx_inv_v2 (mi := 246) (k := 56) (st := [.int (ys.getD ((i + 2)) 0), .int (ys.getD ((i + 1)) 0), .ref 111]) (w := w1) rfl rfl hI2.1.o111 rfl rfl rfl) rfl rfl rfl (sx_RP.byk (K159 (d := 1) hI2 (ys.getD ((i + 1)) 0) (ys.getD ((i + 2)) 0))) (show _ = 570 from rfl) ?_
  rintro r4 w7 ⟨⟨⟨v9, rfl⟩, hI8, hE10⟩, hbk12⟩
  have hL11 : LI w7 := hL5.rm hI2 hE10.el hbk12
  show sx_RP _ _ _ _ _ [.int v9] _ _
  refine sx_RP.step (pc2 := 571) (ls2 := [(3, .int (nI i)), (2, .ref 111), (1, .ref 0), (0, .float 4)]) (st2 := []) (w3 := w7) rfl rfl ?_
  refine sx_RP.step (pc2 := 1539) (ls2 := [(3, .int (nI i)), (2, .ref 111), (1, .ref 0), (0, .float 4)]) (st2 := []) (w3 := w7) rfl rfl ?_
  exact kk w7 hI8 hL11
set_option maxRecDepth 20000 in
set_option maxHeartbeats 4000000 in
theorem lc10 {ys : List Int32} {i : Nat} {w : List sx_C} {P : Option Value → List sx_C → Prop} (hl : ys.length ≤ 3072) (hn : i + 6 ≤ ys.length) (hI : WI w) (hL : LI w) (kk : ∀ w2, WI w2 → LI w2 → sx_RP (some ys) 9 246 1539 [(3, .int (nI i)), (2, .ref 111), (1, .ref 0), (0, .float 4)] [] w2 P) : sx_RP (some ys) 9 246 574 [(3, .int (nI i)), (2, .ref 111), (1, .ref 0), (0, .float 4)] [] w P := by
  refine sx_RP.step (pc2 := 575) (ls2 := [(3, .int (nI i)), (2, .ref 111), (1, .ref 0), (0, .float 4)]) (st2 := [.ref 0]) (w3 := w) rfl rfl ?_
  refine sx_RP.step (pc2 := 576) (ls2 := [(3, .int (nI i)), (2, .ref 111), (1, .ref 0), (0, .float 4)]) (st2 := [.float 4, .ref 0]) (w3 := w) rfl rfl ?_
  refine sx_RP.step (pc2 := 577) (ls2 := [(3, .int (nI i)), (2, .ref 111), (1, .ref 0), (0, .float 4)]) (st2 := [.int (nI i), .float 4, .ref 0]) (w3 := w) rfl rfl ?_
  refine sx_RP.step (pc2 := 578) (ls2 := [(3, .int (nI i)), (2, .ref 111), (1, .ref 0), (0, .float 4)]) (st2 := [.int 1, .int (nI i), .float 4, .ref 0]) (w3 := w) rfl rfl ?_
  refine sx_RP.step (pc2 := 579) (ls2 := [(3, .int (nI i)), (2, .ref 111), (1, .ref 0), (0, .float 4)]) (st2 := [.int ((nI i) + 1), .float 4, .ref 0]) (w3 := w) rfl rfl ?_
  rw [show ((nI i) + 1 : Int32) = nI (i + 1) from nI_add i 1]
  refine sx_RP.scr (x := (i + 1)) rfl (by omega) hl (show _ = 580 from rfl) ?_
  refine sx_RP.step (pc2 := 581) (ls2 := [(3, .int (nI i)), (2, .ref 111), (1, .ref 0), (0, .float 4)]) (st2 := [.float 4, .int (ys.getD ((i + 1)) 0), .ref 0]) (w3 := w) rfl rfl ?_
  refine sx_RP.step (pc2 := 582) (ls2 := [(3, .int (nI i)), (2, .ref 111), (1, .ref 0), (0, .float 4)]) (st2 := [.int (nI i), .float 4, .int (ys.getD ((i + 1)) 0), .ref 0]) (w3 := w) rfl rfl ?_
  refine sx_RP.step (pc2 := 583) (ls2 := [(3, .int (nI i)), (2, .ref 111), (1, .ref 0), (0, .float 4)]) (st2 := [.int 2, .int (nI i), .float 4, .int (ys.getD ((i + 1)) 0), .ref 0]) (w3 := w) rfl rfl ?_
  refine sx_RP.step (pc2 := 584) (ls2 := [(3, .int (nI i)), (2, .ref 111), (1, .ref 0), (0, .float 4)]) (st2 := [.int ((nI i) + 2), .float 4, .int (ys.getD ((i + 1)) 0), .ref 0]) (w3 := w) rfl rfl ?_
  rw [show ((nI i) + 2 : Int32) = nI (i + 2) from nI_add i 2]
  refine sx_RP.scr (x := (i + 2)) rfl (by omega) hl (show _ = 585 from rfl) ?_
  refine sx_RP.step (pc2 := 586) (ls2 := [(3, .int (nI i)), (2, .ref 111), (1, .ref 0), (0, .float 4)]) (st2 := [.float 4, .int (ys.getD ((i + 2)) 0), .int (ys.getD ((i + 1)) 0), .ref 0]) (w3 := w) rfl rfl ?_
  refine sx_RP.step (pc2 := 587) (ls2 := [(3, .int (nI i)), (2, .ref 111), (1, .ref 0), (0, .float 4)]) (st2 := [.int (nI i), .float 4, .int (ys.getD ((i + 2)) 0), .int (ys.getD ((i + 1)) 0), .ref 0]) (w3 := w) rfl rfl ?_
  refine sx_RP.step (pc2 := 588) (ls2 := [(3, .int (nI i)), (2, .ref 111), (1, .ref 0), (0, .float 4)]) (st2 := [.int 3, .int (nI i), .float 4, .int (ys.getD ((i + 2)) 0), .int (ys.getD ((i + 1)) 0), .ref 0]) (w3 := w) rfl rfl ?_
  refine sx_RP.step (pc2 := 589) (ls2 := [(3, .int (nI i)), (2, .ref 111), (1, .ref 0), (0, .float 4)]) (st2 := [.int ((nI i) + 3), .float 4, .int (ys.getD ((i + 2)) 0), .int (ys.getD ((i + 1)) 0), .ref 0]) (w3 := w) rfl rfl ?_
  rw [show ((nI i) + 3 : Int32) = nI (i + 3) from nI_add i 3]
  refine sx_RP.scr (x := (i + 3)) rfl (by omega) hl (show _ = 590 from rfl) ?_
  refine sx_RP.callp (as2 := [.ref 0, .int (ys.getD ((i + 1)) 0), .int (ys.getD ((i + 2)) 0), .int (ys.getD ((i + 3)) 0)]) (rest2 := []) rfl rfl (sx_inv_v2 (mi := 246) (k := 57) (st := [.int (ys.getD ((i + 3)) 0), .int (ys.getD ((i + 2)) 0), .int (ys.getD ((i + 1)) 0), .ref 0]) (w := w) rfl rfl hI.1.o0 rfl rfl rfl) rfl rfl rfl (sx_RP.byk (Q32 (d := 1) hI (ys.getD ((i + 1)) 0) (ys.getD ((i + 2)) 0) (ys.getD ((i + 3)) 0))) (show _ = 593 from rfl) ?_
  rintro r4 w1 ⟨⟨⟨v3, rfl⟩, hI2, hE4⟩, hbk6⟩
  have hL5 : LI w1 := hL.rc hI hE4.en hbk6
  show sx_RP _ _ _ _ _ [.int v3] _ _
  refine sx_RP.step (pc2 := 594) (ls2 := [(3, .int (nI i)), (2, .ref 111), (1, .ref 0), (0, .float 4)]) (st2 := []) (w3 := w1) rfl rfl ?_
  refine sx_RP.step (pc2 := 595) (ls2 := [(3, .int (nI i)), (2, .ref 111), (1, .ref 0), (0, .float 4)]) (st2 := [.ref 111]) (w3 := w1) rfl rfl ?_
  refine sx_RP.step (pc2 := 596) (ls2 := [(3, .int (nI i)), (2, .ref 111), (1, .ref 0), (0, .float 4)]) (st2 := [.float 4, .ref 111]) (w3 := w1) rfl rfl ?_
  refine sx_RP.step (pc2 := 597) (ls2 := [(3, .int (nI i)), (2, .ref 111), (1, .ref 0), (0, .float 4)]) (st2 := [.int (nI i), .float 4, .ref 111]) (w3 := w1) rfl rfl ?_
  refine sx_RP.step (pc2 := 598) (ls2 := [(3, .int (nI i)), (2, .ref 111), (1, .ref 0), (0, .float 4)]) (st2 := [.int 1, .int (nI i), .float 4, .ref 111]) (w3 := w1) rfl rfl ?_
  refine sx_RP.step (pc2 := 599) (ls2 := [(3, .int (nI i)), (2, .ref 111), (1, .ref 0), (0, .float 4)]) (st2 := [.int ((nI i) + 1), .float 4, .ref 111]) (w3 := w1) rfl rfl ?_
  rw [show ((nI i) + 1 : Int32) = nI (i + 1) from nI_add i 1]
  refine sx_RP.scr (x := (i + 1)) rfl (by omega) hl (show _ = 600 from rfl) ?_
  refine sx_RP.step (pc2 := 601) (ls2 := [(3, .int (nI i)), (2, .ref 111), (1, .ref 0), (0, .float 4)]) (st2 := [.float 4, .int (ys.getD ((i + 1)) 0), .ref 111]) (w3 := w1) rfl rfl ?_
  refine sx_RP.step (pc2 := 602) (ls2 := [(3, .int (nI i)), (2, .ref 111), (1, .ref 0), (0, .float 4)]) (st2 := [.int (nI i), .float 4, .int (ys.getD ((i + 1)) 0), .ref 111]) (w3 := w1) rfl rfl ?_
  refine sx_RP.step (pc2 := 603) (ls2 := [(3, .int (nI i)), (2, .ref 111), (1, .ref 0), (0, .float 4)]) (st2 := [.int 2, .int (nI i), .float 4, .int (ys.getD ((i + 1)) 0), .ref 111]) (w3 := w1) rfl rfl ?_
  refine sx_RP.step (pc2 := 604) (ls2 := [(3, .int (nI i)), (2, .ref 111), (1, .ref 0), (0, .float 4)]) (st2 := [.int ((nI i) + 2), .float 4, .int (ys.getD ((i + 1)) 0), .ref 111]) (w3 := w1) rfl rfl ?_
  rw [show ((nI i) + 2 : Int32) = nI (i + 2) from nI_add i 2]
  refine sx_RP.scr (x := (i + 2)) rfl (by omega) hl (show _ = 605 from rfl) ?_
  refine sx_RP.step (pc2 := 606) (ls2 := [(3, .int (nI i)), (2, .ref 111), (1, .ref 0), (0, .float 4)]) (st2 := [.float 4, .int (ys.getD ((i + 2)) 0), .int (ys.getD ((i + 1)) 0), .ref 111]) (w3 := w1) rfl rfl ?_
  refine sx_RP.step (pc2 := 607) (ls2 := [(3, .int (nI i)), (2, .ref 111), (1, .ref 0), (0, .float 4)]) (st2 := [.int (nI i), .float 4, .int (ys.getD ((i + 2)) 0), .int (ys.getD ((i + 1)) 0), .ref 111]) (w3 := w1) rfl rfl ?_
  refine sx_RP.step (pc2 := 608) (ls2 := [(3, .int (nI i)), (2, .ref 111), (1, .ref 0), (0, .float 4)]) (st2 := [.int 3, .int (nI i), .float 4, .int (ys.getD ((i + 2)) 0), .int (ys.getD ((i + 1)) 0), .ref 111]) (w3 := w1) rfl rfl ?_
  refine sx_RP.step (pc2 := 609) (ls2 := [(3, .int (nI i)), (2, .ref 111), (1, .ref 0), (0, .float 4)]) (st2 := [.int ((nI i) + 3), .float 4, .int (ys.getD ((i + 2)) 0), .int (ys.getD ((i + 1)) 0), .ref 111]) (w3 := w1) rfl rfl ?_
  rw [show ((nI i) + 3 : Int32) = nI (i + 3) from nI_add i 3]
  refine sx_RP.scr (x := (i + 3)) rfl (by omega) hl (show _ = 610 from rfl) ?_
  refine sx_RP.callp (as2 := [.ref 111, .int (ys.getD ((i + 1)) 0), .int (ys.getD ((i + 2)) 0), .int (ys.getD ((i + 3)) 0)]) (rest2 := []) rfl rfl (sx_inv_v2 (mi := 246) (k := 61) (st := [.int (ys.getD ((i + 3)) 0), .int (ys.getD ((i + 2)) 0), .int (ys.getD ((i + 1)) 0), .ref 111]) (w := w1) rfl rfl hI2.1.o111 rfl rfl rfl) rfl rfl rfl (sx_RP.byk (K161 (d := 1) hI2 (ys.getD ((i + 1)) 0) (ys.getD ((i + 2)) 0) (ys.getD ((i + 3)) 0))) (show _ = 613 from rfl) ?_
  rintro r4 w7 ⟨⟨⟨v9, rfl⟩, hI8, hE10⟩, hbk12⟩
  have hL11 : LI w7 := hL5.rm hI2 hE10.el hbk12
  show sx_RP _ _ _ _ _ [.int v9] _ _
  refine sx_RP.step (pc2 := 614) (ls2 := [(3, .int (nI i)), (2, .ref 111), (1, .ref 0), (0, .float 4)]) (st2 := []) (w3 := w7) rfl rfl ?_
  refine sx_RP.step (pc2 := 1539) (ls2 := [(3, .int (nI i)), (2, .ref 111), (1, .ref 0), (0, .float 4)]) (st2 := []) (w3 := w7) rfl rfl ?_
  exact kk w7 hI8 hL11
set_option maxRecDepth 20000 in
set_option maxHeartbeats 4000000 in
theorem lc11 {ys : List Int32} {i : Nat} {w : List sx_C} {P : Option Value → List sx_C → Prop} (hl : ys.length ≤ 3072) (hn : i + 6 ≤ ys.length) (hI : WI w) (hL : LI w) (kk : ∀ w2, WI w2 → LI w2 → sx_RP (some ys) 9 246 1539 [(3, .int (nI i)), (2, .ref 111), (1, .ref 0), (0, .float 4)] [] w2 P) : sx_RP (some ys) 9 246 617 [(3, .int (nI i)), (2, .ref 111), (1, .ref 0), (0, .float 4)] [] w P := by
  refine sx_RP.step (pc2 := 618) (ls2 := [(3, .int (nI i)), (2, .ref 111), (1, .ref 0), (0, .float 4)]) (st2 := [.ref 0]) (w3 := w) rfl rfl ?_
  refine sx_RP.step (pc2 := 619) (ls2 := [(3, .int (nI i)), (2, .ref 111), (1, .ref 0), (0, .float 4)]) (st2 := [.float 4, .ref 0]) (w3 := w) rfl rfl ?_
  refine sx_RP.step (pc2 := 620) (ls2 := [(3, .int (nI i)), (2, .ref 111), (1, .ref 0), (0, .float 4)]) (st2 := [.int (nI i), .float 4, .ref 0]) (w3 := w) rfl rfl ?_
  refine sx_RP.step (pc2 := 621) (ls2 := [(3, .int (nI i)), (2, .ref 111), (1, .ref 0), (0, .float 4)]) (st2 := [.int 1, .int (nI i), .float 4, .ref 0]) (w3 := w) rfl rfl ?_
  refine sx_RP.step (pc2 := 622) (ls2 := [(3, .int (nI i)), (2, .ref 111), (1, .ref 0), (0, .float 4)]) (st2 := [.int ((nI i) + 1), .float 4, .ref 0]) (w3 := w) rfl rfl ?_
  rw [show ((nI i) + 1 : Int32) = nI (i + 1) from nI_add i 1]
  refine sx_RP.scr (x := (i + 1)) rfl (by omega) hl (show _ = 623 from rfl) ?_
  refine sx_RP.callp (as2 := [.ref 0, .int (ys.getD ((i + 1)) 0)]) (rest2 := []) rfl rfl (sx_inv_v2 (mi := 246) (k := 62) (st := [.int (ys.getD ((i + 1)) 0), .ref 0]) (w := w) rfl rfl hI.1.o0 rfl rfl rfl) rfl rfl rfl (sx_RP.byk (N39 (d := 1) hI (ys.getD ((i + 1)) 0))) (show _ = 626 from rfl) ?_
  rintro r4 w1 ⟨⟨⟨v3, rfl⟩, hI2, hE4⟩, hbk6⟩
  have hL5 : LI w1 := hL.rc hI hE4 hbk6
  show sx_RP _ _ _ _ _ [.int v3] _ _
  refine sx_RP.step (pc2 := 627) (ls2 := [(3, .int (nI i)), (2, .ref 111), (1, .ref 0), (0, .float 4)]) (st2 := []) (w3 := w1) rfl rfl ?_
  refine sx_RP.step (pc2 := 628) (ls2 := [(3, .int (nI i)), (2, .ref 111), (1, .ref 0), (0, .float 4)]) (st2 := [.ref 111]) (w3 := w1) rfl rfl ?_
  refine sx_RP.step (pc2 := 629) (ls2 := [(3, .int (nI i)), (2, .ref 111), (1, .ref 0), (0, .float 4)]) (st2 := [.float 4, .ref 111]) (w3 := w1) rfl rfl ?_
  refine sx_RP.step (pc2 := 630) (ls2 := [(3, .int (nI i)), (2, .ref 111), (1, .ref 0), (0, .float 4)]) (st2 := [.int (nI i), .float 4, .ref 111]) (w3 := w1) rfl rfl ?_
  refine sx_RP.step (pc2 := 631) (ls2 := [(3, .int (nI i)), (2, .ref 111), (1, .ref 0), (0, .float 4)]) (st2 := [.int 1, .int (nI i), .float 4, .ref 111]) (w3 := w1) rfl rfl ?_
  refine sx_RP.step (pc2 := 632) (ls2 := [(3, .int (nI i)), (2, .ref 111), (1, .ref 0), (0, .float 4)]) (st2 := [.int ((nI i) + 1), .float 4, .ref 111]) (w3 := w1) rfl rfl ?_
  rw [show ((nI i) + 1 : Int32) = nI (i + 1) from nI_add i 1]
  refine sx_RP.scr (x := (i + 1)) rfl (by omega) hl (show _ = 633 from rfl) ?_
  refine sx_RP.callp (as2 := [.ref 111, .int (ys.getD ((i + 1)) 0)]) (rest2 := []) rfl rfl (sx_inv_v2 (mi := 246) (k := 66) (st := [.int (ys.getD ((i + 1)) 0), .ref 111]) (w := w1) rfl rfl hI2.1.o111 rfl rfl rfl) rfl rfl rfl (sx_RP.byk (K164 (d := 1) hI2 (ys.getD ((i + 1)) 0))) (show _ = 636 from rfl) ?_
  rintro r4 w7 ⟨⟨⟨v9, rfl⟩, hI8, hE10⟩, hbk12⟩
  have hL11 : LI w7 := hL5.rm hI2 hE10.el hbk12
  show sx_RP _ _ _ _ _ [.int v9] _ _
  refine sx_RP.step (pc2 := 637) (ls2 := [(3, .int (nI i)), (2, .ref 111), (1, .ref 0), (0, .float 4)]) (st2 := []) (w3 := w7) rfl rfl ?_
  refine sx_RP.step (pc2 := 1539) (ls2 := [(3, .int (nI i)), (2, .ref 111), (1, .ref 0), (0, .float 4)]) (st2 := []) (w3 := w7) rfl rfl ?_
  exact kk w7 hI8 hL11
set_option maxRecDepth 20000 in
set_option maxHeartbeats 4000000 in
theorem lc12 {ys : List Int32} {i : Nat} {w : List sx_C} {P : Option Value → List sx_C → Prop} (hl : ys.length ≤ 3072) (hn : i + 6 ≤ ys.length) (hI : WI w) (hL : LI w) (kk : ∀ w2, WI w2 → LI w2 → sx_RP (some ys) 9 246 1539 [(3, .int (nI i)), (2, .ref 111), (1, .ref 0), (0, .float 4)] [] w2 P) : sx_RP (some ys) 9 246 640 [(3, .int (nI i)), (2, .ref 111), (1, .ref 0), (0, .float 4)] [] w P := by
  refine sx_RP.step (pc2 := 641) (ls2 := [(3, .int (nI i)), (2, .ref 111), (1, .ref 0), (0, .float 4)]) (st2 := [.ref 0]) (w3 := w) rfl rfl ?_
  refine sx_RP.step (pc2 := 642) (ls2 := [(3, .int (nI i)), (2, .ref 111), (1, .ref 0), (0, .float 4)]) (st2 := [.float 4, .ref 0]) (w3 := w) rfl rfl ?_
  refine sx_RP.step (pc2 := 643) (ls2 := [(3, .int (nI i)), (2, .ref 111), (1, .ref 0), (0, .float 4)]) (st2 := [.int (nI i), .float 4, .ref 0]) (w3 := w) rfl rfl ?_
  refine sx_RP.step (pc2 := 644) (ls2 := [(3, .int (nI i)), (2, .ref 111), (1, .ref 0), (0, .float 4)]) (st2 := [.int 1, .int (nI i), .float 4, .ref 0]) (w3 := w) rfl rfl ?_
  refine sx_RP.step (pc2 := 645) (ls2 := [(3, .int (nI i)), (2, .ref 111), (1, .ref 0), (0, .float 4)]) (st2 := [.int ((nI i) + 1), .float 4, .ref 0]) (w3 := w) rfl rfl ?_
  rw [show ((nI i) + 1 : Int32) = nI (i + 1) from nI_add i 1]
  refine sx_RP.scr (x := (i + 1)) rfl (by omega) hl (show _ = 646 from rfl) ?_
  refine sx_RP.callp (as2 := [.ref 0, .int (ys.getD ((i + 1)) 0)]) (rest2 := []) rfl rfl (sx_inv_v2 (mi := 246) (k := 67) (st := [.int (ys.getD ((i + 1)) 0), .ref 0]) (w := w) rfl rfl hI.1.o0 rfl rfl rfl) rfl rfl rfl (sx_RP.byk (Q48 (d := 1) hI (ys.getD ((i + 1)) 0))) (show _ = 649 from rfl) ?_
  rintro r4 w1 ⟨⟨⟨v3, rfl⟩, hI2, hE4⟩, hbk6⟩
  have hL5 : LI w1 := hL.rc hI hE4.en hbk6
  show sx_RP _ _ _ _ _ [.int v3] _ _
  refine sx_RP.step (pc2 := 650) (ls2 := [(3, .int (nI i)), (2, .ref 111), (1, .ref 0), (0, .float 4)]) (st2 := []) (w3 := w1) rfl rfl ?_
  refine sx_RP.step (pc2 := 651) (ls2 := [(3, .int (nI i)), (2, .ref 111), (1, .ref 0), (0, .float 4)]) (st2 := [.ref 111]) (w3 := w1) rfl rfl ?_
  refine sx_RP.step (pc2 := 652) (ls2 := [(3, .int (nI i)), (2, .ref 111), (1, .ref 0), (0, .float 4)]) (st2 := [.float 4, .ref 111]) (w3 := w1) rfl rfl ?_
  refine sx_RP.step (pc2 := 653) (ls2 := [(3, .int (nI i)), (2, .ref 111), (1, .ref 0), (0, .float 4)]) (st2 := [.int (nI i), .float 4, .ref 111]) (w3 := w1) rfl rfl ?_
  refine sx_RP.step (pc2 := 654) (ls2 := [(3, .int (nI i)), (2, .ref 111), (1, .ref 0), (0, .float 4)]) (st2 := [.int 1, .int (nI i), .float 4, .ref 111]) (w3 := w1) rfl rfl ?_
  refine sx_RP.step (pc2 := 655) (ls2 := [(3, .int (nI i)), (2, .ref 111), (1, .ref 0), (0, .float 4)]) (st2 := [.int ((nI i) + 1), .float 4, .ref 111]) (w3 := w1) rfl rfl ?_
  rw [show ((nI i) + 1 : Int32) = nI (i + 1) from nI_add i 1]
  refine sx_RP.scr (x := (i + 1)) rfl (by omega) hl (show _ = 656 from rfl) ?_
  refine sx_RP.callp (as2 := [.ref 111, .int (ys.getD ((i + 1)) 0)]) (rest2 := []) rfl rfl (sx_inv_v2 (mi := 246) (k := 70) (st := [.int (ys.getD ((i + 1)) 0), .ref 111]) (w := w1) rfl rfl hI2.1.o111 rfl rfl rfl) rfl rfl rfl (sx_RP.byk (K173 (d := 1) hI2 (ys.getD ((i + 1)) 0))) (show _ = 659 from rfl) ?_
  rintro r4 w7 ⟨⟨⟨v9, rfl⟩, hI8, hE10⟩, hbk12⟩
  have hL11 : LI w7 := hL5.rm hI2 hE10.el hbk12
  show sx_RP _ _ _ _ _ [.int v9] _ _
  refine sx_RP.step (pc2 := 660) (ls2 := [(3, .int (nI i)), (2, .ref 111), (1, .ref 0), (0, .float 4)]) (st2 := []) (w3 := w7) rfl rfl ?_
  refine sx_RP.step (pc2 := 1539) (ls2 := [(3, .int (nI i)), (2, .ref 111), (1, .ref 0), (0, .float 4)]) (st2 := []) (w3 := w7) rfl rfl ?_
  exact kk w7 hI8 hL11
set_option maxRecDepth 20000 in
set_option maxHeartbeats 4000000 in
theorem lc13 {ys : List Int32} {i : Nat} {w : List sx_C} {P : Option Value → List sx_C → Prop} (hl : ys.length ≤ 3072) (hn : i + 6 ≤ ys.length) (hI : WI w) (hL : LI w) (kk : ∀ w2, WI w2 → LI w2 → sx_RP (some ys) 9 246 1539 [(3, .int (nI i)), (2, .ref 111), (1, .ref 0), (0, .float 4)] [] w2 P) : sx_RP (some ys) 9 246 663 [(3, .int (nI i)), (2, .ref 111), (1, .ref 0), (0, .float 4)] [] w P := by
  refine sx_RP.step (pc2 := 664) (ls2 := [(3, .int (nI i)), (2, .ref 111), (1, .ref 0), (0, .float 4)]) (st2 := [.ref 0]) (w3 := w) rfl rfl ?_
  refine sx_RP.step (pc2 := 665) (ls2 := [(3, .int (nI i)), (2, .ref 111), (1, .ref 0), (0, .float 4)]) (st2 := [.float 4, .ref 0]) (w3 := w) rfl rfl ?_
  refine sx_RP.step (pc2 := 666) (ls2 := [(3, .int (nI i)), (2, .ref 111), (1, .ref 0), (0, .float 4)]) (st2 := [.int (nI i), .float 4, .ref 0]) (w3 := w) rfl rfl ?_
  refine sx_RP.step (pc2 := 667) (ls2 := [(3, .int (nI i)), (2, .ref 111), (1, .ref 0), (0, .float 4)]) (st2 := [.int 1, .int (nI i), .float 4, .ref 0]) (w3 := w) rfl rfl ?_
  refine sx_RP.step (pc2 := 668) (ls2 := [(3, .int (nI i)), (2, .ref 111), (1, .ref 0), (0, .float 4)]) (st2 := [.int ((nI i) + 1), .float 4, .ref 0]) (w3 := w) rfl rfl ?_
  rw [show ((nI i) + 1 : Int32) = nI (i + 1) from nI_add i 1]
  refine sx_RP.scr (x := (i + 1)) rfl (by omega) hl (show _ = 669 from rfl) ?_
  refine sx_RP.step (pc2 := 670) (ls2 := [(3, .int (nI i)), (2, .ref 111), (1, .ref 0), (0, .float 4)]) (st2 := [.float 4, .int (ys.getD ((i + 1)) 0), .ref 0]) (w3 := w) rfl rfl ?_
  refine sx_RP.step (pc2 := 671) (ls2 := [(3, .int (nI i)), (2, .ref 111), (1, .ref 0), (0, .float 4)]) (st2 := [.int (nI i), .float 4, .int (ys.getD ((i + 1)) 0), .ref 0]) (w3 := w) rfl rfl ?_
  refine sx_RP.step (pc2 := 672) (ls2 := [(3, .int (nI i)), (2, .ref 111), (1, .ref 0), (0, .float 4)]) (st2 := [.int 2, .int (nI i), .float 4, .int (ys.getD ((i + 1)) 0), .ref 0]) (w3 := w) rfl rfl ?_
  refine sx_RP.step (pc2 := 673) (ls2 := [(3, .int (nI i)), (2, .ref 111), (1, .ref 0), (0, .float 4)]) (st2 := [.int ((nI i) + 2), .float 4, .int (ys.getD ((i + 1)) 0), .ref 0]) (w3 := w) rfl rfl ?_
  rw [show ((nI i) + 2 : Int32) = nI (i + 2) from nI_add i 2]
  refine sx_RP.scr (x := (i + 2)) rfl (by omega) hl (show _ = 674 from rfl) ?_
  refine sx_RP.callp (as2 := [.ref 0, .int (ys.getD ((i + 1)) 0), .int (ys.getD ((i + 2)) 0)]) (rest2 := []) rfl rfl (sx_inv_v2 (mi := 246) (k := 71) (st := [.int (ys.getD ((i + 2)) 0), .int (ys.getD ((i + 1)) 0), .ref 0]) (w := w) rfl rfl hI.1.o0 rfl rfl rfl) rfl rfl rfl (sx_RP.byk (Q49 (d := 1) hI (ys.getD ((i + 1)) 0) (ys.getD ((i + 2)) 0))) (show _ = 677 from rfl) ?_
  rintro r4 w1 ⟨⟨⟨v3, rfl⟩, hI2, hE4⟩, hbk6⟩
  have hL5 : LI w1 := hL.rc hI hE4.en hbk6
  show sx_RP _ _ _ _ _ [.int v3] _ _
  refine sx_RP.step (pc2 := 678) (ls2 := [(3, .int (nI i)), (2, .ref 111), (1, .ref 0), (0, .float 4)]) (st2 := []) (w3 := w1) rfl rfl ?_
  refine sx_RP.step (pc2 := 679) (ls2 := [(3, .int (nI i)), (2, .ref 111), (1, .ref 0), (0, .float 4)]) (st2 := [.ref 111]) (w3 := w1) rfl rfl ?_
  refine sx_RP.step (pc2 := 680) (ls2 := [(3, .int (nI i)), (2, .ref 111), (1, .ref 0), (0, .float 4)]) (st2 := [.float 4, .ref 111]) (w3 := w1) rfl rfl ?_
  refine sx_RP.step (pc2 := 681) (ls2 := [(3, .int (nI i)), (2, .ref 111), (1, .ref 0), (0, .float 4)]) (st2 := [.int (nI i), .float 4, .ref 111]) (w3 := w1) rfl rfl ?_
  refine sx_RP.step (pc2 := 682) (ls2 := [(3, .int (nI i)), (2, .ref 111), (1, .ref 0), (0, .float 4)]) (st2 := [.int 1, .int (nI i), .float 4, .ref 111]) (w3 := w1) rfl rfl ?_
  refine sx_RP.step (pc2 := 683) (ls2 := [(3, .int (nI i)), (2, .ref 111), (1, .ref 0), (0, .float 4)]) (st2 := [.int ((nI i) + 1), .float 4, .ref 111]) (w3 := w1) rfl rfl ?_
  rw [show ((nI i) + 1 : Int32) = nI (i + 1) from nI_add i 1]
  refine sx_RP.scr (x := (i + 1)) rfl (by omega) hl (show _ = 684 from rfl) ?_
  refine sx_RP.step (pc2 := 685) (ls2 := [(3, .int (nI i)), (2, .ref 111), (1, .ref 0), (0, .float 4)]) (st2 := [.float 4, .int (ys.getD ((i + 1)) 0), .ref 111]) (w3 := w1) rfl rfl ?_
  refine sx_RP.step (pc2 := 686) (ls2 := [(3, .int (nI i)), (2, .ref 111), (1, .ref 0), (0, .float 4)]) (st2 := [.int (nI i), .float 4, .int (ys.getD ((i + 1)) 0), .ref 111]) (w3 := w1) rfl rfl ?_
  refine sx_RP.step (pc2 := 687) (ls2 := [(3, .int (nI i)), (2, .ref 111), (1, .ref 0), (0, .float 4)]) (st2 := [.int 2, .int (nI i), .float 4, .int (ys.getD ((i + 1)) 0), .ref 111]) (w3 := w1) rfl rfl ?_
  refine sx_RP.step (pc2 := 688) (ls2 := [(3, .int (nI i)), (2, .ref 111), (1, .ref 0), (0, .float 4)]) (st2 := [.int ((nI i) + 2), .float 4, .int (ys.getD ((i + 1)) 0), .ref 111]) (w3 := w1) rfl rfl ?_
  rw [show ((nI i) + 2 : Int32) = nI (i + 2) from nI_add i 2]
  refine sx_RP.scr (x := (i + 2)) rfl (by omega) hl (show _ = 689 from rfl) ?_
  refine sx_RP.callp (as2 := [.ref 111, .int (ys.getD ((i + 1)) 0), .int (ys.getD ((i + 2)) 0)]) (rest2 := []) rfl rfl (sx_inv_v2 (mi := 246) (k := 74) (st := [.int (ys.getD ((i + 2)) 0), .int (ys.getD ((i + 1)) 0), .ref 111]) (w := w1) rfl rfl hI2.1.o111 rfl rfl rfl) rfl rfl rfl (sx_RP.byk (K174 (d := 1) hI2 (ys.getD ((i + 1)) 0) (ys.getD ((i + 2)) 0))) (show _ = 692 from rfl) ?_
  rintro r4 w7 ⟨⟨⟨v9, rfl⟩, hI8, hE10⟩, hbk12⟩
  have hL11 : LI w7 := hL5.rm hI2 hE10 hbk12
  show sx_RP _ _ _ _ _ [.int v9] _ _
  refine sx_RP.step (pc2 := 693) (ls2 := [(3, .int (nI i)), (2, .ref 111), (1, .ref 0), (0, .float 4)]) (st2 := []) (w3 := w7) rfl rfl ?_
  refine sx_RP.step (pc2 := 1539) (ls2 := [(3, .int (nI i)), (2, .ref 111), (1, .ref 0), (0, .float 4)]) (st2 := []) (w3 := w7) rfl rfl ?_
  exact kk w7 hI8 hL11
set_option maxRecDepth 20000 in
set_option maxHeartbeats 4000000 in
theorem lc14 {ys : List Int32} {i : Nat} {w : List sx_C} {P : Option Value → List sx_C → Prop} (hl : ys.length ≤ 3072) (hn : i + 6 ≤ ys.length) (hI : WI w) (hL : LI w) (kk : ∀ w2, WI w2 → LI w2 → sx_RP (some ys) 9 246 1539 [(3, .int (nI i)), (2, .ref 111), (1, .ref 0), (0, .float 4)] [] w2 P) : sx_RP (some ys) 9 246 696 [(3, .int (nI i)), (2, .ref 111), (1, .ref 0), (0, .float 4)] [] w P := by
  refine sx_RP.step (pc2 := 697) (ls2 := [(3, .int (nI i)), (2, .ref 111), (1, .ref 0), (0, .float 4)]) (st2 := [.ref 0]) (w3 := w) rfl rfl ?_
  refine sx_RP.step (pc2 := 698) (ls2 := [(3, .int (nI i)), (2, .ref 111), (1, .ref 0), (0, .float 4)]) (st2 := [.float 4, .ref 0]) (w3 := w) rfl rfl ?_
  refine sx_RP.step (pc2 := 699) (ls2 := [(3, .int (nI i)), (2, .ref 111), (1, .ref 0), (0, .float 4)]) (st2 := [.int (nI i), .float 4, .ref 0]) (w3 := w) rfl rfl ?_
  refine sx_RP.step (pc2 := 700) (ls2 := [(3, .int (nI i)), (2, .ref 111), (1, .ref 0), (0, .float 4)]) (st2 := [.int 1, .int (nI i), .float 4, .ref 0]) (w3 := w) rfl rfl ?_
  refine sx_RP.step (pc2 := 701) (ls2 := [(3, .int (nI i)), (2, .ref 111), (1, .ref 0), (0, .float 4)]) (st2 := [.int ((nI i) + 1), .float 4, .ref 0]) (w3 := w) rfl rfl ?_
  rw [show ((nI i) + 1 : Int32) = nI (i + 1) from nI_add i 1]
  refine sx_RP.scr (x := (i + 1)) rfl (by omega) hl (show _ = 702 from rfl) ?_
  refine sx_RP.callp (as2 := [.ref 0, .int (ys.getD ((i + 1)) 0)]) (rest2 := []) rfl rfl (sx_inv_v2 (mi := 246) (k := 75) (st := [.int (ys.getD ((i + 1)) 0), .ref 0]) (w := w) rfl rfl hI.1.o0 rfl rfl rfl) rfl rfl rfl (sx_RP.byk (Q52 (d := 1) hI (ys.getD ((i + 1)) 0))) (show _ = 705 from rfl) ?_
  rintro r4 w1 ⟨⟨⟨v3, rfl⟩, hI2, hE4⟩, hbk6⟩
  have hL5 : LI w1 := hL.rc hI hE4.en hbk6
  show sx_RP _ _ _ _ _ [.int v3] _ _
  refine sx_RP.step (pc2 := 706) (ls2 := [(3, .int (nI i)), (2, .ref 111), (1, .ref 0), (0, .float 4)]) (st2 := []) (w3 := w1) rfl rfl ?_
  refine sx_RP.step (pc2 := 707) (ls2 := [(3, .int (nI i)), (2, .ref 111), (1, .ref 0), (0, .float 4)]) (st2 := [.ref 111]) (w3 := w1) rfl rfl ?_
  refine sx_RP.step (pc2 := 708) (ls2 := [(3, .int (nI i)), (2, .ref 111), (1, .ref 0), (0, .float 4)]) (st2 := [.float 4, .ref 111]) (w3 := w1) rfl rfl ?_
  refine sx_RP.step (pc2 := 709) (ls2 := [(3, .int (nI i)), (2, .ref 111), (1, .ref 0), (0, .float 4)]) (st2 := [.int (nI i), .float 4, .ref 111]) (w3 := w1) rfl rfl ?_
  refine sx_RP.step (pc2 := 710) (ls2 := [(3, .int (nI i)), (2, .ref 111), (1, .ref 0), (0, .float 4)]) (st2 := [.int 1, .int (nI i), .float 4, .ref 111]) (w3 := w1) rfl rfl ?_
  refine sx_RP.step (pc2 := 711) (ls2 := [(3, .int (nI i)), (2, .ref 111), (1, .ref 0), (0, .float 4)]) (st2 := [.int ((nI i) + 1), .float 4, .ref 111]) (w3 := w1) rfl rfl ?_
  rw [show ((nI i) + 1 : Int32) = nI (i + 1) from nI_add i 1]
  refine sx_RP.scr (x := (i + 1)) rfl (by omega) hl (show _ = 712 from rfl) ?_
  refine sx_RP.callp (as2 := [.ref 111, .int (ys.getD ((i + 1)) 0)]) (rest2 := []) rfl rfl (sx_inv_v2 (mi := 246) (k := 78) (st := [.int (ys.getD ((i + 1)) 0), .ref 111]) (w := w1) rfl rfl hI2.1.o111 rfl rfl rfl) rfl rfl rfl (sx_RP.byk (K176 (d := 1) hI2 (ys.getD ((i + 1)) 0))) (show _ = 715 from rfl) ?_
  rintro r4 w7 ⟨⟨⟨v9, rfl⟩, hI8, hE10⟩, hbk12⟩
  have hL11 : LI w7 := hL5.rm hI2 hE10 hbk12
  show sx_RP _ _ _ _ _ [.int v9] _ _
  refine sx_RP.step (pc2 := 716) (ls2 := [(3, .int (nI i)), (2, .ref 111), (1, .ref 0), (0, .float 4)]) (st2 := []) (w3 := w7) rfl rfl ?_
  refine sx_RP.step (pc2 := 1539) (ls2 := [(3, .int (nI i)), (2, .ref 111), (1, .ref 0), (0, .float 4)]) (st2 := []) (w3 := w7) rfl rfl ?_
  exact kk w7 hI8 hL11
end
-- 91b.cases.lean.txt
section
set_option maxRecDepth 20000 in
set_option maxHeartbeats 4000000 in
theorem lc15 {ys : List Int32} {i : Nat} {w : List sx_C} {P : Option Value → List sx_C → Prop} (hl : ys.length ≤ 3072) (hn : i + 6 ≤ ys.length) (hI : WI w) (hL : LI w) (kk : ∀ w2, WI w2 → LI w2 → sx_RP (some ys) 9 246 1539 [(3, .int (nI i)), (2, .ref 111), (1, .ref 0), (0, .float 4)] [] w2 P) : sx_RP (some ys) 9 246 719 [(3, .int (nI i)), (2, .ref 111), (1, .ref 0), (0, .float 4)] [] w P := by
  refine sx_RP.step (pc2 := 720) (ls2 := [(3, .int (nI i)), (2, .ref 111), (1, .ref 0), (0, .float 4)]) (st2 := [.ref 0]) (w3 := w) rfl rfl ?_
  refine sx_RP.callp (as2 := [.ref 0]) (rest2 := []) rfl rfl (sx_inv_v2 (mi := 246) (k := 79) (st := [.ref 0]) (w := w) rfl rfl hI.1.o0 rfl rfl rfl) rfl rfl rfl (sx_RP.byk (Q53 (d := 1) hI)) (show _ = 723 from rfl) ?_
  rintro r4 w1 ⟨⟨⟨v3, rfl⟩, hI2, hE4⟩, hbk6⟩
  have hL5 : LI w1 := hL.rc hI hE4.en hbk6
  show sx_RP _ _ _ _ _ [.int v3] _ _
  refine sx_RP.step (pc2 := 724) (ls2 := [(3, .int (nI i)), (2, .ref 111), (1, .ref 0), (0, .float 4)]) (st2 := []) (w3 := w1) rfl rfl ?_
  refine sx_RP.step (pc2 := 725) (ls2 := [(3, .int (nI i)), (2, .ref 111), (1, .ref 0), (0, .float 4)]) (st2 := [.ref 111]) (w3 := w1) rfl rfl ?_
  refine sx_RP.callp (as2 := [.ref 111]) (rest2 := []) rfl rfl (sx_inv_v2 (mi := 246) (k := 83) (st := [.ref 111]) (w := w1) rfl rfl hI2.1.o111 rfl rfl rfl) rfl rfl rfl (sx_RP.byk (K177 (d := 1) hI2)) (show _ = 728 from rfl) ?_
  rintro r4 w7 ⟨⟨⟨v9, rfl⟩, hI8, hE10⟩, hbk12⟩
  have hL11 : LI w7 := hL5.rm hI2 hE10 hbk12
  show sx_RP _ _ _ _ _ [.int v9] _ _
  refine sx_RP.step (pc2 := 729) (ls2 := [(3, .int (nI i)), (2, .ref 111), (1, .ref 0), (0, .float 4)]) (st2 := []) (w3 := w7) rfl rfl ?_
  refine sx_RP.step (pc2 := 1539) (ls2 := [(3, .int (nI i)), (2, .ref 111), (1, .ref 0), (0, .float 4)]) (st2 := []) (w3 := w7) rfl rfl ?_
  exact kk w7 hI8 hL11
set_option maxRecDepth 20000 in
set_option maxHeartbeats 4000000 in
theorem lc16 {ys : List Int32} {i : Nat} {w : List sx_C} {P : Option Value → List sx_C → Prop} (hl : ys.length ≤ 3072) (hn : i + 6 ≤ ys.length) (hI : WI w) (hL : LI w) (kk : ∀ w2, WI w2 → LI w2 → sx_RP (some ys) 9 246 1539 [(3, .int (nI i)), (2, .ref 111), (1, .ref 0), (0, .float 4)] [] w2 P) : sx_RP (some ys) 9 246 732 [(3, .int (nI i)), (2, .ref 111), (1, .ref 0), (0, .float 4)] [] w P := by
  refine sx_RP.step (pc2 := 733) (ls2 := [(3, .int (nI i)), (2, .ref 111), (1, .ref 0), (0, .float 4)]) (st2 := [.ref 0]) (w3 := w) rfl rfl ?_
  refine sx_RP.step (pc2 := 734) (ls2 := [(3, .int (nI i)), (2, .ref 111), (1, .ref 0), (0, .float 4)]) (st2 := [.float 4, .ref 0]) (w3 := w) rfl rfl ?_
  refine sx_RP.step (pc2 := 735) (ls2 := [(3, .int (nI i)), (2, .ref 111), (1, .ref 0), (0, .float 4)]) (st2 := [.int (nI i), .float 4, .ref 0]) (w3 := w) rfl rfl ?_
  refine sx_RP.step (pc2 := 736) (ls2 := [(3, .int (nI i)), (2, .ref 111), (1, .ref 0), (0, .float 4)]) (st2 := [.int 1, .int (nI i), .float 4, .ref 0]) (w3 := w) rfl rfl ?_
  refine sx_RP.step (pc2 := 737) (ls2 := [(3, .int (nI i)), (2, .ref 111), (1, .ref 0), (0, .float 4)]) (st2 := [.int ((nI i) + 1), .float 4, .ref 0]) (w3 := w) rfl rfl ?_
  rw [show ((nI i) + 1 : Int32) = nI (i + 1) from nI_add i 1]
  refine sx_RP.scr (x := (i + 1)) rfl (by omega) hl (show _ = 738 from rfl) ?_
  refine sx_RP.step (pc2 := 739) (ls2 := [(3, .int (nI i)), (2, .ref 111), (1, .ref 0), (0, .float 4)]) (st2 := [.float 4, .int (ys.getD ((i + 1)) 0), .ref 0]) (w3 := w) rfl rfl ?_
  refine sx_RP.step (pc2 := 740) (ls2 := [(3, .int (nI i)), (2, .ref 111), (1, .ref 0), (0, .float 4)]) (st2 := [.int (nI i), .float 4, .int (ys.getD ((i + 1)) 0), .ref 0]) (w3 := w) rfl rfl ?_
  refine sx_RP.step (pc2 := 741) (ls2 := [(3, .int (nI i)), (2, .ref 111), (1, .ref 0), (0, .float 4)]) (st2 := [.int 2, .int (nI i), .float 4, .int (ys.getD ((i + 1)) 0), .ref 0]) (w3 := w) rfl rfl ?_
  refine sx_RP.step (pc2 := 742) (ls2 := [(3, .int (nI i)), (2, .ref 111), (1, .ref 0), (0, .float 4)]) (st2 := [.int ((nI i) + 2), .float 4, .int (ys.getD ((i + 1)) 0), .ref 0]) (w3 := w) rfl rfl ?_
  rw [show ((nI i) + 2 : Int32) = nI (i + 2) from nI_add i 2]
  refine sx_RP.scr (x := (i + 2)) rfl (by omega) hl (show _ = 743 from rfl) ?_
  refine sx_RP.callp (as2 := [.ref 0, .int (ys.getD ((i + 1)) 0), .int (ys.getD ((i + 2)) 0)]) (rest2 := []) rfl rfl (sx_inv_v2 (mi := 246) (k := 84) (st := [.int (ys.getD ((i + 2)) 0), .int (ys.getD ((i + 1)) 0), .ref 0]) (w := w) rfl rfl hI.1.o0 rfl rfl rfl) rfl rfl rfl (sx_RP.byk (Q55 (d := 1) hI (ys.getD ((i + 1)) 0) (ys.getD ((i + 2)) 0))) (show _ = 746 from rfl) ?_
  rintro r4 w1 ⟨⟨⟨v3, rfl⟩, hI2, hE4⟩, hbk6⟩
  have hL5 : LI w1 := hL.rc hI hE4.en hbk6
  show sx_RP _ _ _ _ _ [.int v3] _ _
  refine sx_RP.step (pc2 := 747) (ls2 := [(3, .int (nI i)), (2, .ref 111), (1, .ref 0), (0, .float 4)]) (st2 := []) (w3 := w1) rfl rfl ?_
  refine sx_RP.step (pc2 := 748) (ls2 := [(3, .int (nI i)), (2, .ref 111), (1, .ref 0), (0, .float 4)]) (st2 := [.ref 111]) (w3 := w1) rfl rfl ?_
  refine sx_RP.step (pc2 := 749) (ls2 := [(3, .int (nI i)), (2, .ref 111), (1, .ref 0), (0, .float 4)]) (st2 := [.float 4, .ref 111]) (w3 := w1) rfl rfl ?_
  refine sx_RP.step (pc2 := 750) (ls2 := [(3, .int (nI i)), (2, .ref 111), (1, .ref 0), (0, .float 4)]) (st2 := [.int (nI i), .float 4, .ref 111]) (w3 := w1) rfl rfl ?_
  refine sx_RP.step (pc2 := 751) (ls2 := [(3, .int (nI i)), (2, .ref 111), (1, .ref 0), (0, .float 4)]) (st2 := [.int 1, .int (nI i), .float 4, .ref 111]) (w3 := w1) rfl rfl ?_
  refine sx_RP.step (pc2 := 752) (ls2 := [(3, .int (nI i)), (2, .ref 111), (1, .ref 0), (0, .float 4)]) (st2 := [.int ((nI i) + 1), .float 4, .ref 111]) (w3 := w1) rfl rfl ?_
  rw [show ((nI i) + 1 : Int32) = nI (i + 1) from nI_add i 1]
  refine sx_RP.scr (x := (i + 1)) rfl (by omega) hl (show _ = 753 from rfl) ?_
  refine sx_RP.step (pc2 := 754) (ls2 := [(3, .int (nI i)), (2, .ref 111), (1, .ref 0), (0, .float 4)]) (st2 := [.float 4, .int (ys.getD ((i + 1)) 0), .ref 111]) (w3 := w1) rfl rfl ?_
  refine sx_RP.step (pc2 := 755) (ls2 := [(3, .int (nI i)), (2, .ref 111), (1, .ref 0), (0, .float 4)]) (st2 := [.int (nI i), .float 4, .int (ys.getD ((i + 1)) 0), .ref 111]) (w3 := w1) rfl rfl ?_
  refine sx_RP.step (pc2 := 756) (ls2 := [(3, .int (nI i)), (2, .ref 111), (1, .ref 0), (0, .float 4)]) (st2 := [.int 2, .int (nI i), .float 4, .int (ys.getD ((i + 1)) 0), .ref 111]) (w3 := w1) rfl rfl ?_
  refine sx_RP.step (pc2 := 757) (ls2 := [(3, .int (nI i)), (2, .ref 111), (1, .ref 0), (0, .float 4)]) (st2 := [.int ((nI i) + 2), .float 4, .int (ys.getD ((i + 1)) 0), .ref 111]) (w3 := w1) rfl rfl ?_
  rw [show ((nI i) + 2 : Int32) = nI (i + 2) from nI_add i 2]
  refine sx_RP.scr (x := (i + 2)) rfl (by omega) hl (show _ = 758 from rfl) ?_
  refine sx_RP.callp (as2 := [.ref 111, .int (ys.getD ((i + 1)) 0), .int (ys.getD ((i + 2)) 0)]) (rest2 := []) rfl rfl (sx_inv_v2 (mi := 246) (k := 87) (st := [.int (ys.getD ((i + 2)) 0), .int (ys.getD ((i + 1)) 0), .ref 111]) (w := w1) rfl rfl hI2.1.o111 rfl rfl rfl) rfl rfl rfl (sx_RP.byk (K179 (d := 1) hI2 (ys.getD ((i + 1)) 0) (ys.getD ((i + 2)) 0))) (show _ = 761 from rfl) ?_
  rintro r4 w7 ⟨⟨⟨v9, rfl⟩, hI8, hE10⟩, hbk12⟩
  have hL11 : LI w7 := hL5.rm hI2 hE10.el hbk12
  show sx_RP _ _ _ _ _ [.int v9] _ _
  refine sx_RP.step (pc2 := 762) (ls2 := [(3, .int (nI i)), (2, .ref 111), (1, .ref 0), (0, .float 4)]) (st2 := []) (w3 := w7) rfl rfl ?_
  refine sx_RP.step (pc2 := 1539) (ls2 := [(3, .int (nI i)), (2, .ref 111), (1, .ref 0), (0, .float 4)]) (st2 := []) (w3 := w7) rfl rfl ?_
  exact kk w7 hI8 hL11
set_option maxRecDepth 20000 in
set_option maxHeartbeats 4000000 in
theorem lc17 {ys : List Int32} {i : Nat} {w : List sx_C} {P : Option Value → List sx_C → Prop} (hl : ys.length ≤ 3072) (hn : i + 6 ≤ ys.length) (hI : WI w) (hL : LI w) (kk : ∀ w2, WI w2 → LI w2 → sx_RP (some ys) 9 246 1539 [(3, .int (nI i)), (2, .ref 111), (1, .ref 0), (0, .float 4)] [] w2 P) : sx_RP (some ys) 9 246 765 [(3, .int (nI i)), (2, .ref 111), (1, .ref 0), (0, .float 4)] [] w P := by
  refine sx_RP.step (pc2 := 766) (ls2 := [(3, .int (nI i)), (2, .ref 111), (1, .ref 0), (0, .float 4)]) (st2 := [.ref 0]) (w3 := w) rfl rfl ?_
  refine sx_RP.step (pc2 := 767) (ls2 := [(3, .int (nI i)), (2, .ref 111), (1, .ref 0), (0, .float 4)]) (st2 := [.float 4, .ref 0]) (w3 := w) rfl rfl ?_
  refine sx_RP.step (pc2 := 768) (ls2 := [(3, .int (nI i)), (2, .ref 111), (1, .ref 0), (0, .float 4)]) (st2 := [.int (nI i), .float 4, .ref 0]) (w3 := w) rfl rfl ?_
  refine sx_RP.step (pc2 := 769) (ls2 := [(3, .int (nI i)), (2, .ref 111), (1, .ref 0), (0, .float 4)]) (st2 := [.int 1, .int (nI i), .float 4, .ref 0]) (w3 := w) rfl rfl ?_
  refine sx_RP.step (pc2 := 770) (ls2 := [(3, .int (nI i)), (2, .ref 111), (1, .ref 0), (0, .float 4)]) (st2 := [.int ((nI i) + 1), .float 4, .ref 0]) (w3 := w) rfl rfl ?_
  rw [show ((nI i) + 1 : Int32) = nI (i + 1) from nI_add i 1]
  refine sx_RP.scr (x := (i + 1)) rfl (by omega) hl (show _ = 771 from rfl) ?_
  refine sx_RP.step (pc2 := 772) (ls2 := [(3, .int (nI i)), (2, .ref 111), (1, .ref 0), (0, .float 4)]) (st2 := [.float 4, .int (ys.getD ((i + 1)) 0), .ref 0]) (w3 := w) rfl rfl ?_
  refine sx_RP.step (pc2 := 773) (ls2 := [(3, .int (nI i)), (2, .ref 111), (1, .ref 0), (0, .float 4)]) (st2 := [.int (nI i), .float 4, .int (ys.getD ((i + 1)) 0), .ref 0]) (w3 := w) rfl rfl ?_
  refine sx_RP.step (pc2 := 774) (ls2 := [(3, .int (nI i)), (2, .ref 111), (1, .ref 0), (0, .float 4)]) (st2 := [.int 2, .int (nI i), .float 4, .int (ys.getD ((i + 1)) 0), .ref 0]) (w3 := w) rfl rfl ?_
  refine sx_RP.step (pc2 := 775) (ls2 := [(3, .int (nI i)), (2, .ref 111), (1, .ref 0), (0, .float 4)]) (st2 := [.int ((nI i) + 2), .float 4, .int (ys.getD ((i + 1)) 0), .ref 0]) (w3 := w) rfl rfl ?_
  rw [show ((nI i) + 2 : Int32) = nI (i + 2) from nI_add i 2]
  refine sx_RP.scr (x := (i + 2)) rfl (by omega) hl (show _ = 776 from rfl) ?_
  refine sx_RP.callp (as2 := [.ref 0, .int (ys.getD ((i + 1)) 0), .int (ys.getD ((i + 2)) 0)]) (rest2 := []) rfl rfl (sx_inv_v2 (mi := 246) (k := 88) (st := [.int (ys.getD ((i + 2)) 0), .int (ys.getD ((i + 1)) 0), .ref 0]) (w := w) rfl rfl hI.1.o0 rfl rfl rfl) rfl rfl rfl (sx_RP.byk (Q58 (d := 1) hI (ys.getD ((i + 1)) 0) (ys.getD ((i + 2)) 0))) (show _ = 779 from rfl) ?_
  rintro r4 w1 ⟨⟨⟨v3, rfl⟩, hI2, hE4⟩, hbk6⟩
  have hL5 : LI w1 := hL.rc hI hE4.en hbk6
  show sx_RP _ _ _ _ _ [.int v3] _ _
  refine sx_RP.step (pc2 := 780) (ls2 := [(3, .int (nI i)), (2, .ref 111), (1, .ref 0), (0, .float 4)]) (st2 := []) (w3 := w1) rfl rfl ?_
  refine sx_RP.step (pc2 := 781) (ls2 := [(3, .int (nI i)), (2, .ref 111), (1, .ref 0), (0, .float 4)]) (st2 := [.ref 111]) (w3 := w1) rfl rfl ?_
  refine sx_RP.step (pc2 := 782) (ls2 := [(3, .int (nI i)), (2, .ref 111), (1, .ref 0), (0, .float 4)]) (st2 := [.float 4, .ref 111]) (w3 := w1) rfl rfl ?_
  refine sx_RP.step (pc2 := 783) (ls2 := [(3, .int (nI i)), (2, .ref 111), (1, .ref 0), (0, .float 4)]) (st2 := [.int (nI i), .float 4, .ref 111]) (w3 := w1) rfl rfl ?_
  refine sx_RP.step (pc2 := 784) (ls2 := [(3, .int (nI i)), (2, .ref 111), (1, .ref 0), (0, .float 4)]) (st2 := [.int 1, .int (nI i), .float 4, .ref 111]) (w3 := w1) rfl rfl ?_
  refine sx_RP.step (pc2 := 785) (ls2 := [(3, .int (nI i)), (2, .ref 111), (1, .ref 0), (0, .float 4)]) (st2 := [.int ((nI i) + 1), .float 4, .ref 111]) (w3 := w1) rfl rfl ?_
  rw [show ((nI i) + 1 : Int32) = nI (i + 1) from nI_add i 1]
  refine sx_RP.scr (x := (i + 1)) rfl (by omega) hl (show _ = 786 from rfl) ?_
  refine sx_RP.step (pc2 := 787) (ls2 := [(3, .int (nI i)), (2, .ref 111), (1, .ref 0), (0, .float 4)]) (st2 := [.float 4, .int (ys.getD ((i + 1)) 0), .ref 111]) (w3 := w1) rfl rfl ?_
  refine sx_RP.step (pc2 := 788) (ls2 := [(3, .int (nI i)), (2, .ref 111), (1, .ref 0), (0, .float 4)]) (st2 := [.int (nI i), .float 4, .int (ys.getD ((i + 1)) 0), .ref 111]) (w3 := w1) rfl rfl ?_
  refine sx_RP.step (pc2 := 789) (ls2 := [(3, .int (nI i)), (2, .ref 111), (1, .ref 0), (0, .float 4)]) (st2 := [.int 2, .int (nI i), .float 4, .int (ys.getD ((i + 1)) 0), .ref 111]) (w3 := w1) rfl rfl ?_
  refine sx_RP.step (pc2 := 790) (ls2 := [(3, .int (nI i)), (2, .ref 111), (1, .ref 0), (0, .float 4)]) (st2 := [.int ((nI i) + 2), .float 4, .int (ys.getD ((i + 1)) 0), .ref 111]) (w3 := w1) rfl rfl ?_
  rw [show ((nI i) + 2 : Int32) = nI (i + 2) from nI_add i 2]
  refine sx_RP.scr (x := (i + 2)) rfl (by omega) hl (show _ = 791 from rfl) ?_
  refine sx_RP.callp (as2 := [.ref 111, .int (ys.getD ((i + 1)) 0), .int (ys.getD ((i + 2)) 0)]) (rest2 := []) rfl rfl (sx_inv_v2 (mi := 246) (k := 91) (st := [.int (ys.getD ((i + 2)) 0), .int (ys.getD ((i + 1)) 0), .ref 111]) (w := w1) rfl rfl hI2.1.o111 rfl rfl rfl) rfl rfl rfl (sx_RP.byk (K180 (d := 1) hI2 (ys.getD ((i + 1)) 0) (ys.getD ((i + 2)) 0))) (show _ = 794 from rfl) ?_
  rintro r4 w7 ⟨⟨⟨v9, rfl⟩, hI8, hE10⟩, hbk12⟩
  have hL11 : LI w7 := hL5.rm hI2 hE10 hbk12
  show sx_RP _ _ _ _ _ [.int v9] _ _
  refine sx_RP.step (pc2 := 795) (ls2 := [(3, .int (nI i)), (2, .ref 111), (1, .ref 0), (0, .float 4)]) (st2 := []) (w3 := w7) rfl rfl ?_
  refine sx_RP.step (pc2 := 1539) (ls2 := [(3, .int (nI i)), (2, .ref 111), (1, .ref 0), (0, .float 4)]) (st2 := []) (w3 := w7) rfl rfl ?_
  exact kk w7 hI8 hL11
set_option maxRecDepth 20000 in
set_option maxHeartbeats 4000000 in
theorem lc18 {ys : List Int32} {i : Nat} {w : List sx_C} {P : Option Value → List sx_C → Prop} (hl : ys.length ≤ 3072) (hn : i + 6 ≤ ys.length) (hI : WI w) (hL : LI w) (kk : ∀ w2, WI w2 → LI w2 → sx_RP (some ys) 9 246 1539 [(3, .int (nI i)), (2, .ref 111), (1, .ref 0), (0, .float 4)] [] w2 P) : sx_RP (some ys) 9 246 798 [(3, .int (nI i)), (2, .ref 111), (1, .ref 0), (0, .float 4)] [] w P := by
  refine sx_RP.step (pc2 := 799) (ls2 := [(3, .int (nI i)), (2, .ref 111), (1, .ref 0), (0, .float 4)]) (st2 := [.ref 0]) (w3 := w) rfl rfl ?_
  refine sx_RP.step (pc2 := 800) (ls2 := [(3, .int (nI i)), (2, .ref 111), (1, .ref 0), (0, .float 4)]) (st2 := [.float 4, .ref 0]) (w3 := w) rfl rfl ?_
  refine sx_RP.step (pc2 := 801) (ls2 := [(3, .int (nI i)), (2, .ref 111), (1, .ref 0), (0, .float 4)]) (st2 := [.int (nI i), .float 4, .ref 0]) (w3 := w) rfl rfl ?_
  refine sx_RP.step (pc2 := 802) (ls2 := [(3, .int (nI i)), (2, .ref 111), (1, .ref 0), (0, .float 4)]) (st2 := [.int 1, .int (nI i), .float 4, .ref 0]) (w3 := w) rfl rfl ?_
  refine sx_RP.step (pc2 := 803) (ls2 := [(3, .int (nI i)), (2, .ref 111), (1, .ref 0), (0, .float 4)]) (st2 := [.int ((nI i) + 1), .float 4, .ref 0]) (w3 := w) rfl rfl ?_
  rw [show ((nI i) + 1 : Int32) = nI (i + 1) from nI_add i 1]
  refine sx_RP.scr (x := (i + 1)) rfl (by omega) hl (show _ = 804 from rfl) ?_
  refine sx_RP.callp (as2 := [.ref 0, .int (ys.getD ((i + 1)) 0)]) (rest2 := []) rfl rfl (sx_inv_v2 (mi := 246) (k := 92) (st := [.int (ys.getD ((i + 1)) 0), .ref 0]) (w := w) rfl rfl hI.1.o0 rfl rfl rfl) rfl rfl rfl (sx_RP.byk (Q61 (d := 1) hI (ys.getD ((i + 1)) 0))) (show _ = 807 from rfl) ?_
  rintro r4 w1 ⟨⟨⟨v3, rfl⟩, hI2, hE4⟩, hbk6⟩
  have hL5 : LI w1 := hL.rc hI hE4.en hbk6
  show sx_RP _ _ _ _ _ [.int v3] _ _
  refine sx_RP.step (pc2 := 808) (ls2 := [(3, .int (nI i)), (2, .ref 111), (1, .ref 0), (0, .float 4)]) (st2 := []) (w3 := w1) rfl rfl ?_
  refine sx_RP.step (pc2 := 809) (ls2 := [(3, .int (nI i)), (2, .ref 111), (1, .ref 0), (0, .float 4)]) (st2 := [.ref 111]) (w3 := w1) rfl rfl ?_
  refine sx_RP.step (pc2 := 810) (ls2 := [(3, .int (nI i)), (2, .ref 111), (1, .ref 0), (0, .float 4)]) (st2 := [.float 4, .ref 111]) (w3 := w1) rfl rfl ?_
  refine sx_RP.step (pc2 := 811) (ls2 := [(3, .int (nI i)), (2, .ref 111), (1, .ref 0), (0, .float 4)]) (st2 := [.int (nI i), .float 4, .ref 111]) (w3 := w1) rfl rfl ?_
  refine sx_RP.step (pc2 := 812) (ls2 := [(3, .int (nI i)), (2, .ref 111), (1, .ref 0), (0, .float 4)]) (st2 := [.int 1, .int (nI i), .float 4, .ref 111]) (w3 := w1) rfl rfl ?_
  refine sx_RP.step (pc2 := 813) (ls2 := [(3, .int (nI i)), (2, .ref 111), (1, .ref 0), (0, .float 4)]) (st2 := [.int ((nI i) + 1), .float 4, .ref 111]) (w3 := w1) rfl rfl ?_
  rw [show ((nI i) + 1 : Int32) = nI (i + 1) from nI_add i 1]
  refine sx_RP.scr (x := (i + 1)) rfl (by omega) hl (show _ = 814 from rfl) ?_
  refine sx_RP.callp (as2 := [.ref 111, .int (ys.getD ((i + 1)) 0)]) (rest2 := []) rfl rfl (sx_inv_v2 (mi := 246) (k := 95) (st := [.int (ys.getD ((i + 1)) 0), .ref 111]) (w := w1) rfl rfl hI2.1.o111 rfl rfl rfl) rfl rfl rfl (sx_RP.byk (K183 (d := 1) hI2 (ys.getD ((i + 1)) 0))) (show _ = 817 from rfl) ?_
  rintro r4 w7 ⟨⟨⟨v9, rfl⟩, hI8, hE10⟩, hbk12⟩
  have hL11 : LI w7 := hL5.rm hI2 hE10 hbk12
  show sx_RP _ _ _ _ _ [.int v9] _ _
  refine sx_RP.step (pc2 := 818) (ls2 := [(3, .int (nI i)), (2, .ref 111), (1, .ref 0), (0, .float 4)]) (st2 := []) (w3 := w7) rfl rfl ?_
  refine sx_RP.step (pc2 := 1539) (ls2 := [(3, .int (nI i)), (2, .ref 111), (1, .ref 0), (0, .float 4)]) (st2 := []) (w3 := w7) rfl rfl ?_
  exact kk w7 hI8 hL11
set_option maxRecDepth 20000 in
set_option maxHeartbeats 4000000 in
theorem lc19 {ys : List Int32} {i : Nat} {w : List sx_C} {P : Option Value → List sx_C → Prop} (hl : ys.length ≤ 3072) (hn : i + 6 ≤ ys.length) (hI : WI w) (hL : LI w) (kk : ∀ w2, WI w2 → LI w2 → sx_RP (some ys) 9 246 1539 [(3, .int (nI i)), (2, .ref 111), (1, .ref 0), (0, .float 4)] [] w2 P) : sx_RP (some ys) 9 246 821 [(3, .int (nI i)), (2, .ref 111), (1, .ref 0), (0, .float 4)] [] w P := by
  refine sx_RP.step (pc2 := 822) (ls2 := [(3, .int (nI i)), (2, .ref 111), (1, .ref 0), (0, .float 4)]) (st2 := [.ref 0]) (w3 := w) rfl rfl ?_
  refine sx_RP.step (pc2 := 823) (ls2 := [(3, .int (nI i)), (2, .ref 111), (1, .ref 0), (0, .float 4)]) (st2 := [.float 4, .ref 0]) (w3 := w) rfl rfl ?_
  refine sx_RP.step (pc2 := 824) (ls2 := [(3, .int (nI i)), (2, .ref 111), (1, .ref 0), (0, .float 4)]) (st2 := [.int (nI i), .float 4, .ref 0]) (w3 := w) rfl rfl ?_
  refine sx_RP.step (pc2 := 825) (ls2 := [(3, .int (nI i)), (2, .ref 111), (1, .ref 0), (0, .float 4)]) (st2 := [.int 1, .int (nI i), .float 4, .ref 0]) (w3 := w) rfl rfl ?_
  refine sx_RP.step (pc2 := 826) (ls2 := [(3, .int (nI i)), (2, .ref 111), (1, .ref 0), (0, .float 4)]) (st2 := [.int ((nI i) + 1), .float 4, .ref 0]) (w3 := w) rfl rfl ?_
  rw [show ((nI i) + 1 : Int32) = nI (i + 1) from nI_add i 1]
  refine sx_RP.scr (x := (i + 1)) rfl (by omega) hl (show _ = 827 from rfl) ?_
  refine sx_RP.callp (as2 := [.ref 0, .int (ys.getD ((i + 1)) 0)]) (rest2 := []) rfl rfl (sx_inv_v2 (mi := 246) (k := 96) (st := [.int (ys.getD ((i + 1)) 0), .ref 0]) (w := w) rfl rfl hI.1.o0 rfl rfl rfl) rfl rfl rfl (sx_RP.byk (B62 (d := 1) hI (ys.getD ((i + 1)) 0))) (show _ = 830 from rfl) ?_
  rintro r4 w1 ⟨⟨⟨rfl, hF4⟩, hI2, hE3⟩, hbk5⟩
  show sx_RP _ _ _ _ _ [.int (disA (FCb w) (ys.getD ((i + 1)) 0))] _ _
  refine sx_RP.step (pc2 := 831) (ls2 := [(3, .int (nI i)), (2, .ref 111), (1, .ref 0), (0, .float 4)]) (st2 := []) (w3 := w1) rfl rfl ?_
  refine sx_RP.step (pc2 := 832) (ls2 := [(3, .int (nI i)), (2, .ref 111), (1, .ref 0), (0, .float 4)]) (st2 := [.ref 111]) (w3 := w1) rfl rfl ?_
  refine sx_RP.step (pc2 := 833) (ls2 := [(3, .int (nI i)), (2, .ref 111), (1, .ref 0), (0, .float 4)]) (st2 := [.float 4, .ref 111]) (w3 := w1) rfl rfl ?_
  refine sx_RP.step (pc2 := 834) (ls2 := [(3, .int (nI i)), (2, .ref 111), (1, .ref 0), (0, .float 4)]) (st2 := [.int (nI i), .float 4, .ref 111]) (w3 := w1) rfl rfl ?_
  refine sx_RP.step (pc2 := 835) (ls2 := [(3, .int (nI i)), (2, .ref 111), (1, .ref 0), (0, .float 4)]) (st2 := [.int 1, .int (nI i), .float 4, .ref 111]) (w3 := w1) rfl rfl ?_
  refine sx_RP.step (pc2 := 836) (ls2 := [(3, .int (nI i)), (2, .ref 111), (1, .ref 0), (0, .float 4)]) (st2 := [.int ((nI i) + 1), .float 4, .ref 111]) (w3 := w1) rfl rfl ?_
  rw [show ((nI i) + 1 : Int32) = nI (i + 1) from nI_add i 1]
  refine sx_RP.scr (x := (i + 1)) rfl (by omega) hl (show _ = 837 from rfl) ?_
  refine sx_RP.callp (as2 := [.ref 111, .int (ys.getD ((i + 1)) 0)]) (rest2 := []) rfl rfl (sx_inv_v2 (mi := 246) (k := 99) (st := [.int (ys.getD ((i + 1)) 0), .ref 111]) (w := w1) rfl rfl hI2.1.o111 rfl rfl rfl) rfl rfl rfl (sx_RP.byk (B184 (d := 1) hI2 (ys.getD ((i + 1)) 0))) (show _ = 840 from rfl) ?_
  rintro r4 w6 ⟨⟨⟨rfl, hF9⟩, hI7, hE8⟩, hbk11⟩
  have hL10 : LI w6 := LI.two (fun t => disU t (ys.getD ((i + 1)) 0)) hL hE3 hF4 hI2 hE8 hF9 (hL.1.2.dis (ys.getD ((i + 1)) 0)) hbk5 hbk11
  show sx_RP _ _ _ _ _ [.int (disA (FMb w1) (ys.getD ((i + 1)) 0))] _ _
  refine sx_RP.step (pc2 := 841) (ls2 := [(3, .int (nI i)), (2, .ref 111), (1, .ref 0), (0, .float 4)]) (st2 := []) (w3 := w6) rfl rfl ?_
  refine sx_RP.step (pc2 := 1539) (ls2 := [(3, .int (nI i)), (2, .ref 111), (1, .ref 0), (0, .float 4)]) (st2 := []) (w3 := w6) rfl rfl ?_
  exact kk w6 hI7 hL10
set_option maxRecDepth 20000 in
set_option maxHeartbeats 4000000 in
theorem lc20 {ys : List Int32} {i : Nat} {w : List sx_C} {P : Option Value → List sx_C → Prop} (hl : ys.length ≤ 3072) (hn : i + 6 ≤ ys.length) (hI : WI w) (hL : LI w) (kk : ∀ w2, WI w2 → LI w2 → sx_RP (some ys) 9 246 1539 [(3, .int (nI i)), (2, .ref 111), (1, .ref 0), (0, .float 4)] [] w2 P) : sx_RP (some ys) 9 246 844 [(3, .int (nI i)), (2, .ref 111), (1, .ref 0), (0, .float 4)] [] w P := by
  refine sx_RP.step (pc2 := 845) (ls2 := [(3, .int (nI i)), (2, .ref 111), (1, .ref 0), (0, .float 4)]) (st2 := [.ref 0]) (w3 := w) rfl rfl ?_
  refine sx_RP.step (pc2 := 846) (ls2 := [(3, .int (nI i)), (2, .ref 111), (1, .ref 0), (0, .float 4)]) (st2 := [.float 4, .ref 0]) (w3 := w) rfl rfl ?_
  refine sx_RP.step (pc2 := 847) (ls2 := [(3, .int (nI i)), (2, .ref 111), (1, .ref 0), (0, .float 4)]) (st2 := [.int (nI i), .float 4, .ref 0]) (w3 := w) rfl rfl ?_
  refine sx_RP.step (pc2 := 848) (ls2 := [(3, .int (nI i)), (2, .ref 111), (1, .ref 0), (0, .float 4)]) (st2 := [.int 1, .int (nI i), .float 4, .ref 0]) (w3 := w) rfl rfl ?_
  refine sx_RP.step (pc2 := 849) (ls2 := [(3, .int (nI i)), (2, .ref 111), (1, .ref 0), (0, .float 4)]) (st2 := [.int ((nI i) + 1), .float 4, .ref 0]) (w3 := w) rfl rfl ?_
  rw [show ((nI i) + 1 : Int32) = nI (i + 1) from nI_add i 1]
  refine sx_RP.scr (x := (i + 1)) rfl (by omega) hl (show _ = 850 from rfl) ?_
  refine sx_RP.step (pc2 := 851) (ls2 := [(3, .int (nI i)), (2, .ref 111), (1, .ref 0), (0, .float 4)]) (st2 := [.float 4, .int (ys.getD ((i + 1)) 0), .ref 0]) (w3 := w) rfl rfl ?_
  refine sx_RP.step (pc2 := 852) (ls2 := [(3, .int (nI i)), (2, .ref 111), (1, .ref 0), (0, .float 4)]) (st2 := [.int (nI i), .float 4, .int (ys.getD ((i + 1)) 0), .ref 0]) (w3 := w) rfl rfl ?_
  refine sx_RP.step (pc2 := 853) (ls2 := [(3, .int (nI i)), (2, .ref 111), (1, .ref 0), (0, .float 4)]) (st2 := [.int 2, .int (nI i), .float 4, .int (ys.getD ((i + 1)) 0), .ref 0]) (w3 := w) rfl rfl ?_
  refine sx_RP.step (pc2 := 854) (ls2 := [(3, .int (nI i)), (2, .ref 111), (1, .ref 0), (0, .float 4)]) (st2 := [.int ((nI i) + 2), .float 4, .int (ys.getD ((i + 1)) 0), .ref 0]) (w3 := w) rfl rfl ?_
  rw [show ((nI i) + 2 : Int32) = nI (i + 2) from nI_add i 2]
  refine sx_RP.scr (x := (i + 2)) rfl (by omega) hl (show _ = 855 from rfl) ?_
  refine sx_RP.callp (as2 := [.ref 0, .int (ys.getD ((i + 1)) 0), .int (ys.getD ((i + 2)) 0)]) (rest2 := []) rfl rfl (sx_inv_v2 (mi := 246) (k := 100) (st := [.int (ys.getD ((i + 2)) 0), .int (ys.getD ((i + 1)) 0), .ref 0]) (w := w) rfl rfl hI.1.o0 rfl rfl rfl) rfl rfl rfl (sx_RP.byk (B65 (d := 1) hI (ys.getD ((i + 1)) 0) (ys.getD ((i + 2)) 0))) (show _ = 858 from rfl) ?_
  rintro r4 w1 ⟨⟨⟨rfl, hF4⟩, hI2, hE3⟩, hbk5⟩
  show sx_RP _ _ _ _ _ [.int (movA (FCb w) (ys.getD ((i + 1)) 0) (ys.getD ((i + 2)) 0))] _ _
  refine sx_RP.step (pc2 := 859) (ls2 := [(3, .int (nI i)), (2, .ref 111), (1, .ref 0), (0, .float 4)]) (st2 := []) (w3 := w1) rfl rfl ?_
  refine sx_RP.step (pc2 := 860) (ls2 := [(3, .int (nI i)), (2, .ref 111), (1, .ref 0), (0, .float 4)]) (st2 := [.ref 111]) (w3 := w1) rfl rfl ?_
  refine sx_RP.step (pc2 := 861) (ls2 := [(3, .int (nI i)), (2, .ref 111), (1, .ref 0), (0, .float 4)]) (st2 := [.float 4, .ref 111]) (w3 := w1) rfl rfl ?_
  refine sx_RP.step (pc2 := 862) (ls2 := [(3, .int (nI i)), (2, .ref 111), (1, .ref 0), (0, .float 4)]) (st2 := [.int (nI i), .float 4, .ref 111]) (w3 := w1) rfl rfl ?_
  refine sx_RP.step (pc2 := 863) (ls2 := [(3, .int (nI i)), (2, .ref 111), (1, .ref 0), (0, .float 4)]) (st2 := [.int 1, .int (nI i), .float 4, .ref 111]) (w3 := w1) rfl rfl ?_
  refine sx_RP.step (pc2 := 864) (ls2 := [(3, .int (nI i)), (2, .ref 111), (1, .ref 0), (0, .float 4)]) (st2 := [.int ((nI i) + 1), .float 4, .ref 111]) (w3 := w1) rfl rfl ?_
  rw [show ((nI i) + 1 : Int32) = nI (i + 1) from nI_add i 1]
  refine sx_RP.scr (x := (i + 1)) rfl (by omega) hl (show _ = 865 from rfl) ?_
  refine sx_RP.step (pc2 := 866) (ls2 := [(3, .int (nI i)), (2, .ref 111), (1, .ref 0), (0, .float 4)]) (st2 := [.float 4, .int (ys.getD ((i + 1)) 0), .ref 111]) (w3 := w1) rfl rfl ?_
  refine sx_RP.step (pc2 := 867) (ls2 := [(3, .int (nI i)), (2, .ref 111), (1, .ref 0), (0, .float 4)]) (st2 := [.int (nI i), .float 4, .int (ys.getD ((i + 1)) 0), .ref 111]) (w3 := w1) rfl rfl ?_
  refine sx_RP.step (pc2 := 868) (ls2 := [(3, .int (nI i)), (2, .ref 111), (1, .ref 0), (0, .float 4)]) (st2 := [.int 2, .int (nI i), .float 4, .int (ys.getD ((i + 1)) 0), .ref 111]) (w3 := w1) rfl rfl ?_
  refine sx_RP.step (pc2 := 869) (ls2 := [(3, .int (nI i)), (2, .ref 111), (1, .ref 0), (0, .float 4)]) (st2 := [.int ((nI i) + 2), .float 4, .int (ys.getD ((i + 1)) 0), .ref 111]) (w3 := w1) rfl rfl ?_
  rw [show ((nI i) + 2 : Int32) = nI (i + 2) from nI_add i 2]
  refine sx_RP.scr (x := (i + 2)) rfl (by omega) hl (show _ = 870 from rfl) ?_
  refine sx_RP.callp (as2 := [.ref 111, .int (ys.getD ((i + 1)) 0), .int (ys.getD ((i + 2)) 0)]) (rest2 := []) rfl rfl (sx_inv_v2 (mi := 246) (k := 103) (st := [.int (ys.getD ((i + 2)) 0), .int (ys.getD ((i + 1)) 0), .ref 111]) (w := w1) rfl rfl hI2.1.o111 rfl rfl rfl) rfl rfl rfl (sx_RP.byk (B185 (d := 1) hI2 (ys.getD ((i + 1)) 0) (ys.getD ((i + 2)) 0))) (show _ = 873 from rfl) ?_
  rintro r4 w6 ⟨⟨⟨rfl, hF9⟩, hI7, hE8⟩, hbk11⟩
  have hL10 : LI w6 := LI.two (fun t => movU t (ys.getD ((i + 1)) 0) (ys.getD ((i + 2)) 0)) hL hE3 hF4 hI2 hE8 hF9 (hL.1.2.mov (ys.getD ((i + 1)) 0) (ys.getD ((i + 2)) 0)) hbk5 hbk11
  show sx_RP _ _ _ _ _ [.int (movA (FMb w1) (ys.getD ((i + 1)) 0) (ys.getD ((i + 2)) 0))] _ _
  refine sx_RP.step (pc2 := 874) (ls2 := [(3, .int (nI i)), (2, .ref 111), (1, .ref 0), (0, .float 4)]) (st2 := []) (w3 := w6) rfl rfl ?_
  refine sx_RP.step (pc2 := 1539) (ls2 := [(3, .int (nI i)), (2, .ref 111), (1, .ref 0), (0, .float 4)]) (st2 := []) (w3 := w6) rfl rfl ?_
  exact kk w6 hI7 hL10
set_option maxRecDepth 20000 in
set_option maxHeartbeats 4000000 in
theorem lc21 {ys : List Int32} {i : Nat} {w : List sx_C} {P : Option Value → List sx_C → Prop} (hl : ys.length ≤ 3072) (hn : i + 6 ≤ ys.length) (hI : WI w) (hL : LI w) (kk : ∀ w2, WI w2 → LI w2 → sx_RP (some ys) 9 246 1539 [(3, .int (nI i)), (2, .ref 111), (1, .ref 0), (0, .float 4)] [] w2 P) : sx_RP (some ys) 9 246 877 [(3, .int (nI i)), (2, .ref 111), (1, .ref 0), (0, .float 4)] [] w P := by
  refine sx_RP.step (pc2 := 878) (ls2 := [(3, .int (nI i)), (2, .ref 111), (1, .ref 0), (0, .float 4)]) (st2 := [.ref 0]) (w3 := w) rfl rfl ?_
  refine sx_RP.step (pc2 := 879) (ls2 := [(3, .int (nI i)), (2, .ref 111), (1, .ref 0), (0, .float 4)]) (st2 := [.float 4, .ref 0]) (w3 := w) rfl rfl ?_
  refine sx_RP.step (pc2 := 880) (ls2 := [(3, .int (nI i)), (2, .ref 111), (1, .ref 0), (0, .float 4)]) (st2 := [.int (nI i), .float 4, .ref 0]) (w3 := w) rfl rfl ?_
  refine sx_RP.step (pc2 := 881) (ls2 := [(3, .int (nI i)), (2, .ref 111), (1, .ref 0), (0, .float 4)]) (st2 := [.int 1, .int (nI i), .float 4, .ref 0]) (w3 := w) rfl rfl ?_
  refine sx_RP.step (pc2 := 882) (ls2 := [(3, .int (nI i)), (2, .ref 111), (1, .ref 0), (0, .float 4)]) (st2 := [.int ((nI i) + 1), .float 4, .ref 0]) (w3 := w) rfl rfl ?_
  rw [show ((nI i) + 1 : Int32) = nI (i + 1) from nI_add i 1]
  refine sx_RP.scr (x := (i + 1)) rfl (by omega) hl (show _ = 883 from rfl) ?_
  refine sx_RP.callp (as2 := [.ref 0, .int (ys.getD ((i + 1)) 0)]) (rest2 := []) rfl rfl (sx_inv_v2 (mi := 246) (k := 104) (st := [.int (ys.getD ((i + 1)) 0), .ref 0]) (w := w) rfl rfl hI.1.o0 rfl rfl rfl) rfl rfl rfl (sx_RP.byk (Q67 (d := 1) hI (ys.getD ((i + 1)) 0))) (show _ = 886 from rfl) ?_
  rintro r4 w1 ⟨⟨⟨v3, rfl⟩, hI2, hE4⟩, hbk6⟩
  have hL5 : LI w1 := hL.rc hI hE4.en hbk6
  show sx_RP _ _ _ _ _ [.int v3] _ _
  refine sx_RP.step (pc2 := 887) (ls2 := [(3, .int (nI i)), (2, .ref 111), (1, .ref 0), (0, .float 4)]) (st2 := []) (w3 := w1) rfl rfl ?_
  refine sx_RP.step (pc2 := 888) (ls2 := [(3, .int (nI i)), (2, .ref 111), (1, .ref 0), (0, .float 4)]) (st2 := [.ref 111]) (w3 := w1) rfl rfl ?_
  refine sx_RP.step (pc2 := 889) (ls2 := [(3, .int (nI i)), (2, .ref 111), (1, .ref 0), (0, .float 4)]) (st2 := [.float 4, .ref 111]) (w3 := w1) rfl rfl ?_
  refine sx_RP.step (pc2 := 890) (ls2 := [(3, .int (nI i)), (2, .ref 111), (1, .ref 0), (0, .float 4)]) (st2 := [.int (nI i), .float 4, .ref 111]) (w3 := w1) rfl rfl ?_
  refine sx_RP.step (pc2 := 891) (ls2 := [(3, .int (nI i)), (2, .ref 111), (1, .ref 0), (0, .float 4)]) (st2 := [.int 1, .int (nI i), .float 4, .ref 111]) (w3 := w1) rfl rfl ?_
  refine sx_RP.step (pc2 := 892) (ls2 := [(3, .int (nI i)), (2, .ref 111), (1, .ref 0), (0, .float 4)]) (st2 := [.int ((nI i) + 1), .float 4, .ref 111]) (w3 := w1) rfl rfl ?_
  rw [show ((nI i) + 1 : Int32) = nI (i + 1) from nI_add i 1]
  refine sx_RP.scr (x := (i + 1)) rfl (by omega) hl (show _ = 893 from rfl) ?_
  refine sx_RP.callp (as2 := [.ref 111, .int (ys.getD ((i + 1)) 0)]) (rest2 := []) rfl rfl (sx_inv_v2 (mi := 246) (k := 107) (st := [.int (ys.getD ((i + 1)) 0), .ref 111]) (w := w1) rfl rfl hI2.1.o111 rfl rfl rfl) rfl rfl rfl (sx_RP.byk (K187 (d := 1) hI2 (ys.getD ((i + 1)) 0))) (show _ = 896 from rfl) ?_
  rintro r4 w7 ⟨⟨⟨v9, rfl⟩, hI8, hE10⟩, hbk12⟩
  have hL11 : LI w7 := hL5.rm hI2 hE10.el hbk12
  show sx_RP _ _ _ _ _ [.int v9] _ _
  refine sx_RP.step (pc2 := 897) (ls2 := [(3, .int (nI i)), (2, .ref 111), (1, .ref 0), (0, .float 4)]) (st2 := []) (w3 := w7) rfl rfl ?_
  refine sx_RP.step (pc2 := 1539) (ls2 := [(3, .int (nI i)), (2, .ref 111), (1, .ref 0), (0, .float 4)]) (st2 := []) (w3 := w7) rfl rfl ?_
  exact kk w7 hI8 hL11
set_option maxRecDepth 20000 in
set_option maxHeartbeats 4000000 in
theorem lc22 {ys : List Int32} {i : Nat} {w : List sx_C} {P : Option Value → List sx_C → Prop} (hl : ys.length ≤ 3072) (hn : i + 6 ≤ ys.length) (hI : WI w) (hL : LI w) (kk : ∀ w2, WI w2 → LI w2 → sx_RP (some ys) 9 246 1539 [(3, .int (nI i)), (2, .ref 111), (1, .ref 0), (0, .float 4)] [] w2 P) : sx_RP (some ys) 9 246 900 [(3, .int (nI i)), (2, .ref 111), (1, .ref 0), (0, .float 4)] [] w P := by
  refine sx_RP.step (pc2 := 901) (ls2 := [(3, .int (nI i)), (2, .ref 111), (1, .ref 0), (0, .float 4)]) (st2 := [.ref 0]) (w3 := w) rfl rfl ?_
  refine sx_RP.step (pc2 := 902) (ls2 := [(3, .int (nI i)), (2, .ref 111), (1, .ref 0), (0, .float 4)]) (st2 := [.float 4, .ref 0]) (w3 := w) rfl rfl ?_
  refine sx_RP.step (pc2 := 903) (ls2 := [(3, .int (nI i)), (2, .ref 111), (1, .ref 0), (0, .float 4)]) (st2 := [.int (nI i), .float 4, .ref 0]) (w3 := w) rfl rfl ?_
  refine sx_RP.step (pc2 := 904) (ls2 := [(3, .int (nI i)), (2, .ref 111), (1, .ref 0), (0, .float 4)]) (st2 := [.int 1, .int (nI i), .float 4, .ref 0]) (w3 := w) rfl rfl ?_
  refine sx_RP.step (pc2 := 905) (ls2 := [(3, .int (nI i)), (2, .ref 111), (1, .ref 0), (0, .float 4)]) (st2 := [.int ((nI i) + 1), .float 4, .ref 0]) (w3 := w) rfl rfl ?_
  rw [show ((nI i) + 1 : Int32) = nI (i + 1) from nI_add i 1]
  refine sx_RP.scr (x := (i + 1)) rfl (by omega) hl (show _ = 906 from rfl) ?_
  refine sx_RP.step (pc2 := 907) (ls2 := [(3, .int (nI i)), (2, .ref 111), (1, .ref 0), (0, .float 4)]) (st2 := [.float 4, .int (ys.getD ((i + 1)) 0), .ref 0]) (w3 := w) rfl rfl ?_
  refine sx_RP.step (pc2 := 908) (ls2 := [(3, .int (nI i)), (2, .ref 111), (1, .ref 0), (0, .float 4)]) (st2 := [.int (nI i), .float 4, .int (ys.getD ((i + 1)) 0), .ref 0]) (w3 := w) rfl rfl ?_
  refine sx_RP.step (pc2 := 909) (ls2 := [(3, .int (nI i)), (2, .ref 111), (1, .ref 0), (0, .float 4)]) (st2 := [.int 2, .int (nI i), .float 4, .int (ys.getD ((i + 1)) 0), .ref 0]) (w3 := w) rfl rfl ?_
  refine sx_RP.step (pc2 := 910) (ls2 := [(3, .int (nI i)), (2, .ref 111), (1, .ref 0), (0, .float 4)]) (st2 := [.int ((nI i) + 2), .float 4, .int (ys.getD ((i + 1)) 0), .ref 0]) (w3 := w) rfl rfl ?_
  rw [show ((nI i) + 2 : Int32) = nI (i + 2) from nI_add i 2]
  refine sx_RP.scr (x := (i + 2)) rfl (by omega) hl (show _ = 911 from rfl) ?_
  refine sx_RP.callp (as2 := [.ref 0, .int (ys.getD ((i + 1)) 0), .int (ys.getD ((i + 2)) 0)]) (rest2 := []) rfl rfl (sx_inv_v2 (mi := 246) (k := 108) (st := [.int (ys.getD ((i + 2)) 0), .int (ys.getD ((i + 1)) 0), .ref 0]) (w := w) rfl rfl hI.1.o0 rfl rfl rfl) rfl rfl rfl (sx_RP.byk (Q70 (d := 1) hI (ys.getD ((i + 1)) 0) (ys.getD ((i + 2)) 0))) (show _ = 914 from rfl) ?_
  rintro r4 w1 ⟨⟨⟨v3, rfl⟩, hI2, hE4⟩, hbk6⟩
  have hL5 : LI w1 := hL.rc hI hE4.en hbk6
  show sx_RP _ _ _ _ _ [.int v3] _ _
  refine sx_RP.step (pc2 := 915) (ls2 := [(3, .int (nI i)), (2, .ref 111), (1, .ref 0), (0, .float 4)]) (st2 := []) (w3 := w1) rfl rfl ?_
  refine sx_RP.step (pc2 := 916) (ls2 := [(3, .int (nI i)), (2, .ref 111), (1, .ref 0), (0, .float 4)]) (st2 := [.ref 111]) (w3 := w1) rfl rfl ?_
  refine sx_RP.step (pc2 := 917) (ls2 := [(3, .int (nI i)), (2, .ref 111), (1, .ref 0), (0, .float 4)]) (st2 := [.float 4, .ref 111]) (w3 := w1) rfl rfl ?_
  refine sx_RP.step (pc2 := 918) (ls2 := [(3, .int (nI i)), (2, .ref 111), (1, .ref 0), (0, .float 4)]) (st2 := [.int (nI i), .float 4, .ref 111]) (w3 := w1) rfl rfl ?_
  refine sx_RP.step (pc2 := 919) (ls2 := [(3, .int (nI i)), (2, .ref 111), (1, .ref 0), (0, .float 4)]) (st2 := [.int 1, .int (nI i), .float 4, .ref 111]) (w3 := w1) rfl rfl ?_
  refine sx_RP.step (pc2 := 920) (ls2 := [(3, .int (nI i)), (2, .ref 111), (1, .ref 0), (0, .float 4)]) (st2 := [.int ((nI i) + 1), .float 4, .ref 111]) (w3 := w1) rfl rfl ?_
  rw [show ((nI i) + 1 : Int32) = nI (i + 1) from nI_add i 1]
  refine sx_RP.scr (x := (i + 1)) rfl (by omega) hl (show _ = 921 from rfl) ?_
  refine sx_RP.step (pc2 := 922) (ls2 := [(3, .int (nI i)), (2, .ref 111), (1, .ref 0), (0, .float 4)]) (st2 := [.float 4, .int (ys.getD ((i + 1)) 0), .ref 111]) (w3 := w1) rfl rfl ?_
  refine sx_RP.step (pc2 := 923) (ls2 := [(3, .int (nI i)), (2, .ref 111), (1, .ref 0), (0, .float 4)]) (st2 := [.int (nI i), .float 4, .int (ys.getD ((i + 1)) 0), .ref 111]) (w3 := w1) rfl rfl ?_
  refine sx_RP.step (pc2 := 924) (ls2 := [(3, .int (nI i)), (2, .ref 111), (1, .ref 0), (0, .float 4)]) (st2 := [.int 2, .int (nI i), .float 4, .int (ys.getD ((i + 1)) 0), .ref 111]) (w3 := w1) rfl rfl ?_
  refine sx_RP.step (pc2 := 925) (ls2 := [(3, .int (nI i)), (2, .ref 111), (1, .ref 0), (0, .float 4)]) (st2 := [.int ((nI i) + 2), .float 4, .int (ys.getD ((i + 1)) 0), .ref 111]) (w3 := w1) rfl rfl ?_
  rw [show ((nI i) + 2 : Int32) = nI (i + 2) from nI_add i 2]
  refine sx_RP.scr (x := (i + 2)) rfl (by omega) hl (show _ = 926 from rfl) ?_
  refine sx_RP.callp (as2 := [.ref 111, .int (ys.getD ((i + 1)) 0), .int (ys.getD ((i + 2)) 0)]) (rest2 := []) rfl rfl (sx_inv_v2 (mi := 246) (k := 111) (st := [.int (ys.getD ((i + 2)) 0), .int (ys.getD ((i + 1)) 0), .ref 111]) (w := w1) rfl rfl hI2.1.o111 rfl rfl rfl) rfl rfl rfl (sx_RP.byk (K191 (d := 1) hI2 (ys.getD ((i + 1)) 0) (ys.getD ((i + 2)) 0))) (show _ = 929 from rfl) ?_
  rintro r4 w7 ⟨⟨⟨v9, rfl⟩, hI8, hE10⟩, hbk12⟩
  have hL11 : LI w7 := hL5.rm hI2 hE10.el hbk12
  show sx_RP _ _ _ _ _ [.int v9] _ _
  refine sx_RP.step (pc2 := 930) (ls2 := [(3, .int (nI i)), (2, .ref 111), (1, .ref 0), (0, .float 4)]) (st2 := []) (w3 := w7) rfl rfl ?_
  refine sx_RP.step (pc2 := 1539) (ls2 := [(3, .int (nI i)), (2, .ref 111), (1, .ref 0), (0, .float 4)]) (st2 := []) (w3 := w7) rfl rfl ?_
  exact kk w7 hI8 hL11
set_option maxRecDepth 20000 in
set_option maxHeartbeats 4000000 in
theorem lc23 {ys : List Int32} {i : Nat} {w : List sx_C} {P : Option Value → List sx_C → Prop} (hl : ys.length ≤ 3072) (hn : i + 6 ≤ ys.length) (hI : WI w) (hL : LI w) (kk : ∀ w2, WI w2 → LI w2 → sx_RP (some ys) 9 246 1539 [(3, .int (nI i)), (2, .ref 111), (1, .ref 0), (0, .float 4)] [] w2 P) : sx_RP (some ys) 9 246 933 [(3, .int (nI i)), (2, .ref 111), (1, .ref 0), (0, .float 4)] [] w P := by
  refine sx_RP.step (pc2 := 934) (ls2 := [(3, .int (nI i)), (2, .ref 111), (1, .ref 0), (0, .float 4)]) (st2 := [.ref 0]) (w3 := w) rfl rfl ?_
  refine sx_RP.step (pc2 := 935) (ls2 := [(3, .int (nI i)), (2, .ref 111), (1, .ref 0), (0, .float 4)]) (st2 := [.float 4, .ref 0]) (w3 := w) rfl rfl ?_
  refine sx_RP.step (pc2 := 936) (ls2 := [(3, .int (nI i)), (2, .ref 111), (1, .ref 0), (0, .float 4)]) (st2 := [.int (nI i), .float 4, .ref 0]) (w3 := w) rfl rfl ?_
  refine sx_RP.step (pc2 := 937) (ls2 := [(3, .int (nI i)), (2, .ref 111), (1, .ref 0), (0, .float 4)]) (st2 := [.int 1, .int (nI i), .float 4, .ref 0]) (w3 := w) rfl rfl ?_
  refine sx_RP.step (pc2 := 938) (ls2 := [(3, .int (nI i)), (2, .ref 111), (1, .ref 0), (0, .float 4)]) (st2 := [.int ((nI i) + 1), .float 4, .ref 0]) (w3 := w) rfl rfl ?_
  rw [show ((nI i) + 1 : Int32) = nI (i + 1) from nI_add i 1]
  refine sx_RP.scr (x := (i + 1)) rfl (by omega) hl (show _ = 939 from rfl) ?_
  refine sx_RP.callp (as2 := [.ref 0, .int (ys.getD ((i + 1)) 0)]) (rest2 := []) rfl rfl (sx_inv_v2 (mi := 246) (k := 112) (st := [.int (ys.getD ((i + 1)) 0), .ref 0]) (w := w) rfl rfl hI.1.o0 rfl rfl rfl) rfl rfl rfl (sx_RP.byk (Q71 (d := 1) hI (ys.getD ((i + 1)) 0))) (show _ = 942 from rfl) ?_
  rintro r4 w1 ⟨⟨⟨v3, rfl⟩, hI2, hE4⟩, hbk6⟩
  have hL5 : LI w1 := hL.rc hI hE4.en hbk6
  show sx_RP _ _ _ _ _ [.long v3] _ _
  refine sx_RP.step (pc2 := 943) (ls2 := [(3, .int (nI i)), (2, .ref 111), (1, .ref 0), (0, .float 4)]) (st2 := []) (w3 := w1) rfl rfl ?_
  refine sx_RP.step (pc2 := 944) (ls2 := [(3, .int (nI i)), (2, .ref 111), (1, .ref 0), (0, .float 4)]) (st2 := [.ref 111]) (w3 := w1) rfl rfl ?_
  refine sx_RP.step (pc2 := 945) (ls2 := [(3, .int (nI i)), (2, .ref 111), (1, .ref 0), (0, .float 4)]) (st2 := [.float 4, .ref 111]) (w3 := w1) rfl rfl ?_
  refine sx_RP.step (pc2 := 946) (ls2 := [(3, .int (nI i)), (2, .ref 111), (1, .ref 0), (0, .float 4)]) (st2 := [.int (nI i), .float 4, .ref 111]) (w3 := w1) rfl rfl ?_
  refine sx_RP.step (pc2 := 947) (ls2 := [(3, .int (nI i)), (2, .ref 111), (1, .ref 0), (0, .float 4)]) (st2 := [.int 1, .int (nI i), .float 4, .ref 111]) (w3 := w1) rfl rfl ?_
  refine sx_RP.step (pc2 := 948) (ls2 := [(3, .int (nI i)), (2, .ref 111), (1, .ref 0), (0, .float 4)]) (st2 := [.int ((nI i) + 1), .float 4, .ref 111]) (w3 := w1) rfl rfl ?_
  rw [show ((nI i) + 1 : Int32) = nI (i + 1) from nI_add i 1]
  refine sx_RP.scr (x := (i + 1)) rfl (by omega) hl (show _ = 949 from rfl) ?_
  refine sx_RP.callp (as2 := [.ref 111, .int (ys.getD ((i + 1)) 0)]) (rest2 := []) rfl rfl (sx_inv_v2 (mi := 246) (k := 116) (st := [.int (ys.getD ((i + 1)) 0), .ref 111]) (w := w1) rfl rfl hI2.1.o111 rfl rfl rfl) rfl rfl rfl (sx_RP.byk (K192 (d := 1) hI2 (ys.getD ((i + 1)) 0))) (show _ = 952 from rfl) ?_
  rintro r4 w7 ⟨⟨⟨v9, rfl⟩, hI8, hE10⟩, hbk12⟩
  have hL11 : LI w7 := hL5.rm hI2 hE10.el hbk12
  show sx_RP _ _ _ _ _ [.long v9] _ _
  refine sx_RP.step (pc2 := 953) (ls2 := [(3, .int (nI i)), (2, .ref 111), (1, .ref 0), (0, .float 4)]) (st2 := []) (w3 := w7) rfl rfl ?_
  refine sx_RP.step (pc2 := 1539) (ls2 := [(3, .int (nI i)), (2, .ref 111), (1, .ref 0), (0, .float 4)]) (st2 := []) (w3 := w7) rfl rfl ?_
  exact kk w7 hI8 hL11
set_option maxRecDepth 20000 in
set_option maxHeartbeats 4000000 in
theorem lc24 {ys : List Int32} {i : Nat} {w : List sx_C} {P : Option Value → List sx_C → Prop} (hl : ys.length ≤ 3072) (hn : i + 6 ≤ ys.length) (hI : WI w) (hL : LI w) (kk : ∀ w2, WI w2 → LI w2 → sx_RP (some ys) 9 246 1539 [(3, .int (nI i)), (2, .ref 111), (1, .ref 0), (0, .float 4)] [] w2 P) : sx_RP (some ys) 9 246 956 [(3, .int (nI i)), (2, .ref 111), (1, .ref 0), (0, .float 4)] [] w P := by
  refine sx_RP.step (pc2 := 957) (ls2 := [(3, .int (nI i)), (2, .ref 111), (1, .ref 0), (0, .float 4)]) (st2 := [.ref 0]) (w3 := w) rfl rfl ?_
  refine sx_RP.step (pc2 := 958) (ls2 := [(3, .int (nI i)), (2, .ref 111), (1, .ref 0), (0, .float 4)]) (st2 := [.float 4, .ref 0]) (w3 := w) rfl rfl ?_
  refine sx_RP.step (pc2 := 959) (ls2 := [(3, .int (nI i)), (2, .ref 111), (1, .ref 0), (0, .float 4)]) (st2 := [.int (nI i), .float 4, .ref 0]) (w3 := w) rfl rfl ?_
  refine sx_RP.step (pc2 := 960) (ls2 := [(3, .int (nI i)), (2, .ref 111), (1, .ref 0), (0, .float 4)]) (st2 := [.int 1, .int (nI i), .float 4, .ref 0]) (w3 := w) rfl rfl ?_
  refine sx_RP.step (pc2 := 961) (ls2 := [(3, .int (nI i)), (2, .ref 111), (1, .ref 0), (0, .float 4)]) (st2 := [.int ((nI i) + 1), .float 4, .ref 0]) (w3 := w) rfl rfl ?_
  rw [show ((nI i) + 1 : Int32) = nI (i + 1) from nI_add i 1]
  refine sx_RP.scr (x := (i + 1)) rfl (by omega) hl (show _ = 962 from rfl) ?_
  refine sx_RP.callp (as2 := [.ref 0, .int (ys.getD ((i + 1)) 0)]) (rest2 := []) rfl rfl (sx_inv_v2 (mi := 246) (k := 117) (st := [.int (ys.getD ((i + 1)) 0), .ref 0]) (w := w) rfl rfl hI.1.o0 rfl rfl rfl) rfl rfl rfl (sx_RP.byk (Q74 (d := 1) hI (ys.getD ((i + 1)) 0))) (show _ = 965 from rfl) ?_
  rintro r4 w1 ⟨⟨⟨v3, rfl⟩, hI2, hE4⟩, hbk6⟩
  have hL5 : LI w1 := hL.rc hI hE4.en hbk6
  show sx_RP _ _ _ _ _ [.int v3] _ _
  refine sx_RP.step (pc2 := 966) (ls2 := [(3, .int (nI i)), (2, .ref 111), (1, .ref 0), (0, .float 4)]) (st2 := []) (w3 := w1) rfl rfl ?_
  refine sx_RP.step (pc2 := 967) (ls2 := [(3, .int (nI i)), (2, .ref 111), (1, .ref 0), (0, .float 4)]) (st2 := [.ref 111]) (w3 := w1) rfl rfl ?_
  refine sx_RP.step (pc2 := 968) (ls2 := [(3, .int (nI i)), (2, .ref 111), (1, .ref 0), (0, .float 4)]) (st2 := [.float 4, .ref 111]) (w3 := w1) rfl rfl ?_
  refine sx_RP.step (pc2 := 969) (ls2 := [(3, .int (nI i)), (2, .ref 111), (1, .ref 0), (0, .float 4)]) (st2 := [.int (nI i), .float 4, .ref 111]) (w3 := w1) rfl rfl ?_
  refine sx_RP.step (pc2 := 970) (ls2 := [(3, .int (nI i)), (2, .ref 111), (1, .ref 0), (0, .float 4)]) (st2 := [.int 1, .int (nI i), .float 4, .ref 111]) (w3 := w1) rfl rfl ?_
  refine sx_RP.step (pc2 := 971) (ls2 := [(3, .int (nI i)), (2, .ref 111), (1, .ref 0), (0, .float 4)]) (st2 := [.int ((nI i) + 1), .float 4, .ref 111]) (w3 := w1) rfl rfl ?_
  rw [show ((nI i) + 1 : Int32) = nI (i + 1) from nI_add i 1]
  refine sx_RP.scr (x := (i + 1)) rfl (by omega) hl (show _ = 972 from rfl) ?_
  refine sx_RP.callp (as2 := [.ref 111, .int (ys.getD ((i + 1)) 0)]) (rest2 := []) rfl rfl (sx_inv_v2 (mi := 246) (k := 120) (st := [.int (ys.getD ((i + 1)) 0), .ref 111]) (w := w1) rfl rfl hI2.1.o111 rfl rfl rfl) rfl rfl rfl (sx_RP.byk (K194 (d := 1) hI2 (ys.getD ((i + 1)) 0))) (show _ = 975 from rfl) ?_
  rintro r4 w7 ⟨⟨⟨v9, rfl⟩, hI8, hE10⟩, hbk12⟩
  have hL11 : LI w7 := hL5.rm hI2 hE10.el hbk12
  show sx_RP _ _ _ _ _ [.int v9] _ _
  refine sx_RP.step (pc2 := 976) (ls2 := [(3, .int (nI i)), (2, .ref 111), (1, .ref 0), (0, .float 4)]) (st2 := []) (w3 := w7) rfl rfl ?_
  refine sx_RP.step (pc2 := 1539) (ls2 := [(3, .int (nI i)), (2, .ref 111), (1, .ref 0), (0, .float 4)]) (st2 := []) (w3 := w7) rfl rfl ?_
  exact kk w7 hI8 hL11
set_option maxRecDepth 20000 in
set_option maxHeartbeats 4000000 in
theorem lc25 {ys : List Int32} {i : Nat} {w : List sx_C} {P : Option Value → List sx_C → Prop} (hl : ys.length ≤ 3072) (hn : i + 6 ≤ ys.length) (hI : WI w) (hL : LI w) (kk : ∀ w2, WI w2 → LI w2 → sx_RP (some ys) 9 246 1539 [(3, .int (nI i)), (2, .ref 111), (1, .ref 0), (0, .float 4)] [] w2 P) : sx_RP (some ys) 9 246 979 [(3, .int (nI i)), (2, .ref 111), (1, .ref 0), (0, .float 4)] [] w P := by
  refine sx_RP.step (pc2 := 980) (ls2 := [(3, .int (nI i)), (2, .ref 111), (1, .ref 0), (0, .float 4)]) (st2 := [.ref 0]) (w3 := w) rfl rfl ?_
  refine sx_RP.step (pc2 := 981) (ls2 := [(3, .int (nI i)), (2, .ref 111), (1, .ref 0), (0, .float 4)]) (st2 := [.float 4, .ref 0]) (w3 := w) rfl rfl ?_
  refine sx_RP.step (pc2 := 982) (ls2 := [(3, .int (nI i)), (2, .ref 111), (1, .ref 0), (0, .float 4)]) (st2 := [.int (nI i), .float 4, .ref 0]) (w3 := w) rfl rfl ?_
  refine sx_RP.step (pc2 := 983) (ls2 := [(3, .int (nI i)), (2, .ref 111), (1, .ref 0), (0, .float 4)]) (st2 := [.int 1, .int (nI i), .float 4, .ref 0]) (w3 := w) rfl rfl ?_
  refine sx_RP.step (pc2 := 984) (ls2 := [(3, .int (nI i)), (2, .ref 111), (1, .ref 0), (0, .float 4)]) (st2 := [.int ((nI i) + 1), .float 4, .ref 0]) (w3 := w) rfl rfl ?_
  rw [show ((nI i) + 1 : Int32) = nI (i + 1) from nI_add i 1]
  refine sx_RP.scr (x := (i + 1)) rfl (by omega) hl (show _ = 985 from rfl) ?_
  refine sx_RP.step (pc2 := 986) (ls2 := [(3, .int (nI i)), (2, .ref 111), (1, .ref 0), (0, .float 4)]) (st2 := [.float 4, .int (ys.getD ((i + 1)) 0), .ref 0]) (w3 := w) rfl rfl ?_
  refine sx_RP.step (pc2 := 987) (ls2 := [(3, .int (nI i)), (2, .ref 111), (1, .ref 0), (0, .float 4)]) (st2 := [.int (nI i), .float 4, .int (ys.getD ((i + 1)) 0), .ref 0]) (w3 := w) rfl rfl ?_
  refine sx_RP.step (pc2 := 988) (ls2 := [(3, .int (nI i)), (2, .ref 111), (1, .ref 0), (0, .float 4)]) (st2 := [.int 2, .int (nI i), .float 4, .int (ys.getD ((i + 1)) 0), .ref 0]) (w3 := w) rfl rfl ?_
  refine sx_RP.step (pc2 := 989) (ls2 := [(3, .int (nI i)), (2, .ref 111), (1, .ref 0), (0, .float 4)]) (st2 := [.int ((nI i) + 2), .float 4, .int (ys.getD ((i + 1)) 0), .ref 0]) (w3 := w) rfl rfl ?_
  rw [show ((nI i) + 2 : Int32) = nI (i + 2) from nI_add i 2]
  refine sx_RP.scr (x := (i + 2)) rfl (by omega) hl (show _ = 990 from rfl) ?_
  refine sx_RP.callp (as2 := [.ref 0, .int (ys.getD ((i + 1)) 0), .int (ys.getD ((i + 2)) 0)]) (rest2 := []) rfl rfl (sx_inv_v2 (mi := 246) (k := 121) (st := [.int (ys.getD ((i + 2)) 0), .int (ys.getD ((i + 1)) 0), .ref 0]) (w := w) rfl rfl hI.1.o0 rfl rfl rfl) rfl rfl rfl (sx_RP.byk (Q76 (d := 1) hI (ys.getD ((i + 1)) 0) (ys.getD ((i + 2)) 0))) (show _ = 993 from rfl) ?_
  rintro r4 w1 ⟨⟨⟨v3, rfl⟩, hI2, hE4⟩, hbk6⟩
  have hL5 : LI w1 := hL.rc hI hE4.en hbk6
  show sx_RP _ _ _ _ _ [.int v3] _ _
  refine sx_RP.step (pc2 := 994) (ls2 := [(3, .int (nI i)), (2, .ref 111), (1, .ref 0), (0, .float 4)]) (st2 := []) (w3 := w1) rfl rfl ?_
  refine sx_RP.step (pc2 := 995) (ls2 := [(3, .int (nI i)), (2, .ref 111), (1, .ref 0), (0, .float 4)]) (st2 := [.ref 111]) (w3 := w1) rfl rfl ?_
  refine sx_RP.step (pc2 := 996) (ls2 := [(3, .int (nI i)), (2, .ref 111), (1, .ref 0), (0, .float 4)]) (st2 := [.float 4, .ref 111]) (w3 := w1) rfl rfl ?_
  refine sx_RP.step (pc2 := 997) (ls2 := [(3, .int (nI i)), (2, .ref 111), (1, .ref 0), (0, .float 4)]) (st2 := [.int (nI i), .float 4, .ref 111]) (w3 := w1) rfl rfl ?_
  refine sx_RP.step (pc2 := 998) (ls2 := [(3, .int (nI i)), (2, .ref 111), (1, .ref 0), (0, .float 4)]) (st2 := [.int 1, .int (nI i), .float 4, .ref 111]) (w3 := w1) rfl rfl ?_
  refine sx_RP.step (pc2 := 999) (ls2 := [(3, .int (nI i)), (2, .ref 111), (1, .ref 0), (0, .float 4)]) (st2 := [.int ((nI i) + 1), .float 4, .ref 111]) (w3 := w1) rfl rfl ?_
  rw [show ((nI i) + 1 : Int32) = nI (i + 1) from nI_add i 1]
  refine sx_RP.scr (x := (i + 1)) rfl (by omega) hl (show _ = 1000 from rfl) ?_
  refine sx_RP.step (pc2 := 1001) (ls2 := [(3, .int (nI i)), (2, .ref 111), (1, .ref 0), (0, .float 4)]) (st2 := [.float 4, .int (ys.getD ((i + 1)) 0), .ref 111]) (w3 := w1) rfl rfl ?_
  refine sx_RP.step (pc2 := 1002) (ls2 := [(3, .int (nI i)), (2, .ref 111), (1, .ref 0), (0, .float 4)]) (st2 := [.int (nI i), .float 4, .int (ys.getD ((i + 1)) 0), .ref 111]) (w3 := w1) rfl rfl ?_
  refine sx_RP.step (pc2 := 1003) (ls2 := [(3, .int (nI i)), (2, .ref 111), (1, .ref 0), (0, .float 4)]) (st2 := [.int 2, .int (nI i), .float 4, .int (ys.getD ((i + 1)) 0), .ref 111]) (w3 := w1) rfl rfl ?_
  refine sx_RP.step (pc2 := 1004) (ls2 := [(3, .int (nI i)), (2, .ref 111), (1, .ref 0), (0, .float 4)]) (st2 := [.int ((nI i) + 2), .float 4, .int (ys.getD ((i + 1)) 0), .ref 111]) (w3 := w1) rfl rfl ?_
  rw [show ((nI i) + 2 : Int32) = nI (i + 2) from nI_add i 2]
  refine sx_RP.scr (x := (i + 2)) rfl (by omega) hl (show _ = 1005 from rfl) ?_
  refine sx_RP.callp (as2 := [.ref 111, .int (ys.getD ((i + 1)) 0), .int (ys.getD ((i + 2)) 0)]) (rest2 := []) rfl rfl (sx_inv_v2 (mi := 246) (k := 124) (st := [.int (ys.getD ((i + 2)) 0), .int (ys.getD ((i + 1)) 0), .ref 111]) (w := w1) rfl rfl hI2.1.o111 rfl rfl rfl) rfl rfl rfl (sx_RP.byk (K196 (d := 1) hI2 (ys.getD ((i + 1)) 0) (ys.getD ((i + 2)) 0))) (show _ = 1008 from rfl) ?_
  rintro r4 w7 ⟨⟨⟨v9, rfl⟩, hI8, hE10⟩, hbk12⟩
  have hL11 : LI w7 := hL5.rm hI2 hE10.el hbk12
  show sx_RP _ _ _ _ _ [.int v9] _ _
  refine sx_RP.step (pc2 := 1009) (ls2 := [(3, .int (nI i)), (2, .ref 111), (1, .ref 0), (0, .float 4)]) (st2 := []) (w3 := w7) rfl rfl ?_
  refine sx_RP.step (pc2 := 1539) (ls2 := [(3, .int (nI i)), (2, .ref 111), (1, .ref 0), (0, .float 4)]) (st2 := []) (w3 := w7) rfl rfl ?_
  exact kk w7 hI8 hL11
set_option maxRecDepth 20000 in
set_option maxHeartbeats 4000000 in
theorem lc26 {ys : List Int32} {i : Nat} {w : List sx_C} {P : Option Value → List sx_C → Prop} (hl : ys.length ≤ 3072) (hn : i + 6 ≤ ys.length) (hI : WI w) (hL : LI w) (kk : ∀ w2, WI w2 → LI w2 → sx_RP (some ys) 9 246 1539 [(3, .int (nI i)), (2, .ref 111), (1, .ref 0), (0, .float 4)] [] w2 P) : sx_RP (some ys) 9 246 1012 [(3, .int (nI i)), (2, .ref 111), (1, .ref 0), (0, .float 4)] [] w P := by
  refine sx_RP.step (pc2 := 1013) (ls2 := [(3, .int (nI i)), (2, .ref 111), (1, .ref 0), (0, .float 4)]) (st2 := [.ref 0]) (w3 := w) rfl rfl ?_
  refine sx_RP.step (pc2 := 1014) (ls2 := [(3, .int (nI i)), (2, .ref 111), (1, .ref 0), (0, .float 4)]) (st2 := [.float 4, .ref 0]) (w3 := w) rfl rfl ?_
  refine sx_RP.step (pc2 := 1015) (ls2 := [(3, .int (nI i)), (2, .ref 111), (1, .ref 0), (0, .float 4)]) (st2 := [.int (nI i), .float 4, .ref 0]) (w3 := w) rfl rfl ?_
  refine sx_RP.step (pc2 := 1016) (ls2 := [(3, .int (nI i)), (2, .ref 111), (1, .ref 0), (0, .float 4)]) (st2 := [.int 1, .int (nI i), .float 4, .ref 0]) (w3 := w) rfl rfl ?_
  refine sx_RP.step (pc2 := 1017) (ls2 := [(3, .int (nI i)), (2, .ref 111), (1, .ref 0), (0, .float 4)]) (st2 := [.int ((nI i) + 1), .float 4, .ref 0]) (w3 := w) rfl rfl ?_
  rw [show ((nI i) + 1 : Int32) = nI (i + 1) from nI_add i 1]
  refine sx_RP.scr (x := (i + 1)) rfl (by omega) hl (show _ = 1018 from rfl) ?_
  refine sx_RP.step (pc2 := 1019) (ls2 := [(3, .int (nI i)), (2, .ref 111), (1, .ref 0), (0, .float 4)]) (st2 := [.float 4, .int (ys.getD ((i + 1)) 0), .ref 0]) (w3 := w) rfl rfl ?_
  refine sx_RP.step (pc2 := 1020) (ls2 := [(3, .int (nI i)), (2, .ref 111), (1, .ref 0), (0, .float 4)]) (st2 := [.int (nI i), .float 4, .int (ys.getD ((i + 1)) 0), .ref 0]) (w3 := w) rfl rfl ?_
  refine sx_RP.step (pc2 := 1021) (ls2 := [(3, .int (nI i)), (2, .ref 111), (1, .ref 0), (0, .float 4)]) (st2 := [.int 2, .int (nI i), .float 4, .int (ys.getD ((i + 1)) 0), .ref 0]) (w3 := w) rfl rfl ?_
  refine sx_RP.step (pc2 := 1022) (ls2 := [(3, .int (nI i)), (2, .ref 111), (1, .ref 0), (0, .float 4)]) (st2 := [.int ((nI i) + 2), .float 4, .int (ys.getD ((i + 1)) 0), .ref 0]) (w3 := w) rfl rfl ?_
  rw [show ((nI i) + 2 : Int32) = nI (i + 2) from nI_add i 2]
  refine sx_RP.scr (x := (i + 2)) rfl (by omega) hl (show _ = 1023 from rfl) ?_
  refine sx_RP.callp (as2 := [.ref 0, .int (ys.getD ((i + 1)) 0), .int (ys.getD ((i + 2)) 0)]) (rest2 := []) rfl rfl (sx_inv_v2 (mi := 246) (k := 125) (st := [.int (ys.getD ((i + 2)) 0), .int (ys.getD ((i + 1)) 0), .ref 0]) (w := w) rfl rfl hI.1.o0 rfl rfl rfl) rfl rfl rfl (sx_RP.byk (N79 (d := 1) hI (ys.getD ((i + 1)) 0) (ys.getD ((i + 2)) 0))) (show _ = 1026 from rfl) ?_
  rintro r4 w1 ⟨⟨⟨v3, rfl⟩, hI2, hE4⟩, hbk6⟩
  have hL5 : LI w1 := hL.rc hI hE4 hbk6
  show sx_RP _ _ _ _ _ [.int v3] _ _
  refine sx_RP.step (pc2 := 1027) (ls2 := [(3, .int (nI i)), (2, .ref 111), (1, .ref 0), (0, .float 4)]) (st2 := []) (w3 := w1) rfl rfl ?_
  refine sx_RP.step (pc2 := 1028) (ls2 := [(3, .int (nI i)), (2, .ref 111), (1, .ref 0), (0, .float 4)]) (st2 := [.ref 111]) (w3 := w1) rfl rfl ?_
  refine sx_RP.step (pc2 := 1029) (ls2 := [(3, .int (nI i)), (2, .ref 111), (1, .ref 0), (0, .float 4)]) (st2 := [.float 4, .ref 111]) (w3 := w1) rfl rfl ?_
  refine sx_RP.step (pc2 := 1030) (ls2 := [(3, .int (nI i)), (2, .ref 111), (1, .ref 0), (0, .float 4)]) (st2 := [.int (nI i), .float 4, .ref 111]) (w3 := w1) rfl rfl ?_
  refine sx_RP.step (pc2 := 1031) (ls2 := [(3, .int (nI i)), (2, .ref 111), (1, .ref 0), (0, .float 4)]) (st2 := [.int 1, .int (nI i), .float 4, .ref 111]) (w3 := w1) rfl rfl ?_
  refine sx_RP.step (pc2 := 1032) (ls2 := [(3, .int (nI i)), (2, .ref 111), (1, .ref 0), (0, .float 4)]) (st2 := [.int ((nI i) + 1), .float 4, .ref 111]) (w3 := w1) rfl rfl ?_
  rw [show ((nI i) + 1 : Int32) = nI (i + 1) from nI_add i 1]
  refine sx_RP.scr (x := (i + 1)) rfl (by omega) hl (show _ = 1033 from rfl) ?_
  refine sx_RP.step (pc2 := 1034) (ls2 := [(3, .int (nI i)), (2, .ref 111), (1, .ref 0), (0, .float 4)]) (st2 := [.float 4, .int (ys.getD ((i + 1)) 0), .ref 111]) (w3 := w1) rfl rfl ?_
  refine sx_RP.step (pc2 := 1035) (ls2 := [(3, .int (nI i)), (2, .ref 111), (1, .ref 0), (0, .float 4)]) (st2 := [.int (nI i), .float 4, .int (ys.getD ((i + 1)) 0), .ref 111]) (w3 := w1) rfl rfl ?_
  refine sx_RP.step (pc2 := 1036) (ls2 := [(3, .int (nI i)), (2, .ref 111), (1, .ref 0), (0, .float 4)]) (st2 := [.int 2, .int (nI i), .float 4, .int (ys.getD ((i + 1)) 0), .ref 111]) (w3 := w1) rfl rfl ?_
  refine sx_RP.step (pc2 := 1037) (ls2 := [(3, .int (nI i)), (2, .ref 111), (1, .ref 0), (0, .float 4)]) (st2 := [.int ((nI i) + 2), .float 4, .int (ys.getD ((i + 1)) 0), .ref 111]) (w3 := w1) rfl rfl ?_
  rw [show ((nI i) + 2 : Int32) = nI (i + 2) from nI_add i 2]
  refine sx_RP.scr (x := (i + 2)) rfl (by omega) hl (show _ = 1038 from rfl) ?_
  refine sx_RP.callp (as2 := [.ref 111, .int (ys.getD ((i + 1)) 0), .int (ys.getD ((i + 2)) 0)]) (rest2 := []) rfl rfl (sx_inv_v2 (mi := 246) (k := 128) (st := [.int (ys.getD ((i + 2)) 0), .int (ys.getD ((i + 1)) 0), .ref 111]) (w := w1) rfl rfl hI2.1.o111 rfl rfl rfl) rfl rfl rfl (sx_RP.byk (K201 (d := 1) hI2 (ys.getD ((i + 1)) 0) (ys.getD ((i + 2)) 0))) (show _ = 1041 from rfl) ?_
  rintro r4 w7 ⟨⟨⟨v9, rfl⟩, hI8, hE10⟩, hbk12⟩
  have hL11 : LI w7 := hL5.rm hI2 hE10.el hbk12
  show sx_RP _ _ _ _ _ [.int v9] _ _
  refine sx_RP.step (pc2 := 1042) (ls2 := [(3, .int (nI i)), (2, .ref 111), (1, .ref 0), (0, .float 4)]) (st2 := []) (w3 := w7) rfl rfl ?_
  refine sx_RP.step (pc2 := 1539) (ls2 := [(3, .int (nI i)), (2, .ref 111), (1, .ref 0), (0, .float 4)]) (st2 := []) (w3 := w7) rfl rfl ?_
  exact kk w7 hI8 hL11
set_option maxRecDepth 20000 in
set_option maxHeartbeats 4000000 in
theorem lc27 {ys : List Int32} {i : Nat} {w : List sx_C} {P : Option Value → List sx_C → Prop} (hl : ys.length ≤ 3072) (hn : i + 6 ≤ ys.length) (hI : WI w) (hL : LI w) (kk : ∀ w2, WI w2 → LI w2 → sx_RP (some ys) 9 246 1539 [(3, .int (nI i)), (2, .ref 111), (1, .ref 0), (0, .float 4)] [] w2 P) : sx_RP (some ys) 9 246 1045 [(3, .int (nI i)), (2, .ref 111), (1, .ref 0), (0, .float 4)] [] w P := by
  refine sx_RP.step (pc2 := 1046) (ls2 := [(3, .int (nI i)), (2, .ref 111), (1, .ref 0), (0, .float 4)]) (st2 := [.ref 0]) (w3 := w) rfl rfl ?_
  refine sx_RP.step (pc2 := 1047) (ls2 := [(3, .int (nI i)), (2, .ref 111), (1, .ref 0), (0, .float 4)]) (st2 := [.float 4, .ref 0]) (w3 := w) rfl rfl ?_
  refine sx_RP.step (pc2 := 1048) (ls2 := [(3, .int (nI i)), (2, .ref 111), (1, .ref 0), (0, .float 4)]) (st2 := [.int (nI i), .float 4, .ref 0]) (w3 := w) rfl rfl ?_
  refine sx_RP.step (pc2 := 1049) (ls2 := [(3, .int (nI i)), (2, .ref 111), (1, .ref 0), (0, .float 4)]) (st2 := [.int 1, .int (nI i), .float 4, .ref 0]) (w3 := w) rfl rfl ?_
  refine sx_RP.step (pc2 := 1050) (ls2 := [(3, .int (nI i)), (2, .ref 111), (1, .ref 0), (0, .float 4)]) (st2 := [.int ((nI i) + 1), .float 4, .ref 0]) (w3 := w) rfl rfl ?_
  rw [show ((nI i) + 1 : Int32) = nI (i + 1) from nI_add i 1]
  refine sx_RP.scr (x := (i + 1)) rfl (by omega) hl (show _ = 1051 from rfl) ?_
  refine sx_RP.callp (as2 := [.ref 0, .int (ys.getD ((i + 1)) 0)]) (rest2 := []) rfl rfl (sx_inv_v2 (mi := 246) (k := 129) (st := [.int (ys.getD ((i + 1)) 0), .ref 0]) (w := w) rfl rfl hI.1.o0 rfl rfl rfl) rfl rfl rfl (sx_RP.byk (Q81 (d := 1) hI (ys.getD ((i + 1)) 0))) (show _ = 1054 from rfl) ?_
  rintro r4 w1 ⟨⟨⟨v3, rfl⟩, hI2, hE4⟩, hbk6⟩
  have hL5 : LI w1 := hL.rc hI hE4.en hbk6
  show sx_RP _ _ _ _ _ [.int v3] _ _
  refine sx_RP.step (pc2 := 1055) (ls2 := [(3, .int (nI i)), (2, .ref 111), (1, .ref 0), (0, .float 4)]) (st2 := []) (w3 := w1) rfl rfl ?_
  refine sx_RP.step (pc2 := 1056) (ls2 := [(3, .int (nI i)), (2, .ref 111), (1, .ref 0), (0, .float 4)]) (st2 := [.ref 111]) (w3 := w1) rfl rfl ?_
  refine sx_RP.step (pc2 := 1057) (ls2 := [(3, .int (nI i)), (2, .ref 111), (1, .ref 0), (0, .float 4)]) (st2 := [.float 4, .ref 111]) (w3 := w1) rfl rfl ?_
  refine sx_RP.step (pc2 := 1058) (ls2 := [(3, .int (nI i)), (2, .ref 111), (1, .ref 0), (0, .float 4)]) (st2 := [.int (nI i), .float 4, .ref 111]) (w3 := w1) rfl rfl ?_
  refine sx_RP.step (pc2 := 1059) (ls2 := [(3, .int (nI i)), (2, .ref 111), (1, .ref 0), (0, .float 4)]) (st2 := [.int 1, .int (nI i), .float 4, .ref 111]) (w3 := w1) rfl rfl ?_
  refine sx_RP.step (pc2 := 1060) (ls2 := [(3, .int (nI i)), (2, .ref 111), (1, .ref 0), (0, .float 4)]) (st2 := [.int ((nI i) + 1), .float 4, .ref 111]) (w3 := w1) rfl rfl ?_
  rw [show ((nI i) + 1 : Int32) = nI (i + 1) from nI_add i 1]
  refine sx_RP.scr (x := (i + 1)) rfl (by omega) hl (show _ = 1061 from rfl) ?_
  refine sx_RP.callp (as2 := [.ref 111, .int (ys.getD ((i + 1)) 0)]) (rest2 := []) rfl rfl (sx_inv_v2 (mi := 246) (k := 132) (st := [.int (ys.getD ((i + 1)) 0), .ref 111]) (w := w1) rfl rfl hI2.1.o111 rfl rfl rfl) rfl rfl rfl (sx_RP.byk (K202 (d := 1) hI2 (ys.getD ((i + 1)) 0))) (show _ = 1064 from rfl) ?_
  rintro r4 w7 ⟨⟨⟨v9, rfl⟩, hI8, hE10⟩, hbk12⟩
  have hL11 : LI w7 := hL5.rm hI2 hE10.el hbk12
  show sx_RP _ _ _ _ _ [.int v9] _ _
  refine sx_RP.step (pc2 := 1065) (ls2 := [(3, .int (nI i)), (2, .ref 111), (1, .ref 0), (0, .float 4)]) (st2 := []) (w3 := w7) rfl rfl ?_
  refine sx_RP.step (pc2 := 1539) (ls2 := [(3, .int (nI i)), (2, .ref 111), (1, .ref 0), (0, .float 4)]) (st2 := []) (w3 := w7) rfl rfl ?_
  exact kk w7 hI8 hL11
set_option maxRecDepth 20000 in
set_option maxHeartbeats 4000000 in
theorem lc28 {ys : List Int32} {i : Nat} {w : List sx_C} {P : Option Value → List sx_C → Prop} (hl : ys.length ≤ 3072) (hn : i + 6 ≤ ys.length) (hI : WI w) (hL : LI w) (kk : ∀ w2, WI w2 → LI w2 → sx_RP (some ys) 9 246 1539 [(3, .int (nI i)), (2, .ref 111), (1, .ref 0), (0, .float 4)] [] w2 P) : sx_RP (some ys) 9 246 1068 [(3, .int (nI i)), (2, .ref 111), (1, .ref 0), (0, .float 4)] [] w P := by
  refine sx_RP.step (pc2 := 1069) (ls2 := [(3, .int (nI i)), (2, .ref 111), (1, .ref 0), (0, .float 4)]) (st2 := [.ref 0]) (w3 := w) rfl rfl ?_
  refine sx_RP.step (pc2 := 1070) (ls2 := [(3, .int (nI i)), (2, .ref 111), (1, .ref 0), (0, .float 4)]) (st2 := [.float 4, .ref 0]) (w3 := w) rfl rfl ?_
  refine sx_RP.step (pc2 := 1071) (ls2 := [(3, .int (nI i)), (2, .ref 111), (1, .ref 0), (0, .float 4)]) (st2 := [.int (nI i), .float 4, .ref 0]) (w3 := w) rfl rfl ?_
  refine sx_RP.step (pc2 := 1072) (ls2 := [(3, .int (nI i)), (2, .ref 111), (1, .ref 0), (0, .float 4)]) (st2 := [.int 1, .int (nI i), .float 4, .ref 0]) (w3 := w) rfl rfl ?_
  refine sx_RP.step (pc2 := 1073) (ls2 := [(3, .int (nI i)), (2, .ref 111), (1, .ref 0), (0, .float 4)]) (st2 := [.int ((nI i) + 1), .float 4, .ref 0]) (w3 := w) rfl rfl ?_
  rw [show ((nI i) + 1 : Int32) = nI (i + 1) from nI_add i 1]
  refine sx_RP.scr (x := (i + 1)) rfl (by omega) hl (show _ = 1074 from rfl) ?_
  refine sx_RP.step (pc2 := 1075) (ls2 := [(3, .int (nI i)), (2, .ref 111), (1, .ref 0), (0, .float 4)]) (st2 := [.float 4, .int (ys.getD ((i + 1)) 0), .ref 0]) (w3 := w) rfl rfl ?_
  refine sx_RP.step (pc2 := 1076) (ls2 := [(3, .int (nI i)), (2, .ref 111), (1, .ref 0), (0, .float 4)]) (st2 := [.int (nI i), .float 4, .int (ys.getD ((i + 1)) 0), .ref 0]) (w3 := w) rfl rfl ?_
  refine sx_RP.step (pc2 := 1077) (ls2 := [(3, .int (nI i)), (2, .ref 111), (1, .ref 0), (0, .float 4)]) (st2 := [.int 2, .int (nI i), .float 4, .int (ys.getD ((i + 1)) 0), .ref 0]) (w3 := w) rfl rfl ?_
  refine sx_RP.step (pc2 := 1078) (ls2 := [(3, .int (nI i)), (2, .ref 111), (1, .ref 0), (0, .float 4)]) (st2 := [.int ((nI i) + 2), .float 4, .int (ys.getD ((i + 1)) 0), .ref 0]) (w3 := w) rfl rfl ?_
  rw [show ((nI i) + 2 : Int32) = nI (i + 2) from nI_add i 2]
  refine sx_RP.scr (x := (i + 2)) rfl (by omega) hl (show _ = 1079 from rfl) ?_
  refine sx_RP.callp (as2 := [.ref 0, .int (ys.getD ((i + 1)) 0), .int (ys.getD ((i + 2)) 0)]) (rest2 := []) rfl rfl (sx_inv_v2 (mi := 246) (k := 133) (st := [.int (ys.getD ((i + 2)) 0), .int (ys.getD ((i + 1)) 0), .ref 0]) (w := w) rfl rfl hI.1.o0 rfl rfl rfl) rfl rfl rfl (sx_RP.byk (B82 (d := 1) hI (ys.getD ((i + 1)) 0) (ys.getD ((i + 2)) 0))) (show _ = 1082 from rfl) ?_
  rintro r4 w1 ⟨⟨⟨rfl, hF4⟩, hI2, hE3⟩, hbk5⟩
  show sx_RP _ _ _ _ _ [.int (breA (FCb w) (ys.getD ((i + 1)) 0) (ys.getD ((i + 2)) 0))] _ _
  refine sx_RP.step (pc2 := 1083) (ls2 := [(3, .int (nI i)), (2, .ref 111), (1, .ref 0), (0, .float 4)]) (st2 := []) (w3 := w1) rfl rfl ?_
  refine sx_RP.step (pc2 := 1084) (ls2 := [(3, .int (nI i)), (2, .ref 111), (1, .ref 0), (0, .float 4)]) (st2 := [.ref 111]) (w3 := w1) rfl rfl ?_
  refine sx_RP.step (pc2 := 1085) (ls2 := [(3, .int (nI i)), (2, .ref 111), (1, .ref 0), (0, .float 4)]) (st2 := [.float 4, .ref 111]) (w3 := w1) rfl rfl ?_
  refine sx_RP.step (pc2 := 1086) (ls2 := [(3, .int (nI i)), (2, .ref 111), (1, .ref 0), (0, .float 4)]) (st2 := [.int (nI i), .float 4, .ref 111]) (w3 := w1) rfl rfl ?_
  refine sx_RP.step (pc2 := 1087) (ls2 := [(3, .int (nI i)), (2, .ref 111), (1, .ref 0), (0, .float 4)]) (st2 := [.int 1, .int (nI i), .float 4, .ref 111]) (w3 := w1) rfl rfl ?_
  refine sx_RP.step (pc2 := 1088) (ls2 := [(3, .int (nI i)), (2, .ref 111), (1, .ref 0), (0, .float 4)]) (st2 := [.int ((nI i) + 1), .float 4, .ref 111]) (w3 := w1) rfl rfl ?_
  rw [show ((nI i) + 1 : Int32) = nI (i + 1) from nI_add i 1]
  refine sx_RP.scr (x := (i + 1)) rfl (by omega) hl (show _ = 1089 from rfl) ?_
  refine sx_RP.step (pc2 := 1090) (ls2 := [(3, .int (nI i)), (2, .ref 111), (1, .ref 0), (0, .float 4)]) (st2 := [.float 4, .int (ys.getD ((i + 1)) 0), .ref 111]) (w3 := w1) rfl rfl ?_
  refine sx_RP.step (pc2 := 1091) (ls2 := [(3, .int (nI i)), (2, .ref 111), (1, .ref 0), (0, .float 4)]) (st2 := [.int (nI i), .float 4, .int (ys.getD ((i + 1)) 0), .ref 111]) (w3 := w1) rfl rfl ?_
  refine sx_RP.step (pc2 := 1092) (ls2 := [(3, .int (nI i)), (2, .ref 111), (1, .ref 0), (0, .float 4)]) (st2 := [.int 2, .int (nI i), .float 4, .int (ys.getD ((i + 1)) 0), .ref 111]) (w3 := w1) rfl rfl ?_
  refine sx_RP.step (pc2 := 1093) (ls2 := [(3, .int (nI i)), (2, .ref 111), (1, .ref 0), (0, .float 4)]) (st2 := [.int ((nI i) + 2), .float 4, .int (ys.getD ((i + 1)) 0), .ref 111]) (w3 := w1) rfl rfl ?_
  rw [show ((nI i) + 2 : Int32) = nI (i + 2) from nI_add i 2]
  refine sx_RP.scr (x := (i + 2)) rfl (by omega) hl (show _ = 1094 from rfl) ?_
  refine sx_RP.callp (as2 := [.ref 111, .int (ys.getD ((i + 1)) 0), .int (ys.getD ((i + 2)) 0)]) (rest2 := []) rfl rfl (sx_inv_v2 (mi := 246) (k := 136) (st := [.int (ys.getD ((i + 2)) 0), .int (ys.getD ((i + 1)) 0), .ref 111]) (w := w1) rfl rfl hI2.1.o111 rfl rfl rfl) rfl rfl rfl (sx_RP.byk (B203 (d := 1) hI2 (ys.getD ((i + 1)) 0) (ys.getD ((i + 2)) 0))) (show _ = 1097 from rfl) ?_
  rintro r4 w6 ⟨⟨⟨rfl, hF9⟩, hI7, hE8⟩, hbk11⟩
  have hL10 : LI w6 := LI.two (fun t => breU t (ys.getD ((i + 1)) 0) (ys.getD ((i + 2)) 0)) hL hE3 hF4 hI2 hE8 hF9 (hL.1.2.bre (ys.getD ((i + 1)) 0) (ys.getD ((i + 2)) 0)) hbk5 hbk11
  show sx_RP _ _ _ _ _ [.int (breA (FMb w1) (ys.getD ((i + 1)) 0) (ys.getD ((i + 2)) 0))] _ _
  refine sx_RP.step (pc2 := 1098) (ls2 := [(3, .int (nI i)), (2, .ref 111), (1, .ref 0), (0, .float 4)]) (st2 := []) (w3 := w6) rfl rfl ?_
  refine sx_RP.step (pc2 := 1539) (ls2 := [(3, .int (nI i)), (2, .ref 111), (1, .ref 0), (0, .float 4)]) (st2 := []) (w3 := w6) rfl rfl ?_
  exact kk w6 hI7 hL10
set_option maxRecDepth 20000 in
set_option maxHeartbeats 4000000 in
theorem lc29 {ys : List Int32} {i : Nat} {w : List sx_C} {P : Option Value → List sx_C → Prop} (hl : ys.length ≤ 3072) (hn : i + 6 ≤ ys.length) (hI : WI w) (hL : LI w) (kk : ∀ w2, WI w2 → LI w2 → sx_RP (some ys) 9 246 1539 [(3, .int (nI i)), (2, .ref 111), (1, .ref 0), (0, .float 4)] [] w2 P) : sx_RP (some ys) 9 246 1101 [(3, .int (nI i)), (2, .ref 111), (1, .ref 0), (0, .float 4)] [] w P := by
  refine sx_RP.step (pc2 := 1102) (ls2 := [(3, .int (nI i)), (2, .ref 111), (1, .ref 0), (0, .float 4)]) (st2 := [.ref 0]) (w3 := w) rfl rfl ?_
  refine sx_RP.callp (as2 := [.ref 0]) (rest2 := []) rfl rfl (sx_inv_v2 (mi := 246) (k := 137) (st := [.ref 0]) (w := w) rfl rfl hI.1.o0 rfl rfl rfl) rfl rfl rfl (sx_RP.byk (C83 (d := 1) hI hL.1.2.1)) (show _ = 1105 from rfl) ?_
  rintro r4 w1 ⟨⟨rfl, hI2, hE3⟩, hbk5⟩
  have hL4 : LI w1 := hL.rc hI hE3.en hbk5
  show sx_RP _ _ _ _ _ [.int (lasA (FCb w))] _ _
  refine sx_RP.step (pc2 := 1106) (ls2 := [(3, .int (nI i)), (2, .ref 111), (1, .ref 0), (0, .float 4)]) (st2 := []) (w3 := w1) rfl rfl ?_
  refine sx_RP.step (pc2 := 1107) (ls2 := [(3, .int (nI i)), (2, .ref 111), (1, .ref 0), (0, .float 4)]) (st2 := [.ref 111]) (w3 := w1) rfl rfl ?_
  refine sx_RP.callp (as2 := [.ref 111]) (rest2 := []) rfl rfl (sx_inv_v2 (mi := 246) (k := 140) (st := [.ref 111]) (w := w1) rfl rfl hI2.1.o111 rfl rfl rfl) rfl rfl rfl (sx_RP.byk (C205 (d := 1) hI2 (hL.br hE3.hi))) (show _ = 1110 from rfl) ?_
  rintro r4 w6 ⟨⟨rfl, hI7, hE8⟩, hbk10⟩
  have hL9 : LI w6 := hL4.rm hI2 hE8 hbk10
  show sx_RP _ _ _ _ _ [.int (lasA (FMb w1))] _ _
  refine sx_RP.step (pc2 := 1111) (ls2 := [(3, .int (nI i)), (2, .ref 111), (1, .ref 0), (0, .float 4)]) (st2 := []) (w3 := w6) rfl rfl ?_
  refine sx_RP.step (pc2 := 1539) (ls2 := [(3, .int (nI i)), (2, .ref 111), (1, .ref 0), (0, .float 4)]) (st2 := []) (w3 := w6) rfl rfl ?_
  exact kk w6 hI7 hL9
end
-- 91c.cases.lean.txt
section
set_option maxRecDepth 20000 in
set_option maxHeartbeats 4000000 in
theorem lc30 {ys : List Int32} {i : Nat} {w : List sx_C} {P : Option Value → List sx_C → Prop} (hl : ys.length ≤ 3072) (hn : i + 6 ≤ ys.length) (hI : WI w) (hL : LI w) (kk : ∀ w2, WI w2 → LI w2 → sx_RP (some ys) 9 246 1539 [(3, .int (nI i)), (2, .ref 111), (1, .ref 0), (0, .float 4)] [] w2 P) : sx_RP (some ys) 9 246 1114 [(3, .int (nI i)), (2, .ref 111), (1, .ref 0), (0, .float 4)] [] w P := by
  refine sx_RP.step (pc2 := 1115) (ls2 := [(3, .int (nI i)), (2, .ref 111), (1, .ref 0), (0, .float 4)]) (st2 := [.ref 0]) (w3 := w) rfl rfl ?_
  refine sx_RP.step (pc2 := 1116) (ls2 := [(3, .int (nI i)), (2, .ref 111), (1, .ref 0), (0, .float 4)]) (st2 := [.float 4, .ref 0]) (w3 := w) rfl rfl ?_
  refine sx_RP.step (pc2 := 1117) (ls2 := [(3, .int (nI i)), (2, .ref 111), (1, .ref 0), (0, .float 4)]) (st2 := [.int (nI i), .float 4, .ref 0]) (w3 := w) rfl rfl ?_
  refine sx_RP.step (pc2 := 1118) (ls2 := [(3, .int (nI i)), (2, .ref 111), (1, .ref 0), (0, .float 4)]) (st2 := [.int 1, .int (nI i), .float 4, .ref 0]) (w3 := w) rfl rfl ?_
  refine sx_RP.step (pc2 := 1119) (ls2 := [(3, .int (nI i)), (2, .ref 111), (1, .ref 0), (0, .float 4)]) (st2 := [.int ((nI i) + 1), .float 4, .ref 0]) (w3 := w) rfl rfl ?_
  rw [show ((nI i) + 1 : Int32) = nI (i + 1) from nI_add i 1]
  refine sx_RP.scr (x := (i + 1)) rfl (by omega) hl (show _ = 1120 from rfl) ?_
  refine sx_RP.callp (as2 := [.ref 0, .int (ys.getD ((i + 1)) 0)]) (rest2 := []) rfl rfl (sx_inv_v2 (mi := 246) (k := 141) (st := [.int (ys.getD ((i + 1)) 0), .ref 0]) (w := w) rfl rfl hI.1.o0 rfl rfl rfl) rfl rfl rfl (sx_RP.byk (C86 (d := 1) hI hL.1.2.1 (ys.getD ((i + 1)) 0))) (show _ = 1123 from rfl) ?_
  rintro r4 w1 ⟨⟨rfl, hI2, hE3⟩, hbk5⟩
  have hL4 : LI w1 := hL.rc hI hE3.en hbk5
  show sx_RP _ _ _ _ _ [.int (ratA (FCb w) (ys.getD ((i + 1)) 0))] _ _
  refine sx_RP.step (pc2 := 1124) (ls2 := [(3, .int (nI i)), (2, .ref 111), (1, .ref 0), (0, .float 4)]) (st2 := []) (w3 := w1) rfl rfl ?_
  refine sx_RP.step (pc2 := 1125) (ls2 := [(3, .int (nI i)), (2, .ref 111), (1, .ref 0), (0, .float 4)]) (st2 := [.ref 111]) (w3 := w1) rfl rfl ?_
  refine sx_RP.step (pc2 := 1126) (ls2 := [(3, .int (nI i)), (2, .ref 111), (1, .ref 0), (0, .float 4)]) (st2 := [.float 4, .ref 111]) (w3 := w1) rfl rfl ?_
  refine sx_RP.step (pc2 := 1127) (ls2 := [(3, .int (nI i)), (2, .ref 111), (1, .ref 0), (0, .float 4)]) (st2 := [.int (nI i), .float 4, .ref 111]) (w3 := w1) rfl rfl ?_
  refine sx_RP.step (pc2 := 1128) (ls2 := [(3, .int (nI i)), (2, .ref 111), (1, .ref 0), (0, .float 4)]) (st2 := [.int 1, .int (nI i), .float 4, .ref 111]) (w3 := w1) rfl rfl ?_
  refine sx_RP.step (pc2 := 1129) (ls2 := [(3, .int (nI i)), (2, .ref 111), (1, .ref 0), (0, .float 4)]) (st2 := [.int ((nI i) + 1), .float 4, .ref 111]) (w3 := w1) rfl rfl ?_
  rw [show ((nI i) + 1 : Int32) = nI (i + 1) from nI_add i 1]
  refine sx_RP.scr (x := (i + 1)) rfl (by omega) hl (show _ = 1130 from rfl) ?_
  refine sx_RP.callp (as2 := [.ref 111, .int (ys.getD ((i + 1)) 0)]) (rest2 := []) rfl rfl (sx_inv_v2 (mi := 246) (k := 144) (st := [.int (ys.getD ((i + 1)) 0), .ref 111]) (w := w1) rfl rfl hI2.1.o111 rfl rfl rfl) rfl rfl rfl (sx_RP.byk (C207 (d := 1) hI2 (hL.br hE3.hi) (ys.getD ((i + 1)) 0))) (show _ = 1133 from rfl) ?_
  rintro r4 w6 ⟨⟨rfl, hI7, hE8⟩, hbk10⟩
  have hL9 : LI w6 := hL4.rm hI2 hE8 hbk10
  show sx_RP _ _ _ _ _ [.int (ratA (FMb w1) (ys.getD ((i + 1)) 0))] _ _
  refine sx_RP.step (pc2 := 1134) (ls2 := [(3, .int (nI i)), (2, .ref 111), (1, .ref 0), (0, .float 4)]) (st2 := []) (w3 := w6) rfl rfl ?_
  refine sx_RP.step (pc2 := 1539) (ls2 := [(3, .int (nI i)), (2, .ref 111), (1, .ref 0), (0, .float 4)]) (st2 := []) (w3 := w6) rfl rfl ?_
  exact kk w6 hI7 hL9
set_option maxRecDepth 20000 in
set_option maxHeartbeats 4000000 in
theorem lc31 {ys : List Int32} {i : Nat} {w : List sx_C} {P : Option Value → List sx_C → Prop} (hl : ys.length ≤ 3072) (hn : i + 6 ≤ ys.length) (hI : WI w) (hL : LI w) (kk : ∀ w2, WI w2 → LI w2 → sx_RP (some ys) 9 246 1539 [(3, .int (nI i)), (2, .ref 111), (1, .ref 0), (0, .float 4)] [] w2 P) : sx_RP (some ys) 9 246 1137 [(3, .int (nI i)), (2, .ref 111), (1, .ref 0), (0, .float 4)] [] w P := by
  refine sx_RP.step (pc2 := 1138) (ls2 := [(3, .int (nI i)), (2, .ref 111), (1, .ref 0), (0, .float 4)]) (st2 := [.ref 0]) (w3 := w) rfl rfl ?_
  refine sx_RP.step (pc2 := 1139) (ls2 := [(3, .int (nI i)), (2, .ref 111), (1, .ref 0), (0, .float 4)]) (st2 := [.float 4, .ref 0]) (w3 := w) rfl rfl ?_
  refine sx_RP.step (pc2 := 1140) (ls2 := [(3, .int (nI i)), (2, .ref 111), (1, .ref 0), (0, .float 4)]) (st2 := [.int (nI i), .float 4, .ref 0]) (w3 := w) rfl rfl ?_
  refine sx_RP.step (pc2 := 1141) (ls2 := [(3, .int (nI i)), (2, .ref 111), (1, .ref 0), (0, .float 4)]) (st2 := [.int 1, .int (nI i), .float 4, .ref 0]) (w3 := w) rfl rfl ?_
  refine sx_RP.step (pc2 := 1142) (ls2 := [(3, .int (nI i)), (2, .ref 111), (1, .ref 0), (0, .float 4)]) (st2 := [.int ((nI i) + 1), .float 4, .ref 0]) (w3 := w) rfl rfl ?_
  rw [show ((nI i) + 1 : Int32) = nI (i + 1) from nI_add i 1]
  refine sx_RP.scr (x := (i + 1)) rfl (by omega) hl (show _ = 1143 from rfl) ?_
  refine sx_RP.step (pc2 := 1144) (ls2 := [(3, .int (nI i)), (2, .ref 111), (1, .ref 0), (0, .float 4)]) (st2 := [.float 4, .int (ys.getD ((i + 1)) 0), .ref 0]) (w3 := w) rfl rfl ?_
  refine sx_RP.step (pc2 := 1145) (ls2 := [(3, .int (nI i)), (2, .ref 111), (1, .ref 0), (0, .float 4)]) (st2 := [.int (nI i), .float 4, .int (ys.getD ((i + 1)) 0), .ref 0]) (w3 := w) rfl rfl ?_
  refine sx_RP.step (pc2 := 1146) (ls2 := [(3, .int (nI i)), (2, .ref 111), (1, .ref 0), (0, .float 4)]) (st2 := [.int 2, .int (nI i), .float 4, .int (ys.getD ((i + 1)) 0), .ref 0]) (w3 := w) rfl rfl ?_
  refine sx_RP.step (pc2 := 1147) (ls2 := [(3, .int (nI i)), (2, .ref 111), (1, .ref 0), (0, .float 4)]) (st2 := [.int ((nI i) + 2), .float 4, .int (ys.getD ((i + 1)) 0), .ref 0]) (w3 := w) rfl rfl ?_
  rw [show ((nI i) + 2 : Int32) = nI (i + 2) from nI_add i 2]
  refine sx_RP.scr (x := (i + 2)) rfl (by omega) hl (show _ = 1148 from rfl) ?_
  refine sx_RP.callp (as2 := [.ref 0, .int (ys.getD ((i + 1)) 0), .int (ys.getD ((i + 2)) 0)]) (rest2 := []) rfl rfl (sx_inv_v2 (mi := 246) (k := 145) (st := [.int (ys.getD ((i + 2)) 0), .int (ys.getD ((i + 1)) 0), .ref 0]) (w := w) rfl rfl hI.1.o0 rfl rfl rfl) rfl rfl rfl (sx_RP.byk (B87 (d := 1) hI (ys.getD ((i + 1)) 0) (ys.getD ((i + 2)) 0))) (show _ = 1151 from rfl) ?_
  rintro r4 w1 ⟨⟨⟨rfl, hF4⟩, hI2, hE3⟩, hbk5⟩
  show sx_RP _ _ _ _ _ [.int (feeA (FCb w) (ys.getD ((i + 2)) 0))] _ _
  refine sx_RP.step (pc2 := 1152) (ls2 := [(3, .int (nI i)), (2, .ref 111), (1, .ref 0), (0, .float 4)]) (st2 := []) (w3 := w1) rfl rfl ?_
  refine sx_RP.step (pc2 := 1153) (ls2 := [(3, .int (nI i)), (2, .ref 111), (1, .ref 0), (0, .float 4)]) (st2 := [.ref 111]) (w3 := w1) rfl rfl ?_
  refine sx_RP.step (pc2 := 1154) (ls2 := [(3, .int (nI i)), (2, .ref 111), (1, .ref 0), (0, .float 4)]) (st2 := [.float 4, .ref 111]) (w3 := w1) rfl rfl ?_
  refine sx_RP.step (pc2 := 1155) (ls2 := [(3, .int (nI i)), (2, .ref 111), (1, .ref 0), (0, .float 4)]) (st2 := [.int (nI i), .float 4, .ref 111]) (w3 := w1) rfl rfl ?_
  refine sx_RP.step (pc2 := 1156) (ls2 := [(3, .int (nI i)), (2, .ref 111), (1, .ref 0), (0, .float 4)]) (st2 := [.int 1, .int (nI i), .float 4, .ref 111]) (w3 := w1) rfl rfl ?_
  refine sx_RP.step (pc2 := 1157) (ls2 := [(3, .int (nI i)), (2, .ref 111), (1, .ref 0), (0, .float 4)]) (st2 := [.int ((nI i) + 1), .float 4, .ref 111]) (w3 := w1) rfl rfl ?_
  rw [show ((nI i) + 1 : Int32) = nI (i + 1) from nI_add i 1]
  refine sx_RP.scr (x := (i + 1)) rfl (by omega) hl (show _ = 1158 from rfl) ?_
  refine sx_RP.step (pc2 := 1159) (ls2 := [(3, .int (nI i)), (2, .ref 111), (1, .ref 0), (0, .float 4)]) (st2 := [.float 4, .int (ys.getD ((i + 1)) 0), .ref 111]) (w3 := w1) rfl rfl ?_
  refine sx_RP.step (pc2 := 1160) (ls2 := [(3, .int (nI i)), (2, .ref 111), (1, .ref 0), (0, .float 4)]) (st2 := [.int (nI i), .float 4, .int (ys.getD ((i + 1)) 0), .ref 111]) (w3 := w1) rfl rfl ?_
  refine sx_RP.step (pc2 := 1161) (ls2 := [(3, .int (nI i)), (2, .ref 111), (1, .ref 0), (0, .float 4)]) (st2 := [.int 2, .int (nI i), .float 4, .int (ys.getD ((i + 1)) 0), .ref 111]) (w3 := w1) rfl rfl ?_
  refine sx_RP.step (pc2 := 1162) (ls2 := [(3, .int (nI i)), (2, .ref 111), (1, .ref 0), (0, .float 4)]) (st2 := [.int ((nI i) + 2), .float 4, .int (ys.getD ((i + 1)) 0), .ref 111]) (w3 := w1) rfl rfl ?_
  rw [show ((nI i) + 2 : Int32) = nI (i + 2) from nI_add i 2]
  refine sx_RP.scr (x := (i + 2)) rfl (by omega) hl (show _ = 1163 from rfl) ?_
  refine sx_RP.callp (as2 := [.ref 111, .int (ys.getD ((i + 1)) 0), .int (ys.getD ((i + 2)) 0)]) (rest2 := []) rfl rfl (sx_inv_v2 (mi := 246) (k := 148) (st := [.int (ys.getD ((i + 2)) 0), .int (ys.getD ((i + 1)) 0), .ref 111]) (w := w1) rfl rfl hI2.1.o111 rfl rfl rfl) rfl rfl rfl (sx_RP.byk (B208 (d := 1) hI2 (ys.getD ((i + 1)) 0) (ys.getD ((i + 2)) 0))) (show _ = 1166 from rfl) ?_
  rintro r4 w6 ⟨⟨⟨rfl, hF9⟩, hI7, hE8⟩, hbk11⟩
  have hL10 : LI w6 := LI.two (fun t => feeU t (ys.getD ((i + 1)) 0) (ys.getD ((i + 2)) 0)) hL hE3 hF4 hI2 hE8 hF9 (hL.1.2.fee (ys.getD ((i + 1)) 0) (ys.getD ((i + 2)) 0)) hbk5 hbk11
  show sx_RP _ _ _ _ _ [.int (feeA (FMb w1) (ys.getD ((i + 2)) 0))] _ _
  refine sx_RP.step (pc2 := 1167) (ls2 := [(3, .int (nI i)), (2, .ref 111), (1, .ref 0), (0, .float 4)]) (st2 := []) (w3 := w6) rfl rfl ?_
  refine sx_RP.step (pc2 := 1539) (ls2 := [(3, .int (nI i)), (2, .ref 111), (1, .ref 0), (0, .float 4)]) (st2 := []) (w3 := w6) rfl rfl ?_
  exact kk w6 hI7 hL10
set_option maxRecDepth 20000 in
set_option maxHeartbeats 4000000 in
theorem lc32 {ys : List Int32} {i : Nat} {w : List sx_C} {P : Option Value → List sx_C → Prop} (hl : ys.length ≤ 3072) (hn : i + 6 ≤ ys.length) (hI : WI w) (hL : LI w) (kk : ∀ w2, WI w2 → LI w2 → sx_RP (some ys) 9 246 1539 [(3, .int (nI i)), (2, .ref 111), (1, .ref 0), (0, .float 4)] [] w2 P) : sx_RP (some ys) 9 246 1170 [(3, .int (nI i)), (2, .ref 111), (1, .ref 0), (0, .float 4)] [] w P := by
  refine sx_RP.step (pc2 := 1171) (ls2 := [(3, .int (nI i)), (2, .ref 111), (1, .ref 0), (0, .float 4)]) (st2 := [.ref 0]) (w3 := w) rfl rfl ?_
  refine sx_RP.callp (as2 := [.ref 0]) (rest2 := []) rfl rfl (sx_inv_v2 (mi := 246) (k := 149) (st := [.ref 0]) (w := w) rfl rfl hI.1.o0 rfl rfl rfl) rfl rfl rfl (sx_RP.byk (B90 (d := 1) hI)) (show _ = 1174 from rfl) ?_
  rintro r4 w1 ⟨⟨⟨rfl, hF4⟩, hI2, hE3⟩, hbk5⟩
  show sx_RP _ _ _ _ _ [.int (nI (FCb w).2.2.2.length)] _ _
  refine sx_RP.step (pc2 := 1175) (ls2 := [(3, .int (nI i)), (2, .ref 111), (1, .ref 0), (0, .float 4)]) (st2 := []) (w3 := w1) rfl rfl ?_
  refine sx_RP.step (pc2 := 1176) (ls2 := [(3, .int (nI i)), (2, .ref 111), (1, .ref 0), (0, .float 4)]) (st2 := [.ref 111]) (w3 := w1) rfl rfl ?_
  refine sx_RP.callp (as2 := [.ref 111]) (rest2 := []) rfl rfl (sx_inv_v2 (mi := 246) (k := 152) (st := [.ref 111]) (w := w1) rfl rfl hI2.1.o111 rfl rfl rfl) rfl rfl rfl (sx_RP.byk (B209 (d := 1) hI2)) (show _ = 1179 from rfl) ?_
  rintro r4 w6 ⟨⟨⟨rfl, hF9⟩, hI7, hE8⟩, hbk11⟩
  have hL10 : LI w6 := LI.two (fun t => wipU t) hL hE3 hF4 hI2 hE8 hF9 (hL.1.2.wip) hbk5 hbk11
  show sx_RP _ _ _ _ _ [.int (nI (FMb w1).2.2.2.length)] _ _
  refine sx_RP.step (pc2 := 1180) (ls2 := [(3, .int (nI i)), (2, .ref 111), (1, .ref 0), (0, .float 4)]) (st2 := []) (w3 := w6) rfl rfl ?_
  refine sx_RP.step (pc2 := 1539) (ls2 := [(3, .int (nI i)), (2, .ref 111), (1, .ref 0), (0, .float 4)]) (st2 := []) (w3 := w6) rfl rfl ?_
  exact kk w6 hI7 hL10
set_option maxRecDepth 20000 in
set_option maxHeartbeats 4000000 in
theorem lc33 {ys : List Int32} {i : Nat} {w : List sx_C} {P : Option Value → List sx_C → Prop} (hl : ys.length ≤ 3072) (hn : i + 6 ≤ ys.length) (hI : WI w) (hL : LI w) (kk : ∀ w2, WI w2 → LI w2 → sx_RP (some ys) 9 246 1539 [(3, .int (nI i)), (2, .ref 111), (1, .ref 0), (0, .float 4)] [] w2 P) : sx_RP (some ys) 9 246 1183 [(3, .int (nI i)), (2, .ref 111), (1, .ref 0), (0, .float 4)] [] w P := by
  refine sx_RP.step (pc2 := 1184) (ls2 := [(3, .int (nI i)), (2, .ref 111), (1, .ref 0), (0, .float 4)]) (st2 := [.ref 0]) (w3 := w) rfl rfl ?_
  refine sx_RP.callp (as2 := [.ref 0]) (rest2 := []) rfl rfl (sx_inv_v2 (mi := 246) (k := 153) (st := [.ref 0]) (w := w) rfl rfl hI.1.o0 rfl rfl rfl) rfl rfl rfl (sx_RP.byk (B92 (d := 1) hI (TBy_of hI hL.2))) (show _ = 1187 from rfl) ?_
  rintro r4 w1 ⟨⟨⟨rfl, hF4⟩, hI2, hE3⟩, hbk5⟩
  show sx_RP _ _ _ _ _ [.int ((sieT (FCb w)).1)] _ _
  refine sx_RP.step (pc2 := 1188) (ls2 := [(3, .int (nI i)), (2, .ref 111), (1, .ref 0), (0, .float 4)]) (st2 := []) (w3 := w1) rfl rfl ?_
  refine sx_RP.step (pc2 := 1189) (ls2 := [(3, .int (nI i)), (2, .ref 111), (1, .ref 0), (0, .float 4)]) (st2 := [.ref 111]) (w3 := w1) rfl rfl ?_
  refine sx_RP.callp (as2 := [.ref 111]) (rest2 := []) rfl rfl (sx_inv_v2 (mi := 246) (k := 156) (st := [.ref 111]) (w := w1) rfl rfl hI2.1.o111 rfl rfl rfl) rfl rfl rfl (sx_RP.byk (B210 (d := 0) hI2 (hL.tb hI hE3))) (show _ = 1192 from rfl) ?_
  rintro r4 w6 ⟨⟨⟨rfl, hF9⟩, hI7, hE8⟩, hbk11⟩
  have hL10 : LI w6 := LI.two (fun t => sieU t) hL hE3 hF4 hI2 hE8 hF9 (hL.1.2.sie) hbk5 hbk11
  show sx_RP _ _ _ _ _ [.int ((sieT (FMb w1)).1)] _ _
  refine sx_RP.step (pc2 := 1193) (ls2 := [(3, .int (nI i)), (2, .ref 111), (1, .ref 0), (0, .float 4)]) (st2 := []) (w3 := w6) rfl rfl ?_
  refine sx_RP.step (pc2 := 1539) (ls2 := [(3, .int (nI i)), (2, .ref 111), (1, .ref 0), (0, .float 4)]) (st2 := []) (w3 := w6) rfl rfl ?_
  exact kk w6 hI7 hL10
set_option maxRecDepth 20000 in
set_option maxHeartbeats 4000000 in
theorem lc34 {ys : List Int32} {i : Nat} {w : List sx_C} {P : Option Value → List sx_C → Prop} (hl : ys.length ≤ 3072) (hn : i + 6 ≤ ys.length) (hI : WI w) (hL : LI w) (kk : ∀ w2, WI w2 → LI w2 → sx_RP (some ys) 9 246 1539 [(3, .int (nI i)), (2, .ref 111), (1, .ref 0), (0, .float 4)] [] w2 P) : sx_RP (some ys) 9 246 1196 [(3, .int (nI i)), (2, .ref 111), (1, .ref 0), (0, .float 4)] [] w P := by
  refine sx_RP.step (pc2 := 1197) (ls2 := [(3, .int (nI i)), (2, .ref 111), (1, .ref 0), (0, .float 4)]) (st2 := [.ref 0]) (w3 := w) rfl rfl ?_
  refine sx_RP.step (pc2 := 1198) (ls2 := [(3, .int (nI i)), (2, .ref 111), (1, .ref 0), (0, .float 4)]) (st2 := [.float 4, .ref 0]) (w3 := w) rfl rfl ?_
  refine sx_RP.step (pc2 := 1199) (ls2 := [(3, .int (nI i)), (2, .ref 111), (1, .ref 0), (0, .float 4)]) (st2 := [.int (nI i), .float 4, .ref 0]) (w3 := w) rfl rfl ?_
  refine sx_RP.step (pc2 := 1200) (ls2 := [(3, .int (nI i)), (2, .ref 111), (1, .ref 0), (0, .float 4)]) (st2 := [.int 1, .int (nI i), .float 4, .ref 0]) (w3 := w) rfl rfl ?_
  refine sx_RP.step (pc2 := 1201) (ls2 := [(3, .int (nI i)), (2, .ref 111), (1, .ref 0), (0, .float 4)]) (st2 := [.int ((nI i) + 1), .float 4, .ref 0]) (w3 := w) rfl rfl ?_
  rw [show ((nI i) + 1 : Int32) = nI (i + 1) from nI_add i 1]
  refine sx_RP.scr (x := (i + 1)) rfl (by omega) hl (show _ = 1202 from rfl) ?_
  refine sx_RP.step (pc2 := 1203) (ls2 := [(3, .int (nI i)), (2, .ref 111), (1, .ref 0), (0, .float 4)]) (st2 := [.float 4, .int (ys.getD ((i + 1)) 0), .ref 0]) (w3 := w) rfl rfl ?_
  refine sx_RP.step (pc2 := 1204) (ls2 := [(3, .int (nI i)), (2, .ref 111), (1, .ref 0), (0, .float 4)]) (st2 := [.int (nI i), .float 4, .int (ys.getD ((i + 1)) 0), .ref 0]) (w3 := w) rfl rfl ?_
  refine sx_RP.step (pc2 := 1205) (ls2 := [(3, .int (nI i)), (2, .ref 111), (1, .ref 0), (0, .float 4)]) (st2 := [.int 2, .int (nI i), .float 4, .int (ys.getD ((i + 1)) 0), .ref 0]) (w3 := w) rfl rfl ?_
  refine sx_RP.step (pc2 := 1206) (ls2 := [(3, .int (nI i)), (2, .ref 111), (1, .ref 0), (0, .float 4)]) (st2 := [.int ((nI i) + 2), .float 4, .int (ys.getD ((i + 1)) 0), .ref 0]) (w3 := w) rfl rfl ?_
  rw [show ((nI i) + 2 : Int32) = nI (i + 2) from nI_add i 2]
  refine sx_RP.scr (x := (i + 2)) rfl (by omega) hl (show _ = 1207 from rfl) ?_
  refine sx_RP.step (pc2 := 1208) (ls2 := [(3, .int (nI i)), (2, .ref 111), (1, .ref 0), (0, .float 4)]) (st2 := [.float 4, .int (ys.getD ((i + 2)) 0), .int (ys.getD ((i + 1)) 0), .ref 0]) (w3 := w) rfl rfl ?_
  refine sx_RP.step (pc2 := 1209) (ls2 := [(3, .int (nI i)), (2, .ref 111), (1, .ref 0), (0, .float 4)]) (st2 := [.int (nI i), .float 4, .int (ys.getD ((i + 2)) 0), .int (ys.getD ((i + 1)) 0), .ref 0]) (w3 := w) rfl rfl ?_
  refine sx_RP.step (pc2 := 1210) (ls2 := [(3, .int (nI i)), (2, .ref 111), (1, .ref 0), (0, .float 4)]) (st2 := [.int 3, .int (nI i), .float 4, .int (ys.getD ((i + 2)) 0), .int (ys.getD ((i + 1)) 0), .ref 0]) (w3 := w) rfl rfl ?_
  refine sx_RP.step (pc2 := 1211) (ls2 := [(3, .int (nI i)), (2, .ref 111), (1, .ref 0), (0, .float 4)]) (st2 := [.int ((nI i) + 3), .float 4, .int (ys.getD ((i + 2)) 0), .int (ys.getD ((i + 1)) 0), .ref 0]) (w3 := w) rfl rfl ?_
  rw [show ((nI i) + 3 : Int32) = nI (i + 3) from nI_add i 3]
  refine sx_RP.scr (x := (i + 3)) rfl (by omega) hl (show _ = 1212 from rfl) ?_
  refine sx_RP.callp (as2 := [.ref 0, .int (ys.getD ((i + 1)) 0), .int (ys.getD ((i + 2)) 0), .int (ys.getD ((i + 3)) 0)]) (rest2 := []) rfl rfl (sx_inv_v2 (mi := 246) (k := 157) (st := [.int (ys.getD ((i + 3)) 0), .int (ys.getD ((i + 2)) 0), .int (ys.getD ((i + 1)) 0), .ref 0]) (w := w) rfl rfl hI.1.o0 rfl rfl rfl) rfl rfl rfl (sx_RP.byk (t111 (d := 1) hI (ys.getD ((i + 1)) 0) (ys.getD ((i + 2)) 0) (ys.getD ((i + 3)) 0))) (show _ = 1215 from rfl) ?_
  rintro r4 w1 ⟨⟨⟨v3, rfl⟩, hI2, hE4⟩, hbk6⟩
  have hL5 : LI w1 := hL.rc hI hE4 hbk6
  show sx_RP _ _ _ _ _ [.int v3] _ _
  refine sx_RP.step (pc2 := 1216) (ls2 := [(3, .int (nI i)), (2, .ref 111), (1, .ref 0), (0, .float 4)]) (st2 := []) (w3 := w1) rfl rfl ?_
  refine sx_RP.step (pc2 := 1217) (ls2 := [(3, .int (nI i)), (2, .ref 111), (1, .ref 0), (0, .float 4)]) (st2 := [.ref 111]) (w3 := w1) rfl rfl ?_
  refine sx_RP.step (pc2 := 1218) (ls2 := [(3, .int (nI i)), (2, .ref 111), (1, .ref 0), (0, .float 4)]) (st2 := [.float 4, .ref 111]) (w3 := w1) rfl rfl ?_
  refine sx_RP.step (pc2 := 1219) (ls2 := [(3, .int (nI i)), (2, .ref 111), (1, .ref 0), (0, .float 4)]) (st2 := [.int (nI i), .float 4, .ref 111]) (w3 := w1) rfl rfl ?_
  refine sx_RP.step (pc2 := 1220) (ls2 := [(3, .int (nI i)), (2, .ref 111), (1, .ref 0), (0, .float 4)]) (st2 := [.int 1, .int (nI i), .float 4, .ref 111]) (w3 := w1) rfl rfl ?_
  refine sx_RP.step (pc2 := 1221) (ls2 := [(3, .int (nI i)), (2, .ref 111), (1, .ref 0), (0, .float 4)]) (st2 := [.int ((nI i) + 1), .float 4, .ref 111]) (w3 := w1) rfl rfl ?_
  rw [show ((nI i) + 1 : Int32) = nI (i + 1) from nI_add i 1]
  refine sx_RP.scr (x := (i + 1)) rfl (by omega) hl (show _ = 1222 from rfl) ?_
  refine sx_RP.step (pc2 := 1223) (ls2 := [(3, .int (nI i)), (2, .ref 111), (1, .ref 0), (0, .float 4)]) (st2 := [.float 4, .int (ys.getD ((i + 1)) 0), .ref 111]) (w3 := w1) rfl rfl ?_
  refine sx_RP.step (pc2 := 1224) (ls2 := [(3, .int (nI i)), (2, .ref 111), (1, .ref 0), (0, .float 4)]) (st2 := [.int (nI i), .float 4, .int (ys.getD ((i + 1)) 0), .ref 111]) (w3 := w1) rfl rfl ?_
  refine sx_RP.step (pc2 := 1225) (ls2 := [(3, .int (nI i)), (2, .ref 111), (1, .ref 0), (0, .float 4)]) (st2 := [.int 2, .int (nI i), .float 4, .int (ys.getD ((i + 1)) 0), .ref 111]) (w3 := w1) rfl rfl ?_
  refine sx_RP.step (pc2 := 1226) (ls2 := [(3, .int (nI i)), (2, .ref 111), (1, .ref 0), (0, .float 4)]) (st2 := [.int ((nI i) + 2), .float 4, .int (ys.getD ((i + 1)) 0), .ref 111]) (w3 := w1) rfl rfl ?_
  rw [show ((nI i) + 2 : Int32) = nI (i + 2) from nI_add i 2]
  refine sx_RP.scr (x := (i + 2)) rfl (by omega) hl (show _ = 1227 from rfl) ?_
  refine sx_RP.step (pc2 := 1228) (ls2 := [(3, .int (nI i)), (2, .ref 111), (1, .ref 0), (0, .float 4)]) (st2 := [.float 4, .int (ys.getD ((i + 2)) 0), .int (ys.getD ((i + 1)) 0), .ref 111]) (w3 := w1) rfl rfl ?_
  refine sx_RP.step (pc2 := 1229) (ls2 := [(3, .int (nI i)), (2, .ref 111), (1, .ref 0), (0, .float 4)]) (st2 := [.int (nI i), .float 4, .int (ys.getD ((i + 2)) 0), .int (ys.getD ((i + 1)) 0), .ref 111]) (w3 := w1) rfl rfl ?_
  refine sx_RP.step (pc2 := 1230) (ls2 := [(3, .int (nI i)), (2, .ref 111), (1, .ref 0), (0, .float 4)]) (st2 := [.int 3, .int (nI i), .float 4, .int (ys.getD ((i + 2)) 0), .int (ys.getD ((i + 1)) 0), .ref 111]) (w3 := w1) rfl rfl ?_
  refine sx_RP.step (pc2 := 1231) (ls2 := [(3, .int (nI i)), (2, .ref 111), (1, .ref 0), (0, .float 4)]) (st2 := [.int ((nI i) + 3), .float 4, .int (ys.getD ((i + 2)) 0), .int (ys.getD ((i + 1)) 0), .ref 111]) (w3 := w1) rfl rfl ?_
  rw [show ((nI i) + 3 : Int32) = nI (i + 3) from nI_add i 3]
  refine sx_RP.scr (x := (i + 3)) rfl (by omega) hl (show _ = 1232 from rfl) ?_
  refine sx_RP.callp (as2 := [.ref 111, .int (ys.getD ((i + 1)) 0), .int (ys.getD ((i + 2)) 0), .int (ys.getD ((i + 3)) 0)]) (rest2 := []) rfl rfl (sx_inv_v2 (mi := 246) (k := 160) (st := [.int (ys.getD ((i + 3)) 0), .int (ys.getD ((i + 2)) 0), .int (ys.getD ((i + 1)) 0), .ref 111]) (w := w1) rfl rfl hI2.1.o111 rfl rfl rfl) rfl rfl rfl (sx_RP.byk (K230 (d := 1) hI2 (ys.getD ((i + 1)) 0) (ys.getD ((i + 2)) 0) (ys.getD ((i + 3)) 0))) (show _ = 1235 from rfl) ?_
  rintro r4 w7 ⟨⟨⟨v9, rfl⟩, hI8, hE10⟩, hbk12⟩
  have hL11 : LI w7 := hL5.rm hI2 hE10.el hbk12
  show sx_RP _ _ _ _ _ [.int v9] _ _
  refine sx_RP.step (pc2 := 1236) (ls2 := [(3, .int (nI i)), (2, .ref 111), (1, .ref 0), (0, .float 4)]) (st2 := []) (w3 := w7) rfl rfl ?_
  refine sx_RP.step (pc2 := 1539) (ls2 := [(3, .int (nI i)), (2, .ref 111), (1, .ref 0), (0, .float 4)]) (st2 := []) (w3 := w7) rfl rfl ?_
  exact kk w7 hI8 hL11
set_option maxRecDepth 20000 in
set_option maxHeartbeats 4000000 in
theorem lc35 {ys : List Int32} {i : Nat} {w : List sx_C} {P : Option Value → List sx_C → Prop} (hl : ys.length ≤ 3072) (hn : i + 6 ≤ ys.length) (hI : WI w) (hL : LI w) (kk : ∀ w2, WI w2 → LI w2 → sx_RP (some ys) 9 246 1539 [(3, .int (nI i)), (2, .ref 111), (1, .ref 0), (0, .float 4)] [] w2 P) : sx_RP (some ys) 9 246 1239 [(3, .int (nI i)), (2, .ref 111), (1, .ref 0), (0, .float 4)] [] w P := by
  refine sx_RP.step (pc2 := 1240) (ls2 := [(3, .int (nI i)), (2, .ref 111), (1, .ref 0), (0, .float 4)]) (st2 := [.ref 0]) (w3 := w) rfl rfl ?_
  refine sx_RP.step (pc2 := 1241) (ls2 := [(3, .int (nI i)), (2, .ref 111), (1, .ref 0), (0, .float 4)]) (st2 := [.float 4, .ref 0]) (w3 := w) rfl rfl ?_
  refine sx_RP.step (pc2 := 1242) (ls2 := [(3, .int (nI i)), (2, .ref 111), (1, .ref 0), (0, .float 4)]) (st2 := [.int (nI i), .float 4, .ref 0]) (w3 := w) rfl rfl ?_
  refine sx_RP.step (pc2 := 1243) (ls2 := [(3, .int (nI i)), (2, .ref 111), (1, .ref 0), (0, .float 4)]) (st2 := [.int 1, .int (nI i), .float 4, .ref 0]) (w3 := w) rfl rfl ?_
  refine sx_RP.step (pc2 := 1244) (ls2 := [(3, .int (nI i)), (2, .ref 111), (1, .ref 0), (0, .float 4)]) (st2 := [.int ((nI i) + 1), .float 4, .ref 0]) (w3 := w) rfl rfl ?_
  rw [show ((nI i) + 1 : Int32) = nI (i + 1) from nI_add i 1]
  refine sx_RP.scr (x := (i + 1)) rfl (by omega) hl (show _ = 1245 from rfl) ?_
  refine sx_RP.step (pc2 := 1246) (ls2 := [(3, .int (nI i)), (2, .ref 111), (1, .ref 0), (0, .float 4)]) (st2 := [.float 4, .int (ys.getD ((i + 1)) 0), .ref 0]) (w3 := w) rfl rfl ?_
  refine sx_RP.step (pc2 := 1247) (ls2 := [(3, .int (nI i)), (2, .ref 111), (1, .ref 0), (0, .float 4)]) (st2 := [.int (nI i), .float 4, .int (ys.getD ((i + 1)) 0), .ref 0]) (w3 := w) rfl rfl ?_
  refine sx_RP.step (pc2 := 1248) (ls2 := [(3, .int (nI i)), (2, .ref 111), (1, .ref 0), (0, .float 4)]) (st2 := [.int 2, .int (nI i), .float 4, .int (ys.getD ((i + 1)) 0), .ref 0]) (w3 := w) rfl rfl ?_
  refine sx_RP.step (pc2 := 1249) (ls2 := [(3, .int (nI i)), (2, .ref 111), (1, .ref 0), (0, .float 4)]) (st2 := [.int ((nI i) + 2), .float 4, .int (ys.getD ((i + 1)) 0), .ref 0]) (w3 := w) rfl rfl ?_
  rw [show ((nI i) + 2 : Int32) = nI (i + 2) from nI_add i 2]
  refine sx_RP.scr (x := (i + 2)) rfl (by omega) hl (show _ = 1250 from rfl) ?_
  refine sx_RP.step (pc2 := 1251) (ls2 := [(3, .int (nI i)), (2, .ref 111), (1, .ref 0), (0, .float 4)]) (st2 := [.float 4, .int (ys.getD ((i + 2)) 0), .int (ys.getD ((i + 1)) 0), .ref 0]) (w3 := w) rfl rfl ?_
  refine sx_RP.step (pc2 := 1252) (ls2 := [(3, .int (nI i)), (2, .ref 111), (1, .ref 0), (0, .float 4)]) (st2 := [.int (nI i), .float 4, .int (ys.getD ((i + 2)) 0), .int (ys.getD ((i + 1)) 0), .ref 0]) (w3 := w) rfl rfl ?_
  refine sx_RP.step (pc2 := 1253) (ls2 := [(3, .int (nI i)), (2, .ref 111), (1, .ref 0), (0, .float 4)]) (st2 := [.int 3, .int (nI i), .float 4, .int (ys.getD ((i + 2)) 0), .int (ys.getD ((i + 1)) 0), .ref 0]) (w3 := w) rfl rfl ?_
  refine sx_RP.step (pc2 := 1254) (ls2 := [(3, .int (nI i)), (2, .ref 111), (1, .ref 0), (0, .float 4)]) (st2 := [.int ((nI i) + 3), .float 4, .int (ys.getD ((i + 2)) 0), .int (ys.getD ((i + 1)) 0), .ref 0]) (w3 := w) rfl rfl ?_
  rw [show ((nI i) + 3 : Int32) = nI (i + 3) from nI_add i 3]
  refine sx_RP.scr (x := (i + 3)) rfl (by omega) hl (show _ = 1255 from rfl) ?_
  refine sx_RP.step (pc2 := 1256) (ls2 := [(3, .int (nI i)), (2, .ref 111), (1, .ref 0), (0, .float 4)]) (st2 := [.long ((ys.getD ((i + 3)) 0).toInt64), .int (ys.getD ((i + 2)) 0), .int (ys.getD ((i + 1)) 0), .ref 0]) (w3 := w) rfl rfl ?_
  refine sx_RP.step (pc2 := 1258) (ls2 := [(3, .int (nI i)), (2, .ref 111), (1, .ref 0), (0, .float 4)]) (st2 := [.int 32, .long ((ys.getD ((i + 3)) 0).toInt64), .int (ys.getD ((i + 2)) 0), .int (ys.getD ((i + 1)) 0), .ref 0]) (w3 := w) rfl rfl ?_
  refine sx_RP.step (pc2 := 1259) (ls2 := [(3, .int (nI i)), (2, .ref 111), (1, .ref 0), (0, .float 4)]) (st2 := [.long (((ys.getD ((i + 3)) 0).toInt64) <<< ((32 : Int32).toInt64 &&& 63)), .int (ys.getD ((i + 2)) 0), .int (ys.getD ((i + 1)) 0), .ref 0]) (w3 := w) rfl rfl ?_
  refine sx_RP.step (pc2 := 1260) (ls2 := [(3, .int (nI i)), (2, .ref 111), (1, .ref 0), (0, .float 4)]) (st2 := [.float 4, .long (((ys.getD ((i + 3)) 0).toInt64) <<< ((32 : Int32).toInt64 &&& 63)), .int (ys.getD ((i + 2)) 0), .int (ys.getD ((i + 1)) 0), .ref 0]) (w3 := w) rfl rfl ?_
  refine sx_RP.step (pc2 := 1261) (ls2 := [(3, .int (nI i)), (2, .ref 111), (1, .ref 0), (0, .float 4)]) (st2 := [.int (nI i), .float 4, .long (((ys.getD ((i + 3)) 0).toInt64) <<< ((32 : Int32).toInt64 &&& 63)), .int (ys.getD ((i + 2)) 0), .int (ys.getD ((i + 1)) 0), .ref 0]) (w3 := w) rfl rfl ?_
  refine sx_RP.step (pc2 := 1262) (ls2 := [(3, .int (nI i)), (2, .ref 111), (1, .ref 0), (0, .float 4)]) (st2 := [.int 4, .int (nI i), .float 4, .long (((ys.getD ((i + 3)) 0).toInt64) <<< ((32 : Int32).toInt64 &&& 63)), .int (ys.getD ((i + 2)) 0), .int (ys.getD ((i + 1)) 0), .ref 0]) (w3 := w) rfl rfl ?_
  refine sx_RP.step (pc2 := 1263) (ls2 := [(3, .int (nI i)), (2, .ref 111), (1, .ref 0), (0, .float 4)]) (st2 := [.int ((nI i) + 4), .float 4, .long (((ys.getD ((i + 3)) 0).toInt64) <<< ((32 : Int32).toInt64 &&& 63)), .int (ys.getD ((i + 2)) 0), .int (ys.getD ((i + 1)) 0), .ref 0]) (w3 := w) rfl rfl ?_
  rw [show ((nI i) + 4 : Int32) = nI (i + 4) from nI_add i 4]
  refine sx_RP.scr (x := (i + 4)) rfl (by omega) hl (show _ = 1264 from rfl) ?_
  refine sx_RP.step (pc2 := 1265) (ls2 := [(3, .int (nI i)), (2, .ref 111), (1, .ref 0), (0, .float 4)]) (st2 := [.long ((ys.getD ((i + 4)) 0).toInt64), .long (((ys.getD ((i + 3)) 0).toInt64) <<< ((32 : Int32).toInt64 &&& 63)), .int (ys.getD ((i + 2)) 0), .int (ys.getD ((i + 1)) 0), .ref 0]) (w3 := w) rfl rfl ?_
  refine sx_RP.step (pc2 := 1268) (ls2 := [(3, .int (nI i)), (2, .ref 111), (1, .ref 0), (0, .float 4)]) (st2 := [.long 4294967295, .long ((ys.getD ((i + 4)) 0).toInt64), .long (((ys.getD ((i + 3)) 0).toInt64) <<< ((32 : Int32).toInt64 &&& 63)), .int (ys.getD ((i + 2)) 0), .int (ys.getD ((i + 1)) 0), .ref 0]) (w3 := w) rfl rfl ?_
  refine sx_RP.step (pc2 := 1269) (ls2 := [(3, .int (nI i)), (2, .ref 111), (1, .ref 0), (0, .float 4)]) (st2 := [.long (((ys.getD ((i + 4)) 0).toInt64) &&& 4294967295), .long (((ys.getD ((i + 3)) 0).toInt64) <<< ((32 : Int32).toInt64 &&& 63)), .int (ys.getD ((i + 2)) 0), .int (ys.getD ((i + 1)) 0), .ref 0]) (w3 := w) rfl rfl ?_
  refine sx_RP.step (pc2 := 1270) (ls2 := [(3, .int (nI i)), (2, .ref 111), (1, .ref 0), (0, .float 4)]) (st2 := [.long ((((ys.getD ((i + 3)) 0).toInt64) <<< ((32 : Int32).toInt64 &&& 63)) ||| (((ys.getD ((i + 4)) 0).toInt64) &&& 4294967295)), .int (ys.getD ((i + 2)) 0), .int (ys.getD ((i + 1)) 0), .ref 0]) (w3 := w) rfl rfl ?_
  refine sx_RP.callp (as2 := [.ref 0, .int (ys.getD ((i + 1)) 0), .int (ys.getD ((i + 2)) 0), .long ((((ys.getD ((i + 3)) 0).toInt64) <<< ((32 : Int32).toInt64 &&& 63)) ||| (((ys.getD ((i + 4)) 0).toInt64) &&& 4294967295))]) (rest2 := []) rfl rfl (sx_inv_v2 (mi := 246) (k := 163) (st := [.long ((((ys.getD ((i + 3)) 0).toInt64) <<< ((32 : Int32).toInt64 &&& 63)) ||| (((ys.getD ((i + 4)) 0).toInt64) &&& 4294967295)), .int (ys.getD ((i + 2)) 0), .int (ys.getD ((i + 1)) 0), .ref 0]) (w := w) rfl rfl hI.1.o0 rfl rfl rfl) rfl rfl rfl (sx_RP.byk (N115 (d := 1) hI (ys.getD ((i + 1)) 0) (ys.getD ((i + 2)) 0) ((((ys.getD ((i + 3)) 0).toInt64) <<< ((32 : Int32).toInt64 &&& 63)) ||| (((ys.getD ((i + 4)) 0).toInt64) &&& 4294967295)))) (show _ = 1273 from rfl) ?_
  rintro r4 w1 ⟨⟨⟨v3, rfl⟩, hI2, hE4⟩, hbk6⟩
  have hL5 : LI w1 := hL.rc hI hE4 hbk6
  show sx_RP _ _ _ _ _ [.long v3] _ _
  refine sx_RP.step (pc2 := 1274) (ls2 := [(3, .int (nI i)), (2, .ref 111), (1, .ref 0), (0, .float 4)]) (st2 := []) (w3 := w1) rfl rfl ?_
  refine sx_RP.step (pc2 := 1275) (ls2 := [(3, .int (nI i)), (2, .ref 111), (1, .ref 0), (0, .float 4)]) (st2 := [.ref 111]) (w3 := w1) rfl rfl ?_
  refine sx_RP.step (pc2 := 1276) (ls2 := [(3, .int (nI i)), (2, .ref 111), (1, .ref 0), (0, .float 4)]) (st2 := [.float 4, .ref 111]) (w3 := w1) rfl rfl ?_
  refine sx_RP.step (pc2 := 1277) (ls2 := [(3, .int (nI i)), (2, .ref 111), (1, .ref 0), (0, .float 4)]) (st2 := [.int (nI i), .float 4, .ref 111]) (w3 := w1) rfl rfl ?_
  refine sx_RP.step (pc2 := 1278) (ls2 := [(3, .int (nI i)), (2, .ref 111), (1, .ref 0), (0, .float 4)]) (st2 := [.int 1, .int (nI i), .float 4, .ref 111]) (w3 := w1) rfl rfl ?_
  refine sx_RP.step (pc2 := 1279) (ls2 := [(3, .int (nI i)), (2, .ref 111), (1, .ref 0), (0, .float 4)]) (st2 := [.int ((nI i) + 1), .float 4, .ref 111]) (w3 := w1) rfl rfl ?_
  rw [show ((nI i) + 1 : Int32) = nI (i + 1) from nI_add i 1]
  refine sx_RP.scr (x := (i + 1)) rfl (by omega) hl (show _ = 1280 from rfl) ?_
  refine sx_RP.step (pc2 := 1281) (ls2 := [(3, .int (nI i)), (2, .ref 111), (1, .ref 0), (0, .float 4)]) (st2 := [.float 4, .int (ys.getD ((i + 1)) 0), .ref 111]) (w3 := w1) rfl rfl ?_
  refine sx_RP.step (pc2 := 1282) (ls2 := [(3, .int (nI i)), (2, .ref 111), (1, .ref 0), (0, .float 4)]) (st2 := [.int (nI i), .float 4, .int (ys.getD ((i + 1)) 0), .ref 111]) (w3 := w1) rfl rfl ?_
  refine sx_RP.step (pc2 := 1283) (ls2 := [(3, .int (nI i)), (2, .ref 111), (1, .ref 0), (0, .float 4)]) (st2 := [.int 2, .int (nI i), .float 4, .int (ys.getD ((i + 1)) 0), .ref 111]) (w3 := w1) rfl rfl ?_
  refine sx_RP.step (pc2 := 1284) (ls2 := [(3, .int (nI i)), (2, .ref 111), (1, .ref 0), (0, .float 4)]) (st2 := [.int ((nI i) + 2), .float 4, .int (ys.getD ((i + 1)) 0), .ref 111]) (w3 := w1) rfl rfl ?_
  rw [show ((nI i) + 2 : Int32) = nI (i + 2) from nI_add i 2]
  refine sx_RP.scr (x := (i + 2)) rfl (by omega) hl (show _ = 1285 from rfl) ?_
  refine sx_RP.step (pc2 := 1286) (ls2 := [(3, .int (nI i)), (2, .ref 111), (1, .ref 0), (0, .float 4)]) (st2 := [.float 4, .int (ys.getD ((i + 2)) 0), .int (ys.getD ((i + 1)) 0), .ref 111]) (w3 := w1) rfl rfl ?_
  refine sx_RP.step (pc2 := 1287) (ls2 := [(3, .int (nI i)), (2, .ref 111), (1, .ref 0), (0, .float 4)]) (st2 := [.int (nI i), .float 4, .int (ys.getD ((i + 2)) 0), .int (ys.getD ((i + 1)) 0), .ref 111]) (w3 := w1) rfl rfl ?_
  refine sx_RP.step (pc2 := 1288) (ls2 := [(3, .int (nI i)), (2, .ref 111), (1, .ref 0), (0, .float 4)]) (st2 := [.int 3, .int (nI i), .float 4, .int (ys.getD ((i + 2)) 0), .int (ys.getD ((i + 1)) 0), .ref 111]) (w3 := w1) rfl rfl ?_
  refine sx_RP.step (pc2 := 1289) (ls2 := [(3, .int (nI i)), (2, .ref 111), (1, .ref 0), (0, .float 4)]) (st2 := [.int ((nI i) + 3), .float 4, .int (ys.getD ((i + 2)) 0), .int (ys.getD ((i + 1)) 0), .ref 111]) (w3 := w1) rfl rfl ?_
  rw [show ((nI i) + 3 : Int32) = nI (i + 3) from nI_add i 3]
  refine sx_RP.scr (x := (i + 3)) rfl (by omega) hl (show _ = 1290 from rfl) ?_
  refine sx_RP.step (pc2 := 1291) (ls2 := [(3, .int (nI i)), (2, .ref 111), (1, .ref 0), (0, .float 4)]) (st2 := [.long ((ys.getD ((i + 3)) 0).toInt64), .int (ys.getD ((i + 2)) 0), .int (ys.getD ((i + 1)) 0), .ref 111]) (w3 := w1) rfl rfl ?_
  refine sx_RP.step (pc2 := 1293) (ls2 := [(3, .int (nI i)), (2, .ref 111), (1, .ref 0), (0, .float 4)]) (st2 := [.int 32, .long ((ys.getD ((i + 3)) 0).toInt64), .int (ys.getD ((i + 2)) 0), .int (ys.getD ((i + 1)) 0), .ref 111]) (w3 := w1) rfl rfl ?_
  refine sx_RP.step (pc2 := 1294) (ls2 := [(3, .int (nI i)), (2, .ref 111), (1, .ref 0), (0, .float 4)]) (st2 := [.long (((ys.getD ((i + 3)) 0).toInt64) <<< ((32 : Int32).toInt64 &&& 63)), .int (ys.getD ((i + 2)) 0), .int (ys.getD ((i + 1)) 0), .ref 111]) (w3 := w1) rfl rfl ?_
  refine sx_RP.step (pc2 := 1295) (ls2 := [(3, .int (nI i)), (2, .ref 111), (1, .ref 0), (0, .float 4)]) (st2 := [.float 4, .long (((ys.getD ((i + 3)) 0).toInt64) <<< ((32 : Int32).toInt64 &&& 63)), .int (ys.getD ((i + 2)) 0), .int (ys.getD ((i + 1)) 0), .ref 111]) (w3 := w1) rfl rfl ?_
  refine sx_RP.step (pc2 := 1296) (ls2 := [(3, .int (nI i)), (2, .ref 111), (1, .ref 0), (0, .float 4)]) (st2 := [.int (nI i), .float 4, .long (((ys.getD ((i + 3)) 0).toInt64) <<< ((32 : Int32).toInt64 &&& 63)), .int (ys.getD ((i + 2)) 0), .int (ys.getD ((i + 1)) 0), .ref 111]) (w3 := w1) rfl rfl ?_
  refine sx_RP.step (pc2 := 1297) (ls2 := [(3, .int (nI i)), (2, .ref 111), (1, .ref 0), (0, .float 4)]) (st2 := [.int 4, .int (nI i), .float 4, .long (((ys.getD ((i + 3)) 0).toInt64) <<< ((32 : Int32).toInt64 &&& 63)), .int (ys.getD ((i + 2)) 0), .int (ys.getD ((i + 1)) 0), .ref 111]) (w3 := w1) rfl rfl ?_
  refine sx_RP.step (pc2 := 1298) (ls2 := [(3, .int (nI i)), (2, .ref 111), (1, .ref 0), (0, .float 4)]) (st2 := [.int ((nI i) + 4), .float 4, .long (((ys.getD ((i + 3)) 0).toInt64) <<< ((32 : Int32).toInt64 &&& 63)), .int (ys.getD ((i + 2)) 0), .int (ys.getD ((i + 1)) 0), .ref 111]) (w3 := w1) rfl rfl ?_
  rw [show ((nI i) + 4 : Int32) = nI (i + 4) from nI_add i 4]
  refine sx_RP.scr (x := (i + 4)) rfl (by omega) hl (show _ = 1299 from rfl) ?_
  refine sx_RP.step (pc2 := 1300) (ls2 := [(3, .int (nI i)), (2, .ref 111), (1, .ref 0), (0, .float 4)]) (st2 := [.long ((ys.getD ((i + 4)) 0).toInt64), .long (((ys.getD ((i + 3)) 0).toInt64) <<< ((32 : Int32).toInt64 &&& 63)), .int (ys.getD ((i + 2)) 0), .int (ys.getD ((i + 1)) 0), .ref 111]) (w3 := w1) rfl rfl ?_
  refine sx_RP.step (pc2 := 1303) (ls2 := [(3, .int (nI i)), (2, .ref 111), (1, .ref 0), (0, .float 4)]) (st2 := [.long 4294967295, .long ((ys.getD ((i + 4)) 0).toInt64), .long (((ys.getD ((i + 3)) 0).toInt64) <<< ((32 : Int32).toInt64 &&& 63)), .int (ys.getD ((i + 2)) 0), .int (ys.getD ((i + 1)) 0), .ref 111]) (w3 := w1) rfl rfl ?_
  refine sx_RP.step (pc2 := 1304) (ls2 := [(3, .int (nI i)), (2, .ref 111), (1, .ref 0), (0, .float 4)]) (st2 := [.long (((ys.getD ((i + 4)) 0).toInt64) &&& 4294967295), .long (((ys.getD ((i + 3)) 0).toInt64) <<< ((32 : Int32).toInt64 &&& 63)), .int (ys.getD ((i + 2)) 0), .int (ys.getD ((i + 1)) 0), .ref 111]) (w3 := w1) rfl rfl ?_
  refine sx_RP.step (pc2 := 1305) (ls2 := [(3, .int (nI i)), (2, .ref 111), (1, .ref 0), (0, .float 4)]) (st2 := [.long ((((ys.getD ((i + 3)) 0).toInt64) <<< ((32 : Int32).toInt64 &&& 63)) ||| (((ys.getD ((i + 4)) 0).toInt64) &&& 4294967295)), .int (ys.getD ((i + 2)) 0), .int (ys.getD ((i + 1)) 0), .ref 111]) (w3 := w1) rfl rfl ?_
  refine sx_RP.callp (as2 := [.ref 111, .int (ys.getD ((i + 1)) 0), .int (ys.getD ((i + 2)) 0), .long ((((ys.getD ((i + 3)) 0).toInt64) <<< ((32 : Int32).toInt64 &&& 63)) ||| (((ys.getD ((i + 4)) 0).toInt64) &&& 4294967295))]) (rest2 := []) rfl rfl (sx_inv_v2 (mi := 246) (k := 167) (st := [.long ((((ys.getD ((i + 3)) 0).toInt64) <<< ((32 : Int32).toInt64 &&& 63)) ||| (((ys.getD ((i + 4)) 0).toInt64) &&& 4294967295)), .int (ys.getD ((i + 2)) 0), .int (ys.getD ((i + 1)) 0), .ref 111]) (w := w1) rfl rfl hI2.1.o111 rfl rfl rfl) rfl rfl rfl (sx_RP.byk (K232 (d := 1) hI2 (ys.getD ((i + 1)) 0) (ys.getD ((i + 2)) 0) ((((ys.getD ((i + 3)) 0).toInt64) <<< ((32 : Int32).toInt64 &&& 63)) ||| (((ys.getD ((i + 4)) 0).toInt64) &&& 4294967295)))) (show _ = 1308 from rfl) ?_
  rintro r4 w7 ⟨⟨⟨v9, rfl⟩, hI8, hE10⟩, hbk12⟩
  have hL11 : LI w7 := hL5.rm hI2 hE10.el hbk12
  show sx_RP _ _ _ _ _ [.long v9] _ _
  refine sx_RP.step (pc2 := 1309) (ls2 := [(3, .int (nI i)), (2, .ref 111), (1, .ref 0), (0, .float 4)]) (st2 := []) (w3 := w7) rfl rfl ?_
  refine sx_RP.step (pc2 := 1539) (ls2 := [(3, .int (nI i)), (2, .ref 111), (1, .ref 0), (0, .float 4)]) (st2 := []) (w3 := w7) rfl rfl ?_
  exact kk w7 hI8 hL11
set_option maxRecDepth 20000 in
set_option maxHeartbeats 4000000 in
theorem lc36 {ys : List Int32} {i : Nat} {w : List sx_C} {P : Option Value → List sx_C → Prop} (hl : ys.length ≤ 3072) (hn : i + 6 ≤ ys.length) (hI : WI w) (hL : LI w) (kk : ∀ w2, WI w2 → LI w2 → sx_RP (some ys) 9 246 1539 [(3, .int (nI i)), (2, .ref 111), (1, .ref 0), (0, .float 4)] [] w2 P) : sx_RP (some ys) 9 246 1312 [(3, .int (nI i)), (2, .ref 111), (1, .ref 0), (0, .float 4)] [] w P := by
  refine sx_RP.step (pc2 := 1313) (ls2 := [(3, .int (nI i)), (2, .ref 111), (1, .ref 0), (0, .float 4)]) (st2 := [.ref 0]) (w3 := w) rfl rfl ?_
  refine sx_RP.step (pc2 := 1314) (ls2 := [(3, .int (nI i)), (2, .ref 111), (1, .ref 0), (0, .float 4)]) (st2 := [.float 4, .ref 0]) (w3 := w) rfl rfl ?_
  refine sx_RP.step (pc2 := 1315) (ls2 := [(3, .int (nI i)), (2, .ref 111), (1, .ref 0), (0, .float 4)]) (st2 := [.int (nI i), .float 4, .ref 0]) (w3 := w) rfl rfl ?_
  refine sx_RP.step (pc2 := 1316) (ls2 := [(3, .int (nI i)), (2, .ref 111), (1, .ref 0), (0, .float 4)]) (st2 := [.int 1, .int (nI i), .float 4, .ref 0]) (w3 := w) rfl rfl ?_
  refine sx_RP.step (pc2 := 1317) (ls2 := [(3, .int (nI i)), (2, .ref 111), (1, .ref 0), (0, .float 4)]) (st2 := [.int ((nI i) + 1), .float 4, .ref 0]) (w3 := w) rfl rfl ?_
  rw [show ((nI i) + 1 : Int32) = nI (i + 1) from nI_add i 1]
  refine sx_RP.scr (x := (i + 1)) rfl (by omega) hl (show _ = 1318 from rfl) ?_
  refine sx_RP.step (pc2 := 1319) (ls2 := [(3, .int (nI i)), (2, .ref 111), (1, .ref 0), (0, .float 4)]) (st2 := [.float 4, .int (ys.getD ((i + 1)) 0), .ref 0]) (w3 := w) rfl rfl ?_
  refine sx_RP.step (pc2 := 1320) (ls2 := [(3, .int (nI i)), (2, .ref 111), (1, .ref 0), (0, .float 4)]) (st2 := [.int (nI i), .float 4, .int (ys.getD ((i + 1)) 0), .ref 0]) (w3 := w) rfl rfl ?_
  refine sx_RP.step (pc2 := 1321) (ls2 := [(3, .int (nI i)), (2, .ref 111), (1, .ref 0), (0, .float 4)]) (st2 := [.int 2, .int (nI i), .float 4, .int (ys.getD ((i + 1)) 0), .ref 0]) (w3 := w) rfl rfl ?_
  refine sx_RP.step (pc2 := 1322) (ls2 := [(3, .int (nI i)), (2, .ref 111), (1, .ref 0), (0, .float 4)]) (st2 := [.int ((nI i) + 2), .float 4, .int (ys.getD ((i + 1)) 0), .ref 0]) (w3 := w) rfl rfl ?_
  rw [show ((nI i) + 2 : Int32) = nI (i + 2) from nI_add i 2]
  refine sx_RP.scr (x := (i + 2)) rfl (by omega) hl (show _ = 1323 from rfl) ?_
  refine sx_RP.step (pc2 := 1324) (ls2 := [(3, .int (nI i)), (2, .ref 111), (1, .ref 0), (0, .float 4)]) (st2 := [.float 4, .int (ys.getD ((i + 2)) 0), .int (ys.getD ((i + 1)) 0), .ref 0]) (w3 := w) rfl rfl ?_
  refine sx_RP.step (pc2 := 1325) (ls2 := [(3, .int (nI i)), (2, .ref 111), (1, .ref 0), (0, .float 4)]) (st2 := [.int (nI i), .float 4, .int (ys.getD ((i + 2)) 0), .int (ys.getD ((i + 1)) 0), .ref 0]) (w3 := w) rfl rfl ?_
  refine sx_RP.step (pc2 := 1326) (ls2 := [(3, .int (nI i)), (2, .ref 111), (1, .ref 0), (0, .float 4)]) (st2 := [.int 3, .int (nI i), .float 4, .int (ys.getD ((i + 2)) 0), .int (ys.getD ((i + 1)) 0), .ref 0]) (w3 := w) rfl rfl ?_
  refine sx_RP.step (pc2 := 1327) (ls2 := [(3, .int (nI i)), (2, .ref 111), (1, .ref 0), (0, .float 4)]) (st2 := [.int ((nI i) + 3), .float 4, .int (ys.getD ((i + 2)) 0), .int (ys.getD ((i + 1)) 0), .ref 0]) (w3 := w) rfl rfl ?_
  rw [show ((nI i) + 3 : Int32) = nI (i + 3) from nI_add i 3]
  refine sx_RP.scr (x := (i + 3)) rfl (by omega) hl (show _ = 1328 from rfl) ?_
  refine sx_RP.step (pc2 := 1329) (ls2 := [(3, .int (nI i)), (2, .ref 111), (1, .ref 0), (0, .float 4)]) (st2 := [.float 4, .int (ys.getD ((i + 3)) 0), .int (ys.getD ((i + 2)) 0), .int (ys.getD ((i + 1)) 0), .ref 0]) (w3 := w) rfl rfl ?_
  refine sx_RP.step (pc2 := 1330) (ls2 := [(3, .int (nI i)), (2, .ref 111), (1, .ref 0), (0, .float 4)]) (st2 := [.int (nI i), .float 4, .int (ys.getD ((i + 3)) 0), .int (ys.getD ((i + 2)) 0), .int (ys.getD ((i + 1)) 0), .ref 0]) (w3 := w) rfl rfl ?_
  refine sx_RP.step (pc2 := 1331) (ls2 := [(3, .int (nI i)), (2, .ref 111), (1, .ref 0), (0, .float 4)]) (st2 := [.int 4, .int (nI i), .float 4, .int (ys.getD ((i + 3)) 0), .int (ys.getD ((i + 2)) 0), .int (ys.getD ((i + 1)) 0), .ref 0]) (w3 := w) rfl rfl ?_
  refine sx_RP.step (pc2 := 1332) (ls2 := [(3, .int (nI i)), (2, .ref 111), (1, .ref 0), (0, .float 4)]) (st2 := [.int ((nI i) + 4), .float 4, .int (ys.getD ((i + 3)) 0), .int (ys.getD ((i + 2)) 0), .int (ys.getD ((i + 1)) 0), .ref 0]) (w3 := w) rfl rfl ?_
  rw [show ((nI i) + 4 : Int32) = nI (i + 4) from nI_add i 4]
  refine sx_RP.scr (x := (i + 4)) rfl (by omega) hl (show _ = 1333 from rfl) ?_
  refine sx_RP.step (pc2 := 1334) (ls2 := [(3, .int (nI i)), (2, .ref 111), (1, .ref 0), (0, .float 4)]) (st2 := [.float 4, .int (ys.getD ((i + 4)) 0), .int (ys.getD ((i + 3)) 0), .int (ys.getD ((i + 2)) 0), .int (ys.getD ((i + 1)) 0), .ref 0]) (w3 := w) rfl rfl ?_
  refine sx_RP.step (pc2 := 1335) (ls2 := [(3, .int (nI i)), (2, .ref 111), (1, .ref 0), (0, .float 4)]) (st2 := [.int (nI i), .float 4, .int (ys.getD ((i + 4)) 0), .int (ys.getD ((i + 3)) 0), .int (ys.getD ((i + 2)) 0), .int (ys.getD ((i + 1)) 0), .ref 0]) (w3 := w) rfl rfl ?_
  refine sx_RP.step (pc2 := 1336) (ls2 := [(3, .int (nI i)), (2, .ref 111), (1, .ref 0), (0, .float 4)]) (st2 := [.int 5, .int (nI i), .float 4, .int (ys.getD ((i + 4)) 0), .int (ys.getD ((i + 3)) 0), .int (ys.getD ((i + 2)) 0), .int (ys.getD ((i + 1)) 0), .ref 0]) (w3 := w) rfl rfl ?_
  refine sx_RP.step (pc2 := 1337) (ls2 := [(3, .int (nI i)), (2, .ref 111), (1, .ref 0), (0, .float 4)]) (st2 := [.int ((nI i) + 5), .float 4, .int (ys.getD ((i + 4)) 0), .int (ys.getD ((i + 3)) 0), .int (ys.getD ((i + 2)) 0), .int (ys.getD ((i + 1)) 0), .ref 0]) (w3 := w) rfl rfl ?_
  rw [show ((nI i) + 5 : Int32) = nI (i + 5) from nI_add i 5]
  refine sx_RP.scr (x := (i + 5)) rfl (by omega) hl (show _ = 1338 from rfl) ?_
  refine sx_RP.callp (as2 := [.ref 0, .int (ys.getD ((i + 1)) 0), .int (ys.getD ((i + 2)) 0), .int (ys.getD ((i + 3)) 0), .int (ys.getD ((i + 4)) 0), .int (ys.getD ((i + 5)) 0)]) (rest2 := []) rfl rfl (sx_inv_v2 (mi := 246) (k := 168) (st := [.int (ys.getD ((i + 5)) 0), .int (ys.getD ((i + 4)) 0), .int (ys.getD ((i + 3)) 0), .int (ys.getD ((i + 2)) 0), .int (ys.getD ((i + 1)) 0), .ref 0]) (w := w) rfl rfl hI.1.o0 rfl rfl rfl) rfl rfl rfl (sx_RP.byk (N118 (d := 1) hI (ys.getD ((i + 1)) 0) (ys.getD ((i + 2)) 0) (ys.getD ((i + 3)) 0) (ys.getD ((i + 4)) 0) (ys.getD ((i + 5)) 0))) (show _ = 1341 from rfl) ?_
  rintro r4 w1 ⟨⟨⟨v3, rfl⟩, hI2, hE4⟩, hbk6⟩
  have hL5 : LI w1 := hL.rc hI hE4 hbk6
  show sx_RP _ _ _ _ _ [.int v3] _ _
  refine sx_RP.step (pc2 := 1342) (ls2 := [(3, .int (nI i)), (2, .ref 111), (1, .ref 0), (0, .float 4)]) (st2 := []) (w3 := w1) rfl rfl ?_
  refine sx_RP.step (pc2 := 1343) (ls2 := [(3, .int (nI i)), (2, .ref 111), (1, .ref 0), (0, .float 4)]) (st2 := [.ref 111]) (w3 := w1) rfl rfl ?_
  refine sx_RP.step (pc2 := 1344) (ls2 := [(3, .int (nI i)), (2, .ref 111), (1, .ref 0), (0, .float 4)]) (st2 := [.float 4, .ref 111]) (w3 := w1) rfl rfl ?_
  refine sx_RP.step (pc2 := 1345) (ls2 := [(3, .int (nI i)), (2, .ref 111), (1, .ref 0), (0, .float 4)]) (st2 := [.int (nI i), .float 4, .ref 111]) (w3 := w1) rfl rfl ?_
  refine sx_RP.step (pc2 := 1346) (ls2 := [(3, .int (nI i)), (2, .ref 111), (1, .ref 0), (0, .float 4)]) (st2 := [.int 1, .int (nI i), .float 4, .ref 111]) (w3 := w1) rfl rfl ?_
  refine sx_RP.step (pc2 := 1347) (ls2 := [(3, .int (nI i)), (2, .ref 111), (1, .ref 0), (0, .float 4)]) (st2 := [.int ((nI i) + 1), .float 4, .ref 111]) (w3 := w1) rfl rfl ?_
  rw [show ((nI i) + 1 : Int32) = nI (i + 1) from nI_add i 1]
  refine sx_RP.scr (x := (i + 1)) rfl (by omega) hl (show _ = 1348 from rfl) ?_
  refine sx_RP.step (pc2 := 1349) (ls2 := [(3, .int (nI i)), (2, .ref 111), (1, .ref 0), (0, .float 4)]) (st2 := [.float 4, .int (ys.getD ((i + 1)) 0), .ref 111]) (w3 := w1) rfl rfl ?_
  refine sx_RP.step (pc2 := 1350) (ls2 := [(3, .int (nI i)), (2, .ref 111), (1, .ref 0), (0, .float 4)]) (st2 := [.int (nI i), .float 4, .int (ys.getD ((i + 1)) 0), .ref 111]) (w3 := w1) rfl rfl ?_
  refine sx_RP.step (pc2 := 1351) (ls2 := [(3, .int (nI i)), (2, .ref 111), (1, .ref 0), (0, .float 4)]) (st2 := [.int 2, .int (nI i), .float 4, .int (ys.getD ((i + 1)) 0), .ref 111]) (w3 := w1) rfl rfl ?_
  refine sx_RP.step (pc2 := 1352) (ls2 := [(3, .int (nI i)), (2, .ref 111), (1, .ref 0), (0, .float 4)]) (st2 := [.int ((nI i) + 2), .float 4, .int (ys.getD ((i + 1)) 0), .ref 111]) (w3 := w1) rfl rfl ?_
  rw [show ((nI i) + 2 : Int32) = nI (i + 2) from nI_add i 2]
  refine sx_RP.scr (x := (i + 2)) rfl (by omega) hl (show _ = 1353 from rfl) ?_
  refine sx_RP.step (pc2 := 1354) (ls2 := [(3, .int (nI i)), (2, .ref 111), (1, .ref 0), (0, .float 4)]) (st2 := [.float 4, .int (ys.getD ((i + 2)) 0), .int (ys.getD ((i + 1)) 0), .ref 111]) (w3 := w1) rfl rfl ?_
  refine sx_RP.step (pc2 := 1355) (ls2 := [(3, .int (nI i)), (2, .ref 111), (1, .ref 0), (0, .float 4)]) (st2 := [.int (nI i), .float 4, .int (ys.getD ((i + 2)) 0), .int (ys.getD ((i + 1)) 0), .ref 111]) (w3 := w1) rfl rfl ?_
  refine sx_RP.step (pc2 := 1356) (ls2 := [(3, .int (nI i)), (2, .ref 111), (1, .ref 0), (0, .float 4)]) (st2 := [.int 3, .int (nI i), .float 4, .int (ys.getD ((i + 2)) 0), .int (ys.getD ((i + 1)) 0), .ref 111]) (w3 := w1) rfl rfl ?_
  refine sx_RP.step (pc2 := 1357) (ls2 := [(3, .int (nI i)), (2, .ref 111), (1, .ref 0), (0, .float 4)]) (st2 := [.int ((nI i) + 3), .float 4, .int (ys.getD ((i + 2)) 0), .int (ys.getD ((i + 1)) 0), .ref 111]) (w3 := w1) rfl rfl ?_
  rw [show ((nI i) + 3 : Int32) = nI (i + 3) from nI_add i 3]
  refine sx_RP.scr (x := (i + 3)) rfl (by omega) hl (show _ = 1358 from rfl) ?_
  refine sx_RP.step (pc2 := 1359) (ls2 := [(3, .int (nI i)), (2, .ref 111), (1, .ref 0), (0, .float 4)]) (st2 := [.float 4, .int (ys.getD ((i + 3)) 0), .int (ys.getD ((i + 2)) 0), .int (ys.getD ((i + 1)) 0), .ref 111]) (w3 := w1) rfl rfl ?_
  refine sx_RP.step (pc2 := 1360) (ls2 := [(3, .int (nI i)), (2, .ref 111), (1, .ref 0), (0, .float 4)]) (st2 := [.int (nI i), .float 4, .int (ys.getD ((i + 3)) 0), .int (ys.getD ((i + 2)) 0), .int (ys.getD ((i + 1)) 0), .ref 111]) (w3 := w1) rfl rfl ?_
  refine sx_RP.step (pc2 := 1361) (ls2 := [(3, .int (nI i)), (2, .ref 111), (1, .ref 0), (0, .float 4)]) (st2 := [.int 4, .int (nI i), .float 4, .int (ys.getD ((i + 3)) 0), .int (ys.getD ((i + 2)) 0), .int (ys.getD ((i + 1)) 0), .ref 111]) (w3 := w1) rfl rfl ?_
  refine sx_RP.step (pc2 := 1362) (ls2 := [(3, .int (nI i)), (2, .ref 111), (1, .ref 0), (0, .float 4)]) (st2 := [.int ((nI i) + 4), .float 4, .int (ys.getD ((i + 3)) 0), .int (ys.getD ((i + 2)) 0), .int (ys.getD ((i + 1)) 0), .ref 111]) (w3 := w1) rfl rfl ?_
  rw [show ((nI i) + 4 : Int32) = nI (i + 4) from nI_add i 4]
  refine sx_RP.scr (x := (i + 4)) rfl (by omega) hl (show _ = 1363 from rfl) ?_
  refine sx_RP.step (pc2 := 1364) (ls2 := [(3, .int (nI i)), (2, .ref 111), (1, .ref 0), (0, .float 4)]) (st2 := [.float 4, .int (ys.getD ((i + 4)) 0), .int (ys.getD ((i + 3)) 0), .int (ys.getD ((i + 2)) 0), .int (ys.getD ((i + 1)) 0), .ref 111]) (w3 := w1) rfl rfl ?_
  refine sx_RP.step (pc2 := 1365) (ls2 := [(3, .int (nI i)), (2, .ref 111), (1, .ref 0), (0, .float 4)]) (st2 := [.int (nI i), .float 4, .int (ys.getD ((i + 4)) 0), .int (ys.getD ((i + 3)) 0), .int (ys.getD ((i + 2)) 0), .int (ys.getD ((i + 1)) 0), .ref 111]) (w3 := w1) rfl rfl ?_
  refine sx_RP.step (pc2 := 1366) (ls2 := [(3, .int (nI i)), (2, .ref 111), (1, .ref 0), (0, .float 4)]) (st2 := [.int 5, .int (nI i), .float 4, .int (ys.getD ((i + 4)) 0), .int (ys.getD ((i + 3)) 0), .int (ys.getD ((i + 2)) 0), .int (ys.getD ((i + 1)) 0), .ref 111]) (w3 := w1) rfl rfl ?_
  refine sx_RP.step (pc2 := 1367) (ls2 := [(3, .int (nI i)), (2, .ref 111), (1, .ref 0), (0, .float 4)]) (st2 := [.int ((nI i) + 5), .float 4, .int (ys.getD ((i + 4)) 0), .int (ys.getD ((i + 3)) 0), .int (ys.getD ((i + 2)) 0), .int (ys.getD ((i + 1)) 0), .ref 111]) (w3 := w1) rfl rfl ?_
  rw [show ((nI i) + 5 : Int32) = nI (i + 5) from nI_add i 5]
  refine sx_RP.scr (x := (i + 5)) rfl (by omega) hl (show _ = 1368 from rfl) ?_
  refine sx_RP.callp (as2 := [.ref 111, .int (ys.getD ((i + 1)) 0), .int (ys.getD ((i + 2)) 0), .int (ys.getD ((i + 3)) 0), .int (ys.getD ((i + 4)) 0), .int (ys.getD ((i + 5)) 0)]) (rest2 := []) rfl rfl (sx_inv_v2 (mi := 246) (k := 172) (st := [.int (ys.getD ((i + 5)) 0), .int (ys.getD ((i + 4)) 0), .int (ys.getD ((i + 3)) 0), .int (ys.getD ((i + 2)) 0), .int (ys.getD ((i + 1)) 0), .ref 111]) (w := w1) rfl rfl hI2.1.o111 rfl rfl rfl) rfl rfl rfl (sx_RP.byk (K234 (d := 1) hI2 (ys.getD ((i + 1)) 0) (ys.getD ((i + 2)) 0) (ys.getD ((i + 3)) 0) (ys.getD ((i + 4)) 0) (ys.getD ((i + 5)) 0))) (show _ = 1371 from rfl) ?_
  rintro r4 w7 ⟨⟨⟨v9, rfl⟩, hI8, hE10⟩, hbk12⟩
  have hL11 : LI w7 := hL5.rm hI2 hE10.el hbk12
  show sx_RP _ _ _ _ _ [.int v9] _ _
  refine sx_RP.step (pc2 := 1372) (ls2 := [(3, .int (nI i)), (2, .ref 111), (1, .ref 0), (0, .float 4)]) (st2 := []) (w3 := w7) rfl rfl ?_
  refine sx_RP.step (pc2 := 1539) (ls2 := [(3, .int (nI i)), (2, .ref 111), (1, .ref 0), (0, .float 4)]) (st2 := []) (w3 := w7) rfl rfl ?_
  exact kk w7 hI8 hL11
set_option maxRecDepth 20000 in
set_option maxHeartbeats 4000000 in
theorem lc37 {ys : List Int32} {i : Nat} {w : List sx_C} {P : Option Value → List sx_C → Prop} (hl : ys.length ≤ 3072) (hn : i + 6 ≤ ys.length) (hI : WI w) (hL : LI w) (kk : ∀ w2, WI w2 → LI w2 → sx_RP (some ys) 9 246 1539 [(3, .int (nI i)), (2, .ref 111), (1, .ref 0), (0, .float 4)] [] w2 P) : sx_RP (some ys) 9 246 1375 [(3, .int (nI i)), (2, .ref 111), (1, .ref 0), (0, .float 4)] [] w P := by
  refine sx_RP.step (pc2 := 1376) (ls2 := [(3, .int (nI i)), (2, .ref 111), (1, .ref 0), (0, .float 4)]) (st2 := [.ref 0]) (w3 := w) rfl rfl ?_
  refine sx_RP.step (pc2 := 1377) (ls2 := [(3, .int (nI i)), (2, .ref 111), (1, .ref 0), (0, .float 4)]) (st2 := [.float 4, .ref 0]) (w3 := w) rfl rfl ?_
  refine sx_RP.step (pc2 := 1378) (ls2 := [(3, .int (nI i)), (2, .ref 111), (1, .ref 0), (0, .float 4)]) (st2 := [.int (nI i), .float 4, .ref 0]) (w3 := w) rfl rfl ?_
  refine sx_RP.step (pc2 := 1379) (ls2 := [(3, .int (nI i)), (2, .ref 111), (1, .ref 0), (0, .float 4)]) (st2 := [.int 1, .int (nI i), .float 4, .ref 0]) (w3 := w) rfl rfl ?_
  refine sx_RP.step (pc2 := 1380) (ls2 := [(3, .int (nI i)), (2, .ref 111), (1, .ref 0), (0, .float 4)]) (st2 := [.int ((nI i) + 1), .float 4, .ref 0]) (w3 := w) rfl rfl ?_
  rw [show ((nI i) + 1 : Int32) = nI (i + 1) from nI_add i 1]
  refine sx_RP.scr (x := (i + 1)) rfl (by omega) hl (show _ = 1381 from rfl) ?_
  refine sx_RP.step (pc2 := 1382) (ls2 := [(3, .int (nI i)), (2, .ref 111), (1, .ref 0), (0, .float 4)]) (st2 := [.float 4, .int (ys.getD ((i + 1)) 0), .ref 0]) (w3 := w) rfl rfl ?_
  refine sx_RP.step (pc2 := 1383) (ls2 := [(3, .int (nI i)), (2, .ref 111), (1, .ref 0), (0, .float 4)]) (st2 := [.int (nI i), .float 4, .int (ys.getD ((i + 1)) 0), .ref 0]) (w3 := w) rfl rfl ?_
  refine sx_RP.step (pc2 := 1384) (ls2 := [(3, .int (nI i)), (2, .ref 111), (1, .ref 0), (0, .float 4)]) (st2 := [.int 2, .int (nI i), .float 4, .int (ys.getD ((i + 1)) 0), .ref 0]) (w3 := w) rfl rfl ?_
  refine sx_RP.step (pc2 := 1385) (ls2 := [(3, .int (nI i)), (2, .ref 111), (1, .ref 0), (0, .float 4)]) (st2 := [.int ((nI i) + 2), .float 4, .int (ys.getD ((i + 1)) 0), .ref 0]) (w3 := w) rfl rfl ?_
  rw [show ((nI i) + 2 : Int32) = nI (i + 2) from nI_add i 2]
  refine sx_RP.scr (x := (i + 2)) rfl (by omega) hl (show _ = 1386 from rfl) ?_
  refine sx_RP.callp (as2 := [.ref 0, .int (ys.getD ((i + 1)) 0), .int (ys.getD ((i + 2)) 0)]) (rest2 := []) rfl rfl (sx_inv_v2 (mi := 246) (k := 173) (st := [.int (ys.getD ((i + 2)) 0), .int (ys.getD ((i + 1)) 0), .ref 0]) (w := w) rfl rfl hI.1.o0 rfl rfl rfl) rfl rfl rfl (sx_RP.byk (N120 (d := 1) hI (ys.getD ((i + 1)) 0) (ys.getD ((i + 2)) 0))) (show _ = 1389 from rfl) ?_
  rintro r4 w1 ⟨⟨⟨v3, rfl⟩, hI2, hE4⟩, hbk6⟩
  have hL5 : LI w1 := hL.rc hI hE4 hbk6
  show sx_RP _ _ _ _ _ [.int v3] _ _
  refine sx_RP.step (pc2 := 1390) (ls2 := [(3, .int (nI i)), (2, .ref 111), (1, .ref 0), (0, .float 4)]) (st2 := []) (w3 := w1) rfl rfl ?_
  refine sx_RP.step (pc2 := 1391) (ls2 := [(3, .int (nI i)), (2, .ref 111), (1, .ref 0), (0, .float 4)]) (st2 := [.ref 111]) (w3 := w1) rfl rfl ?_
  refine sx_RP.step (pc2 := 1392) (ls2 := [(3, .int (nI i)), (2, .ref 111), (1, .ref 0), (0, .float 4)]) (st2 := [.float 4, .ref 111]) (w3 := w1) rfl rfl ?_
  refine sx_RP.step (pc2 := 1393) (ls2 := [(3, .int (nI i)), (2, .ref 111), (1, .ref 0), (0, .float 4)]) (st2 := [.int (nI i), .float 4, .ref 111]) (w3 := w1) rfl rfl ?_
  refine sx_RP.step (pc2 := 1394) (ls2 := [(3, .int (nI i)), (2, .ref 111), (1, .ref 0), (0, .float 4)]) (st2 := [.int 1, .int (nI i), .float 4, .ref 111]) (w3 := w1) rfl rfl ?_
  refine sx_RP.step (pc2 := 1395) (ls2 := [(3, .int (nI i)), (2, .ref 111), (1, .ref 0), (0, .float 4)]) (st2 := [.int ((nI i) + 1), .float 4, .ref 111]) (w3 := w1) rfl rfl ?_
  rw [show ((nI i) + 1 : Int32) = nI (i + 1) from nI_add i 1]
  refine sx_RP.scr (x := (i + 1)) rfl (by omega) hl (show _ = 1396 from rfl) ?_
  refine sx_RP.step (pc2 := 1397) (ls2 := [(3, .int (nI i)), (2, .ref 111), (1, .ref 0), (0, .float 4)]) (st2 := [.float 4, .int (ys.getD ((i + 1)) 0), .ref 111]) (w3 := w1) rfl rfl ?_
  refine sx_RP.step (pc2 := 1398) (ls2 := [(3, .int (nI i)), (2, .ref 111), (1, .ref 0), (0, .float 4)]) (st2 := [.int (nI i), .float 4, .int (ys.getD ((i + 1)) 0), .ref 111]) (w3 := w1) rfl rfl ?_
  refine sx_RP.step (pc2 := 1399) (ls2 := [(3, .int (nI i)), (2, .ref 111), (1, .ref 0), (0, .float 4)]) (st2 := [.int 2, .int (nI i), .float 4, .int (ys.getD ((i + 1)) 0), .ref 111]) (w3 := w1) rfl rfl ?_
  refine sx_RP.step (pc2 := 1400) (ls2 := [(3, .int (nI i)), (2, .ref 111), (1, .ref 0), (0, .float 4)]) (st2 := [.int ((nI i) + 2), .float 4, .int (ys.getD ((i + 1)) 0), .ref 111]) (w3 := w1) rfl rfl ?_
  rw [show ((nI i) + 2 : Int32) = nI (i + 2) from nI_add i 2]
  refine sx_RP.scr (x := (i + 2)) rfl (by omega) hl (show _ = 1401 from rfl) ?_
  refine sx_RP.callp (as2 := [.ref 111, .int (ys.getD ((i + 1)) 0), .int (ys.getD ((i + 2)) 0)]) (rest2 := []) rfl rfl (sx_inv_v2 (mi := 246) (k := 176) (st := [.int (ys.getD ((i + 2)) 0), .int (ys.getD ((i + 1)) 0), .ref 111]) (w := w1) rfl rfl hI2.1.o111 rfl rfl rfl) rfl rfl rfl (sx_RP.byk (K235 (d := 1) hI2 (ys.getD ((i + 1)) 0) (ys.getD ((i + 2)) 0))) (show _ = 1404 from rfl) ?_
  rintro r4 w7 ⟨⟨⟨v9, rfl⟩, hI8, hE10⟩, hbk12⟩
  have hL11 : LI w7 := hL5.rm hI2 hE10.el hbk12
  show sx_RP _ _ _ _ _ [.int v9] _ _
  refine sx_RP.step (pc2 := 1405) (ls2 := [(3, .int (nI i)), (2, .ref 111), (1, .ref 0), (0, .float 4)]) (st2 := []) (w3 := w7) rfl rfl ?_
  refine sx_RP.step (pc2 := 1539) (ls2 := [(3, .int (nI i)), (2, .ref 111), (1, .ref 0), (0, .float 4)]) (st2 := []) (w3 := w7) rfl rfl ?_
  exact kk w7 hI8 hL11
set_option maxRecDepth 20000 in
set_option maxHeartbeats 4000000 in
theorem lc38 {ys : List Int32} {i : Nat} {w : List sx_C} {P : Option Value → List sx_C → Prop} (hl : ys.length ≤ 3072) (hn : i + 6 ≤ ys.length) (hI : WI w) (hL : LI w) (kk : ∀ w2, WI w2 → LI w2 → sx_RP (some ys) 9 246 1539 [(3, .int (nI i)), (2, .ref 111), (1, .ref 0), (0, .float 4)] [] w2 P) : sx_RP (some ys) 9 246 1408 [(3, .int (nI i)), (2, .ref 111), (1, .ref 0), (0, .float 4)] [] w P := by
  refine sx_RP.step (pc2 := 1409) (ls2 := [(3, .int (nI i)), (2, .ref 111), (1, .ref 0), (0, .float 4)]) (st2 := [.ref 0]) (w3 := w) rfl rfl ?_
  refine sx_RP.step (pc2 := 1410) (ls2 := [(3, .int (nI i)), (2, .ref 111), (1, .ref 0), (0, .float 4)]) (st2 := [.float 4, .ref 0]) (w3 := w) rfl rfl ?_
  refine sx_RP.step (pc2 := 1411) (ls2 := [(3, .int (nI i)), (2, .ref 111), (1, .ref 0), (0, .float 4)]) (st2 := [.int (nI i), .float 4, .ref 0]) (w3 := w) rfl rfl ?_
  refine sx_RP.step (pc2 := 1412) (ls2 := [(3, .int (nI i)), (2, .ref 111), (1, .ref 0), (0, .float 4)]) (st2 := [.int 1, .int (nI i), .float 4, .ref 0]) (w3 := w) rfl rfl ?_
  refine sx_RP.step (pc2 := 1413) (ls2 := [(3, .int (nI i)), (2, .ref 111), (1, .ref 0), (0, .float 4)]) (st2 := [.int ((nI i) + 1), .float 4, .ref 0]) (w3 := w) rfl rfl ?_
  rw [show ((nI i) + 1 : Int32) = nI (i + 1) from nI_add i 1]
  refine sx_RP.scr (x := (i + 1)) rfl (by omega) hl (show _ = 1414 from rfl) ?_
  refine sx_RP.callp (as2 := [.ref 0, .int (ys.getD ((i + 1)) 0)]) (rest2 := []) rfl rfl (sx_inv_v2 (mi := 246) (k := 177) (st := [.int (ys.getD ((i + 1)) 0), .ref 0]) (w := w) rfl rfl hI.1.o0 rfl rfl rfl) rfl rfl rfl (sx_RP.byk (N121 (d := 1) hI (ys.getD ((i + 1)) 0))) (show _ = 1417 from rfl) ?_
  rintro r4 w1 ⟨⟨⟨v3, rfl⟩, hI2, hE4⟩, hbk6⟩
  have hL5 : LI w1 := hL.rc hI hE4 hbk6
  show sx_RP _ _ _ _ _ [.int v3] _ _
  refine sx_RP.step (pc2 := 1418) (ls2 := [(3, .int (nI i)), (2, .ref 111), (1, .ref 0), (0, .float 4)]) (st2 := []) (w3 := w1) rfl rfl ?_
  refine sx_RP.step (pc2 := 1419) (ls2 := [(3, .int (nI i)), (2, .ref 111), (1, .ref 0), (0, .float 4)]) (st2 := [.ref 111]) (w3 := w1) rfl rfl ?_
  refine sx_RP.step (pc2 := 1420) (ls2 := [(3, .int (nI i)), (2, .ref 111), (1, .ref 0), (0, .float 4)]) (st2 := [.float 4, .ref 111]) (w3 := w1) rfl rfl ?_
  refine sx_RP.step (pc2 := 1421) (ls2 := [(3, .int (nI i)), (2, .ref 111), (1, .ref 0), (0, .float 4)]) (st2 := [.int (nI i), .float 4, .ref 111]) (w3 := w1) rfl rfl ?_
  refine sx_RP.step (pc2 := 1422) (ls2 := [(3, .int (nI i)), (2, .ref 111), (1, .ref 0), (0, .float 4)]) (st2 := [.int 1, .int (nI i), .float 4, .ref 111]) (w3 := w1) rfl rfl ?_
  refine sx_RP.step (pc2 := 1423) (ls2 := [(3, .int (nI i)), (2, .ref 111), (1, .ref 0), (0, .float 4)]) (st2 := [.int ((nI i) + 1), .float 4, .ref 111]) (w3 := w1) rfl rfl ?_
  rw [show ((nI i) + 1 : Int32) = nI (i + 1) from nI_add i 1]
  refine sx_RP.scr (x := (i + 1)) rfl (by omega) hl (show _ = 1424 from rfl) ?_
  refine sx_RP.callp (as2 := [.ref 111, .int (ys.getD ((i + 1)) 0)]) (rest2 := []) rfl rfl (sx_inv_v2 (mi := 246) (k := 180) (st := [.int (ys.getD ((i + 1)) 0), .ref 111]) (w := w1) rfl rfl hI2.1.o111 rfl rfl rfl) rfl rfl rfl (sx_RP.byk (K236 (d := 1) hI2 (ys.getD ((i + 1)) 0))) (show _ = 1427 from rfl) ?_
  rintro r4 w7 ⟨⟨⟨v9, rfl⟩, hI8, hE10⟩, hbk12⟩
  have hL11 : LI w7 := hL5.rm hI2 hE10.el hbk12
  show sx_RP _ _ _ _ _ [.int v9] _ _
  refine sx_RP.step (pc2 := 1428) (ls2 := [(3, .int (nI i)), (2, .ref 111), (1, .ref 0), (0, .float 4)]) (st2 := []) (w3 := w7) rfl rfl ?_
  refine sx_RP.step (pc2 := 1539) (ls2 := [(3, .int (nI i)), (2, .ref 111), (1, .ref 0), (0, .float 4)]) (st2 := []) (w3 := w7) rfl rfl ?_
  exact kk w7 hI8 hL11
set_option maxRecDepth 20000 in
set_option maxHeartbeats 4000000 in
theorem lc39 {ys : List Int32} {i : Nat} {w : List sx_C} {P : Option Value → List sx_C → Prop} (hl : ys.length ≤ 3072) (hn : i + 6 ≤ ys.length) (hI : WI w) (hL : LI w) (kk : ∀ w2, WI w2 → LI w2 → sx_RP (some ys) 9 246 1539 [(3, .int (nI i)), (2, .ref 111), (1, .ref 0), (0, .float 4)] [] w2 P) : sx_RP (some ys) 9 246 1431 [(3, .int (nI i)), (2, .ref 111), (1, .ref 0), (0, .float 4)] [] w P := by
  refine sx_RP.step (pc2 := 1432) (ls2 := [(3, .int (nI i)), (2, .ref 111), (1, .ref 0), (0, .float 4)]) (st2 := [.ref 0]) (w3 := w) rfl rfl ?_
  refine sx_RP.step (pc2 := 1433) (ls2 := [(3, .int (nI i)), (2, .ref 111), (1, .ref 0), (0, .float 4)]) (st2 := [.float 4, .ref 0]) (w3 := w) rfl rfl ?_
  refine sx_RP.step (pc2 := 1434) (ls2 := [(3, .int (nI i)), (2, .ref 111), (1, .ref 0), (0, .float 4)]) (st2 := [.int (nI i), .float 4, .ref 0]) (w3 := w) rfl rfl ?_
  refine sx_RP.step (pc2 := 1435) (ls2 := [(3, .int (nI i)), (2, .ref 111), (1, .ref 0), (0, .float 4)]) (st2 := [.int 1, .int (nI i), .float 4, .ref 0]) (w3 := w) rfl rfl ?_
  refine sx_RP.step (pc2 := 1436) (ls2 := [(3, .int (nI i)), (2, .ref 111), (1, .ref 0), (0, .float 4)]) (st2 := [.int ((nI i) + 1), .float 4, .ref 0]) (w3 := w) rfl rfl ?_
  rw [show ((nI i) + 1 : Int32) = nI (i + 1) from nI_add i 1]
  refine sx_RP.scr (x := (i + 1)) rfl (by omega) hl (show _ = 1437 from rfl) ?_
  refine sx_RP.callp (as2 := [.ref 0, .int (ys.getD ((i + 1)) 0)]) (rest2 := []) rfl rfl (sx_inv_v2 (mi := 246) (k := 181) (st := [.int (ys.getD ((i + 1)) 0), .ref 0]) (w := w) rfl rfl hI.1.o0 rfl rfl rfl) rfl rfl rfl (sx_RP.byk (Q122 (d := 1) hI (ys.getD ((i + 1)) 0))) (show _ = 1440 from rfl) ?_
  rintro r4 w1 ⟨⟨⟨v3, rfl⟩, hI2, hE4⟩, hbk6⟩
  have hL5 : LI w1 := hL.rc hI hE4.en hbk6
  show sx_RP _ _ _ _ _ [.int v3] _ _
  refine sx_RP.step (pc2 := 1441) (ls2 := [(3, .int (nI i)), (2, .ref 111), (1, .ref 0), (0, .float 4)]) (st2 := []) (w3 := w1) rfl rfl ?_
  refine sx_RP.step (pc2 := 1442) (ls2 := [(3, .int (nI i)), (2, .ref 111), (1, .ref 0), (0, .float 4)]) (st2 := [.ref 111]) (w3 := w1) rfl rfl ?_
  refine sx_RP.step (pc2 := 1443) (ls2 := [(3, .int (nI i)), (2, .ref 111), (1, .ref 0), (0, .float 4)]) (st2 := [.float 4, .ref 111]) (w3 := w1) rfl rfl ?_
  refine sx_RP.step (pc2 := 1444) (ls2 := [(3, .int (nI i)), (2, .ref 111), (1, .ref 0), (0, .float 4)]) (st2 := [.int (nI i), .float 4, .ref 111]) (w3 := w1) rfl rfl ?_
  refine sx_RP.step (pc2 := 1445) (ls2 := [(3, .int (nI i)), (2, .ref 111), (1, .ref 0), (0, .float 4)]) (st2 := [.int 1, .int (nI i), .float 4, .ref 111]) (w3 := w1) rfl rfl ?_
  refine sx_RP.step (pc2 := 1446) (ls2 := [(3, .int (nI i)), (2, .ref 111), (1, .ref 0), (0, .float 4)]) (st2 := [.int ((nI i) + 1), .float 4, .ref 111]) (w3 := w1) rfl rfl ?_
  rw [show ((nI i) + 1 : Int32) = nI (i + 1) from nI_add i 1]
  refine sx_RP.scr (x := (i + 1)) rfl (by omega) hl (show _ = 1447 from rfl) ?_
  refine sx_RP.callp (as2 := [.ref 111, .int (ys.getD ((i + 1)) 0)]) (rest2 := []) rfl rfl (sx_inv_v2 (mi := 246) (k := 184) (st := [.int (ys.getD ((i + 1)) 0), .ref 111]) (w := w1) rfl rfl hI2.1.o111 rfl rfl rfl) rfl rfl rfl (sx_RP.byk (K238 (d := 1) hI2 (ys.getD ((i + 1)) 0))) (show _ = 1450 from rfl) ?_
  rintro r4 w7 ⟨⟨⟨v9, rfl⟩, hI8, hE10⟩, hbk12⟩
  have hL11 : LI w7 := hL5.rm hI2 hE10 hbk12
  show sx_RP _ _ _ _ _ [.int v9] _ _
  refine sx_RP.step (pc2 := 1451) (ls2 := [(3, .int (nI i)), (2, .ref 111), (1, .ref 0), (0, .float 4)]) (st2 := []) (w3 := w7) rfl rfl ?_
  refine sx_RP.step (pc2 := 1539) (ls2 := [(3, .int (nI i)), (2, .ref 111), (1, .ref 0), (0, .float 4)]) (st2 := []) (w3 := w7) rfl rfl ?_
  exact kk w7 hI8 hL11
set_option maxRecDepth 20000 in
set_option maxHeartbeats 4000000 in
theorem lc40 {ys : List Int32} {i : Nat} {w : List sx_C} {P : Option Value → List sx_C → Prop} (hl : ys.length ≤ 3072) (hn : i + 6 ≤ ys.length) (hI : WI w) (hL : LI w) (kk : ∀ w2, WI w2 → LI w2 → sx_RP (some ys) 9 246 1539 [(3, .int (nI i)), (2, .ref 111), (1, .ref 0), (0, .float 4)] [] w2 P) : sx_RP (some ys) 9 246 1454 [(3, .int (nI i)), (2, .ref 111), (1, .ref 0), (0, .float 4)] [] w P := by
  refine sx_RP.step (pc2 := 1455) (ls2 := [(3, .int (nI i)), (2, .ref 111), (1, .ref 0), (0, .float 4)]) (st2 := [.ref 0]) (w3 := w) rfl rfl ?_
  refine sx_RP.callp (as2 := [.ref 0]) (rest2 := []) rfl rfl (sx_inv_v2 (mi := 246) (k := 185) (st := [.ref 0]) (w := w) rfl rfl hI.1.o0 rfl rfl rfl) rfl rfl rfl (sx_RP.byk (B124 (d := 1) hI)) (show _ = 1458 from rfl) ?_
  rintro r4 w1 ⟨⟨⟨rfl, hF4⟩, hI2, hE3⟩, hbk5⟩
  show sx_RP _ _ _ _ _ [.int 1] _ _
  refine sx_RP.step (pc2 := 1459) (ls2 := [(3, .int (nI i)), (2, .ref 111), (1, .ref 0), (0, .float 4)]) (st2 := []) (w3 := w1) rfl rfl ?_
  refine sx_RP.step (pc2 := 1460) (ls2 := [(3, .int (nI i)), (2, .ref 111), (1, .ref 0), (0, .float 4)]) (st2 := [.ref 111]) (w3 := w1) rfl rfl ?_
  refine sx_RP.callp (as2 := [.ref 111]) (rest2 := []) rfl rfl (sx_inv_v2 (mi := 246) (k := 188) (st := [.ref 111]) (w := w1) rfl rfl hI2.1.o111 rfl rfl rfl) rfl rfl rfl (sx_RP.byk (B240 (d := 1) hI2)) (show _ = 1463 from rfl) ?_
  rintro r4 w6 ⟨⟨⟨rfl, hF9⟩, hI7, hE8⟩, hbk11⟩
  have hL10 : LI w6 := LI.two (fun t => imgU t) hL hE3 hF4 hI2 hE8 hF9 (hL.1.2.img) hbk5 hbk11
  show sx_RP _ _ _ _ _ [.int 1] _ _
  refine sx_RP.step (pc2 := 1464) (ls2 := [(3, .int (nI i)), (2, .ref 111), (1, .ref 0), (0, .float 4)]) (st2 := []) (w3 := w6) rfl rfl ?_
  refine sx_RP.step (pc2 := 1539) (ls2 := [(3, .int (nI i)), (2, .ref 111), (1, .ref 0), (0, .float 4)]) (st2 := []) (w3 := w6) rfl rfl ?_
  exact kk w6 hI7 hL10
set_option maxRecDepth 20000 in
set_option maxHeartbeats 4000000 in
theorem lc41 {ys : List Int32} {i : Nat} {w : List sx_C} {P : Option Value → List sx_C → Prop} (hl : ys.length ≤ 3072) (hn : i + 6 ≤ ys.length) (hI : WI w) (hL : LI w) (kk : ∀ w2, WI w2 → LI w2 → sx_RP (some ys) 9 246 1539 [(3, .int (nI i)), (2, .ref 111), (1, .ref 0), (0, .float 4)] [] w2 P) : sx_RP (some ys) 9 246 1467 [(3, .int (nI i)), (2, .ref 111), (1, .ref 0), (0, .float 4)] [] w P := by
  refine sx_RP.step (pc2 := 1468) (ls2 := [(3, .int (nI i)), (2, .ref 111), (1, .ref 0), (0, .float 4)]) (st2 := [.ref 0]) (w3 := w) rfl rfl ?_
  refine sx_RP.callp (as2 := [.ref 0]) (rest2 := []) rfl rfl (sx_inv_v2 (mi := 246) (k := 189) (st := [.ref 0]) (w := w) rfl rfl hI.1.o0 rfl rfl rfl) rfl rfl rfl (sx_RP.byk (B125 (d := 1) hI)) (show _ = 1471 from rfl) ?_
  rintro r4 w1 ⟨⟨⟨rfl, hF4⟩, hI2, hE3⟩, hbk5⟩
  show sx_RP _ _ _ _ _ [.int (undA (FCb w))] _ _
  refine sx_RP.step (pc2 := 1472) (ls2 := [(3, .int (nI i)), (2, .ref 111), (1, .ref 0), (0, .float 4)]) (st2 := [.ref 111, .int (undA (FCb w))]) (w3 := w1) rfl rfl ?_
  refine sx_RP.callp (as2 := [.ref 111]) (rest2 := [.int (undA (FCb w))]) rfl rfl (sx_inv_v2 (mi := 246) (k := 192) (st := [.ref 111, .int (undA (FCb w))]) (w := w1) rfl rfl hI2.1.o111 rfl rfl rfl) rfl rfl rfl (sx_RP.byk (B241 (d := 1) hI2)) (show _ = 1475 from rfl) ?_
  rintro r4 w6 ⟨⟨⟨rfl, hF9⟩, hI7, hE8⟩, hbk11⟩
  have hL10 : LI w6 := LI.two (fun t => undU t) hL hE3 hF4 hI2 hE8 hF9 (hL.1.2.und) hbk5 hbk11
  show sx_RP _ _ _ _ _ [.int (undA (FMb w1)), .int (undA (FCb w))] _ _
  refine sx_RP.br (p1 := 1539) (l1 := [(3, .int (nI i)), (2, .ref 111), (1, .ref 0), (0, .float 4)]) (s1 := []) (v1 := w6) rfl rfl (fun _ => ?_) (fun q => absurd (show undA (FCb w) = undA (FMb w1) by rw [hL.mid hE3]) (of_decide_eq_false q))
  exact kk w6 hI7 hL10
set_option maxRecDepth 20000 in
set_option maxHeartbeats 4000000 in
theorem lc42 {ys : List Int32} {i : Nat} {w : List sx_C} {P : Option Value → List sx_C → Prop} (hl : ys.length ≤ 3072) (hn : i + 6 ≤ ys.length) (hI : WI w) (hL : LI w) (kk : ∀ w2, WI w2 → LI w2 → sx_RP (some ys) 9 246 1539 [(3, .int (nI i)), (2, .ref 111), (1, .ref 0), (0, .float 4)] [] w2 P) : sx_RP (some ys) 9 246 1480 [(3, .int (nI i)), (2, .ref 111), (1, .ref 0), (0, .float 4)] [] w P := by
  refine sx_RP.step (pc2 := 1481) (ls2 := [(3, .int (nI i)), (2, .ref 111), (1, .ref 0), (0, .float 4)]) (st2 := [.ref 0]) (w3 := w) rfl rfl ?_
  refine sx_RP.callp (as2 := [.ref 0]) (rest2 := []) rfl rfl (sx_inv_v2 (mi := 246) (k := 193) (st := [.ref 0]) (w := w) rfl rfl hI.1.o0 rfl rfl rfl) rfl rfl rfl (sx_RP.byk (B126 (d := 1) hI)) (show _ = 1484 from rfl) ?_
  rintro r4 w1 ⟨⟨⟨rfl, hF4⟩, hI2, hE3⟩, hbk5⟩
  show sx_RP _ _ _ _ _ [.int ((FCb w).2.1)] _ _
  refine sx_RP.step (pc2 := 1485) (ls2 := [(3, .int (nI i)), (2, .ref 111), (1, .ref 0), (0, .float 4)]) (st2 := []) (w3 := w1) rfl rfl ?_
  refine sx_RP.step (pc2 := 1486) (ls2 := [(3, .int (nI i)), (2, .ref 111), (1, .ref 0), (0, .float 4)]) (st2 := [.ref 111]) (w3 := w1) rfl rfl ?_
  refine sx_RP.callp (as2 := [.ref 111]) (rest2 := []) rfl rfl (sx_inv_v2 (mi := 246) (k := 196) (st := [.ref 111]) (w := w1) rfl rfl hI2.1.o111 rfl rfl rfl) rfl rfl rfl (sx_RP.byk (B242 (d := 1) hI2)) (show _ = 1489 from rfl) ?_
  rintro r4 w6 ⟨⟨⟨rfl, hF9⟩, hI7, hE8⟩, hbk11⟩
  have hL10 : LI w6 := LI.two (fun t => teaU t) hL hE3 hF4 hI2 hE8 hF9 (hL.1.2.tea) hbk5 hbk11
  show sx_RP _ _ _ _ _ [.int ((FMb w1).2.1)] _ _
  refine sx_RP.step (pc2 := 1490) (ls2 := [(3, .int (nI i)), (2, .ref 111), (1, .ref 0), (0, .float 4)]) (st2 := []) (w3 := w6) rfl rfl ?_
  refine sx_RP.step (pc2 := 1539) (ls2 := [(3, .int (nI i)), (2, .ref 111), (1, .ref 0), (0, .float 4)]) (st2 := []) (w3 := w6) rfl rfl ?_
  exact kk w6 hI7 hL10
set_option maxRecDepth 20000 in
set_option maxHeartbeats 4000000 in
theorem lc43 {ys : List Int32} {i : Nat} {w : List sx_C} {P : Option Value → List sx_C → Prop} (hl : ys.length ≤ 3072) (hn : i + 6 ≤ ys.length) (hI : WI w) (hL : LI w) (kk : ∀ w2, WI w2 → LI w2 → sx_RP (some ys) 9 246 1539 [(3, .int (nI i)), (2, .ref 111), (1, .ref 0), (0, .float 4)] [] w2 P) : sx_RP (some ys) 9 246 1493 [(3, .int (nI i)), (2, .ref 111), (1, .ref 0), (0, .float 4)] [] w P := by
  refine sx_RP.step (pc2 := 1494) (ls2 := [(3, .int (nI i)), (2, .ref 111), (1, .ref 0), (0, .float 4)]) (st2 := [.ref 0]) (w3 := w) rfl rfl ?_
  refine sx_RP.step (pc2 := 1495) (ls2 := [(3, .int (nI i)), (2, .ref 111), (1, .ref 0), (0, .float 4)]) (st2 := [.float 4, .ref 0]) (w3 := w) rfl rfl ?_
  refine sx_RP.step (pc2 := 1496) (ls2 := [(3, .int (nI i)), (2, .ref 111), (1, .ref 0), (0, .float 4)]) (st2 := [.int (nI i), .float 4, .ref 0]) (w3 := w) rfl rfl ?_
  refine sx_RP.step (pc2 := 1497) (ls2 := [(3, .int (nI i)), (2, .ref 111), (1, .ref 0), (0, .float 4)]) (st2 := [.int 1, .int (nI i), .float 4, .ref 0]) (w3 := w) rfl rfl ?_
  refine sx_RP.step (pc2 := 1498) (ls2 := [(3, .int (nI i)), (2, .ref 111), (1, .ref 0), (0, .float 4)]) (st2 := [.int ((nI i) + 1), .float 4, .ref 0]) (w3 := w) rfl rfl ?_
  rw [show ((nI i) + 1 : Int32) = nI (i + 1) from nI_add i 1]
  refine sx_RP.scr (x := (i + 1)) rfl (by omega) hl (show _ = 1499 from rfl) ?_
  refine sx_RP.callp (as2 := [.ref 0, .int (ys.getD ((i + 1)) 0)]) (rest2 := []) rfl rfl (sx_inv_v2 (mi := 246) (k := 197) (st := [.int (ys.getD ((i + 1)) 0), .ref 0]) (w := w) rfl rfl hI.1.o0 rfl rfl rfl) rfl rfl rfl (sx_RP.byk (Q127 (d := 1) hI (ys.getD ((i + 1)) 0))) (show _ = 1502 from rfl) ?_
  rintro r4 w1 ⟨⟨⟨v3, rfl⟩, hI2, hE4⟩, hbk6⟩
  have hL5 : LI w1 := hL.rc hI hE4.en hbk6
  show sx_RP _ _ _ _ _ [.int v3] _ _
  refine sx_RP.step (pc2 := 1503) (ls2 := [(3, .int (nI i)), (2, .ref 111), (1, .ref 0), (0, .float 4)]) (st2 := []) (w3 := w1) rfl rfl ?_
  refine sx_RP.step (pc2 := 1504) (ls2 := [(3, .int (nI i)), (2, .ref 111), (1, .ref 0), (0, .float 4)]) (st2 := [.ref 111]) (w3 := w1) rfl rfl ?_
  refine sx_RP.step (pc2 := 1505) (ls2 := [(3, .int (nI i)), (2, .ref 111), (1, .ref 0), (0, .float 4)]) (st2 := [.float 4, .ref 111]) (w3 := w1) rfl rfl ?_
  refine sx_RP.step (pc2 := 1506) (ls2 := [(3, .int (nI i)), (2, .ref 111), (1, .ref 0), (0, .float 4)]) (st2 := [.int (nI i), .float 4, .ref 111]) (w3 := w1) rfl rfl ?_
  refine sx_RP.step (pc2 := 1507) (ls2 := [(3, .int (nI i)), (2, .ref 111), (1, .ref 0), (0, .float 4)]) (st2 := [.int 1, .int (nI i), .float 4, .ref 111]) (w3 := w1) rfl rfl ?_
  refine sx_RP.step (pc2 := 1508) (ls2 := [(3, .int (nI i)), (2, .ref 111), (1, .ref 0), (0, .float 4)]) (st2 := [.int ((nI i) + 1), .float 4, .ref 111]) (w3 := w1) rfl rfl ?_
  rw [show ((nI i) + 1 : Int32) = nI (i + 1) from nI_add i 1]
  refine sx_RP.scr (x := (i + 1)) rfl (by omega) hl (show _ = 1509 from rfl) ?_
  refine sx_RP.callp (as2 := [.ref 111, .int (ys.getD ((i + 1)) 0)]) (rest2 := []) rfl rfl (sx_inv_v2 (mi := 246) (k := 200) (st := [.int (ys.getD ((i + 1)) 0), .ref 111]) (w := w1) rfl rfl hI2.1.o111 rfl rfl rfl) rfl rfl rfl (sx_RP.byk (K243 (d := 1) hI2 (ys.getD ((i + 1)) 0))) (show _ = 1512 from rfl) ?_
  rintro r4 w7 ⟨⟨⟨v9, rfl⟩, hI8, hE10⟩, hbk12⟩
  have hL11 : LI w7 := hL5.rm hI2 hE10.el hbk12
  show sx_RP _ _ _ _ _ [.int v9] _ _
  refine sx_RP.step (pc2 := 1513) (ls2 := [(3, .int (nI i)), (2, .ref 111), (1, .ref 0), (0, .float 4)]) (st2 := []) (w3 := w7) rfl rfl ?_
  refine sx_RP.step (pc2 := 1539) (ls2 := [(3, .int (nI i)), (2, .ref 111), (1, .ref 0), (0, .float 4)]) (st2 := []) (w3 := w7) rfl rfl ?_
  exact kk w7 hI8 hL11
set_option maxRecDepth 20000 in
set_option maxHeartbeats 4000000 in
theorem lc44 {ys : List Int32} {i : Nat} {w : List sx_C} {P : Option Value → List sx_C → Prop} (hl : ys.length ≤ 3072) (hn : i + 6 ≤ ys.length) (hI : WI w) (hL : LI w) (kk : ∀ w2, WI w2 → LI w2 → sx_RP (some ys) 9 246 1539 [(3, .int (nI i)), (2, .ref 111), (1, .ref 0), (0, .float 4)] [] w2 P) : sx_RP (some ys) 9 246 1516 [(3, .int (nI i)), (2, .ref 111), (1, .ref 0), (0, .float 4)] [] w P := by
  refine sx_RP.step (pc2 := 1517) (ls2 := [(3, .int (nI i)), (2, .ref 111), (1, .ref 0), (0, .float 4)]) (st2 := [.ref 0]) (w3 := w) rfl rfl ?_
  refine sx_RP.step (pc2 := 1518) (ls2 := [(3, .int (nI i)), (2, .ref 111), (1, .ref 0), (0, .float 4)]) (st2 := [.float 4, .ref 0]) (w3 := w) rfl rfl ?_
  refine sx_RP.step (pc2 := 1519) (ls2 := [(3, .int (nI i)), (2, .ref 111), (1, .ref 0), (0, .float 4)]) (st2 := [.int (nI i), .float 4, .ref 0]) (w3 := w) rfl rfl ?_
  refine sx_RP.step (pc2 := 1520) (ls2 := [(3, .int (nI i)), (2, .ref 111), (1, .ref 0), (0, .float 4)]) (st2 := [.int 1, .int (nI i), .float 4, .ref 0]) (w3 := w) rfl rfl ?_
  refine sx_RP.step (pc2 := 1521) (ls2 := [(3, .int (nI i)), (2, .ref 111), (1, .ref 0), (0, .float 4)]) (st2 := [.int ((nI i) + 1), .float 4, .ref 0]) (w3 := w) rfl rfl ?_
  rw [show ((nI i) + 1 : Int32) = nI (i + 1) from nI_add i 1]
  refine sx_RP.scr (x := (i + 1)) rfl (by omega) hl (show _ = 1522 from rfl) ?_
  refine sx_RP.callp (as2 := [.ref 0, .int (ys.getD ((i + 1)) 0)]) (rest2 := []) rfl rfl (sx_inv_v2 (mi := 246) (k := 201) (st := [.int (ys.getD ((i + 1)) 0), .ref 0]) (w := w) rfl rfl hI.1.o0 rfl rfl rfl) rfl rfl rfl (sx_RP.byk (Q128 (d := 1) hI (ys.getD ((i + 1)) 0))) (show _ = 1525 from rfl) ?_
  rintro r4 w1 ⟨⟨⟨v3, rfl⟩, hI2, hE4⟩, hbk6⟩
  have hL5 : LI w1 := hL.rc hI hE4.en hbk6
  show sx_RP _ _ _ _ _ [.int v3] _ _
  refine sx_RP.step (pc2 := 1526) (ls2 := [(3, .int (nI i)), (2, .ref 111), (1, .ref 0), (0, .float 4)]) (st2 := []) (w3 := w1) rfl rfl ?_
  refine sx_RP.step (pc2 := 1527) (ls2 := [(3, .int (nI i)), (2, .ref 111), (1, .ref 0), (0, .float 4)]) (st2 := [.ref 111]) (w3 := w1) rfl rfl ?_
  refine sx_RP.step (pc2 := 1528) (ls2 := [(3, .int (nI i)), (2, .ref 111), (1, .ref 0), (0, .float 4)]) (st2 := [.float 4, .ref 111]) (w3 := w1) rfl rfl ?_
  refine sx_RP.step (pc2 := 1529) (ls2 := [(3, .int (nI i)), (2, .ref 111), (1, .ref 0), (0, .float 4)]) (st2 := [.int (nI i), .float 4, .ref 111]) (w3 := w1) rfl rfl ?_
  refine sx_RP.step (pc2 := 1530) (ls2 := [(3, .int (nI i)), (2, .ref 111), (1, .ref 0), (0, .float 4)]) (st2 := [.int 1, .int (nI i), .float 4, .ref 111]) (w3 := w1) rfl rfl ?_
  refine sx_RP.step (pc2 := 1531) (ls2 := [(3, .int (nI i)), (2, .ref 111), (1, .ref 0), (0, .float 4)]) (st2 := [.int ((nI i) + 1), .float 4, .ref 111]) (w3 := w1) rfl rfl ?_
  rw [show ((nI i) + 1 : Int32) = nI (i + 1) from nI_add i 1]
  refine sx_RP.scr (x := (i + 1)) rfl (by omega) hl (show _ = 1532 from rfl) ?_
  refine sx_RP.callp (as2 := [.ref 111, .int (ys.getD ((i + 1)) 0)]) (rest2 := []) rfl rfl (sx_inv_v2 (mi := 246) (k := 204) (st := [.int (ys.getD ((i + 1)) 0), .ref 111]) (w := w1) rfl rfl hI2.1.o111 rfl rfl rfl) rfl rfl rfl (sx_RP.byk (K245 (d := 1) hI2 (ys.getD ((i + 1)) 0))) (show _ = 1535 from rfl) ?_
  rintro r4 w7 ⟨⟨⟨v9, rfl⟩, hI8, hE10⟩, hbk12⟩
  have hL11 : LI w7 := hL5.rm hI2 hE10.el hbk12
  show sx_RP _ _ _ _ _ [.int v9] _ _
  refine sx_RP.step (pc2 := 1536) (ls2 := [(3, .int (nI i)), (2, .ref 111), (1, .ref 0), (0, .float 4)]) (st2 := []) (w3 := w7) rfl rfl ?_
  refine sx_RP.step (pc2 := 1539) (ls2 := [(3, .int (nI i)), (2, .ref 111), (1, .ref 0), (0, .float 4)]) (st2 := []) (w3 := w7) rfl rfl ?_
  exact kk w7 hI8 hL11
end
-- 98.loop.lean.txt
section
set_option maxRecDepth 20000 in
set_option maxHeartbeats 4000000 in
theorem law_loop {ys : List Int32} (hl : ys.length ≤ 3072) : ∀ (n i : Nat) (w : List sx_C), i ≤ ys.length → ys.length ≤ i + n → WI w → LI w → sx_RP (some ys) 9 246 18 [(3, .int (nI i)), (2, .ref 111), (1, .ref 0), (0, .float 4)] [] w (fun r _ => r = some (.int 1)) := by
  intro n
  induction n with
  | zero =>
    intro i w h1 h2 hI hL
    refine sx_RP.step (pc2 := 19) (ls2 := [(3, .int (nI i)), (2, .ref 111), (1, .ref 0), (0, .float 4)]) (st2 := [.int (nI i)]) (w3 := w) rfl rfl ?_
    refine sx_RP.step (pc2 := 20) (ls2 := [(3, .int (nI i)), (2, .ref 111), (1, .ref 0), (0, .float 4)]) (st2 := [.float 4, .int (nI i)]) (w3 := w) rfl rfl ?_
    refine sx_RP.step (pc2 := 21) (ls2 := [(3, .int (nI i)), (2, .ref 111), (1, .ref 0), (0, .float 4)]) (st2 := [.int (nI ys.length), .int (nI i)]) (w3 := w) rfl rfl ?_
    refine sx_RP.step (pc2 := 23) (ls2 := [(3, .int (nI i)), (2, .ref 111), (1, .ref 0), (0, .float 4)]) (st2 := [.int 6, .int (nI ys.length), .int (nI i)]) (w3 := w) rfl rfl ?_
    refine sx_RP.step (pc2 := 24) (ls2 := [(3, .int (nI i)), (2, .ref 111), (1, .ref 0), (0, .float 4)]) (st2 := [.int (nI ys.length - 6), .int (nI i)]) (w3 := w) rfl rfl ?_
    refine sx_RP.br (p1 := 1545) (l1 := [(3, .int (nI i)), (2, .ref 111), (1, .ref 0), (0, .float 4)]) (s1 := []) (v1 := w) (p2 := 27) (l2 := [(3, .int (nI i)), (2, .ref 111), (1, .ref 0), (0, .float 4)]) (s2 := []) (v2 := w) rfl rfl (fun q => ?_) (fun q => ?_)
    · refine sx_RP.step (pc2 := 1546) (ls2 := [(3, .int (nI i)), (2, .ref 111), (1, .ref 0), (0, .float 4)]) (st2 := [.int 1]) (w3 := w) rfl rfl ?_
      exact sx_RP.ret (r := some (.int 1)) rfl rfl rfl
    · exact absurd (law_le hl (by omega) (of_decide_eq_false q)) (by omega)
  | succ n IH =>
    intro i w h1 h2 hI hL
    refine sx_RP.step (pc2 := 19) (ls2 := [(3, .int (nI i)), (2, .ref 111), (1, .ref 0), (0, .float 4)]) (st2 := [.int (nI i)]) (w3 := w) rfl rfl ?_
    refine sx_RP.step (pc2 := 20) (ls2 := [(3, .int (nI i)), (2, .ref 111), (1, .ref 0), (0, .float 4)]) (st2 := [.float 4, .int (nI i)]) (w3 := w) rfl rfl ?_
    refine sx_RP.step (pc2 := 21) (ls2 := [(3, .int (nI i)), (2, .ref 111), (1, .ref 0), (0, .float 4)]) (st2 := [.int (nI ys.length), .int (nI i)]) (w3 := w) rfl rfl ?_
    refine sx_RP.step (pc2 := 23) (ls2 := [(3, .int (nI i)), (2, .ref 111), (1, .ref 0), (0, .float 4)]) (st2 := [.int 6, .int (nI ys.length), .int (nI i)]) (w3 := w) rfl rfl ?_
    refine sx_RP.step (pc2 := 24) (ls2 := [(3, .int (nI i)), (2, .ref 111), (1, .ref 0), (0, .float 4)]) (st2 := [.int (nI ys.length - 6), .int (nI i)]) (w3 := w) rfl rfl ?_
    refine sx_RP.br (p1 := 1545) (l1 := [(3, .int (nI i)), (2, .ref 111), (1, .ref 0), (0, .float 4)]) (s1 := []) (v1 := w) (p2 := 27) (l2 := [(3, .int (nI i)), (2, .ref 111), (1, .ref 0), (0, .float 4)]) (s2 := []) (v2 := w) rfl rfl (fun q => ?_) (fun q => ?_)
    · refine sx_RP.step (pc2 := 1546) (ls2 := [(3, .int (nI i)), (2, .ref 111), (1, .ref 0), (0, .float 4)]) (st2 := [.int 1]) (w3 := w) rfl rfl ?_
      exact sx_RP.ret (r := some (.int 1)) rfl rfl rfl
    · have hn := law_le hl (by omega) (of_decide_eq_false q)
      have kk : ∀ w2, WI w2 → LI w2 → sx_RP (some ys) 9 246 1539 [(3, .int (nI i)), (2, .ref 111), (1, .ref 0), (0, .float 4)] [] w2 (fun r _ => r = some (.int 1)) := by
        intro w2 hI2 hL2
        refine sx_RP.step (pc2 := 1542) (ls2 := [(3, .int (nI i + 6)), (2, .ref 111), (1, .ref 0), (0, .float 4)]) (st2 := []) (w3 := w2) rfl rfl ?_
        rw [show (nI i + 6 : Int32) = nI (i + 6) from nI_add i 6]
        refine sx_RP.step (pc2 := 18) (ls2 := [(3, .int (nI (i + 6))), (2, .ref 111), (1, .ref 0), (0, .float 4)]) (st2 := []) (w3 := w2) rfl rfl ?_
        exact IH (i + 6) w2 (by omega) (by omega) hI2 hL2
      refine sx_RP.step (pc2 := 28) (ls2 := [(3, .int (nI i)), (2, .ref 111), (1, .ref 0), (0, .float 4)]) (st2 := [.float 4]) (w3 := w) rfl rfl ?_
      refine sx_RP.step (pc2 := 29) (ls2 := [(3, .int (nI i)), (2, .ref 111), (1, .ref 0), (0, .float 4)]) (st2 := [.int (nI i), .float 4]) (w3 := w) rfl rfl ?_
      refine sx_RP.scr (x := i) rfl (by omega) hl (show _ = 30 from rfl) ?_
      refine sx_RP.step (pc2 := 32) (ls2 := [(3, .int (nI i)), (2, .ref 111), (1, .ref 0), (0, .float 4)]) (st2 := [.int 63, .int (ys.getD i 0)]) (w3 := w) rfl rfl ?_
      refine sx_RP.step (pc2 := 33) (ls2 := [(3, .int (nI i)), (2, .ref 111), (1, .ref 0), (0, .float 4)]) (st2 := [.int (ys.getD i 0 &&& 63)]) (w3 := w) rfl rfl ?_
      rcases sw_cases (n := 44) (ys.getD i 0 &&& 63) with q | ⟨j, hj, ex⟩
      · exact sx_RP.swo (t := 1539) rfl q rfl (kk w hI hL)
      · rw [ex]
        match j, hj with
        | 0, _ => exact sx_RP.step (pc2 := 228) (ls2 := [(3, .int (nI i)), (2, .ref 111), (1, .ref 0), (0, .float 4)]) (st2 := []) (w3 := w) rfl rfl (lc0 hl hn hI hL kk)
        | 1, _ => exact sx_RP.step (pc2 := 261) (ls2 := [(3, .int (nI i)), (2, .ref 111), (1, .ref 0), (0, .float 4)]) (st2 := []) (w3 := w) rfl rfl (lc1 hl hn hI hL kk)
        | 2, _ => exact sx_RP.step (pc2 := 310) (ls2 := [(3, .int (nI i)), (2, .ref 111), (1, .ref 0), (0, .float 4)]) (st2 := []) (w3 := w) rfl rfl (lc2 hl hn hI hL kk)
        | 3, _ => exact sx_RP.step (pc2 := 343) (ls2 := [(3, .int (nI i)), (2, .ref 111), (1, .ref 0), (0, .float 4)]) (st2 := []) (w3 := w) rfl rfl (lc3 hl hn hI hL kk)
        | 4, _ => exact sx_RP.step (pc2 := 356) (ls2 := [(3, .int (nI i)), (2, .ref 111), (1, .ref 0), (0, .float 4)]) (st2 := []) (w3 := w) rfl rfl (lc4 hl hn hI hL kk)
        | 5, _ => exact sx_RP.step (pc2 := 389) (ls2 := [(3, .int (nI i)), (2, .ref 111), (1, .ref 0), (0, .float 4)]) (st2 := []) (w3 := w) rfl rfl (lc5 hl hn hI hL kk)
        | 6, _ => exact sx_RP.step (pc2 := 442) (ls2 := [(3, .int (nI i)), (2, .ref 111), (1, .ref 0), (0, .float 4)]) (st2 := []) (w3 := w) rfl rfl (lc6 hl hn hI hL kk)
        | 7, _ => exact sx_RP.step (pc2 := 475) (ls2 := [(3, .int (nI i)), (2, .ref 111), (1, .ref 0), (0, .float 4)]) (st2 := []) (w3 := w) rfl rfl (lc7 hl hn hI hL kk)
        | 8, _ => exact sx_RP.step (pc2 := 508) (ls2 := [(3, .int (nI i)), (2, .ref 111), (1, .ref 0), (0, .float 4)]) (st2 := []) (w3 := w) rfl rfl (lc8 hl hn hI hL kk)
        | 9, _ => exact sx_RP.step (pc2 := 541) (ls2 := [(3, .int (nI i)), (2, .ref 111), (1, .ref 0), (0, .float 4)]) (st2 := []) (w3 := w) rfl rfl (lc9 hl hn hI hL kk)
        | 10, _ => exact sx_RP.step (pc2 := 574) (ls2 := [(3, .int (nI i)), (2, .ref 111), (1, .ref 0), (0, .float 4)]) (st2 := []) (w3 := w) rfl rfl (lc10 hl hn hI hL kk)
        | 11, _ => exact sx_RP.step (pc2 := 617) (ls2 := [(3, .int (nI i)), (2, .ref 111), (1, .ref 0), (0, .float 4)]) (st2 := []) (w3 := w) rfl rfl (lc11 hl hn hI hL kk)
        | 12, _ => exact sx_RP.step (pc2 := 640) (ls2 := [(3, .int (nI i)), (2, .ref 111), (1, .ref 0), (0, .float 4)]) (st2 := []) (w3 := w) rfl rfl (lc12 hl hn hI hL kk)
        | 13, _ => exact sx_RP.step (pc2 := 663) (ls2 := [(3, .int (nI i)), (2, .ref 111), (1, .ref 0), (0, .float 4)]) (st2 := []) (w3 := w) rfl rfl (lc13 hl hn hI hL kk)
        | 14, _ => exact sx_RP.step (pc2 := 696) (ls2 := [(3, .int (nI i)), (2, .ref 111), (1, .ref 0), (0, .float 4)]) (st2 := []) (w3 := w) rfl rfl (lc14 hl hn hI hL kk)
        | 15, _ => exact sx_RP.step (pc2 := 719) (ls2 := [(3, .int (nI i)), (2, .ref 111), (1, .ref 0), (0, .float 4)]) (st2 := []) (w3 := w) rfl rfl (lc15 hl hn hI hL kk)
        | 16, _ => exact sx_RP.step (pc2 := 732) (ls2 := [(3, .int (nI i)), (2, .ref 111), (1, .ref 0), (0, .float 4)]) (st2 := []) (w3 := w) rfl rfl (lc16 hl hn hI hL kk)
        | 17, _ => exact sx_RP.step (pc2 := 765) (ls2 := [(3, .int (nI i)), (2, .ref 111), (1, .ref 0), (0, .float 4)]) (st2 := []) (w3 := w) rfl rfl (lc17 hl hn hI hL kk)
        | 18, _ => exact sx_RP.step (pc2 := 798) (ls2 := [(3, .int (nI i)), (2, .ref 111), (1, .ref 0), (0, .float 4)]) (st2 := []) (w3 := w) rfl rfl (lc18 hl hn hI hL kk)
        | 19, _ => exact sx_RP.step (pc2 := 821) (ls2 := [(3, .int (nI i)), (2, .ref 111), (1, .ref 0), (0, .float 4)]) (st2 := []) (w3 := w) rfl rfl (lc19 hl hn hI hL kk)
        | 20, _ => exact sx_RP.step (pc2 := 844) (ls2 := [(3, .int (nI i)), (2, .ref 111), (1, .ref 0), (0, .float 4)]) (st2 := []) (w3 := w) rfl rfl (lc20 hl hn hI hL kk)
        | 21, _ => exact sx_RP.step (pc2 := 877) (ls2 := [(3, .int (nI i)), (2, .ref 111), (1, .ref 0), (0, .float 4)]) (st2 := []) (w3 := w) rfl rfl (lc21 hl hn hI hL kk)
        | 22, _ => exact sx_RP.step (pc2 := 900) (ls2 := [(3, .int (nI i)), (2, .ref 111), (1, .ref 0), (0, .float 4)]) (st2 := []) (w3 := w) rfl rfl (lc22 hl hn hI hL kk)
        | 23, _ => exact sx_RP.step (pc2 := 933) (ls2 := [(3, .int (nI i)), (2, .ref 111), (1, .ref 0), (0, .float 4)]) (st2 := []) (w3 := w) rfl rfl (lc23 hl hn hI hL kk)
        | 24, _ => exact sx_RP.step (pc2 := 956) (ls2 := [(3, .int (nI i)), (2, .ref 111), (1, .ref 0), (0, .float 4)]) (st2 := []) (w3 := w) rfl rfl (lc24 hl hn hI hL kk)
        | 25, _ => exact sx_RP.step (pc2 := 979) (ls2 := [(3, .int (nI i)), (2, .ref 111), (1, .ref 0), (0, .float 4)]) (st2 := []) (w3 := w) rfl rfl (lc25 hl hn hI hL kk)
        | 26, _ => exact sx_RP.step (pc2 := 1012) (ls2 := [(3, .int (nI i)), (2, .ref 111), (1, .ref 0), (0, .float 4)]) (st2 := []) (w3 := w) rfl rfl (lc26 hl hn hI hL kk)
        | 27, _ => exact sx_RP.step (pc2 := 1045) (ls2 := [(3, .int (nI i)), (2, .ref 111), (1, .ref 0), (0, .float 4)]) (st2 := []) (w3 := w) rfl rfl (lc27 hl hn hI hL kk)
        | 28, _ => exact sx_RP.step (pc2 := 1068) (ls2 := [(3, .int (nI i)), (2, .ref 111), (1, .ref 0), (0, .float 4)]) (st2 := []) (w3 := w) rfl rfl (lc28 hl hn hI hL kk)
        | 29, _ => exact sx_RP.step (pc2 := 1101) (ls2 := [(3, .int (nI i)), (2, .ref 111), (1, .ref 0), (0, .float 4)]) (st2 := []) (w3 := w) rfl rfl (lc29 hl hn hI hL kk)
        | 30, _ => exact sx_RP.step (pc2 := 1114) (ls2 := [(3, .int (nI i)), (2, .ref 111), (1, .ref 0), (0, .float 4)]) (st2 := []) (w3 := w) rfl rfl (lc30 hl hn hI hL kk)
        | 31, _ => exact sx_RP.step (pc2 := 1137) (ls2 := [(3, .int (nI i)), (2, .ref 111), (1, .ref 0), (0, .float 4)]) (st2 := []) (w3 := w) rfl rfl (lc31 hl hn hI hL kk)
        | 32, _ => exact sx_RP.step (pc2 := 1170) (ls2 := [(3, .int (nI i)), (2, .ref 111), (1, .ref 0), (0, .float 4)]) (st2 := []) (w3 := w) rfl rfl (lc32 hl hn hI hL kk)
        | 33, _ => exact sx_RP.step (pc2 := 1183) (ls2 := [(3, .int (nI i)), (2, .ref 111), (1, .ref 0), (0, .float 4)]) (st2 := []) (w3 := w) rfl rfl (lc33 hl hn hI hL kk)
        | 34, _ => exact sx_RP.step (pc2 := 1196) (ls2 := [(3, .int (nI i)), (2, .ref 111), (1, .ref 0), (0, .float 4)]) (st2 := []) (w3 := w) rfl rfl (lc34 hl hn hI hL kk)
        | 35, _ => exact sx_RP.step (pc2 := 1239) (ls2 := [(3, .int (nI i)), (2, .ref 111), (1, .ref 0), (0, .float 4)]) (st2 := []) (w3 := w) rfl rfl (lc35 hl hn hI hL kk)
        | 36, _ => exact sx_RP.step (pc2 := 1312) (ls2 := [(3, .int (nI i)), (2, .ref 111), (1, .ref 0), (0, .float 4)]) (st2 := []) (w3 := w) rfl rfl (lc36 hl hn hI hL kk)
        | 37, _ => exact sx_RP.step (pc2 := 1375) (ls2 := [(3, .int (nI i)), (2, .ref 111), (1, .ref 0), (0, .float 4)]) (st2 := []) (w3 := w) rfl rfl (lc37 hl hn hI hL kk)
        | 38, _ => exact sx_RP.step (pc2 := 1408) (ls2 := [(3, .int (nI i)), (2, .ref 111), (1, .ref 0), (0, .float 4)]) (st2 := []) (w3 := w) rfl rfl (lc38 hl hn hI hL kk)
        | 39, _ => exact sx_RP.step (pc2 := 1431) (ls2 := [(3, .int (nI i)), (2, .ref 111), (1, .ref 0), (0, .float 4)]) (st2 := []) (w3 := w) rfl rfl (lc39 hl hn hI hL kk)
        | 40, _ => exact sx_RP.step (pc2 := 1454) (ls2 := [(3, .int (nI i)), (2, .ref 111), (1, .ref 0), (0, .float 4)]) (st2 := []) (w3 := w) rfl rfl (lc40 hl hn hI hL kk)
        | 41, _ => exact sx_RP.step (pc2 := 1467) (ls2 := [(3, .int (nI i)), (2, .ref 111), (1, .ref 0), (0, .float 4)]) (st2 := []) (w3 := w) rfl rfl (lc41 hl hn hI hL kk)
        | 42, _ => exact sx_RP.step (pc2 := 1480) (ls2 := [(3, .int (nI i)), (2, .ref 111), (1, .ref 0), (0, .float 4)]) (st2 := []) (w3 := w) rfl rfl (lc42 hl hn hI hL kk)
        | 43, _ => exact sx_RP.step (pc2 := 1493) (ls2 := [(3, .int (nI i)), (2, .ref 111), (1, .ref 0), (0, .float 4)]) (st2 := []) (w3 := w) rfl rfl (lc43 hl hn hI hL kk)
        | 44, _ => exact sx_RP.step (pc2 := 1516) (ls2 := [(3, .int (nI i)), (2, .ref 111), (1, .ref 0), (0, .float 4)]) (st2 := []) (w3 := w) rfl rfl (lc44 hl hn hI hL kk)
        | j + 45, hj => exact absurd hj (by omega)
theorem w0_by : allb 126 (fun a => match (sx_w0[a]? : Option sx_C) with
  | some (.inl (2, l)) => l.all (fun v => decide (v = 0))
  | _ => true) = true := by decide +kernel
theorem w0_FC : FCb sx_w0 = FMb sx_w0 := Prod.ext (Prod.ext (show (FCb sx_w0).1.1 = (FMb sx_w0).1.1 by decide +kernel) (Prod.ext (show (FCb sx_w0).1.2.1 = (FMb sx_w0).1.2.1 by decide +kernel) (Prod.ext (show (FCb sx_w0).1.2.2.1 = (FMb sx_w0).1.2.2.1 by decide +kernel) (Prod.ext (show (FCb sx_w0).1.2.2.2.1 = (FMb sx_w0).1.2.2.2.1 by decide +kernel) (show (FCb sx_w0).1.2.2.2.2 = (FMb sx_w0).1.2.2.2.2 by decide +kernel))))) (Prod.ext (show fi sx_w0 0 3 = fi sx_w0 111 4 by decide +kernel) (Prod.ext (show (if fi sx_w0 0 3 = 1 then campB sx_w0 15 else nilB) = (if fi sx_w0 111 4 = 1 then rowB (ia sx_w0 113) else nilB) by rw [if_neg (show ¬ fi sx_w0 0 3 = 1 by decide +kernel), if_neg (show ¬ fi sx_w0 111 4 = 1 by decide +kernel)]) (show tapC sx_w0 = tapM sx_w0 by decide +kernel)))
theorem w0_LI : LI sx_w0 := by
  refine ⟨⟨w0_FC, ⟨0, 10, 16, by decide +kernel, by decide, by decide +kernel, by decide, by decide, by decide +kernel, by decide, by decide⟩, fun z => absurd (show fi sx_w0 0 3 = 1 from z) (by decide +kernel)⟩, ?_⟩
  intro a l hl v hv
  have hlt : a < 126 := by
    have := (List.getElem?_eq_some_iff.mp hl).1
    rw [sx_w0_len] at this
    exact this
  have h := allb_ok w0_by hlt
  rw [hl] at h
  have h2 := List.all_eq_true.mp h v hv
  exact ⟨0, by decide, (of_decide_eq_true h2).trans sgn_0.symm⟩
theorem sx_law : sx_LAW := by
  intro ys hy
  obtain ⟨r, w2, h, rfl⟩ := law_loop hy ys.length 0 sx_w0 (Nat.zero_le _) (by omega) w0_WI w0_LI
  exact ⟨w2, h⟩
end
