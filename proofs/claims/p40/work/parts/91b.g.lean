-- 91b.cases.lean.txt
section
set_option maxRecDepth 20000 in
set_option maxHeartbeats 4000000 in
theorem lc15 {ys : List Int32} {i : Nat} {w : List sx_C} {P : Option Value → List sx_C → Prop} (hl : ys.length ≤ 3072) (hn : i + 6 ≤ ys.length) (hI : WI w) (hL : LI w) (kk : ∀ w2, WI w2 → LI w2 → sx_RP (some ys) 9 246 1539 [(3, .int (nI i)), (2, .ref 111), (1, .ref 0), (0, .float 4)] [] w2 P) : sx_RP (some ys) 9 246 719 [(3, .int (nI i)), (2, .ref 111), (1, .ref 0), (0, .float 4)] [] w P := by
  obtain ⟨s, hC, hR, hb⟩ := hL
  refine sx_RP.step (pc2 := 720) (ls2 := [(3, .int (nI i)), (2, .ref 111), (1, .ref 0), (0, .float 4)]) (st2 := [.ref 0]) (w3 := w) rfl rfl ?_
  refine sx_RP.callp (as2 := [.ref 0]) (rest2 := []) rfl rfl (sx_inv_v2 (mi := 246) (k := 79) (st := [.ref 0]) (w := w) rfl rfl hI.1.o0 rfl rfl rfl) rfl rfl rfl (sx_RP.byk (c53 (d := 1) hI hC)) (show _ = 723 from rfl) ?_
  rintro r4 w1 ⟨⟨⟨v3, rfl⟩, hI2, ⟨hC4, hi5⟩⟩, hbk6⟩
  have hR7 := hR.hi hi5
  have hb8 := hbk6 hb
  show sx_RP _ _ _ _ _ [.int v3] _ _
  refine sx_RP.step (pc2 := 724) (ls2 := [(3, .int (nI i)), (2, .ref 111), (1, .ref 0), (0, .float 4)]) (st2 := []) (w3 := w1) rfl rfl ?_
  refine sx_RP.step (pc2 := 725) (ls2 := [(3, .int (nI i)), (2, .ref 111), (1, .ref 0), (0, .float 4)]) (st2 := [.ref 111]) (w3 := w1) rfl rfl ?_
  refine sx_RP.callp (as2 := [.ref 111]) (rest2 := []) rfl rfl (sx_inv_v2 (mi := 246) (k := 83) (st := [.ref 111]) (w := w1) rfl rfl hI2.1.o111 rfl rfl rfl) rfl rfl rfl (sx_RP.byk (r177 (d := 1) hI2 hR7)) (show _ = 728 from rfl) ?_
  rintro r4 w9 ⟨⟨⟨v11, rfl⟩, hI10, ⟨hR12, lo13⟩⟩, hbk14⟩
  have hL15 : LI w9 := ⟨_, hC4.lo hI2 lo13, hR12, hbk14 hb8⟩
  show sx_RP _ _ _ _ _ [.int v11] _ _
  refine sx_RP.step (pc2 := 729) (ls2 := [(3, .int (nI i)), (2, .ref 111), (1, .ref 0), (0, .float 4)]) (st2 := []) (w3 := w9) rfl rfl ?_
  refine sx_RP.step (pc2 := 1539) (ls2 := [(3, .int (nI i)), (2, .ref 111), (1, .ref 0), (0, .float 4)]) (st2 := []) (w3 := w9) rfl rfl ?_
  exact kk w9 hI10 hL15
set_option maxRecDepth 20000 in
set_option maxHeartbeats 4000000 in
theorem lc16 {ys : List Int32} {i : Nat} {w : List sx_C} {P : Option Value → List sx_C → Prop} (hl : ys.length ≤ 3072) (hn : i + 6 ≤ ys.length) (hI : WI w) (hL : LI w) (kk : ∀ w2, WI w2 → LI w2 → sx_RP (some ys) 9 246 1539 [(3, .int (nI i)), (2, .ref 111), (1, .ref 0), (0, .float 4)] [] w2 P) : sx_RP (some ys) 9 246 732 [(3, .int (nI i)), (2, .ref 111), (1, .ref 0), (0, .float 4)] [] w P := by
  obtain ⟨s, hC, hR, hb⟩ := hL
  refine sx_RP.step (pc2 := 733) (ls2 := [(3, .int (nI i)), (2, .ref 111), (1, .ref 0), (0, .float 4)]) (st2 := [.ref 0]) (w3 := w) rfl rfl ?_
  refine sx_RP.step (pc2 := 734) (ls2 := [(3, .int (nI i)), (2, .ref 111), (1, .ref 0), (0, .float 4)]) (st2 := [.float 4, .ref 0]) (w3 := w) rfl rfl ?_
  refine sx_RP.step (pc2 := 735) (ls2 := [(3, .int (nI i)), (2, .ref 111), (1, .ref 0), (0, .float 4)]) (st2 := [.int (nI i), .float 4, .ref 0]) (w3 := w) rfl rfl ?_
  refine sx_RP.step (pc2 := 736) (ls2 := [(3, .int (nI i)), (2, .ref 111), (1, .ref 0), (0, .float 4)]) (st2 := [.int 1, .int (nI i), .float 4, .ref 0]) (w3 := w) rfl rfl ?_
  refine sx_RP.step (pc2 := 737) (ls2 := [(3, .int (nI i)), (2, .ref 111), (1, .ref 0), (0, .float 4)]) (st2 := [.int ((nI i) + 1), .float 4, .ref 0]) (w3 := w) rfl rfl ?_
  rw [show ((nI i) + 1 : Int32) = nI (i + 1) from nI_add i 1]
  refine sx_RP.scr (x := (i + 1)) rfl (by omega) hl (show _ = 738 from rfl) ?_
  refine sx_RP.step (pc2 := 739) (ls2 := [(3, .int (nI i)), (2, .ref 111), (1, .ref 0), (0, .float 4)]) (st2 := [.float 4, .int (ys.getD ((i + 1)) 0), .ref 0]) (w3 := w) rfl rfl ?_
  refine sx_RP.step (pc2 := 740) (ls2 := [(3, .int (nI i)), (2, .ref 111), (1, .ref 0), (0, .float 4)]) (st2 := [.int (nI i), .float 4, .int (ys.getD ((i + 1)) 0), .ref 0]) (w3 := w) rfl rfl ?_
  refine sx_RP.step (pc2 := 741) (ls2 := [(3, .int (nI i)), (2, .ref 111), (1, .ref 0), (0, .float 4)]) (st2 := [.int 2, .int (nI i), .float 4, .int (ys.getD ((i + 1)) 0), .ref 0]) (w3 := w) rfl rfl ?_
  refine sx_RP.step (pc2 := 742) (ls2 := [(3, .int (nI i)), (2, .ref 111), (1, .ref 0), (0, .float 4)]) (st2 := [.int ((nI i) + 2), .float 4, .int (ys.getD ((i + 1)) 0), .ref 0]) (w3 := w) rfl rfl ?_
  rw [show ((nI i) + 2 : Int32) = nI (i + 2) from nI_add i 2]
  refine sx_RP.scr (x := (i + 2)) rfl (by omega) hl (show _ = 743 from rfl) ?_
  refine sx_RP.callp (as2 := [.ref 0, .int (ys.getD ((i + 1)) 0), .int (ys.getD ((i + 2)) 0)]) (rest2 := []) rfl rfl (sx_inv_v2 (mi := 246) (k := 84) (st := [.int (ys.getD ((i + 2)) 0), .int (ys.getD ((i + 1)) 0), .ref 0]) (w := w) rfl rfl hI.1.o0 rfl rfl rfl) rfl rfl rfl (sx_RP.byk (c55 (d := 1) hI hC (ys.getD ((i + 1)) 0) (ys.getD ((i + 2)) 0))) (show _ = 746 from rfl) ?_
  rintro r4 w1 ⟨⟨⟨v3, rfl⟩, hI2, ⟨hC4, hi5⟩⟩, hbk6⟩
  have hR7 := hR.hi hi5
  have hb8 := hbk6 hb
  show sx_RP _ _ _ _ _ [.int v3] _ _
  refine sx_RP.step (pc2 := 747) (ls2 := [(3, .int (nI i)), (2, .ref 111), (1, .ref 0), (0, .float 4)]) (st2 := []) (w3 := w1) rfl rfl ?_
  refine sx_RP.step (pc2 := 748) (ls2 := [(3, .int (nI i)), (2, .ref 111), (1, .ref 0), (0, .float 4)]) (st2 := [.ref 111]) (w3 := w1) rfl rfl ?_
  refine sx_RP.step (pc2 := 749) (ls2 := [(3, .int (nI i)), (2, .ref 111), (1, .ref 0), (0, .float 4)]) (st2 := [.float 4, .ref 111]) (w3 := w1) rfl rfl ?_
  refine sx_RP.step (pc2 := 750) (ls2 := [(3, .int (nI i)), (2, .ref 111), (1, .ref 0), (0, .float 4)]) (st2 := [.int (nI i), .float 4, .ref 111]) (w3 := w1) rfl rfl ?_
  refine sx_RP.step (pc2 := 751) (ls2 := [(3, .int (nI i)), (2, .ref 111), (1, .ref 0), (0, .float 4)]) (st2 := [.int 1, .int (nI i), .float 4, .ref 111]) (w3 := w1) rfl rfl ?_
  refine sx_RP.step (pc2 := 752) (ls2 := [(3, .int (nI i)), (2, .ref 111), (1, .ref 0), (0, .float 4)]) (st2 := [.int ((nI i) + 1), .float 4, .ref 111]) (w3 := w1) rfl rfl ?_
  rw [show ((nI i) + 1 : Int32) = nI (i + 1) from nI_add i 1]
  refine sx_RP.scr (x := (i + 1)) rfl (by omega) hl (show _ = 753 from rfl) ?_
  refine sx_RP.step (pc2 := 754) (ls2 := [(3, .int (nI i)), (2, .ref 111), (1, .ref 0), (0, .float 4)]) (st2 := [.float 4, .int (ys.getD ((i + 1)) 0), .ref 111]) (w3 := w1) rfl rfl ?_
  refine sx_RP.step (pc2 := 755) (ls2 := [(3, .int (nI i)), (2, .ref 111), (1, .ref 0), (0, .float 4)]) (st2 := [.int (nI i), .float 4, .int (ys.getD ((i + 1)) 0), .ref 111]) (w3 := w1) rfl rfl ?_
  refine sx_RP.step (pc2 := 756) (ls2 := [(3, .int (nI i)), (2, .ref 111), (1, .ref 0), (0, .float 4)]) (st2 := [.int 2, .int (nI i), .float 4, .int (ys.getD ((i + 1)) 0), .ref 111]) (w3 := w1) rfl rfl ?_
  refine sx_RP.step (pc2 := 757) (ls2 := [(3, .int (nI i)), (2, .ref 111), (1, .ref 0), (0, .float 4)]) (st2 := [.int ((nI i) + 2), .float 4, .int (ys.getD ((i + 1)) 0), .ref 111]) (w3 := w1) rfl rfl ?_
  rw [show ((nI i) + 2 : Int32) = nI (i + 2) from nI_add i 2]
  refine sx_RP.scr (x := (i + 2)) rfl (by omega) hl (show _ = 758 from rfl) ?_
  refine sx_RP.callp (as2 := [.ref 111, .int (ys.getD ((i + 1)) 0), .int (ys.getD ((i + 2)) 0)]) (rest2 := []) rfl rfl (sx_inv_v2 (mi := 246) (k := 87) (st := [.int (ys.getD ((i + 2)) 0), .int (ys.getD ((i + 1)) 0), .ref 111]) (w := w1) rfl rfl hI2.1.o111 rfl rfl rfl) rfl rfl rfl (sx_RP.byk (r179 (d := 1) hI2 hR7 (ys.getD ((i + 1)) 0) (ys.getD ((i + 2)) 0))) (show _ = 761 from rfl) ?_
  rintro r4 w9 ⟨⟨⟨v11, rfl⟩, hI10, ⟨hR12, lo13⟩⟩, hbk14⟩
  have hL15 : LI w9 := ⟨_, hC4.lo hI2 lo13, hR12, hbk14 hb8⟩
  show sx_RP _ _ _ _ _ [.int v11] _ _
  refine sx_RP.step (pc2 := 762) (ls2 := [(3, .int (nI i)), (2, .ref 111), (1, .ref 0), (0, .float 4)]) (st2 := []) (w3 := w9) rfl rfl ?_
  refine sx_RP.step (pc2 := 1539) (ls2 := [(3, .int (nI i)), (2, .ref 111), (1, .ref 0), (0, .float 4)]) (st2 := []) (w3 := w9) rfl rfl ?_
  exact kk w9 hI10 hL15
set_option maxRecDepth 20000 in
set_option maxHeartbeats 4000000 in
theorem lc17 {ys : List Int32} {i : Nat} {w : List sx_C} {P : Option Value → List sx_C → Prop} (hl : ys.length ≤ 3072) (hn : i + 6 ≤ ys.length) (hI : WI w) (hL : LI w) (kk : ∀ w2, WI w2 → LI w2 → sx_RP (some ys) 9 246 1539 [(3, .int (nI i)), (2, .ref 111), (1, .ref 0), (0, .float 4)] [] w2 P) : sx_RP (some ys) 9 246 765 [(3, .int (nI i)), (2, .ref 111), (1, .ref 0), (0, .float 4)] [] w P := by
  obtain ⟨s, hC, hR, hb⟩ := hL
  refine sx_RP.step (pc2 := 766) (ls2 := [(3, .int (nI i)), (2, .ref 111), (1, .ref 0), (0, .float 4)]) (st2 := [.ref 0]) (w3 := w) rfl rfl ?_
  refine sx_RP.step (pc2 := 767) (ls2 := [(3, .int (nI i)), (2, .ref 111), (1, .ref 0), (0, .float 4)]) (st2 := [.float 4, .ref 0]) (w3 := w) rfl rfl ?_
  refine sx_RP.step (pc2 := 768) (ls2 := [(3, .int (nI i)), (2, .ref 111), (1, .ref 0), (0, .float 4)]) (st2 := [.int (nI i), .float 4, .ref 0]) (w3 := w) rfl rfl ?_
  refine sx_RP.step (pc2 := 769) (ls2 := [(3, .int (nI i)), (2, .ref 111), (1, .ref 0), (0, .float 4)]) (st2 := [.int 1, .int (nI i), .float 4, .ref 0]) (w3 := w) rfl rfl ?_
  refine sx_RP.step (pc2 := 770) (ls2 := [(3, .int (nI i)), (2, .ref 111), (1, .ref 0), (0, .float 4)]) (st2 := [.int ((nI i) + 1), .float 4, .ref 0]) (w3 := w) rfl rfl ?_
  rw [show ((nI i) + 1 : Int32) = nI (i + 1) from nI_add i 1]
  refine sx_RP.scr (x := (i + 1)) rfl (by omega) hl (show _ = 771 from rfl) ?_
  refine sx_RP.step (pc2 := 772) (ls2 := [(3, .int (nI i)), (2, .ref 111), (1, .ref 0), (0, .float 4)]) (st2 := [.float 4, .int (ys.getD ((i + 1)) 0), .ref 0]) (w3 := w) rfl rfl ?_
  refine sx_RP.step (pc2 := 773) (ls2 := [(3, .int (nI i)), (2, .ref 111), (1, .ref 0), (0, .float 4)]) (st2 := [.int (nI i), .float 4, .int (ys.getD ((i + 1)) 0), .ref 0]) (w3 := w) rfl rfl ?_
  refine sx_RP.step (pc2 := 774) (ls2 := [(3, .int (nI i)), (2, .ref 111), (1, .ref 0), (0, .float 4)]) (st2 := [.int 2, .int (nI i), .float 4, .int (ys.getD ((i + 1)) 0), .ref 0]) (w3 := w) rfl rfl ?_
  refine sx_RP.step (pc2 := 775) (ls2 := [(3, .int (nI i)), (2, .ref 111), (1, .ref 0), (0, .float 4)]) (st2 := [.int ((nI i) + 2), .float 4, .int (ys.getD ((i + 1)) 0), .ref 0]) (w3 := w) rfl rfl ?_
  rw [show ((nI i) + 2 : Int32) = nI (i + 2) from nI_add i 2]
  refine sx_RP.scr (x := (i + 2)) rfl (by omega) hl (show _ = 776 from rfl) ?_
  refine sx_RP.callp (as2 := [.ref 0, .int (ys.getD ((i + 1)) 0), .int (ys.getD ((i + 2)) 0)]) (rest2 := []) rfl rfl (sx_inv_v2 (mi := 246) (k := 88) (st := [.int (ys.getD ((i + 2)) 0), .int (ys.getD ((i + 1)) 0), .ref 0]) (w := w) rfl rfl hI.1.o0 rfl rfl rfl) rfl rfl rfl (sx_RP.byk (c58 (d := 1) hI hC (ys.getD ((i + 1)) 0) (ys.getD ((i + 2)) 0))) (show _ = 779 from rfl) ?_
  rintro r4 w1 ⟨⟨⟨v3, rfl⟩, hI2, ⟨hC4, hi5⟩⟩, hbk6⟩
  have hR7 := hR.hi hi5
  have hb8 := hbk6 hb
  show sx_RP _ _ _ _ _ [.int v3] _ _
  refine sx_RP.step (pc2 := 780) (ls2 := [(3, .int (nI i)), (2, .ref 111), (1, .ref 0), (0, .float 4)]) (st2 := []) (w3 := w1) rfl rfl ?_
  refine sx_RP.step (pc2 := 781) (ls2 := [(3, .int (nI i)), (2, .ref 111), (1, .ref 0), (0, .float 4)]) (st2 := [.ref 111]) (w3 := w1) rfl rfl ?_
  refine sx_RP.step (pc2 := 782) (ls2 := [(3, .int (nI i)), (2, .ref 111), (1, .ref 0), (0, .float 4)]) (st2 := [.float 4, .ref 111]) (w3 := w1) rfl rfl ?_
  refine sx_RP.step (pc2 := 783) (ls2 := [(3, .int (nI i)), (2, .ref 111), (1, .ref 0), (0, .float 4)]) (st2 := [.int (nI i), .float 4, .ref 111]) (w3 := w1) rfl rfl ?_
  refine sx_RP.step (pc2 := 784) (ls2 := [(3, .int (nI i)), (2, .ref 111), (1, .ref 0), (0, .float 4)]) (st2 := [.int 1, .int (nI i), .float 4, .ref 111]) (w3 := w1) rfl rfl ?_
  refine sx_RP.step (pc2 := 785) (ls2 := [(3, .int (nI i)), (2, .ref 111), (1, .ref 0), (0, .float 4)]) (st2 := [.int ((nI i) + 1), .float 4, .ref 111]) (w3 := w1) rfl rfl ?_
  rw [show ((nI i) + 1 : Int32) = nI (i + 1) from nI_add i 1]
  refine sx_RP.scr (x := (i + 1)) rfl (by omega) hl (show _ = 786 from rfl) ?_
  refine sx_RP.step (pc2 := 787) (ls2 := [(3, .int (nI i)), (2, .ref 111), (1, .ref 0), (0, .float 4)]) (st2 := [.float 4, .int (ys.getD ((i + 1)) 0), .ref 111]) (w3 := w1) rfl rfl ?_
  refine sx_RP.step (pc2 := 788) (ls2 := [(3, .int (nI i)), (2, .ref 111), (1, .ref 0), (0, .float 4)]) (st2 := [.int (nI i), .float 4, .int (ys.getD ((i + 1)) 0), .ref 111]) (w3 := w1) rfl rfl ?_
  refine sx_RP.step (pc2 := 789) (ls2 := [(3, .int (nI i)), (2, .ref 111), (1, .ref 0), (0, .float 4)]) (st2 := [.int 2, .int (nI i), .float 4, .int (ys.getD ((i + 1)) 0), .ref 111]) (w3 := w1) rfl rfl ?_
  refine sx_RP.step (pc2 := 790) (ls2 := [(3, .int (nI i)), (2, .ref 111), (1, .ref 0), (0, .float 4)]) (st2 := [.int ((nI i) + 2), .float 4, .int (ys.getD ((i + 1)) 0), .ref 111]) (w3 := w1) rfl rfl ?_
  rw [show ((nI i) + 2 : Int32) = nI (i + 2) from nI_add i 2]
  refine sx_RP.scr (x := (i + 2)) rfl (by omega) hl (show _ = 791 from rfl) ?_
  refine sx_RP.callp (as2 := [.ref 111, .int (ys.getD ((i + 1)) 0), .int (ys.getD ((i + 2)) 0)]) (rest2 := []) rfl rfl (sx_inv_v2 (mi := 246) (k := 91) (st := [.int (ys.getD ((i + 2)) 0), .int (ys.getD ((i + 1)) 0), .ref 111]) (w := w1) rfl rfl hI2.1.o111 rfl rfl rfl) rfl rfl rfl (sx_RP.byk (r180 (d := 1) hI2 hR7 (ys.getD ((i + 1)) 0) (ys.getD ((i + 2)) 0))) (show _ = 794 from rfl) ?_
  rintro r4 w9 ⟨⟨⟨v11, rfl⟩, hI10, ⟨hR12, lo13⟩⟩, hbk14⟩
  have hL15 : LI w9 := ⟨_, hC4.lo hI2 lo13, hR12, hbk14 hb8⟩
  show sx_RP _ _ _ _ _ [.int v11] _ _
  refine sx_RP.step (pc2 := 795) (ls2 := [(3, .int (nI i)), (2, .ref 111), (1, .ref 0), (0, .float 4)]) (st2 := []) (w3 := w9) rfl rfl ?_
  refine sx_RP.step (pc2 := 1539) (ls2 := [(3, .int (nI i)), (2, .ref 111), (1, .ref 0), (0, .float 4)]) (st2 := []) (w3 := w9) rfl rfl ?_
  exact kk w9 hI10 hL15
set_option maxRecDepth 20000 in
set_option maxHeartbeats 4000000 in
theorem lc18 {ys : List Int32} {i : Nat} {w : List sx_C} {P : Option Value → List sx_C → Prop} (hl : ys.length ≤ 3072) (hn : i + 6 ≤ ys.length) (hI : WI w) (hL : LI w) (kk : ∀ w2, WI w2 → LI w2 → sx_RP (some ys) 9 246 1539 [(3, .int (nI i)), (2, .ref 111), (1, .ref 0), (0, .float 4)] [] w2 P) : sx_RP (some ys) 9 246 798 [(3, .int (nI i)), (2, .ref 111), (1, .ref 0), (0, .float 4)] [] w P := by
  obtain ⟨s, hC, hR, hb⟩ := hL
  refine sx_RP.step (pc2 := 799) (ls2 := [(3, .int (nI i)), (2, .ref 111), (1, .ref 0), (0, .float 4)]) (st2 := [.ref 0]) (w3 := w) rfl rfl ?_
  refine sx_RP.step (pc2 := 800) (ls2 := [(3, .int (nI i)), (2, .ref 111), (1, .ref 0), (0, .float 4)]) (st2 := [.float 4, .ref 0]) (w3 := w) rfl rfl ?_
  refine sx_RP.step (pc2 := 801) (ls2 := [(3, .int (nI i)), (2, .ref 111), (1, .ref 0), (0, .float 4)]) (st2 := [.int (nI i), .float 4, .ref 0]) (w3 := w) rfl rfl ?_
  refine sx_RP.step (pc2 := 802) (ls2 := [(3, .int (nI i)), (2, .ref 111), (1, .ref 0), (0, .float 4)]) (st2 := [.int 1, .int (nI i), .float 4, .ref 0]) (w3 := w) rfl rfl ?_
  refine sx_RP.step (pc2 := 803) (ls2 := [(3, .int (nI i)), (2, .ref 111), (1, .ref 0), (0, .float 4)]) (st2 := [.int ((nI i) + 1), .float 4, .ref 0]) (w3 := w) rfl rfl ?_
  rw [show ((nI i) + 1 : Int32) = nI (i + 1) from nI_add i 1]
  refine sx_RP.scr (x := (i + 1)) rfl (by omega) hl (show _ = 804 from rfl) ?_
  refine sx_RP.callp (as2 := [.ref 0, .int (ys.getD ((i + 1)) 0)]) (rest2 := []) rfl rfl (sx_inv_v2 (mi := 246) (k := 92) (st := [.int (ys.getD ((i + 1)) 0), .ref 0]) (w := w) rfl rfl hI.1.o0 rfl rfl rfl) rfl rfl rfl (sx_RP.byk (c61 (d := 1) hI hC (ys.getD ((i + 1)) 0))) (show _ = 807 from rfl) ?_
  rintro r4 w1 ⟨⟨⟨v3, rfl⟩, hI2, ⟨hC4, hi5⟩⟩, hbk6⟩
  have hR7 := hR.hi hi5
  have hb8 := hbk6 hb
  show sx_RP _ _ _ _ _ [.int v3] _ _
  refine sx_RP.step (pc2 := 808) (ls2 := [(3, .int (nI i)), (2, .ref 111), (1, .ref 0), (0, .float 4)]) (st2 := []) (w3 := w1) rfl rfl ?_
  refine sx_RP.step (pc2 := 809) (ls2 := [(3, .int (nI i)), (2, .ref 111), (1, .ref 0), (0, .float 4)]) (st2 := [.ref 111]) (w3 := w1) rfl rfl ?_
  refine sx_RP.step (pc2 := 810) (ls2 := [(3, .int (nI i)), (2, .ref 111), (1, .ref 0), (0, .float 4)]) (st2 := [.float 4, .ref 111]) (w3 := w1) rfl rfl ?_
  refine sx_RP.step (pc2 := 811) (ls2 := [(3, .int (nI i)), (2, .ref 111), (1, .ref 0), (0, .float 4)]) (st2 := [.int (nI i), .float 4, .ref 111]) (w3 := w1) rfl rfl ?_
  refine sx_RP.step (pc2 := 812) (ls2 := [(3, .int (nI i)), (2, .ref 111), (1, .ref 0), (0, .float 4)]) (st2 := [.int 1, .int (nI i), .float 4, .ref 111]) (w3 := w1) rfl rfl ?_
  refine sx_RP.step (pc2 := 813) (ls2 := [(3, .int (nI i)), (2, .ref 111), (1, .ref 0), (0, .float 4)]) (st2 := [.int ((nI i) + 1), .float 4, .ref 111]) (w3 := w1) rfl rfl ?_
  rw [show ((nI i) + 1 : Int32) = nI (i + 1) from nI_add i 1]
  refine sx_RP.scr (x := (i + 1)) rfl (by omega) hl (show _ = 814 from rfl) ?_
  refine sx_RP.callp (as2 := [.ref 111, .int (ys.getD ((i + 1)) 0)]) (rest2 := []) rfl rfl (sx_inv_v2 (mi := 246) (k := 95) (st := [.int (ys.getD ((i + 1)) 0), .ref 111]) (w := w1) rfl rfl hI2.1.o111 rfl rfl rfl) rfl rfl rfl (sx_RP.byk (r183 (d := 1) hI2 hR7 (ys.getD ((i + 1)) 0))) (show _ = 817 from rfl) ?_
  rintro r4 w9 ⟨⟨⟨v11, rfl⟩, hI10, ⟨hR12, lo13⟩⟩, hbk14⟩
  have hL15 : LI w9 := ⟨_, hC4.lo hI2 lo13, hR12, hbk14 hb8⟩
  show sx_RP _ _ _ _ _ [.int v11] _ _
  refine sx_RP.step (pc2 := 818) (ls2 := [(3, .int (nI i)), (2, .ref 111), (1, .ref 0), (0, .float 4)]) (st2 := []) (w3 := w9) rfl rfl ?_
  refine sx_RP.step (pc2 := 1539) (ls2 := [(3, .int (nI i)), (2, .ref 111), (1, .ref 0), (0, .float 4)]) (st2 := []) (w3 := w9) rfl rfl ?_
  exact kk w9 hI10 hL15
set_option maxRecDepth 20000 in
set_option maxHeartbeats 4000000 in
theorem lc19 {ys : List Int32} {i : Nat} {w : List sx_C} {P : Option Value → List sx_C → Prop} (hl : ys.length ≤ 3072) (hn : i + 6 ≤ ys.length) (hI : WI w) (hL : LI w) (kk : ∀ w2, WI w2 → LI w2 → sx_RP (some ys) 9 246 1539 [(3, .int (nI i)), (2, .ref 111), (1, .ref 0), (0, .float 4)] [] w2 P) : sx_RP (some ys) 9 246 821 [(3, .int (nI i)), (2, .ref 111), (1, .ref 0), (0, .float 4)] [] w P := by
  obtain ⟨s, hC, hR, hb⟩ := hL
  refine sx_RP.step (pc2 := 822) (ls2 := [(3, .int (nI i)), (2, .ref 111), (1, .ref 0), (0, .float 4)]) (st2 := [.ref 0]) (w3 := w) rfl rfl ?_
  refine sx_RP.step (pc2 := 823) (ls2 := [(3, .int (nI i)), (2, .ref 111), (1, .ref 0), (0, .float 4)]) (st2 := [.float 4, .ref 0]) (w3 := w) rfl rfl ?_
  refine sx_RP.step (pc2 := 824) (ls2 := [(3, .int (nI i)), (2, .ref 111), (1, .ref 0), (0, .float 4)]) (st2 := [.int (nI i), .float 4, .ref 0]) (w3 := w) rfl rfl ?_
  refine sx_RP.step (pc2 := 825) (ls2 := [(3, .int (nI i)), (2, .ref 111), (1, .ref 0), (0, .float 4)]) (st2 := [.int 1, .int (nI i), .float 4, .ref 0]) (w3 := w) rfl rfl ?_
  refine sx_RP.step (pc2 := 826) (ls2 := [(3, .int (nI i)), (2, .ref 111), (1, .ref 0), (0, .float 4)]) (st2 := [.int ((nI i) + 1), .float 4, .ref 0]) (w3 := w) rfl rfl ?_
  rw [show ((nI i) + 1 : Int32) = nI (i + 1) from nI_add i 1]
  refine sx_RP.scr (x := (i + 1)) rfl (by omega) hl (show _ = 827 from rfl) ?_
  refine sx_RP.callp (as2 := [.ref 0, .int (ys.getD ((i + 1)) 0)]) (rest2 := []) rfl rfl (sx_inv_v2 (mi := 246) (k := 96) (st := [.int (ys.getD ((i + 1)) 0), .ref 0]) (w := w) rfl rfl hI.1.o0 rfl rfl rfl) rfl rfl rfl (sx_RP.byk (c62 (d := 1) hI hC (ys.getD ((i + 1)) 0))) (show _ = 830 from rfl) ?_
  rintro r4 w1 ⟨⟨rfl, hI2, ⟨hC3, hi4⟩⟩, hbk5⟩
  have hR6 := hR.hi hi4
  have hb7 := hbk5 hb
  show sx_RP _ _ _ _ _ [.int (dis2A s.1 (ys.getD ((i + 1)) 0))] _ _
  refine sx_RP.step (pc2 := 831) (ls2 := [(3, .int (nI i)), (2, .ref 111), (1, .ref 0), (0, .float 4)]) (st2 := []) (w3 := w1) rfl rfl ?_
  refine sx_RP.step (pc2 := 832) (ls2 := [(3, .int (nI i)), (2, .ref 111), (1, .ref 0), (0, .float 4)]) (st2 := [.ref 111]) (w3 := w1) rfl rfl ?_
  refine sx_RP.step (pc2 := 833) (ls2 := [(3, .int (nI i)), (2, .ref 111), (1, .ref 0), (0, .float 4)]) (st2 := [.float 4, .ref 111]) (w3 := w1) rfl rfl ?_
  refine sx_RP.step (pc2 := 834) (ls2 := [(3, .int (nI i)), (2, .ref 111), (1, .ref 0), (0, .float 4)]) (st2 := [.int (nI i), .float 4, .ref 111]) (w3 := w1) rfl rfl ?_
  refine sx_RP.step (pc2 := 835) (ls2 := [(3, .int (nI i)), (2, .ref 111), (1, .ref 0), (0, .float 4)]) (st2 := [.int 1, .int (nI i), .float 4, .ref 111]) (w3 := w1) rfl rfl ?_
  refine sx_RP.step (pc2 := 836) (ls2 := [(3, .int (nI i)), (2, .ref 111), (1, .ref 0), (0, .float 4)]) (st2 := [.int ((nI i) + 1), .float 4, .ref 111]) (w3 := w1) rfl rfl ?_
  rw [show ((nI i) + 1 : Int32) = nI (i + 1) from nI_add i 1]
  refine sx_RP.scr (x := (i + 1)) rfl (by omega) hl (show _ = 837 from rfl) ?_
  refine sx_RP.callp (as2 := [.ref 111, .int (ys.getD ((i + 1)) 0)]) (rest2 := []) rfl rfl (sx_inv_v2 (mi := 246) (k := 99) (st := [.int (ys.getD ((i + 1)) 0), .ref 111]) (w := w1) rfl rfl hI2.1.o111 rfl rfl rfl) rfl rfl rfl (sx_RP.byk (r184 (d := 1) hI2 hR6 (ys.getD ((i + 1)) 0))) (show _ = 840 from rfl) ?_
  rintro r4 w8 ⟨⟨rfl, hI9, ⟨hR10, lo11⟩⟩, hbk12⟩
  have hL13 : LI w8 := ⟨_, hC3.lo hI2 lo11, hR10, hbk12 hb7⟩
  show sx_RP _ _ _ _ _ [.int (dis2A s.1 (ys.getD ((i + 1)) 0))] _ _
  refine sx_RP.step (pc2 := 841) (ls2 := [(3, .int (nI i)), (2, .ref 111), (1, .ref 0), (0, .float 4)]) (st2 := []) (w3 := w8) rfl rfl ?_
  refine sx_RP.step (pc2 := 1539) (ls2 := [(3, .int (nI i)), (2, .ref 111), (1, .ref 0), (0, .float 4)]) (st2 := []) (w3 := w8) rfl rfl ?_
  exact kk w8 hI9 hL13
set_option maxRecDepth 20000 in
set_option maxHeartbeats 4000000 in
theorem lc20 {ys : List Int32} {i : Nat} {w : List sx_C} {P : Option Value → List sx_C → Prop} (hl : ys.length ≤ 3072) (hn : i + 6 ≤ ys.length) (hI : WI w) (hL : LI w) (kk : ∀ w2, WI w2 → LI w2 → sx_RP (some ys) 9 246 1539 [(3, .int (nI i)), (2, .ref 111), (1, .ref 0), (0, .float 4)] [] w2 P) : sx_RP (some ys) 9 246 844 [(3, .int (nI i)), (2, .ref 111), (1, .ref 0), (0, .float 4)] [] w P := by
  obtain ⟨s, hC, hR, hb⟩ := hL
  refine sx_RP.step (pc2 := 845) (ls2 := [(3, .int (nI i)), (2, .ref 111), (1, .ref 0), (0, .float 4)]) (st2 := [.ref 0]) (w3 := w) rfl rfl ?_
  refine sx_RP.step (pc2 := 846) (ls2 := [(3, .int (nI i)), (2, .ref 111), (1, .ref 0), (0, .float 4)]) (st2 := [.float 4, .ref 0]) (w3 := w) rfl rfl ?_
  refine sx_RP.step (pc2 := 847) (ls2 := [(3, .int (nI i)), (2, .ref 111), (1, .ref 0), (0, .float 4)]) (st2 := [.int (nI i), .float 4, .ref 0]) (w3 := w) rfl rfl ?_
  refine sx_RP.step (pc2 := 848) (ls2 := [(3, .int (nI i)), (2, .ref 111), (1, .ref 0), (0, .float 4)]) (st2 := [.int 1, .int (nI i), .float 4, .ref 0]) (w3 := w) rfl rfl ?_
  refine sx_RP.step (pc2 := 849) (ls2 := [(3, .int (nI i)), (2, .ref 111), (1, .ref 0), (0, .float 4)]) (st2 := [.int ((nI i) + 1), .float 4, .ref 0]) (w3 := w) rfl rfl ?_
  rw [show ((nI i) + 1 : Int32) = nI (i + 1) from nI_add i 1]
  refine sx_RP.scr (x := (i + 1)) rfl (by omega) hl (show _ = 850 from rfl) ?_
  refine sx_RP.step (pc2 := 851) (ls2 := [(3, .int (nI i)), (2, .ref 111), (1, .ref 0), (0, .float 4)]) (st2 := [.float 4, .int (ys.getD ((i + 1)) 0), .ref 0]) (w3 := w) rfl rfl ?_
  refine sx_RP.step (pc2 := 852) (ls2 := [(3, .int (nI i)), (2, .ref 111), (1, .ref 0), (0, .float 4)]) (st2 := [.int (nI i), .float 4, .int (ys.getD ((i + 1)) 0), .ref 0]) (w3 := w) rfl rfl ?_
  refine sx_RP.step (pc2 := 853) (ls2 := [(3, .int (nI i)), (2, .ref 111), (1, .ref 0), (0, .float 4)]) (st2 := [.int 2, .int (nI i), .float 4, .int (ys.getD ((i + 1)) 0), .ref 0]) (w3 := w) rfl rfl ?_
  refine sx_RP.step (pc2 := 854) (ls2 := [(3, .int (nI i)), (2, .ref 111), (1, .ref 0), (0, .float 4)]) (st2 := [.int ((nI i) + 2), .float 4, .int (ys.getD ((i + 1)) 0), .ref 0]) (w3 := w) rfl rfl ?_
  rw [show ((nI i) + 2 : Int32) = nI (i + 2) from nI_add i 2]
  refine sx_RP.scr (x := (i + 2)) rfl (by omega) hl (show _ = 855 from rfl) ?_
  refine sx_RP.callp (as2 := [.ref 0, .int (ys.getD ((i + 1)) 0), .int (ys.getD ((i + 2)) 0)]) (rest2 := []) rfl rfl (sx_inv_v2 (mi := 246) (k := 100) (st := [.int (ys.getD ((i + 2)) 0), .int (ys.getD ((i + 1)) 0), .ref 0]) (w := w) rfl rfl hI.1.o0 rfl rfl rfl) rfl rfl rfl (sx_RP.byk (c65 (d := 1) hI hC (ys.getD ((i + 1)) 0) (ys.getD ((i + 2)) 0))) (show _ = 858 from rfl) ?_
  rintro r4 w1 ⟨⟨rfl, hI2, ⟨hC3, hi4⟩⟩, hbk5⟩
  have hR6 := hR.hi hi4
  have hb7 := hbk5 hb
  show sx_RP _ _ _ _ _ [.int (mov2A s.1 (ys.getD ((i + 1)) 0) (ys.getD ((i + 2)) 0))] _ _
  refine sx_RP.step (pc2 := 859) (ls2 := [(3, .int (nI i)), (2, .ref 111), (1, .ref 0), (0, .float 4)]) (st2 := []) (w3 := w1) rfl rfl ?_
  refine sx_RP.step (pc2 := 860) (ls2 := [(3, .int (nI i)), (2, .ref 111), (1, .ref 0), (0, .float 4)]) (st2 := [.ref 111]) (w3 := w1) rfl rfl ?_
  refine sx_RP.step (pc2 := 861) (ls2 := [(3, .int (nI i)), (2, .ref 111), (1, .ref 0), (0, .float 4)]) (st2 := [.float 4, .ref 111]) (w3 := w1) rfl rfl ?_
  refine sx_RP.step (pc2 := 862) (ls2 := [(3, .int (nI i)), (2, .ref 111), (1, .ref 0), (0, .float 4)]) (st2 := [.int (nI i), .float 4, .ref 111]) (w3 := w1) rfl rfl ?_
  refine sx_RP.step (pc2 := 863) (ls2 := [(3, .int (nI i)), (2, .ref 111), (1, .ref 0), (0, .float 4)]) (st2 := [.int 1, .int (nI i), .float 4, .ref 111]) (w3 := w1) rfl rfl ?_
  refine sx_RP.step (pc2 := 864) (ls2 := [(3, .int (nI i)), (2, .ref 111), (1, .ref 0), (0, .float 4)]) (st2 := [.int ((nI i) + 1), .float 4, .ref 111]) (w3 := w1) rfl rfl ?_
  rw [show ((nI i) + 1 : Int32) = nI (i + 1) from nI_add i 1]
  refine sx_RP.scr (x := (i + 1)) rfl (by omega) hl (show _ = 865 from rfl) ?_
  refine sx_RP.step (pc2 := 866) (ls2 := [(3, .int (nI i)), (2, .ref 111), (1, .ref 0), (0, .float 4)]) (st2 := [.float 4, .int (ys.getD ((i + 1)) 0), .ref 111]) (w3 := w1) rfl rfl ?_
  refine sx_RP.step (pc2 := 867) (ls2 := [(3, .int (nI i)), (2, .ref 111), (1, .ref 0), (0, .float 4)]) (st2 := [.int (nI i), .float 4, .int (ys.getD ((i + 1)) 0), .ref 111]) (w3 := w1) rfl rfl ?_
  refine sx_RP.step (pc2 := 868) (ls2 := [(3, .int (nI i)), (2, .ref 111), (1, .ref 0), (0, .float 4)]) (st2 := [.int 2, .int (nI i), .float 4, .int (ys.getD ((i + 1)) 0), .ref 111]) (w3 := w1) rfl rfl ?_
  refine sx_RP.step (pc2 := 869) (ls2 := [(3, .int (nI i)), (2, .ref 111), (1, .ref 0), (0, .float 4)]) (st2 := [.int ((nI i) + 2), .float 4, .int (ys.getD ((i + 1)) 0), .ref 111]) (w3 := w1) rfl rfl ?_
  rw [show ((nI i) + 2 : Int32) = nI (i + 2) from nI_add i 2]
  refine sx_RP.scr (x := (i + 2)) rfl (by omega) hl (show _ = 870 from rfl) ?_
  refine sx_RP.callp (as2 := [.ref 111, .int (ys.getD ((i + 1)) 0), .int (ys.getD ((i + 2)) 0)]) (rest2 := []) rfl rfl (sx_inv_v2 (mi := 246) (k := 103) (st := [.int (ys.getD ((i + 2)) 0), .int (ys.getD ((i + 1)) 0), .ref 111]) (w := w1) rfl rfl hI2.1.o111 rfl rfl rfl) rfl rfl rfl (sx_RP.byk (r185 (d := 1) hI2 hR6 (ys.getD ((i + 1)) 0) (ys.getD ((i + 2)) 0))) (show _ = 873 from rfl) ?_
  rintro r4 w8 ⟨⟨rfl, hI9, ⟨hR10, lo11⟩⟩, hbk12⟩
  have hL13 : LI w8 := ⟨_, hC3.lo hI2 lo11, hR10, hbk12 hb7⟩
  show sx_RP _ _ _ _ _ [.int (mov2A s.1 (ys.getD ((i + 1)) 0) (ys.getD ((i + 2)) 0))] _ _
  refine sx_RP.step (pc2 := 874) (ls2 := [(3, .int (nI i)), (2, .ref 111), (1, .ref 0), (0, .float 4)]) (st2 := []) (w3 := w8) rfl rfl ?_
  refine sx_RP.step (pc2 := 1539) (ls2 := [(3, .int (nI i)), (2, .ref 111), (1, .ref 0), (0, .float 4)]) (st2 := []) (w3 := w8) rfl rfl ?_
  exact kk w8 hI9 hL13
set_option maxRecDepth 20000 in
set_option maxHeartbeats 4000000 in
theorem lc21 {ys : List Int32} {i : Nat} {w : List sx_C} {P : Option Value → List sx_C → Prop} (hl : ys.length ≤ 3072) (hn : i + 6 ≤ ys.length) (hI : WI w) (hL : LI w) (kk : ∀ w2, WI w2 → LI w2 → sx_RP (some ys) 9 246 1539 [(3, .int (nI i)), (2, .ref 111), (1, .ref 0), (0, .float 4)] [] w2 P) : sx_RP (some ys) 9 246 877 [(3, .int (nI i)), (2, .ref 111), (1, .ref 0), (0, .float 4)] [] w P := by
  obtain ⟨s, hC, hR, hb⟩ := hL
  refine sx_RP.step (pc2 := 878) (ls2 := [(3, .int (nI i)), (2, .ref 111), (1, .ref 0), (0, .float 4)]) (st2 := [.ref 0]) (w3 := w) rfl rfl ?_
  refine sx_RP.step (pc2 := 879) (ls2 := [(3, .int (nI i)), (2, .ref 111), (1, .ref 0), (0, .float 4)]) (st2 := [.float 4, .ref 0]) (w3 := w) rfl rfl ?_
  refine sx_RP.step (pc2 := 880) (ls2 := [(3, .int (nI i)), (2, .ref 111), (1, .ref 0), (0, .float 4)]) (st2 := [.int (nI i), .float 4, .ref 0]) (w3 := w) rfl rfl ?_
  refine sx_RP.step (pc2 := 881) (ls2 := [(3, .int (nI i)), (2, .ref 111), (1, .ref 0), (0, .float 4)]) (st2 := [.int 1, .int (nI i), .float 4, .ref 0]) (w3 := w) rfl rfl ?_
  refine sx_RP.step (pc2 := 882) (ls2 := [(3, .int (nI i)), (2, .ref 111), (1, .ref 0), (0, .float 4)]) (st2 := [.int ((nI i) + 1), .float 4, .ref 0]) (w3 := w) rfl rfl ?_
  rw [show ((nI i) + 1 : Int32) = nI (i + 1) from nI_add i 1]
  refine sx_RP.scr (x := (i + 1)) rfl (by omega) hl (show _ = 883 from rfl) ?_
  refine sx_RP.callp (as2 := [.ref 0, .int (ys.getD ((i + 1)) 0)]) (rest2 := []) rfl rfl (sx_inv_v2 (mi := 246) (k := 104) (st := [.int (ys.getD ((i + 1)) 0), .ref 0]) (w := w) rfl rfl hI.1.o0 rfl rfl rfl) rfl rfl rfl (sx_RP.byk (c67 (d := 1) hI hC (ys.getD ((i + 1)) 0))) (show _ = 886 from rfl) ?_
  rintro r4 w1 ⟨⟨⟨v3, rfl⟩, hI2, ⟨hC4, hi5⟩⟩, hbk6⟩
  have hR7 := hR.hi hi5
  have hb8 := hbk6 hb
  show sx_RP _ _ _ _ _ [.int v3] _ _
  refine sx_RP.step (pc2 := 887) (ls2 := [(3, .int (nI i)), (2, .ref 111), (1, .ref 0), (0, .float 4)]) (st2 := []) (w3 := w1) rfl rfl ?_
  refine sx_RP.step (pc2 := 888) (ls2 := [(3, .int (nI i)), (2, .ref 111), (1, .ref 0), (0, .float 4)]) (st2 := [.ref 111]) (w3 := w1) rfl rfl ?_
  refine sx_RP.step (pc2 := 889) (ls2 := [(3, .int (nI i)), (2, .ref 111), (1, .ref 0), (0, .float 4)]) (st2 := [.float 4, .ref 111]) (w3 := w1) rfl rfl ?_
  refine sx_RP.step (pc2 := 890) (ls2 := [(3, .int (nI i)), (2, .ref 111), (1, .ref 0), (0, .float 4)]) (st2 := [.int (nI i), .float 4, .ref 111]) (w3 := w1) rfl rfl ?_
  refine sx_RP.step (pc2 := 891) (ls2 := [(3, .int (nI i)), (2, .ref 111), (1, .ref 0), (0, .float 4)]) (st2 := [.int 1, .int (nI i), .float 4, .ref 111]) (w3 := w1) rfl rfl ?_
  refine sx_RP.step (pc2 := 892) (ls2 := [(3, .int (nI i)), (2, .ref 111), (1, .ref 0), (0, .float 4)]) (st2 := [.int ((nI i) + 1), .float 4, .ref 111]) (w3 := w1) rfl rfl ?_
  rw [show ((nI i) + 1 : Int32) = nI (i + 1) from nI_add i 1]
  refine sx_RP.scr (x := (i + 1)) rfl (by omega) hl (show _ = 893 from rfl) ?_
  refine sx_RP.callp (as2 := [.ref 111, .int (ys.getD ((i + 1)) 0)]) (rest2 := []) rfl rfl (sx_inv_v2 (mi := 246) (k := 107) (st := [.int (ys.getD ((i + 1)) 0), .ref 111]) (w := w1) rfl rfl hI2.1.o111 rfl rfl rfl) rfl rfl rfl (sx_RP.byk (r187 (d := 1) hI2 hR7 (ys.getD ((i + 1)) 0))) (show _ = 896 from rfl) ?_
  rintro r4 w9 ⟨⟨⟨v11, rfl⟩, hI10, ⟨hR12, lo13⟩⟩, hbk14⟩
  have hL15 : LI w9 := ⟨_, hC4.lo hI2 lo13, hR12, hbk14 hb8⟩
  show sx_RP _ _ _ _ _ [.int v11] _ _
  refine sx_RP.step (pc2 := 897) (ls2 := [(3, .int (nI i)), (2, .ref 111), (1, .ref 0), (0, .float 4)]) (st2 := []) (w3 := w9) rfl rfl ?_
  refine sx_RP.step (pc2 := 1539) (ls2 := [(3, .int (nI i)), (2, .ref 111), (1, .ref 0), (0, .float 4)]) (st2 := []) (w3 := w9) rfl rfl ?_
  exact kk w9 hI10 hL15
set_option maxRecDepth 20000 in
set_option maxHeartbeats 4000000 in
theorem lc22 {ys : List Int32} {i : Nat} {w : List sx_C} {P : Option Value → List sx_C → Prop} (hl : ys.length ≤ 3072) (hn : i + 6 ≤ ys.length) (hI : WI w) (hL : LI w) (kk : ∀ w2, WI w2 → LI w2 → sx_RP (some ys) 9 246 1539 [(3, .int (nI i)), (2, .ref 111), (1, .ref 0), (0, .float 4)] [] w2 P) : sx_RP (some ys) 9 246 900 [(3, .int (nI i)), (2, .ref 111), (1, .ref 0), (0, .float 4)] [] w P := by
  obtain ⟨s, hC, hR, hb⟩ := hL
  refine sx_RP.step (pc2 := 901) (ls2 := [(3, .int (nI i)), (2, .ref 111), (1, .ref 0), (0, .float 4)]) (st2 := [.ref 0]) (w3 := w) rfl rfl ?_
  refine sx_RP.step (pc2 := 902) (ls2 := [(3, .int (nI i)), (2, .ref 111), (1, .ref 0), (0, .float 4)]) (st2 := [.float 4, .ref 0]) (w3 := w) rfl rfl ?_
  refine sx_RP.step (pc2 := 903) (ls2 := [(3, .int (nI i)), (2, .ref 111), (1, .ref 0), (0, .float 4)]) (st2 := [.int (nI i), .float 4, .ref 0]) (w3 := w) rfl rfl ?_
  refine sx_RP.step (pc2 := 904) (ls2 := [(3, .int (nI i)), (2, .ref 111), (1, .ref 0), (0, .float 4)]) (st2 := [.int 1, .int (nI i), .float 4, .ref 0]) (w3 := w) rfl rfl ?_
  refine sx_RP.step (pc2 := 905) (ls2 := [(3, .int (nI i)), (2, .ref 111), (1, .ref 0), (0, .float 4)]) (st2 := [.int ((nI i) + 1), .float 4, .ref 0]) (w3 := w) rfl rfl ?_
  rw [show ((nI i) + 1 : Int32) = nI (i + 1) from nI_add i 1]
  refine sx_RP.scr (x := (i + 1)) rfl (by omega) hl (show _ = 906 from rfl) ?_
  refine sx_RP.step (pc2 := 907) (ls2 := [(3, .int (nI i)), (2, .ref 111), (1, .ref 0), (0, .float 4)]) (st2 := [.float 4, .int (ys.getD ((i + 1)) 0), .ref 0]) (w3 := w) rfl rfl ?_
  refine sx_RP.step (pc2 := 908) (ls2 := [(3, .int (nI i)), (2, .ref 111), (1, .ref 0), (0, .float 4)]) (st2 := [.int (nI i), .float 4, .int (ys.getD ((i + 1)) 0), .ref 0]) (w3 := w) rfl rfl ?_
  refine sx_RP.step (pc2 := 909) (ls2 := [(3, .int (nI i)), (2, .ref 111), (1, .ref 0), (0, .float 4)]) (st2 := [.int 2, .int (nI i), .float 4, .int (ys.getD ((i + 1)) 0), .ref 0]) (w3 := w) rfl rfl ?_
  refine sx_RP.step (pc2 := 910) (ls2 := [(3, .int (nI i)), (2, .ref 111), (1, .ref 0), (0, .float 4)]) (st2 := [.int ((nI i) + 2), .float 4, .int (ys.getD ((i + 1)) 0), .ref 0]) (w3 := w) rfl rfl ?_
  rw [show ((nI i) + 2 : Int32) = nI (i + 2) from nI_add i 2]
  refine sx_RP.scr (x := (i + 2)) rfl (by omega) hl (show _ = 911 from rfl) ?_
  refine sx_RP.callp (as2 := [.ref 0, .int (ys.getD ((i + 1)) 0), .int (ys.getD ((i + 2)) 0)]) (rest2 := []) rfl rfl (sx_inv_v2 (mi := 246) (k := 108) (st := [.int (ys.getD ((i + 2)) 0), .int (ys.getD ((i + 1)) 0), .ref 0]) (w := w) rfl rfl hI.1.o0 rfl rfl rfl) rfl rfl rfl (sx_RP.byk (c70 (d := 1) hI hC (ys.getD ((i + 1)) 0) (ys.getD ((i + 2)) 0))) (show _ = 914 from rfl) ?_
  rintro r4 w1 ⟨⟨⟨v3, rfl⟩, hI2, ⟨hC4, hi5⟩⟩, hbk6⟩
  have hR7 := hR.hi hi5
  have hb8 := hbk6 hb
  show sx_RP _ _ _ _ _ [.int v3] _ _
  refine sx_RP.step (pc2 := 915) (ls2 := [(3, .int (nI i)), (2, .ref 111), (1, .ref 0), (0, .float 4)]) (st2 := []) (w3 := w1) rfl rfl ?_
  refine sx_RP.step (pc2 := 916) (ls2 := [(3, .int (nI i)), (2, .ref 111), (1, .ref 0), (0, .float 4)]) (st2 := [.ref 111]) (w3 := w1) rfl rfl ?_
  refine sx_RP.step (pc2 := 917) (ls2 := [(3, .int (nI i)), (2, .ref 111), (1, .ref 0), (0, .float 4)]) (st2 := [.float 4, .ref 111]) (w3 := w1) rfl rfl ?_
  refine sx_RP.step (pc2 := 918) (ls2 := [(3, .int (nI i)), (2, .ref 111), (1, .ref 0), (0, .float 4)]) (st2 := [.int (nI i), .float 4, .ref 111]) (w3 := w1) rfl rfl ?_
  refine sx_RP.step (pc2 := 919) (ls2 := [(3, .int (nI i)), (2, .ref 111), (1, .ref 0), (0, .float 4)]) (st2 := [.int 1, .int (nI i), .float 4, .ref 111]) (w3 := w1) rfl rfl ?_
  refine sx_RP.step (pc2 := 920) (ls2 := [(3, .int (nI i)), (2, .ref 111), (1, .ref 0), (0, .float 4)]) (st2 := [.int ((nI i) + 1), .float 4, .ref 111]) (w3 := w1) rfl rfl ?_
  rw [show ((nI i) + 1 : Int32) = nI (i + 1) from nI_add i 1]
  refine sx_RP.scr (x := (i + 1)) rfl (by omega) hl (show _ = 921 from rfl) ?_
  refine sx_RP.step (pc2 := 922) (ls2 := [(3, .int (nI i)), (2, .ref 111), (1, .ref 0), (0, .float 4)]) (st2 := [.float 4, .int (ys.getD ((i + 1)) 0), .ref 111]) (w3 := w1) rfl rfl ?_
  refine sx_RP.step (pc2 := 923) (ls2 := [(3, .int (nI i)), (2, .ref 111), (1, .ref 0), (0, .float 4)]) (st2 := [.int (nI i), .float 4, .int (ys.getD ((i + 1)) 0), .ref 111]) (w3 := w1) rfl rfl ?_
  refine sx_RP.step (pc2 := 924) (ls2 := [(3, .int (nI i)), (2, .ref 111), (1, .ref 0), (0, .float 4)]) (st2 := [.int 2, .int (nI i), .float 4, .int (ys.getD ((i + 1)) 0), .ref 111]) (w3 := w1) rfl rfl ?_
  refine sx_RP.step (pc2 := 925) (ls2 := [(3, .int (nI i)), (2, .ref 111), (1, .ref 0), (0, .float 4)]) (st2 := [.int ((nI i) + 2), .float 4, .int (ys.getD ((i + 1)) 0), .ref 111]) (w3 := w1) rfl rfl ?_
  rw [show ((nI i) + 2 : Int32) = nI (i + 2) from nI_add i 2]
  refine sx_RP.scr (x := (i + 2)) rfl (by omega) hl (show _ = 926 from rfl) ?_
  refine sx_RP.callp (as2 := [.ref 111, .int (ys.getD ((i + 1)) 0), .int (ys.getD ((i + 2)) 0)]) (rest2 := []) rfl rfl (sx_inv_v2 (mi := 246) (k := 111) (st := [.int (ys.getD ((i + 2)) 0), .int (ys.getD ((i + 1)) 0), .ref 111]) (w := w1) rfl rfl hI2.1.o111 rfl rfl rfl) rfl rfl rfl (sx_RP.byk (r191 (d := 1) hI2 hR7 (ys.getD ((i + 1)) 0) (ys.getD ((i + 2)) 0))) (show _ = 929 from rfl) ?_
  rintro r4 w9 ⟨⟨⟨v11, rfl⟩, hI10, ⟨hR12, lo13⟩⟩, hbk14⟩
  have hL15 : LI w9 := ⟨_, hC4.lo hI2 lo13, hR12, hbk14 hb8⟩
  show sx_RP _ _ _ _ _ [.int v11] _ _
  refine sx_RP.step (pc2 := 930) (ls2 := [(3, .int (nI i)), (2, .ref 111), (1, .ref 0), (0, .float 4)]) (st2 := []) (w3 := w9) rfl rfl ?_
  refine sx_RP.step (pc2 := 1539) (ls2 := [(3, .int (nI i)), (2, .ref 111), (1, .ref 0), (0, .float 4)]) (st2 := []) (w3 := w9) rfl rfl ?_
  exact kk w9 hI10 hL15
set_option maxRecDepth 20000 in
set_option maxHeartbeats 4000000 in
theorem lc23 {ys : List Int32} {i : Nat} {w : List sx_C} {P : Option Value → List sx_C → Prop} (hl : ys.length ≤ 3072) (hn : i + 6 ≤ ys.length) (hI : WI w) (hL : LI w) (kk : ∀ w2, WI w2 → LI w2 → sx_RP (some ys) 9 246 1539 [(3, .int (nI i)), (2, .ref 111), (1, .ref 0), (0, .float 4)] [] w2 P) : sx_RP (some ys) 9 246 933 [(3, .int (nI i)), (2, .ref 111), (1, .ref 0), (0, .float 4)] [] w P := by
  obtain ⟨s, hC, hR, hb⟩ := hL
  refine sx_RP.step (pc2 := 934) (ls2 := [(3, .int (nI i)), (2, .ref 111), (1, .ref 0), (0, .float 4)]) (st2 := [.ref 0]) (w3 := w) rfl rfl ?_
  refine sx_RP.step (pc2 := 935) (ls2 := [(3, .int (nI i)), (2, .ref 111), (1, .ref 0), (0, .float 4)]) (st2 := [.float 4, .ref 0]) (w3 := w) rfl rfl ?_
  refine sx_RP.step (pc2 := 936) (ls2 := [(3, .int (nI i)), (2, .ref 111), (1, .ref 0), (0, .float 4)]) (st2 := [.int (nI i), .float 4, .ref 0]) (w3 := w) rfl rfl ?_
  refine sx_RP.step (pc2 := 937) (ls2 := [(3, .int (nI i)), (2, .ref 111), (1, .ref 0), (0, .float 4)]) (st2 := [.int 1, .int (nI i), .float 4, .ref 0]) (w3 := w) rfl rfl ?_
  refine sx_RP.step (pc2 := 938) (ls2 := [(3, .int (nI i)), (2, .ref 111), (1, .ref 0), (0, .float 4)]) (st2 := [.int ((nI i) + 1), .float 4, .ref 0]) (w3 := w) rfl rfl ?_
  rw [show ((nI i) + 1 : Int32) = nI (i + 1) from nI_add i 1]
  refine sx_RP.scr (x := (i + 1)) rfl (by omega) hl (show _ = 939 from rfl) ?_
  refine sx_RP.callp (as2 := [.ref 0, .int (ys.getD ((i + 1)) 0)]) (rest2 := []) rfl rfl (sx_inv_v2 (mi := 246) (k := 112) (st := [.int (ys.getD ((i + 1)) 0), .ref 0]) (w := w) rfl rfl hI.1.o0 rfl rfl rfl) rfl rfl rfl (sx_RP.byk (c71 (d := 1) hI hC (ys.getD ((i + 1)) 0))) (show _ = 942 from rfl) ?_
  rintro r4 w1 ⟨⟨⟨v3, rfl⟩, hI2, ⟨hC4, hi5⟩⟩, hbk6⟩
  have hR7 := hR.hi hi5
  have hb8 := hbk6 hb
  show sx_RP _ _ _ _ _ [.long v3] _ _
  refine sx_RP.step (pc2 := 943) (ls2 := [(3, .int (nI i)), (2, .ref 111), (1, .ref 0), (0, .float 4)]) (st2 := []) (w3 := w1) rfl rfl ?_
  refine sx_RP.step (pc2 := 944) (ls2 := [(3, .int (nI i)), (2, .ref 111), (1, .ref 0), (0, .float 4)]) (st2 := [.ref 111]) (w3 := w1) rfl rfl ?_
  refine sx_RP.step (pc2 := 945) (ls2 := [(3, .int (nI i)), (2, .ref 111), (1, .ref 0), (0, .float 4)]) (st2 := [.float 4, .ref 111]) (w3 := w1) rfl rfl ?_
  refine sx_RP.step (pc2 := 946) (ls2 := [(3, .int (nI i)), (2, .ref 111), (1, .ref 0), (0, .float 4)]) (st2 := [.int (nI i), .float 4, .ref 111]) (w3 := w1) rfl rfl ?_
  refine sx_RP.step (pc2 := 947) (ls2 := [(3, .int (nI i)), (2, .ref 111), (1, .ref 0), (0, .float 4)]) (st2 := [.int 1, .int (nI i), .float 4, .ref 111]) (w3 := w1) rfl rfl ?_
  refine sx_RP.step (pc2 := 948) (ls2 := [(3, .int (nI i)), (2, .ref 111), (1, .ref 0), (0, .float 4)]) (st2 := [.int ((nI i) + 1), .float 4, .ref 111]) (w3 := w1) rfl rfl ?_
  rw [show ((nI i) + 1 : Int32) = nI (i + 1) from nI_add i 1]
  refine sx_RP.scr (x := (i + 1)) rfl (by omega) hl (show _ = 949 from rfl) ?_
  refine sx_RP.callp (as2 := [.ref 111, .int (ys.getD ((i + 1)) 0)]) (rest2 := []) rfl rfl (sx_inv_v2 (mi := 246) (k := 116) (st := [.int (ys.getD ((i + 1)) 0), .ref 111]) (w := w1) rfl rfl hI2.1.o111 rfl rfl rfl) rfl rfl rfl (sx_RP.byk (r192 (d := 1) hI2 hR7 (ys.getD ((i + 1)) 0))) (show _ = 952 from rfl) ?_
  rintro r4 w9 ⟨⟨⟨v11, rfl⟩, hI10, ⟨hR12, lo13⟩⟩, hbk14⟩
  have hL15 : LI w9 := ⟨_, hC4.lo hI2 lo13, hR12, hbk14 hb8⟩
  show sx_RP _ _ _ _ _ [.long v11] _ _
  refine sx_RP.step (pc2 := 953) (ls2 := [(3, .int (nI i)), (2, .ref 111), (1, .ref 0), (0, .float 4)]) (st2 := []) (w3 := w9) rfl rfl ?_
  refine sx_RP.step (pc2 := 1539) (ls2 := [(3, .int (nI i)), (2, .ref 111), (1, .ref 0), (0, .float 4)]) (st2 := []) (w3 := w9) rfl rfl ?_
  exact kk w9 hI10 hL15
set_option maxRecDepth 20000 in
set_option maxHeartbeats 4000000 in
theorem lc24 {ys : List Int32} {i : Nat} {w : List sx_C} {P : Option Value → List sx_C → Prop} (hl : ys.length ≤ 3072) (hn : i + 6 ≤ ys.length) (hI : WI w) (hL : LI w) (kk : ∀ w2, WI w2 → LI w2 → sx_RP (some ys) 9 246 1539 [(3, .int (nI i)), (2, .ref 111), (1, .ref 0), (0, .float 4)] [] w2 P) : sx_RP (some ys) 9 246 956 [(3, .int (nI i)), (2, .ref 111), (1, .ref 0), (0, .float 4)] [] w P := by
  obtain ⟨s, hC, hR, hb⟩ := hL
  refine sx_RP.step (pc2 := 957) (ls2 := [(3, .int (nI i)), (2, .ref 111), (1, .ref 0), (0, .float 4)]) (st2 := [.ref 0]) (w3 := w) rfl rfl ?_
  refine sx_RP.step (pc2 := 958) (ls2 := [(3, .int (nI i)), (2, .ref 111), (1, .ref 0), (0, .float 4)]) (st2 := [.float 4, .ref 0]) (w3 := w) rfl rfl ?_
  refine sx_RP.step (pc2 := 959) (ls2 := [(3, .int (nI i)), (2, .ref 111), (1, .ref 0), (0, .float 4)]) (st2 := [.int (nI i), .float 4, .ref 0]) (w3 := w) rfl rfl ?_
  refine sx_RP.step (pc2 := 960) (ls2 := [(3, .int (nI i)), (2, .ref 111), (1, .ref 0), (0, .float 4)]) (st2 := [.int 1, .int (nI i), .float 4, .ref 0]) (w3 := w) rfl rfl ?_
  refine sx_RP.step (pc2 := 961) (ls2 := [(3, .int (nI i)), (2, .ref 111), (1, .ref 0), (0, .float 4)]) (st2 := [.int ((nI i) + 1), .float 4, .ref 0]) (w3 := w) rfl rfl ?_
  rw [show ((nI i) + 1 : Int32) = nI (i + 1) from nI_add i 1]
  refine sx_RP.scr (x := (i + 1)) rfl (by omega) hl (show _ = 962 from rfl) ?_
  refine sx_RP.callp (as2 := [.ref 0, .int (ys.getD ((i + 1)) 0)]) (rest2 := []) rfl rfl (sx_inv_v2 (mi := 246) (k := 117) (st := [.int (ys.getD ((i + 1)) 0), .ref 0]) (w := w) rfl rfl hI.1.o0 rfl rfl rfl) rfl rfl rfl (sx_RP.byk (c74 (d := 1) hI hC (ys.getD ((i + 1)) 0))) (show _ = 965 from rfl) ?_
  rintro r4 w1 ⟨⟨⟨v3, rfl⟩, hI2, ⟨hC4, hi5⟩⟩, hbk6⟩
  have hR7 := hR.hi hi5
  have hb8 := hbk6 hb
  show sx_RP _ _ _ _ _ [.int v3] _ _
  refine sx_RP.step (pc2 := 966) (ls2 := [(3, .int (nI i)), (2, .ref 111), (1, .ref 0), (0, .float 4)]) (st2 := []) (w3 := w1) rfl rfl ?_
  refine sx_RP.step (pc2 := 967) (ls2 := [(3, .int (nI i)), (2, .ref 111), (1, .ref 0), (0, .float 4)]) (st2 := [.ref 111]) (w3 := w1) rfl rfl ?_
  refine sx_RP.step (pc2 := 968) (ls2 := [(3, .int (nI i)), (2, .ref 111), (1, .ref 0), (0, .float 4)]) (st2 := [.float 4, .ref 111]) (w3 := w1) rfl rfl ?_
  refine sx_RP.step (pc2 := 969) (ls2 := [(3, .int (nI i)), (2, .ref 111), (1, .ref 0), (0, .float 4)]) (st2 := [.int (nI i), .float 4, .ref 111]) (w3 := w1) rfl rfl ?_
  refine sx_RP.step (pc2 := 970) (ls2 := [(3, .int (nI i)), (2, .ref 111), (1, .ref 0), (0, .float 4)]) (st2 := [.int 1, .int (nI i), .float 4, .ref 111]) (w3 := w1) rfl rfl ?_
  refine sx_RP.step (pc2 := 971) (ls2 := [(3, .int (nI i)), (2, .ref 111), (1, .ref 0), (0, .float 4)]) (st2 := [.int ((nI i) + 1), .float 4, .ref 111]) (w3 := w1) rfl rfl ?_
  rw [show ((nI i) + 1 : Int32) = nI (i + 1) from nI_add i 1]
  refine sx_RP.scr (x := (i + 1)) rfl (by omega) hl (show _ = 972 from rfl) ?_
  refine sx_RP.callp (as2 := [.ref 111, .int (ys.getD ((i + 1)) 0)]) (rest2 := []) rfl rfl (sx_inv_v2 (mi := 246) (k := 120) (st := [.int (ys.getD ((i + 1)) 0), .ref 111]) (w := w1) rfl rfl hI2.1.o111 rfl rfl rfl) rfl rfl rfl (sx_RP.byk (r194 (d := 1) hI2 hR7 (ys.getD ((i + 1)) 0))) (show _ = 975 from rfl) ?_
  rintro r4 w9 ⟨⟨⟨v11, rfl⟩, hI10, ⟨hR12, lo13⟩⟩, hbk14⟩
  have hL15 : LI w9 := ⟨_, hC4.lo hI2 lo13, hR12, hbk14 hb8⟩
  show sx_RP _ _ _ _ _ [.int v11] _ _
  refine sx_RP.step (pc2 := 976) (ls2 := [(3, .int (nI i)), (2, .ref 111), (1, .ref 0), (0, .float 4)]) (st2 := []) (w3 := w9) rfl rfl ?_
  refine sx_RP.step (pc2 := 1539) (ls2 := [(3, .int (nI i)), (2, .ref 111), (1, .ref 0), (0, .float 4)]) (st2 := []) (w3 := w9) rfl rfl ?_
  exact kk w9 hI10 hL15
set_option maxRecDepth 20000 in
set_option maxHeartbeats 4000000 in
theorem lc25 {ys : List Int32} {i : Nat} {w : List sx_C} {P : Option Value → List sx_C → Prop} (hl : ys.length ≤ 3072) (hn : i + 6 ≤ ys.length) (hI : WI w) (hL : LI w) (kk : ∀ w2, WI w2 → LI w2 → sx_RP (some ys) 9 246 1539 [(3, .int (nI i)), (2, .ref 111), (1, .ref 0), (0, .float 4)] [] w2 P) : sx_RP (some ys) 9 246 979 [(3, .int (nI i)), (2, .ref 111), (1, .ref 0), (0, .float 4)] [] w P := by
  obtain ⟨s, hC, hR, hb⟩ := hL
  refine sx_RP.step (pc2 := 980) (ls2 := [(3, .int (nI i)), (2, .ref 111), (1, .ref 0), (0, .float 4)]) (st2 := [.ref 0]) (w3 := w) rfl rfl ?_
  refine sx_RP.step (pc2 := 981) (ls2 := [(3, .int (nI i)), (2, .ref 111), (1, .ref 0), (0, .float 4)]) (st2 := [.float 4, .ref 0]) (w3 := w) rfl rfl ?_
  refine sx_RP.step (pc2 := 982) (ls2 := [(3, .int (nI i)), (2, .ref 111), (1, .ref 0), (0, .float 4)]) (st2 := [.int (nI i), .float 4, .ref 0]) (w3 := w) rfl rfl ?_
  refine sx_RP.step (pc2 := 983) (ls2 := [(3, .int (nI i)), (2, .ref 111), (1, .ref 0), (0, .float 4)]) (st2 := [.int 1, .int (nI i), .float 4, .ref 0]) (w3 := w) rfl rfl ?_
  refine sx_RP.step (pc2 := 984) (ls2 := [(3, .int (nI i)), (2, .ref 111), (1, .ref 0), (0, .float 4)]) (st2 := [.int ((nI i) + 1), .float 4, .ref 0]) (w3 := w) rfl rfl ?_
  rw [show ((nI i) + 1 : Int32) = nI (i + 1) from nI_add i 1]
  refine sx_RP.scr (x := (i + 1)) rfl (by omega) hl (show _ = 985 from rfl) ?_
  refine sx_RP.step (pc2 := 986) (ls2 := [(3, .int (nI i)), (2, .ref 111), (1, .ref 0), (0, .float 4)]) (st2 := [.float 4, .int (ys.getD ((i + 1)) 0), .ref 0]) (w3 := w) rfl rfl ?_
  refine sx_RP.step (pc2 := 987) (ls2 := [(3, .int (nI i)), (2, .ref 111), (1, .ref 0), (0, .float 4)]) (st2 := [.int (nI i), .float 4, .int (ys.getD ((i + 1)) 0), .ref 0]) (w3 := w) rfl rfl ?_
  refine sx_RP.step (pc2 := 988) (ls2 := [(3, .int (nI i)), (2, .ref 111), (1, .ref 0), (0, .float 4)]) (st2 := [.int 2, .int (nI i), .float 4, .int (ys.getD ((i + 1)) 0), .ref 0]) (w3 := w) rfl rfl ?_
  refine sx_RP.step (pc2 := 989) (ls2 := [(3, .int (nI i)), (2, .ref 111), (1, .ref 0), (0, .float 4)]) (st2 := [.int ((nI i) + 2), .float 4, .int (ys.getD ((i + 1)) 0), .ref 0]) (w3 := w) rfl rfl ?_
  rw [show ((nI i) + 2 : Int32) = nI (i + 2) from nI_add i 2]
  refine sx_RP.scr (x := (i + 2)) rfl (by omega) hl (show _ = 990 from rfl) ?_
  refine sx_RP.callp (as2 := [.ref 0, .int (ys.getD ((i + 1)) 0), .int (ys.getD ((i + 2)) 0)]) (rest2 := []) rfl rfl (sx_inv_v2 (mi := 246) (k := 121) (st := [.int (ys.getD ((i + 2)) 0), .int (ys.getD ((i + 1)) 0), .ref 0]) (w := w) rfl rfl hI.1.o0 rfl rfl rfl) rfl rfl rfl (sx_RP.byk (c76 (d := 1) hI hC (ys.getD ((i + 1)) 0) (ys.getD ((i + 2)) 0))) (show _ = 993 from rfl) ?_
  rintro r4 w1 ⟨⟨⟨v3, rfl⟩, hI2, ⟨hC4, hi5⟩⟩, hbk6⟩
  have hR7 := hR.hi hi5
  have hb8 := hbk6 hb
  show sx_RP _ _ _ _ _ [.int v3] _ _
  refine sx_RP.step (pc2 := 994) (ls2 := [(3, .int (nI i)), (2, .ref 111), (1, .ref 0), (0, .float 4)]) (st2 := []) (w3 := w1) rfl rfl ?_
  refine sx_RP.step (pc2 := 995) (ls2 := [(3, .int (nI i)), (2, .ref 111), (1, .ref 0), (0, .float 4)]) (st2 := [.ref 111]) (w3 := w1) rfl rfl ?_
  refine sx_RP.step (pc2 := 996) (ls2 := [(3, .int (nI i)), (2, .ref 111), (1, .ref 0), (0, .float 4)]) (st2 := [.float 4, .ref 111]) (w3 := w1) rfl rfl ?_
  refine sx_RP.step (pc2 := 997) (ls2 := [(3, .int (nI i)), (2, .ref 111), (1, .ref 0), (0, .float 4)]) (st2 := [.int (nI i), .float 4, .ref 111]) (w3 := w1) rfl rfl ?_
  refine sx_RP.step (pc2 := 998) (ls2 := [(3, .int (nI i)), (2, .ref 111), (1, .ref 0), (0, .float 4)]) (st2 := [.int 1, .int (nI i), .float 4, .ref 111]) (w3 := w1) rfl rfl ?_
  refine sx_RP.step (pc2 := 999) (ls2 := [(3, .int (nI i)), (2, .ref 111), (1, .ref 0), (0, .float 4)]) (st2 := [.int ((nI i) + 1), .float 4, .ref 111]) (w3 := w1) rfl rfl ?_
  rw [show ((nI i) + 1 : Int32) = nI (i + 1) from nI_add i 1]
  refine sx_RP.scr (x := (i + 1)) rfl (by omega) hl (show _ = 1000 from rfl) ?_
  refine sx_RP.step (pc2 := 1001) (ls2 := [(3, .int (nI i)), (2, .ref 111), (1, .ref 0), (0, .float 4)]) (st2 := [.float 4, .int (ys.getD ((i + 1)) 0), .ref 111]) (w3 := w1) rfl rfl ?_
  refine sx_RP.step (pc2 := 1002) (ls2 := [(3, .int (nI i)), (2, .ref 111), (1, .ref 0), (0, .float 4)]) (st2 := [.int (nI i), .float 4, .int (ys.getD ((i + 1)) 0), .ref 111]) (w3 := w1) rfl rfl ?_
  refine sx_RP.step (pc2 := 1003) (ls2 := [(3, .int (nI i)), (2, .ref 111), (1, .ref 0), (0, .float 4)]) (st2 := [.int 2, .int (nI i), .float 4, .int (ys.getD ((i + 1)) 0), .ref 111]) (w3 := w1) rfl rfl ?_
  refine sx_RP.step (pc2 := 1004) (ls2 := [(3, .int (nI i)), (2, .ref 111), (1, .ref 0), (0, .float 4)]) (st2 := [.int ((nI i) + 2), .float 4, .int (ys.getD ((i + 1)) 0), .ref 111]) (w3 := w1) rfl rfl ?_
  rw [show ((nI i) + 2 : Int32) = nI (i + 2) from nI_add i 2]
  refine sx_RP.scr (x := (i + 2)) rfl (by omega) hl (show _ = 1005 from rfl) ?_
  refine sx_RP.callp (as2 := [.ref 111, .int (ys.getD ((i + 1)) 0), .int (ys.getD ((i + 2)) 0)]) (rest2 := []) rfl rfl (sx_inv_v2 (mi := 246) (k := 124) (st := [.int (ys.getD ((i + 2)) 0), .int (ys.getD ((i + 1)) 0), .ref 111]) (w := w1) rfl rfl hI2.1.o111 rfl rfl rfl) rfl rfl rfl (sx_RP.byk (r196 (d := 1) hI2 hR7 (ys.getD ((i + 1)) 0) (ys.getD ((i + 2)) 0))) (show _ = 1008 from rfl) ?_
  rintro r4 w9 ⟨⟨⟨v11, rfl⟩, hI10, ⟨hR12, lo13⟩⟩, hbk14⟩
  have hL15 : LI w9 := ⟨_, hC4.lo hI2 lo13, hR12, hbk14 hb8⟩
  show sx_RP _ _ _ _ _ [.int v11] _ _
  refine sx_RP.step (pc2 := 1009) (ls2 := [(3, .int (nI i)), (2, .ref 111), (1, .ref 0), (0, .float 4)]) (st2 := []) (w3 := w9) rfl rfl ?_
  refine sx_RP.step (pc2 := 1539) (ls2 := [(3, .int (nI i)), (2, .ref 111), (1, .ref 0), (0, .float 4)]) (st2 := []) (w3 := w9) rfl rfl ?_
  exact kk w9 hI10 hL15
set_option maxRecDepth 20000 in
set_option maxHeartbeats 4000000 in
theorem lc26 {ys : List Int32} {i : Nat} {w : List sx_C} {P : Option Value → List sx_C → Prop} (hl : ys.length ≤ 3072) (hn : i + 6 ≤ ys.length) (hI : WI w) (hL : LI w) (kk : ∀ w2, WI w2 → LI w2 → sx_RP (some ys) 9 246 1539 [(3, .int (nI i)), (2, .ref 111), (1, .ref 0), (0, .float 4)] [] w2 P) : sx_RP (some ys) 9 246 1012 [(3, .int (nI i)), (2, .ref 111), (1, .ref 0), (0, .float 4)] [] w P := by
  obtain ⟨s, hC, hR, hb⟩ := hL
  refine sx_RP.step (pc2 := 1013) (ls2 := [(3, .int (nI i)), (2, .ref 111), (1, .ref 0), (0, .float 4)]) (st2 := [.ref 0]) (w3 := w) rfl rfl ?_
  refine sx_RP.step (pc2 := 1014) (ls2 := [(3, .int (nI i)), (2, .ref 111), (1, .ref 0), (0, .float 4)]) (st2 := [.float 4, .ref 0]) (w3 := w) rfl rfl ?_
  refine sx_RP.step (pc2 := 1015) (ls2 := [(3, .int (nI i)), (2, .ref 111), (1, .ref 0), (0, .float 4)]) (st2 := [.int (nI i), .float 4, .ref 0]) (w3 := w) rfl rfl ?_
  refine sx_RP.step (pc2 := 1016) (ls2 := [(3, .int (nI i)), (2, .ref 111), (1, .ref 0), (0, .float 4)]) (st2 := [.int 1, .int (nI i), .float 4, .ref 0]) (w3 := w) rfl rfl ?_
  refine sx_RP.step (pc2 := 1017) (ls2 := [(3, .int (nI i)), (2, .ref 111), (1, .ref 0), (0, .float 4)]) (st2 := [.int ((nI i) + 1), .float 4, .ref 0]) (w3 := w) rfl rfl ?_
  rw [show ((nI i) + 1 : Int32) = nI (i + 1) from nI_add i 1]
  refine sx_RP.scr (x := (i + 1)) rfl (by omega) hl (show _ = 1018 from rfl) ?_
  refine sx_RP.step (pc2 := 1019) (ls2 := [(3, .int (nI i)), (2, .ref 111), (1, .ref 0), (0, .float 4)]) (st2 := [.float 4, .int (ys.getD ((i + 1)) 0), .ref 0]) (w3 := w) rfl rfl ?_
  refine sx_RP.step (pc2 := 1020) (ls2 := [(3, .int (nI i)), (2, .ref 111), (1, .ref 0), (0, .float 4)]) (st2 := [.int (nI i), .float 4, .int (ys.getD ((i + 1)) 0), .ref 0]) (w3 := w) rfl rfl ?_
  refine sx_RP.step (pc2 := 1021) (ls2 := [(3, .int (nI i)), (2, .ref 111), (1, .ref 0), (0, .float 4)]) (st2 := [.int 2, .int (nI i), .float 4, .int (ys.getD ((i + 1)) 0), .ref 0]) (w3 := w) rfl rfl ?_
  refine sx_RP.step (pc2 := 1022) (ls2 := [(3, .int (nI i)), (2, .ref 111), (1, .ref 0), (0, .float 4)]) (st2 := [.int ((nI i) + 2), .float 4, .int (ys.getD ((i + 1)) 0), .ref 0]) (w3 := w) rfl rfl ?_
  rw [show ((nI i) + 2 : Int32) = nI (i + 2) from nI_add i 2]
  refine sx_RP.scr (x := (i + 2)) rfl (by omega) hl (show _ = 1023 from rfl) ?_
  refine sx_RP.callp (as2 := [.ref 0, .int (ys.getD ((i + 1)) 0), .int (ys.getD ((i + 2)) 0)]) (rest2 := []) rfl rfl (sx_inv_v2 (mi := 246) (k := 125) (st := [.int (ys.getD ((i + 2)) 0), .int (ys.getD ((i + 1)) 0), .ref 0]) (w := w) rfl rfl hI.1.o0 rfl rfl rfl) rfl rfl rfl (sx_RP.byk (c79 (d := 1) hI hC (ys.getD ((i + 1)) 0) (ys.getD ((i + 2)) 0))) (show _ = 1026 from rfl) ?_
  rintro r4 w1 ⟨⟨rfl, hI2, ⟨hC3, hi4⟩⟩, hbk5⟩
  have hR6 := hR.hi hi4
  have hb7 := hbk5 hb
  show sx_RP _ _ _ _ _ [.int (blwA s.1 (ys.getD ((i + 1)) 0) (ys.getD ((i + 2)) 0))] _ _
  refine sx_RP.step (pc2 := 1027) (ls2 := [(3, .int (nI i)), (2, .ref 111), (1, .ref 0), (0, .float 4)]) (st2 := []) (w3 := w1) rfl rfl ?_
  refine sx_RP.step (pc2 := 1028) (ls2 := [(3, .int (nI i)), (2, .ref 111), (1, .ref 0), (0, .float 4)]) (st2 := [.ref 111]) (w3 := w1) rfl rfl ?_
  refine sx_RP.step (pc2 := 1029) (ls2 := [(3, .int (nI i)), (2, .ref 111), (1, .ref 0), (0, .float 4)]) (st2 := [.float 4, .ref 111]) (w3 := w1) rfl rfl ?_
  refine sx_RP.step (pc2 := 1030) (ls2 := [(3, .int (nI i)), (2, .ref 111), (1, .ref 0), (0, .float 4)]) (st2 := [.int (nI i), .float 4, .ref 111]) (w3 := w1) rfl rfl ?_
  refine sx_RP.step (pc2 := 1031) (ls2 := [(3, .int (nI i)), (2, .ref 111), (1, .ref 0), (0, .float 4)]) (st2 := [.int 1, .int (nI i), .float 4, .ref 111]) (w3 := w1) rfl rfl ?_
  refine sx_RP.step (pc2 := 1032) (ls2 := [(3, .int (nI i)), (2, .ref 111), (1, .ref 0), (0, .float 4)]) (st2 := [.int ((nI i) + 1), .float 4, .ref 111]) (w3 := w1) rfl rfl ?_
  rw [show ((nI i) + 1 : Int32) = nI (i + 1) from nI_add i 1]
  refine sx_RP.scr (x := (i + 1)) rfl (by omega) hl (show _ = 1033 from rfl) ?_
  refine sx_RP.step (pc2 := 1034) (ls2 := [(3, .int (nI i)), (2, .ref 111), (1, .ref 0), (0, .float 4)]) (st2 := [.float 4, .int (ys.getD ((i + 1)) 0), .ref 111]) (w3 := w1) rfl rfl ?_
  refine sx_RP.step (pc2 := 1035) (ls2 := [(3, .int (nI i)), (2, .ref 111), (1, .ref 0), (0, .float 4)]) (st2 := [.int (nI i), .float 4, .int (ys.getD ((i + 1)) 0), .ref 111]) (w3 := w1) rfl rfl ?_
  refine sx_RP.step (pc2 := 1036) (ls2 := [(3, .int (nI i)), (2, .ref 111), (1, .ref 0), (0, .float 4)]) (st2 := [.int 2, .int (nI i), .float 4, .int (ys.getD ((i + 1)) 0), .ref 111]) (w3 := w1) rfl rfl ?_
  refine sx_RP.step (pc2 := 1037) (ls2 := [(3, .int (nI i)), (2, .ref 111), (1, .ref 0), (0, .float 4)]) (st2 := [.int ((nI i) + 2), .float 4, .int (ys.getD ((i + 1)) 0), .ref 111]) (w3 := w1) rfl rfl ?_
  rw [show ((nI i) + 2 : Int32) = nI (i + 2) from nI_add i 2]
  refine sx_RP.scr (x := (i + 2)) rfl (by omega) hl (show _ = 1038 from rfl) ?_
  refine sx_RP.callp (as2 := [.ref 111, .int (ys.getD ((i + 1)) 0), .int (ys.getD ((i + 2)) 0)]) (rest2 := []) rfl rfl (sx_inv_v2 (mi := 246) (k := 128) (st := [.int (ys.getD ((i + 2)) 0), .int (ys.getD ((i + 1)) 0), .ref 111]) (w := w1) rfl rfl hI2.1.o111 rfl rfl rfl) rfl rfl rfl (sx_RP.byk (r201 (d := 1) hI2 hR6 (ys.getD ((i + 1)) 0) (ys.getD ((i + 2)) 0))) (show _ = 1041 from rfl) ?_
  rintro r4 w8 ⟨⟨rfl, hI9, ⟨hR10, lo11⟩⟩, hbk12⟩
  have hL13 : LI w8 := ⟨_, hC3.lo hI2 lo11, hR10, hbk12 hb7⟩
  show sx_RP _ _ _ _ _ [.int (blwA s.1 (ys.getD ((i + 1)) 0) (ys.getD ((i + 2)) 0))] _ _
  refine sx_RP.step (pc2 := 1042) (ls2 := [(3, .int (nI i)), (2, .ref 111), (1, .ref 0), (0, .float 4)]) (st2 := []) (w3 := w8) rfl rfl ?_
  refine sx_RP.step (pc2 := 1539) (ls2 := [(3, .int (nI i)), (2, .ref 111), (1, .ref 0), (0, .float 4)]) (st2 := []) (w3 := w8) rfl rfl ?_
  exact kk w8 hI9 hL13
set_option maxRecDepth 20000 in
set_option maxHeartbeats 4000000 in
theorem lc27 {ys : List Int32} {i : Nat} {w : List sx_C} {P : Option Value → List sx_C → Prop} (hl : ys.length ≤ 3072) (hn : i + 6 ≤ ys.length) (hI : WI w) (hL : LI w) (kk : ∀ w2, WI w2 → LI w2 → sx_RP (some ys) 9 246 1539 [(3, .int (nI i)), (2, .ref 111), (1, .ref 0), (0, .float 4)] [] w2 P) : sx_RP (some ys) 9 246 1045 [(3, .int (nI i)), (2, .ref 111), (1, .ref 0), (0, .float 4)] [] w P := by
  obtain ⟨s, hC, hR, hb⟩ := hL
  refine sx_RP.step (pc2 := 1046) (ls2 := [(3, .int (nI i)), (2, .ref 111), (1, .ref 0), (0, .float 4)]) (st2 := [.ref 0]) (w3 := w) rfl rfl ?_
  refine sx_RP.step (pc2 := 1047) (ls2 := [(3, .int (nI i)), (2, .ref 111), (1, .ref 0), (0, .float 4)]) (st2 := [.float 4, .ref 0]) (w3 := w) rfl rfl ?_
  refine sx_RP.step (pc2 := 1048) (ls2 := [(3, .int (nI i)), (2, .ref 111), (1, .ref 0), (0, .float 4)]) (st2 := [.int (nI i), .float 4, .ref 0]) (w3 := w) rfl rfl ?_
  refine sx_RP.step (pc2 := 1049) (ls2 := [(3, .int (nI i)), (2, .ref 111), (1, .ref 0), (0, .float 4)]) (st2 := [.int 1, .int (nI i), .float 4, .ref 0]) (w3 := w) rfl rfl ?_
  refine sx_RP.step (pc2 := 1050) (ls2 := [(3, .int (nI i)), (2, .ref 111), (1, .ref 0), (0, .float 4)]) (st2 := [.int ((nI i) + 1), .float 4, .ref 0]) (w3 := w) rfl rfl ?_
  rw [show ((nI i) + 1 : Int32) = nI (i + 1) from nI_add i 1]
  refine sx_RP.scr (x := (i + 1)) rfl (by omega) hl (show _ = 1051 from rfl) ?_
  refine sx_RP.callp (as2 := [.ref 0, .int (ys.getD ((i + 1)) 0)]) (rest2 := []) rfl rfl (sx_inv_v2 (mi := 246) (k := 129) (st := [.int (ys.getD ((i + 1)) 0), .ref 0]) (w := w) rfl rfl hI.1.o0 rfl rfl rfl) rfl rfl rfl (sx_RP.byk (c81 (d := 1) hI hC (ys.getD ((i + 1)) 0))) (show _ = 1054 from rfl) ?_
  rintro r4 w1 ⟨⟨⟨v3, rfl⟩, hI2, ⟨hC4, hi5⟩⟩, hbk6⟩
  have hR7 := hR.hi hi5
  have hb8 := hbk6 hb
  show sx_RP _ _ _ _ _ [.int v3] _ _
  refine sx_RP.step (pc2 := 1055) (ls2 := [(3, .int (nI i)), (2, .ref 111), (1, .ref 0), (0, .float 4)]) (st2 := []) (w3 := w1) rfl rfl ?_
  refine sx_RP.step (pc2 := 1056) (ls2 := [(3, .int (nI i)), (2, .ref 111), (1, .ref 0), (0, .float 4)]) (st2 := [.ref 111]) (w3 := w1) rfl rfl ?_
  refine sx_RP.step (pc2 := 1057) (ls2 := [(3, .int (nI i)), (2, .ref 111), (1, .ref 0), (0, .float 4)]) (st2 := [.float 4, .ref 111]) (w3 := w1) rfl rfl ?_
  refine sx_RP.step (pc2 := 1058) (ls2 := [(3, .int (nI i)), (2, .ref 111), (1, .ref 0), (0, .float 4)]) (st2 := [.int (nI i), .float 4, .ref 111]) (w3 := w1) rfl rfl ?_
  refine sx_RP.step (pc2 := 1059) (ls2 := [(3, .int (nI i)), (2, .ref 111), (1, .ref 0), (0, .float 4)]) (st2 := [.int 1, .int (nI i), .float 4, .ref 111]) (w3 := w1) rfl rfl ?_
  refine sx_RP.step (pc2 := 1060) (ls2 := [(3, .int (nI i)), (2, .ref 111), (1, .ref 0), (0, .float 4)]) (st2 := [.int ((nI i) + 1), .float 4, .ref 111]) (w3 := w1) rfl rfl ?_
  rw [show ((nI i) + 1 : Int32) = nI (i + 1) from nI_add i 1]
  refine sx_RP.scr (x := (i + 1)) rfl (by omega) hl (show _ = 1061 from rfl) ?_
  refine sx_RP.callp (as2 := [.ref 111, .int (ys.getD ((i + 1)) 0)]) (rest2 := []) rfl rfl (sx_inv_v2 (mi := 246) (k := 132) (st := [.int (ys.getD ((i + 1)) 0), .ref 111]) (w := w1) rfl rfl hI2.1.o111 rfl rfl rfl) rfl rfl rfl (sx_RP.byk (r202 (d := 1) hI2 hR7 (ys.getD ((i + 1)) 0))) (show _ = 1064 from rfl) ?_
  rintro r4 w9 ⟨⟨⟨v11, rfl⟩, hI10, ⟨hR12, lo13⟩⟩, hbk14⟩
  have hL15 : LI w9 := ⟨_, hC4.lo hI2 lo13, hR12, hbk14 hb8⟩
  show sx_RP _ _ _ _ _ [.int v11] _ _
  refine sx_RP.step (pc2 := 1065) (ls2 := [(3, .int (nI i)), (2, .ref 111), (1, .ref 0), (0, .float 4)]) (st2 := []) (w3 := w9) rfl rfl ?_
  refine sx_RP.step (pc2 := 1539) (ls2 := [(3, .int (nI i)), (2, .ref 111), (1, .ref 0), (0, .float 4)]) (st2 := []) (w3 := w9) rfl rfl ?_
  exact kk w9 hI10 hL15
set_option maxRecDepth 20000 in
set_option maxHeartbeats 4000000 in
theorem lc28 {ys : List Int32} {i : Nat} {w : List sx_C} {P : Option Value → List sx_C → Prop} (hl : ys.length ≤ 3072) (hn : i + 6 ≤ ys.length) (hI : WI w) (hL : LI w) (kk : ∀ w2, WI w2 → LI w2 → sx_RP (some ys) 9 246 1539 [(3, .int (nI i)), (2, .ref 111), (1, .ref 0), (0, .float 4)] [] w2 P) : sx_RP (some ys) 9 246 1068 [(3, .int (nI i)), (2, .ref 111), (1, .ref 0), (0, .float 4)] [] w P := by
  obtain ⟨s, hC, hR, hb⟩ := hL
  refine sx_RP.step (pc2 := 1069) (ls2 := [(3, .int (nI i)), (2, .ref 111), (1, .ref 0), (0, .float 4)]) (st2 := [.ref 0]) (w3 := w) rfl rfl ?_
  refine sx_RP.step (pc2 := 1070) (ls2 := [(3, .int (nI i)), (2, .ref 111), (1, .ref 0), (0, .float 4)]) (st2 := [.float 4, .ref 0]) (w3 := w) rfl rfl ?_
  refine sx_RP.step (pc2 := 1071) (ls2 := [(3, .int (nI i)), (2, .ref 111), (1, .ref 0), (0, .float 4)]) (st2 := [.int (nI i), .float 4, .ref 0]) (w3 := w) rfl rfl ?_
  refine sx_RP.step (pc2 := 1072) (ls2 := [(3, .int (nI i)), (2, .ref 111), (1, .ref 0), (0, .float 4)]) (st2 := [.int 1, .int (nI i), .float 4, .ref 0]) (w3 := w) rfl rfl ?_
  refine sx_RP.step (pc2 := 1073) (ls2 := [(3, .int (nI i)), (2, .ref 111), (1, .ref 0), (0, .float 4)]) (st2 := [.int ((nI i) + 1), .float 4, .ref 0]) (w3 := w) rfl rfl ?_
  rw [show ((nI i) + 1 : Int32) = nI (i + 1) from nI_add i 1]
  refine sx_RP.scr (x := (i + 1)) rfl (by omega) hl (show _ = 1074 from rfl) ?_
  refine sx_RP.step (pc2 := 1075) (ls2 := [(3, .int (nI i)), (2, .ref 111), (1, .ref 0), (0, .float 4)]) (st2 := [.float 4, .int (ys.getD ((i + 1)) 0), .ref 0]) (w3 := w) rfl rfl ?_
  refine sx_RP.step (pc2 := 1076) (ls2 := [(3, .int (nI i)), (2, .ref 111), (1, .ref 0), (0, .float 4)]) (st2 := [.int (nI i), .float 4, .int (ys.getD ((i + 1)) 0), .ref 0]) (w3 := w) rfl rfl ?_
  refine sx_RP.step (pc2 := 1077) (ls2 := [(3, .int (nI i)), (2, .ref 111), (1, .ref 0), (0, .float 4)]) (st2 := [.int 2, .int (nI i), .float 4, .int (ys.getD ((i + 1)) 0), .ref 0]) (w3 := w) rfl rfl ?_
  refine sx_RP.step (pc2 := 1078) (ls2 := [(3, .int (nI i)), (2, .ref 111), (1, .ref 0), (0, .float 4)]) (st2 := [.int ((nI i) + 2), .float 4, .int (ys.getD ((i + 1)) 0), .ref 0]) (w3 := w) rfl rfl ?_
  rw [show ((nI i) + 2 : Int32) = nI (i + 2) from nI_add i 2]
  refine sx_RP.scr (x := (i + 2)) rfl (by omega) hl (show _ = 1079 from rfl) ?_
  refine sx_RP.callp (as2 := [.ref 0, .int (ys.getD ((i + 1)) 0), .int (ys.getD ((i + 2)) 0)]) (rest2 := []) rfl rfl (sx_inv_v2 (mi := 246) (k := 133) (st := [.int (ys.getD ((i + 2)) 0), .int (ys.getD ((i + 1)) 0), .ref 0]) (w := w) rfl rfl hI.1.o0 rfl rfl rfl) rfl rfl rfl (sx_RP.byk (c82 (d := 1) hI hC (ys.getD ((i + 1)) 0) (ys.getD ((i + 2)) 0))) (show _ = 1082 from rfl) ?_
  rintro r4 w1 ⟨⟨rfl, hI2, ⟨hC3, hi4⟩⟩, hbk5⟩
  have hR6 := hR.hi hi4
  have hb7 := hbk5 hb
  show sx_RP _ _ _ _ _ [.int (bre2A s.1 (ys.getD ((i + 1)) 0) (ys.getD ((i + 2)) 0))] _ _
  refine sx_RP.step (pc2 := 1083) (ls2 := [(3, .int (nI i)), (2, .ref 111), (1, .ref 0), (0, .float 4)]) (st2 := []) (w3 := w1) rfl rfl ?_
  refine sx_RP.step (pc2 := 1084) (ls2 := [(3, .int (nI i)), (2, .ref 111), (1, .ref 0), (0, .float 4)]) (st2 := [.ref 111]) (w3 := w1) rfl rfl ?_
  refine sx_RP.step (pc2 := 1085) (ls2 := [(3, .int (nI i)), (2, .ref 111), (1, .ref 0), (0, .float 4)]) (st2 := [.float 4, .ref 111]) (w3 := w1) rfl rfl ?_
  refine sx_RP.step (pc2 := 1086) (ls2 := [(3, .int (nI i)), (2, .ref 111), (1, .ref 0), (0, .float 4)]) (st2 := [.int (nI i), .float 4, .ref 111]) (w3 := w1) rfl rfl ?_
  refine sx_RP.step (pc2 := 1087) (ls2 := [(3, .int (nI i)), (2, .ref 111), (1, .ref 0), (0, .float 4)]) (st2 := [.int 1, .int (nI i), .float 4, .ref 111]) (w3 := w1) rfl rfl ?_
  refine sx_RP.step (pc2 := 1088) (ls2 := [(3, .int (nI i)), (2, .ref 111), (1, .ref 0), (0, .float 4)]) (st2 := [.int ((nI i) + 1), .float 4, .ref 111]) (w3 := w1) rfl rfl ?_
  rw [show ((nI i) + 1 : Int32) = nI (i + 1) from nI_add i 1]
  refine sx_RP.scr (x := (i + 1)) rfl (by omega) hl (show _ = 1089 from rfl) ?_
  refine sx_RP.step (pc2 := 1090) (ls2 := [(3, .int (nI i)), (2, .ref 111), (1, .ref 0), (0, .float 4)]) (st2 := [.float 4, .int (ys.getD ((i + 1)) 0), .ref 111]) (w3 := w1) rfl rfl ?_
  refine sx_RP.step (pc2 := 1091) (ls2 := [(3, .int (nI i)), (2, .ref 111), (1, .ref 0), (0, .float 4)]) (st2 := [.int (nI i), .float 4, .int (ys.getD ((i + 1)) 0), .ref 111]) (w3 := w1) rfl rfl ?_
  refine sx_RP.step (pc2 := 1092) (ls2 := [(3, .int (nI i)), (2, .ref 111), (1, .ref 0), (0, .float 4)]) (st2 := [.int 2, .int (nI i), .float 4, .int (ys.getD ((i + 1)) 0), .ref 111]) (w3 := w1) rfl rfl ?_
  refine sx_RP.step (pc2 := 1093) (ls2 := [(3, .int (nI i)), (2, .ref 111), (1, .ref 0), (0, .float 4)]) (st2 := [.int ((nI i) + 2), .float 4, .int (ys.getD ((i + 1)) 0), .ref 111]) (w3 := w1) rfl rfl ?_
  rw [show ((nI i) + 2 : Int32) = nI (i + 2) from nI_add i 2]
  refine sx_RP.scr (x := (i + 2)) rfl (by omega) hl (show _ = 1094 from rfl) ?_
  refine sx_RP.callp (as2 := [.ref 111, .int (ys.getD ((i + 1)) 0), .int (ys.getD ((i + 2)) 0)]) (rest2 := []) rfl rfl (sx_inv_v2 (mi := 246) (k := 136) (st := [.int (ys.getD ((i + 2)) 0), .int (ys.getD ((i + 1)) 0), .ref 111]) (w := w1) rfl rfl hI2.1.o111 rfl rfl rfl) rfl rfl rfl (sx_RP.byk (r203 (d := 1) hI2 hR6 (ys.getD ((i + 1)) 0) (ys.getD ((i + 2)) 0))) (show _ = 1097 from rfl) ?_
  rintro r4 w8 ⟨⟨rfl, hI9, ⟨hR10, lo11⟩⟩, hbk12⟩
  have hL13 : LI w8 := ⟨_, hC3.lo hI2 lo11, hR10, hbk12 hb7⟩
  show sx_RP _ _ _ _ _ [.int (bre2A s.1 (ys.getD ((i + 1)) 0) (ys.getD ((i + 2)) 0))] _ _
  refine sx_RP.step (pc2 := 1098) (ls2 := [(3, .int (nI i)), (2, .ref 111), (1, .ref 0), (0, .float 4)]) (st2 := []) (w3 := w8) rfl rfl ?_
  refine sx_RP.step (pc2 := 1539) (ls2 := [(3, .int (nI i)), (2, .ref 111), (1, .ref 0), (0, .float 4)]) (st2 := []) (w3 := w8) rfl rfl ?_
  exact kk w8 hI9 hL13
set_option maxRecDepth 20000 in
set_option maxHeartbeats 4000000 in
theorem lc29 {ys : List Int32} {i : Nat} {w : List sx_C} {P : Option Value → List sx_C → Prop} (hl : ys.length ≤ 3072) (hn : i + 6 ≤ ys.length) (hI : WI w) (hL : LI w) (kk : ∀ w2, WI w2 → LI w2 → sx_RP (some ys) 9 246 1539 [(3, .int (nI i)), (2, .ref 111), (1, .ref 0), (0, .float 4)] [] w2 P) : sx_RP (some ys) 9 246 1101 [(3, .int (nI i)), (2, .ref 111), (1, .ref 0), (0, .float 4)] [] w P := by
  obtain ⟨s, hC, hR, hb⟩ := hL
  refine sx_RP.step (pc2 := 1102) (ls2 := [(3, .int (nI i)), (2, .ref 111), (1, .ref 0), (0, .float 4)]) (st2 := [.ref 0]) (w3 := w) rfl rfl ?_
  refine sx_RP.callp (as2 := [.ref 0]) (rest2 := []) rfl rfl (sx_inv_v2 (mi := 246) (k := 137) (st := [.ref 0]) (w := w) rfl rfl hI.1.o0 rfl rfl rfl) rfl rfl rfl (sx_RP.byk (c83 (d := 1) hI hC)) (show _ = 1105 from rfl) ?_
  rintro r4 w1 ⟨⟨⟨v3, rfl⟩, hI2, ⟨hC4, hi5⟩⟩, hbk6⟩
  have hR7 := hR.hi hi5
  have hb8 := hbk6 hb
  show sx_RP _ _ _ _ _ [.int v3] _ _
  refine sx_RP.step (pc2 := 1106) (ls2 := [(3, .int (nI i)), (2, .ref 111), (1, .ref 0), (0, .float 4)]) (st2 := []) (w3 := w1) rfl rfl ?_
  refine sx_RP.step (pc2 := 1107) (ls2 := [(3, .int (nI i)), (2, .ref 111), (1, .ref 0), (0, .float 4)]) (st2 := [.ref 111]) (w3 := w1) rfl rfl ?_
  refine sx_RP.callp (as2 := [.ref 111]) (rest2 := []) rfl rfl (sx_inv_v2 (mi := 246) (k := 140) (st := [.ref 111]) (w := w1) rfl rfl hI2.1.o111 rfl rfl rfl) rfl rfl rfl (sx_RP.byk (r205 (d := 1) hI2 hR7)) (show _ = 1110 from rfl) ?_
  rintro r4 w9 ⟨⟨⟨v11, rfl⟩, hI10, ⟨hR12, lo13⟩⟩, hbk14⟩
  have hL15 : LI w9 := ⟨_, hC4.lo hI2 lo13, hR12, hbk14 hb8⟩
  show sx_RP _ _ _ _ _ [.int v11] _ _
  refine sx_RP.step (pc2 := 1111) (ls2 := [(3, .int (nI i)), (2, .ref 111), (1, .ref 0), (0, .float 4)]) (st2 := []) (w3 := w9) rfl rfl ?_
  refine sx_RP.step (pc2 := 1539) (ls2 := [(3, .int (nI i)), (2, .ref 111), (1, .ref 0), (0, .float 4)]) (st2 := []) (w3 := w9) rfl rfl ?_
  exact kk w9 hI10 hL15
end
-- 91c.cases.lean.txt
section
set_option maxRecDepth 20000 in
set_option maxHeartbeats 4000000 in
theorem lc30 {ys : List Int32} {i : Nat} {w : List sx_C} {P : Option Value → List sx_C → Prop} (hl : ys.length ≤ 3072) (hn : i + 6 ≤ ys.length) (hI : WI w) (hL : LI w) (kk : ∀ w2, WI w2 → LI w2 → sx_RP (some ys) 9 246 1539 [(3, .int (nI i)), (2, .ref 111), (1, .ref 0), (0, .float 4)] [] w2 P) : sx_RP (some ys) 9 246 1114 [(3, .int (nI i)), (2, .ref 111), (1, .ref 0), (0, .float 4)] [] w P := by
  obtain ⟨s, hC, hR, hb⟩ := hL
  refine sx_RP.step (pc2 := 1115) (ls2 := [(3, .int (nI i)), (2, .ref 111), (1, .ref 0), (0, .float 4)]) (st2 := [.ref 0]) (w3 := w) rfl rfl ?_
  refine sx_RP.step (pc2 := 1116) (ls2 := [(3, .int (nI i)), (2, .ref 111), (1, .ref 0), (0, .float 4)]) (st2 := [.float 4, .ref 0]) (w3 := w) rfl rfl ?_
  refine sx_RP.step (pc2 := 1117) (ls2 := [(3, .int (nI i)), (2, .ref 111), (1, .ref 0), (0, .float 4)]) (st2 := [.int (nI i), .float 4, .ref 0]) (w3 := w) rfl rfl ?_
  refine sx_RP.step (pc2 := 1118) (ls2 := [(3, .int (nI i)), (2, .ref 111), (1, .ref 0), (0, .float 4)]) (st2 := [.int 1, .int (nI i), .float 4, .ref 0]) (w3 := w) rfl rfl ?_
  refine sx_RP.step (pc2 := 1119) (ls2 := [(3, .int (nI i)), (2, .ref 111), (1, .ref 0), (0, .float 4)]) (st2 := [.int ((nI i) + 1), .float 4, .ref 0]) (w3 := w) rfl rfl ?_
  rw [show ((nI i) + 1 : Int32) = nI (i + 1) from nI_add i 1]
  refine sx_RP.scr (x := (i + 1)) rfl (by omega) hl (show _ = 1120 from rfl) ?_
  refine sx_RP.callp (as2 := [.ref 0, .int (ys.getD ((i + 1)) 0)]) (rest2 := []) rfl rfl (sx_inv_v2 (mi := 246) (k := 141) (st := [.int (ys.getD ((i + 1)) 0), .ref 0]) (w := w) rfl rfl hI.1.o0 rfl rfl rfl) rfl rfl rfl (sx_RP.byk (c86 (d := 1) hI hC (ys.getD ((i + 1)) 0))) (show _ = 1123 from rfl) ?_
  rintro r4 w1 ⟨⟨⟨v3, rfl⟩, hI2, ⟨hC4, hi5⟩⟩, hbk6⟩
  have hR7 := hR.hi hi5
  have hb8 := hbk6 hb
  show sx_RP _ _ _ _ _ [.int v3] _ _
  refine sx_RP.step (pc2 := 1124) (ls2 := [(3, .int (nI i)), (2, .ref 111), (1, .ref 0), (0, .float 4)]) (st2 := []) (w3 := w1) rfl rfl ?_
  refine sx_RP.step (pc2 := 1125) (ls2 := [(3, .int (nI i)), (2, .ref 111), (1, .ref 0), (0, .float 4)]) (st2 := [.ref 111]) (w3 := w1) rfl rfl ?_
  refine sx_RP.step (pc2 := 1126) (ls2 := [(3, .int (nI i)), (2, .ref 111), (1, .ref 0), (0, .float 4)]) (st2 := [.float 4, .ref 111]) (w3 := w1) rfl rfl ?_
  refine sx_RP.step (pc2 := 1127) (ls2 := [(3, .int (nI i)), (2, .ref 111), (1, .ref 0), (0, .float 4)]) (st2 := [.int (nI i), .float 4, .ref 111]) (w3 := w1) rfl rfl ?_
  refine sx_RP.step (pc2 := 1128) (ls2 := [(3, .int (nI i)), (2, .ref 111), (1, .ref 0), (0, .float 4)]) (st2 := [.int 1, .int (nI i), .float 4, .ref 111]) (w3 := w1) rfl rfl ?_
  refine sx_RP.step (pc2 := 1129) (ls2 := [(3, .int (nI i)), (2, .ref 111), (1, .ref 0), (0, .float 4)]) (st2 := [.int ((nI i) + 1), .float 4, .ref 111]) (w3 := w1) rfl rfl ?_
  rw [show ((nI i) + 1 : Int32) = nI (i + 1) from nI_add i 1]
  refine sx_RP.scr (x := (i + 1)) rfl (by omega) hl (show _ = 1130 from rfl) ?_
  refine sx_RP.callp (as2 := [.ref 111, .int (ys.getD ((i + 1)) 0)]) (rest2 := []) rfl rfl (sx_inv_v2 (mi := 246) (k := 144) (st := [.int (ys.getD ((i + 1)) 0), .ref 111]) (w := w1) rfl rfl hI2.1.o111 rfl rfl rfl) rfl rfl rfl (sx_RP.byk (r207 (d := 1) hI2 hR7 (ys.getD ((i + 1)) 0))) (show _ = 1133 from rfl) ?_
  rintro r4 w9 ⟨⟨⟨v11, rfl⟩, hI10, ⟨hR12, lo13⟩⟩, hbk14⟩
  have hL15 : LI w9 := ⟨_, hC4.lo hI2 lo13, hR12, hbk14 hb8⟩
  show sx_RP _ _ _ _ _ [.int v11] _ _
  refine sx_RP.step (pc2 := 1134) (ls2 := [(3, .int (nI i)), (2, .ref 111), (1, .ref 0), (0, .float 4)]) (st2 := []) (w3 := w9) rfl rfl ?_
  refine sx_RP.step (pc2 := 1539) (ls2 := [(3, .int (nI i)), (2, .ref 111), (1, .ref 0), (0, .float 4)]) (st2 := []) (w3 := w9) rfl rfl ?_
  exact kk w9 hI10 hL15
set_option maxRecDepth 20000 in
set_option maxHeartbeats 4000000 in
theorem lc31 {ys : List Int32} {i : Nat} {w : List sx_C} {P : Option Value → List sx_C → Prop} (hl : ys.length ≤ 3072) (hn : i + 6 ≤ ys.length) (hI : WI w) (hL : LI w) (kk : ∀ w2, WI w2 → LI w2 → sx_RP (some ys) 9 246 1539 [(3, .int (nI i)), (2, .ref 111), (1, .ref 0), (0, .float 4)] [] w2 P) : sx_RP (some ys) 9 246 1137 [(3, .int (nI i)), (2, .ref 111), (1, .ref 0), (0, .float 4)] [] w P := by
  obtain ⟨s, hC, hR, hb⟩ := hL
  refine sx_RP.step (pc2 := 1138) (ls2 := [(3, .int (nI i)), (2, .ref 111), (1, .ref 0), (0, .float 4)]) (st2 := [.ref 0]) (w3 := w) rfl rfl ?_
  refine sx_RP.step (pc2 := 1139) (ls2 := [(3, .int (nI i)), (2, .ref 111), (1, .ref 0), (0, .float 4)]) (st2 := [.float 4, .ref 0]) (w3 := w) rfl rfl ?_
  refine sx_RP.step (pc2 := 1140) (ls2 := [(3, .int (nI i)), (2, .ref 111), (1, .ref 0), (0, .float 4)]) (st2 := [.int (nI i), .float 4, .ref 0]) (w3 := w) rfl rfl ?_
  refine sx_RP.step (pc2 := 1141) (ls2 := [(3, .int (nI i)), (2, .ref 111), (1, .ref 0), (0, .float 4)]) (st2 := [.int 1, .int (nI i), .float 4, .ref 0]) (w3 := w) rfl rfl ?_
  refine sx_RP.step (pc2 := 1142) (ls2 := [(3, .int (nI i)), (2, .ref 111), (1, .ref 0), (0, .float 4)]) (st2 := [.int ((nI i) + 1), .float 4, .ref 0]) (w3 := w) rfl rfl ?_
  rw [show ((nI i) + 1 : Int32) = nI (i + 1) from nI_add i 1]
  refine sx_RP.scr (x := (i + 1)) rfl (by omega) hl (show _ = 1143 from rfl) ?_
  refine sx_RP.step (pc2 := 1144) (ls2 := [(3, .int (nI i)), (2, .ref 111), (1, .ref 0), (0, .float 4)]) (st2 := [.float 4, .int (ys.getD ((i + 1)) 0), .ref 0]) (w3 := w) rfl rfl ?_
  refine sx_RP.step (pc2 := 1145) (ls2 := [(3, .int (nI i)), (2, .ref 111), (1, .ref 0), (0, .float 4)]) (st2 := [.int (nI i), .float 4, .int (ys.getD ((i + 1)) 0), .ref 0]) (w3 := w) rfl rfl ?_
  refine sx_RP.step (pc2 := 1146) (ls2 := [(3, .int (nI i)), (2, .ref 111), (1, .ref 0), (0, .float 4)]) (st2 := [.int 2, .int (nI i), .float 4, .int (ys.getD ((i + 1)) 0), .ref 0]) (w3 := w) rfl rfl ?_
  refine sx_RP.step (pc2 := 1147) (ls2 := [(3, .int (nI i)), (2, .ref 111), (1, .ref 0), (0, .float 4)]) (st2 := [.int ((nI i) + 2), .float 4, .int (ys.getD ((i + 1)) 0), .ref 0]) (w3 := w) rfl rfl ?_
  rw [show ((nI i) + 2 : Int32) = nI (i + 2) from nI_add i 2]
  refine sx_RP.scr (x := (i + 2)) rfl (by omega) hl (show _ = 1148 from rfl) ?_
  refine sx_RP.callp (as2 := [.ref 0, .int (ys.getD ((i + 1)) 0), .int (ys.getD ((i + 2)) 0)]) (rest2 := []) rfl rfl (sx_inv_v2 (mi := 246) (k := 145) (st := [.int (ys.getD ((i + 2)) 0), .int (ys.getD ((i + 1)) 0), .ref 0]) (w := w) rfl rfl hI.1.o0 rfl rfl rfl) rfl rfl rfl (sx_RP.byk (c87 (d := 1) hI hC (ys.getD ((i + 1)) 0) (ys.getD ((i + 2)) 0))) (show _ = 1151 from rfl) ?_
  rintro r4 w1 ⟨⟨rfl, hI2, ⟨hC3, hi4⟩⟩, hbk5⟩
  have hR6 := hR.hi hi4
  have hb7 := hbk5 hb
  show sx_RP _ _ _ _ _ [.int (feedA s.2.2.2.1.length (ys.getD ((i + 2)) 0))] _ _
  refine sx_RP.step (pc2 := 1152) (ls2 := [(3, .int (nI i)), (2, .ref 111), (1, .ref 0), (0, .float 4)]) (st2 := []) (w3 := w1) rfl rfl ?_
  refine sx_RP.step (pc2 := 1153) (ls2 := [(3, .int (nI i)), (2, .ref 111), (1, .ref 0), (0, .float 4)]) (st2 := [.ref 111]) (w3 := w1) rfl rfl ?_
  refine sx_RP.step (pc2 := 1154) (ls2 := [(3, .int (nI i)), (2, .ref 111), (1, .ref 0), (0, .float 4)]) (st2 := [.float 4, .ref 111]) (w3 := w1) rfl rfl ?_
  refine sx_RP.step (pc2 := 1155) (ls2 := [(3, .int (nI i)), (2, .ref 111), (1, .ref 0), (0, .float 4)]) (st2 := [.int (nI i), .float 4, .ref 111]) (w3 := w1) rfl rfl ?_
  refine sx_RP.step (pc2 := 1156) (ls2 := [(3, .int (nI i)), (2, .ref 111), (1, .ref 0), (0, .float 4)]) (st2 := [.int 1, .int (nI i), .float 4, .ref 111]) (w3 := w1) rfl rfl ?_
  refine sx_RP.step (pc2 := 1157) (ls2 := [(3, .int (nI i)), (2, .ref 111), (1, .ref 0), (0, .float 4)]) (st2 := [.int ((nI i) + 1), .float 4, .ref 111]) (w3 := w1) rfl rfl ?_
  rw [show ((nI i) + 1 : Int32) = nI (i + 1) from nI_add i 1]
  refine sx_RP.scr (x := (i + 1)) rfl (by omega) hl (show _ = 1158 from rfl) ?_
  refine sx_RP.step (pc2 := 1159) (ls2 := [(3, .int (nI i)), (2, .ref 111), (1, .ref 0), (0, .float 4)]) (st2 := [.float 4, .int (ys.getD ((i + 1)) 0), .ref 111]) (w3 := w1) rfl rfl ?_
  refine sx_RP.step (pc2 := 1160) (ls2 := [(3, .int (nI i)), (2, .ref 111), (1, .ref 0), (0, .float 4)]) (st2 := [.int (nI i), .float 4, .int (ys.getD ((i + 1)) 0), .ref 111]) (w3 := w1) rfl rfl ?_
  refine sx_RP.step (pc2 := 1161) (ls2 := [(3, .int (nI i)), (2, .ref 111), (1, .ref 0), (0, .float 4)]) (st2 := [.int 2, .int (nI i), .float 4, .int (ys.getD ((i + 1)) 0), .ref 111]) (w3 := w1) rfl rfl ?_
  refine sx_RP.step (pc2 := 1162) (ls2 := [(3, .int (nI i)), (2, .ref 111), (1, .ref 0), (0, .float 4)]) (st2 := [.int ((nI i) + 2), .float 4, .int (ys.getD ((i + 1)) 0), .ref 111]) (w3 := w1) rfl rfl ?_
  rw [show ((nI i) + 2 : Int32) = nI (i + 2) from nI_add i 2]
  refine sx_RP.scr (x := (i + 2)) rfl (by omega) hl (show _ = 1163 from rfl) ?_
  refine sx_RP.callp (as2 := [.ref 111, .int (ys.getD ((i + 1)) 0), .int (ys.getD ((i + 2)) 0)]) (rest2 := []) rfl rfl (sx_inv_v2 (mi := 246) (k := 148) (st := [.int (ys.getD ((i + 2)) 0), .int (ys.getD ((i + 1)) 0), .ref 111]) (w := w1) rfl rfl hI2.1.o111 rfl rfl rfl) rfl rfl rfl (sx_RP.byk (r208 (d := 1) hI2 hR6 (ys.getD ((i + 1)) 0) (ys.getD ((i + 2)) 0))) (show _ = 1166 from rfl) ?_
  rintro r4 w8 ⟨⟨rfl, hI9, ⟨hR10, lo11⟩⟩, hbk12⟩
  have hL13 : LI w8 := ⟨_, hC3.lo hI2 lo11, hR10, hbk12 hb7⟩
  show sx_RP _ _ _ _ _ [.int (feedA s.2.2.2.1.length (ys.getD ((i + 2)) 0))] _ _
  refine sx_RP.step (pc2 := 1167) (ls2 := [(3, .int (nI i)), (2, .ref 111), (1, .ref 0), (0, .float 4)]) (st2 := []) (w3 := w8) rfl rfl ?_
  refine sx_RP.step (pc2 := 1539) (ls2 := [(3, .int (nI i)), (2, .ref 111), (1, .ref 0), (0, .float 4)]) (st2 := []) (w3 := w8) rfl rfl ?_
  exact kk w8 hI9 hL13
set_option maxRecDepth 20000 in
set_option maxHeartbeats 4000000 in
theorem lc32 {ys : List Int32} {i : Nat} {w : List sx_C} {P : Option Value → List sx_C → Prop} (hl : ys.length ≤ 3072) (hn : i + 6 ≤ ys.length) (hI : WI w) (hL : LI w) (kk : ∀ w2, WI w2 → LI w2 → sx_RP (some ys) 9 246 1539 [(3, .int (nI i)), (2, .ref 111), (1, .ref 0), (0, .float 4)] [] w2 P) : sx_RP (some ys) 9 246 1170 [(3, .int (nI i)), (2, .ref 111), (1, .ref 0), (0, .float 4)] [] w P := by
  obtain ⟨s, hC, hR, hb⟩ := hL
  refine sx_RP.step (pc2 := 1171) (ls2 := [(3, .int (nI i)), (2, .ref 111), (1, .ref 0), (0, .float 4)]) (st2 := [.ref 0]) (w3 := w) rfl rfl ?_
  refine sx_RP.callp (as2 := [.ref 0]) (rest2 := []) rfl rfl (sx_inv_v2 (mi := 246) (k := 149) (st := [.ref 0]) (w := w) rfl rfl hI.1.o0 rfl rfl rfl) rfl rfl rfl (sx_RP.byk (c90 (d := 1) hI hC)) (show _ = 1174 from rfl) ?_
  rintro r4 w1 ⟨⟨rfl, hI2, ⟨hC3, hi4⟩⟩, hbk5⟩
  have hR6 := hR.hi hi4
  have hb7 := hbk5 hb
  show sx_RP _ _ _ _ _ [.int (nI s.2.2.2.1.length)] _ _
  refine sx_RP.step (pc2 := 1175) (ls2 := [(3, .int (nI i)), (2, .ref 111), (1, .ref 0), (0, .float 4)]) (st2 := []) (w3 := w1) rfl rfl ?_
  refine sx_RP.step (pc2 := 1176) (ls2 := [(3, .int (nI i)), (2, .ref 111), (1, .ref 0), (0, .float 4)]) (st2 := [.ref 111]) (w3 := w1) rfl rfl ?_
  refine sx_RP.callp (as2 := [.ref 111]) (rest2 := []) rfl rfl (sx_inv_v2 (mi := 246) (k := 152) (st := [.ref 111]) (w := w1) rfl rfl hI2.1.o111 rfl rfl rfl) rfl rfl rfl (sx_RP.byk (r209 (d := 1) hI2 hR6)) (show _ = 1179 from rfl) ?_
  rintro r4 w8 ⟨⟨rfl, hI9, ⟨hR10, lo11⟩⟩, hbk12⟩
  have hL13 : LI w8 := ⟨_, hC3.lo hI2 lo11, hR10, hbk12 hb7⟩
  show sx_RP _ _ _ _ _ [.int (nI s.2.2.2.1.length)] _ _
  refine sx_RP.step (pc2 := 1180) (ls2 := [(3, .int (nI i)), (2, .ref 111), (1, .ref 0), (0, .float 4)]) (st2 := []) (w3 := w8) rfl rfl ?_
  refine sx_RP.step (pc2 := 1539) (ls2 := [(3, .int (nI i)), (2, .ref 111), (1, .ref 0), (0, .float 4)]) (st2 := []) (w3 := w8) rfl rfl ?_
  exact kk w8 hI9 hL13
set_option maxRecDepth 20000 in
set_option maxHeartbeats 4000000 in
theorem lc33 {ys : List Int32} {i : Nat} {w : List sx_C} {P : Option Value → List sx_C → Prop} (hl : ys.length ≤ 3072) (hn : i + 6 ≤ ys.length) (hI : WI w) (hL : LI w) (kk : ∀ w2, WI w2 → LI w2 → sx_RP (some ys) 9 246 1539 [(3, .int (nI i)), (2, .ref 111), (1, .ref 0), (0, .float 4)] [] w2 P) : sx_RP (some ys) 9 246 1183 [(3, .int (nI i)), (2, .ref 111), (1, .ref 0), (0, .float 4)] [] w P := by
  obtain ⟨s, hC, hR, hb⟩ := hL
  refine sx_RP.step (pc2 := 1184) (ls2 := [(3, .int (nI i)), (2, .ref 111), (1, .ref 0), (0, .float 4)]) (st2 := [.ref 0]) (w3 := w) rfl rfl ?_
  refine sx_RP.callp (as2 := [.ref 0]) (rest2 := []) rfl rfl (sx_inv_v2 (mi := 246) (k := 153) (st := [.ref 0]) (w := w) rfl rfl hI.1.o0 rfl rfl rfl) rfl rfl rfl (sx_RP.byk (c92 (d := 1) hI hC (TBy_of hI hb))) (show _ = 1187 from rfl) ?_
  rintro r4 w1 ⟨⟨rfl, hI2, ⟨hC3, hi4⟩⟩, hbk5⟩
  have hR6 := hR.hi hi4
  have hb7 := hbk5 hb
  show sx_RP _ _ _ _ _ [.int ((sieV s.2.2.2.1 s.1).1)] _ _
  refine sx_RP.step (pc2 := 1188) (ls2 := [(3, .int (nI i)), (2, .ref 111), (1, .ref 0), (0, .float 4)]) (st2 := []) (w3 := w1) rfl rfl ?_
  refine sx_RP.step (pc2 := 1189) (ls2 := [(3, .int (nI i)), (2, .ref 111), (1, .ref 0), (0, .float 4)]) (st2 := [.ref 111]) (w3 := w1) rfl rfl ?_
  refine sx_RP.callp (as2 := [.ref 111]) (rest2 := []) rfl rfl (sx_inv_v2 (mi := 246) (k := 156) (st := [.ref 111]) (w := w1) rfl rfl hI2.1.o111 rfl rfl rfl) rfl rfl rfl (sx_RP.byk (r210 (d := 0) hI2 hR6 (by have z := TT_of hI (TBy_of hI hb); rw [hC.2.1.1] at z; exact z))) (show _ = 1192 from rfl) ?_
  rintro r4 w8 ⟨⟨rfl, hI9, ⟨hR10, lo11⟩⟩, hbk12⟩
  have hL13 : LI w8 := ⟨_, hC3.lo hI2 lo11, hR10, hbk12 hb7⟩
  show sx_RP _ _ _ _ _ [.int ((sieV s.2.2.2.1 s.1).1)] _ _
  refine sx_RP.step (pc2 := 1193) (ls2 := [(3, .int (nI i)), (2, .ref 111), (1, .ref 0), (0, .float 4)]) (st2 := []) (w3 := w8) rfl rfl ?_
  refine sx_RP.step (pc2 := 1539) (ls2 := [(3, .int (nI i)), (2, .ref 111), (1, .ref 0), (0, .float 4)]) (st2 := []) (w3 := w8) rfl rfl ?_
  exact kk w8 hI9 hL13
set_option maxRecDepth 20000 in
set_option maxHeartbeats 4000000 in
theorem lc34 {ys : List Int32} {i : Nat} {w : List sx_C} {P : Option Value → List sx_C → Prop} (hl : ys.length ≤ 3072) (hn : i + 6 ≤ ys.length) (hI : WI w) (hL : LI w) (kk : ∀ w2, WI w2 → LI w2 → sx_RP (some ys) 9 246 1539 [(3, .int (nI i)), (2, .ref 111), (1, .ref 0), (0, .float 4)] [] w2 P) : sx_RP (some ys) 9 246 1196 [(3, .int (nI i)), (2, .ref 111), (1, .ref 0), (0, .float 4)] [] w P := by
  obtain ⟨s, hC, hR, hb⟩ := hL
  refine sx_RP.step (pc2 := 1197) (ls2 := [(3, .int (nI i)), (2, .ref 111), (1, .ref 0), (0, .float 4)]) (st2 := [.ref 0]) (w3 := w) rfl rfl ?_
  refine sx_RP.step (pc2 := 1198) (ls2 := [(3, .int (nI i)), (2, .ref 111), (1, .ref 0), (0, .float 4)]) (st2 := [.float 4, .ref 0]) (w3 := w) rfl rfl ?_
  refine sx_RP.step (pc2 := 1199) (ls2 := [(3, .int (nI i)), (2, .ref 111), (1, .ref 0), (0, .float 4)]) (st2 := [.int (nI i), .float 4, .ref 0]) (w3 := w) rfl rfl ?_
  refine sx_RP.step (pc2 := 1200) (ls2 := [(3, .int (nI i)), (2, .ref 111), (1, .ref 0), (0, .float 4)]) (st2 := [.int 1, .int (nI i), .float 4, .ref 0]) (w3 := w) rfl rfl ?_
  refine sx_RP.step (pc2 := 1201) (ls2 := [(3, .int (nI i)), (2, .ref 111), (1, .ref 0), (0, .float 4)]) (st2 := [.int ((nI i) + 1), .float 4, .ref 0]) (w3 := w) rfl rfl ?_
  rw [show ((nI i) + 1 : Int32) = nI (i + 1) from nI_add i 1]
  refine sx_RP.scr (x := (i + 1)) rfl (by omega) hl (show _ = 1202 from rfl) ?_
  refine sx_RP.step (pc2 := 1203) (ls2 := [(3, .int (nI i)), (2, .ref 111), (1, .ref 0), (0, .float 4)]) (st2 := [.float 4, .int (ys.getD ((i + 1)) 0), .ref 0]) (w3 := w) rfl rfl ?_
  refine sx_RP.step (pc2 := 1204) (ls2 := [(3, .int (nI i)), (2, .ref 111), (1, .ref 0), (0, .float 4)]) (st2 := [.int (nI i), .float 4, .int (ys.getD ((i + 1)) 0), .ref 0]) (w3 := w) rfl rfl ?_
  refine sx_RP.step (pc2 := 1205) (ls2 := [(3, .int (nI i)), (2, .ref 111), (1, .ref 0), (0, .float 4)]) (st2 := [.int 2, .int (nI i), .float 4, .int (ys.getD ((i + 1)) 0), .ref 0]) (w3 := w) rfl rfl ?_
  refine sx_RP.step (pc2 := 1206) (ls2 := [(3, .int (nI i)), (2, .ref 111), (1, .ref 0), (0, .float 4)]) (st2 := [.int ((nI i) + 2), .float 4, .int (ys.getD ((i + 1)) 0), .ref 0]) (w3 := w) rfl rfl ?_
  rw [show ((nI i) + 2 : Int32) = nI (i + 2) from nI_add i 2]
  refine sx_RP.scr (x := (i + 2)) rfl (by omega) hl (show _ = 1207 from rfl) ?_
  refine sx_RP.step (pc2 := 1208) (ls2 := [(3, .int (nI i)), (2, .ref 111), (1, .ref 0), (0, .float 4)]) (st2 := [.float 4, .int (ys.getD ((i + 2)) 0), .int (ys.getD ((i + 1)) 0), .ref 0]) (w3 := w) rfl rfl ?_
  refine sx_RP.step (pc2 := 1209) (ls2 := [(3, .int (nI i)), (2, .ref 111), (1, .ref 0), (0, .float 4)]) (st2 := [.int (nI i), .float 4, .int (ys.getD ((i + 2)) 0), .int (ys.getD ((i + 1)) 0), .ref 0]) (w3 := w) rfl rfl ?_
  refine sx_RP.step (pc2 := 1210) (ls2 := [(3, .int (nI i)), (2, .ref 111), (1, .ref 0), (0, .float 4)]) (st2 := [.int 3, .int (nI i), .float 4, .int (ys.getD ((i + 2)) 0), .int (ys.getD ((i + 1)) 0), .ref 0]) (w3 := w) rfl rfl ?_
  refine sx_RP.step (pc2 := 1211) (ls2 := [(3, .int (nI i)), (2, .ref 111), (1, .ref 0), (0, .float 4)]) (st2 := [.int ((nI i) + 3), .float 4, .int (ys.getD ((i + 2)) 0), .int (ys.getD ((i + 1)) 0), .ref 0]) (w3 := w) rfl rfl ?_
  rw [show ((nI i) + 3 : Int32) = nI (i + 3) from nI_add i 3]
  refine sx_RP.scr (x := (i + 3)) rfl (by omega) hl (show _ = 1212 from rfl) ?_
  refine sx_RP.callp (as2 := [.ref 0, .int (ys.getD ((i + 1)) 0), .int (ys.getD ((i + 2)) 0), .int (ys.getD ((i + 3)) 0)]) (rest2 := []) rfl rfl (sx_inv_v2 (mi := 246) (k := 157) (st := [.int (ys.getD ((i + 3)) 0), .int (ys.getD ((i + 2)) 0), .int (ys.getD ((i + 1)) 0), .ref 0]) (w := w) rfl rfl hI.1.o0 rfl rfl rfl) rfl rfl rfl (sx_RP.byk (c111 (d := 1) hI hC (ys.getD ((i + 1)) 0) (ys.getD ((i + 2)) 0) (ys.getD ((i + 3)) 0))) (show _ = 1215 from rfl) ?_
  rintro r4 w1 ⟨⟨rfl, hI2, ⟨hC3, hi4⟩⟩, hbk5⟩
  have hR6 := hR.hi hi4
  have hb7 := hbk5 hb
  show sx_RP _ _ _ _ _ [.int (shAns (ys.getD ((i + 1)) 0) (ys.getD ((i + 2)) 0) (ys.getD ((i + 3)) 0))] _ _
  refine sx_RP.step (pc2 := 1216) (ls2 := [(3, .int (nI i)), (2, .ref 111), (1, .ref 0), (0, .float 4)]) (st2 := []) (w3 := w1) rfl rfl ?_
  refine sx_RP.step (pc2 := 1217) (ls2 := [(3, .int (nI i)), (2, .ref 111), (1, .ref 0), (0, .float 4)]) (st2 := [.ref 111]) (w3 := w1) rfl rfl ?_
  refine sx_RP.step (pc2 := 1218) (ls2 := [(3, .int (nI i)), (2, .ref 111), (1, .ref 0), (0, .float 4)]) (st2 := [.float 4, .ref 111]) (w3 := w1) rfl rfl ?_
  refine sx_RP.step (pc2 := 1219) (ls2 := [(3, .int (nI i)), (2, .ref 111), (1, .ref 0), (0, .float 4)]) (st2 := [.int (nI i), .float 4, .ref 111]) (w3 := w1) rfl rfl ?_
  refine sx_RP.step (pc2 := 1220) (ls2 := [(3, .int (nI i)), (2, .ref 111), (1, .ref 0), (0, .float 4)]) (st2 := [.int 1, .int (nI i), .float 4, .ref 111]) (w3 := w1) rfl rfl ?_
  refine sx_RP.step (pc2 := 1221) (ls2 := [(3, .int (nI i)), (2, .ref 111), (1, .ref 0), (0, .float 4)]) (st2 := [.int ((nI i) + 1), .float 4, .ref 111]) (w3 := w1) rfl rfl ?_
  rw [show ((nI i) + 1 : Int32) = nI (i + 1) from nI_add i 1]
  refine sx_RP.scr (x := (i + 1)) rfl (by omega) hl (show _ = 1222 from rfl) ?_
  refine sx_RP.step (pc2 := 1223) (ls2 := [(3, .int (nI i)), (2, .ref 111), (1, .ref 0), (0, .float 4)]) (st2 := [.float 4, .int (ys.getD ((i + 1)) 0), .ref 111]) (w3 := w1) rfl rfl ?_
  refine sx_RP.step (pc2 := 1224) (ls2 := [(3, .int (nI i)), (2, .ref 111), (1, .ref 0), (0, .float 4)]) (st2 := [.int (nI i), .float 4, .int (ys.getD ((i + 1)) 0), .ref 111]) (w3 := w1) rfl rfl ?_
  refine sx_RP.step (pc2 := 1225) (ls2 := [(3, .int (nI i)), (2, .ref 111), (1, .ref 0), (0, .float 4)]) (st2 := [.int 2, .int (nI i), .float 4, .int (ys.getD ((i + 1)) 0), .ref 111]) (w3 := w1) rfl rfl ?_
  refine sx_RP.step (pc2 := 1226) (ls2 := [(3, .int (nI i)), (2, .ref 111), (1, .ref 0), (0, .float 4)]) (st2 := [.int ((nI i) + 2), .float 4, .int (ys.getD ((i + 1)) 0), .ref 111]) (w3 := w1) rfl rfl ?_
  rw [show ((nI i) + 2 : Int32) = nI (i + 2) from nI_add i 2]
  refine sx_RP.scr (x := (i + 2)) rfl (by omega) hl (show _ = 1227 from rfl) ?_
  refine sx_RP.step (pc2 := 1228) (ls2 := [(3, .int (nI i)), (2, .ref 111), (1, .ref 0), (0, .float 4)]) (st2 := [.float 4, .int (ys.getD ((i + 2)) 0), .int (ys.getD ((i + 1)) 0), .ref 111]) (w3 := w1) rfl rfl ?_
  refine sx_RP.step (pc2 := 1229) (ls2 := [(3, .int (nI i)), (2, .ref 111), (1, .ref 0), (0, .float 4)]) (st2 := [.int (nI i), .float 4, .int (ys.getD ((i + 2)) 0), .int (ys.getD ((i + 1)) 0), .ref 111]) (w3 := w1) rfl rfl ?_
  refine sx_RP.step (pc2 := 1230) (ls2 := [(3, .int (nI i)), (2, .ref 111), (1, .ref 0), (0, .float 4)]) (st2 := [.int 3, .int (nI i), .float 4, .int (ys.getD ((i + 2)) 0), .int (ys.getD ((i + 1)) 0), .ref 111]) (w3 := w1) rfl rfl ?_
  refine sx_RP.step (pc2 := 1231) (ls2 := [(3, .int (nI i)), (2, .ref 111), (1, .ref 0), (0, .float 4)]) (st2 := [.int ((nI i) + 3), .float 4, .int (ys.getD ((i + 2)) 0), .int (ys.getD ((i + 1)) 0), .ref 111]) (w3 := w1) rfl rfl ?_
  rw [show ((nI i) + 3 : Int32) = nI (i + 3) from nI_add i 3]
  refine sx_RP.scr (x := (i + 3)) rfl (by omega) hl (show _ = 1232 from rfl) ?_
  refine sx_RP.callp (as2 := [.ref 111, .int (ys.getD ((i + 1)) 0), .int (ys.getD ((i + 2)) 0), .int (ys.getD ((i + 3)) 0)]) (rest2 := []) rfl rfl (sx_inv_v2 (mi := 246) (k := 160) (st := [.int (ys.getD ((i + 3)) 0), .int (ys.getD ((i + 2)) 0), .int (ys.getD ((i + 1)) 0), .ref 111]) (w := w1) rfl rfl hI2.1.o111 rfl rfl rfl) rfl rfl rfl (sx_RP.byk (r230 (d := 1) hI2 hR6 (ys.getD ((i + 1)) 0) (ys.getD ((i + 2)) 0) (ys.getD ((i + 3)) 0))) (show _ = 1235 from rfl) ?_
  rintro r4 w8 ⟨⟨rfl, hI9, ⟨hR10, lo11⟩⟩, hbk12⟩
  have hL13 : LI w8 := ⟨_, hC3.lo hI2 lo11, hR10, hbk12 hb7⟩
  show sx_RP _ _ _ _ _ [.int (shAns (ys.getD ((i + 1)) 0) (ys.getD ((i + 2)) 0) (ys.getD ((i + 3)) 0))] _ _
  refine sx_RP.step (pc2 := 1236) (ls2 := [(3, .int (nI i)), (2, .ref 111), (1, .ref 0), (0, .float 4)]) (st2 := []) (w3 := w8) rfl rfl ?_
  refine sx_RP.step (pc2 := 1539) (ls2 := [(3, .int (nI i)), (2, .ref 111), (1, .ref 0), (0, .float 4)]) (st2 := []) (w3 := w8) rfl rfl ?_
  exact kk w8 hI9 hL13
set_option maxRecDepth 20000 in
set_option maxHeartbeats 4000000 in
theorem lc35 {ys : List Int32} {i : Nat} {w : List sx_C} {P : Option Value → List sx_C → Prop} (hl : ys.length ≤ 3072) (hn : i + 6 ≤ ys.length) (hI : WI w) (hL : LI w) (kk : ∀ w2, WI w2 → LI w2 → sx_RP (some ys) 9 246 1539 [(3, .int (nI i)), (2, .ref 111), (1, .ref 0), (0, .float 4)] [] w2 P) : sx_RP (some ys) 9 246 1239 [(3, .int (nI i)), (2, .ref 111), (1, .ref 0), (0, .float 4)] [] w P := by
  obtain ⟨s, hC, hR, hb⟩ := hL
  refine sx_RP.step (pc2 := 1240) (ls2 := [(3, .int (nI i)), (2, .ref 111), (1, .ref 0), (0, .float 4)]) (st2 := [.ref 0]) (w3 := w) rfl rfl ?_
  refine sx_RP.step (pc2 := 1241) (ls2 := [(3, .int (nI i)), (2, .ref 111), (1, .ref 0), (0, .float 4)]) (st2 := [.float 4, .ref 0]) (w3 := w) rfl rfl ?_
  refine sx_RP.step (pc2 := 1242) (ls2 := [(3, .int (nI i)), (2, .ref 111), (1, .ref 0), (0, .float 4)]) (st2 := [.int (nI i), .float 4, .ref 0]) (w3 := w) rfl rfl ?_
  refine sx_RP.step (pc2 := 1243) (ls2 := [(3, .int (nI i)), (2, .ref 111), (1, .ref 0), (0, .float 4)]) (st2 := [.int 1, .int (nI i), .float 4, .ref 0]) (w3 := w) rfl rfl ?_
  refine sx_RP.step (pc2 := 1244) (ls2 := [(3, .int (nI i)), (2, .ref 111), (1, .ref 0), (0, .float 4)]) (st2 := [.int ((nI i) + 1), .float 4, .ref 0]) (w3 := w) rfl rfl ?_
  rw [show ((nI i) + 1 : Int32) = nI (i + 1) from nI_add i 1]
  refine sx_RP.scr (x := (i + 1)) rfl (by omega) hl (show _ = 1245 from rfl) ?_
  refine sx_RP.step (pc2 := 1246) (ls2 := [(3, .int (nI i)), (2, .ref 111), (1, .ref 0), (0, .float 4)]) (st2 := [.float 4, .int (ys.getD ((i + 1)) 0), .ref 0]) (w3 := w) rfl rfl ?_
  refine sx_RP.step (pc2 := 1247) (ls2 := [(3, .int (nI i)), (2, .ref 111), (1, .ref 0), (0, .float 4)]) (st2 := [.int (nI i), .float 4, .int (ys.getD ((i + 1)) 0), .ref 0]) (w3 := w) rfl rfl ?_
  refine sx_RP.step (pc2 := 1248) (ls2 := [(3, .int (nI i)), (2, .ref 111), (1, .ref 0), (0, .float 4)]) (st2 := [.int 2, .int (nI i), .float 4, .int (ys.getD ((i + 1)) 0), .ref 0]) (w3 := w) rfl rfl ?_
  refine sx_RP.step (pc2 := 1249) (ls2 := [(3, .int (nI i)), (2, .ref 111), (1, .ref 0), (0, .float 4)]) (st2 := [.int ((nI i) + 2), .float 4, .int (ys.getD ((i + 1)) 0), .ref 0]) (w3 := w) rfl rfl ?_
  rw [show ((nI i) + 2 : Int32) = nI (i + 2) from nI_add i 2]
  refine sx_RP.scr (x := (i + 2)) rfl (by omega) hl (show _ = 1250 from rfl) ?_
  refine sx_RP.step (pc2 := 1251) (ls2 := [(3, .int (nI i)), (2, .ref 111), (1, .ref 0), (0, .float 4)]) (st2 := [.float 4, .int (ys.getD ((i + 2)) 0), .int (ys.getD ((i + 1)) 0), .ref 0]) (w3 := w) rfl rfl ?_
  refine sx_RP.step (pc2 := 1252) (ls2 := [(3, .int (nI i)), (2, .ref 111), (1, .ref 0), (0, .float 4)]) (st2 := [.int (nI i), .float 4, .int (ys.getD ((i + 2)) 0), .int (ys.getD ((i + 1)) 0), .ref 0]) (w3 := w) rfl rfl ?_
  refine sx_RP.step (pc2 := 1253) (ls2 := [(3, .int (nI i)), (2, .ref 111), (1, .ref 0), (0, .float 4)]) (st2 := [.int 3, .int (nI i), .float 4, .int (ys.getD ((i + 2)) 0), .int (ys.getD ((i + 1)) 0), .ref 0]) (w3 := w) rfl rfl ?_
  refine sx_RP.step (pc2 := 1254) (ls2 := [(3, .int (nI i)), (2, .ref 111), (1, .ref 0), (0, .float 4)]) (st2 := [.int ((nI i) + 3), .float 4, .int (ys.getD ((i + 2)) 0), .int (ys.getD ((i + 1)) 0), .ref 0]) (w3 := w) rfl rfl ?_
  rw [show ((nI i) + 3 : Int32) = nI (i + 3) from nI_add i 3]
  refine sx_RP.scr (x := (i + 3)) rfl (by omega) hl (show _ = 1255 from rfl) ?_
  refine sx_RP.step (pc2 := 1256) (ls2 := [(3, .int (nI i)), (2, .ref 111), (1, .ref 0), (0, .float 4)]) (st2 := [.long ((ys.getD ((i + 3)) 0).toInt64), .int (ys.getD ((i + 2)) 0), .int (ys.getD ((i + 1)) 0), .ref 0]) (w3 := w) rfl rfl ?_
  refine sx_RP.step (pc2 := 1258) (ls2 := [(3, .int (nI i)), (2, .ref 111), (1, .ref 0), (0, .float 4)]) (st2 := [.int 32, .long ((ys.getD ((i + 3)) 0).toInt64), .int (ys.getD ((i + 2)) 0), .int (ys.getD ((i + 1)) 0), .ref 0]) (w3 := w) rfl rfl ?_
  refine sx_RP.step (pc2 := 1259) (ls2 := [(3, .int (nI i)), (2, .ref 111), (1, .ref 0), (0, .float 4)]) (st2 := [.long (((ys.getD ((i + 3)) 0).toInt64) <<< ((32 : Int32).toInt64 &&& 63)), .int (ys.getD ((i + 2)) 0), .int (ys.getD ((i + 1)) 0), .ref 0]) (w3 := w) rfl rfl ?_
  refine sx_RP.step (pc2 := 1260) (ls2 := [(3, .int (nI i)), (2, .ref 111), (1, .ref 0), (0, .float 4)]) (st2 := [.float 4, .long (((ys.getD ((i + 3)) 0).toInt64) <<< ((32 : Int32).toInt64 &&& 63)), .int (ys.getD ((i + 2)) 0), .int (ys.getD ((i + 1)) 0), .ref 0]) (w3 := w) rfl rfl ?_
  refine sx_RP.step (pc2 := 1261) (ls2 := [(3, .int (nI i)), (2, .ref 111), (1, .ref 0), (0, .float 4)]) (st2 := [.int (nI i), .float 4, .long (((ys.getD ((i + 3)) 0).toInt64) <<< ((32 : Int32).toInt64 &&& 63)), .int (ys.getD ((i + 2)) 0), .int (ys.getD ((i + 1)) 0), .ref 0]) (w3 := w) rfl rfl ?_
  refine sx_RP.step (pc2 := 1262) (ls2 := [(3, .int (nI i)), (2, .ref 111), (1, .ref 0), (0, .float 4)]) (st2 := [.int 4, .int (nI i), .float 4, .long (((ys.getD ((i + 3)) 0).toInt64) <<< ((32 : Int32).toInt64 &&& 63)), .int (ys.getD ((i + 2)) 0), .int (ys.getD ((i + 1)) 0), .ref 0]) (w3 := w) rfl rfl ?_
  refine sx_RP.step (pc2 := 1263) (ls2 := [(3, .int (nI i)), (2, .ref 111), (1, .ref 0), (0, .float 4)]) (st2 := [.int ((nI i) + 4), .float 4, .long (((ys.getD ((i + 3)) 0).toInt64) <<< ((32 : Int32).toInt64 &&& 63)), .int (ys.getD ((i + 2)) 0), .int (ys.getD ((i + 1)) 0), .ref 0]) (w3 := w) rfl rfl ?_
  rw [show ((nI i) + 4 : Int32) = nI (i + 4) from nI_add i 4]
  refine sx_RP.scr (x := (i + 4)) rfl (by omega) hl (show _ = 1264 from rfl) ?_
  refine sx_RP.step (pc2 := 1265) (ls2 := [(3, .int (nI i)), (2, .ref 111), (1, .ref 0), (0, .float 4)]) (st2 := [.long ((ys.getD ((i + 4)) 0).toInt64), .long (((ys.getD ((i + 3)) 0).toInt64) <<< ((32 : Int32).toInt64 &&& 63)), .int (ys.getD ((i + 2)) 0), .int (ys.getD ((i + 1)) 0), .ref 0]) (w3 := w) rfl rfl ?_
  refine sx_RP.step (pc2 := 1268) (ls2 := [(3, .int (nI i)), (2, .ref 111), (1, .ref 0), (0, .float 4)]) (st2 := [.long 4294967295, .long ((ys.getD ((i + 4)) 0).toInt64), .long (((ys.getD ((i + 3)) 0).toInt64) <<< ((32 : Int32).toInt64 &&& 63)), .int (ys.getD ((i + 2)) 0), .int (ys.getD ((i + 1)) 0), .ref 0]) (w3 := w) rfl rfl ?_
  refine sx_RP.step (pc2 := 1269) (ls2 := [(3, .int (nI i)), (2, .ref 111), (1, .ref 0), (0, .float 4)]) (st2 := [.long (((ys.getD ((i + 4)) 0).toInt64) &&& 4294967295), .long (((ys.getD ((i + 3)) 0).toInt64) <<< ((32 : Int32).toInt64 &&& 63)), .int (ys.getD ((i + 2)) 0), .int (ys.getD ((i + 1)) 0), .ref 0]) (w3 := w) rfl rfl ?_
  refine sx_RP.step (pc2 := 1270) (ls2 := [(3, .int (nI i)), (2, .ref 111), (1, .ref 0), (0, .float 4)]) (st2 := [.long ((((ys.getD ((i + 3)) 0).toInt64) <<< ((32 : Int32).toInt64 &&& 63)) ||| (((ys.getD ((i + 4)) 0).toInt64) &&& 4294967295)), .int (ys.getD ((i + 2)) 0), .int (ys.getD ((i + 1)) 0), .ref 0]) (w3 := w) rfl rfl ?_
  refine sx_RP.callp (as2 := [.ref 0, .int (ys.getD ((i + 1)) 0), .int (ys.getD ((i + 2)) 0), .long ((((ys.getD ((i + 3)) 0).toInt64) <<< ((32 : Int32).toInt64 &&& 63)) ||| (((ys.getD ((i + 4)) 0).toInt64) &&& 4294967295))]) (rest2 := []) rfl rfl (sx_inv_v2 (mi := 246) (k := 163) (st := [.long ((((ys.getD ((i + 3)) 0).toInt64) <<< ((32 : Int32).toInt64 &&& 63)) ||| (((ys.getD ((i + 4)) 0).toInt64) &&& 4294967295)), .int (ys.getD ((i + 2)) 0), .int (ys.getD ((i + 1)) 0), .ref 0]) (w := w) rfl rfl hI.1.o0 rfl rfl rfl) rfl rfl rfl (sx_RP.byk (c115 (d := 1) hI hC (ys.getD ((i + 1)) 0) (ys.getD ((i + 2)) 0) ((((ys.getD ((i + 3)) 0).toInt64) <<< ((32 : Int32).toInt64 &&& 63)) ||| (((ys.getD ((i + 4)) 0).toInt64) &&& 4294967295)))) (show _ = 1273 from rfl) ?_
  rintro r4 w1 ⟨⟨rfl, hI2, ⟨hC3, hi4⟩⟩, hbk5⟩
  have hR6 := hR.hi hi4
  have hb7 := hbk5 hb
  show sx_RP _ _ _ _ _ [.long (wrA s.2.2.2.2.1 s.2.2.2.2.2 (ys.getD ((i + 1)) 0) (ys.getD ((i + 2)) 0))] _ _
  refine sx_RP.step (pc2 := 1274) (ls2 := [(3, .int (nI i)), (2, .ref 111), (1, .ref 0), (0, .float 4)]) (st2 := []) (w3 := w1) rfl rfl ?_
  refine sx_RP.step (pc2 := 1275) (ls2 := [(3, .int (nI i)), (2, .ref 111), (1, .ref 0), (0, .float 4)]) (st2 := [.ref 111]) (w3 := w1) rfl rfl ?_
  refine sx_RP.step (pc2 := 1276) (ls2 := [(3, .int (nI i)), (2, .ref 111), (1, .ref 0), (0, .float 4)]) (st2 := [.float 4, .ref 111]) (w3 := w1) rfl rfl ?_
  refine sx_RP.step (pc2 := 1277) (ls2 := [(3, .int (nI i)), (2, .ref 111), (1, .ref 0), (0, .float 4)]) (st2 := [.int (nI i), .float 4, .ref 111]) (w3 := w1) rfl rfl ?_
  refine sx_RP.step (pc2 := 1278) (ls2 := [(3, .int (nI i)), (2, .ref 111), (1, .ref 0), (0, .float 4)]) (st2 := [.int 1, .int (nI i), .float 4, .ref 111]) (w3 := w1) rfl rfl ?_
  refine sx_RP.step (pc2 := 1279) (ls2 := [(3, .int (nI i)), (2, .ref 111), (1, .ref 0), (0, .float 4)]) (st2 := [.int ((nI i) + 1), .float 4, .ref 111]) (w3 := w1) rfl rfl ?_
  rw [show ((nI i) + 1 : Int32) = nI (i + 1) from nI_add i 1]
  refine sx_RP.scr (x := (i + 1)) rfl (by omega) hl (show _ = 1280 from rfl) ?_
  refine sx_RP.step (pc2 := 1281) (ls2 := [(3, .int (nI i)), (2, .ref 111), (1, .ref 0), (0, .float 4)]) (st2 := [.float 4, .int (ys.getD ((i + 1)) 0), .ref 111]) (w3 := w1) rfl rfl ?_
  refine sx_RP.step (pc2 := 1282) (ls2 := [(3, .int (nI i)), (2, .ref 111), (1, .ref 0), (0, .float 4)]) (st2 := [.int (nI i), .float 4, .int (ys.getD ((i + 1)) 0), .ref 111]) (w3 := w1) rfl rfl ?_
  refine sx_RP.step (pc2 := 1283) (ls2 := [(3, .int (nI i)), (2, .ref 111), (1, .ref 0), (0, .float 4)]) (st2 := [.int 2, .int (nI i), .float 4, .int (ys.getD ((i + 1)) 0), .ref 111]) (w3 := w1) rfl rfl ?_
  refine sx_RP.step (pc2 := 1284) (ls2 := [(3, .int (nI i)), (2, .ref 111), (1, .ref 0), (0, .float 4)]) (st2 := [.int ((nI i) + 2), .float 4, .int (ys.getD ((i + 1)) 0), .ref 111]) (w3 := w1) rfl rfl ?_
  rw [show ((nI i) + 2 : Int32) = nI (i + 2) from nI_add i 2]
  refine sx_RP.scr (x := (i + 2)) rfl (by omega) hl (show _ = 1285 from rfl) ?_
  refine sx_RP.step (pc2 := 1286) (ls2 := [(3, .int (nI i)), (2, .ref 111), (1, .ref 0), (0, .float 4)]) (st2 := [.float 4, .int (ys.getD ((i + 2)) 0), .int (ys.getD ((i + 1)) 0), .ref 111]) (w3 := w1) rfl rfl ?_
  refine sx_RP.step (pc2 := 1287) (ls2 := [(3, .int (nI i)), (2, .ref 111), (1, .ref 0), (0, .float 4)]) (st2 := [.int (nI i), .float 4, .int (ys.getD ((i + 2)) 0), .int (ys.getD ((i + 1)) 0), .ref 111]) (w3 := w1) rfl rfl ?_
  refine sx_RP.step (pc2 := 1288) (ls2 := [(3, .int (nI i)), (2, .ref 111), (1, .ref 0), (0, .float 4)]) (st2 := [.int 3, .int (nI i), .float 4, .int (ys.getD ((i + 2)) 0), .int (ys.getD ((i + 1)) 0), .ref 111]) (w3 := w1) rfl rfl ?_
  refine sx_RP.step (pc2 := 1289) (ls2 := [(3, .int (nI i)), (2, .ref 111), (1, .ref 0), (0, .float 4)]) (st2 := [.int ((nI i) + 3), .float 4, .int (ys.getD ((i + 2)) 0), .int (ys.getD ((i + 1)) 0), .ref 111]) (w3 := w1) rfl rfl ?_
  rw [show ((nI i) + 3 : Int32) = nI (i + 3) from nI_add i 3]
  refine sx_RP.scr (x := (i + 3)) rfl (by omega) hl (show _ = 1290 from rfl) ?_
  refine sx_RP.step (pc2 := 1291) (ls2 := [(3, .int (nI i)), (2, .ref 111), (1, .ref 0), (0, .float 4)]) (st2 := [.long ((ys.getD ((i + 3)) 0).toInt64), .int (ys.getD ((i + 2)) 0), .int (ys.getD ((i + 1)) 0), .ref 111]) (w3 := w1) rfl rfl ?_
  refine sx_RP.step (pc2 := 1293) (ls2 := [(3, .int (nI i)), (2, .ref 111), (1, .ref 0), (0, .float 4)]) (st2 := [.int 32, .long ((ys.getD ((i + 3)) 0).toInt64), .int (ys.getD ((i + 2)) 0), .int (ys.getD ((i + 1)) 0), .ref 111]) (w3 := w1) rfl rfl ?_
  refine sx_RP.step (pc2 := 1294) (ls2 := [(3, .int (nI i)), (2, .ref 111), (1, .ref 0), (0, .float 4)]) (st2 := [.long (((ys.getD ((i + 3)) 0).toInt64) <<< ((32 : Int32).toInt64 &&& 63)), .int (ys.getD ((i + 2)) 0), .int (ys.getD ((i + 1)) 0), .ref 111]) (w3 := w1) rfl rfl ?_
  refine sx_RP.step (pc2 := 1295) (ls2 := [(3, .int (nI i)), (2, .ref 111), (1, .ref 0), (0, .float 4)]) (st2 := [.float 4, .long (((ys.getD ((i + 3)) 0).toInt64) <<< ((32 : Int32).toInt64 &&& 63)), .int (ys.getD ((i + 2)) 0), .int (ys.getD ((i + 1)) 0), .ref 111]) (w3 := w1) rfl rfl ?_
  refine sx_RP.step (pc2 := 1296) (ls2 := [(3, .int (nI i)), (2, .ref 111), (1, .ref 0), (0, .float 4)]) (st2 := [.int (nI i), .float 4, .long (((ys.getD ((i + 3)) 0).toInt64) <<< ((32 : Int32).toInt64 &&& 63)), .int (ys.getD ((i + 2)) 0), .int (ys.getD ((i + 1)) 0), .ref 111]) (w3 := w1) rfl rfl ?_
  refine sx_RP.step (pc2 := 1297) (ls2 := [(3, .int (nI i)), (2, .ref 111), (1, .ref 0), (0, .float 4)]) (st2 := [.int 4, .int (nI i), .float 4, .long (((ys.getD ((i + 3)) 0).toInt64) <<< ((32 : Int32).toInt64 &&& 63)), .int (ys.getD ((i + 2)) 0), .int (ys.getD ((i + 1)) 0), .ref 111]) (w3 := w1) rfl rfl ?_
  refine sx_RP.step (pc2 := 1298) (ls2 := [(3, .int (nI i)), (2, .ref 111), (1, .ref 0), (0, .float 4)]) (st2 := [.int ((nI i) + 4), .float 4, .long (((ys.getD ((i + 3)) 0).toInt64) <<< ((32 : Int32).toInt64 &&& 63)), .int (ys.getD ((i + 2)) 0), .int (ys.getD ((i + 1)) 0), .ref 111]) (w3 := w1) rfl rfl ?_
  rw [show ((nI i) + 4 : Int32) = nI (i + 4) from nI_add i 4]
  refine sx_RP.scr (x := (i + 4)) rfl (by omega) hl (show _ = 1299 from rfl) ?_
  refine sx_RP.step (pc2 := 1300) (ls2 := [(3, .int (nI i)), (2, .ref 111), (1, .ref 0), (0, .float 4)]) (st2 := [.long ((ys.getD ((i + 4)) 0).toInt64), .long (((ys.getD ((i + 3)) 0).toInt64) <<< ((32 : Int32).toInt64 &&& 63)), .int (ys.getD ((i + 2)) 0), .int (ys.getD ((i + 1)) 0), .ref 111]) (w3 := w1) rfl rfl ?_
  refine sx_RP.step (pc2 := 1303) (ls2 := [(3, .int (nI i)), (2, .ref 111), (1, .ref 0), (0, .float 4)]) (st2 := [.long 4294967295, .long ((ys.getD ((i + 4)) 0).toInt64), .long (((ys.getD ((i + 3)) 0).toInt64) <<< ((32 : Int32).toInt64 &&& 63)), .int (ys.getD ((i + 2)) 0), .int (ys.getD ((i + 1)) 0), .ref 111]) (w3 := w1) rfl rfl ?_
  refine sx_RP.step (pc2 := 1304) (ls2 := [(3, .int (nI i)), (2, .ref 111), (1, .ref 0), (0, .float 4)]) (st2 := [.long (((ys.getD ((i + 4)) 0).toInt64) &&& 4294967295), .long (((ys.getD ((i + 3)) 0).toInt64) <<< ((32 : Int32).toInt64 &&& 63)), .int (ys.getD ((i + 2)) 0), .int (ys.getD ((i + 1)) 0), .ref 111]) (w3 := w1) rfl rfl ?_
  refine sx_RP.step (pc2 := 1305) (ls2 := [(3, .int (nI i)), (2, .ref 111), (1, .ref 0), (0, .float 4)]) (st2 := [.long ((((ys.getD ((i + 3)) 0).toInt64) <<< ((32 : Int32).toInt64 &&& 63)) ||| (((ys.getD ((i + 4)) 0).toInt64) &&& 4294967295)), .int (ys.getD ((i + 2)) 0), .int (ys.getD ((i + 1)) 0), .ref 111]) (w3 := w1) rfl rfl ?_
  refine sx_RP.callp (as2 := [.ref 111, .int (ys.getD ((i + 1)) 0), .int (ys.getD ((i + 2)) 0), .long ((((ys.getD ((i + 3)) 0).toInt64) <<< ((32 : Int32).toInt64 &&& 63)) ||| (((ys.getD ((i + 4)) 0).toInt64) &&& 4294967295))]) (rest2 := []) rfl rfl (sx_inv_v2 (mi := 246) (k := 167) (st := [.long ((((ys.getD ((i + 3)) 0).toInt64) <<< ((32 : Int32).toInt64 &&& 63)) ||| (((ys.getD ((i + 4)) 0).toInt64) &&& 4294967295)), .int (ys.getD ((i + 2)) 0), .int (ys.getD ((i + 1)) 0), .ref 111]) (w := w1) rfl rfl hI2.1.o111 rfl rfl rfl) rfl rfl rfl (sx_RP.byk (r232 (d := 1) hI2 hR6 (ys.getD ((i + 1)) 0) (ys.getD ((i + 2)) 0) ((((ys.getD ((i + 3)) 0).toInt64) <<< ((32 : Int32).toInt64 &&& 63)) ||| (((ys.getD ((i + 4)) 0).toInt64) &&& 4294967295)))) (show _ = 1308 from rfl) ?_
  rintro r4 w8 ⟨⟨rfl, hI9, ⟨hR10, lo11⟩⟩, hbk12⟩
  have hL13 : LI w8 := ⟨_, hC3.lo hI2 lo11, hR10, hbk12 hb7⟩
  show sx_RP _ _ _ _ _ [.long (wrA s.2.2.2.2.1 s.2.2.2.2.2 (ys.getD ((i + 1)) 0) (ys.getD ((i + 2)) 0))] _ _
  refine sx_RP.step (pc2 := 1309) (ls2 := [(3, .int (nI i)), (2, .ref 111), (1, .ref 0), (0, .float 4)]) (st2 := []) (w3 := w8) rfl rfl ?_
  refine sx_RP.step (pc2 := 1539) (ls2 := [(3, .int (nI i)), (2, .ref 111), (1, .ref 0), (0, .float 4)]) (st2 := []) (w3 := w8) rfl rfl ?_
  exact kk w8 hI9 hL13
set_option maxRecDepth 20000 in
set_option maxHeartbeats 4000000 in
theorem lc36 {ys : List Int32} {i : Nat} {w : List sx_C} {P : Option Value → List sx_C → Prop} (hl : ys.length ≤ 3072) (hn : i + 6 ≤ ys.length) (hI : WI w) (hL : LI w) (kk : ∀ w2, WI w2 → LI w2 → sx_RP (some ys) 9 246 1539 [(3, .int (nI i)), (2, .ref 111), (1, .ref 0), (0, .float 4)] [] w2 P) : sx_RP (some ys) 9 246 1312 [(3, .int (nI i)), (2, .ref 111), (1, .ref 0), (0, .float 4)] [] w P := by
  obtain ⟨s, hC, hR, hb⟩ := hL
  refine sx_RP.step (pc2 := 1313) (ls2 := [(3, .int (nI i)), (2, .ref 111), (1, .ref 0), (0, .float 4)]) (st2 := [.ref 0]) (w3 := w) rfl rfl ?_
  refine sx_RP.step (pc2 := 1314) (ls2 := [(3, .int (nI i)), (2, .ref 111), (1, .ref 0), (0, .float 4)]) (st2 := [.float 4, .ref 0]) (w3 := w) rfl rfl ?_
  refine sx_RP.step (pc2 := 1315) (ls2 := [(3, .int (nI i)), (2, .ref 111), (1, .ref 0), (0, .float 4)]) (st2 := [.int (nI i), .float 4, .ref 0]) (w3 := w) rfl rfl ?_
  refine sx_RP.step (pc2 := 1316) (ls2 := [(3, .int (nI i)), (2, .ref 111), (1, .ref 0), (0, .float 4)]) (st2 := [.int 1, .int (nI i), .float 4, .ref 0]) (w3 := w) rfl rfl ?_
  refine sx_RP.step (pc2 := 1317) (ls2 := [(3, .int (nI i)), (2, .ref 111), (1, .ref 0), (0, .float 4)]) (st2 := [.int ((nI i) + 1), .float 4, .ref 0]) (w3 := w) rfl rfl ?_
  rw [show ((nI i) + 1 : Int32) = nI (i + 1) from nI_add i 1]
  refine sx_RP.scr (x := (i + 1)) rfl (by omega) hl (show _ = 1318 from rfl) ?_
  refine sx_RP.step (pc2 := 1319) (ls2 := [(3, .int (nI i)), (2, .ref 111), (1, .ref 0), (0, .float 4)]) (st2 := [.float 4, .int (ys.getD ((i + 1)) 0), .ref 0]) (w3 := w) rfl rfl ?_
  refine sx_RP.step (pc2 := 1320) (ls2 := [(3, .int (nI i)), (2, .ref 111), (1, .ref 0), (0, .float 4)]) (st2 := [.int (nI i), .float 4, .int (ys.getD ((i + 1)) 0), .ref 0]) (w3 := w) rfl rfl ?_
  refine sx_RP.step (pc2 := 1321) (ls2 := [(3, .int (nI i)), (2, .ref 111), (1, .ref 0), (0, .float 4)]) (st2 := [.int 2, .int (nI i), .float 4, .int (ys.getD ((i + 1)) 0), .ref 0]) (w3 := w) rfl rfl ?_
  refine sx_RP.step (pc2 := 1322) (ls2 := [(3, .int (nI i)), (2, .ref 111), (1, .ref 0), (0, .float 4)]) (st2 := [.int ((nI i) + 2), .float 4, .int (ys.getD ((i + 1)) 0), .ref 0]) (w3 := w) rfl rfl ?_
  rw [show ((nI i) + 2 : Int32) = nI (i + 2) from nI_add i 2]
  refine sx_RP.scr (x := (i + 2)) rfl (by omega) hl (show _ = 1323 from rfl) ?_
  refine sx_RP.step (pc2 := 1324) (ls2 := [(3, .int (nI i)), (2, .ref 111), (1, .ref 0), (0, .float 4)]) (st2 := [.float 4, .int (ys.getD ((i + 2)) 0), .int (ys.getD ((i + 1)) 0), .ref 0]) (w3 := w) rfl rfl ?_
  refine sx_RP.step (pc2 := 1325) (ls2 := [(3, .int (nI i)), (2, .ref 111), (1, .ref 0), (0, .float 4)]) (st2 := [.int (nI i), .float 4, .int (ys.getD ((i + 2)) 0), .int (ys.getD ((i + 1)) 0), .ref 0]) (w3 := w) rfl rfl ?_
  refine sx_RP.step (pc2 := 1326) (ls2 := [(3, .int (nI i)), (2, .ref 111), (1, .ref 0), (0, .float 4)]) (st2 := [.int 3, .int (nI i), .float 4, .int (ys.getD ((i + 2)) 0), .int (ys.getD ((i + 1)) 0), .ref 0]) (w3 := w) rfl rfl ?_
  refine sx_RP.step (pc2 := 1327) (ls2 := [(3, .int (nI i)), (2, .ref 111), (1, .ref 0), (0, .float 4)]) (st2 := [.int ((nI i) + 3), .float 4, .int (ys.getD ((i + 2)) 0), .int (ys.getD ((i + 1)) 0), .ref 0]) (w3 := w) rfl rfl ?_
  rw [show ((nI i) + 3 : Int32) = nI (i + 3) from nI_add i 3]
  refine sx_RP.scr (x := (i + 3)) rfl (by omega) hl (show _ = 1328 from rfl) ?_
  refine sx_RP.step (pc2 := 1329) (ls2 := [(3, .int (nI i)), (2, .ref 111), (1, .ref 0), (0, .float 4)]) (st2 := [.float 4, .int (ys.getD ((i + 3)) 0), .int (ys.getD ((i + 2)) 0), .int (ys.getD ((i + 1)) 0), .ref 0]) (w3 := w) rfl rfl ?_
  refine sx_RP.step (pc2 := 1330) (ls2 := [(3, .int (nI i)), (2, .ref 111), (1, .ref 0), (0, .float 4)]) (st2 := [.int (nI i), .float 4, .int (ys.getD ((i + 3)) 0), .int (ys.getD ((i + 2)) 0), .int (ys.getD ((i + 1)) 0), .ref 0]) (w3 := w) rfl rfl ?_
  refine sx_RP.step (pc2 := 1331) (ls2 := [(3, .int (nI i)), (2, .ref 111), (1, .ref 0), (0, .float 4)]) (st2 := [.int 4, .int (nI i), .float 4, .int (ys.getD ((i + 3)) 0), .int (ys.getD ((i + 2)) 0), .int (ys.getD ((i + 1)) 0), .ref 0]) (w3 := w) rfl rfl ?_
  refine sx_RP.step (pc2 := 1332) (ls2 := [(3, .int (nI i)), (2, .ref 111), (1, .ref 0), (0, .float 4)]) (st2 := [.int ((nI i) + 4), .float 4, .int (ys.getD ((i + 3)) 0), .int (ys.getD ((i + 2)) 0), .int (ys.getD ((i + 1)) 0), .ref 0]) (w3 := w) rfl rfl ?_
  rw [show ((nI i) + 4 : Int32) = nI (i + 4) from nI_add i 4]
  refine sx_RP.scr (x := (i + 4)) rfl (by omega) hl (show _ = 1333 from rfl) ?_
  refine sx_RP.step (pc2 := 1334) (ls2 := [(3, .int (nI i)), (2, .ref 111), (1, .ref 0), (0, .float 4)]) (st2 := [.float 4, .int (ys.getD ((i + 4)) 0), .int (ys.getD ((i + 3)) 0), .int (ys.getD ((i + 2)) 0), .int (ys.getD ((i + 1)) 0), .ref 0]) (w3 := w) rfl rfl ?_
  refine sx_RP.step (pc2 := 1335) (ls2 := [(3, .int (nI i)), (2, .ref 111), (1, .ref 0), (0, .float 4)]) (st2 := [.int (nI i), .float 4, .int (ys.getD ((i + 4)) 0), .int (ys.getD ((i + 3)) 0), .int (ys.getD ((i + 2)) 0), .int (ys.getD ((i + 1)) 0), .ref 0]) (w3 := w) rfl rfl ?_
  refine sx_RP.step (pc2 := 1336) (ls2 := [(3, .int (nI i)), (2, .ref 111), (1, .ref 0), (0, .float 4)]) (st2 := [.int 5, .int (nI i), .float 4, .int (ys.getD ((i + 4)) 0), .int (ys.getD ((i + 3)) 0), .int (ys.getD ((i + 2)) 0), .int (ys.getD ((i + 1)) 0), .ref 0]) (w3 := w) rfl rfl ?_
  refine sx_RP.step (pc2 := 1337) (ls2 := [(3, .int (nI i)), (2, .ref 111), (1, .ref 0), (0, .float 4)]) (st2 := [.int ((nI i) + 5), .float 4, .int (ys.getD ((i + 4)) 0), .int (ys.getD ((i + 3)) 0), .int (ys.getD ((i + 2)) 0), .int (ys.getD ((i + 1)) 0), .ref 0]) (w3 := w) rfl rfl ?_
  rw [show ((nI i) + 5 : Int32) = nI (i + 5) from nI_add i 5]
  refine sx_RP.scr (x := (i + 5)) rfl (by omega) hl (show _ = 1338 from rfl) ?_
  refine sx_RP.callp (as2 := [.ref 0, .int (ys.getD ((i + 1)) 0), .int (ys.getD ((i + 2)) 0), .int (ys.getD ((i + 3)) 0), .int (ys.getD ((i + 4)) 0), .int (ys.getD ((i + 5)) 0)]) (rest2 := []) rfl rfl (sx_inv_v2 (mi := 246) (k := 168) (st := [.int (ys.getD ((i + 5)) 0), .int (ys.getD ((i + 4)) 0), .int (ys.getD ((i + 3)) 0), .int (ys.getD ((i + 2)) 0), .int (ys.getD ((i + 1)) 0), .ref 0]) (w := w) rfl rfl hI.1.o0 rfl rfl rfl) rfl rfl rfl (sx_RP.byk (c118 (d := 1) hI hC (ys.getD ((i + 1)) 0) (ys.getD ((i + 2)) 0) (ys.getD ((i + 3)) 0) (ys.getD ((i + 4)) 0) (ys.getD ((i + 5)) 0))) (show _ = 1341 from rfl) ?_
  rintro r4 w1 ⟨⟨rfl, hI2, ⟨hC3, hi4⟩⟩, hbk5⟩
  have hR6 := hR.hi hi4
  have hb7 := hbk5 hb
  show sx_RP _ _ _ _ _ [.int (cpAns s.2.2.2.2.1 (ys.getD ((i + 1)) 0) (ys.getD ((i + 2)) 0) (ys.getD ((i + 3)) 0) (ys.getD ((i + 4)) 0) (ys.getD ((i + 5)) 0))] _ _
  refine sx_RP.step (pc2 := 1342) (ls2 := [(3, .int (nI i)), (2, .ref 111), (1, .ref 0), (0, .float 4)]) (st2 := []) (w3 := w1) rfl rfl ?_
  refine sx_RP.step (pc2 := 1343) (ls2 := [(3, .int (nI i)), (2, .ref 111), (1, .ref 0), (0, .float 4)]) (st2 := [.ref 111]) (w3 := w1) rfl rfl ?_
  refine sx_RP.step (pc2 := 1344) (ls2 := [(3, .int (nI i)), (2, .ref 111), (1, .ref 0), (0, .float 4)]) (st2 := [.float 4, .ref 111]) (w3 := w1) rfl rfl ?_
  refine sx_RP.step (pc2 := 1345) (ls2 := [(3, .int (nI i)), (2, .ref 111), (1, .ref 0), (0, .float 4)]) (st2 := [.int (nI i), .float 4, .ref 111]) (w3 := w1) rfl rfl ?_
  refine sx_RP.step (pc2 := 1346) (ls2 := [(3, .int (nI i)), (2, .ref 111), (1, .ref 0), (0, .float 4)]) (st2 := [.int 1, .int (nI i), .float 4, .ref 111]) (w3 := w1) rfl rfl ?_
  refine sx_RP.step (pc2 := 1347) (ls2 := [(3, .int (nI i)), (2, .ref 111), (1, .ref 0), (0, .float 4)]) (st2 := [.int ((nI i) + 1), .float 4, .ref 111]) (w3 := w1) rfl rfl ?_
  rw [show ((nI i) + 1 : Int32) = nI (i + 1) from nI_add i 1]
  refine sx_RP.scr (x := (i + 1)) rfl (by omega) hl (show _ = 1348 from rfl) ?_
  refine sx_RP.step (pc2 := 1349) (ls2 := [(3, .int (nI i)), (2, .ref 111), (1, .ref 0), (0, .float 4)]) (st2 := [.float 4, .int (ys.getD ((i + 1)) 0), .ref 111]) (w3 := w1) rfl rfl ?_
  refine sx_RP.step (pc2 := 1350) (ls2 := [(3, .int (nI i)), (2, .ref 111), (1, .ref 0), (0, .float 4)]) (st2 := [.int (nI i), .float 4, .int (ys.getD ((i + 1)) 0), .ref 111]) (w3 := w1) rfl rfl ?_
  refine sx_RP.step (pc2 := 1351) (ls2 := [(3, .int (nI i)), (2, .ref 111), (1, .ref 0), (0, .float 4)]) (st2 := [.int 2, .int (nI i), .float 4, .int (ys.getD ((i + 1)) 0), .ref 111]) (w3 := w1) rfl rfl ?_
  refine sx_RP.step (pc2 := 1352) (ls2 := [(3, .int (nI i)), (2, .ref 111), (1, .ref 0), (0, .float 4)]) (st2 := [.int ((nI i) + 2), .float 4, .int (ys.getD ((i + 1)) 0), .ref 111]) (w3 := w1) rfl rfl ?_
  rw [show ((nI i) + 2 : Int32) = nI (i + 2) from nI_add i 2]
  refine sx_RP.scr (x := (i + 2)) rfl (by omega) hl (show _ = 1353 from rfl) ?_
  refine sx_RP.step (pc2 := 1354) (ls2 := [(3, .int (nI i)), (2, .ref 111), (1, .ref 0), (0, .float 4)]) (st2 := [.float 4, .int (ys.getD ((i + 2)) 0), .int (ys.getD ((i + 1)) 0), .ref 111]) (w3 := w1) rfl rfl ?_
  refine sx_RP.step (pc2 := 1355) (ls2 := [(3, .int (nI i)), (2, .ref 111), (1, .ref 0), (0, .float 4)]) (st2 := [.int (nI i), .float 4, .int (ys.getD ((i + 2)) 0), .int (ys.getD ((i + 1)) 0), .ref 111]) (w3 := w1) rfl rfl ?_
  refine sx_RP.step (pc2 := 1356) (ls2 := [(3, .int (nI i)), (2, .ref 111), (1, .ref 0), (0, .float 4)]) (st2 := [.int 3, .int (nI i), .float 4, .int (ys.getD ((i + 2)) 0), .int (ys.getD ((i + 1)) 0), .ref 111]) (w3 := w1) rfl rfl ?_
  refine sx_RP.step (pc2 := 1357) (ls2 := [(3, .int (nI i)), (2, .ref 111), (1, .ref 0), (0, .float 4)]) (st2 := [.int ((nI i) + 3), .float 4, .int (ys.getD ((i + 2)) 0), .int (ys.getD ((i + 1)) 0), .ref 111]) (w3 := w1) rfl rfl ?_
  rw [show ((nI i) + 3 : Int32) = nI (i + 3) from nI_add i 3]
  refine sx_RP.scr (x := (i + 3)) rfl (by omega) hl (show _ = 1358 from rfl) ?_
  refine sx_RP.step (pc2 := 1359) (ls2 := [(3, .int (nI i)), (2, .ref 111), (1, .ref 0), (0, .float 4)]) (st2 := [.float 4, .int (ys.getD ((i + 3)) 0), .int (ys.getD ((i + 2)) 0), .int (ys.getD ((i + 1)) 0), .ref 111]) (w3 := w1) rfl rfl ?_
  refine sx_RP.step (pc2 := 1360) (ls2 := [(3, .int (nI i)), (2, .ref 111), (1, .ref 0), (0, .float 4)]) (st2 := [.int (nI i), .float 4, .int (ys.getD ((i + 3)) 0), .int (ys.getD ((i + 2)) 0), .int (ys.getD ((i + 1)) 0), .ref 111]) (w3 := w1) rfl rfl ?_
  refine sx_RP.step (pc2 := 1361) (ls2 := [(3, .int (nI i)), (2, .ref 111), (1, .ref 0), (0, .float 4)]) (st2 := [.int 4, .int (nI i), .float 4, .int (ys.getD ((i + 3)) 0), .int (ys.getD ((i + 2)) 0), .int (ys.getD ((i + 1)) 0), .ref 111]) (w3 := w1) rfl rfl ?_
  refine sx_RP.step (pc2 := 1362) (ls2 := [(3, .int (nI i)), (2, .ref 111), (1, .ref 0), (0, .float 4)]) (st2 := [.int ((nI i) + 4), .float 4, .int (ys.getD ((i + 3)) 0), .int (ys.getD ((i + 2)) 0), .int (ys.getD ((i + 1)) 0), .ref 111]) (w3 := w1) rfl rfl ?_
  rw [show ((nI i) + 4 : Int32) = nI (i + 4) from nI_add i 4]
  refine sx_RP.scr (x := (i + 4)) rfl (by omega) hl (show _ = 1363 from rfl) ?_
  refine sx_RP.step (pc2 := 1364) (ls2 := [(3, .int (nI i)), (2, .ref 111), (1, .ref 0), (0, .float 4)]) (st2 := [.float 4, .int (ys.getD ((i + 4)) 0), .int (ys.getD ((i + 3)) 0), .int (ys.getD ((i + 2)) 0), .int (ys.getD ((i + 1)) 0), .ref 111]) (w3 := w1) rfl rfl ?_
  refine sx_RP.step (pc2 := 1365) (ls2 := [(3, .int (nI i)), (2, .ref 111), (1, .ref 0), (0, .float 4)]) (st2 := [.int (nI i), .float 4, .int (ys.getD ((i + 4)) 0), .int (ys.getD ((i + 3)) 0), .int (ys.getD ((i + 2)) 0), .int (ys.getD ((i + 1)) 0), .ref 111]) (w3 := w1) rfl rfl ?_
  refine sx_RP.step (pc2 := 1366) (ls2 := [(3, .int (nI i)), (2, .ref 111), (1, .ref 0), (0, .float 4)]) (st2 := [.int 5, .int (nI i), .float 4, .int (ys.getD ((i + 4)) 0), .int (ys.getD ((i + 3)) 0), .int (ys.getD ((i + 2)) 0), .int (ys.getD ((i + 1)) 0), .ref 111]) (w3 := w1) rfl rfl ?_
  refine sx_RP.step (pc2 := 1367) (ls2 := [(3, .int (nI i)), (2, .ref 111), (1, .ref 0), (0, .float 4)]) (st2 := [.int ((nI i) + 5), .float 4, .int (ys.getD ((i + 4)) 0), .int (ys.getD ((i + 3)) 0), .int (ys.getD ((i + 2)) 0), .int (ys.getD ((i + 1)) 0), .ref 111]) (w3 := w1) rfl rfl ?_
  rw [show ((nI i) + 5 : Int32) = nI (i + 5) from nI_add i 5]
  refine sx_RP.scr (x := (i + 5)) rfl (by omega) hl (show _ = 1368 from rfl) ?_
  refine sx_RP.callp (as2 := [.ref 111, .int (ys.getD ((i + 1)) 0), .int (ys.getD ((i + 2)) 0), .int (ys.getD ((i + 3)) 0), .int (ys.getD ((i + 4)) 0), .int (ys.getD ((i + 5)) 0)]) (rest2 := []) rfl rfl (sx_inv_v2 (mi := 246) (k := 172) (st := [.int (ys.getD ((i + 5)) 0), .int (ys.getD ((i + 4)) 0), .int (ys.getD ((i + 3)) 0), .int (ys.getD ((i + 2)) 0), .int (ys.getD ((i + 1)) 0), .ref 111]) (w := w1) rfl rfl hI2.1.o111 rfl rfl rfl) rfl rfl rfl (sx_RP.byk (r234 (d := 1) hI2 hR6 (ys.getD ((i + 1)) 0) (ys.getD ((i + 2)) 0) (ys.getD ((i + 3)) 0) (ys.getD ((i + 4)) 0) (ys.getD ((i + 5)) 0))) (show _ = 1371 from rfl) ?_
  rintro r4 w8 ⟨⟨rfl, hI9, ⟨hR10, lo11⟩⟩, hbk12⟩
  have hL13 : LI w8 := ⟨_, hC3.lo hI2 lo11, hR10, hbk12 hb7⟩
  show sx_RP _ _ _ _ _ [.int (cpAns s.2.2.2.2.1 (ys.getD ((i + 1)) 0) (ys.getD ((i + 2)) 0) (ys.getD ((i + 3)) 0) (ys.getD ((i + 4)) 0) (ys.getD ((i + 5)) 0))] _ _
  refine sx_RP.step (pc2 := 1372) (ls2 := [(3, .int (nI i)), (2, .ref 111), (1, .ref 0), (0, .float 4)]) (st2 := []) (w3 := w8) rfl rfl ?_
  refine sx_RP.step (pc2 := 1539) (ls2 := [(3, .int (nI i)), (2, .ref 111), (1, .ref 0), (0, .float 4)]) (st2 := []) (w3 := w8) rfl rfl ?_
  exact kk w8 hI9 hL13
set_option maxRecDepth 20000 in
set_option maxHeartbeats 4000000 in
theorem lc37 {ys : List Int32} {i : Nat} {w : List sx_C} {P : Option Value → List sx_C → Prop} (hl : ys.length ≤ 3072) (hn : i + 6 ≤ ys.length) (hI : WI w) (hL : LI w) (kk : ∀ w2, WI w2 → LI w2 → sx_RP (some ys) 9 246 1539 [(3, .int (nI i)), (2, .ref 111), (1, .ref 0), (0, .float 4)] [] w2 P) : sx_RP (some ys) 9 246 1375 [(3, .int (nI i)), (2, .ref 111), (1, .ref 0), (0, .float 4)] [] w P := by
  obtain ⟨s, hC, hR, hb⟩ := hL
  refine sx_RP.step (pc2 := 1376) (ls2 := [(3, .int (nI i)), (2, .ref 111), (1, .ref 0), (0, .float 4)]) (st2 := [.ref 0]) (w3 := w) rfl rfl ?_
  refine sx_RP.step (pc2 := 1377) (ls2 := [(3, .int (nI i)), (2, .ref 111), (1, .ref 0), (0, .float 4)]) (st2 := [.float 4, .ref 0]) (w3 := w) rfl rfl ?_
  refine sx_RP.step (pc2 := 1378) (ls2 := [(3, .int (nI i)), (2, .ref 111), (1, .ref 0), (0, .float 4)]) (st2 := [.int (nI i), .float 4, .ref 0]) (w3 := w) rfl rfl ?_
  refine sx_RP.step (pc2 := 1379) (ls2 := [(3, .int (nI i)), (2, .ref 111), (1, .ref 0), (0, .float 4)]) (st2 := [.int 1, .int (nI i), .float 4, .ref 0]) (w3 := w) rfl rfl ?_
  refine sx_RP.step (pc2 := 1380) (ls2 := [(3, .int (nI i)), (2, .ref 111), (1, .ref 0), (0, .float 4)]) (st2 := [.int ((nI i) + 1), .float 4, .ref 0]) (w3 := w) rfl rfl ?_
  rw [show ((nI i) + 1 : Int32) = nI (i + 1) from nI_add i 1]
  refine sx_RP.scr (x := (i + 1)) rfl (by omega) hl (show _ = 1381 from rfl) ?_
  refine sx_RP.step (pc2 := 1382) (ls2 := [(3, .int (nI i)), (2, .ref 111), (1, .ref 0), (0, .float 4)]) (st2 := [.float 4, .int (ys.getD ((i + 1)) 0), .ref 0]) (w3 := w) rfl rfl ?_
  refine sx_RP.step (pc2 := 1383) (ls2 := [(3, .int (nI i)), (2, .ref 111), (1, .ref 0), (0, .float 4)]) (st2 := [.int (nI i), .float 4, .int (ys.getD ((i + 1)) 0), .ref 0]) (w3 := w) rfl rfl ?_
  refine sx_RP.step (pc2 := 1384) (ls2 := [(3, .int (nI i)), (2, .ref 111), (1, .ref 0), (0, .float 4)]) (st2 := [.int 2, .int (nI i), .float 4, .int (ys.getD ((i + 1)) 0), .ref 0]) (w3 := w) rfl rfl ?_
  refine sx_RP.step (pc2 := 1385) (ls2 := [(3, .int (nI i)), (2, .ref 111), (1, .ref 0), (0, .float 4)]) (st2 := [.int ((nI i) + 2), .float 4, .int (ys.getD ((i + 1)) 0), .ref 0]) (w3 := w) rfl rfl ?_
  rw [show ((nI i) + 2 : Int32) = nI (i + 2) from nI_add i 2]
  refine sx_RP.scr (x := (i + 2)) rfl (by omega) hl (show _ = 1386 from rfl) ?_
  refine sx_RP.callp (as2 := [.ref 0, .int (ys.getD ((i + 1)) 0), .int (ys.getD ((i + 2)) 0)]) (rest2 := []) rfl rfl (sx_inv_v2 (mi := 246) (k := 173) (st := [.int (ys.getD ((i + 2)) 0), .int (ys.getD ((i + 1)) 0), .ref 0]) (w := w) rfl rfl hI.1.o0 rfl rfl rfl) rfl rfl rfl (sx_RP.byk (c120 (d := 1) hI hC (ys.getD ((i + 1)) 0) (ys.getD ((i + 2)) 0))) (show _ = 1389 from rfl) ?_
  rintro r4 w1 ⟨⟨rfl, hI2, ⟨hC3, hi4⟩⟩, hbk5⟩
  have hR6 := hR.hi hi4
  have hb7 := hbk5 hb
  show sx_RP _ _ _ _ _ [.int (lysA s.2.2.2.2.1 s.2.2.2.2.2 s.1 (ys.getD ((i + 1)) 0) (ys.getD ((i + 2)) 0))] _ _
  refine sx_RP.step (pc2 := 1390) (ls2 := [(3, .int (nI i)), (2, .ref 111), (1, .ref 0), (0, .float 4)]) (st2 := []) (w3 := w1) rfl rfl ?_
  refine sx_RP.step (pc2 := 1391) (ls2 := [(3, .int (nI i)), (2, .ref 111), (1, .ref 0), (0, .float 4)]) (st2 := [.ref 111]) (w3 := w1) rfl rfl ?_
  refine sx_RP.step (pc2 := 1392) (ls2 := [(3, .int (nI i)), (2, .ref 111), (1, .ref 0), (0, .float 4)]) (st2 := [.float 4, .ref 111]) (w3 := w1) rfl rfl ?_
  refine sx_RP.step (pc2 := 1393) (ls2 := [(3, .int (nI i)), (2, .ref 111), (1, .ref 0), (0, .float 4)]) (st2 := [.int (nI i), .float 4, .ref 111]) (w3 := w1) rfl rfl ?_
  refine sx_RP.step (pc2 := 1394) (ls2 := [(3, .int (nI i)), (2, .ref 111), (1, .ref 0), (0, .float 4)]) (st2 := [.int 1, .int (nI i), .float 4, .ref 111]) (w3 := w1) rfl rfl ?_
  refine sx_RP.step (pc2 := 1395) (ls2 := [(3, .int (nI i)), (2, .ref 111), (1, .ref 0), (0, .float 4)]) (st2 := [.int ((nI i) + 1), .float 4, .ref 111]) (w3 := w1) rfl rfl ?_
  rw [show ((nI i) + 1 : Int32) = nI (i + 1) from nI_add i 1]
  refine sx_RP.scr (x := (i + 1)) rfl (by omega) hl (show _ = 1396 from rfl) ?_
  refine sx_RP.step (pc2 := 1397) (ls2 := [(3, .int (nI i)), (2, .ref 111), (1, .ref 0), (0, .float 4)]) (st2 := [.float 4, .int (ys.getD ((i + 1)) 0), .ref 111]) (w3 := w1) rfl rfl ?_
  refine sx_RP.step (pc2 := 1398) (ls2 := [(3, .int (nI i)), (2, .ref 111), (1, .ref 0), (0, .float 4)]) (st2 := [.int (nI i), .float 4, .int (ys.getD ((i + 1)) 0), .ref 111]) (w3 := w1) rfl rfl ?_
  refine sx_RP.step (pc2 := 1399) (ls2 := [(3, .int (nI i)), (2, .ref 111), (1, .ref 0), (0, .float 4)]) (st2 := [.int 2, .int (nI i), .float 4, .int (ys.getD ((i + 1)) 0), .ref 111]) (w3 := w1) rfl rfl ?_
  refine sx_RP.step (pc2 := 1400) (ls2 := [(3, .int (nI i)), (2, .ref 111), (1, .ref 0), (0, .float 4)]) (st2 := [.int ((nI i) + 2), .float 4, .int (ys.getD ((i + 1)) 0), .ref 111]) (w3 := w1) rfl rfl ?_
  rw [show ((nI i) + 2 : Int32) = nI (i + 2) from nI_add i 2]
  refine sx_RP.scr (x := (i + 2)) rfl (by omega) hl (show _ = 1401 from rfl) ?_
  refine sx_RP.callp (as2 := [.ref 111, .int (ys.getD ((i + 1)) 0), .int (ys.getD ((i + 2)) 0)]) (rest2 := []) rfl rfl (sx_inv_v2 (mi := 246) (k := 176) (st := [.int (ys.getD ((i + 2)) 0), .int (ys.getD ((i + 1)) 0), .ref 111]) (w := w1) rfl rfl hI2.1.o111 rfl rfl rfl) rfl rfl rfl (sx_RP.byk (r235 (d := 1) hI2 hR6 (ys.getD ((i + 1)) 0) (ys.getD ((i + 2)) 0))) (show _ = 1404 from rfl) ?_
  rintro r4 w8 ⟨⟨rfl, hI9, ⟨hR10, lo11⟩⟩, hbk12⟩
  have hL13 : LI w8 := ⟨_, hC3.lo hI2 lo11, hR10, hbk12 hb7⟩
  show sx_RP _ _ _ _ _ [.int (lysA s.2.2.2.2.1 s.2.2.2.2.2 s.1 (ys.getD ((i + 1)) 0) (ys.getD ((i + 2)) 0))] _ _
  refine sx_RP.step (pc2 := 1405) (ls2 := [(3, .int (nI i)), (2, .ref 111), (1, .ref 0), (0, .float 4)]) (st2 := []) (w3 := w8) rfl rfl ?_
  refine sx_RP.step (pc2 := 1539) (ls2 := [(3, .int (nI i)), (2, .ref 111), (1, .ref 0), (0, .float 4)]) (st2 := []) (w3 := w8) rfl rfl ?_
  exact kk w8 hI9 hL13
set_option maxRecDepth 20000 in
set_option maxHeartbeats 4000000 in
theorem lc38 {ys : List Int32} {i : Nat} {w : List sx_C} {P : Option Value → List sx_C → Prop} (hl : ys.length ≤ 3072) (hn : i + 6 ≤ ys.length) (hI : WI w) (hL : LI w) (kk : ∀ w2, WI w2 → LI w2 → sx_RP (some ys) 9 246 1539 [(3, .int (nI i)), (2, .ref 111), (1, .ref 0), (0, .float 4)] [] w2 P) : sx_RP (some ys) 9 246 1408 [(3, .int (nI i)), (2, .ref 111), (1, .ref 0), (0, .float 4)] [] w P := by
  obtain ⟨s, hC, hR, hb⟩ := hL
  refine sx_RP.step (pc2 := 1409) (ls2 := [(3, .int (nI i)), (2, .ref 111), (1, .ref 0), (0, .float 4)]) (st2 := [.ref 0]) (w3 := w) rfl rfl ?_
  refine sx_RP.step (pc2 := 1410) (ls2 := [(3, .int (nI i)), (2, .ref 111), (1, .ref 0), (0, .float 4)]) (st2 := [.float 4, .ref 0]) (w3 := w) rfl rfl ?_
  refine sx_RP.step (pc2 := 1411) (ls2 := [(3, .int (nI i)), (2, .ref 111), (1, .ref 0), (0, .float 4)]) (st2 := [.int (nI i), .float 4, .ref 0]) (w3 := w) rfl rfl ?_
  refine sx_RP.step (pc2 := 1412) (ls2 := [(3, .int (nI i)), (2, .ref 111), (1, .ref 0), (0, .float 4)]) (st2 := [.int 1, .int (nI i), .float 4, .ref 0]) (w3 := w) rfl rfl ?_
  refine sx_RP.step (pc2 := 1413) (ls2 := [(3, .int (nI i)), (2, .ref 111), (1, .ref 0), (0, .float 4)]) (st2 := [.int ((nI i) + 1), .float 4, .ref 0]) (w3 := w) rfl rfl ?_
  rw [show ((nI i) + 1 : Int32) = nI (i + 1) from nI_add i 1]
  refine sx_RP.scr (x := (i + 1)) rfl (by omega) hl (show _ = 1414 from rfl) ?_
  refine sx_RP.callp (as2 := [.ref 0, .int (ys.getD ((i + 1)) 0)]) (rest2 := []) rfl rfl (sx_inv_v2 (mi := 246) (k := 177) (st := [.int (ys.getD ((i + 1)) 0), .ref 0]) (w := w) rfl rfl hI.1.o0 rfl rfl rfl) rfl rfl rfl (sx_RP.byk (c121 (d := 1) hI hC (ys.getD ((i + 1)) 0))) (show _ = 1417 from rfl) ?_
  rintro r4 w1 ⟨⟨rfl, hI2, ⟨hC3, hi4⟩⟩, hbk5⟩
  have hR6 := hR.hi hi4
  have hb7 := hbk5 hb
  show sx_RP _ _ _ _ _ [.int (bokA s.2.2.2.2.1 s.1 (ys.getD ((i + 1)) 0))] _ _
  refine sx_RP.step (pc2 := 1418) (ls2 := [(3, .int (nI i)), (2, .ref 111), (1, .ref 0), (0, .float 4)]) (st2 := [.ref 111, .int (bokA s.2.2.2.2.1 s.1 (ys.getD ((i + 1)) 0))]) (w3 := w1) rfl rfl ?_
  refine sx_RP.step (pc2 := 1419) (ls2 := [(3, .int (nI i)), (2, .ref 111), (1, .ref 0), (0, .float 4)]) (st2 := [.float 4, .ref 111, .int (bokA s.2.2.2.2.1 s.1 (ys.getD ((i + 1)) 0))]) (w3 := w1) rfl rfl ?_
  refine sx_RP.step (pc2 := 1420) (ls2 := [(3, .int (nI i)), (2, .ref 111), (1, .ref 0), (0, .float 4)]) (st2 := [.int (nI i), .float 4, .ref 111, .int (bokA s.2.2.2.2.1 s.1 (ys.getD ((i + 1)) 0))]) (w3 := w1) rfl rfl ?_
  refine sx_RP.step (pc2 := 1421) (ls2 := [(3, .int (nI i)), (2, .ref 111), (1, .ref 0), (0, .float 4)]) (st2 := [.int 1, .int (nI i), .float 4, .ref 111, .int (bokA s.2.2.2.2.1 s.1 (ys.getD ((i + 1)) 0))]) (w3 := w1) rfl rfl ?_
  refine sx_RP.step (pc2 := 1422) (ls2 := [(3, .int (nI i)), (2, .ref 111), (1, .ref 0), (0, .float 4)]) (st2 := [.int ((nI i) + 1), .float 4, .ref 111, .int (bokA s.2.2.2.2.1 s.1 (ys.getD ((i + 1)) 0))]) (w3 := w1) rfl rfl ?_
  rw [show ((nI i) + 1 : Int32) = nI (i + 1) from nI_add i 1]
  refine sx_RP.scr (x := (i + 1)) rfl (by omega) hl (show _ = 1423 from rfl) ?_
  refine sx_RP.callp (as2 := [.ref 111, .int (ys.getD ((i + 1)) 0)]) (rest2 := [.int (bokA s.2.2.2.2.1 s.1 (ys.getD ((i + 1)) 0))]) rfl rfl (sx_inv_v2 (mi := 246) (k := 180) (st := [.int (ys.getD ((i + 1)) 0), .ref 111, .int (bokA s.2.2.2.2.1 s.1 (ys.getD ((i + 1)) 0))]) (w := w1) rfl rfl hI2.1.o111 rfl rfl rfl) rfl rfl rfl (sx_RP.byk (r236 (d := 1) hI2 hR6 (ys.getD ((i + 1)) 0))) (show _ = 1426 from rfl) ?_
  rintro r4 w8 ⟨⟨rfl, hI9, ⟨hR10, lo11⟩⟩, hbk12⟩
  have hL13 : LI w8 := ⟨_, hC3.lo hI2 lo11, hR10, hbk12 hb7⟩
  show sx_RP _ _ _ _ _ [.int (bokA s.2.2.2.2.1 s.1 (ys.getD ((i + 1)) 0)), .int (bokA s.2.2.2.2.1 s.1 (ys.getD ((i + 1)) 0))] _ _
  refine sx_RP.br (p1 := 1539) (l1 := [(3, .int (nI i)), (2, .ref 111), (1, .ref 0), (0, .float 4)]) (s1 := []) (v1 := w8) rfl rfl (fun _ => ?_) (fun q => absurd rfl (of_decide_eq_false q))
  exact kk w8 hI9 hL13
set_option maxRecDepth 20000 in
set_option maxHeartbeats 4000000 in
theorem lc39 {ys : List Int32} {i : Nat} {w : List sx_C} {P : Option Value → List sx_C → Prop} (hl : ys.length ≤ 3072) (hn : i + 6 ≤ ys.length) (hI : WI w) (hL : LI w) (kk : ∀ w2, WI w2 → LI w2 → sx_RP (some ys) 9 246 1539 [(3, .int (nI i)), (2, .ref 111), (1, .ref 0), (0, .float 4)] [] w2 P) : sx_RP (some ys) 9 246 1431 [(3, .int (nI i)), (2, .ref 111), (1, .ref 0), (0, .float 4)] [] w P := by
  obtain ⟨s, hC, hR, hb⟩ := hL
  refine sx_RP.step (pc2 := 1432) (ls2 := [(3, .int (nI i)), (2, .ref 111), (1, .ref 0), (0, .float 4)]) (st2 := [.ref 0]) (w3 := w) rfl rfl ?_
  refine sx_RP.step (pc2 := 1433) (ls2 := [(3, .int (nI i)), (2, .ref 111), (1, .ref 0), (0, .float 4)]) (st2 := [.float 4, .ref 0]) (w3 := w) rfl rfl ?_
  refine sx_RP.step (pc2 := 1434) (ls2 := [(3, .int (nI i)), (2, .ref 111), (1, .ref 0), (0, .float 4)]) (st2 := [.int (nI i), .float 4, .ref 0]) (w3 := w) rfl rfl ?_
  refine sx_RP.step (pc2 := 1435) (ls2 := [(3, .int (nI i)), (2, .ref 111), (1, .ref 0), (0, .float 4)]) (st2 := [.int 1, .int (nI i), .float 4, .ref 0]) (w3 := w) rfl rfl ?_
  refine sx_RP.step (pc2 := 1436) (ls2 := [(3, .int (nI i)), (2, .ref 111), (1, .ref 0), (0, .float 4)]) (st2 := [.int ((nI i) + 1), .float 4, .ref 0]) (w3 := w) rfl rfl ?_
  rw [show ((nI i) + 1 : Int32) = nI (i + 1) from nI_add i 1]
  refine sx_RP.scr (x := (i + 1)) rfl (by omega) hl (show _ = 1437 from rfl) ?_
  refine sx_RP.callp (as2 := [.ref 0, .int (ys.getD ((i + 1)) 0)]) (rest2 := []) rfl rfl (sx_inv_v2 (mi := 246) (k := 181) (st := [.int (ys.getD ((i + 1)) 0), .ref 0]) (w := w) rfl rfl hI.1.o0 rfl rfl rfl) rfl rfl rfl (sx_RP.byk (c122 (d := 1) hI hC (ys.getD ((i + 1)) 0))) (show _ = 1440 from rfl) ?_
  rintro r4 w1 ⟨⟨⟨v3, rfl⟩, hI2, ⟨hC4, hi5⟩⟩, hbk6⟩
  have hR7 := hR.hi hi5
  have hb8 := hbk6 hb
  show sx_RP _ _ _ _ _ [.int v3] _ _
  refine sx_RP.step (pc2 := 1441) (ls2 := [(3, .int (nI i)), (2, .ref 111), (1, .ref 0), (0, .float 4)]) (st2 := []) (w3 := w1) rfl rfl ?_
  refine sx_RP.step (pc2 := 1442) (ls2 := [(3, .int (nI i)), (2, .ref 111), (1, .ref 0), (0, .float 4)]) (st2 := [.ref 111]) (w3 := w1) rfl rfl ?_
  refine sx_RP.step (pc2 := 1443) (ls2 := [(3, .int (nI i)), (2, .ref 111), (1, .ref 0), (0, .float 4)]) (st2 := [.float 4, .ref 111]) (w3 := w1) rfl rfl ?_
  refine sx_RP.step (pc2 := 1444) (ls2 := [(3, .int (nI i)), (2, .ref 111), (1, .ref 0), (0, .float 4)]) (st2 := [.int (nI i), .float 4, .ref 111]) (w3 := w1) rfl rfl ?_
  refine sx_RP.step (pc2 := 1445) (ls2 := [(3, .int (nI i)), (2, .ref 111), (1, .ref 0), (0, .float 4)]) (st2 := [.int 1, .int (nI i), .float 4, .ref 111]) (w3 := w1) rfl rfl ?_
  refine sx_RP.step (pc2 := 1446) (ls2 := [(3, .int (nI i)), (2, .ref 111), (1, .ref 0), (0, .float 4)]) (st2 := [.int ((nI i) + 1), .float 4, .ref 111]) (w3 := w1) rfl rfl ?_
  rw [show ((nI i) + 1 : Int32) = nI (i + 1) from nI_add i 1]
  refine sx_RP.scr (x := (i + 1)) rfl (by omega) hl (show _ = 1447 from rfl) ?_
  refine sx_RP.callp (as2 := [.ref 111, .int (ys.getD ((i + 1)) 0)]) (rest2 := []) rfl rfl (sx_inv_v2 (mi := 246) (k := 184) (st := [.int (ys.getD ((i + 1)) 0), .ref 111]) (w := w1) rfl rfl hI2.1.o111 rfl rfl rfl) rfl rfl rfl (sx_RP.byk (r238 (d := 1) hI2 hR7 (ys.getD ((i + 1)) 0))) (show _ = 1450 from rfl) ?_
  rintro r4 w9 ⟨⟨⟨v11, rfl⟩, hI10, ⟨hR12, lo13⟩⟩, hbk14⟩
  have hL15 : LI w9 := ⟨_, hC4.lo hI2 lo13, hR12, hbk14 hb8⟩
  show sx_RP _ _ _ _ _ [.int v11] _ _
  refine sx_RP.step (pc2 := 1451) (ls2 := [(3, .int (nI i)), (2, .ref 111), (1, .ref 0), (0, .float 4)]) (st2 := []) (w3 := w9) rfl rfl ?_
  refine sx_RP.step (pc2 := 1539) (ls2 := [(3, .int (nI i)), (2, .ref 111), (1, .ref 0), (0, .float 4)]) (st2 := []) (w3 := w9) rfl rfl ?_
  exact kk w9 hI10 hL15
set_option maxRecDepth 20000 in
set_option maxHeartbeats 4000000 in
theorem lc40 {ys : List Int32} {i : Nat} {w : List sx_C} {P : Option Value → List sx_C → Prop} (hl : ys.length ≤ 3072) (hn : i + 6 ≤ ys.length) (hI : WI w) (hL : LI w) (kk : ∀ w2, WI w2 → LI w2 → sx_RP (some ys) 9 246 1539 [(3, .int (nI i)), (2, .ref 111), (1, .ref 0), (0, .float 4)] [] w2 P) : sx_RP (some ys) 9 246 1454 [(3, .int (nI i)), (2, .ref 111), (1, .ref 0), (0, .float 4)] [] w P := by
  obtain ⟨s, hC, hR, hb⟩ := hL
  refine sx_RP.step (pc2 := 1455) (ls2 := [(3, .int (nI i)), (2, .ref 111), (1, .ref 0), (0, .float 4)]) (st2 := [.ref 0]) (w3 := w) rfl rfl ?_
  refine sx_RP.callp (as2 := [.ref 0]) (rest2 := []) rfl rfl (sx_inv_v2 (mi := 246) (k := 185) (st := [.ref 0]) (w := w) rfl rfl hI.1.o0 rfl rfl rfl) rfl rfl rfl (sx_RP.byk (c124 (d := 1) hI hC)) (show _ = 1458 from rfl) ?_
  rintro r4 w1 ⟨⟨rfl, hI2, ⟨hC3, hi4⟩⟩, hbk5⟩
  have hR6 := hR.hi hi4
  have hb7 := hbk5 hb
  show sx_RP _ _ _ _ _ [.int 1] _ _
  refine sx_RP.step (pc2 := 1459) (ls2 := [(3, .int (nI i)), (2, .ref 111), (1, .ref 0), (0, .float 4)]) (st2 := []) (w3 := w1) rfl rfl ?_
  refine sx_RP.step (pc2 := 1460) (ls2 := [(3, .int (nI i)), (2, .ref 111), (1, .ref 0), (0, .float 4)]) (st2 := [.ref 111]) (w3 := w1) rfl rfl ?_
  refine sx_RP.callp (as2 := [.ref 111]) (rest2 := []) rfl rfl (sx_inv_v2 (mi := 246) (k := 188) (st := [.ref 111]) (w := w1) rfl rfl hI2.1.o111 rfl rfl rfl) rfl rfl rfl (sx_RP.byk (r240 (d := 1) hI2 hR6)) (show _ = 1463 from rfl) ?_
  rintro r4 w8 ⟨⟨rfl, hI9, ⟨hR10, lo11⟩⟩, hbk12⟩
  have hL13 : LI w8 := ⟨_, hC3.lo hI2 lo11, hR10, hbk12 hb7⟩
  show sx_RP _ _ _ _ _ [.int 1] _ _
  refine sx_RP.step (pc2 := 1464) (ls2 := [(3, .int (nI i)), (2, .ref 111), (1, .ref 0), (0, .float 4)]) (st2 := []) (w3 := w8) rfl rfl ?_
  refine sx_RP.step (pc2 := 1539) (ls2 := [(3, .int (nI i)), (2, .ref 111), (1, .ref 0), (0, .float 4)]) (st2 := []) (w3 := w8) rfl rfl ?_
  exact kk w8 hI9 hL13
set_option maxRecDepth 20000 in
set_option maxHeartbeats 4000000 in
theorem lc41 {ys : List Int32} {i : Nat} {w : List sx_C} {P : Option Value → List sx_C → Prop} (hl : ys.length ≤ 3072) (hn : i + 6 ≤ ys.length) (hI : WI w) (hL : LI w) (kk : ∀ w2, WI w2 → LI w2 → sx_RP (some ys) 9 246 1539 [(3, .int (nI i)), (2, .ref 111), (1, .ref 0), (0, .float 4)] [] w2 P) : sx_RP (some ys) 9 246 1467 [(3, .int (nI i)), (2, .ref 111), (1, .ref 0), (0, .float 4)] [] w P := by
  obtain ⟨s, hC, hR, hb⟩ := hL
  refine sx_RP.step (pc2 := 1468) (ls2 := [(3, .int (nI i)), (2, .ref 111), (1, .ref 0), (0, .float 4)]) (st2 := [.ref 0]) (w3 := w) rfl rfl ?_
  refine sx_RP.callp (as2 := [.ref 0]) (rest2 := []) rfl rfl (sx_inv_v2 (mi := 246) (k := 189) (st := [.ref 0]) (w := w) rfl rfl hI.1.o0 rfl rfl rfl) rfl rfl rfl (sx_RP.byk (c125 (d := 1) hI hC)) (show _ = 1471 from rfl) ?_
  rintro r4 w1 ⟨⟨rfl, hI2, ⟨hC3, hi4⟩⟩, hbk5⟩
  have hR6 := hR.hi hi4
  have hb7 := hbk5 hb
  show sx_RP _ _ _ _ _ [.int (if s.2.1 = 1 then s.2.2.1.getD 1 0 else -1000000004)] _ _
  refine sx_RP.step (pc2 := 1472) (ls2 := [(3, .int (nI i)), (2, .ref 111), (1, .ref 0), (0, .float 4)]) (st2 := []) (w3 := w1) rfl rfl ?_
  refine sx_RP.step (pc2 := 1473) (ls2 := [(3, .int (nI i)), (2, .ref 111), (1, .ref 0), (0, .float 4)]) (st2 := [.ref 111]) (w3 := w1) rfl rfl ?_
  refine sx_RP.callp (as2 := [.ref 111]) (rest2 := []) rfl rfl (sx_inv_v2 (mi := 246) (k := 192) (st := [.ref 111]) (w := w1) rfl rfl hI2.1.o111 rfl rfl rfl) rfl rfl rfl (sx_RP.byk (r241 (d := 1) hI2 hR6)) (show _ = 1476 from rfl) ?_
  rintro r4 w8 ⟨⟨rfl, hI9, ⟨hR10, lo11⟩⟩, hbk12⟩
  have hL13 : LI w8 := ⟨_, hC3.lo hI2 lo11, hR10, hbk12 hb7⟩
  show sx_RP _ _ _ _ _ [.int (if s.2.1 = 1 then s.2.2.1.getD 1 0 else -1000000004)] _ _
  refine sx_RP.step (pc2 := 1477) (ls2 := [(3, .int (nI i)), (2, .ref 111), (1, .ref 0), (0, .float 4)]) (st2 := []) (w3 := w8) rfl rfl ?_
  refine sx_RP.step (pc2 := 1539) (ls2 := [(3, .int (nI i)), (2, .ref 111), (1, .ref 0), (0, .float 4)]) (st2 := []) (w3 := w8) rfl rfl ?_
  exact kk w8 hI9 hL13
set_option maxRecDepth 20000 in
set_option maxHeartbeats 4000000 in
theorem lc42 {ys : List Int32} {i : Nat} {w : List sx_C} {P : Option Value → List sx_C → Prop} (hl : ys.length ≤ 3072) (hn : i + 6 ≤ ys.length) (hI : WI w) (hL : LI w) (kk : ∀ w2, WI w2 → LI w2 → sx_RP (some ys) 9 246 1539 [(3, .int (nI i)), (2, .ref 111), (1, .ref 0), (0, .float 4)] [] w2 P) : sx_RP (some ys) 9 246 1480 [(3, .int (nI i)), (2, .ref 111), (1, .ref 0), (0, .float 4)] [] w P := by
  obtain ⟨s, hC, hR, hb⟩ := hL
  refine sx_RP.step (pc2 := 1481) (ls2 := [(3, .int (nI i)), (2, .ref 111), (1, .ref 0), (0, .float 4)]) (st2 := [.ref 0]) (w3 := w) rfl rfl ?_
  refine sx_RP.callp (as2 := [.ref 0]) (rest2 := []) rfl rfl (sx_inv_v2 (mi := 246) (k := 193) (st := [.ref 0]) (w := w) rfl rfl hI.1.o0 rfl rfl rfl) rfl rfl rfl (sx_RP.byk (c126 (d := 1) hI hC)) (show _ = 1484 from rfl) ?_
  rintro r4 w1 ⟨⟨rfl, hI2, ⟨hC3, hi4⟩⟩, hbk5⟩
  have hR6 := hR.hi hi4
  have hb7 := hbk5 hb
  show sx_RP _ _ _ _ _ [.int s.2.1] _ _
  refine sx_RP.step (pc2 := 1485) (ls2 := [(3, .int (nI i)), (2, .ref 111), (1, .ref 0), (0, .float 4)]) (st2 := []) (w3 := w1) rfl rfl ?_
  refine sx_RP.step (pc2 := 1486) (ls2 := [(3, .int (nI i)), (2, .ref 111), (1, .ref 0), (0, .float 4)]) (st2 := [.ref 111]) (w3 := w1) rfl rfl ?_
  refine sx_RP.callp (as2 := [.ref 111]) (rest2 := []) rfl rfl (sx_inv_v2 (mi := 246) (k := 196) (st := [.ref 111]) (w := w1) rfl rfl hI2.1.o111 rfl rfl rfl) rfl rfl rfl (sx_RP.byk (r242 (d := 1) hI2 hR6)) (show _ = 1489 from rfl) ?_
  rintro r4 w8 ⟨⟨rfl, hI9, ⟨hR10, lo11⟩⟩, hbk12⟩
  have hL13 : LI w8 := ⟨_, hC3.lo hI2 lo11, hR10, hbk12 hb7⟩
  show sx_RP _ _ _ _ _ [.int s.2.1] _ _
  refine sx_RP.step (pc2 := 1490) (ls2 := [(3, .int (nI i)), (2, .ref 111), (1, .ref 0), (0, .float 4)]) (st2 := []) (w3 := w8) rfl rfl ?_
  refine sx_RP.step (pc2 := 1539) (ls2 := [(3, .int (nI i)), (2, .ref 111), (1, .ref 0), (0, .float 4)]) (st2 := []) (w3 := w8) rfl rfl ?_
  exact kk w8 hI9 hL13
set_option maxRecDepth 20000 in
set_option maxHeartbeats 4000000 in
theorem lc43 {ys : List Int32} {i : Nat} {w : List sx_C} {P : Option Value → List sx_C → Prop} (hl : ys.length ≤ 3072) (hn : i + 6 ≤ ys.length) (hI : WI w) (hL : LI w) (kk : ∀ w2, WI w2 → LI w2 → sx_RP (some ys) 9 246 1539 [(3, .int (nI i)), (2, .ref 111), (1, .ref 0), (0, .float 4)] [] w2 P) : sx_RP (some ys) 9 246 1493 [(3, .int (nI i)), (2, .ref 111), (1, .ref 0), (0, .float 4)] [] w P := by
  obtain ⟨s, hC, hR, hb⟩ := hL
  refine sx_RP.step (pc2 := 1494) (ls2 := [(3, .int (nI i)), (2, .ref 111), (1, .ref 0), (0, .float 4)]) (st2 := [.ref 0]) (w3 := w) rfl rfl ?_
  refine sx_RP.step (pc2 := 1495) (ls2 := [(3, .int (nI i)), (2, .ref 111), (1, .ref 0), (0, .float 4)]) (st2 := [.float 4, .ref 0]) (w3 := w) rfl rfl ?_
  refine sx_RP.step (pc2 := 1496) (ls2 := [(3, .int (nI i)), (2, .ref 111), (1, .ref 0), (0, .float 4)]) (st2 := [.int (nI i), .float 4, .ref 0]) (w3 := w) rfl rfl ?_
  refine sx_RP.step (pc2 := 1497) (ls2 := [(3, .int (nI i)), (2, .ref 111), (1, .ref 0), (0, .float 4)]) (st2 := [.int 1, .int (nI i), .float 4, .ref 0]) (w3 := w) rfl rfl ?_
  refine sx_RP.step (pc2 := 1498) (ls2 := [(3, .int (nI i)), (2, .ref 111), (1, .ref 0), (0, .float 4)]) (st2 := [.int ((nI i) + 1), .float 4, .ref 0]) (w3 := w) rfl rfl ?_
  rw [show ((nI i) + 1 : Int32) = nI (i + 1) from nI_add i 1]
  refine sx_RP.scr (x := (i + 1)) rfl (by omega) hl (show _ = 1499 from rfl) ?_
  refine sx_RP.callp (as2 := [.ref 0, .int (ys.getD ((i + 1)) 0)]) (rest2 := []) rfl rfl (sx_inv_v2 (mi := 246) (k := 197) (st := [.int (ys.getD ((i + 1)) 0), .ref 0]) (w := w) rfl rfl hI.1.o0 rfl rfl rfl) rfl rfl rfl (sx_RP.byk (c127 (d := 1) hI hC (ys.getD ((i + 1)) 0))) (show _ = 1502 from rfl) ?_
  rintro r4 w1 ⟨⟨⟨v3, rfl⟩, hI2, ⟨hC4, hi5⟩⟩, hbk6⟩
  have hR7 := hR.hi hi5
  have hb8 := hbk6 hb
  show sx_RP _ _ _ _ _ [.int v3] _ _
  refine sx_RP.step (pc2 := 1503) (ls2 := [(3, .int (nI i)), (2, .ref 111), (1, .ref 0), (0, .float 4)]) (st2 := []) (w3 := w1) rfl rfl ?_
  refine sx_RP.step (pc2 := 1504) (ls2 := [(3, .int (nI i)), (2, .ref 111), (1, .ref 0), (0, .float 4)]) (st2 := [.ref 111]) (w3 := w1) rfl rfl ?_
  refine sx_RP.step (pc2 := 1505) (ls2 := [(3, .int (nI i)), (2, .ref 111), (1, .ref 0), (0, .float 4)]) (st2 := [.float 4, .ref 111]) (w3 := w1) rfl rfl ?_
  refine sx_RP.step (pc2 := 1506) (ls2 := [(3, .int (nI i)), (2, .ref 111), (1, .ref 0), (0, .float 4)]) (st2 := [.int (nI i), .float 4, .ref 111]) (w3 := w1) rfl rfl ?_
  refine sx_RP.step (pc2 := 1507) (ls2 := [(3, .int (nI i)), (2, .ref 111), (1, .ref 0), (0, .float 4)]) (st2 := [.int 1, .int (nI i), .float 4, .ref 111]) (w3 := w1) rfl rfl ?_
  refine sx_RP.step (pc2 := 1508) (ls2 := [(3, .int (nI i)), (2, .ref 111), (1, .ref 0), (0, .float 4)]) (st2 := [.int ((nI i) + 1), .float 4, .ref 111]) (w3 := w1) rfl rfl ?_
  rw [show ((nI i) + 1 : Int32) = nI (i + 1) from nI_add i 1]
  refine sx_RP.scr (x := (i + 1)) rfl (by omega) hl (show _ = 1509 from rfl) ?_
  refine sx_RP.callp (as2 := [.ref 111, .int (ys.getD ((i + 1)) 0)]) (rest2 := []) rfl rfl (sx_inv_v2 (mi := 246) (k := 200) (st := [.int (ys.getD ((i + 1)) 0), .ref 111]) (w := w1) rfl rfl hI2.1.o111 rfl rfl rfl) rfl rfl rfl (sx_RP.byk (r243 (d := 1) hI2 hR7 (ys.getD ((i + 1)) 0))) (show _ = 1512 from rfl) ?_
  rintro r4 w9 ⟨⟨⟨v11, rfl⟩, hI10, ⟨hR12, lo13⟩⟩, hbk14⟩
  have hL15 : LI w9 := ⟨_, hC4.lo hI2 lo13, hR12, hbk14 hb8⟩
  show sx_RP _ _ _ _ _ [.int v11] _ _
  refine sx_RP.step (pc2 := 1513) (ls2 := [(3, .int (nI i)), (2, .ref 111), (1, .ref 0), (0, .float 4)]) (st2 := []) (w3 := w9) rfl rfl ?_
  refine sx_RP.step (pc2 := 1539) (ls2 := [(3, .int (nI i)), (2, .ref 111), (1, .ref 0), (0, .float 4)]) (st2 := []) (w3 := w9) rfl rfl ?_
  exact kk w9 hI10 hL15
set_option maxRecDepth 20000 in
set_option maxHeartbeats 4000000 in
theorem lc44 {ys : List Int32} {i : Nat} {w : List sx_C} {P : Option Value → List sx_C → Prop} (hl : ys.length ≤ 3072) (hn : i + 6 ≤ ys.length) (hI : WI w) (hL : LI w) (kk : ∀ w2, WI w2 → LI w2 → sx_RP (some ys) 9 246 1539 [(3, .int (nI i)), (2, .ref 111), (1, .ref 0), (0, .float 4)] [] w2 P) : sx_RP (some ys) 9 246 1516 [(3, .int (nI i)), (2, .ref 111), (1, .ref 0), (0, .float 4)] [] w P := by
  obtain ⟨s, hC, hR, hb⟩ := hL
  refine sx_RP.step (pc2 := 1517) (ls2 := [(3, .int (nI i)), (2, .ref 111), (1, .ref 0), (0, .float 4)]) (st2 := [.ref 0]) (w3 := w) rfl rfl ?_
  refine sx_RP.step (pc2 := 1518) (ls2 := [(3, .int (nI i)), (2, .ref 111), (1, .ref 0), (0, .float 4)]) (st2 := [.float 4, .ref 0]) (w3 := w) rfl rfl ?_
  refine sx_RP.step (pc2 := 1519) (ls2 := [(3, .int (nI i)), (2, .ref 111), (1, .ref 0), (0, .float 4)]) (st2 := [.int (nI i), .float 4, .ref 0]) (w3 := w) rfl rfl ?_
  refine sx_RP.step (pc2 := 1520) (ls2 := [(3, .int (nI i)), (2, .ref 111), (1, .ref 0), (0, .float 4)]) (st2 := [.int 1, .int (nI i), .float 4, .ref 0]) (w3 := w) rfl rfl ?_
  refine sx_RP.step (pc2 := 1521) (ls2 := [(3, .int (nI i)), (2, .ref 111), (1, .ref 0), (0, .float 4)]) (st2 := [.int ((nI i) + 1), .float 4, .ref 0]) (w3 := w) rfl rfl ?_
  rw [show ((nI i) + 1 : Int32) = nI (i + 1) from nI_add i 1]
  refine sx_RP.scr (x := (i + 1)) rfl (by omega) hl (show _ = 1522 from rfl) ?_
  refine sx_RP.callp (as2 := [.ref 0, .int (ys.getD ((i + 1)) 0)]) (rest2 := []) rfl rfl (sx_inv_v2 (mi := 246) (k := 201) (st := [.int (ys.getD ((i + 1)) 0), .ref 0]) (w := w) rfl rfl hI.1.o0 rfl rfl rfl) rfl rfl rfl (sx_RP.byk (c128 (d := 1) hI hC (ys.getD ((i + 1)) 0))) (show _ = 1525 from rfl) ?_
  rintro r4 w1 ⟨⟨⟨v3, rfl⟩, hI2, ⟨hC4, hi5⟩⟩, hbk6⟩
  have hR7 := hR.hi hi5
  have hb8 := hbk6 hb
  show sx_RP _ _ _ _ _ [.int v3] _ _
  refine sx_RP.step (pc2 := 1526) (ls2 := [(3, .int (nI i)), (2, .ref 111), (1, .ref 0), (0, .float 4)]) (st2 := []) (w3 := w1) rfl rfl ?_
  refine sx_RP.step (pc2 := 1527) (ls2 := [(3, .int (nI i)), (2, .ref 111), (1, .ref 0), (0, .float 4)]) (st2 := [.ref 111]) (w3 := w1) rfl rfl ?_
  refine sx_RP.step (pc2 := 1528) (ls2 := [(3, .int (nI i)), (2, .ref 111), (1, .ref 0), (0, .float 4)]) (st2 := [.float 4, .ref 111]) (w3 := w1) rfl rfl ?_
  refine sx_RP.step (pc2 := 1529) (ls2 := [(3, .int (nI i)), (2, .ref 111), (1, .ref 0), (0, .float 4)]) (st2 := [.int (nI i), .float 4, .ref 111]) (w3 := w1) rfl rfl ?_
  refine sx_RP.step (pc2 := 1530) (ls2 := [(3, .int (nI i)), (2, .ref 111), (1, .ref 0), (0, .float 4)]) (st2 := [.int 1, .int (nI i), .float 4, .ref 111]) (w3 := w1) rfl rfl ?_
  refine sx_RP.step (pc2 := 1531) (ls2 := [(3, .int (nI i)), (2, .ref 111), (1, .ref 0), (0, .float 4)]) (st2 := [.int ((nI i) + 1), .float 4, .ref 111]) (w3 := w1) rfl rfl ?_
  rw [show ((nI i) + 1 : Int32) = nI (i + 1) from nI_add i 1]
  refine sx_RP.scr (x := (i + 1)) rfl (by omega) hl (show _ = 1532 from rfl) ?_
  refine sx_RP.callp (as2 := [.ref 111, .int (ys.getD ((i + 1)) 0)]) (rest2 := []) rfl rfl (sx_inv_v2 (mi := 246) (k := 204) (st := [.int (ys.getD ((i + 1)) 0), .ref 111]) (w := w1) rfl rfl hI2.1.o111 rfl rfl rfl) rfl rfl rfl (sx_RP.byk (r245 (d := 1) hI2 hR7 (ys.getD ((i + 1)) 0))) (show _ = 1535 from rfl) ?_
  rintro r4 w9 ⟨⟨⟨v11, rfl⟩, hI10, ⟨hR12, lo13⟩⟩, hbk14⟩
  have hL15 : LI w9 := ⟨_, hC4.lo hI2 lo13, hR12, hbk14 hb8⟩
  show sx_RP _ _ _ _ _ [.int v11] _ _
  refine sx_RP.step (pc2 := 1536) (ls2 := [(3, .int (nI i)), (2, .ref 111), (1, .ref 0), (0, .float 4)]) (st2 := []) (w3 := w9) rfl rfl ?_
  refine sx_RP.step (pc2 := 1539) (ls2 := [(3, .int (nI i)), (2, .ref 111), (1, .ref 0), (0, .float 4)]) (st2 := []) (w3 := w9) rfl rfl ?_
  exact kk w9 hI10 hL15
end
-- 98.loop.lean.txt
section
set_option maxRecDepth 20000 in
set_option maxHeartbeats 4000000 in
theorem law_loop {ys : List Int32} (hl : ys.length ≤ 3072) : ∀ (n i : Nat) (w : List sx_C), i ≤ ys.length → ys.length ≤ i + n → WI w → LI w → sx_RP (some ys) 9 246 18 [(3, .int (nI i)), (2, .ref 111), (1, .ref 0), (0, .float 4)] [] w (fun r _ => r = some (.int 1)) := by
  intro n
  induction n with
  | zero =>
    intro i w h1 h2 hI hL
    refine sx_RP.step (pc2 := 19) (ls2 := [(3, .int (nI i)), (2, .ref 111), (1, .ref 0), (0, .float 4)]) (st2 := [.int (nI i)]) (w3 := w) rfl rfl ?_
    refine sx_RP.step (pc2 := 20) (ls2 := [(3, .int (nI i)), (2, .ref 111), (1, .ref 0), (0, .float 4)]) (st2 := [.float 4, .int (nI i)]) (w3 := w) rfl rfl ?_
    refine sx_RP.step (pc2 := 21) (ls2 := [(3, .int (nI i)), (2, .ref 111), (1, .ref 0), (0, .float 4)]) (st2 := [.int (nI ys.length), .int (nI i)]) (w3 := w) rfl rfl ?_
    refine sx_RP.step (pc2 := 23) (ls2 := [(3, .int (nI i)), (2, .ref 111), (1, .ref 0), (0, .float 4)]) (st2 := [.int 6, .int (nI ys.length), .int (nI i)]) (w3 := w) rfl rfl ?_
    refine sx_RP.step (pc2 := 24) (ls2 := [(3, .int (nI i)), (2, .ref 111), (1, .ref 0), (0, .float 4)]) (st2 := [.int (nI ys.length - 6), .int (nI i)]) (w3 := w) rfl rfl ?_
    refine sx_RP.br (p1 := 1545) (l1 := [(3, .int (nI i)), (2, .ref 111), (1, .ref 0), (0, .float 4)]) (s1 := []) (v1 := w) (p2 := 27) (l2 := [(3, .int (nI i)), (2, .ref 111), (1, .ref 0), (0, .float 4)]) (s2 := []) (v2 := w) rfl rfl (fun q => ?_) (fun q => ?_)
    · refine sx_RP.step (pc2 := 1546) (ls2 := [(3, .int (nI i)), (2, .ref 111), (1, .ref 0), (0, .float 4)]) (st2 := [.int 1]) (w3 := w) rfl rfl ?_
      exact sx_RP.ret (r := some (.int 1)) rfl rfl rfl
    · exact absurd (law_le hl (by omega) (of_decide_eq_false q)) (by omega)
  | succ n IH =>
    intro i w h1 h2 hI hL
    refine sx_RP.step (pc2 := 19) (ls2 := [(3, .int (nI i)), (2, .ref 111), (1, .ref 0), (0, .float 4)]) (st2 := [.int (nI i)]) (w3 := w) rfl rfl ?_
    refine sx_RP.step (pc2 := 20) (ls2 := [(3, .int (nI i)), (2, .ref 111), (1, .ref 0), (0, .float 4)]) (st2 := [.float 4, .int (nI i)]) (w3 := w) rfl rfl ?_
    refine sx_RP.step (pc2 := 21) (ls2 := [(3, .int (nI i)), (2, .ref 111), (1, .ref 0), (0, .float 4)]) (st2 := [.int (nI ys.length), .int (nI i)]) (w3 := w) rfl rfl ?_
    refine sx_RP.step (pc2 := 23) (ls2 := [(3, .int (nI i)), (2, .ref 111), (1, .ref 0), (0, .float 4)]) (st2 := [.int 6, .int (nI ys.length), .int (nI i)]) (w3 := w) rfl rfl ?_
    refine sx_RP.step (pc2 := 24) (ls2 := [(3, .int (nI i)), (2, .ref 111), (1, .ref 0), (0, .float 4)]) (st2 := [.int (nI ys.length - 6), .int (nI i)]) (w3 := w) rfl rfl ?_
    refine sx_RP.br (p1 := 1545) (l1 := [(3, .int (nI i)), (2, .ref 111), (1, .ref 0), (0, .float 4)]) (s1 := []) (v1 := w) (p2 := 27) (l2 := [(3, .int (nI i)), (2, .ref 111), (1, .ref 0), (0, .float 4)]) (s2 := []) (v2 := w) rfl rfl (fun q => ?_) (fun q => ?_)
    · refine sx_RP.step (pc2 := 1546) (ls2 := [(3, .int (nI i)), (2, .ref 111), (1, .ref 0), (0, .float 4)]) (st2 := [.int 1]) (w3 := w) rfl rfl ?_
      exact sx_RP.ret (r := some (.int 1)) rfl rfl rfl
    · have hn := law_le hl (by omega) (of_decide_eq_false q)
      have kk : ∀ w2, WI w2 → LI w2 → sx_RP (some ys) 9 246 1539 [(3, .int (nI i)), (2, .ref 111), (1, .ref 0), (0, .float 4)] [] w2 (fun r _ => r = some (.int 1)) := by
        intro w2 hI2 hL2
        refine sx_RP.step (pc2 := 1542) (ls2 := [(3, .int (nI i + 6)), (2, .ref 111), (1, .ref 0), (0, .float 4)]) (st2 := []) (w3 := w2) rfl rfl ?_
        rw [show (nI i + 6 : Int32) = nI (i + 6) from nI_add i 6]
        refine sx_RP.step (pc2 := 18) (ls2 := [(3, .int (nI (i + 6))), (2, .ref 111), (1, .ref 0), (0, .float 4)]) (st2 := []) (w3 := w2) rfl rfl ?_
        exact IH (i + 6) w2 (by omega) (by omega) hI2 hL2
      refine sx_RP.step (pc2 := 28) (ls2 := [(3, .int (nI i)), (2, .ref 111), (1, .ref 0), (0, .float 4)]) (st2 := [.float 4]) (w3 := w) rfl rfl ?_
      refine sx_RP.step (pc2 := 29) (ls2 := [(3, .int (nI i)), (2, .ref 111), (1, .ref 0), (0, .float 4)]) (st2 := [.int (nI i), .float 4]) (w3 := w) rfl rfl ?_
      refine sx_RP.scr (x := i) rfl (by omega) hl (show _ = 30 from rfl) ?_
      refine sx_RP.step (pc2 := 32) (ls2 := [(3, .int (nI i)), (2, .ref 111), (1, .ref 0), (0, .float 4)]) (st2 := [.int 63, .int (ys.getD i 0)]) (w3 := w) rfl rfl ?_
      refine sx_RP.step (pc2 := 33) (ls2 := [(3, .int (nI i)), (2, .ref 111), (1, .ref 0), (0, .float 4)]) (st2 := [.int (ys.getD i 0 &&& 63)]) (w3 := w) rfl rfl ?_
      rcases sw_cases (n := 44) (ys.getD i 0 &&& 63) with q | ⟨j, hj, ex⟩
      · exact sx_RP.swo (t := 1539) rfl q rfl (kk w hI hL)
      · rw [ex]
        match j, hj with
        | 0, _ => exact sx_RP.step (pc2 := 228) (ls2 := [(3, .int (nI i)), (2, .ref 111), (1, .ref 0), (0, .float 4)]) (st2 := []) (w3 := w) rfl rfl (lc0 hl hn hI hL kk)
        | 1, _ => exact sx_RP.step (pc2 := 261) (ls2 := [(3, .int (nI i)), (2, .ref 111), (1, .ref 0), (0, .float 4)]) (st2 := []) (w3 := w) rfl rfl (lc1 hl hn hI hL kk)
        | 2, _ => exact sx_RP.step (pc2 := 310) (ls2 := [(3, .int (nI i)), (2, .ref 111), (1, .ref 0), (0, .float 4)]) (st2 := []) (w3 := w) rfl rfl (lc2 hl hn hI hL kk)
        | 3, _ => exact sx_RP.step (pc2 := 343) (ls2 := [(3, .int (nI i)), (2, .ref 111), (1, .ref 0), (0, .float 4)]) (st2 := []) (w3 := w) rfl rfl (lc3 hl hn hI hL kk)
        | 4, _ => exact sx_RP.step (pc2 := 356) (ls2 := [(3, .int (nI i)), (2, .ref 111), (1, .ref 0), (0, .float 4)]) (st2 := []) (w3 := w) rfl rfl (lc4 hl hn hI hL kk)
        | 5, _ => exact sx_RP.step (pc2 := 389) (ls2 := [(3, .int (nI i)), (2, .ref 111), (1, .ref 0), (0, .float 4)]) (st2 := []) (w3 := w) rfl rfl (lc5 hl hn hI hL kk)
        | 6, _ => exact sx_RP.step (pc2 := 442) (ls2 := [(3, .int (nI i)), (2, .ref 111), (1, .ref 0), (0, .float 4)]) (st2 := []) (w3 := w) rfl rfl (lc6 hl hn hI hL kk)
        | 7, _ => exact sx_RP.step (pc2 := 475) (ls2 := [(3, .int (nI i)), (2, .ref 111), (1, .ref 0), (0, .float 4)]) (st2 := []) (w3 := w) rfl rfl (lc7 hl hn hI hL kk)
        | 8, _ => exact sx_RP.step (pc2 := 508) (ls2 := [(3, .int (nI i)), (2, .ref 111), (1, .ref 0), (0, .float 4)]) (st2 := []) (w3 := w) rfl rfl (lc8 hl hn hI hL kk)
        | 9, _ => exact sx_RP.step (pc2 := 541) (ls2 := [(3, .int (nI i)), (2, .ref 111), (1, .ref 0), (0, .float 4)]) (st2 := []) (w3 := w) rfl rfl (lc9 hl hn hI hL kk)
        | 10, _ => exact sx_RP.step (pc2 := 574) (ls2 := [(3, .int (nI i)), (2, .ref 111), (1, .ref 0), (0, .float 4)]) (st2 := []) (w3 := w) rfl rfl (lc10 hl hn hI hL kk)
        | 11, _ => exact sx_RP.step (pc2 := 617) (ls2 := [(3, .int (nI i)), (2, .ref 111), (1, .ref 0), (0, .float 4)]) (st2 := []) (w3 := w) rfl rfl (lc11 hl hn hI hL kk)
        | 12, _ => exact sx_RP.step (pc2 := 640) (ls2 := [(3, .int (nI i)), (2, .ref 111), (1, .ref 0), (0, .float 4)]) (st2 := []) (w3 := w) rfl rfl (lc12 hl hn hI hL kk)
        | 13, _ => exact sx_RP.step (pc2 := 663) (ls2 := [(3, .int (nI i)), (2, .ref 111), (1, .ref 0), (0, .float 4)]) (st2 := []) (w3 := w) rfl rfl (lc13 hl hn hI hL kk)
        | 14, _ => exact sx_RP.step (pc2 := 696) (ls2 := [(3, .int (nI i)), (2, .ref 111), (1, .ref 0), (0, .float 4)]) (st2 := []) (w3 := w) rfl rfl (lc14 hl hn hI hL kk)
        | 15, _ => exact sx_RP.step (pc2 := 719) (ls2 := [(3, .int (nI i)), (2, .ref 111), (1, .ref 0), (0, .float 4)]) (st2 := []) (w3 := w) rfl rfl (lc15 hl hn hI hL kk)
        | 16, _ => exact sx_RP.step (pc2 := 732) (ls2 := [(3, .int (nI i)), (2, .ref 111), (1, .ref 0), (0, .float 4)]) (st2 := []) (w3 := w) rfl rfl (lc16 hl hn hI hL kk)
        | 17, _ => exact sx_RP.step (pc2 := 765) (ls2 := [(3, .int (nI i)), (2, .ref 111), (1, .ref 0), (0, .float 4)]) (st2 := []) (w3 := w) rfl rfl (lc17 hl hn hI hL kk)
        | 18, _ => exact sx_RP.step (pc2 := 798) (ls2 := [(3, .int (nI i)), (2, .ref 111), (1, .ref 0), (0, .float 4)]) (st2 := []) (w3 := w) rfl rfl (lc18 hl hn hI hL kk)
        | 19, _ => exact sx_RP.step (pc2 := 821) (ls2 := [(3, .int (nI i)), (2, .ref 111), (1, .ref 0), (0, .float 4)]) (st2 := []) (w3 := w) rfl rfl (lc19 hl hn hI hL kk)
        | 20, _ => exact sx_RP.step (pc2 := 844) (ls2 := [(3, .int (nI i)), (2, .ref 111), (1, .ref 0), (0, .float 4)]) (st2 := []) (w3 := w) rfl rfl (lc20 hl hn hI hL kk)
        | 21, _ => exact sx_RP.step (pc2 := 877) (ls2 := [(3, .int (nI i)), (2, .ref 111), (1, .ref 0), (0, .float 4)]) (st2 := []) (w3 := w) rfl rfl (lc21 hl hn hI hL kk)
        | 22, _ => exact sx_RP.step (pc2 := 900) (ls2 := [(3, .int (nI i)), (2, .ref 111), (1, .ref 0), (0, .float 4)]) (st2 := []) (w3 := w) rfl rfl (lc22 hl hn hI hL kk)
        | 23, _ => exact sx_RP.step (pc2 := 933) (ls2 := [(3, .int (nI i)), (2, .ref 111), (1, .ref 0), (0, .float 4)]) (st2 := []) (w3 := w) rfl rfl (lc23 hl hn hI hL kk)
        | 24, _ => exact sx_RP.step (pc2 := 956) (ls2 := [(3, .int (nI i)), (2, .ref 111), (1, .ref 0), (0, .float 4)]) (st2 := []) (w3 := w) rfl rfl (lc24 hl hn hI hL kk)
        | 25, _ => exact sx_RP.step (pc2 := 979) (ls2 := [(3, .int (nI i)), (2, .ref 111), (1, .ref 0), (0, .float 4)]) (st2 := []) (w3 := w) rfl rfl (lc25 hl hn hI hL kk)
        | 26, _ => exact sx_RP.step (pc2 := 1012) (ls2 := [(3, .int (nI i)), (2, .ref 111), (1, .ref 0), (0, .float 4)]) (st2 := []) (w3 := w) rfl rfl (lc26 hl hn hI hL kk)
        | 27, _ => exact sx_RP.step (pc2 := 1045) (ls2 := [(3, .int (nI i)), (2, .ref 111), (1, .ref 0), (0, .float 4)]) (st2 := []) (w3 := w) rfl rfl (lc27 hl hn hI hL kk)
        | 28, _ => exact sx_RP.step (pc2 := 1068) (ls2 := [(3, .int (nI i)), (2, .ref 111), (1, .ref 0), (0, .float 4)]) (st2 := []) (w3 := w) rfl rfl (lc28 hl hn hI hL kk)
        | 29, _ => exact sx_RP.step (pc2 := 1101) (ls2 := [(3, .int (nI i)), (2, .ref 111), (1, .ref 0), (0, .float 4)]) (st2 := []) (w3 := w) rfl rfl (lc29 hl hn hI hL kk)
        | 30, _ => exact sx_RP.step (pc2 := 1114) (ls2 := [(3, .int (nI i)), (2, .ref 111), (1, .ref 0), (0, .float 4)]) (st2 := []) (w3 := w) rfl rfl (lc30 hl hn hI hL kk)
        | 31, _ => exact sx_RP.step (pc2 := 1137) (ls2 := [(3, .int (nI i)), (2, .ref 111), (1, .ref 0), (0, .float 4)]) (st2 := []) (w3 := w) rfl rfl (lc31 hl hn hI hL kk)
        | 32, _ => exact sx_RP.step (pc2 := 1170) (ls2 := [(3, .int (nI i)), (2, .ref 111), (1, .ref 0), (0, .float 4)]) (st2 := []) (w3 := w) rfl rfl (lc32 hl hn hI hL kk)
        | 33, _ => exact sx_RP.step (pc2 := 1183) (ls2 := [(3, .int (nI i)), (2, .ref 111), (1, .ref 0), (0, .float 4)]) (st2 := []) (w3 := w) rfl rfl (lc33 hl hn hI hL kk)
        | 34, _ => exact sx_RP.step (pc2 := 1196) (ls2 := [(3, .int (nI i)), (2, .ref 111), (1, .ref 0), (0, .float 4)]) (st2 := []) (w3 := w) rfl rfl (lc34 hl hn hI hL kk)
        | 35, _ => exact sx_RP.step (pc2 := 1239) (ls2 := [(3, .int (nI i)), (2, .ref 111), (1, .ref 0), (0, .float 4)]) (st2 := []) (w3 := w) rfl rfl (lc35 hl hn hI hL kk)
        | 36, _ => exact sx_RP.step (pc2 := 1312) (ls2 := [(3, .int (nI i)), (2, .ref 111), (1, .ref 0), (0, .float 4)]) (st2 := []) (w3 := w) rfl rfl (lc36 hl hn hI hL kk)
        | 37, _ => exact sx_RP.step (pc2 := 1375) (ls2 := [(3, .int (nI i)), (2, .ref 111), (1, .ref 0), (0, .float 4)]) (st2 := []) (w3 := w) rfl rfl (lc37 hl hn hI hL kk)
        | 38, _ => exact sx_RP.step (pc2 := 1408) (ls2 := [(3, .int (nI i)), (2, .ref 111), (1, .ref 0), (0, .float 4)]) (st2 := []) (w3 := w) rfl rfl (lc38 hl hn hI hL kk)
        | 39, _ => exact sx_RP.step (pc2 := 1431) (ls2 := [(3, .int (nI i)), (2, .ref 111), (1, .ref 0), (0, .float 4)]) (st2 := []) (w3 := w) rfl rfl (lc39 hl hn hI hL kk)
        | 40, _ => exact sx_RP.step (pc2 := 1454) (ls2 := [(3, .int (nI i)), (2, .ref 111), (1, .ref 0), (0, .float 4)]) (st2 := []) (w3 := w) rfl rfl (lc40 hl hn hI hL kk)
        | 41, _ => exact sx_RP.step (pc2 := 1467) (ls2 := [(3, .int (nI i)), (2, .ref 111), (1, .ref 0), (0, .float 4)]) (st2 := []) (w3 := w) rfl rfl (lc41 hl hn hI hL kk)
        | 42, _ => exact sx_RP.step (pc2 := 1480) (ls2 := [(3, .int (nI i)), (2, .ref 111), (1, .ref 0), (0, .float 4)]) (st2 := []) (w3 := w) rfl rfl (lc42 hl hn hI hL kk)
        | 43, _ => exact sx_RP.step (pc2 := 1493) (ls2 := [(3, .int (nI i)), (2, .ref 111), (1, .ref 0), (0, .float 4)]) (st2 := []) (w3 := w) rfl rfl (lc43 hl hn hI hL kk)
        | 44, _ => exact sx_RP.step (pc2 := 1516) (ls2 := [(3, .int (nI i)), (2, .ref 111), (1, .ref 0), (0, .float 4)]) (st2 := []) (w3 := w) rfl rfl (lc44 hl hn hI hL kk)
        | j + 45, hj => exact absurd hj (by omega)
theorem w0_by : allb 126 (fun a => match (sx_w0[a]? : Option sx_C) with
  | some (.inl (2, l)) => l.all (fun v => decide (v = 0))
  | _ => true) = true := by decide +kernel
theorem w0_gr : allb 48 (fun c => decide ((ia sx_w0 (1 + 1)).getD c 0 = (ia sx_w0 112).getD (7 + c) 0)) = true := by decide +kernel
theorem w0_wl : allb 64 (fun c => decide (wbt (fj sx_w0 1 1) c = wlr (ia sx_w0 112) c)) = true := by decide +kernel
theorem w0_n1 : iN ((ia sx_w0 112).getD 1 0) = 0 := by decide +kernel
theorem w0_n2 : iN ((ia sx_w0 112).getD 2 0) = 0 := by decide +kernel
theorem w0_rel : rel sx_w0 1 (ia sx_w0 112) := ⟨by decide +kernel, ⟨by decide +kernel, by decide +kernel, by decide +kernel, by decide +kernel, by decide +kernel, by decide +kernel, by decide +kernel⟩, fun c hc => of_decide_eq_true (allb_ok w0_gr hc), fun c hc => of_decide_eq_true (allb_ok w0_wl hc), fun i hi => absurd hi (by rw [w0_n1]; omega), fun d hd => absurd hd (by rw [w0_n2]; omega)⟩
theorem w0_f4 : allb 4 (fun s => decide ((fi sx_w0 (103 + 2 * s) 1, fi sx_w0 (103 + 2 * s) 2) = ((ia sx_w0 122).getD s 0, (ia sx_w0 123).getD s 0))) = true := by decide +kernel
theorem w0_FCs : FCs sx_w0 = FMs sx_w0 := by
  funext s
  unfold FCs FMs
  by_cases h : s < 4
  · rw [if_pos h, if_pos h]
    exact of_decide_eq_true (allb_ok w0_f4 h)
  · rw [if_neg h, if_neg h]
theorem w0_n4 : allb 160 (fun k => decide ((ja sx_w0 (104 + 2 * (k / 40))).getD (k % 40) 0 = (ja sx_w0 124).getD k 0)) = true := by decide +kernel
theorem w0_NCs : NCs sx_w0 = NMs sx_w0 := by
  funext s i
  unfold NCs NMs
  by_cases h : s < 4 ∧ i < 40
  · rw [if_pos h, if_pos h]
    have z := of_decide_eq_true (allb_ok w0_n4 (k := 40 * s + i) (by omega))
    rw [show (40 * s + i) / 40 = s by omega, show (40 * s + i) % 40 = i by omega] at z
    exact z
  · rw [if_neg h, if_neg h]
theorem w0_k : allb 48 (fun t => decide ((ia sx_w0 95).getD t 0 = 0)) = true := by decide +kernel
theorem w0_SK : SK sx_w0 := fun _ t ht hk => absurd (of_decide_eq_true (allb_ok w0_k ht)) hk
theorem w0_LI : LI sx_w0 := by
  refine ⟨(ia sx_w0 112, fi sx_w0 111 4, ia sx_w0 113, tapM sx_w0, FMs sx_w0, NMs sx_w0), ⟨⟨w0_rel, by decide +kernel, fun z => absurd (show fi sx_w0 111 4 = 1 from z) (by decide +kernel)⟩, ⟨show tapC sx_w0 = tapM sx_w0 by decide +kernel, w0_FCs, w0_NCs⟩, w0_SK⟩, ⟨⟨rfl, rfl, fun _ => rfl⟩, rfl, rfl, rfl⟩, ?_⟩
  intro a l hl v hv
  have hlt : a < 126 := by
    have := (List.getElem?_eq_some_iff.mp hl).1
    rw [sx_w0_len] at this
    exact this
  have h := allb_ok w0_by hlt
  rw [hl] at h
  have h2 := List.all_eq_true.mp h v hv
  exact ⟨0, by decide, (of_decide_eq_true h2).trans sgn_0.symm⟩
theorem sx_law : sx_LAW := by
  intro ys hy
  obtain ⟨r, w2, h, rfl⟩ := law_loop hy ys.length 0 sx_w0 (Nat.zero_le _) (by omega) w0_WI w0_LI
  exact ⟨w2, h⟩
end
