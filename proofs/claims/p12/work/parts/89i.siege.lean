-- bread, words at hand
def gwT (n : Nat) (X : Nat → Nat) (p : Nat) : Int32 := if wdT n X p 102 = true then 0 else (if wdT n X p 113 = true then 1 else (if wdT n X p 112 = true then 2 else (if wdT n X p 118 = true then 3 else (if wdT n X p 117 = true then 4 else (-1)))))
def kwT (n : Nat) (X : Nat → Nat) (p : Nat) : Int32 := if wdT n X p 106 = true then 0 else (if wdT n X p 110 = true then 1 else (if wdT n X p 114 = true then 2 else (if wdT n X p 107 = true then 3 else (if wdT n X p 105 = true then 4 else (if wdT n X p 103 = true then 5 else (-1))))))
set_option maxRecDepth 20000 in
set_option maxHeartbeats 4000000 in
theorem x99 {xs : Option (List Int32)} {d : Nat} {w : List sx_C} (hI : WI w) {n p : Nat} {X : Nat → Nat} (hC : CT n X w) (hT : TK' n X p w) (hp : p ≤ n) : sx_RU xs (d + 1) 99 0 (lv_args 0 [.ref 96]) [] w (some (.int (gwT n X p))) w := by
  have h : sx_RP xs (d + 1) 99 0 (lv_args 0 [.ref 96]) [] w (fun r9 w2 => r9 = some (.int (gwT n X p)) ∧ w2 = w) := by
    refine sx_RP.step (pc2 := 1) (ls2 := [(0, .ref 96)]) (st2 := [.int 0]) (w3 := w) rfl rfl ?_
    refine sx_RP.step (pc2 := 2) (ls2 := [(1, .int 0), (0, .ref 96)]) (st2 := []) (w3 := w) rfl rfl ?_
    refine sx_RP.step (pc2 := 3) (ls2 := [(1, .int 0), (0, .ref 96)]) (st2 := [.int 0]) (w3 := w) rfl rfl ?_
    refine sx_RP.step (pc2 := 4) (ls2 := [(1, .int 0), (0, .ref 96)]) (st2 := [.int 5, .int 0]) (w3 := w) rfl rfl ?_
    refine sx_RP.step (pc2 := 7) (ls2 := [(1, .int 0), (0, .ref 96)]) (st2 := []) (w3 := w) rfl rfl ?_
    refine sx_RP.step (pc2 := 8) (ls2 := [(1, .int 0), (0, .ref 96)]) (st2 := [.ref 96]) (w3 := w) rfl rfl ?_
    refine sx_RP.step (pc2 := 9) (ls2 := [(1, .int 0), (0, .ref 96)]) (st2 := [.int 0, .ref 96]) (w3 := w) rfl rfl ?_
    refine sx_RP.cu (as := [.int 0]) (rest2 := [.ref 96]) (st3 := [.float 102, .ref 96]) rfl rfl rfl rfl rfl (p100_0) rfl ?_
    rcases Bool.eq_false_or_eq_true (wdT n X p (102 : UInt32)) with c1 | c1
    · refine sx_RP.cu (as := [.ref 96, .float 102]) (rest2 := []) (st3 := [.int 1]) rfl rfl (sx_inv_v2 (mi := 99) (k := 52) (st := [.float 102, .ref 96]) (w := w) rfl rfl hI.1.o96 rfl rfl rfl) rfl rfl (x101t (k := (102 : UInt32)) (m := 4) hI hC hT hp (by decide) rfl (by decide) c1) rfl ?_
      refine sx_RP.step (pc2 := 18) (ls2 := [(1, .int 0), (0, .ref 96)]) (st2 := []) (w3 := w) rfl rfl ?_
      refine sx_RP.step (pc2 := 19) (ls2 := [(1, .int 0), (0, .ref 96)]) (st2 := [.int 0]) (w3 := w) rfl rfl ?_
      refine sx_RP.ret (r := (some (.int 0))) rfl rfl ?_
      exact ⟨by unfold gwT; rw [if_pos c1], rfl⟩
    · refine sx_RP.cu (as := [.ref 96, .float 102]) (rest2 := []) (st3 := [.int 0]) rfl rfl (sx_inv_v2 (mi := 99) (k := 52) (st := [.float 102, .ref 96]) (w := w) rfl rfl hI.1.o96 rfl rfl rfl) rfl rfl (x101f (k := (102 : UInt32)) (m := 4) hI hC hT hp (by decide) rfl (by decide) c1) rfl ?_
      refine sx_RP.step (pc2 := 20) (ls2 := [(1, .int 0), (0, .ref 96)]) (st2 := []) (w3 := w) rfl rfl ?_
      refine sx_RP.step (pc2 := 23) (ls2 := [(1, .int 1), (0, .ref 96)]) (st2 := []) (w3 := w) rfl rfl ?_
      refine sx_RP.step (pc2 := 2) (ls2 := [(1, .int 1), (0, .ref 96)]) (st2 := []) (w3 := w) rfl rfl ?_
      refine sx_RP.step (pc2 := 3) (ls2 := [(1, .int 1), (0, .ref 96)]) (st2 := [.int 1]) (w3 := w) rfl rfl ?_
      refine sx_RP.step (pc2 := 4) (ls2 := [(1, .int 1), (0, .ref 96)]) (st2 := [.int 5, .int 1]) (w3 := w) rfl rfl ?_
      refine sx_RP.step (pc2 := 7) (ls2 := [(1, .int 1), (0, .ref 96)]) (st2 := []) (w3 := w) rfl rfl ?_
      refine sx_RP.step (pc2 := 8) (ls2 := [(1, .int 1), (0, .ref 96)]) (st2 := [.ref 96]) (w3 := w) rfl rfl ?_
      refine sx_RP.step (pc2 := 9) (ls2 := [(1, .int 1), (0, .ref 96)]) (st2 := [.int 1, .ref 96]) (w3 := w) rfl rfl ?_
      refine sx_RP.cu (as := [.int 1]) (rest2 := [.ref 96]) (st3 := [.float 113, .ref 96]) rfl rfl rfl rfl rfl (p100_1) rfl ?_
      rcases Bool.eq_false_or_eq_true (wdT n X p (113 : UInt32)) with c2 | c2
      · refine sx_RP.cu (as := [.ref 96, .float 113]) (rest2 := []) (st3 := [.int 1]) rfl rfl (sx_inv_v2 (mi := 99) (k := 52) (st := [.float 113, .ref 96]) (w := w) rfl rfl hI.1.o96 rfl rfl rfl) rfl rfl (x101t (k := (113 : UInt32)) (m := 4) hI hC hT hp (by decide) rfl (by decide) c2) rfl ?_
        refine sx_RP.step (pc2 := 18) (ls2 := [(1, .int 1), (0, .ref 96)]) (st2 := []) (w3 := w) rfl rfl ?_
        refine sx_RP.step (pc2 := 19) (ls2 := [(1, .int 1), (0, .ref 96)]) (st2 := [.int 1]) (w3 := w) rfl rfl ?_
        refine sx_RP.ret (r := (some (.int 1))) rfl rfl ?_
        exact ⟨by unfold gwT; rw [if_neg (by rw [c1]; decide), if_pos c2], rfl⟩
      · refine sx_RP.cu (as := [.ref 96, .float 113]) (rest2 := []) (st3 := [.int 0]) rfl rfl (sx_inv_v2 (mi := 99) (k := 52) (st := [.float 113, .ref 96]) (w := w) rfl rfl hI.1.o96 rfl rfl rfl) rfl rfl (x101f (k := (113 : UInt32)) (m := 4) hI hC hT hp (by decide) rfl (by decide) c2) rfl ?_
        refine sx_RP.step (pc2 := 20) (ls2 := [(1, .int 1), (0, .ref 96)]) (st2 := []) (w3 := w) rfl rfl ?_
        refine sx_RP.step (pc2 := 23) (ls2 := [(1, .int 2), (0, .ref 96)]) (st2 := []) (w3 := w) rfl rfl ?_
        refine sx_RP.step (pc2 := 2) (ls2 := [(1, .int 2), (0, .ref 96)]) (st2 := []) (w3 := w) rfl rfl ?_
        refine sx_RP.step (pc2 := 3) (ls2 := [(1, .int 2), (0, .ref 96)]) (st2 := [.int 2]) (w3 := w) rfl rfl ?_
        refine sx_RP.step (pc2 := 4) (ls2 := [(1, .int 2), (0, .ref 96)]) (st2 := [.int 5, .int 2]) (w3 := w) rfl rfl ?_
        refine sx_RP.step (pc2 := 7) (ls2 := [(1, .int 2), (0, .ref 96)]) (st2 := []) (w3 := w) rfl rfl ?_
        refine sx_RP.step (pc2 := 8) (ls2 := [(1, .int 2), (0, .ref 96)]) (st2 := [.ref 96]) (w3 := w) rfl rfl ?_
        refine sx_RP.step (pc2 := 9) (ls2 := [(1, .int 2), (0, .ref 96)]) (st2 := [.int 2, .ref 96]) (w3 := w) rfl rfl ?_
        refine sx_RP.cu (as := [.int 2]) (rest2 := [.ref 96]) (st3 := [.float 112, .ref 96]) rfl rfl rfl rfl rfl (p100_2) rfl ?_
        rcases Bool.eq_false_or_eq_true (wdT n X p (112 : UInt32)) with c3 | c3
        · refine sx_RP.cu (as := [.ref 96, .float 112]) (rest2 := []) (st3 := [.int 1]) rfl rfl (sx_inv_v2 (mi := 99) (k := 52) (st := [.float 112, .ref 96]) (w := w) rfl rfl hI.1.o96 rfl rfl rfl) rfl rfl (x101t (k := (112 : UInt32)) (m := 4) hI hC hT hp (by decide) rfl (by decide) c3) rfl ?_
          refine sx_RP.step (pc2 := 18) (ls2 := [(1, .int 2), (0, .ref 96)]) (st2 := []) (w3 := w) rfl rfl ?_
          refine sx_RP.step (pc2 := 19) (ls2 := [(1, .int 2), (0, .ref 96)]) (st2 := [.int 2]) (w3 := w) rfl rfl ?_
          refine sx_RP.ret (r := (some (.int 2))) rfl rfl ?_
          exact ⟨by unfold gwT; rw [if_neg (by rw [c1]; decide), if_neg (by rw [c2]; decide), if_pos c3], rfl⟩
        · refine sx_RP.cu (as := [.ref 96, .float 112]) (rest2 := []) (st3 := [.int 0]) rfl rfl (sx_inv_v2 (mi := 99) (k := 52) (st := [.float 112, .ref 96]) (w := w) rfl rfl hI.1.o96 rfl rfl rfl) rfl rfl (x101f (k := (112 : UInt32)) (m := 4) hI hC hT hp (by decide) rfl (by decide) c3) rfl ?_
          refine sx_RP.step (pc2 := 20) (ls2 := [(1, .int 2), (0, .ref 96)]) (st2 := []) (w3 := w) rfl rfl ?_
          refine sx_RP.step (pc2 := 23) (ls2 := [(1, .int 3), (0, .ref 96)]) (st2 := []) (w3 := w) rfl rfl ?_
          refine sx_RP.step (pc2 := 2) (ls2 := [(1, .int 3), (0, .ref 96)]) (st2 := []) (w3 := w) rfl rfl ?_
          refine sx_RP.step (pc2 := 3) (ls2 := [(1, .int 3), (0, .ref 96)]) (st2 := [.int 3]) (w3 := w) rfl rfl ?_
          refine sx_RP.step (pc2 := 4) (ls2 := [(1, .int 3), (0, .ref 96)]) (st2 := [.int 5, .int 3]) (w3 := w) rfl rfl ?_
          refine sx_RP.step (pc2 := 7) (ls2 := [(1, .int 3), (0, .ref 96)]) (st2 := []) (w3 := w) rfl rfl ?_
          refine sx_RP.step (pc2 := 8) (ls2 := [(1, .int 3), (0, .ref 96)]) (st2 := [.ref 96]) (w3 := w) rfl rfl ?_
          refine sx_RP.step (pc2 := 9) (ls2 := [(1, .int 3), (0, .ref 96)]) (st2 := [.int 3, .ref 96]) (w3 := w) rfl rfl ?_
          refine sx_RP.cu (as := [.int 3]) (rest2 := [.ref 96]) (st3 := [.float 118, .ref 96]) rfl rfl rfl rfl rfl (p100_3) rfl ?_
          rcases Bool.eq_false_or_eq_true (wdT n X p (118 : UInt32)) with c4 | c4
          · refine sx_RP.cu (as := [.ref 96, .float 118]) (rest2 := []) (st3 := [.int 1]) rfl rfl (sx_inv_v2 (mi := 99) (k := 52) (st := [.float 118, .ref 96]) (w := w) rfl rfl hI.1.o96 rfl rfl rfl) rfl rfl (x101t (k := (118 : UInt32)) (m := 5) hI hC hT hp (by decide) rfl (by decide) c4) rfl ?_
            refine sx_RP.step (pc2 := 18) (ls2 := [(1, .int 3), (0, .ref 96)]) (st2 := []) (w3 := w) rfl rfl ?_
            refine sx_RP.step (pc2 := 19) (ls2 := [(1, .int 3), (0, .ref 96)]) (st2 := [.int 3]) (w3 := w) rfl rfl ?_
            refine sx_RP.ret (r := (some (.int 3))) rfl rfl ?_
            exact ⟨by unfold gwT; rw [if_neg (by rw [c1]; decide), if_neg (by rw [c2]; decide), if_neg (by rw [c3]; decide), if_pos c4], rfl⟩
          · refine sx_RP.cu (as := [.ref 96, .float 118]) (rest2 := []) (st3 := [.int 0]) rfl rfl (sx_inv_v2 (mi := 99) (k := 52) (st := [.float 118, .ref 96]) (w := w) rfl rfl hI.1.o96 rfl rfl rfl) rfl rfl (x101f (k := (118 : UInt32)) (m := 5) hI hC hT hp (by decide) rfl (by decide) c4) rfl ?_
            refine sx_RP.step (pc2 := 20) (ls2 := [(1, .int 3), (0, .ref 96)]) (st2 := []) (w3 := w) rfl rfl ?_
            refine sx_RP.step (pc2 := 23) (ls2 := [(1, .int 4), (0, .ref 96)]) (st2 := []) (w3 := w) rfl rfl ?_
            refine sx_RP.step (pc2 := 2) (ls2 := [(1, .int 4), (0, .ref 96)]) (st2 := []) (w3 := w) rfl rfl ?_
            refine sx_RP.step (pc2 := 3) (ls2 := [(1, .int 4), (0, .ref 96)]) (st2 := [.int 4]) (w3 := w) rfl rfl ?_
            refine sx_RP.step (pc2 := 4) (ls2 := [(1, .int 4), (0, .ref 96)]) (st2 := [.int 5, .int 4]) (w3 := w) rfl rfl ?_
            refine sx_RP.step (pc2 := 7) (ls2 := [(1, .int 4), (0, .ref 96)]) (st2 := []) (w3 := w) rfl rfl ?_
            refine sx_RP.step (pc2 := 8) (ls2 := [(1, .int 4), (0, .ref 96)]) (st2 := [.ref 96]) (w3 := w) rfl rfl ?_
            refine sx_RP.step (pc2 := 9) (ls2 := [(1, .int 4), (0, .ref 96)]) (st2 := [.int 4, .ref 96]) (w3 := w) rfl rfl ?_
            refine sx_RP.cu (as := [.int 4]) (rest2 := [.ref 96]) (st3 := [.float 117, .ref 96]) rfl rfl rfl rfl rfl (p100_4) rfl ?_
            rcases Bool.eq_false_or_eq_true (wdT n X p (117 : UInt32)) with c5 | c5
            · refine sx_RP.cu (as := [.ref 96, .float 117]) (rest2 := []) (st3 := [.int 1]) rfl rfl (sx_inv_v2 (mi := 99) (k := 52) (st := [.float 117, .ref 96]) (w := w) rfl rfl hI.1.o96 rfl rfl rfl) rfl rfl (x101t (k := (117 : UInt32)) (m := 4) hI hC hT hp (by decide) rfl (by decide) c5) rfl ?_
              refine sx_RP.step (pc2 := 18) (ls2 := [(1, .int 4), (0, .ref 96)]) (st2 := []) (w3 := w) rfl rfl ?_
              refine sx_RP.step (pc2 := 19) (ls2 := [(1, .int 4), (0, .ref 96)]) (st2 := [.int 4]) (w3 := w) rfl rfl ?_
              refine sx_RP.ret (r := (some (.int 4))) rfl rfl ?_
              exact ⟨by unfold gwT; rw [if_neg (by rw [c1]; decide), if_neg (by rw [c2]; decide), if_neg (by rw [c3]; decide), if_neg (by rw [c4]; decide), if_pos c5], rfl⟩
            · refine sx_RP.cu (as := [.ref 96, .float 117]) (rest2 := []) (st3 := [.int 0]) rfl rfl (sx_inv_v2 (mi := 99) (k := 52) (st := [.float 117, .ref 96]) (w := w) rfl rfl hI.1.o96 rfl rfl rfl) rfl rfl (x101f (k := (117 : UInt32)) (m := 4) hI hC hT hp (by decide) rfl (by decide) c5) rfl ?_
              refine sx_RP.step (pc2 := 20) (ls2 := [(1, .int 4), (0, .ref 96)]) (st2 := []) (w3 := w) rfl rfl ?_
              refine sx_RP.step (pc2 := 23) (ls2 := [(1, .int 5), (0, .ref 96)]) (st2 := []) (w3 := w) rfl rfl ?_
              refine sx_RP.step (pc2 := 2) (ls2 := [(1, .int 5), (0, .ref 96)]) (st2 := []) (w3 := w) rfl rfl ?_
              refine sx_RP.step (pc2 := 3) (ls2 := [(1, .int 5), (0, .ref 96)]) (st2 := [.int 5]) (w3 := w) rfl rfl ?_
              refine sx_RP.step (pc2 := 4) (ls2 := [(1, .int 5), (0, .ref 96)]) (st2 := [.int 5, .int 5]) (w3 := w) rfl rfl ?_
              refine sx_RP.step (pc2 := 26) (ls2 := [(1, .int 5), (0, .ref 96)]) (st2 := []) (w3 := w) rfl rfl ?_
              refine sx_RP.step (pc2 := 27) (ls2 := [(1, .int 5), (0, .ref 96)]) (st2 := [.int (-1)]) (w3 := w) rfl rfl ?_
              refine sx_RP.ret (r := (some (.int (-1)))) rfl rfl ?_
              exact ⟨by unfold gwT; rw [if_neg (by rw [c1]; decide), if_neg (by rw [c2]; decide), if_neg (by rw [c3]; decide), if_neg (by rw [c4]; decide), if_neg (by rw [c5]; decide)], rfl⟩
  obtain ⟨r9, w2, h1, rfl, rfl⟩ := h
  exact h1
set_option maxRecDepth 20000 in
set_option maxHeartbeats 4000000 in
theorem x105 {xs : Option (List Int32)} {d : Nat} {w : List sx_C} (hI : WI w) {n p : Nat} {X : Nat → Nat} (hC : CT n X w) (hT : TK' n X p w) (hp : p ≤ n) : sx_RU xs (d + 1) 105 0 (lv_args 0 [.ref 96]) [] w (some (.int (kwT n X p))) w := by
  have h : sx_RP xs (d + 1) 105 0 (lv_args 0 [.ref 96]) [] w (fun r9 w2 => r9 = some (.int (kwT n X p)) ∧ w2 = w) := by
    refine sx_RP.step (pc2 := 1) (ls2 := [(0, .ref 96)]) (st2 := [.int 0]) (w3 := w) rfl rfl ?_
    refine sx_RP.step (pc2 := 2) (ls2 := [(1, .int 0), (0, .ref 96)]) (st2 := []) (w3 := w) rfl rfl ?_
    refine sx_RP.step (pc2 := 3) (ls2 := [(1, .int 0), (0, .ref 96)]) (st2 := [.int 0]) (w3 := w) rfl rfl ?_
    refine sx_RP.step (pc2 := 5) (ls2 := [(1, .int 0), (0, .ref 96)]) (st2 := [.int 6, .int 0]) (w3 := w) rfl rfl ?_
    refine sx_RP.step (pc2 := 8) (ls2 := [(1, .int 0), (0, .ref 96)]) (st2 := []) (w3 := w) rfl rfl ?_
    refine sx_RP.step (pc2 := 9) (ls2 := [(1, .int 0), (0, .ref 96)]) (st2 := [.ref 96]) (w3 := w) rfl rfl ?_
    refine sx_RP.step (pc2 := 10) (ls2 := [(1, .int 0), (0, .ref 96)]) (st2 := [.int 0, .ref 96]) (w3 := w) rfl rfl ?_
    refine sx_RP.cu (as := [.int 0]) (rest2 := [.ref 96]) (st3 := [.float 106, .ref 96]) rfl rfl rfl rfl rfl (p106_0) rfl ?_
    rcases Bool.eq_false_or_eq_true (wdT n X p (106 : UInt32)) with c1 | c1
    · refine sx_RP.cu (as := [.ref 96, .float 106]) (rest2 := []) (st3 := [.int 1]) rfl rfl (sx_inv_v2 (mi := 105) (k := 52) (st := [.float 106, .ref 96]) (w := w) rfl rfl hI.1.o96 rfl rfl rfl) rfl rfl (x101t (k := (106 : UInt32)) (m := 7) hI hC hT hp (by decide) rfl (by decide) c1) rfl ?_
      refine sx_RP.step (pc2 := 19) (ls2 := [(1, .int 0), (0, .ref 96)]) (st2 := []) (w3 := w) rfl rfl ?_
      refine sx_RP.step (pc2 := 20) (ls2 := [(1, .int 0), (0, .ref 96)]) (st2 := [.int 0]) (w3 := w) rfl rfl ?_
      refine sx_RP.ret (r := (some (.int 0))) rfl rfl ?_
      exact ⟨by unfold kwT; rw [if_pos c1], rfl⟩
    · refine sx_RP.cu (as := [.ref 96, .float 106]) (rest2 := []) (st3 := [.int 0]) rfl rfl (sx_inv_v2 (mi := 105) (k := 52) (st := [.float 106, .ref 96]) (w := w) rfl rfl hI.1.o96 rfl rfl rfl) rfl rfl (x101f (k := (106 : UInt32)) (m := 7) hI hC hT hp (by decide) rfl (by decide) c1) rfl ?_
      refine sx_RP.step (pc2 := 21) (ls2 := [(1, .int 0), (0, .ref 96)]) (st2 := []) (w3 := w) rfl rfl ?_
      refine sx_RP.step (pc2 := 24) (ls2 := [(1, .int 1), (0, .ref 96)]) (st2 := []) (w3 := w) rfl rfl ?_
      refine sx_RP.step (pc2 := 2) (ls2 := [(1, .int 1), (0, .ref 96)]) (st2 := []) (w3 := w) rfl rfl ?_
      refine sx_RP.step (pc2 := 3) (ls2 := [(1, .int 1), (0, .ref 96)]) (st2 := [.int 1]) (w3 := w) rfl rfl ?_
      refine sx_RP.step (pc2 := 5) (ls2 := [(1, .int 1), (0, .ref 96)]) (st2 := [.int 6, .int 1]) (w3 := w) rfl rfl ?_
      refine sx_RP.step (pc2 := 8) (ls2 := [(1, .int 1), (0, .ref 96)]) (st2 := []) (w3 := w) rfl rfl ?_
      refine sx_RP.step (pc2 := 9) (ls2 := [(1, .int 1), (0, .ref 96)]) (st2 := [.ref 96]) (w3 := w) rfl rfl ?_
      refine sx_RP.step (pc2 := 10) (ls2 := [(1, .int 1), (0, .ref 96)]) (st2 := [.int 1, .ref 96]) (w3 := w) rfl rfl ?_
      refine sx_RP.cu (as := [.int 1]) (rest2 := [.ref 96]) (st3 := [.float 110, .ref 96]) rfl rfl rfl rfl rfl (p106_1) rfl ?_
      rcases Bool.eq_false_or_eq_true (wdT n X p (110 : UInt32)) with c2 | c2
      · refine sx_RP.cu (as := [.ref 96, .float 110]) (rest2 := []) (st3 := [.int 1]) rfl rfl (sx_inv_v2 (mi := 105) (k := 52) (st := [.float 110, .ref 96]) (w := w) rfl rfl hI.1.o96 rfl rfl rfl) rfl rfl (x101t (k := (110 : UInt32)) (m := 7) hI hC hT hp (by decide) rfl (by decide) c2) rfl ?_
        refine sx_RP.step (pc2 := 19) (ls2 := [(1, .int 1), (0, .ref 96)]) (st2 := []) (w3 := w) rfl rfl ?_
        refine sx_RP.step (pc2 := 20) (ls2 := [(1, .int 1), (0, .ref 96)]) (st2 := [.int 1]) (w3 := w) rfl rfl ?_
        refine sx_RP.ret (r := (some (.int 1))) rfl rfl ?_
        exact ⟨by unfold kwT; rw [if_neg (by rw [c1]; decide), if_pos c2], rfl⟩
      · refine sx_RP.cu (as := [.ref 96, .float 110]) (rest2 := []) (st3 := [.int 0]) rfl rfl (sx_inv_v2 (mi := 105) (k := 52) (st := [.float 110, .ref 96]) (w := w) rfl rfl hI.1.o96 rfl rfl rfl) rfl rfl (x101f (k := (110 : UInt32)) (m := 7) hI hC hT hp (by decide) rfl (by decide) c2) rfl ?_
        refine sx_RP.step (pc2 := 21) (ls2 := [(1, .int 1), (0, .ref 96)]) (st2 := []) (w3 := w) rfl rfl ?_
        refine sx_RP.step (pc2 := 24) (ls2 := [(1, .int 2), (0, .ref 96)]) (st2 := []) (w3 := w) rfl rfl ?_
        refine sx_RP.step (pc2 := 2) (ls2 := [(1, .int 2), (0, .ref 96)]) (st2 := []) (w3 := w) rfl rfl ?_
        refine sx_RP.step (pc2 := 3) (ls2 := [(1, .int 2), (0, .ref 96)]) (st2 := [.int 2]) (w3 := w) rfl rfl ?_
        refine sx_RP.step (pc2 := 5) (ls2 := [(1, .int 2), (0, .ref 96)]) (st2 := [.int 6, .int 2]) (w3 := w) rfl rfl ?_
        refine sx_RP.step (pc2 := 8) (ls2 := [(1, .int 2), (0, .ref 96)]) (st2 := []) (w3 := w) rfl rfl ?_
        refine sx_RP.step (pc2 := 9) (ls2 := [(1, .int 2), (0, .ref 96)]) (st2 := [.ref 96]) (w3 := w) rfl rfl ?_
        refine sx_RP.step (pc2 := 10) (ls2 := [(1, .int 2), (0, .ref 96)]) (st2 := [.int 2, .ref 96]) (w3 := w) rfl rfl ?_
        refine sx_RP.cu (as := [.int 2]) (rest2 := [.ref 96]) (st3 := [.float 114, .ref 96]) rfl rfl rfl rfl rfl (p106_2) rfl ?_
        rcases Bool.eq_false_or_eq_true (wdT n X p (114 : UInt32)) with c3 | c3
        · refine sx_RP.cu (as := [.ref 96, .float 114]) (rest2 := []) (st3 := [.int 1]) rfl rfl (sx_inv_v2 (mi := 105) (k := 52) (st := [.float 114, .ref 96]) (w := w) rfl rfl hI.1.o96 rfl rfl rfl) rfl rfl (x101t (k := (114 : UInt32)) (m := 3) hI hC hT hp (by decide) rfl (by decide) c3) rfl ?_
          refine sx_RP.step (pc2 := 19) (ls2 := [(1, .int 2), (0, .ref 96)]) (st2 := []) (w3 := w) rfl rfl ?_
          refine sx_RP.step (pc2 := 20) (ls2 := [(1, .int 2), (0, .ref 96)]) (st2 := [.int 2]) (w3 := w) rfl rfl ?_
          refine sx_RP.ret (r := (some (.int 2))) rfl rfl ?_
          exact ⟨by unfold kwT; rw [if_neg (by rw [c1]; decide), if_neg (by rw [c2]; decide), if_pos c3], rfl⟩
        · refine sx_RP.cu (as := [.ref 96, .float 114]) (rest2 := []) (st3 := [.int 0]) rfl rfl (sx_inv_v2 (mi := 105) (k := 52) (st := [.float 114, .ref 96]) (w := w) rfl rfl hI.1.o96 rfl rfl rfl) rfl rfl (x101f (k := (114 : UInt32)) (m := 3) hI hC hT hp (by decide) rfl (by decide) c3) rfl ?_
          refine sx_RP.step (pc2 := 21) (ls2 := [(1, .int 2), (0, .ref 96)]) (st2 := []) (w3 := w) rfl rfl ?_
          refine sx_RP.step (pc2 := 24) (ls2 := [(1, .int 3), (0, .ref 96)]) (st2 := []) (w3 := w) rfl rfl ?_
          refine sx_RP.step (pc2 := 2) (ls2 := [(1, .int 3), (0, .ref 96)]) (st2 := []) (w3 := w) rfl rfl ?_
          refine sx_RP.step (pc2 := 3) (ls2 := [(1, .int 3), (0, .ref 96)]) (st2 := [.int 3]) (w3 := w) rfl rfl ?_
          refine sx_RP.step (pc2 := 5) (ls2 := [(1, .int 3), (0, .ref 96)]) (st2 := [.int 6, .int 3]) (w3 := w) rfl rfl ?_
          refine sx_RP.step (pc2 := 8) (ls2 := [(1, .int 3), (0, .ref 96)]) (st2 := []) (w3 := w) rfl rfl ?_
          refine sx_RP.step (pc2 := 9) (ls2 := [(1, .int 3), (0, .ref 96)]) (st2 := [.ref 96]) (w3 := w) rfl rfl ?_
          refine sx_RP.step (pc2 := 10) (ls2 := [(1, .int 3), (0, .ref 96)]) (st2 := [.int 3, .ref 96]) (w3 := w) rfl rfl ?_
          refine sx_RP.cu (as := [.int 3]) (rest2 := [.ref 96]) (st3 := [.float 107, .ref 96]) rfl rfl rfl rfl rfl (p106_3) rfl ?_
          rcases Bool.eq_false_or_eq_true (wdT n X p (107 : UInt32)) with c4 | c4
          · refine sx_RP.cu (as := [.ref 96, .float 107]) (rest2 := []) (st3 := [.int 1]) rfl rfl (sx_inv_v2 (mi := 105) (k := 52) (st := [.float 107, .ref 96]) (w := w) rfl rfl hI.1.o96 rfl rfl rfl) rfl rfl (x101t (k := (107 : UInt32)) (m := 4) hI hC hT hp (by decide) rfl (by decide) c4) rfl ?_
            refine sx_RP.step (pc2 := 19) (ls2 := [(1, .int 3), (0, .ref 96)]) (st2 := []) (w3 := w) rfl rfl ?_
            refine sx_RP.step (pc2 := 20) (ls2 := [(1, .int 3), (0, .ref 96)]) (st2 := [.int 3]) (w3 := w) rfl rfl ?_
            refine sx_RP.ret (r := (some (.int 3))) rfl rfl ?_
            exact ⟨by unfold kwT; rw [if_neg (by rw [c1]; decide), if_neg (by rw [c2]; decide), if_neg (by rw [c3]; decide), if_pos c4], rfl⟩
          · refine sx_RP.cu (as := [.ref 96, .float 107]) (rest2 := []) (st3 := [.int 0]) rfl rfl (sx_inv_v2 (mi := 105) (k := 52) (st := [.float 107, .ref 96]) (w := w) rfl rfl hI.1.o96 rfl rfl rfl) rfl rfl (x101f (k := (107 : UInt32)) (m := 4) hI hC hT hp (by decide) rfl (by decide) c4) rfl ?_
            refine sx_RP.step (pc2 := 21) (ls2 := [(1, .int 3), (0, .ref 96)]) (st2 := []) (w3 := w) rfl rfl ?_
            refine sx_RP.step (pc2 := 24) (ls2 := [(1, .int 4), (0, .ref 96)]) (st2 := []) (w3 := w) rfl rfl ?_
            refine sx_RP.step (pc2 := 2) (ls2 := [(1, .int 4), (0, .ref 96)]) (st2 := []) (w3 := w) rfl rfl ?_
            refine sx_RP.step (pc2 := 3) (ls2 := [(1, .int 4), (0, .ref 96)]) (st2 := [.int 4]) (w3 := w) rfl rfl ?_
            refine sx_RP.step (pc2 := 5) (ls2 := [(1, .int 4), (0, .ref 96)]) (st2 := [.int 6, .int 4]) (w3 := w) rfl rfl ?_
            refine sx_RP.step (pc2 := 8) (ls2 := [(1, .int 4), (0, .ref 96)]) (st2 := []) (w3 := w) rfl rfl ?_
            refine sx_RP.step (pc2 := 9) (ls2 := [(1, .int 4), (0, .ref 96)]) (st2 := [.ref 96]) (w3 := w) rfl rfl ?_
            refine sx_RP.step (pc2 := 10) (ls2 := [(1, .int 4), (0, .ref 96)]) (st2 := [.int 4, .ref 96]) (w3 := w) rfl rfl ?_
            refine sx_RP.cu (as := [.int 4]) (rest2 := [.ref 96]) (st3 := [.float 105, .ref 96]) rfl rfl rfl rfl rfl (p106_4) rfl ?_
            rcases Bool.eq_false_or_eq_true (wdT n X p (105 : UInt32)) with c5 | c5
            · refine sx_RP.cu (as := [.ref 96, .float 105]) (rest2 := []) (st3 := [.int 1]) rfl rfl (sx_inv_v2 (mi := 105) (k := 52) (st := [.float 105, .ref 96]) (w := w) rfl rfl hI.1.o96 rfl rfl rfl) rfl rfl (x101t (k := (105 : UInt32)) (m := 5) hI hC hT hp (by decide) rfl (by decide) c5) rfl ?_
              refine sx_RP.step (pc2 := 19) (ls2 := [(1, .int 4), (0, .ref 96)]) (st2 := []) (w3 := w) rfl rfl ?_
              refine sx_RP.step (pc2 := 20) (ls2 := [(1, .int 4), (0, .ref 96)]) (st2 := [.int 4]) (w3 := w) rfl rfl ?_
              refine sx_RP.ret (r := (some (.int 4))) rfl rfl ?_
              exact ⟨by unfold kwT; rw [if_neg (by rw [c1]; decide), if_neg (by rw [c2]; decide), if_neg (by rw [c3]; decide), if_neg (by rw [c4]; decide), if_pos c5], rfl⟩
            · refine sx_RP.cu (as := [.ref 96, .float 105]) (rest2 := []) (st3 := [.int 0]) rfl rfl (sx_inv_v2 (mi := 105) (k := 52) (st := [.float 105, .ref 96]) (w := w) rfl rfl hI.1.o96 rfl rfl rfl) rfl rfl (x101f (k := (105 : UInt32)) (m := 5) hI hC hT hp (by decide) rfl (by decide) c5) rfl ?_
              refine sx_RP.step (pc2 := 21) (ls2 := [(1, .int 4), (0, .ref 96)]) (st2 := []) (w3 := w) rfl rfl ?_
              refine sx_RP.step (pc2 := 24) (ls2 := [(1, .int 5), (0, .ref 96)]) (st2 := []) (w3 := w) rfl rfl ?_
              refine sx_RP.step (pc2 := 2) (ls2 := [(1, .int 5), (0, .ref 96)]) (st2 := []) (w3 := w) rfl rfl ?_
              refine sx_RP.step (pc2 := 3) (ls2 := [(1, .int 5), (0, .ref 96)]) (st2 := [.int 5]) (w3 := w) rfl rfl ?_
              refine sx_RP.step (pc2 := 5) (ls2 := [(1, .int 5), (0, .ref 96)]) (st2 := [.int 6, .int 5]) (w3 := w) rfl rfl ?_
              refine sx_RP.step (pc2 := 8) (ls2 := [(1, .int 5), (0, .ref 96)]) (st2 := []) (w3 := w) rfl rfl ?_
              refine sx_RP.step (pc2 := 9) (ls2 := [(1, .int 5), (0, .ref 96)]) (st2 := [.ref 96]) (w3 := w) rfl rfl ?_
              refine sx_RP.step (pc2 := 10) (ls2 := [(1, .int 5), (0, .ref 96)]) (st2 := [.int 5, .ref 96]) (w3 := w) rfl rfl ?_
              refine sx_RP.cu (as := [.int 5]) (rest2 := [.ref 96]) (st3 := [.float 103, .ref 96]) rfl rfl rfl rfl rfl (p106_5) rfl ?_
              rcases Bool.eq_false_or_eq_true (wdT n X p (103 : UInt32)) with c6 | c6
              · refine sx_RP.cu (as := [.ref 96, .float 103]) (rest2 := []) (st3 := [.int 1]) rfl rfl (sx_inv_v2 (mi := 105) (k := 52) (st := [.float 103, .ref 96]) (w := w) rfl rfl hI.1.o96 rfl rfl rfl) rfl rfl (x101t (k := (103 : UInt32)) (m := 4) hI hC hT hp (by decide) rfl (by decide) c6) rfl ?_
                refine sx_RP.step (pc2 := 19) (ls2 := [(1, .int 5), (0, .ref 96)]) (st2 := []) (w3 := w) rfl rfl ?_
                refine sx_RP.step (pc2 := 20) (ls2 := [(1, .int 5), (0, .ref 96)]) (st2 := [.int 5]) (w3 := w) rfl rfl ?_
                refine sx_RP.ret (r := (some (.int 5))) rfl rfl ?_
                exact ⟨by unfold kwT; rw [if_neg (by rw [c1]; decide), if_neg (by rw [c2]; decide), if_neg (by rw [c3]; decide), if_neg (by rw [c4]; decide), if_neg (by rw [c5]; decide), if_pos c6], rfl⟩
              · refine sx_RP.cu (as := [.ref 96, .float 103]) (rest2 := []) (st3 := [.int 0]) rfl rfl (sx_inv_v2 (mi := 105) (k := 52) (st := [.float 103, .ref 96]) (w := w) rfl rfl hI.1.o96 rfl rfl rfl) rfl rfl (x101f (k := (103 : UInt32)) (m := 4) hI hC hT hp (by decide) rfl (by decide) c6) rfl ?_
                refine sx_RP.step (pc2 := 21) (ls2 := [(1, .int 5), (0, .ref 96)]) (st2 := []) (w3 := w) rfl rfl ?_
                refine sx_RP.step (pc2 := 24) (ls2 := [(1, .int 6), (0, .ref 96)]) (st2 := []) (w3 := w) rfl rfl ?_
                refine sx_RP.step (pc2 := 2) (ls2 := [(1, .int 6), (0, .ref 96)]) (st2 := []) (w3 := w) rfl rfl ?_
                refine sx_RP.step (pc2 := 3) (ls2 := [(1, .int 6), (0, .ref 96)]) (st2 := [.int 6]) (w3 := w) rfl rfl ?_
                refine sx_RP.step (pc2 := 5) (ls2 := [(1, .int 6), (0, .ref 96)]) (st2 := [.int 6, .int 6]) (w3 := w) rfl rfl ?_
                refine sx_RP.step (pc2 := 27) (ls2 := [(1, .int 6), (0, .ref 96)]) (st2 := []) (w3 := w) rfl rfl ?_
                refine sx_RP.step (pc2 := 28) (ls2 := [(1, .int 6), (0, .ref 96)]) (st2 := [.int (-1)]) (w3 := w) rfl rfl ?_
                refine sx_RP.ret (r := (some (.int (-1)))) rfl rfl ?_
                exact ⟨by unfold kwT; rw [if_neg (by rw [c1]; decide), if_neg (by rw [c2]; decide), if_neg (by rw [c3]; decide), if_neg (by rw [c4]; decide), if_neg (by rw [c5]; decide), if_neg (by rw [c6]; decide)], rfl⟩
  obtain ⟨r9, w2, h1, rfl, rfl⟩ := h
  exact h1
def br2 (n : Nat) (X : Nat → Nat) (p : Nat) (b : BB) : Bool × Nat × BB := if wdT n X p 111 = true then (if (wtT n X p 111 1 99).1 = true then (true, nP n X (wtT n X p 111 1 99).2, setR (nI (vaT n X (wtT n X p 111 1 99).2)) b) else (false, (wtT n X p 111 1 99).2, b)) else (true, p, b)
def br1 (n : Nat) (X : Nat → Nat) (p : Nat) (b : BB) : Bool × Nat × BB := if wdT n X p 108 = true then (if (wtT n X p 108 1 999).1 = true then br2 n X (nP n X (wtT n X p 108 1 999).2) (setM (nI (vaT n X (wtT n X p 108 1 999).2)) b) else (false, (wtT n X p 108 1 999).2, b)) else br2 n X p b
def breT (n : Nat) (X : Nat → Nat) (p : Nat) (b : BB) : Bool × Nat × BB := if nmT n X (nP n X p) 0 999999 = true then br1 n X (nP n X (nP n X p)) (setO (nI (vaT n X (nP n X p))) b) else (false, nP n X p, b)
set_option maxRecDepth 20000 in
set_option maxHeartbeats 4000000 in
theorem X110 {xs : Option (List Int32)} {d : Nat} {w : List sx_C} (hI : WI w) {n p : Nat} {X : Nat → Nat} {b : BB} (hC : CT n X w) (hT : TK' n X p w) (hp : p ≤ n) (hB : campB w 29 = b) : sx_RP xs (d + 4) 110 0 (lv_args 0 [.ref 96, .ref 29]) [] w (fun r w2 => (r = some (.int (b01 (breT n X p b).1)) ∧ Rd n X (breT n X p b) w2) ∧ WI w2 ∧ CT n X w2 ∧ OffT w w2) := by
  refine sx_RP.step (pc2 := 1) (ls2 := [(0, .ref 96), (1, .ref 29)]) (st2 := [.ref 96]) (w3 := w) rfl rfl ?_
  refine sx_RP.callp (as2 := [.ref 96]) (rest2 := []) rfl rfl (sx_inv_v2 (mi := 110) (k := 29) (st := [.ref 96]) (w := w) rfl rfl hI.1.o96 rfl rfl rfl) rfl rfl rfl (X94 hI hC hT.2.2.1 (beT_le hp)) (show _ = 4 from rfl) ?_
  rintro r4 w4 ⟨⟨rfl, hT1, h12⟩, hI5, hs3⟩
  show sx_RP _ _ _ _ _ [] _ _
  have hT10 : TK' n X (nP n X p) w4 := hT1
  have hC6 := hC.same h12 (ia_of (hs3 97 (by decide)))
  have hp7 : nP n X p ≤ n := nP_le hp
  have hB8 := (campB_96 hI hs3).trans hB
  have hO9 := OffT.rf.tr hs3.offT
  refine sx_RP.step (pc2 := 5) (ls2 := [(0, .ref 96), (1, .ref 29)]) (st2 := [.ref 96]) (w3 := w4) rfl rfl ?_
  refine sx_RP.step (pc2 := 6) (ls2 := [(0, .ref 96), (1, .ref 29)]) (st2 := [.int 0, .ref 96]) (w3 := w4) rfl rfl ?_
  refine sx_RP.step (pc2 := 8) (ls2 := [(0, .ref 96), (1, .ref 29)]) (st2 := [.int 999999, .int 0, .ref 96]) (w3 := w4) rfl rfl ?_
  rcases Bool.eq_false_or_eq_true (nmT n X (nP n X p) 0 999999) with c11 | c11
  · refine sx_RP.cu (as := [.ref 96, .int 0, .int 999999]) (rest2 := []) (st3 := [.int 1]) rfl rfl (sx_inv_v2 (mi := 110) (k := 66) (st := [.int 999999, .int 0, .ref 96]) (w := w4) rfl rfl hI5.1.o96 rfl rfl rfl) rfl rfl (x103t (lo := 0) (hi := 999999) hI5 hC6 hT10 (by omega) (by omega) c11) rfl ?_
    refine sx_RP.step (pc2 := 16) (ls2 := [(0, .ref 96), (1, .ref 29)]) (st2 := []) (w3 := w4) rfl rfl ?_
    refine sx_RP.step (pc2 := 17) (ls2 := [(0, .ref 96), (1, .ref 29)]) (st2 := [.ref 29]) (w3 := w4) rfl rfl ?_
    refine sx_RP.step (pc2 := 18) (ls2 := [(0, .ref 96), (1, .ref 29)]) (st2 := [.ref 96, .ref 29]) (w3 := w4) rfl rfl ?_
    refine sx_RP.gt (k := 5) hI5 rfl rfl (by decide) (show _ = 21 from rfl) ?_
    rw [hT10.2.2.2]
    refine sx_RP.xC (k := 8) hI5 isA29 rfl rfl (by omega) rfl trivial (show _ = 24 from rfl) (fun w12 hI13 hs14 hv15 hr16 hj17 => ?_)
    have ho18 : Out 29 w4 w12 := Out.st Out.rf hs14 (by decide)
    have hC19 := hC6.out ho18
    have hT20 := hT10.out ho18
    have hB21 : campB w12 29 = setO (nI (vaT n X (nP n X p))) (b) := (campB_setF (k := 8) hs14 (by decide) hv15 hr16).trans (by rw [if_pos rfl, hB8])
    have hO22 := hO9.tr ho18.offT
    refine sx_RP.step (pc2 := 25) (ls2 := [(0, .ref 96), (1, .ref 29)]) (st2 := [.ref 96]) (w3 := w12) rfl rfl ?_
    refine sx_RP.callp (as2 := [.ref 96]) (rest2 := []) rfl rfl (sx_inv_v2 (mi := 110) (k := 29) (st := [.ref 96]) (w := w12) rfl rfl hI13.1.o96 rfl rfl rfl) rfl rfl rfl (X94 hI13 hC19 hT20.2.2.1 (beT_le hp7)) (show _ = 28 from rfl) ?_
    rintro r4 w26 ⟨⟨rfl, hT23, h124⟩, hI27, hs25⟩
    show sx_RP _ _ _ _ _ [] _ _
    have hT32 : TK' n X (nP n X (nP n X p)) w26 := hT23
    have hC28 := hC19.same h124 (ia_of (hs25 97 (by decide)))
    have hp29 : nP n X (nP n X p) ≤ n := nP_le hp7
    have hB30 := (campB_96 hI13 hs25).trans hB21
    have hO31 := hO22.tr hs25.offT
    refine sx_RP.step (pc2 := 29) (ls2 := [(0, .ref 96), (1, .ref 29)]) (st2 := [.ref 96]) (w3 := w26) rfl rfl ?_
    refine sx_RP.step (pc2 := 31) (ls2 := [(0, .ref 96), (1, .ref 29)]) (st2 := [.float 108, .ref 96]) (w3 := w26) rfl rfl ?_
    rcases Bool.eq_false_or_eq_true (wdT n X (nP n X (nP n X p)) (108 : UInt32)) with c33 | c33
    · refine sx_RP.cu (as := [.ref 96, .float 108]) (rest2 := []) (st3 := [.int 1]) rfl rfl (sx_inv_v2 (mi := 110) (k := 52) (st := [.float 108, .ref 96]) (w := w26) rfl rfl hI27.1.o96 rfl rfl rfl) rfl rfl (x101t (k := (108 : UInt32)) (m := 6) hI27 hC28 hT32 hp29 (by decide) rfl (by decide) c33) rfl ?_
      refine sx_RP.step (pc2 := 37) (ls2 := [(0, .ref 96), (1, .ref 29)]) (st2 := []) (w3 := w26) rfl rfl ?_
      refine sx_RP.step (pc2 := 38) (ls2 := [(0, .ref 96), (1, .ref 29)]) (st2 := [.ref 96]) (w3 := w26) rfl rfl ?_
      refine sx_RP.step (pc2 := 40) (ls2 := [(0, .ref 96), (1, .ref 29)]) (st2 := [.float 108, .ref 96]) (w3 := w26) rfl rfl ?_
      refine sx_RP.step (pc2 := 41) (ls2 := [(0, .ref 96), (1, .ref 29)]) (st2 := [.int 1, .float 108, .ref 96]) (w3 := w26) rfl rfl ?_
      refine sx_RP.step (pc2 := 44) (ls2 := [(0, .ref 96), (1, .ref 29)]) (st2 := [.int 999, .int 1, .float 108, .ref 96]) (w3 := w26) rfl rfl ?_
      refine sx_RP.callp (as2 := [.ref 96, .float 108, .int 1, .int 999]) (rest2 := []) rfl rfl (sx_inv_v2 (mi := 110) (k := 90) (st := [.int 999, .int 1, .float 108, .ref 96]) (w := w26) rfl rfl hI27.1.o96 rfl rfl rfl) rfl rfl rfl (X108 (k := 108) (m := 6) (lo := 1) (hi := 999) hI27 hC28 hT32 hp29 (by decide) rfl (by decide) (by decide) (by decide)) (show _ = 47 from rfl) ?_
      rintro r4 w37 ⟨⟨rfl, hT34, h135⟩, hI38, hs36⟩
      show sx_RP _ _ _ _ _ [.int (b01 (wtT n X (nP n X (nP n X p)) 108 1 999).1)] _ _
      have hC39 := hC28.same h135 (ia_of (hs36 97 (by decide)))
      have hp40 : (wtT n X (nP n X (nP n X p)) 108 1 999).2 ≤ n := wtT_le hp29
      have hB41 := (campB_96 hI27 hs36).trans hB30
      have hO42 := hO31.tr hs36.offT
      refine sx_RP.br (p1 := 52) (l1 := [(0, .ref 96), (1, .ref 29)]) (s1 := []) (v1 := w37) (p2 := 50) (l2 := [(0, .ref 96), (1, .ref 29)]) (s2 := []) (v2 := w37) rfl rfl (fun q43 => ?_) (fun q43 => ?_)
      · replace q43 := of_decide_eq_true q43
        refine sx_RP.step (pc2 := 53) (ls2 := [(0, .ref 96), (1, .ref 29)]) (st2 := [.ref 29]) (w3 := w37) rfl rfl ?_
        refine sx_RP.step (pc2 := 54) (ls2 := [(0, .ref 96), (1, .ref 29)]) (st2 := [.ref 96, .ref 29]) (w3 := w37) rfl rfl ?_
        refine sx_RP.gt (k := 5) hI38 rfl rfl (by decide) (show _ = 57 from rfl) ?_
        rw [hT34.2.2.2]
        refine sx_RP.xC (k := 9) hI38 isA29 rfl rfl (by omega) rfl trivial (show _ = 60 from rfl) (fun w44 hI45 hs46 hv47 hr48 hj49 => ?_)
        have ho50 : Out 29 w37 w44 := Out.st Out.rf hs46 (by decide)
        have hC51 := hC39.out ho50
        have hT52 := hT34.out ho50
        have hB53 : campB w44 29 = setM (nI (vaT n X (wtT n X (nP n X (nP n X p)) 108 1 999).2)) (setO (nI (vaT n X (nP n X p))) (b)) := (campB_setF (k := 9) hs46 (by decide) hv47 hr48).trans (by rw [if_neg (by decide), if_pos rfl, hB41])
        have hO54 := hO42.tr ho50.offT
        refine sx_RP.step (pc2 := 61) (ls2 := [(0, .ref 96), (1, .ref 29)]) (st2 := [.ref 96]) (w3 := w44) rfl rfl ?_
        refine sx_RP.callp (as2 := [.ref 96]) (rest2 := []) rfl rfl (sx_inv_v2 (mi := 110) (k := 29) (st := [.ref 96]) (w := w44) rfl rfl hI45.1.o96 rfl rfl rfl) rfl rfl rfl (X94 hI45 hC51 hT52.2.2.1 (beT_le hp40)) (show _ = 64 from rfl) ?_
        rintro r4 w58 ⟨⟨rfl, hT55, h156⟩, hI59, hs57⟩
        show sx_RP _ _ _ _ _ [] _ _
        have hT64 : TK' n X (nP n X ((wtT n X (nP n X (nP n X p)) 108 1 999).2)) w58 := hT55
        have hC60 := hC51.same h156 (ia_of (hs57 97 (by decide)))
        have hp61 : nP n X ((wtT n X (nP n X (nP n X p)) 108 1 999).2) ≤ n := nP_le hp40
        have hB62 := (campB_96 hI45 hs57).trans hB53
        have hO63 := hO54.tr hs57.offT
        refine sx_RP.step (pc2 := 65) (ls2 := [(0, .ref 96), (1, .ref 29)]) (st2 := [.ref 96]) (w3 := w58) rfl rfl ?_
        refine sx_RP.step (pc2 := 67) (ls2 := [(0, .ref 96), (1, .ref 29)]) (st2 := [.float 111, .ref 96]) (w3 := w58) rfl rfl ?_
        rcases Bool.eq_false_or_eq_true (wdT n X (nP n X ((wtT n X (nP n X (nP n X p)) 108 1 999).2)) (111 : UInt32)) with c65 | c65
        · refine sx_RP.cu (as := [.ref 96, .float 111]) (rest2 := []) (st3 := [.int 1]) rfl rfl (sx_inv_v2 (mi := 110) (k := 52) (st := [.float 111, .ref 96]) (w := w58) rfl rfl hI59.1.o96 rfl rfl rfl) rfl rfl (x101t (k := (111 : UInt32)) (m := 6) hI59 hC60 hT64 hp61 (by decide) rfl (by decide) c65) rfl ?_
          refine sx_RP.step (pc2 := 73) (ls2 := [(0, .ref 96), (1, .ref 29)]) (st2 := []) (w3 := w58) rfl rfl ?_
          refine sx_RP.step (pc2 := 74) (ls2 := [(0, .ref 96), (1, .ref 29)]) (st2 := [.ref 96]) (w3 := w58) rfl rfl ?_
          refine sx_RP.step (pc2 := 76) (ls2 := [(0, .ref 96), (1, .ref 29)]) (st2 := [.float 111, .ref 96]) (w3 := w58) rfl rfl ?_
          refine sx_RP.step (pc2 := 77) (ls2 := [(0, .ref 96), (1, .ref 29)]) (st2 := [.int 1, .float 111, .ref 96]) (w3 := w58) rfl rfl ?_
          refine sx_RP.step (pc2 := 79) (ls2 := [(0, .ref 96), (1, .ref 29)]) (st2 := [.int 99, .int 1, .float 111, .ref 96]) (w3 := w58) rfl rfl ?_
          refine sx_RP.callp (as2 := [.ref 96, .float 111, .int 1, .int 99]) (rest2 := []) rfl rfl (sx_inv_v2 (mi := 110) (k := 90) (st := [.int 99, .int 1, .float 111, .ref 96]) (w := w58) rfl rfl hI59.1.o96 rfl rfl rfl) rfl rfl rfl (X108 (k := 111) (m := 6) (lo := 1) (hi := 99) hI59 hC60 hT64 hp61 (by decide) rfl (by decide) (by decide) (by decide)) (show _ = 82 from rfl) ?_
          rintro r4 w69 ⟨⟨rfl, hT66, h167⟩, hI70, hs68⟩
          show sx_RP _ _ _ _ _ [.int (b01 (wtT n X (nP n X ((wtT n X (nP n X (nP n X p)) 108 1 999).2)) 111 1 99).1)] _ _
          have hC71 := hC60.same h167 (ia_of (hs68 97 (by decide)))
          have hp72 : (wtT n X (nP n X ((wtT n X (nP n X (nP n X p)) 108 1 999).2)) 111 1 99).2 ≤ n := wtT_le hp61
          have hB73 := (campB_96 hI59 hs68).trans hB62
          have hO74 := hO63.tr hs68.offT
          refine sx_RP.br (p1 := 87) (l1 := [(0, .ref 96), (1, .ref 29)]) (s1 := []) (v1 := w69) (p2 := 85) (l2 := [(0, .ref 96), (1, .ref 29)]) (s2 := []) (v2 := w69) rfl rfl (fun q75 => ?_) (fun q75 => ?_)
          · replace q75 := of_decide_eq_true q75
            refine sx_RP.step (pc2 := 88) (ls2 := [(0, .ref 96), (1, .ref 29)]) (st2 := [.ref 29]) (w3 := w69) rfl rfl ?_
            refine sx_RP.step (pc2 := 89) (ls2 := [(0, .ref 96), (1, .ref 29)]) (st2 := [.ref 96, .ref 29]) (w3 := w69) rfl rfl ?_
            refine sx_RP.gt (k := 5) hI70 rfl rfl (by decide) (show _ = 92 from rfl) ?_
            rw [hT66.2.2.2]
            refine sx_RP.xC (k := 10) hI70 isA29 rfl rfl (by omega) rfl trivial (show _ = 95 from rfl) (fun w76 hI77 hs78 hv79 hr80 hj81 => ?_)
            have ho82 : Out 29 w69 w76 := Out.st Out.rf hs78 (by decide)
            have hC83 := hC71.out ho82
            have hT84 := hT66.out ho82
            have hB85 : campB w76 29 = setR (nI (vaT n X (wtT n X (nP n X ((wtT n X (nP n X (nP n X p)) 108 1 999).2)) 111 1 99).2)) (setM (nI (vaT n X (wtT n X (nP n X (nP n X p)) 108 1 999).2)) (setO (nI (vaT n X (nP n X p))) (b))) := (campB_setF (k := 10) hs78 (by decide) hv79 hr80).trans (by rw [if_neg (by decide), if_neg (by decide), hB73])
            have hO86 := hO74.tr ho82.offT
            refine sx_RP.step (pc2 := 96) (ls2 := [(0, .ref 96), (1, .ref 29)]) (st2 := [.ref 96]) (w3 := w76) rfl rfl ?_
            refine sx_RP.callp (as2 := [.ref 96]) (rest2 := []) rfl rfl (sx_inv_v2 (mi := 110) (k := 29) (st := [.ref 96]) (w := w76) rfl rfl hI77.1.o96 rfl rfl rfl) rfl rfl rfl (X94 hI77 hC83 hT84.2.2.1 (beT_le hp72)) (show _ = 99 from rfl) ?_
            rintro r4 w90 ⟨⟨rfl, hT87, h188⟩, hI91, hs89⟩
            show sx_RP _ _ _ _ _ [] _ _
            have hT96 : TK' n X (nP n X ((wtT n X (nP n X ((wtT n X (nP n X (nP n X p)) 108 1 999).2)) 111 1 99).2)) w90 := hT87
            have hC92 := hC83.same h188 (ia_of (hs89 97 (by decide)))
            have hp93 : nP n X ((wtT n X (nP n X ((wtT n X (nP n X (nP n X p)) 108 1 999).2)) 111 1 99).2) ≤ n := nP_le hp72
            have hB94 := (campB_96 hI77 hs89).trans hB85
            have hO95 := hO86.tr hs89.offT
            refine sx_RP.step (pc2 := 100) (ls2 := [(0, .ref 96), (1, .ref 29)]) (st2 := [.int 1]) (w3 := w90) rfl rfl ?_
            refine sx_RP.ret (r := (some (.int 1))) rfl rfl ?_
            rw [show breT n X p b = (true, nP n X ((wtT n X (nP n X ((wtT n X (nP n X (nP n X p)) 108 1 999).2)) 111 1 99).2), setR (nI (vaT n X (wtT n X (nP n X ((wtT n X (nP n X (nP n X p)) 108 1 999).2)) 111 1 99).2)) (setM (nI (vaT n X (wtT n X (nP n X (nP n X p)) 108 1 999).2)) (setO (nI (vaT n X (nP n X p))) (b)))) by unfold breT; rw [if_pos c11]; unfold br1; rw [if_pos c33, if_pos (b01_t q43)]; unfold br2; rw [if_pos c65, if_pos (b01_t q75)]]
            exact ⟨⟨rfl, hT96, fun _ => hB94⟩, hI91, hC92, hO95⟩
          · replace q75 := Decidable.not_not.mp (of_decide_eq_false q75)
            refine sx_RP.step (pc2 := 86) (ls2 := [(0, .ref 96), (1, .ref 29)]) (st2 := [.int 0]) (w3 := w69) rfl rfl ?_
            refine sx_RP.ret (r := (some (.int 0))) rfl rfl ?_
            rw [show breT n X p b = (false, (wtT n X (nP n X ((wtT n X (nP n X (nP n X p)) 108 1 999).2)) 111 1 99).2, setM (nI (vaT n X (wtT n X (nP n X (nP n X p)) 108 1 999).2)) (setO (nI (vaT n X (nP n X p))) (b))) by unfold breT; rw [if_pos c11]; unfold br1; rw [if_pos c33, if_pos (b01_t q43)]; unfold br2; rw [if_pos c65, if_neg (by rw [b01_f q75]; decide)]]
            exact ⟨⟨rfl, hT66, fun z => absurd (show false = true from z) (by decide)⟩, hI70, hC71, hO74⟩
        · refine sx_RP.cu (as := [.ref 96, .float 111]) (rest2 := []) (st3 := [.int 0]) rfl rfl (sx_inv_v2 (mi := 110) (k := 52) (st := [.float 111, .ref 96]) (w := w58) rfl rfl hI59.1.o96 rfl rfl rfl) rfl rfl (x101f (k := (111 : UInt32)) (m := 6) hI59 hC60 hT64 hp61 (by decide) rfl (by decide) c65) rfl ?_
          refine sx_RP.step (pc2 := 99) (ls2 := [(0, .ref 96), (1, .ref 29)]) (st2 := []) (w3 := w58) rfl rfl ?_
          refine sx_RP.step (pc2 := 100) (ls2 := [(0, .ref 96), (1, .ref 29)]) (st2 := [.int 1]) (w3 := w58) rfl rfl ?_
          refine sx_RP.ret (r := (some (.int 1))) rfl rfl ?_
          rw [show breT n X p b = (true, nP n X ((wtT n X (nP n X (nP n X p)) 108 1 999).2), setM (nI (vaT n X (wtT n X (nP n X (nP n X p)) 108 1 999).2)) (setO (nI (vaT n X (nP n X p))) (b))) by unfold breT; rw [if_pos c11]; unfold br1; rw [if_pos c33, if_pos (b01_t q43)]; unfold br2; rw [if_neg (by rw [c65]; decide)]]
          exact ⟨⟨rfl, hT64, fun _ => hB62⟩, hI59, hC60, hO63⟩
      · replace q43 := Decidable.not_not.mp (of_decide_eq_false q43)
        refine sx_RP.step (pc2 := 51) (ls2 := [(0, .ref 96), (1, .ref 29)]) (st2 := [.int 0]) (w3 := w37) rfl rfl ?_
        refine sx_RP.ret (r := (some (.int 0))) rfl rfl ?_
        rw [show breT n X p b = (false, (wtT n X (nP n X (nP n X p)) 108 1 999).2, setO (nI (vaT n X (nP n X p))) (b)) by unfold breT; rw [if_pos c11]; unfold br1; rw [if_pos c33, if_neg (by rw [b01_f q43]; decide)]]
        exact ⟨⟨rfl, hT34, fun z => absurd (show false = true from z) (by decide)⟩, hI38, hC39, hO42⟩
    · refine sx_RP.cu (as := [.ref 96, .float 108]) (rest2 := []) (st3 := [.int 0]) rfl rfl (sx_inv_v2 (mi := 110) (k := 52) (st := [.float 108, .ref 96]) (w := w26) rfl rfl hI27.1.o96 rfl rfl rfl) rfl rfl (x101f (k := (108 : UInt32)) (m := 6) hI27 hC28 hT32 hp29 (by decide) rfl (by decide) c33) rfl ?_
      refine sx_RP.step (pc2 := 64) (ls2 := [(0, .ref 96), (1, .ref 29)]) (st2 := []) (w3 := w26) rfl rfl ?_
      refine sx_RP.step (pc2 := 65) (ls2 := [(0, .ref 96), (1, .ref 29)]) (st2 := [.ref 96]) (w3 := w26) rfl rfl ?_
      refine sx_RP.step (pc2 := 67) (ls2 := [(0, .ref 96), (1, .ref 29)]) (st2 := [.float 111, .ref 96]) (w3 := w26) rfl rfl ?_
      rcases Bool.eq_false_or_eq_true (wdT n X (nP n X (nP n X p)) (111 : UInt32)) with c97 | c97
      · refine sx_RP.cu (as := [.ref 96, .float 111]) (rest2 := []) (st3 := [.int 1]) rfl rfl (sx_inv_v2 (mi := 110) (k := 52) (st := [.float 111, .ref 96]) (w := w26) rfl rfl hI27.1.o96 rfl rfl rfl) rfl rfl (x101t (k := (111 : UInt32)) (m := 6) hI27 hC28 hT32 hp29 (by decide) rfl (by decide) c97) rfl ?_
        refine sx_RP.step (pc2 := 73) (ls2 := [(0, .ref 96), (1, .ref 29)]) (st2 := []) (w3 := w26) rfl rfl ?_
        refine sx_RP.step (pc2 := 74) (ls2 := [(0, .ref 96), (1, .ref 29)]) (st2 := [.ref 96]) (w3 := w26) rfl rfl ?_
        refine sx_RP.step (pc2 := 76) (ls2 := [(0, .ref 96), (1, .ref 29)]) (st2 := [.float 111, .ref 96]) (w3 := w26) rfl rfl ?_
        refine sx_RP.step (pc2 := 77) (ls2 := [(0, .ref 96), (1, .ref 29)]) (st2 := [.int 1, .float 111, .ref 96]) (w3 := w26) rfl rfl ?_
        refine sx_RP.step (pc2 := 79) (ls2 := [(0, .ref 96), (1, .ref 29)]) (st2 := [.int 99, .int 1, .float 111, .ref 96]) (w3 := w26) rfl rfl ?_
        refine sx_RP.callp (as2 := [.ref 96, .float 111, .int 1, .int 99]) (rest2 := []) rfl rfl (sx_inv_v2 (mi := 110) (k := 90) (st := [.int 99, .int 1, .float 111, .ref 96]) (w := w26) rfl rfl hI27.1.o96 rfl rfl rfl) rfl rfl rfl (X108 (k := 111) (m := 6) (lo := 1) (hi := 99) hI27 hC28 hT32 hp29 (by decide) rfl (by decide) (by decide) (by decide)) (show _ = 82 from rfl) ?_
        rintro r4 w101 ⟨⟨rfl, hT98, h199⟩, hI102, hs100⟩
        show sx_RP _ _ _ _ _ [.int (b01 (wtT n X (nP n X (nP n X p)) 111 1 99).1)] _ _
        have hC103 := hC28.same h199 (ia_of (hs100 97 (by decide)))
        have hp104 : (wtT n X (nP n X (nP n X p)) 111 1 99).2 ≤ n := wtT_le hp29
        have hB105 := (campB_96 hI27 hs100).trans hB30
        have hO106 := hO31.tr hs100.offT
        refine sx_RP.br (p1 := 87) (l1 := [(0, .ref 96), (1, .ref 29)]) (s1 := []) (v1 := w101) (p2 := 85) (l2 := [(0, .ref 96), (1, .ref 29)]) (s2 := []) (v2 := w101) rfl rfl (fun q107 => ?_) (fun q107 => ?_)
        · replace q107 := of_decide_eq_true q107
          refine sx_RP.step (pc2 := 88) (ls2 := [(0, .ref 96), (1, .ref 29)]) (st2 := [.ref 29]) (w3 := w101) rfl rfl ?_
          refine sx_RP.step (pc2 := 89) (ls2 := [(0, .ref 96), (1, .ref 29)]) (st2 := [.ref 96, .ref 29]) (w3 := w101) rfl rfl ?_
          refine sx_RP.gt (k := 5) hI102 rfl rfl (by decide) (show _ = 92 from rfl) ?_
          rw [hT98.2.2.2]
          refine sx_RP.xC (k := 10) hI102 isA29 rfl rfl (by omega) rfl trivial (show _ = 95 from rfl) (fun w108 hI109 hs110 hv111 hr112 hj113 => ?_)
          have ho114 : Out 29 w101 w108 := Out.st Out.rf hs110 (by decide)
          have hC115 := hC103.out ho114
          have hT116 := hT98.out ho114
          have hB117 : campB w108 29 = setR (nI (vaT n X (wtT n X (nP n X (nP n X p)) 111 1 99).2)) (setO (nI (vaT n X (nP n X p))) (b)) := (campB_setF (k := 10) hs110 (by decide) hv111 hr112).trans (by rw [if_neg (by decide), if_neg (by decide), hB105])
          have hO118 := hO106.tr ho114.offT
          refine sx_RP.step (pc2 := 96) (ls2 := [(0, .ref 96), (1, .ref 29)]) (st2 := [.ref 96]) (w3 := w108) rfl rfl ?_
          refine sx_RP.callp (as2 := [.ref 96]) (rest2 := []) rfl rfl (sx_inv_v2 (mi := 110) (k := 29) (st := [.ref 96]) (w := w108) rfl rfl hI109.1.o96 rfl rfl rfl) rfl rfl rfl (X94 hI109 hC115 hT116.2.2.1 (beT_le hp104)) (show _ = 99 from rfl) ?_
          rintro r4 w122 ⟨⟨rfl, hT119, h1120⟩, hI123, hs121⟩
          show sx_RP _ _ _ _ _ [] _ _
          have hT128 : TK' n X (nP n X ((wtT n X (nP n X (nP n X p)) 111 1 99).2)) w122 := hT119
          have hC124 := hC115.same h1120 (ia_of (hs121 97 (by decide)))
          have hp125 : nP n X ((wtT n X (nP n X (nP n X p)) 111 1 99).2) ≤ n := nP_le hp104
          have hB126 := (campB_96 hI109 hs121).trans hB117
          have hO127 := hO118.tr hs121.offT
          refine sx_RP.step (pc2 := 100) (ls2 := [(0, .ref 96), (1, .ref 29)]) (st2 := [.int 1]) (w3 := w122) rfl rfl ?_
          refine sx_RP.ret (r := (some (.int 1))) rfl rfl ?_
          rw [show breT n X p b = (true, nP n X ((wtT n X (nP n X (nP n X p)) 111 1 99).2), setR (nI (vaT n X (wtT n X (nP n X (nP n X p)) 111 1 99).2)) (setO (nI (vaT n X (nP n X p))) (b))) by unfold breT; rw [if_pos c11]; unfold br1; rw [if_neg (by rw [c33]; decide)]; unfold br2; rw [if_pos c97, if_pos (b01_t q107)]]
          exact ⟨⟨rfl, hT128, fun _ => hB126⟩, hI123, hC124, hO127⟩
        · replace q107 := Decidable.not_not.mp (of_decide_eq_false q107)
          refine sx_RP.step (pc2 := 86) (ls2 := [(0, .ref 96), (1, .ref 29)]) (st2 := [.int 0]) (w3 := w101) rfl rfl ?_
          refine sx_RP.ret (r := (some (.int 0))) rfl rfl ?_
          rw [show breT n X p b = (false, (wtT n X (nP n X (nP n X p)) 111 1 99).2, setO (nI (vaT n X (nP n X p))) (b)) by unfold breT; rw [if_pos c11]; unfold br1; rw [if_neg (by rw [c33]; decide)]; unfold br2; rw [if_pos c97, if_neg (by rw [b01_f q107]; decide)]]
          exact ⟨⟨rfl, hT98, fun z => absurd (show false = true from z) (by decide)⟩, hI102, hC103, hO106⟩
      · refine sx_RP.cu (as := [.ref 96, .float 111]) (rest2 := []) (st3 := [.int 0]) rfl rfl (sx_inv_v2 (mi := 110) (k := 52) (st := [.float 111, .ref 96]) (w := w26) rfl rfl hI27.1.o96 rfl rfl rfl) rfl rfl (x101f (k := (111 : UInt32)) (m := 6) hI27 hC28 hT32 hp29 (by decide) rfl (by decide) c97) rfl ?_
        refine sx_RP.step (pc2 := 99) (ls2 := [(0, .ref 96), (1, .ref 29)]) (st2 := []) (w3 := w26) rfl rfl ?_
        refine sx_RP.step (pc2 := 100) (ls2 := [(0, .ref 96), (1, .ref 29)]) (st2 := [.int 1]) (w3 := w26) rfl rfl ?_
        refine sx_RP.ret (r := (some (.int 1))) rfl rfl ?_
        rw [show breT n X p b = (true, nP n X (nP n X p), setO (nI (vaT n X (nP n X p))) (b)) by unfold breT; rw [if_pos c11]; unfold br1; rw [if_neg (by rw [c33]; decide)]; unfold br2; rw [if_neg (by rw [c97]; decide)]]
        exact ⟨⟨rfl, hT32, fun _ => hB30⟩, hI27, hC28, hO31⟩
  · refine sx_RP.cu (as := [.ref 96, .int 0, .int 999999]) (rest2 := []) (st3 := [.int 0]) rfl rfl (sx_inv_v2 (mi := 110) (k := 66) (st := [.int 999999, .int 0, .ref 96]) (w := w4) rfl rfl hI5.1.o96 rfl rfl rfl) rfl rfl (x103f (lo := 0) (hi := 999999) hI5 hC6 hT10 (by omega) (by omega) c11) rfl ?_
    refine sx_RP.step (pc2 := 14) (ls2 := [(0, .ref 96), (1, .ref 29)]) (st2 := []) (w3 := w4) rfl rfl ?_
    refine sx_RP.step (pc2 := 15) (ls2 := [(0, .ref 96), (1, .ref 29)]) (st2 := [.int 0]) (w3 := w4) rfl rfl ?_
    refine sx_RP.ret (r := (some (.int 0))) rfl rfl ?_
    rw [show breT n X p b = (false, nP n X p, b) by unfold breT; rw [if_neg (by rw [c11]; decide)]]
    exact ⟨⟨rfl, hT10, fun z => absurd (show false = true from z) (by decide)⟩, hI5, hC6, hO9⟩
