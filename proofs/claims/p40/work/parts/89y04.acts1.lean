def oc (a : Nat) : Prop := a = 0 ∨ (15 ≤ a ∧ a < 29) ∨ (44 ≤ a ∧ a < 99) ∨ 103 ≤ a
def EO (w w2 : List sx_C) : Prop := ∀ a, oc a → w2[a]? = w[a]?
def ocm (a : Nat) : Prop := a < 112 ∨ a = 113 ∨ 121 ≤ a
def EOm (w w2 : List sx_C) : Prop := ∀ a, ocm a → w2[a]? = w[a]?
theorem Out.eo {w w2 : List sx_C} (h : Out 1 w w2) : EO w w2 := fun a ha => h a (by unfold oc at ha; omega)
theorem set_self9 {l : List Int32} {i : Nat} {v : Int32} (hi : i < l.length) (h : l.getD i 0 = v) : l.set i v = l := by
  apply List.ext_getElem?
  intro j
  by_cases e : i = j
  · subst e
    rw [List.getElem?_set_self hi, ← h, List.getD_eq_getElem?_getD, List.getElem?_eq_getElem hi]
    rfl
  · rw [List.getElem?_set_ne e]
theorem wxor {v : Int64} {c : Nat} {x : Bool} (hc : c < 64) (hb : bitL v c = x) : ∀ b, b < 64 → wbt (v ^^^ ((1 : Int64) <<< ((nI c).toInt64 &&& 63))) b = if b = c then b01 (!x) else wbt v b := by
  intro b _
  unfold wbt
  rw [bit_xor hc]
  by_cases e : b = c
  · subst e
    rw [if_pos rfl, hb, decide_eq_true rfl, Bool.xor_true]
  · rw [if_neg e, decide_eq_false (Ne.symm e), Bool.xor_false]
set_option maxRecDepth 20000 in
set_option maxHeartbeats 4000000 in
theorem S9_0 {xs : Option (List Int32)} {d : Nat} {w : List sx_C} (hI : WI w) : sx_RP xs (d + 1) 9 0 (lv_args 0 [.ref 0, .int (-1000000001)]) [] w (fun r w2 => r = some (.int (-1000000001)) ∧ WI w2 ∧ Same 99 w w2) := by
  refine sx_RP.step (pc2 := 2) (ls2 := [(0, .ref 0), (1, .int (-1000000001))]) (st2 := [.int (-1000000001)]) (w3 := w) rfl rfl ?_
  refine sx_RP.step (pc2 := 3) (ls2 := [(0, .ref 0), (1, .int (-1000000001))]) (st2 := [.int (-1000000001), .int (-1000000001)]) (w3 := w) rfl rfl ?_
  refine sx_RP.step (pc2 := 4) (ls2 := [(0, .ref 0), (1, .int (-1000000001))]) (st2 := [.int 0]) (w3 := w) rfl rfl ?_
  refine sx_RP.step (pc2 := 5) (ls2 := [(2, .int 0), (0, .ref 0), (1, .int (-1000000001))]) (st2 := []) (w3 := w) rfl rfl ?_
  refine sx_RP.step (pc2 := 6) (ls2 := [(2, .int 0), (0, .ref 0), (1, .int (-1000000001))]) (st2 := [.int 0]) (w3 := w) rfl rfl ?_
  refine sx_RP.step (pc2 := 7) (ls2 := [(2, .int 0), (0, .ref 0), (1, .int (-1000000001))]) (st2 := [.int 0, .int 0]) (w3 := w) rfl rfl ?_
  refine sx_RP.step (pc2 := 9) (ls2 := [(2, .int 0), (0, .ref 0), (1, .int (-1000000001))]) (st2 := [.int 6, .int 0, .int 0]) (w3 := w) rfl rfl ?_
  refine sx_RP.cu (as := [.int 0, .int 0, .int 6]) (rest2 := []) (st3 := [.int 1]) rfl rfl rfl rfl rfl (cx_8p (by decide)) rfl ?_
  refine sx_RP.step (pc2 := 15) (ls2 := [(2, .int 0), (0, .ref 0), (1, .int (-1000000001))]) (st2 := []) (w3 := w) rfl rfl ?_
  refine sx_RP.step (pc2 := 16) (ls2 := [(2, .int 0), (0, .ref 0), (1, .int (-1000000001))]) (st2 := [.ref 0]) (w3 := w) rfl rfl ?_
  refine sx_RP.gf (v := .ref 99) rfl rfl hI.1.o0 rfl rfl (show _ = 19 from rfl) ?_
  refine sx_RP.step (pc2 := 20) (ls2 := [(2, .int 0), (0, .ref 0), (1, .int (-1000000001))]) (st2 := [.int 0, .ref 99]) (w3 := w) rfl rfl ?_
  refine sx_RP.step (pc2 := 21) (ls2 := [(2, .int 0), (0, .ref 0), (1, .int (-1000000001))]) (st2 := [.int 0, .ref 99, .int 0, .ref 99]) (w3 := w) rfl rfl ?_
  refine sx_RP.ild (c := 0) rfl hI.1.a99.1 hI.1.a99.2 (sx_in_nI (show 0 < 7 by omega) (by decide)) (show (nI 0).toNatClampNeg = 0 from nI_clamp (by omega)) (show _ = 22 from rfl) ?_
  refine sx_RP.step (pc2 := 23) (ls2 := [(2, .int 0), (0, .ref 0), (1, .int (-1000000001))]) (st2 := [.int 1, .int ((ia w 99).getD 0 0), .int 0, .ref 99]) (w3 := w) rfl rfl ?_
  refine sx_RP.step (pc2 := 24) (ls2 := [(2, .int 0), (0, .ref 0), (1, .int (-1000000001))]) (st2 := [.int (((ia w 99).getD 0 0) + 1), .int 0, .ref 99]) (w3 := w) rfl rfl ?_
  refine sx_RP.xF (c := 0) hI rfl hI.1.a99 (by decide) (by decide) (by omega) (show _ = 25 from rfl) (fun w1 hI2 hs3 hv4 => ?_)
  refine sx_RP.step (pc2 := 26) (ls2 := [(2, .int 0), (0, .ref 0), (1, .int (-1000000001))]) (st2 := [.int (-1000000001)]) (w3 := w1) rfl rfl ?_
  refine sx_RP.ret (r := (some (.int (-1000000001)))) rfl rfl ?_
  exact ⟨rfl, hI2, hs3⟩
set_option maxRecDepth 20000 in
set_option maxHeartbeats 4000000 in
theorem S9_1 {xs : Option (List Int32)} {d : Nat} {w : List sx_C} (hI : WI w) : sx_RP xs (d + 1) 9 0 (lv_args 0 [.ref 0, .int (-1000000002)]) [] w (fun r w2 => r = some (.int (-1000000002)) ∧ WI w2 ∧ Same 99 w w2) := by
  refine sx_RP.step (pc2 := 2) (ls2 := [(0, .ref 0), (1, .int (-1000000002))]) (st2 := [.int (-1000000001)]) (w3 := w) rfl rfl ?_
  refine sx_RP.step (pc2 := 3) (ls2 := [(0, .ref 0), (1, .int (-1000000002))]) (st2 := [.int (-1000000002), .int (-1000000001)]) (w3 := w) rfl rfl ?_
  refine sx_RP.step (pc2 := 4) (ls2 := [(0, .ref 0), (1, .int (-1000000002))]) (st2 := [.int 1]) (w3 := w) rfl rfl ?_
  refine sx_RP.step (pc2 := 5) (ls2 := [(2, .int 1), (0, .ref 0), (1, .int (-1000000002))]) (st2 := []) (w3 := w) rfl rfl ?_
  refine sx_RP.step (pc2 := 6) (ls2 := [(2, .int 1), (0, .ref 0), (1, .int (-1000000002))]) (st2 := [.int 1]) (w3 := w) rfl rfl ?_
  refine sx_RP.step (pc2 := 7) (ls2 := [(2, .int 1), (0, .ref 0), (1, .int (-1000000002))]) (st2 := [.int 0, .int 1]) (w3 := w) rfl rfl ?_
  refine sx_RP.step (pc2 := 9) (ls2 := [(2, .int 1), (0, .ref 0), (1, .int (-1000000002))]) (st2 := [.int 6, .int 0, .int 1]) (w3 := w) rfl rfl ?_
  refine sx_RP.cu (as := [.int 1, .int 0, .int 6]) (rest2 := []) (st3 := [.int 1]) rfl rfl rfl rfl rfl (cx_8p (by decide)) rfl ?_
  refine sx_RP.step (pc2 := 15) (ls2 := [(2, .int 1), (0, .ref 0), (1, .int (-1000000002))]) (st2 := []) (w3 := w) rfl rfl ?_
  refine sx_RP.step (pc2 := 16) (ls2 := [(2, .int 1), (0, .ref 0), (1, .int (-1000000002))]) (st2 := [.ref 0]) (w3 := w) rfl rfl ?_
  refine sx_RP.gf (v := .ref 99) rfl rfl hI.1.o0 rfl rfl (show _ = 19 from rfl) ?_
  refine sx_RP.step (pc2 := 20) (ls2 := [(2, .int 1), (0, .ref 0), (1, .int (-1000000002))]) (st2 := [.int 1, .ref 99]) (w3 := w) rfl rfl ?_
  refine sx_RP.step (pc2 := 21) (ls2 := [(2, .int 1), (0, .ref 0), (1, .int (-1000000002))]) (st2 := [.int 1, .ref 99, .int 1, .ref 99]) (w3 := w) rfl rfl ?_
  refine sx_RP.ild (c := 1) rfl hI.1.a99.1 hI.1.a99.2 (sx_in_nI (show 1 < 7 by omega) (by decide)) (show (nI 1).toNatClampNeg = 1 from nI_clamp (by omega)) (show _ = 22 from rfl) ?_
  refine sx_RP.step (pc2 := 23) (ls2 := [(2, .int 1), (0, .ref 0), (1, .int (-1000000002))]) (st2 := [.int 1, .int ((ia w 99).getD 1 0), .int 1, .ref 99]) (w3 := w) rfl rfl ?_
  refine sx_RP.step (pc2 := 24) (ls2 := [(2, .int 1), (0, .ref 0), (1, .int (-1000000002))]) (st2 := [.int (((ia w 99).getD 1 0) + 1), .int 1, .ref 99]) (w3 := w) rfl rfl ?_
  refine sx_RP.xF (c := 1) hI rfl hI.1.a99 (by decide) (by decide) (by omega) (show _ = 25 from rfl) (fun w1 hI2 hs3 hv4 => ?_)
  refine sx_RP.step (pc2 := 26) (ls2 := [(2, .int 1), (0, .ref 0), (1, .int (-1000000002))]) (st2 := [.int (-1000000002)]) (w3 := w1) rfl rfl ?_
  refine sx_RP.ret (r := (some (.int (-1000000002)))) rfl rfl ?_
  exact ⟨rfl, hI2, hs3⟩
set_option maxRecDepth 20000 in
set_option maxHeartbeats 4000000 in
theorem S9_2 {xs : Option (List Int32)} {d : Nat} {w : List sx_C} (hI : WI w) : sx_RP xs (d + 1) 9 0 (lv_args 0 [.ref 0, .int (-1000000003)]) [] w (fun r w2 => r = some (.int (-1000000003)) ∧ WI w2 ∧ Same 99 w w2) := by
  refine sx_RP.step (pc2 := 2) (ls2 := [(0, .ref 0), (1, .int (-1000000003))]) (st2 := [.int (-1000000001)]) (w3 := w) rfl rfl ?_
  refine sx_RP.step (pc2 := 3) (ls2 := [(0, .ref 0), (1, .int (-1000000003))]) (st2 := [.int (-1000000003), .int (-1000000001)]) (w3 := w) rfl rfl ?_
  refine sx_RP.step (pc2 := 4) (ls2 := [(0, .ref 0), (1, .int (-1000000003))]) (st2 := [.int 2]) (w3 := w) rfl rfl ?_
  refine sx_RP.step (pc2 := 5) (ls2 := [(2, .int 2), (0, .ref 0), (1, .int (-1000000003))]) (st2 := []) (w3 := w) rfl rfl ?_
  refine sx_RP.step (pc2 := 6) (ls2 := [(2, .int 2), (0, .ref 0), (1, .int (-1000000003))]) (st2 := [.int 2]) (w3 := w) rfl rfl ?_
  refine sx_RP.step (pc2 := 7) (ls2 := [(2, .int 2), (0, .ref 0), (1, .int (-1000000003))]) (st2 := [.int 0, .int 2]) (w3 := w) rfl rfl ?_
  refine sx_RP.step (pc2 := 9) (ls2 := [(2, .int 2), (0, .ref 0), (1, .int (-1000000003))]) (st2 := [.int 6, .int 0, .int 2]) (w3 := w) rfl rfl ?_
  refine sx_RP.cu (as := [.int 2, .int 0, .int 6]) (rest2 := []) (st3 := [.int 1]) rfl rfl rfl rfl rfl (cx_8p (by decide)) rfl ?_
  refine sx_RP.step (pc2 := 15) (ls2 := [(2, .int 2), (0, .ref 0), (1, .int (-1000000003))]) (st2 := []) (w3 := w) rfl rfl ?_
  refine sx_RP.step (pc2 := 16) (ls2 := [(2, .int 2), (0, .ref 0), (1, .int (-1000000003))]) (st2 := [.ref 0]) (w3 := w) rfl rfl ?_
  refine sx_RP.gf (v := .ref 99) rfl rfl hI.1.o0 rfl rfl (show _ = 19 from rfl) ?_
  refine sx_RP.step (pc2 := 20) (ls2 := [(2, .int 2), (0, .ref 0), (1, .int (-1000000003))]) (st2 := [.int 2, .ref 99]) (w3 := w) rfl rfl ?_
  refine sx_RP.step (pc2 := 21) (ls2 := [(2, .int 2), (0, .ref 0), (1, .int (-1000000003))]) (st2 := [.int 2, .ref 99, .int 2, .ref 99]) (w3 := w) rfl rfl ?_
  refine sx_RP.ild (c := 2) rfl hI.1.a99.1 hI.1.a99.2 (sx_in_nI (show 2 < 7 by omega) (by decide)) (show (nI 2).toNatClampNeg = 2 from nI_clamp (by omega)) (show _ = 22 from rfl) ?_
  refine sx_RP.step (pc2 := 23) (ls2 := [(2, .int 2), (0, .ref 0), (1, .int (-1000000003))]) (st2 := [.int 1, .int ((ia w 99).getD 2 0), .int 2, .ref 99]) (w3 := w) rfl rfl ?_
  refine sx_RP.step (pc2 := 24) (ls2 := [(2, .int 2), (0, .ref 0), (1, .int (-1000000003))]) (st2 := [.int (((ia w 99).getD 2 0) + 1), .int 2, .ref 99]) (w3 := w) rfl rfl ?_
  refine sx_RP.xF (c := 2) hI rfl hI.1.a99 (by decide) (by decide) (by omega) (show _ = 25 from rfl) (fun w1 hI2 hs3 hv4 => ?_)
  refine sx_RP.step (pc2 := 26) (ls2 := [(2, .int 2), (0, .ref 0), (1, .int (-1000000003))]) (st2 := [.int (-1000000003)]) (w3 := w1) rfl rfl ?_
  refine sx_RP.ret (r := (some (.int (-1000000003)))) rfl rfl ?_
  exact ⟨rfl, hI2, hs3⟩
set_option maxRecDepth 20000 in
set_option maxHeartbeats 4000000 in
theorem S9_3 {xs : Option (List Int32)} {d : Nat} {w : List sx_C} (hI : WI w) : sx_RP xs (d + 1) 9 0 (lv_args 0 [.ref 0, .int (-1000000004)]) [] w (fun r w2 => r = some (.int (-1000000004)) ∧ WI w2 ∧ Same 99 w w2) := by
  refine sx_RP.step (pc2 := 2) (ls2 := [(0, .ref 0), (1, .int (-1000000004))]) (st2 := [.int (-1000000001)]) (w3 := w) rfl rfl ?_
  refine sx_RP.step (pc2 := 3) (ls2 := [(0, .ref 0), (1, .int (-1000000004))]) (st2 := [.int (-1000000004), .int (-1000000001)]) (w3 := w) rfl rfl ?_
  refine sx_RP.step (pc2 := 4) (ls2 := [(0, .ref 0), (1, .int (-1000000004))]) (st2 := [.int 3]) (w3 := w) rfl rfl ?_
  refine sx_RP.step (pc2 := 5) (ls2 := [(2, .int 3), (0, .ref 0), (1, .int (-1000000004))]) (st2 := []) (w3 := w) rfl rfl ?_
  refine sx_RP.step (pc2 := 6) (ls2 := [(2, .int 3), (0, .ref 0), (1, .int (-1000000004))]) (st2 := [.int 3]) (w3 := w) rfl rfl ?_
  refine sx_RP.step (pc2 := 7) (ls2 := [(2, .int 3), (0, .ref 0), (1, .int (-1000000004))]) (st2 := [.int 0, .int 3]) (w3 := w) rfl rfl ?_
  refine sx_RP.step (pc2 := 9) (ls2 := [(2, .int 3), (0, .ref 0), (1, .int (-1000000004))]) (st2 := [.int 6, .int 0, .int 3]) (w3 := w) rfl rfl ?_
  refine sx_RP.cu (as := [.int 3, .int 0, .int 6]) (rest2 := []) (st3 := [.int 1]) rfl rfl rfl rfl rfl (cx_8p (by decide)) rfl ?_
  refine sx_RP.step (pc2 := 15) (ls2 := [(2, .int 3), (0, .ref 0), (1, .int (-1000000004))]) (st2 := []) (w3 := w) rfl rfl ?_
  refine sx_RP.step (pc2 := 16) (ls2 := [(2, .int 3), (0, .ref 0), (1, .int (-1000000004))]) (st2 := [.ref 0]) (w3 := w) rfl rfl ?_
  refine sx_RP.gf (v := .ref 99) rfl rfl hI.1.o0 rfl rfl (show _ = 19 from rfl) ?_
  refine sx_RP.step (pc2 := 20) (ls2 := [(2, .int 3), (0, .ref 0), (1, .int (-1000000004))]) (st2 := [.int 3, .ref 99]) (w3 := w) rfl rfl ?_
  refine sx_RP.step (pc2 := 21) (ls2 := [(2, .int 3), (0, .ref 0), (1, .int (-1000000004))]) (st2 := [.int 3, .ref 99, .int 3, .ref 99]) (w3 := w) rfl rfl ?_
  refine sx_RP.ild (c := 3) rfl hI.1.a99.1 hI.1.a99.2 (sx_in_nI (show 3 < 7 by omega) (by decide)) (show (nI 3).toNatClampNeg = 3 from nI_clamp (by omega)) (show _ = 22 from rfl) ?_
  refine sx_RP.step (pc2 := 23) (ls2 := [(2, .int 3), (0, .ref 0), (1, .int (-1000000004))]) (st2 := [.int 1, .int ((ia w 99).getD 3 0), .int 3, .ref 99]) (w3 := w) rfl rfl ?_
  refine sx_RP.step (pc2 := 24) (ls2 := [(2, .int 3), (0, .ref 0), (1, .int (-1000000004))]) (st2 := [.int (((ia w 99).getD 3 0) + 1), .int 3, .ref 99]) (w3 := w) rfl rfl ?_
  refine sx_RP.xF (c := 3) hI rfl hI.1.a99 (by decide) (by decide) (by omega) (show _ = 25 from rfl) (fun w1 hI2 hs3 hv4 => ?_)
  refine sx_RP.step (pc2 := 26) (ls2 := [(2, .int 3), (0, .ref 0), (1, .int (-1000000004))]) (st2 := [.int (-1000000004)]) (w3 := w1) rfl rfl ?_
  refine sx_RP.ret (r := (some (.int (-1000000004)))) rfl rfl ?_
  exact ⟨rfl, hI2, hs3⟩
set_option maxRecDepth 20000 in
set_option maxHeartbeats 4000000 in
theorem S9_4 {xs : Option (List Int32)} {d : Nat} {w : List sx_C} (hI : WI w) : sx_RP xs (d + 1) 9 0 (lv_args 0 [.ref 0, .int (-1000000005)]) [] w (fun r w2 => r = some (.int (-1000000005)) ∧ WI w2 ∧ Same 99 w w2) := by
  refine sx_RP.step (pc2 := 2) (ls2 := [(0, .ref 0), (1, .int (-1000000005))]) (st2 := [.int (-1000000001)]) (w3 := w) rfl rfl ?_
  refine sx_RP.step (pc2 := 3) (ls2 := [(0, .ref 0), (1, .int (-1000000005))]) (st2 := [.int (-1000000005), .int (-1000000001)]) (w3 := w) rfl rfl ?_
  refine sx_RP.step (pc2 := 4) (ls2 := [(0, .ref 0), (1, .int (-1000000005))]) (st2 := [.int 4]) (w3 := w) rfl rfl ?_
  refine sx_RP.step (pc2 := 5) (ls2 := [(2, .int 4), (0, .ref 0), (1, .int (-1000000005))]) (st2 := []) (w3 := w) rfl rfl ?_
  refine sx_RP.step (pc2 := 6) (ls2 := [(2, .int 4), (0, .ref 0), (1, .int (-1000000005))]) (st2 := [.int 4]) (w3 := w) rfl rfl ?_
  refine sx_RP.step (pc2 := 7) (ls2 := [(2, .int 4), (0, .ref 0), (1, .int (-1000000005))]) (st2 := [.int 0, .int 4]) (w3 := w) rfl rfl ?_
  refine sx_RP.step (pc2 := 9) (ls2 := [(2, .int 4), (0, .ref 0), (1, .int (-1000000005))]) (st2 := [.int 6, .int 0, .int 4]) (w3 := w) rfl rfl ?_
  refine sx_RP.cu (as := [.int 4, .int 0, .int 6]) (rest2 := []) (st3 := [.int 1]) rfl rfl rfl rfl rfl (cx_8p (by decide)) rfl ?_
  refine sx_RP.step (pc2 := 15) (ls2 := [(2, .int 4), (0, .ref 0), (1, .int (-1000000005))]) (st2 := []) (w3 := w) rfl rfl ?_
  refine sx_RP.step (pc2 := 16) (ls2 := [(2, .int 4), (0, .ref 0), (1, .int (-1000000005))]) (st2 := [.ref 0]) (w3 := w) rfl rfl ?_
  refine sx_RP.gf (v := .ref 99) rfl rfl hI.1.o0 rfl rfl (show _ = 19 from rfl) ?_
  refine sx_RP.step (pc2 := 20) (ls2 := [(2, .int 4), (0, .ref 0), (1, .int (-1000000005))]) (st2 := [.int 4, .ref 99]) (w3 := w) rfl rfl ?_
  refine sx_RP.step (pc2 := 21) (ls2 := [(2, .int 4), (0, .ref 0), (1, .int (-1000000005))]) (st2 := [.int 4, .ref 99, .int 4, .ref 99]) (w3 := w) rfl rfl ?_
  refine sx_RP.ild (c := 4) rfl hI.1.a99.1 hI.1.a99.2 (sx_in_nI (show 4 < 7 by omega) (by decide)) (show (nI 4).toNatClampNeg = 4 from nI_clamp (by omega)) (show _ = 22 from rfl) ?_
  refine sx_RP.step (pc2 := 23) (ls2 := [(2, .int 4), (0, .ref 0), (1, .int (-1000000005))]) (st2 := [.int 1, .int ((ia w 99).getD 4 0), .int 4, .ref 99]) (w3 := w) rfl rfl ?_
  refine sx_RP.step (pc2 := 24) (ls2 := [(2, .int 4), (0, .ref 0), (1, .int (-1000000005))]) (st2 := [.int (((ia w 99).getD 4 0) + 1), .int 4, .ref 99]) (w3 := w) rfl rfl ?_
  refine sx_RP.xF (c := 4) hI rfl hI.1.a99 (by decide) (by decide) (by omega) (show _ = 25 from rfl) (fun w1 hI2 hs3 hv4 => ?_)
  refine sx_RP.step (pc2 := 26) (ls2 := [(2, .int 4), (0, .ref 0), (1, .int (-1000000005))]) (st2 := [.int (-1000000005)]) (w3 := w1) rfl rfl ?_
  refine sx_RP.ret (r := (some (.int (-1000000005)))) rfl rfl ?_
  exact ⟨rfl, hI2, hs3⟩
set_option maxRecDepth 20000 in
set_option maxHeartbeats 4000000 in
theorem S9_5 {xs : Option (List Int32)} {d : Nat} {w : List sx_C} (hI : WI w) : sx_RP xs (d + 1) 9 0 (lv_args 0 [.ref 0, .int (-1000000006)]) [] w (fun r w2 => r = some (.int (-1000000006)) ∧ WI w2 ∧ Same 99 w w2) := by
  refine sx_RP.step (pc2 := 2) (ls2 := [(0, .ref 0), (1, .int (-1000000006))]) (st2 := [.int (-1000000001)]) (w3 := w) rfl rfl ?_
  refine sx_RP.step (pc2 := 3) (ls2 := [(0, .ref 0), (1, .int (-1000000006))]) (st2 := [.int (-1000000006), .int (-1000000001)]) (w3 := w) rfl rfl ?_
  refine sx_RP.step (pc2 := 4) (ls2 := [(0, .ref 0), (1, .int (-1000000006))]) (st2 := [.int 5]) (w3 := w) rfl rfl ?_
  refine sx_RP.step (pc2 := 5) (ls2 := [(2, .int 5), (0, .ref 0), (1, .int (-1000000006))]) (st2 := []) (w3 := w) rfl rfl ?_
  refine sx_RP.step (pc2 := 6) (ls2 := [(2, .int 5), (0, .ref 0), (1, .int (-1000000006))]) (st2 := [.int 5]) (w3 := w) rfl rfl ?_
  refine sx_RP.step (pc2 := 7) (ls2 := [(2, .int 5), (0, .ref 0), (1, .int (-1000000006))]) (st2 := [.int 0, .int 5]) (w3 := w) rfl rfl ?_
  refine sx_RP.step (pc2 := 9) (ls2 := [(2, .int 5), (0, .ref 0), (1, .int (-1000000006))]) (st2 := [.int 6, .int 0, .int 5]) (w3 := w) rfl rfl ?_
  refine sx_RP.cu (as := [.int 5, .int 0, .int 6]) (rest2 := []) (st3 := [.int 1]) rfl rfl rfl rfl rfl (cx_8p (by decide)) rfl ?_
  refine sx_RP.step (pc2 := 15) (ls2 := [(2, .int 5), (0, .ref 0), (1, .int (-1000000006))]) (st2 := []) (w3 := w) rfl rfl ?_
  refine sx_RP.step (pc2 := 16) (ls2 := [(2, .int 5), (0, .ref 0), (1, .int (-1000000006))]) (st2 := [.ref 0]) (w3 := w) rfl rfl ?_
  refine sx_RP.gf (v := .ref 99) rfl rfl hI.1.o0 rfl rfl (show _ = 19 from rfl) ?_
  refine sx_RP.step (pc2 := 20) (ls2 := [(2, .int 5), (0, .ref 0), (1, .int (-1000000006))]) (st2 := [.int 5, .ref 99]) (w3 := w) rfl rfl ?_
  refine sx_RP.step (pc2 := 21) (ls2 := [(2, .int 5), (0, .ref 0), (1, .int (-1000000006))]) (st2 := [.int 5, .ref 99, .int 5, .ref 99]) (w3 := w) rfl rfl ?_
  refine sx_RP.ild (c := 5) rfl hI.1.a99.1 hI.1.a99.2 (sx_in_nI (show 5 < 7 by omega) (by decide)) (show (nI 5).toNatClampNeg = 5 from nI_clamp (by omega)) (show _ = 22 from rfl) ?_
  refine sx_RP.step (pc2 := 23) (ls2 := [(2, .int 5), (0, .ref 0), (1, .int (-1000000006))]) (st2 := [.int 1, .int ((ia w 99).getD 5 0), .int 5, .ref 99]) (w3 := w) rfl rfl ?_
  refine sx_RP.step (pc2 := 24) (ls2 := [(2, .int 5), (0, .ref 0), (1, .int (-1000000006))]) (st2 := [.int (((ia w 99).getD 5 0) + 1), .int 5, .ref 99]) (w3 := w) rfl rfl ?_
  refine sx_RP.xF (c := 5) hI rfl hI.1.a99 (by decide) (by decide) (by omega) (show _ = 25 from rfl) (fun w1 hI2 hs3 hv4 => ?_)
  refine sx_RP.step (pc2 := 26) (ls2 := [(2, .int 5), (0, .ref 0), (1, .int (-1000000006))]) (st2 := [.int (-1000000006)]) (w3 := w1) rfl rfl ?_
  refine sx_RP.ret (r := (some (.int (-1000000006)))) rfl rfl ?_
  exact ⟨rfl, hI2, hs3⟩
set_option maxRecDepth 20000 in
set_option maxHeartbeats 4000000 in
theorem S9_6 {xs : Option (List Int32)} {d : Nat} {w : List sx_C} (hI : WI w) : sx_RP xs (d + 1) 9 0 (lv_args 0 [.ref 0, .int (-1000000007)]) [] w (fun r w2 => r = some (.int (-1000000007)) ∧ WI w2 ∧ Same 99 w w2) := by
  refine sx_RP.step (pc2 := 2) (ls2 := [(0, .ref 0), (1, .int (-1000000007))]) (st2 := [.int (-1000000001)]) (w3 := w) rfl rfl ?_
  refine sx_RP.step (pc2 := 3) (ls2 := [(0, .ref 0), (1, .int (-1000000007))]) (st2 := [.int (-1000000007), .int (-1000000001)]) (w3 := w) rfl rfl ?_
  refine sx_RP.step (pc2 := 4) (ls2 := [(0, .ref 0), (1, .int (-1000000007))]) (st2 := [.int 6]) (w3 := w) rfl rfl ?_
  refine sx_RP.step (pc2 := 5) (ls2 := [(2, .int 6), (0, .ref 0), (1, .int (-1000000007))]) (st2 := []) (w3 := w) rfl rfl ?_
  refine sx_RP.step (pc2 := 6) (ls2 := [(2, .int 6), (0, .ref 0), (1, .int (-1000000007))]) (st2 := [.int 6]) (w3 := w) rfl rfl ?_
  refine sx_RP.step (pc2 := 7) (ls2 := [(2, .int 6), (0, .ref 0), (1, .int (-1000000007))]) (st2 := [.int 0, .int 6]) (w3 := w) rfl rfl ?_
  refine sx_RP.step (pc2 := 9) (ls2 := [(2, .int 6), (0, .ref 0), (1, .int (-1000000007))]) (st2 := [.int 6, .int 0, .int 6]) (w3 := w) rfl rfl ?_
  refine sx_RP.cu (as := [.int 6, .int 0, .int 6]) (rest2 := []) (st3 := [.int 1]) rfl rfl rfl rfl rfl (cx_8p (by decide)) rfl ?_
  refine sx_RP.step (pc2 := 15) (ls2 := [(2, .int 6), (0, .ref 0), (1, .int (-1000000007))]) (st2 := []) (w3 := w) rfl rfl ?_
  refine sx_RP.step (pc2 := 16) (ls2 := [(2, .int 6), (0, .ref 0), (1, .int (-1000000007))]) (st2 := [.ref 0]) (w3 := w) rfl rfl ?_
  refine sx_RP.gf (v := .ref 99) rfl rfl hI.1.o0 rfl rfl (show _ = 19 from rfl) ?_
  refine sx_RP.step (pc2 := 20) (ls2 := [(2, .int 6), (0, .ref 0), (1, .int (-1000000007))]) (st2 := [.int 6, .ref 99]) (w3 := w) rfl rfl ?_
  refine sx_RP.step (pc2 := 21) (ls2 := [(2, .int 6), (0, .ref 0), (1, .int (-1000000007))]) (st2 := [.int 6, .ref 99, .int 6, .ref 99]) (w3 := w) rfl rfl ?_
  refine sx_RP.ild (c := 6) rfl hI.1.a99.1 hI.1.a99.2 (sx_in_nI (show 6 < 7 by omega) (by decide)) (show (nI 6).toNatClampNeg = 6 from nI_clamp (by omega)) (show _ = 22 from rfl) ?_
  refine sx_RP.step (pc2 := 23) (ls2 := [(2, .int 6), (0, .ref 0), (1, .int (-1000000007))]) (st2 := [.int 1, .int ((ia w 99).getD 6 0), .int 6, .ref 99]) (w3 := w) rfl rfl ?_
  refine sx_RP.step (pc2 := 24) (ls2 := [(2, .int 6), (0, .ref 0), (1, .int (-1000000007))]) (st2 := [.int (((ia w 99).getD 6 0) + 1), .int 6, .ref 99]) (w3 := w) rfl rfl ?_
  refine sx_RP.xF (c := 6) hI rfl hI.1.a99 (by decide) (by decide) (by omega) (show _ = 25 from rfl) (fun w1 hI2 hs3 hv4 => ?_)
  refine sx_RP.step (pc2 := 26) (ls2 := [(2, .int 6), (0, .ref 0), (1, .int (-1000000007))]) (st2 := [.int (-1000000007)]) (w3 := w1) rfl rfl ?_
  refine sx_RP.ret (r := (some (.int (-1000000007)))) rfl rfl ?_
  exact ⟨rfl, hI2, hs3⟩
set_option maxRecDepth 20000 in
set_option maxHeartbeats 4000000 in
theorem S133_0 {xs : Option (List Int32)} {d : Nat} {w : List sx_C} (hI : WI w) : sx_RP xs d 133 0 (lv_args 0 [.ref 111, .int 0]) [] w (fun r w2 => r = some (.int (-1000000001)) ∧ WI w2 ∧ Same 116 w w2) := by
  refine sx_RP.step (pc2 := 1) (ls2 := [(0, .ref 111), (1, .int 0)]) (st2 := [.ref 111]) (w3 := w) rfl rfl ?_
  refine sx_RP.gf (v := .ref 116) rfl rfl hI.1.o111 rfl rfl (show _ = 4 from rfl) ?_
  refine sx_RP.step (pc2 := 5) (ls2 := [(0, .ref 111), (1, .int 0)]) (st2 := [.int 0, .ref 116]) (w3 := w) rfl rfl ?_
  refine sx_RP.step (pc2 := 6) (ls2 := [(0, .ref 111), (1, .int 0)]) (st2 := [.int 0, .ref 116, .int 0, .ref 116]) (w3 := w) rfl rfl ?_
  refine sx_RP.ild (c := 0) rfl hI.1.a116.1 hI.1.a116.2 (sx_in_nI (show 0 < 7 by omega) (by decide)) (show (nI 0).toNatClampNeg = 0 from nI_clamp (by omega)) (show _ = 7 from rfl) ?_
  refine sx_RP.step (pc2 := 8) (ls2 := [(0, .ref 111), (1, .int 0)]) (st2 := [.int 1, .int ((ia w 116).getD 0 0), .int 0, .ref 116]) (w3 := w) rfl rfl ?_
  refine sx_RP.step (pc2 := 9) (ls2 := [(0, .ref 111), (1, .int 0)]) (st2 := [.int (((ia w 116).getD 0 0) + 1), .int 0, .ref 116]) (w3 := w) rfl rfl ?_
  refine sx_RP.xF (c := 0) hI rfl hI.1.a116 (by decide) (by decide) (by omega) (show _ = 10 from rfl) (fun w1 hI2 hs3 hv4 => ?_)
  refine sx_RP.step (pc2 := 12) (ls2 := [(0, .ref 111), (1, .int 0)]) (st2 := [.int (-1000000001)]) (w3 := w1) rfl rfl ?_
  refine sx_RP.step (pc2 := 13) (ls2 := [(0, .ref 111), (1, .int 0)]) (st2 := [.int 0, .int (-1000000001)]) (w3 := w1) rfl rfl ?_
  refine sx_RP.step (pc2 := 14) (ls2 := [(0, .ref 111), (1, .int 0)]) (st2 := [.int (-1000000001)]) (w3 := w1) rfl rfl ?_
  refine sx_RP.ret (r := (some (.int (-1000000001)))) rfl rfl ?_
  exact ⟨rfl, hI2, hs3⟩
set_option maxRecDepth 20000 in
set_option maxHeartbeats 4000000 in
theorem S133_1 {xs : Option (List Int32)} {d : Nat} {w : List sx_C} (hI : WI w) : sx_RP xs d 133 0 (lv_args 0 [.ref 111, .int 1]) [] w (fun r w2 => r = some (.int (-1000000002)) ∧ WI w2 ∧ Same 116 w w2) := by
  refine sx_RP.step (pc2 := 1) (ls2 := [(0, .ref 111), (1, .int 1)]) (st2 := [.ref 111]) (w3 := w) rfl rfl ?_
  refine sx_RP.gf (v := .ref 116) rfl rfl hI.1.o111 rfl rfl (show _ = 4 from rfl) ?_
  refine sx_RP.step (pc2 := 5) (ls2 := [(0, .ref 111), (1, .int 1)]) (st2 := [.int 1, .ref 116]) (w3 := w) rfl rfl ?_
  refine sx_RP.step (pc2 := 6) (ls2 := [(0, .ref 111), (1, .int 1)]) (st2 := [.int 1, .ref 116, .int 1, .ref 116]) (w3 := w) rfl rfl ?_
  refine sx_RP.ild (c := 1) rfl hI.1.a116.1 hI.1.a116.2 (sx_in_nI (show 1 < 7 by omega) (by decide)) (show (nI 1).toNatClampNeg = 1 from nI_clamp (by omega)) (show _ = 7 from rfl) ?_
  refine sx_RP.step (pc2 := 8) (ls2 := [(0, .ref 111), (1, .int 1)]) (st2 := [.int 1, .int ((ia w 116).getD 1 0), .int 1, .ref 116]) (w3 := w) rfl rfl ?_
  refine sx_RP.step (pc2 := 9) (ls2 := [(0, .ref 111), (1, .int 1)]) (st2 := [.int (((ia w 116).getD 1 0) + 1), .int 1, .ref 116]) (w3 := w) rfl rfl ?_
  refine sx_RP.xF (c := 1) hI rfl hI.1.a116 (by decide) (by decide) (by omega) (show _ = 10 from rfl) (fun w1 hI2 hs3 hv4 => ?_)
  refine sx_RP.step (pc2 := 12) (ls2 := [(0, .ref 111), (1, .int 1)]) (st2 := [.int (-1000000001)]) (w3 := w1) rfl rfl ?_
  refine sx_RP.step (pc2 := 13) (ls2 := [(0, .ref 111), (1, .int 1)]) (st2 := [.int 1, .int (-1000000001)]) (w3 := w1) rfl rfl ?_
  refine sx_RP.step (pc2 := 14) (ls2 := [(0, .ref 111), (1, .int 1)]) (st2 := [.int (-1000000002)]) (w3 := w1) rfl rfl ?_
  refine sx_RP.ret (r := (some (.int (-1000000002)))) rfl rfl ?_
  exact ⟨rfl, hI2, hs3⟩
set_option maxRecDepth 20000 in
set_option maxHeartbeats 4000000 in
theorem S133_2 {xs : Option (List Int32)} {d : Nat} {w : List sx_C} (hI : WI w) : sx_RP xs d 133 0 (lv_args 0 [.ref 111, .int 2]) [] w (fun r w2 => r = some (.int (-1000000003)) ∧ WI w2 ∧ Same 116 w w2) := by
  refine sx_RP.step (pc2 := 1) (ls2 := [(0, .ref 111), (1, .int 2)]) (st2 := [.ref 111]) (w3 := w) rfl rfl ?_
  refine sx_RP.gf (v := .ref 116) rfl rfl hI.1.o111 rfl rfl (show _ = 4 from rfl) ?_
  refine sx_RP.step (pc2 := 5) (ls2 := [(0, .ref 111), (1, .int 2)]) (st2 := [.int 2, .ref 116]) (w3 := w) rfl rfl ?_
  refine sx_RP.step (pc2 := 6) (ls2 := [(0, .ref 111), (1, .int 2)]) (st2 := [.int 2, .ref 116, .int 2, .ref 116]) (w3 := w) rfl rfl ?_
  refine sx_RP.ild (c := 2) rfl hI.1.a116.1 hI.1.a116.2 (sx_in_nI (show 2 < 7 by omega) (by decide)) (show (nI 2).toNatClampNeg = 2 from nI_clamp (by omega)) (show _ = 7 from rfl) ?_
  refine sx_RP.step (pc2 := 8) (ls2 := [(0, .ref 111), (1, .int 2)]) (st2 := [.int 1, .int ((ia w 116).getD 2 0), .int 2, .ref 116]) (w3 := w) rfl rfl ?_
  refine sx_RP.step (pc2 := 9) (ls2 := [(0, .ref 111), (1, .int 2)]) (st2 := [.int (((ia w 116).getD 2 0) + 1), .int 2, .ref 116]) (w3 := w) rfl rfl ?_
  refine sx_RP.xF (c := 2) hI rfl hI.1.a116 (by decide) (by decide) (by omega) (show _ = 10 from rfl) (fun w1 hI2 hs3 hv4 => ?_)
  refine sx_RP.step (pc2 := 12) (ls2 := [(0, .ref 111), (1, .int 2)]) (st2 := [.int (-1000000001)]) (w3 := w1) rfl rfl ?_
  refine sx_RP.step (pc2 := 13) (ls2 := [(0, .ref 111), (1, .int 2)]) (st2 := [.int 2, .int (-1000000001)]) (w3 := w1) rfl rfl ?_
  refine sx_RP.step (pc2 := 14) (ls2 := [(0, .ref 111), (1, .int 2)]) (st2 := [.int (-1000000003)]) (w3 := w1) rfl rfl ?_
  refine sx_RP.ret (r := (some (.int (-1000000003)))) rfl rfl ?_
  exact ⟨rfl, hI2, hs3⟩
set_option maxRecDepth 20000 in
set_option maxHeartbeats 4000000 in
theorem S133_3 {xs : Option (List Int32)} {d : Nat} {w : List sx_C} (hI : WI w) : sx_RP xs d 133 0 (lv_args 0 [.ref 111, .int 3]) [] w (fun r w2 => r = some (.int (-1000000004)) ∧ WI w2 ∧ Same 116 w w2) := by
  refine sx_RP.step (pc2 := 1) (ls2 := [(0, .ref 111), (1, .int 3)]) (st2 := [.ref 111]) (w3 := w) rfl rfl ?_
  refine sx_RP.gf (v := .ref 116) rfl rfl hI.1.o111 rfl rfl (show _ = 4 from rfl) ?_
  refine sx_RP.step (pc2 := 5) (ls2 := [(0, .ref 111), (1, .int 3)]) (st2 := [.int 3, .ref 116]) (w3 := w) rfl rfl ?_
  refine sx_RP.step (pc2 := 6) (ls2 := [(0, .ref 111), (1, .int 3)]) (st2 := [.int 3, .ref 116, .int 3, .ref 116]) (w3 := w) rfl rfl ?_
  refine sx_RP.ild (c := 3) rfl hI.1.a116.1 hI.1.a116.2 (sx_in_nI (show 3 < 7 by omega) (by decide)) (show (nI 3).toNatClampNeg = 3 from nI_clamp (by omega)) (show _ = 7 from rfl) ?_
  refine sx_RP.step (pc2 := 8) (ls2 := [(0, .ref 111), (1, .int 3)]) (st2 := [.int 1, .int ((ia w 116).getD 3 0), .int 3, .ref 116]) (w3 := w) rfl rfl ?_
  refine sx_RP.step (pc2 := 9) (ls2 := [(0, .ref 111), (1, .int 3)]) (st2 := [.int (((ia w 116).getD 3 0) + 1), .int 3, .ref 116]) (w3 := w) rfl rfl ?_
  refine sx_RP.xF (c := 3) hI rfl hI.1.a116 (by decide) (by decide) (by omega) (show _ = 10 from rfl) (fun w1 hI2 hs3 hv4 => ?_)
  refine sx_RP.step (pc2 := 12) (ls2 := [(0, .ref 111), (1, .int 3)]) (st2 := [.int (-1000000001)]) (w3 := w1) rfl rfl ?_
  refine sx_RP.step (pc2 := 13) (ls2 := [(0, .ref 111), (1, .int 3)]) (st2 := [.int 3, .int (-1000000001)]) (w3 := w1) rfl rfl ?_
  refine sx_RP.step (pc2 := 14) (ls2 := [(0, .ref 111), (1, .int 3)]) (st2 := [.int (-1000000004)]) (w3 := w1) rfl rfl ?_
  refine sx_RP.ret (r := (some (.int (-1000000004)))) rfl rfl ?_
  exact ⟨rfl, hI2, hs3⟩
set_option maxRecDepth 20000 in
set_option maxHeartbeats 4000000 in
theorem S133_4 {xs : Option (List Int32)} {d : Nat} {w : List sx_C} (hI : WI w) : sx_RP xs d 133 0 (lv_args 0 [.ref 111, .int 4]) [] w (fun r w2 => r = some (.int (-1000000005)) ∧ WI w2 ∧ Same 116 w w2) := by
  refine sx_RP.step (pc2 := 1) (ls2 := [(0, .ref 111), (1, .int 4)]) (st2 := [.ref 111]) (w3 := w) rfl rfl ?_
  refine sx_RP.gf (v := .ref 116) rfl rfl hI.1.o111 rfl rfl (show _ = 4 from rfl) ?_
  refine sx_RP.step (pc2 := 5) (ls2 := [(0, .ref 111), (1, .int 4)]) (st2 := [.int 4, .ref 116]) (w3 := w) rfl rfl ?_
  refine sx_RP.step (pc2 := 6) (ls2 := [(0, .ref 111), (1, .int 4)]) (st2 := [.int 4, .ref 116, .int 4, .ref 116]) (w3 := w) rfl rfl ?_
  refine sx_RP.ild (c := 4) rfl hI.1.a116.1 hI.1.a116.2 (sx_in_nI (show 4 < 7 by omega) (by decide)) (show (nI 4).toNatClampNeg = 4 from nI_clamp (by omega)) (show _ = 7 from rfl) ?_
  refine sx_RP.step (pc2 := 8) (ls2 := [(0, .ref 111), (1, .int 4)]) (st2 := [.int 1, .int ((ia w 116).getD 4 0), .int 4, .ref 116]) (w3 := w) rfl rfl ?_
  refine sx_RP.step (pc2 := 9) (ls2 := [(0, .ref 111), (1, .int 4)]) (st2 := [.int (((ia w 116).getD 4 0) + 1), .int 4, .ref 116]) (w3 := w) rfl rfl ?_
  refine sx_RP.xF (c := 4) hI rfl hI.1.a116 (by decide) (by decide) (by omega) (show _ = 10 from rfl) (fun w1 hI2 hs3 hv4 => ?_)
  refine sx_RP.step (pc2 := 12) (ls2 := [(0, .ref 111), (1, .int 4)]) (st2 := [.int (-1000000001)]) (w3 := w1) rfl rfl ?_
  refine sx_RP.step (pc2 := 13) (ls2 := [(0, .ref 111), (1, .int 4)]) (st2 := [.int 4, .int (-1000000001)]) (w3 := w1) rfl rfl ?_
  refine sx_RP.step (pc2 := 14) (ls2 := [(0, .ref 111), (1, .int 4)]) (st2 := [.int (-1000000005)]) (w3 := w1) rfl rfl ?_
  refine sx_RP.ret (r := (some (.int (-1000000005)))) rfl rfl ?_
  exact ⟨rfl, hI2, hs3⟩
set_option maxRecDepth 20000 in
set_option maxHeartbeats 4000000 in
theorem S133_5 {xs : Option (List Int32)} {d : Nat} {w : List sx_C} (hI : WI w) : sx_RP xs d 133 0 (lv_args 0 [.ref 111, .int 5]) [] w (fun r w2 => r = some (.int (-1000000006)) ∧ WI w2 ∧ Same 116 w w2) := by
  refine sx_RP.step (pc2 := 1) (ls2 := [(0, .ref 111), (1, .int 5)]) (st2 := [.ref 111]) (w3 := w) rfl rfl ?_
  refine sx_RP.gf (v := .ref 116) rfl rfl hI.1.o111 rfl rfl (show _ = 4 from rfl) ?_
  refine sx_RP.step (pc2 := 5) (ls2 := [(0, .ref 111), (1, .int 5)]) (st2 := [.int 5, .ref 116]) (w3 := w) rfl rfl ?_
  refine sx_RP.step (pc2 := 6) (ls2 := [(0, .ref 111), (1, .int 5)]) (st2 := [.int 5, .ref 116, .int 5, .ref 116]) (w3 := w) rfl rfl ?_
  refine sx_RP.ild (c := 5) rfl hI.1.a116.1 hI.1.a116.2 (sx_in_nI (show 5 < 7 by omega) (by decide)) (show (nI 5).toNatClampNeg = 5 from nI_clamp (by omega)) (show _ = 7 from rfl) ?_
  refine sx_RP.step (pc2 := 8) (ls2 := [(0, .ref 111), (1, .int 5)]) (st2 := [.int 1, .int ((ia w 116).getD 5 0), .int 5, .ref 116]) (w3 := w) rfl rfl ?_
  refine sx_RP.step (pc2 := 9) (ls2 := [(0, .ref 111), (1, .int 5)]) (st2 := [.int (((ia w 116).getD 5 0) + 1), .int 5, .ref 116]) (w3 := w) rfl rfl ?_
  refine sx_RP.xF (c := 5) hI rfl hI.1.a116 (by decide) (by decide) (by omega) (show _ = 10 from rfl) (fun w1 hI2 hs3 hv4 => ?_)
  refine sx_RP.step (pc2 := 12) (ls2 := [(0, .ref 111), (1, .int 5)]) (st2 := [.int (-1000000001)]) (w3 := w1) rfl rfl ?_
  refine sx_RP.step (pc2 := 13) (ls2 := [(0, .ref 111), (1, .int 5)]) (st2 := [.int 5, .int (-1000000001)]) (w3 := w1) rfl rfl ?_
  refine sx_RP.step (pc2 := 14) (ls2 := [(0, .ref 111), (1, .int 5)]) (st2 := [.int (-1000000006)]) (w3 := w1) rfl rfl ?_
  refine sx_RP.ret (r := (some (.int (-1000000006)))) rfl rfl ?_
  exact ⟨rfl, hI2, hs3⟩
set_option maxRecDepth 20000 in
set_option maxHeartbeats 4000000 in
theorem S133_6 {xs : Option (List Int32)} {d : Nat} {w : List sx_C} (hI : WI w) : sx_RP xs d 133 0 (lv_args 0 [.ref 111, .int 6]) [] w (fun r w2 => r = some (.int (-1000000007)) ∧ WI w2 ∧ Same 116 w w2) := by
  refine sx_RP.step (pc2 := 1) (ls2 := [(0, .ref 111), (1, .int 6)]) (st2 := [.ref 111]) (w3 := w) rfl rfl ?_
  refine sx_RP.gf (v := .ref 116) rfl rfl hI.1.o111 rfl rfl (show _ = 4 from rfl) ?_
  refine sx_RP.step (pc2 := 5) (ls2 := [(0, .ref 111), (1, .int 6)]) (st2 := [.int 6, .ref 116]) (w3 := w) rfl rfl ?_
  refine sx_RP.step (pc2 := 6) (ls2 := [(0, .ref 111), (1, .int 6)]) (st2 := [.int 6, .ref 116, .int 6, .ref 116]) (w3 := w) rfl rfl ?_
  refine sx_RP.ild (c := 6) rfl hI.1.a116.1 hI.1.a116.2 (sx_in_nI (show 6 < 7 by omega) (by decide)) (show (nI 6).toNatClampNeg = 6 from nI_clamp (by omega)) (show _ = 7 from rfl) ?_
  refine sx_RP.step (pc2 := 8) (ls2 := [(0, .ref 111), (1, .int 6)]) (st2 := [.int 1, .int ((ia w 116).getD 6 0), .int 6, .ref 116]) (w3 := w) rfl rfl ?_
  refine sx_RP.step (pc2 := 9) (ls2 := [(0, .ref 111), (1, .int 6)]) (st2 := [.int (((ia w 116).getD 6 0) + 1), .int 6, .ref 116]) (w3 := w) rfl rfl ?_
  refine sx_RP.xF (c := 6) hI rfl hI.1.a116 (by decide) (by decide) (by omega) (show _ = 10 from rfl) (fun w1 hI2 hs3 hv4 => ?_)
  refine sx_RP.step (pc2 := 12) (ls2 := [(0, .ref 111), (1, .int 6)]) (st2 := [.int (-1000000001)]) (w3 := w1) rfl rfl ?_
  refine sx_RP.step (pc2 := 13) (ls2 := [(0, .ref 111), (1, .int 6)]) (st2 := [.int 6, .int (-1000000001)]) (w3 := w1) rfl rfl ?_
  refine sx_RP.step (pc2 := 14) (ls2 := [(0, .ref 111), (1, .int 6)]) (st2 := [.int (-1000000007)]) (w3 := w1) rfl rfl ?_
  refine sx_RP.ret (r := (some (.int (-1000000007)))) rfl rfl ?_
  exact ⟨rfl, hI2, hs3⟩
def gndA (l : List Int32) (a1 a2 : Int32) : Int32 := if ¬ ((0 ≤ a1 ∧ a1 ≤ 47) ∧ (0 ≤ a2 ∧ a2 ≤ 3)) then -1000000001 else (l.getD (7 + iN a1) 0)
def gndR (l : List Int32) (a1 a2 : Int32) : List Int32 := if ¬ ((0 ≤ a1 ∧ a1 ≤ 47) ∧ (0 ≤ a2 ∧ a2 ≤ 3)) then l else (l.set (7 + iN a1) a2)
theorem gnd_1 {l : List Int32} {a1 a2 : Int32} (h0 : ¬ ((0 ≤ a1 ∧ a1 ≤ 47) ∧ (0 ≤ a2 ∧ a2 ≤ 3))) : gndA l a1 a2 = -1000000001 ∧ gndR l a1 a2 = l := ⟨if_pos h0, if_pos h0⟩
theorem gnd_z {l : List Int32} {a1 a2 : Int32} (h0 : ¬ (¬ ((0 ≤ a1 ∧ a1 ≤ 47) ∧ (0 ≤ a2 ∧ a2 ≤ 3)))) : gndA l a1 a2 = l.getD (7 + iN a1) 0 ∧ gndR l a1 a2 = l.set (7 + iN a1) a2 := ⟨if_neg h0, if_neg h0⟩
set_option maxRecDepth 20000 in
set_option maxHeartbeats 4000000 in
theorem Z6 {xs : Option (List Int32)} {d : Nat} {w : List sx_C} (hI : WI w) (l : List Int32) (hR : rel w 1 l) (a1 a2 : Int32) : sx_RP xs (d + 7) 6 0 (lv_args 0 [.ref 0, .int a1, .int a2]) [] w (fun r w2 => (r = some (.int (gndA l a1 a2)) ∧ rel w2 1 (gndR l a1 a2)) ∧ WI w2 ∧ EO w w2) := by
  refine sx_RP.step (pc2 := 1) (ls2 := [(0, .ref 0), (1, .int a1), (2, .int a2)]) (st2 := [.int a1]) (w3 := w) rfl rfl ?_
  rcases in_cases a1 0 47 (m := 0) (n := 47) rfl rfl (by decide) (by decide) with q1 | ⟨x2, hx3, hx4, rfl⟩
  · refine sx_RP.cu (as := [.int a1]) (rest2 := []) (st3 := [.int 0]) rfl rfl rfl rfl rfl (cx_7n q1) rfl ?_
    refine sx_RP.step (pc2 := 16) (ls2 := [(0, .ref 0), (1, .int a1), (2, .int a2)]) (st2 := []) (w3 := w) rfl rfl ?_
    refine sx_RP.step (pc2 := 17) (ls2 := [(0, .ref 0), (1, .int a1), (2, .int a2)]) (st2 := [.ref 0]) (w3 := w) rfl rfl ?_
    refine sx_RP.step (pc2 := 19) (ls2 := [(0, .ref 0), (1, .int a1), (2, .int a2)]) (st2 := [.int (-1000000001), .ref 0]) (w3 := w) rfl rfl ?_
    refine sx_RP.callp (as2 := [.ref 0, .int (-1000000001)]) (rest2 := []) rfl rfl (sx_inv_v2 (mi := 6) (k := 78) (st := [.int (-1000000001), .ref 0]) (w := w) rfl rfl hI.1.o0 rfl rfl rfl) rfl rfl rfl (S9_0 hI) (show _ = 22 from rfl) ?_
    rintro r4 w7 ⟨rfl, hI8, hs6⟩
    show sx_RP _ _ _ _ _ [.int (-1000000001)] _ _
    refine sx_RP.ret (r := (some (.int (-1000000001)))) rfl rfl ?_
    exact ⟨⟨by rw [(gnd_1 (l := l) (fun z => q1 z.1)).1], by rw [(gnd_1 (l := l) (fun z => q1 z.1)).2]; exact hR.same hI (Or.inl rfl) (fun a h1 h2 => hs6 a (by omega))⟩, hI8, fun a ha => hs6 a (by unfold oc at ha; omega)⟩
  · refine sx_RP.cu (as := [.int (nI x2)]) (rest2 := []) (st3 := [.int 1]) rfl rfl rfl rfl rfl (cx_7p ⟨nI_le (a := 0) hx3 (by omega), nI_le (b := 47) hx4 (by decide)⟩) rfl ?_
    refine sx_RP.step (pc2 := 7) (ls2 := [(0, .ref 0), (1, .int (nI x2)), (2, .int a2)]) (st2 := []) (w3 := w) rfl rfl ?_
    refine sx_RP.step (pc2 := 8) (ls2 := [(0, .ref 0), (1, .int (nI x2)), (2, .int a2)]) (st2 := [.int a2]) (w3 := w) rfl rfl ?_
    refine sx_RP.step (pc2 := 9) (ls2 := [(0, .ref 0), (1, .int (nI x2)), (2, .int a2)]) (st2 := [.int 0, .int a2]) (w3 := w) rfl rfl ?_
    refine sx_RP.step (pc2 := 10) (ls2 := [(0, .ref 0), (1, .int (nI x2)), (2, .int a2)]) (st2 := [.int 3, .int 0, .int a2]) (w3 := w) rfl rfl ?_
    rcases in_cases a2 0 3 (m := 0) (n := 3) rfl rfl (by decide) (by decide) with q9 | ⟨x10, hx11, hx12, rfl⟩
    · refine sx_RP.cu (as := [.int a2, .int 0, .int 3]) (rest2 := []) (st3 := [.int 0]) rfl rfl rfl rfl rfl (cx_8n q9) rfl ?_
      refine sx_RP.step (pc2 := 16) (ls2 := [(0, .ref 0), (1, .int (nI x2)), (2, .int a2)]) (st2 := []) (w3 := w) rfl rfl ?_
      refine sx_RP.step (pc2 := 17) (ls2 := [(0, .ref 0), (1, .int (nI x2)), (2, .int a2)]) (st2 := [.ref 0]) (w3 := w) rfl rfl ?_
      refine sx_RP.step (pc2 := 19) (ls2 := [(0, .ref 0), (1, .int (nI x2)), (2, .int a2)]) (st2 := [.int (-1000000001), .ref 0]) (w3 := w) rfl rfl ?_
      refine sx_RP.callp (as2 := [.ref 0, .int (-1000000001)]) (rest2 := []) rfl rfl (sx_inv_v2 (mi := 6) (k := 78) (st := [.int (-1000000001), .ref 0]) (w := w) rfl rfl hI.1.o0 rfl rfl rfl) rfl rfl rfl (S9_0 hI) (show _ = 22 from rfl) ?_
      rintro r4 w15 ⟨rfl, hI16, hs14⟩
      show sx_RP _ _ _ _ _ [.int (-1000000001)] _ _
      refine sx_RP.ret (r := (some (.int (-1000000001)))) rfl rfl ?_
      exact ⟨⟨by rw [(gnd_1 (l := l) (fun z => q9 z.2)).1], by rw [(gnd_1 (l := l) (fun z => q9 z.2)).2]; exact hR.same hI (Or.inl rfl) (fun a h1 h2 => hs14 a (by omega))⟩, hI16, fun a ha => hs14 a (by unfold oc at ha; omega)⟩
    · refine sx_RP.cu (as := [.int (nI x10), .int 0, .int 3]) (rest2 := []) (st3 := [.int 1]) rfl rfl rfl rfl rfl (cx_8p ⟨nI_le (a := 0) hx11 (by omega), nI_le (b := 3) hx12 (by decide)⟩) rfl ?_
      refine sx_RP.step (pc2 := 23) (ls2 := [(0, .ref 0), (1, .int (nI x2)), (2, .int (nI x10))]) (st2 := []) (w3 := w) rfl rfl ?_
      refine sx_RP.step (pc2 := 24) (ls2 := [(0, .ref 0), (1, .int (nI x2)), (2, .int (nI x10))]) (st2 := [.ref 0]) (w3 := w) rfl rfl ?_
      refine sx_RP.gf (v := .ref 1) rfl rfl hI.1.o0 rfl rfl (show _ = 27 from rfl) ?_
      refine sx_RP.gref (k := 0) (b := 2) hI (Or.inl rfl) rfl rfl (by omega) (show _ = 30 from rfl) ?_
      refine sx_RP.step (pc2 := 31) (ls2 := [(0, .ref 0), (1, .int (nI x2)), (2, .int (nI x10))]) (st2 := [.int (nI x2), .ref 2]) (w3 := w) rfl rfl ?_
      refine sx_RP.ild (c := x2) rfl (hI.1.aS (Or.inl rfl)).1 (hI.1.aS (Or.inl rfl)).2 (sx_in_nI (show x2 < 48 by omega) (by decide)) (show (nI x2).toNatClampNeg = x2 from nI_clamp (by omega)) (show _ = 32 from rfl) ?_
      obtain ⟨x17, hx18, ex19⟩ : inR ((ia w 2).getD x2 0) 3 := hI.st (Or.inl rfl) (show x2 < 48 by omega)
      rw [ex19]
      refine sx_RP.step (pc2 := 33) (ls2 := [(3, .int (nI x17)), (0, .ref 0), (1, .int (nI x2)), (2, .int (nI x10))]) (st2 := []) (w3 := w) rfl rfl ?_
      refine sx_RP.step (pc2 := 34) (ls2 := [(3, .int (nI x17)), (0, .ref 0), (1, .int (nI x2)), (2, .int (nI x10))]) (st2 := [.ref 0]) (w3 := w) rfl rfl ?_
      refine sx_RP.gf (v := .ref 1) rfl rfl hI.1.o0 rfl rfl (show _ = 37 from rfl) ?_
      refine sx_RP.gref (k := 0) (b := 2) hI (Or.inl rfl) rfl rfl (by omega) (show _ = 40 from rfl) ?_
      refine sx_RP.step (pc2 := 41) (ls2 := [(3, .int (nI x17)), (0, .ref 0), (1, .int (nI x2)), (2, .int (nI x10))]) (st2 := [.int (nI x2), .ref 2]) (w3 := w) rfl rfl ?_
      refine sx_RP.step (pc2 := 42) (ls2 := [(3, .int (nI x17)), (0, .ref 0), (1, .int (nI x2)), (2, .int (nI x10))]) (st2 := [.int (nI x10), .int (nI x2), .ref 2]) (w3 := w) rfl rfl ?_
      refine sx_RP.xS (A := 1) (c := x2) hI (Or.inl rfl) rfl (show x2 < 48 by omega) (inR.n (show x10 ≤ 3 by omega)) (show _ = 43 from rfl) (fun w20 hI21 hs22 hv23 => ?_)
      refine sx_RP.step (pc2 := 44) (ls2 := [(3, .int (nI x17)), (0, .ref 0), (1, .int (nI x2)), (2, .int (nI x10))]) (st2 := [.int (nI x17)]) (w3 := w20) rfl rfl ?_
      refine sx_RP.ret (r := (some (.int (nI x17)))) rfl rfl ?_
      refine ⟨⟨?_, ?_⟩, hI21, fun a ha => hs22 a (by unfold oc at ha; omega)⟩
      · rw [(gnd_z (l := l) (fun z => z ⟨⟨nI_le (a := 0) (show 0 ≤ x2 by omega) (by omega), nI_le (b := 47) (show x2 ≤ 47 by omega) (by decide)⟩, ⟨nI_le (a := 0) (show 0 ≤ x10 by omega) (by omega), nI_le (b := 3) (show x10 ≤ 3 by omega) (by decide)⟩⟩)).1, iN_n (show x2 < 2 ^ 31 by omega)]
        exact congrArg (fun v => some (Value.int v)) (ex19.symm.trans (hR.gr (c := x2) (by omega)))
      · rw [(gnd_z (l := l) (fun z => z ⟨⟨nI_le (a := 0) (show 0 ≤ x2 by omega) (by omega), nI_le (b := 47) (show x2 ≤ 47 by omega) (by decide)⟩, ⟨nI_le (a := 0) (show 0 ≤ x10 by omega) (by omega), nI_le (b := 3) (show x10 ≤ 3 by omega) (by decide)⟩⟩)).2, iN_n (show x2 < 2 ^ 31 by omega)]
        exact hR.sGr hI (Or.inl rfl) (by omega) hs22 hv23
set_option maxRecDepth 20000 in
set_option maxHeartbeats 4000000 in
theorem Y130 {xs : Option (List Int32)} {d : Nat} {w : List sx_C} (hI : WI w) (a1 a2 : Int32) : sx_RP xs (d + 7) 130 0 (lv_args 0 [.ref 111, .int a1, .int a2]) [] w (fun r w2 => (r = some (.int (gndA (ia w 112) a1 a2)) ∧ ia w2 112 = gndR (ia w 112) a1 a2) ∧ WI w2 ∧ EOm w w2) := by
  refine sx_RP.step (pc2 := 1) (ls2 := [(0, .ref 111), (1, .int a1), (2, .int a2)]) (st2 := [.int a1]) (w3 := w) rfl rfl ?_
  rcases in_cases a1 0 47 (m := 0) (n := 47) rfl rfl (by decide) (by decide) with q1 | ⟨x2, hx3, hx4, rfl⟩
  · refine sx_RP.cu (as := [.int a1]) (rest2 := []) (st3 := [.int 0]) rfl rfl rfl rfl rfl (cx_131n q1) rfl ?_
    refine sx_RP.step (pc2 := 16) (ls2 := [(0, .ref 111), (1, .int a1), (2, .int a2)]) (st2 := []) (w3 := w) rfl rfl ?_
    refine sx_RP.step (pc2 := 17) (ls2 := [(0, .ref 111), (1, .int a1), (2, .int a2)]) (st2 := [.ref 111]) (w3 := w) rfl rfl ?_
    refine sx_RP.step (pc2 := 18) (ls2 := [(0, .ref 111), (1, .int a1), (2, .int a2)]) (st2 := [.int 0, .ref 111]) (w3 := w) rfl rfl ?_
    refine sx_RP.callp (as2 := [.ref 111, .int 0]) (rest2 := []) rfl rfl (sx_inv_v2 (mi := 130) (k := 70) (st := [.int 0, .ref 111]) (w := w) rfl rfl hI.1.o111 rfl rfl rfl) rfl rfl rfl (S133_0 hI) (show _ = 21 from rfl) ?_
    rintro r4 w7 ⟨rfl, hI8, hs6⟩
    show sx_RP _ _ _ _ _ [.int (-1000000001)] _ _
    refine sx_RP.ret (r := (some (.int (-1000000001)))) rfl rfl ?_
    exact ⟨⟨by rw [(gnd_1 (fun z => q1 z.1)).1], by rw [(gnd_1 (fun z => q1 z.1)).2]; exact ia_of (hs6 112 (by decide))⟩, hI8, fun a ha => hs6 a (by unfold ocm at ha; omega)⟩
  · refine sx_RP.cu (as := [.int (nI x2)]) (rest2 := []) (st3 := [.int 1]) rfl rfl rfl rfl rfl (cx_131p ⟨nI_le (a := 0) hx3 (by omega), nI_le (b := 47) hx4 (by decide)⟩) rfl ?_
    refine sx_RP.step (pc2 := 7) (ls2 := [(0, .ref 111), (1, .int (nI x2)), (2, .int a2)]) (st2 := []) (w3 := w) rfl rfl ?_
    refine sx_RP.step (pc2 := 8) (ls2 := [(0, .ref 111), (1, .int (nI x2)), (2, .int a2)]) (st2 := [.int a2]) (w3 := w) rfl rfl ?_
    refine sx_RP.step (pc2 := 9) (ls2 := [(0, .ref 111), (1, .int (nI x2)), (2, .int a2)]) (st2 := [.int 0, .int a2]) (w3 := w) rfl rfl ?_
    refine sx_RP.step (pc2 := 10) (ls2 := [(0, .ref 111), (1, .int (nI x2)), (2, .int a2)]) (st2 := [.int 3, .int 0, .int a2]) (w3 := w) rfl rfl ?_
    rcases in_cases a2 0 3 (m := 0) (n := 3) rfl rfl (by decide) (by decide) with q9 | ⟨x10, hx11, hx12, rfl⟩
    · refine sx_RP.cu (as := [.int a2, .int 0, .int 3]) (rest2 := []) (st3 := [.int 0]) rfl rfl rfl rfl rfl (cx_132o q9) rfl ?_
      refine sx_RP.step (pc2 := 16) (ls2 := [(0, .ref 111), (1, .int (nI x2)), (2, .int a2)]) (st2 := []) (w3 := w) rfl rfl ?_
      refine sx_RP.step (pc2 := 17) (ls2 := [(0, .ref 111), (1, .int (nI x2)), (2, .int a2)]) (st2 := [.ref 111]) (w3 := w) rfl rfl ?_
      refine sx_RP.step (pc2 := 18) (ls2 := [(0, .ref 111), (1, .int (nI x2)), (2, .int a2)]) (st2 := [.int 0, .ref 111]) (w3 := w) rfl rfl ?_
      refine sx_RP.callp (as2 := [.ref 111, .int 0]) (rest2 := []) rfl rfl (sx_inv_v2 (mi := 130) (k := 70) (st := [.int 0, .ref 111]) (w := w) rfl rfl hI.1.o111 rfl rfl rfl) rfl rfl rfl (S133_0 hI) (show _ = 21 from rfl) ?_
      rintro r4 w15 ⟨rfl, hI16, hs14⟩
      show sx_RP _ _ _ _ _ [.int (-1000000001)] _ _
      refine sx_RP.ret (r := (some (.int (-1000000001)))) rfl rfl ?_
      exact ⟨⟨by rw [(gnd_1 (fun z => q9 z.2)).1], by rw [(gnd_1 (fun z => q9 z.2)).2]; exact ia_of (hs14 112 (by decide))⟩, hI16, fun a ha => hs14 a (by unfold ocm at ha; omega)⟩
    · refine sx_RP.cu (as := [.int (nI x10), .int 0, .int 3]) (rest2 := []) (st3 := [.int 1]) rfl rfl rfl rfl rfl (cx_132p ⟨nI_le (a := 0) hx11 (by omega), nI_le (b := 3) hx12 (by decide)⟩) rfl ?_
      refine sx_RP.step (pc2 := 22) (ls2 := [(0, .ref 111), (1, .int (nI x2)), (2, .int (nI x10))]) (st2 := []) (w3 := w) rfl rfl ?_
      refine sx_RP.step (pc2 := 23) (ls2 := [(0, .ref 111), (1, .int (nI x2)), (2, .int (nI x10))]) (st2 := [.ref 111]) (w3 := w) rfl rfl ?_
      refine sx_RP.gf (v := .ref 112) rfl rfl hI.1.o111 rfl rfl (show _ = 26 from rfl) ?_
      refine sx_RP.step (pc2 := 28) (ls2 := [(0, .ref 111), (1, .int (nI x2)), (2, .int (nI x10))]) (st2 := [.int 7, .ref 112]) (w3 := w) rfl rfl ?_
      refine sx_RP.step (pc2 := 29) (ls2 := [(0, .ref 111), (1, .int (nI x2)), (2, .int (nI x10))]) (st2 := [.int (nI x2), .int 7, .ref 112]) (w3 := w) rfl rfl ?_
      refine sx_RP.step (pc2 := 30) (ls2 := [(0, .ref 111), (1, .int (nI x2)), (2, .int (nI x10))]) (st2 := [.int (7 + (nI x2)), .ref 112]) (w3 := w) rfl rfl ?_
      rw [show (7 + (nI x2) : Int32) = nI (7 + x2) from nI_add 7 x2]
      refine sx_RP.ild (c := (7 + x2)) rfl hI.1.a112.1 hI.1.a112.2 (sx_in_nI (show (7 + x2) < 172 by omega) (by decide)) (show (nI (7 + x2)).toNatClampNeg = (7 + x2) from nI_clamp (by omega)) (show _ = 31 from rfl) ?_
      obtain ⟨x17, hx18, ex19⟩ : inR ((ia w 112).getD (7 + x2) 0) 3 := (hI.s ((7 + x2)) (by omega)).2.2.1 (by omega)
      rw [ex19]
      refine sx_RP.step (pc2 := 32) (ls2 := [(3, .int (nI x17)), (0, .ref 111), (1, .int (nI x2)), (2, .int (nI x10))]) (st2 := []) (w3 := w) rfl rfl ?_
      refine sx_RP.step (pc2 := 33) (ls2 := [(3, .int (nI x17)), (0, .ref 111), (1, .int (nI x2)), (2, .int (nI x10))]) (st2 := [.ref 111]) (w3 := w) rfl rfl ?_
      refine sx_RP.gf (v := .ref 112) rfl rfl hI.1.o111 rfl rfl (show _ = 36 from rfl) ?_
      refine sx_RP.step (pc2 := 38) (ls2 := [(3, .int (nI x17)), (0, .ref 111), (1, .int (nI x2)), (2, .int (nI x10))]) (st2 := [.int 7, .ref 112]) (w3 := w) rfl rfl ?_
      refine sx_RP.step (pc2 := 39) (ls2 := [(3, .int (nI x17)), (0, .ref 111), (1, .int (nI x2)), (2, .int (nI x10))]) (st2 := [.int (nI x2), .int 7, .ref 112]) (w3 := w) rfl rfl ?_
      refine sx_RP.step (pc2 := 40) (ls2 := [(3, .int (nI x17)), (0, .ref 111), (1, .int (nI x2)), (2, .int (nI x10))]) (st2 := [.int (7 + (nI x2)), .ref 112]) (w3 := w) rfl rfl ?_
      rw [show (7 + (nI x2) : Int32) = nI (7 + x2) from nI_add 7 x2]
      refine sx_RP.step (pc2 := 41) (ls2 := [(3, .int (nI x17)), (0, .ref 111), (1, .int (nI x2)), (2, .int (nI x10))]) (st2 := [.int (nI x10), .int (nI (7 + x2)), .ref 112]) (w3 := w) rfl rfl ?_
      refine sx_RP.xM (k := (7 + x2)) hI (by decide) rfl (by omega) (eOK_st (by omega) (inR.n (show x10 ≤ 3 by omega))) (show _ = 42 from rfl) (fun w20 hI21 hs22 hv23 => ?_)
      refine sx_RP.step (pc2 := 43) (ls2 := [(3, .int (nI x17)), (0, .ref 111), (1, .int (nI x2)), (2, .int (nI x10))]) (st2 := [.int (nI x17)]) (w3 := w20) rfl rfl ?_
      refine sx_RP.ret (r := (some (.int (nI x17)))) rfl rfl ?_
      exact ⟨⟨by rw [(gnd_z (l := ia w 112) (fun z => z ⟨⟨nI_le (a := 0) (show 0 ≤ x2 by omega) (by omega), nI_le (b := 47) (show x2 ≤ 47 by omega) (by decide)⟩, ⟨nI_le (a := 0) (show 0 ≤ x10 by omega) (by omega), nI_le (b := 3) (show x10 ≤ 3 by omega) (by decide)⟩⟩)).1, iN_n (show x2 < 2 ^ 31 by omega), ex19], by rw [(gnd_z (l := ia w 112) (fun z => z ⟨⟨nI_le (a := 0) (show 0 ≤ x2 by omega) (by omega), nI_le (b := 47) (show x2 ≤ 47 by omega) (by decide)⟩, ⟨nI_le (a := 0) (show 0 ≤ x10 by omega) (by omega), nI_le (b := 3) (show x10 ≤ 3 by omega) (by decide)⟩⟩)).2, iN_n (show x2 < 2 ^ 31 by omega), hv23]⟩, hI21, fun a ha => hs22 a (by unfold ocm at ha; omega)⟩
set_option maxRecDepth 20000 in
set_option maxHeartbeats 4000000 in
theorem x11t {xs : Option (List Int32)} {d c : Nat} {w : List sx_C} (hI : WI w) {A : Nat} (hA : isA A) (hc : c < 48) (hb : bitL (fj w A 1) c = true) : sx_RU xs d 11 0 (lv_args 0 [.ref A, .int (nI c)]) [] w (some (.int 1)) w := by
  have h : sx_RP xs d 11 0 (lv_args 0 [.ref A, .int (nI c)]) [] w (fun r w2 => r = some (.int 1) ∧ w2 = w) := by
    refine sx_RP.step (pc2 := 1) (ls2 := [(0, .ref A), (1, .int (nI c))]) (st2 := [.ref A]) (w3 := w) rfl rfl ?_
    refine sx_RP.gw hI hA rfl rfl (show _ = 4 from rfl) ?_
    refine sx_RP.step (pc2 := 5) (ls2 := [(0, .ref A), (1, .int (nI c))]) (st2 := [.int (nI c), .long (fj w A 1)]) (w3 := w) rfl rfl ?_
    refine sx_RP.step (pc2 := 6) (ls2 := [(0, .ref A), (1, .int (nI c))]) (st2 := [.long (((fj w A 1).toUInt64 >>> ((nI c).toInt64.toUInt64 &&& Int64.toUInt64 63)).toInt64)]) (w3 := w) rfl rfl ?_
    refine sx_RP.step (pc2 := 7) (ls2 := [(0, .ref A), (1, .int (nI c))]) (st2 := [.long 1, .long (((fj w A 1).toUInt64 >>> ((nI c).toInt64.toUInt64 &&& Int64.toUInt64 63)).toInt64)]) (w3 := w) rfl rfl ?_
    refine sx_RP.step (pc2 := 8) (ls2 := [(0, .ref A), (1, .int (nI c))]) (st2 := [.long ((((fj w A 1).toUInt64 >>> ((nI c).toInt64.toUInt64 &&& Int64.toUInt64 63)).toInt64) &&& 1)]) (w3 := w) rfl rfl ?_
    refine sx_RP.step (pc2 := 9) (ls2 := [(0, .ref A), (1, .int (nI c))]) (st2 := [.long 1, .long ((((fj w A 1).toUInt64 >>> ((nI c).toInt64.toUInt64 &&& Int64.toUInt64 63)).toInt64) &&& 1)]) (w3 := w) rfl rfl ?_
    refine sx_RP.step (pc2 := 10) (ls2 := [(0, .ref A), (1, .int (nI c))]) (st2 := [.int (lg_cmp ((((fj w A 1).toUInt64 >>> ((nI c).toInt64.toUInt64 &&& Int64.toUInt64 63)).toInt64) &&& 1) 1)]) (w3 := w) rfl rfl ?_
    refine sx_RP.br (p2 := 13) (l2 := [(0, .ref A), (1, .int (nI c))]) (s2 := []) (v2 := w) rfl rfl (fun q => absurd (of_decide_eq_true q) (fun z => z ((bit_1 (by omega)).mpr hb))) (fun _ => ?_)
    refine sx_RP.step (pc2 := 14) (ls2 := [(0, .ref A), (1, .int (nI c))]) (st2 := [.int 1]) (w3 := w) rfl rfl ?_
    refine sx_RP.step (pc2 := 18) (ls2 := [(0, .ref A), (1, .int (nI c))]) (st2 := [.int 1]) (w3 := w) rfl rfl ?_
    refine sx_RP.ret (r := (some (.int 1))) rfl rfl ?_
    exact ⟨rfl, rfl⟩
  obtain ⟨r, w2, h1, rfl, rfl⟩ := h
  exact h1
set_option maxRecDepth 20000 in
set_option maxHeartbeats 4000000 in
theorem x11f {xs : Option (List Int32)} {d c : Nat} {w : List sx_C} (hI : WI w) {A : Nat} (hA : isA A) (hc : c < 48) (hb : bitL (fj w A 1) c = false) : sx_RU xs d 11 0 (lv_args 0 [.ref A, .int (nI c)]) [] w (some (.int 0)) w := by
  have h : sx_RP xs d 11 0 (lv_args 0 [.ref A, .int (nI c)]) [] w (fun r w2 => r = some (.int 0) ∧ w2 = w) := by
    refine sx_RP.step (pc2 := 1) (ls2 := [(0, .ref A), (1, .int (nI c))]) (st2 := [.ref A]) (w3 := w) rfl rfl ?_
    refine sx_RP.gw hI hA rfl rfl (show _ = 4 from rfl) ?_
    refine sx_RP.step (pc2 := 5) (ls2 := [(0, .ref A), (1, .int (nI c))]) (st2 := [.int (nI c), .long (fj w A 1)]) (w3 := w) rfl rfl ?_
    refine sx_RP.step (pc2 := 6) (ls2 := [(0, .ref A), (1, .int (nI c))]) (st2 := [.long (((fj w A 1).toUInt64 >>> ((nI c).toInt64.toUInt64 &&& Int64.toUInt64 63)).toInt64)]) (w3 := w) rfl rfl ?_
    refine sx_RP.step (pc2 := 7) (ls2 := [(0, .ref A), (1, .int (nI c))]) (st2 := [.long 1, .long (((fj w A 1).toUInt64 >>> ((nI c).toInt64.toUInt64 &&& Int64.toUInt64 63)).toInt64)]) (w3 := w) rfl rfl ?_
    refine sx_RP.step (pc2 := 8) (ls2 := [(0, .ref A), (1, .int (nI c))]) (st2 := [.long ((((fj w A 1).toUInt64 >>> ((nI c).toInt64.toUInt64 &&& Int64.toUInt64 63)).toInt64) &&& 1)]) (w3 := w) rfl rfl ?_
    refine sx_RP.step (pc2 := 9) (ls2 := [(0, .ref A), (1, .int (nI c))]) (st2 := [.long 1, .long ((((fj w A 1).toUInt64 >>> ((nI c).toInt64.toUInt64 &&& Int64.toUInt64 63)).toInt64) &&& 1)]) (w3 := w) rfl rfl ?_
    refine sx_RP.step (pc2 := 10) (ls2 := [(0, .ref A), (1, .int (nI c))]) (st2 := [.int (lg_cmp ((((fj w A 1).toUInt64 >>> ((nI c).toInt64.toUInt64 &&& Int64.toUInt64 63)).toInt64) &&& 1) 1)]) (w3 := w) rfl rfl ?_
    refine sx_RP.br (p1 := 17) (l1 := [(0, .ref A), (1, .int (nI c))]) (s1 := []) (v1 := w) rfl rfl (fun _ => ?_) (fun q => absurd (mt (bit_1 (by omega)).mp (by rw [hb]; decide)) (of_decide_eq_false q))
    refine sx_RP.step (pc2 := 18) (ls2 := [(0, .ref A), (1, .int (nI c))]) (st2 := [.int 0]) (w3 := w) rfl rfl ?_
    refine sx_RP.ret (r := (some (.int 0))) rfl rfl ?_
    exact ⟨rfl, rfl⟩
  obtain ⟨r, w2, h1, rfl, rfl⟩ := h
  exact h1
def walA (l : List Int32) (a1 a2 : Int32) : Int32 := if ¬ (0 ≤ a1 ∧ a1 ≤ 47) then -1000000001 else (if l.getD (55 + iN a1) 0 = a2 then 0 else (1))
def walR (l : List Int32) (a1 a2 : Int32) : List Int32 := if ¬ (0 ≤ a1 ∧ a1 ≤ 47) then l else (if l.getD (55 + iN a1) 0 = a2 then l else (l.set (55 + iN a1) a2))
theorem wal_1 {l : List Int32} {a1 a2 : Int32} (h0 : ¬ (0 ≤ a1 ∧ a1 ≤ 47)) : walA l a1 a2 = -1000000001 ∧ walR l a1 a2 = l := ⟨if_pos h0, if_pos h0⟩
theorem wal_2 {l : List Int32} {a1 a2 : Int32} (h0 : ¬ (¬ (0 ≤ a1 ∧ a1 ≤ 47))) (h1 : l.getD (55 + iN a1) 0 = a2) : walA l a1 a2 = 0 ∧ walR l a1 a2 = l := ⟨(if_neg h0).trans (if_pos h1), (if_neg h0).trans (if_pos h1)⟩
theorem wal_z {l : List Int32} {a1 a2 : Int32} (h0 : ¬ (¬ (0 ≤ a1 ∧ a1 ≤ 47))) (h1 : ¬ (l.getD (55 + iN a1) 0 = a2)) : walA l a1 a2 = 1 ∧ walR l a1 a2 = l.set (55 + iN a1) a2 := ⟨(if_neg h0).trans (if_neg h1), (if_neg h0).trans (if_neg h1)⟩
set_option maxRecDepth 20000 in
set_option maxHeartbeats 4000000 in
theorem Z10_0 {xs : Option (List Int32)} {d : Nat} {w : List sx_C} (hI : WI w) (l : List Int32) (hR : rel w 1 l) (a1 : Int32) : sx_RP xs (d + 7) 10 0 (lv_args 0 [.ref 0, .int a1, .int 0]) [] w (fun r w2 => (r = some (.int (walA l a1 0)) ∧ rel w2 1 (walR l a1 0)) ∧ WI w2 ∧ EO w w2) := by
  refine sx_RP.step (pc2 := 1) (ls2 := [(0, .ref 0), (1, .int a1), (2, .int 0)]) (st2 := [.int a1]) (w3 := w) rfl rfl ?_
  rcases in_cases a1 0 47 (m := 0) (n := 47) rfl rfl (by decide) (by decide) with q1 | ⟨x2, hx3, hx4, rfl⟩
  · refine sx_RP.cu (as := [.int a1]) (rest2 := []) (st3 := [.int 0]) rfl rfl rfl rfl rfl (cx_7n q1) rfl ?_
    refine sx_RP.step (pc2 := 7) (ls2 := [(0, .ref 0), (1, .int a1), (2, .int 0)]) (st2 := []) (w3 := w) rfl rfl ?_
    refine sx_RP.step (pc2 := 8) (ls2 := [(0, .ref 0), (1, .int a1), (2, .int 0)]) (st2 := [.ref 0]) (w3 := w) rfl rfl ?_
    refine sx_RP.step (pc2 := 10) (ls2 := [(0, .ref 0), (1, .int a1), (2, .int 0)]) (st2 := [.int (-1000000001), .ref 0]) (w3 := w) rfl rfl ?_
    refine sx_RP.callp (as2 := [.ref 0, .int (-1000000001)]) (rest2 := []) rfl rfl (sx_inv_v2 (mi := 10) (k := 78) (st := [.int (-1000000001), .ref 0]) (w := w) rfl rfl hI.1.o0 rfl rfl rfl) rfl rfl rfl (S9_0 hI) (show _ = 13 from rfl) ?_
    rintro r4 w7 ⟨rfl, hI8, hs6⟩
    show sx_RP _ _ _ _ _ [.int (-1000000001)] _ _
    refine sx_RP.ret (r := (some (.int (-1000000001)))) rfl rfl ?_
    exact ⟨⟨by rw [(wal_1 (l := l) q1).1], by rw [(wal_1 (l := l) q1).2]; exact hR.same hI (Or.inl rfl) (fun a h1 h2 => hs6 a (by omega))⟩, hI8, fun a ha => hs6 a (by unfold oc at ha; omega)⟩
  · refine sx_RP.cu (as := [.int (nI x2)]) (rest2 := []) (st3 := [.int 1]) rfl rfl rfl rfl rfl (cx_7p ⟨nI_le (a := 0) hx3 (by omega), nI_le (b := 47) hx4 (by decide)⟩) rfl ?_
    refine sx_RP.step (pc2 := 14) (ls2 := [(0, .ref 0), (1, .int (nI x2)), (2, .int 0)]) (st2 := []) (w3 := w) rfl rfl ?_
    refine sx_RP.step (pc2 := 15) (ls2 := [(0, .ref 0), (1, .int (nI x2)), (2, .int 0)]) (st2 := [.ref 0]) (w3 := w) rfl rfl ?_
    refine sx_RP.gf (v := .ref 1) rfl rfl hI.1.o0 rfl rfl (show _ = 18 from rfl) ?_
    refine sx_RP.step (pc2 := 19) (ls2 := [(0, .ref 0), (1, .int (nI x2)), (2, .int 0)]) (st2 := [.int (nI x2), .ref 1]) (w3 := w) rfl rfl ?_
    rcases Bool.eq_false_or_eq_true (bitL (fj w 1 1) x2) with hb9 | hb9
    · refine sx_RP.cu (as := [.ref 1, .int (nI x2)]) (rest2 := []) (st3 := [.int 1]) rfl rfl (sx_inv_v2 (mi := 10) (k := 85) (st := [.int (nI x2), .ref 1]) (w := w) rfl rfl (hI.1.oC (Or.inl rfl)) rfl rfl rfl) rfl rfl (x11t hI (Or.inl rfl) (by omega) hb9) rfl ?_
      refine sx_RP.step (pc2 := 23) (ls2 := [(0, .ref 0), (1, .int (nI x2)), (2, .int 0)]) (st2 := [.int 0, .int 1]) (w3 := w) rfl rfl ?_
      refine sx_RP.step (pc2 := 28) (ls2 := [(0, .ref 0), (1, .int (nI x2)), (2, .int 0)]) (st2 := []) (w3 := w) rfl rfl ?_
      refine sx_RP.step (pc2 := 29) (ls2 := [(0, .ref 0), (1, .int (nI x2)), (2, .int 0)]) (st2 := [.ref 0]) (w3 := w) rfl rfl ?_
      refine sx_RP.gf (v := .ref 1) rfl rfl hI.1.o0 rfl rfl (show _ = 32 from rfl) ?_
      refine sx_RP.step (pc2 := 33) (ls2 := [(0, .ref 0), (1, .int (nI x2)), (2, .int 0)]) (st2 := [.ref 1, .ref 1]) (w3 := w) rfl rfl ?_
      refine sx_RP.gw hI (Or.inl rfl) rfl rfl (show _ = 36 from rfl) ?_
      refine sx_RP.step (pc2 := 37) (ls2 := [(0, .ref 0), (1, .int (nI x2)), (2, .int 0)]) (st2 := [.long 1, .long (fj w 1 1), .ref 1]) (w3 := w) rfl rfl ?_
      refine sx_RP.step (pc2 := 38) (ls2 := [(0, .ref 0), (1, .int (nI x2)), (2, .int 0)]) (st2 := [.int (nI x2), .long 1, .long (fj w 1 1), .ref 1]) (w3 := w) rfl rfl ?_
      refine sx_RP.step (pc2 := 39) (ls2 := [(0, .ref 0), (1, .int (nI x2)), (2, .int 0)]) (st2 := [.long ((1 : Int64) <<< ((nI x2).toInt64 &&& 63)), .long (fj w 1 1), .ref 1]) (w3 := w) rfl rfl ?_
      refine sx_RP.step (pc2 := 40) (ls2 := [(0, .ref 0), (1, .int (nI x2)), (2, .int 0)]) (st2 := [.long ((fj w 1 1) ^^^ ((1 : Int64) <<< ((nI x2).toInt64 &&& 63))), .ref 1]) (w3 := w) rfl rfl ?_
      refine sx_RP.xW hI (Or.inl rfl) rfl rfl rfl (show _ = 43 from rfl) (fun w10 hI11 hs12 hv13 hr14 => ?_)
      refine sx_RP.step (pc2 := 44) (ls2 := [(0, .ref 0), (1, .int (nI x2)), (2, .int 0)]) (st2 := [.int 1]) (w3 := w10) rfl rfl ?_
      refine sx_RP.ret (r := (some (.int 1))) rfl rfl ?_
      refine ⟨⟨by rw [(wal_z (l := l) (a1 := nI x2) (a2 := 0) (fun z => z ⟨nI_le (a := 0) (show 0 ≤ x2 by omega) (by omega), nI_le (b := 47) (show x2 ≤ 47 by omega) (by decide)⟩) (by rw [iN_n (show x2 < 2 ^ 31 by omega), ← hR.w48 (by omega), hb9]; decide)).1], ?_⟩, hI11, fun a ha => hs12 a (by unfold oc at ha; omega)⟩
      rw [(wal_z (l := l) (a1 := nI x2) (a2 := 0) (fun z => z ⟨nI_le (a := 0) (show 0 ≤ x2 by omega) (by omega), nI_le (b := 47) (show x2 ≤ 47 by omega) (by decide)⟩) (by rw [iN_n (show x2 < 2 ^ 31 by omega), ← hR.w48 (by omega), hb9]; decide)).2, iN_n (show x2 < 2 ^ 31 by omega)]
      exact hR.sWl (by omega) hs12 hr14 (fun b hb => by rw [hv13]; exact wxor (by omega) hb9 b hb)
    · refine sx_RP.cu (as := [.ref 1, .int (nI x2)]) (rest2 := []) (st3 := [.int 0]) rfl rfl (sx_inv_v2 (mi := 10) (k := 85) (st := [.int (nI x2), .ref 1]) (w := w) rfl rfl (hI.1.oC (Or.inl rfl)) rfl rfl rfl) rfl rfl (x11f hI (Or.inl rfl) (by omega) hb9) rfl ?_
      refine sx_RP.step (pc2 := 23) (ls2 := [(0, .ref 0), (1, .int (nI x2)), (2, .int 0)]) (st2 := [.int 0, .int 0]) (w3 := w) rfl rfl ?_
      refine sx_RP.step (pc2 := 26) (ls2 := [(0, .ref 0), (1, .int (nI x2)), (2, .int 0)]) (st2 := []) (w3 := w) rfl rfl ?_
      refine sx_RP.step (pc2 := 27) (ls2 := [(0, .ref 0), (1, .int (nI x2)), (2, .int 0)]) (st2 := [.int 0]) (w3 := w) rfl rfl ?_
      refine sx_RP.ret (r := (some (.int 0))) rfl rfl ?_
      exact ⟨⟨by rw [(wal_2 (l := l) (a1 := nI x2) (a2 := 0) (fun z => z ⟨nI_le (a := 0) (show 0 ≤ x2 by omega) (by omega), nI_le (b := 47) (show x2 ≤ 47 by omega) (by decide)⟩) (by rw [iN_n (show x2 < 2 ^ 31 by omega), ← hR.w48 (by omega), hb9]; rfl)).1], by rw [(wal_2 (l := l) (a1 := nI x2) (a2 := 0) (fun z => z ⟨nI_le (a := 0) (show 0 ≤ x2 by omega) (by omega), nI_le (b := 47) (show x2 ≤ 47 by omega) (by decide)⟩) (by rw [iN_n (show x2 < 2 ^ 31 by omega), ← hR.w48 (by omega), hb9]; rfl)).2]; exact hR⟩, hI, fun _ _ => rfl⟩
set_option maxRecDepth 20000 in
set_option maxHeartbeats 4000000 in
theorem Y134_0 {xs : Option (List Int32)} {d : Nat} {w : List sx_C} (hI : WI w) (a1 : Int32) : sx_RP xs (d + 7) 134 0 (lv_args 0 [.ref 111, .int a1, .int 0]) [] w (fun r w2 => (r = some (.int (walA (ia w 112) a1 0)) ∧ ia w2 112 = walR (ia w 112) a1 0) ∧ WI w2 ∧ EOm w w2) := by
  refine sx_RP.step (pc2 := 1) (ls2 := [(0, .ref 111), (1, .int a1), (2, .int 0)]) (st2 := [.int a1]) (w3 := w) rfl rfl ?_
  rcases in_cases a1 0 47 (m := 0) (n := 47) rfl rfl (by decide) (by decide) with q1 | ⟨x2, hx3, hx4, rfl⟩
  · refine sx_RP.cu (as := [.int a1]) (rest2 := []) (st3 := [.int 0]) rfl rfl rfl rfl rfl (cx_131n q1) rfl ?_
    refine sx_RP.step (pc2 := 7) (ls2 := [(0, .ref 111), (1, .int a1), (2, .int 0)]) (st2 := []) (w3 := w) rfl rfl ?_
    refine sx_RP.step (pc2 := 8) (ls2 := [(0, .ref 111), (1, .int a1), (2, .int 0)]) (st2 := [.ref 111]) (w3 := w) rfl rfl ?_
    refine sx_RP.step (pc2 := 9) (ls2 := [(0, .ref 111), (1, .int a1), (2, .int 0)]) (st2 := [.int 0, .ref 111]) (w3 := w) rfl rfl ?_
    refine sx_RP.callp (as2 := [.ref 111, .int 0]) (rest2 := []) rfl rfl (sx_inv_v2 (mi := 134) (k := 70) (st := [.int 0, .ref 111]) (w := w) rfl rfl hI.1.o111 rfl rfl rfl) rfl rfl rfl (S133_0 hI) (show _ = 12 from rfl) ?_
    rintro r4 w7 ⟨rfl, hI8, hs6⟩
    show sx_RP _ _ _ _ _ [.int (-1000000001)] _ _
    refine sx_RP.ret (r := (some (.int (-1000000001)))) rfl rfl ?_
    exact ⟨⟨by rw [(wal_1 q1).1], by rw [(wal_1 q1).2]; exact ia_of (hs6 112 (by decide))⟩, hI8, fun a ha => hs6 a (by unfold ocm at ha; omega)⟩
  · refine sx_RP.cu (as := [.int (nI x2)]) (rest2 := []) (st3 := [.int 1]) rfl rfl rfl rfl rfl (cx_131p ⟨nI_le (a := 0) hx3 (by omega), nI_le (b := 47) hx4 (by decide)⟩) rfl ?_
    refine sx_RP.step (pc2 := 13) (ls2 := [(0, .ref 111), (1, .int (nI x2)), (2, .int 0)]) (st2 := []) (w3 := w) rfl rfl ?_
    refine sx_RP.step (pc2 := 14) (ls2 := [(0, .ref 111), (1, .int (nI x2)), (2, .int 0)]) (st2 := [.int 0]) (w3 := w) rfl rfl ?_
    refine sx_RP.step (pc2 := 21) (ls2 := [(0, .ref 111), (1, .int (nI x2)), (2, .int 0)]) (st2 := []) (w3 := w) rfl rfl ?_
    refine sx_RP.step (pc2 := 22) (ls2 := [(0, .ref 111), (1, .int (nI x2)), (2, .int 0)]) (st2 := [.int 0]) (w3 := w) rfl rfl ?_
    refine sx_RP.step (pc2 := 23) (ls2 := [(3, .int 0), (0, .ref 111), (1, .int (nI x2)), (2, .int 0)]) (st2 := []) (w3 := w) rfl rfl ?_
    refine sx_RP.step (pc2 := 24) (ls2 := [(3, .int 0), (0, .ref 111), (1, .int (nI x2)), (2, .int 0)]) (st2 := [.ref 111]) (w3 := w) rfl rfl ?_
    refine sx_RP.gf (v := .ref 112) rfl rfl hI.1.o111 rfl rfl (show _ = 27 from rfl) ?_
    refine sx_RP.step (pc2 := 29) (ls2 := [(3, .int 0), (0, .ref 111), (1, .int (nI x2)), (2, .int 0)]) (st2 := [.int 55, .ref 112]) (w3 := w) rfl rfl ?_
    refine sx_RP.step (pc2 := 30) (ls2 := [(3, .int 0), (0, .ref 111), (1, .int (nI x2)), (2, .int 0)]) (st2 := [.int (nI x2), .int 55, .ref 112]) (w3 := w) rfl rfl ?_
    refine sx_RP.step (pc2 := 31) (ls2 := [(3, .int 0), (0, .ref 111), (1, .int (nI x2)), (2, .int 0)]) (st2 := [.int (55 + (nI x2)), .ref 112]) (w3 := w) rfl rfl ?_
    rw [show (55 + (nI x2) : Int32) = nI (55 + x2) from nI_add 55 x2]
    refine sx_RP.ild (c := (55 + x2)) rfl hI.1.a112.1 hI.1.a112.2 (sx_in_nI (show (55 + x2) < 172 by omega) (by decide)) (show (nI ((55 + x2))).toNatClampNeg = (55 + x2) from nI_clamp (by omega)) (show _ = 32 from rfl) ?_
    refine sx_RP.step (pc2 := 34) (ls2 := [(4, .int ((ia w 112).getD ((55 + x2)) 0)), (3, .int 0), (0, .ref 111), (1, .int (nI x2)), (2, .int 0)]) (st2 := []) (w3 := w) rfl rfl ?_
    refine sx_RP.step (pc2 := 35) (ls2 := [(4, .int ((ia w 112).getD ((55 + x2)) 0)), (3, .int 0), (0, .ref 111), (1, .int (nI x2)), (2, .int 0)]) (st2 := [.ref 111]) (w3 := w) rfl rfl ?_
    refine sx_RP.gf (v := .ref 112) rfl rfl hI.1.o111 rfl rfl (show _ = 38 from rfl) ?_
    refine sx_RP.step (pc2 := 40) (ls2 := [(4, .int ((ia w 112).getD ((55 + x2)) 0)), (3, .int 0), (0, .ref 111), (1, .int (nI x2)), (2, .int 0)]) (st2 := [.int 55, .ref 112]) (w3 := w) rfl rfl ?_
    refine sx_RP.step (pc2 := 41) (ls2 := [(4, .int ((ia w 112).getD ((55 + x2)) 0)), (3, .int 0), (0, .ref 111), (1, .int (nI x2)), (2, .int 0)]) (st2 := [.int (nI x2), .int 55, .ref 112]) (w3 := w) rfl rfl ?_
    refine sx_RP.step (pc2 := 42) (ls2 := [(4, .int ((ia w 112).getD ((55 + x2)) 0)), (3, .int 0), (0, .ref 111), (1, .int (nI x2)), (2, .int 0)]) (st2 := [.int (55 + (nI x2)), .ref 112]) (w3 := w) rfl rfl ?_
    rw [show (55 + (nI x2) : Int32) = nI (55 + x2) from nI_add 55 x2]
    refine sx_RP.step (pc2 := 43) (ls2 := [(4, .int ((ia w 112).getD ((55 + x2)) 0)), (3, .int 0), (0, .ref 111), (1, .int (nI x2)), (2, .int 0)]) (st2 := [.int 0, .int (nI (55 + x2)), .ref 112]) (w3 := w) rfl rfl ?_
    refine sx_RP.xM (k := (55 + x2)) hI (by decide) rfl (by omega) (eOK_n (by omega)) (show _ = 44 from rfl) (fun w9 hI10 hs11 hv12 => ?_)
    refine sx_RP.step (pc2 := 46) (ls2 := [(4, .int ((ia w 112).getD ((55 + x2)) 0)), (3, .int 0), (0, .ref 111), (1, .int (nI x2)), (2, .int 0)]) (st2 := [.int ((ia w 112).getD ((55 + x2)) 0)]) (w3 := w9) rfl rfl ?_
    refine sx_RP.step (pc2 := 47) (ls2 := [(4, .int ((ia w 112).getD ((55 + x2)) 0)), (3, .int 0), (0, .ref 111), (1, .int (nI x2)), (2, .int 0)]) (st2 := [.int 0, .int ((ia w 112).getD ((55 + x2)) 0)]) (w3 := w9) rfl rfl ?_
    refine sx_RP.br (p1 := 54) (l1 := [(4, .int ((ia w 112).getD ((55 + x2)) 0)), (3, .int 0), (0, .ref 111), (1, .int (nI x2)), (2, .int 0)]) (s1 := []) (v1 := w9) (p2 := 50) (l2 := [(4, .int ((ia w 112).getD ((55 + x2)) 0)), (3, .int 0), (0, .ref 111), (1, .int (nI x2)), (2, .int 0)]) (s2 := []) (v2 := w9) rfl rfl (fun q13 => ?_) (fun q13 => ?_)
    · replace q13 := of_decide_eq_true q13
      refine sx_RP.step (pc2 := 55) (ls2 := [(4, .int ((ia w 112).getD ((55 + x2)) 0)), (3, .int 0), (0, .ref 111), (1, .int (nI x2)), (2, .int 0)]) (st2 := [.int 1]) (w3 := w9) rfl rfl ?_
      refine sx_RP.ret (r := (some (.int 1))) rfl rfl ?_
      exact ⟨⟨by rw [(wal_z (l := ia w 112) (a1 := nI x2) (a2 := 0) (fun z => z ⟨nI_le (a := 0) (show 0 ≤ x2 by omega) (by omega), nI_le (b := 47) (show x2 ≤ 47 by omega) (by decide)⟩) (by rw [iN_n (show x2 < 2 ^ 31 by omega)]; exact q13)).1], by rw [(wal_z (l := ia w 112) (a1 := nI x2) (a2 := 0) (fun z => z ⟨nI_le (a := 0) (show 0 ≤ x2 by omega) (by omega), nI_le (b := 47) (show x2 ≤ 47 by omega) (by decide)⟩) (by rw [iN_n (show x2 < 2 ^ 31 by omega)]; exact q13)).2, hv12, iN_n (show x2 < 2 ^ 31 by omega)]⟩, hI10, fun a ha => hs11 a (by unfold ocm at ha; omega)⟩
    · replace q13 := Decidable.not_not.mp (of_decide_eq_false q13)
      refine sx_RP.step (pc2 := 51) (ls2 := [(4, .int ((ia w 112).getD ((55 + x2)) 0)), (3, .int 0), (0, .ref 111), (1, .int (nI x2)), (2, .int 0)]) (st2 := [.int 0]) (w3 := w9) rfl rfl ?_
      refine sx_RP.step (pc2 := 55) (ls2 := [(4, .int ((ia w 112).getD ((55 + x2)) 0)), (3, .int 0), (0, .ref 111), (1, .int (nI x2)), (2, .int 0)]) (st2 := [.int 0]) (w3 := w9) rfl rfl ?_
      refine sx_RP.ret (r := (some (.int 0))) rfl rfl ?_
      exact ⟨⟨by rw [(wal_2 (l := ia w 112) (a1 := nI x2) (a2 := 0) (fun z => z ⟨nI_le (a := 0) (show 0 ≤ x2 by omega) (by omega), nI_le (b := 47) (show x2 ≤ 47 by omega) (by decide)⟩) (by rw [iN_n (show x2 < 2 ^ 31 by omega)]; exact q13)).1], by rw [(wal_2 (l := ia w 112) (a1 := nI x2) (a2 := 0) (fun z => z ⟨nI_le (a := 0) (show 0 ≤ x2 by omega) (by omega), nI_le (b := 47) (show x2 ≤ 47 by omega) (by decide)⟩) (by rw [iN_n (show x2 < 2 ^ 31 by omega)]; exact q13)).2, hv12]; exact set_self9 (by rw [hI.1.a112.2]; omega) q13⟩, hI10, fun a ha => hs11 a (by unfold ocm at ha; omega)⟩
set_option maxRecDepth 20000 in
set_option maxHeartbeats 4000000 in
theorem Z10_1 {xs : Option (List Int32)} {d : Nat} {w : List sx_C} (hI : WI w) (l : List Int32) (hR : rel w 1 l) (a1 : Int32) : sx_RP xs (d + 7) 10 0 (lv_args 0 [.ref 0, .int a1, .int 1]) [] w (fun r w2 => (r = some (.int (walA l a1 1)) ∧ rel w2 1 (walR l a1 1)) ∧ WI w2 ∧ EO w w2) := by
  refine sx_RP.step (pc2 := 1) (ls2 := [(0, .ref 0), (1, .int a1), (2, .int 1)]) (st2 := [.int a1]) (w3 := w) rfl rfl ?_
  rcases in_cases a1 0 47 (m := 0) (n := 47) rfl rfl (by decide) (by decide) with q1 | ⟨x2, hx3, hx4, rfl⟩
  · refine sx_RP.cu (as := [.int a1]) (rest2 := []) (st3 := [.int 0]) rfl rfl rfl rfl rfl (cx_7n q1) rfl ?_
    refine sx_RP.step (pc2 := 7) (ls2 := [(0, .ref 0), (1, .int a1), (2, .int 1)]) (st2 := []) (w3 := w) rfl rfl ?_
    refine sx_RP.step (pc2 := 8) (ls2 := [(0, .ref 0), (1, .int a1), (2, .int 1)]) (st2 := [.ref 0]) (w3 := w) rfl rfl ?_
    refine sx_RP.step (pc2 := 10) (ls2 := [(0, .ref 0), (1, .int a1), (2, .int 1)]) (st2 := [.int (-1000000001), .ref 0]) (w3 := w) rfl rfl ?_
    refine sx_RP.callp (as2 := [.ref 0, .int (-1000000001)]) (rest2 := []) rfl rfl (sx_inv_v2 (mi := 10) (k := 78) (st := [.int (-1000000001), .ref 0]) (w := w) rfl rfl hI.1.o0 rfl rfl rfl) rfl rfl rfl (S9_0 hI) (show _ = 13 from rfl) ?_
    rintro r4 w7 ⟨rfl, hI8, hs6⟩
    show sx_RP _ _ _ _ _ [.int (-1000000001)] _ _
    refine sx_RP.ret (r := (some (.int (-1000000001)))) rfl rfl ?_
    exact ⟨⟨by rw [(wal_1 (l := l) q1).1], by rw [(wal_1 (l := l) q1).2]; exact hR.same hI (Or.inl rfl) (fun a h1 h2 => hs6 a (by omega))⟩, hI8, fun a ha => hs6 a (by unfold oc at ha; omega)⟩
  · refine sx_RP.cu (as := [.int (nI x2)]) (rest2 := []) (st3 := [.int 1]) rfl rfl rfl rfl rfl (cx_7p ⟨nI_le (a := 0) hx3 (by omega), nI_le (b := 47) hx4 (by decide)⟩) rfl ?_
    refine sx_RP.step (pc2 := 14) (ls2 := [(0, .ref 0), (1, .int (nI x2)), (2, .int 1)]) (st2 := []) (w3 := w) rfl rfl ?_
    refine sx_RP.step (pc2 := 15) (ls2 := [(0, .ref 0), (1, .int (nI x2)), (2, .int 1)]) (st2 := [.ref 0]) (w3 := w) rfl rfl ?_
    refine sx_RP.gf (v := .ref 1) rfl rfl hI.1.o0 rfl rfl (show _ = 18 from rfl) ?_
    refine sx_RP.step (pc2 := 19) (ls2 := [(0, .ref 0), (1, .int (nI x2)), (2, .int 1)]) (st2 := [.int (nI x2), .ref 1]) (w3 := w) rfl rfl ?_
    rcases Bool.eq_false_or_eq_true (bitL (fj w 1 1) x2) with hb9 | hb9
    · refine sx_RP.cu (as := [.ref 1, .int (nI x2)]) (rest2 := []) (st3 := [.int 1]) rfl rfl (sx_inv_v2 (mi := 10) (k := 85) (st := [.int (nI x2), .ref 1]) (w := w) rfl rfl (hI.1.oC (Or.inl rfl)) rfl rfl rfl) rfl rfl (x11t hI (Or.inl rfl) (by omega) hb9) rfl ?_
      refine sx_RP.step (pc2 := 23) (ls2 := [(0, .ref 0), (1, .int (nI x2)), (2, .int 1)]) (st2 := [.int 1, .int 1]) (w3 := w) rfl rfl ?_
      refine sx_RP.step (pc2 := 26) (ls2 := [(0, .ref 0), (1, .int (nI x2)), (2, .int 1)]) (st2 := []) (w3 := w) rfl rfl ?_
      refine sx_RP.step (pc2 := 27) (ls2 := [(0, .ref 0), (1, .int (nI x2)), (2, .int 1)]) (st2 := [.int 0]) (w3 := w) rfl rfl ?_
      refine sx_RP.ret (r := (some (.int 0))) rfl rfl ?_
      exact ⟨⟨by rw [(wal_2 (l := l) (a1 := nI x2) (a2 := 1) (fun z => z ⟨nI_le (a := 0) (show 0 ≤ x2 by omega) (by omega), nI_le (b := 47) (show x2 ≤ 47 by omega) (by decide)⟩) (by rw [iN_n (show x2 < 2 ^ 31 by omega), ← hR.w48 (by omega), hb9]; rfl)).1], by rw [(wal_2 (l := l) (a1 := nI x2) (a2 := 1) (fun z => z ⟨nI_le (a := 0) (show 0 ≤ x2 by omega) (by omega), nI_le (b := 47) (show x2 ≤ 47 by omega) (by decide)⟩) (by rw [iN_n (show x2 < 2 ^ 31 by omega), ← hR.w48 (by omega), hb9]; rfl)).2]; exact hR⟩, hI, fun _ _ => rfl⟩
    · refine sx_RP.cu (as := [.ref 1, .int (nI x2)]) (rest2 := []) (st3 := [.int 0]) rfl rfl (sx_inv_v2 (mi := 10) (k := 85) (st := [.int (nI x2), .ref 1]) (w := w) rfl rfl (hI.1.oC (Or.inl rfl)) rfl rfl rfl) rfl rfl (x11f hI (Or.inl rfl) (by omega) hb9) rfl ?_
      refine sx_RP.step (pc2 := 23) (ls2 := [(0, .ref 0), (1, .int (nI x2)), (2, .int 1)]) (st2 := [.int 1, .int 0]) (w3 := w) rfl rfl ?_
      refine sx_RP.step (pc2 := 28) (ls2 := [(0, .ref 0), (1, .int (nI x2)), (2, .int 1)]) (st2 := []) (w3 := w) rfl rfl ?_
      refine sx_RP.step (pc2 := 29) (ls2 := [(0, .ref 0), (1, .int (nI x2)), (2, .int 1)]) (st2 := [.ref 0]) (w3 := w) rfl rfl ?_
      refine sx_RP.gf (v := .ref 1) rfl rfl hI.1.o0 rfl rfl (show _ = 32 from rfl) ?_
      refine sx_RP.step (pc2 := 33) (ls2 := [(0, .ref 0), (1, .int (nI x2)), (2, .int 1)]) (st2 := [.ref 1, .ref 1]) (w3 := w) rfl rfl ?_
      refine sx_RP.gw hI (Or.inl rfl) rfl rfl (show _ = 36 from rfl) ?_
      refine sx_RP.step (pc2 := 37) (ls2 := [(0, .ref 0), (1, .int (nI x2)), (2, .int 1)]) (st2 := [.long 1, .long (fj w 1 1), .ref 1]) (w3 := w) rfl rfl ?_
      refine sx_RP.step (pc2 := 38) (ls2 := [(0, .ref 0), (1, .int (nI x2)), (2, .int 1)]) (st2 := [.int (nI x2), .long 1, .long (fj w 1 1), .ref 1]) (w3 := w) rfl rfl ?_
      refine sx_RP.step (pc2 := 39) (ls2 := [(0, .ref 0), (1, .int (nI x2)), (2, .int 1)]) (st2 := [.long ((1 : Int64) <<< ((nI x2).toInt64 &&& 63)), .long (fj w 1 1), .ref 1]) (w3 := w) rfl rfl ?_
      refine sx_RP.step (pc2 := 40) (ls2 := [(0, .ref 0), (1, .int (nI x2)), (2, .int 1)]) (st2 := [.long ((fj w 1 1) ^^^ ((1 : Int64) <<< ((nI x2).toInt64 &&& 63))), .ref 1]) (w3 := w) rfl rfl ?_
      refine sx_RP.xW hI (Or.inl rfl) rfl rfl rfl (show _ = 43 from rfl) (fun w10 hI11 hs12 hv13 hr14 => ?_)
      refine sx_RP.step (pc2 := 44) (ls2 := [(0, .ref 0), (1, .int (nI x2)), (2, .int 1)]) (st2 := [.int 1]) (w3 := w10) rfl rfl ?_
      refine sx_RP.ret (r := (some (.int 1))) rfl rfl ?_
      refine ⟨⟨by rw [(wal_z (l := l) (a1 := nI x2) (a2 := 1) (fun z => z ⟨nI_le (a := 0) (show 0 ≤ x2 by omega) (by omega), nI_le (b := 47) (show x2 ≤ 47 by omega) (by decide)⟩) (by rw [iN_n (show x2 < 2 ^ 31 by omega), ← hR.w48 (by omega), hb9]; decide)).1], ?_⟩, hI11, fun a ha => hs12 a (by unfold oc at ha; omega)⟩
      rw [(wal_z (l := l) (a1 := nI x2) (a2 := 1) (fun z => z ⟨nI_le (a := 0) (show 0 ≤ x2 by omega) (by omega), nI_le (b := 47) (show x2 ≤ 47 by omega) (by decide)⟩) (by rw [iN_n (show x2 < 2 ^ 31 by omega), ← hR.w48 (by omega), hb9]; decide)).2, iN_n (show x2 < 2 ^ 31 by omega)]
      exact hR.sWl (by omega) hs12 hr14 (fun b hb => by rw [hv13]; exact wxor (by omega) hb9 b hb)
set_option maxRecDepth 20000 in
set_option maxHeartbeats 4000000 in
theorem Y134_1 {xs : Option (List Int32)} {d : Nat} {w : List sx_C} (hI : WI w) (a1 : Int32) : sx_RP xs (d + 7) 134 0 (lv_args 0 [.ref 111, .int a1, .int 1]) [] w (fun r w2 => (r = some (.int (walA (ia w 112) a1 1)) ∧ ia w2 112 = walR (ia w 112) a1 1) ∧ WI w2 ∧ EOm w w2) := by
  refine sx_RP.step (pc2 := 1) (ls2 := [(0, .ref 111), (1, .int a1), (2, .int 1)]) (st2 := [.int a1]) (w3 := w) rfl rfl ?_
  rcases in_cases a1 0 47 (m := 0) (n := 47) rfl rfl (by decide) (by decide) with q1 | ⟨x2, hx3, hx4, rfl⟩
  · refine sx_RP.cu (as := [.int a1]) (rest2 := []) (st3 := [.int 0]) rfl rfl rfl rfl rfl (cx_131n q1) rfl ?_
    refine sx_RP.step (pc2 := 7) (ls2 := [(0, .ref 111), (1, .int a1), (2, .int 1)]) (st2 := []) (w3 := w) rfl rfl ?_
    refine sx_RP.step (pc2 := 8) (ls2 := [(0, .ref 111), (1, .int a1), (2, .int 1)]) (st2 := [.ref 111]) (w3 := w) rfl rfl ?_
    refine sx_RP.step (pc2 := 9) (ls2 := [(0, .ref 111), (1, .int a1), (2, .int 1)]) (st2 := [.int 0, .ref 111]) (w3 := w) rfl rfl ?_
    refine sx_RP.callp (as2 := [.ref 111, .int 0]) (rest2 := []) rfl rfl (sx_inv_v2 (mi := 134) (k := 70) (st := [.int 0, .ref 111]) (w := w) rfl rfl hI.1.o111 rfl rfl rfl) rfl rfl rfl (S133_0 hI) (show _ = 12 from rfl) ?_
    rintro r4 w7 ⟨rfl, hI8, hs6⟩
    show sx_RP _ _ _ _ _ [.int (-1000000001)] _ _
    refine sx_RP.ret (r := (some (.int (-1000000001)))) rfl rfl ?_
    exact ⟨⟨by rw [(wal_1 q1).1], by rw [(wal_1 q1).2]; exact ia_of (hs6 112 (by decide))⟩, hI8, fun a ha => hs6 a (by unfold ocm at ha; omega)⟩
  · refine sx_RP.cu (as := [.int (nI x2)]) (rest2 := []) (st3 := [.int 1]) rfl rfl rfl rfl rfl (cx_131p ⟨nI_le (a := 0) hx3 (by omega), nI_le (b := 47) hx4 (by decide)⟩) rfl ?_
    refine sx_RP.step (pc2 := 13) (ls2 := [(0, .ref 111), (1, .int (nI x2)), (2, .int 1)]) (st2 := []) (w3 := w) rfl rfl ?_
    refine sx_RP.step (pc2 := 14) (ls2 := [(0, .ref 111), (1, .int (nI x2)), (2, .int 1)]) (st2 := [.int 1]) (w3 := w) rfl rfl ?_
    refine sx_RP.step (pc2 := 17) (ls2 := [(0, .ref 111), (1, .int (nI x2)), (2, .int 1)]) (st2 := []) (w3 := w) rfl rfl ?_
    refine sx_RP.step (pc2 := 18) (ls2 := [(0, .ref 111), (1, .int (nI x2)), (2, .int 1)]) (st2 := [.int 1]) (w3 := w) rfl rfl ?_
    refine sx_RP.step (pc2 := 22) (ls2 := [(0, .ref 111), (1, .int (nI x2)), (2, .int 1)]) (st2 := [.int 1]) (w3 := w) rfl rfl ?_
    refine sx_RP.step (pc2 := 23) (ls2 := [(3, .int 1), (0, .ref 111), (1, .int (nI x2)), (2, .int 1)]) (st2 := []) (w3 := w) rfl rfl ?_
    refine sx_RP.step (pc2 := 24) (ls2 := [(3, .int 1), (0, .ref 111), (1, .int (nI x2)), (2, .int 1)]) (st2 := [.ref 111]) (w3 := w) rfl rfl ?_
    refine sx_RP.gf (v := .ref 112) rfl rfl hI.1.o111 rfl rfl (show _ = 27 from rfl) ?_
    refine sx_RP.step (pc2 := 29) (ls2 := [(3, .int 1), (0, .ref 111), (1, .int (nI x2)), (2, .int 1)]) (st2 := [.int 55, .ref 112]) (w3 := w) rfl rfl ?_
    refine sx_RP.step (pc2 := 30) (ls2 := [(3, .int 1), (0, .ref 111), (1, .int (nI x2)), (2, .int 1)]) (st2 := [.int (nI x2), .int 55, .ref 112]) (w3 := w) rfl rfl ?_
    refine sx_RP.step (pc2 := 31) (ls2 := [(3, .int 1), (0, .ref 111), (1, .int (nI x2)), (2, .int 1)]) (st2 := [.int (55 + (nI x2)), .ref 112]) (w3 := w) rfl rfl ?_
    rw [show (55 + (nI x2) : Int32) = nI (55 + x2) from nI_add 55 x2]
    refine sx_RP.ild (c := (55 + x2)) rfl hI.1.a112.1 hI.1.a112.2 (sx_in_nI (show (55 + x2) < 172 by omega) (by decide)) (show (nI ((55 + x2))).toNatClampNeg = (55 + x2) from nI_clamp (by omega)) (show _ = 32 from rfl) ?_
    refine sx_RP.step (pc2 := 34) (ls2 := [(4, .int ((ia w 112).getD ((55 + x2)) 0)), (3, .int 1), (0, .ref 111), (1, .int (nI x2)), (2, .int 1)]) (st2 := []) (w3 := w) rfl rfl ?_
    refine sx_RP.step (pc2 := 35) (ls2 := [(4, .int ((ia w 112).getD ((55 + x2)) 0)), (3, .int 1), (0, .ref 111), (1, .int (nI x2)), (2, .int 1)]) (st2 := [.ref 111]) (w3 := w) rfl rfl ?_
    refine sx_RP.gf (v := .ref 112) rfl rfl hI.1.o111 rfl rfl (show _ = 38 from rfl) ?_
    refine sx_RP.step (pc2 := 40) (ls2 := [(4, .int ((ia w 112).getD ((55 + x2)) 0)), (3, .int 1), (0, .ref 111), (1, .int (nI x2)), (2, .int 1)]) (st2 := [.int 55, .ref 112]) (w3 := w) rfl rfl ?_
    refine sx_RP.step (pc2 := 41) (ls2 := [(4, .int ((ia w 112).getD ((55 + x2)) 0)), (3, .int 1), (0, .ref 111), (1, .int (nI x2)), (2, .int 1)]) (st2 := [.int (nI x2), .int 55, .ref 112]) (w3 := w) rfl rfl ?_
    refine sx_RP.step (pc2 := 42) (ls2 := [(4, .int ((ia w 112).getD ((55 + x2)) 0)), (3, .int 1), (0, .ref 111), (1, .int (nI x2)), (2, .int 1)]) (st2 := [.int (55 + (nI x2)), .ref 112]) (w3 := w) rfl rfl ?_
    rw [show (55 + (nI x2) : Int32) = nI (55 + x2) from nI_add 55 x2]
    refine sx_RP.step (pc2 := 43) (ls2 := [(4, .int ((ia w 112).getD ((55 + x2)) 0)), (3, .int 1), (0, .ref 111), (1, .int (nI x2)), (2, .int 1)]) (st2 := [.int 1, .int (nI (55 + x2)), .ref 112]) (w3 := w) rfl rfl ?_
    refine sx_RP.xM (k := (55 + x2)) hI (by decide) rfl (by omega) (eOK_n (by omega)) (show _ = 44 from rfl) (fun w9 hI10 hs11 hv12 => ?_)
    refine sx_RP.step (pc2 := 46) (ls2 := [(4, .int ((ia w 112).getD ((55 + x2)) 0)), (3, .int 1), (0, .ref 111), (1, .int (nI x2)), (2, .int 1)]) (st2 := [.int ((ia w 112).getD ((55 + x2)) 0)]) (w3 := w9) rfl rfl ?_
    refine sx_RP.step (pc2 := 47) (ls2 := [(4, .int ((ia w 112).getD ((55 + x2)) 0)), (3, .int 1), (0, .ref 111), (1, .int (nI x2)), (2, .int 1)]) (st2 := [.int 1, .int ((ia w 112).getD ((55 + x2)) 0)]) (w3 := w9) rfl rfl ?_
    refine sx_RP.br (p1 := 54) (l1 := [(4, .int ((ia w 112).getD ((55 + x2)) 0)), (3, .int 1), (0, .ref 111), (1, .int (nI x2)), (2, .int 1)]) (s1 := []) (v1 := w9) (p2 := 50) (l2 := [(4, .int ((ia w 112).getD ((55 + x2)) 0)), (3, .int 1), (0, .ref 111), (1, .int (nI x2)), (2, .int 1)]) (s2 := []) (v2 := w9) rfl rfl (fun q13 => ?_) (fun q13 => ?_)
    · replace q13 := of_decide_eq_true q13
      refine sx_RP.step (pc2 := 55) (ls2 := [(4, .int ((ia w 112).getD ((55 + x2)) 0)), (3, .int 1), (0, .ref 111), (1, .int (nI x2)), (2, .int 1)]) (st2 := [.int 1]) (w3 := w9) rfl rfl ?_
      refine sx_RP.ret (r := (some (.int 1))) rfl rfl ?_
      exact ⟨⟨by rw [(wal_z (l := ia w 112) (a1 := nI x2) (a2 := 1) (fun z => z ⟨nI_le (a := 0) (show 0 ≤ x2 by omega) (by omega), nI_le (b := 47) (show x2 ≤ 47 by omega) (by decide)⟩) (by rw [iN_n (show x2 < 2 ^ 31 by omega)]; exact q13)).1], by rw [(wal_z (l := ia w 112) (a1 := nI x2) (a2 := 1) (fun z => z ⟨nI_le (a := 0) (show 0 ≤ x2 by omega) (by omega), nI_le (b := 47) (show x2 ≤ 47 by omega) (by decide)⟩) (by rw [iN_n (show x2 < 2 ^ 31 by omega)]; exact q13)).2, hv12, iN_n (show x2 < 2 ^ 31 by omega)]⟩, hI10, fun a ha => hs11 a (by unfold ocm at ha; omega)⟩
    · replace q13 := Decidable.not_not.mp (of_decide_eq_false q13)
      refine sx_RP.step (pc2 := 51) (ls2 := [(4, .int ((ia w 112).getD ((55 + x2)) 0)), (3, .int 1), (0, .ref 111), (1, .int (nI x2)), (2, .int 1)]) (st2 := [.int 0]) (w3 := w9) rfl rfl ?_
      refine sx_RP.step (pc2 := 55) (ls2 := [(4, .int ((ia w 112).getD ((55 + x2)) 0)), (3, .int 1), (0, .ref 111), (1, .int (nI x2)), (2, .int 1)]) (st2 := [.int 0]) (w3 := w9) rfl rfl ?_
      refine sx_RP.ret (r := (some (.int 0))) rfl rfl ?_
      exact ⟨⟨by rw [(wal_2 (l := ia w 112) (a1 := nI x2) (a2 := 1) (fun z => z ⟨nI_le (a := 0) (show 0 ≤ x2 by omega) (by omega), nI_le (b := 47) (show x2 ≤ 47 by omega) (by decide)⟩) (by rw [iN_n (show x2 < 2 ^ 31 by omega)]; exact q13)).1], by rw [(wal_2 (l := ia w 112) (a1 := nI x2) (a2 := 1) (fun z => z ⟨nI_le (a := 0) (show 0 ≤ x2 by omega) (by omega), nI_le (b := 47) (show x2 ≤ 47 by omega) (by decide)⟩) (by rw [iN_n (show x2 < 2 ^ 31 by omega)]; exact q13)).2, hv12]; exact set_self9 (by rw [hI.1.a112.2]; omega) q13⟩, hI10, fun a ha => hs11 a (by unfold ocm at ha; omega)⟩
def turA (l : List Int32) (a1 a2 : Int32) : Int32 := if ¬ ((0 ≤ a1 ∧ a1 < l.getD 1 0) ∧ (0 ≤ a2 ∧ a2 ≤ 3)) then -1000000001 else (if ¬ l.getD (103 + 6 * iN a1 + 5) 0 = 0 then -1000000005 else (if l.getD (103 + 6 * iN a1 + 3) 0 = a2 then a2 else (l.getD (103 + 6 * iN a1 + 3) 0)))
def turR (l : List Int32) (a1 a2 : Int32) : List Int32 := if ¬ ((0 ≤ a1 ∧ a1 < l.getD 1 0) ∧ (0 ≤ a2 ∧ a2 ≤ 3)) then l else (if ¬ l.getD (103 + 6 * iN a1 + 5) 0 = 0 then l else (if l.getD (103 + 6 * iN a1 + 3) 0 = a2 then l else ((l.set (103 + 6 * iN a1 + 3) a2).set (103 + 6 * iN a1 + 4) 0)))
theorem tur_1 {l : List Int32} {a1 a2 : Int32} (h0 : ¬ ((0 ≤ a1 ∧ a1 < l.getD 1 0) ∧ (0 ≤ a2 ∧ a2 ≤ 3))) : turA l a1 a2 = -1000000001 ∧ turR l a1 a2 = l := ⟨if_pos h0, if_pos h0⟩
theorem tur_2 {l : List Int32} {a1 a2 : Int32} (h0 : ¬ (¬ ((0 ≤ a1 ∧ a1 < l.getD 1 0) ∧ (0 ≤ a2 ∧ a2 ≤ 3)))) (h1 : ¬ l.getD (103 + 6 * iN a1 + 5) 0 = 0) : turA l a1 a2 = -1000000005 ∧ turR l a1 a2 = l := ⟨(if_neg h0).trans (if_pos h1), (if_neg h0).trans (if_pos h1)⟩
theorem tur_3 {l : List Int32} {a1 a2 : Int32} (h0 : ¬ (¬ ((0 ≤ a1 ∧ a1 < l.getD 1 0) ∧ (0 ≤ a2 ∧ a2 ≤ 3)))) (h1 : ¬ (¬ l.getD (103 + 6 * iN a1 + 5) 0 = 0)) (h2 : l.getD (103 + 6 * iN a1 + 3) 0 = a2) : turA l a1 a2 = a2 ∧ turR l a1 a2 = l := ⟨(if_neg h0).trans ((if_neg h1).trans (if_pos h2)), (if_neg h0).trans ((if_neg h1).trans (if_pos h2))⟩
theorem tur_z {l : List Int32} {a1 a2 : Int32} (h0 : ¬ (¬ ((0 ≤ a1 ∧ a1 < l.getD 1 0) ∧ (0 ≤ a2 ∧ a2 ≤ 3)))) (h1 : ¬ (¬ l.getD (103 + 6 * iN a1 + 5) 0 = 0)) (h2 : ¬ (l.getD (103 + 6 * iN a1 + 3) 0 = a2)) : turA l a1 a2 = l.getD (103 + 6 * iN a1 + 3) 0 ∧ turR l a1 a2 = (l.set (103 + 6 * iN a1 + 3) a2).set (103 + 6 * iN a1 + 4) 0 := ⟨(if_neg h0).trans ((if_neg h1).trans (if_neg h2)), (if_neg h0).trans ((if_neg h1).trans (if_neg h2))⟩
def bec2A (l : List Int32) (a1 a2 : Int32) : Int32 := if ¬ ((0 ≤ a1 ∧ a1 < l.getD 1 0) ∧ (0 ≤ a2 ∧ a2 ≤ 5)) then -1000000001 else (l.getD (103 + 6 * iN a1 + 0) 0)
def bec2R (l : List Int32) (a1 a2 : Int32) : List Int32 := if ¬ ((0 ≤ a1 ∧ a1 < l.getD 1 0) ∧ (0 ≤ a2 ∧ a2 ≤ 5)) then l else (l.set (103 + 6 * iN a1 + 0) a2)
theorem bec2_1 {l : List Int32} {a1 a2 : Int32} (h0 : ¬ ((0 ≤ a1 ∧ a1 < l.getD 1 0) ∧ (0 ≤ a2 ∧ a2 ≤ 5))) : bec2A l a1 a2 = -1000000001 ∧ bec2R l a1 a2 = l := ⟨if_pos h0, if_pos h0⟩
theorem bec2_z {l : List Int32} {a1 a2 : Int32} (h0 : ¬ (¬ ((0 ≤ a1 ∧ a1 < l.getD 1 0) ∧ (0 ≤ a2 ∧ a2 ≤ 5)))) : bec2A l a1 a2 = l.getD (103 + 6 * iN a1 + 0) 0 ∧ bec2R l a1 a2 = l.set (103 + 6 * iN a1 + 0) a2 := ⟨if_neg h0, if_neg h0⟩
set_option maxRecDepth 20000 in
set_option maxHeartbeats 4000000 in
theorem Z28 {xs : Option (List Int32)} {d : Nat} {w : List sx_C} (hI : WI w) (l : List Int32) (hR : rel w 1 l) (a1 a2 : Int32) : sx_RP xs (d + 7) 28 0 (lv_args 0 [.ref 0, .int a1, .int a2]) [] w (fun r w2 => (r = some (.int (turA l a1 a2)) ∧ rel w2 1 (turR l a1 a2)) ∧ WI w2 ∧ EO w w2) := by
  obtain ⟨n, hn, en⟩ := hR.n10 hI (Or.inl rfl)
  have en0 := hR.many.trans en
  refine sx_RP.step (pc2 := 1) (ls2 := [(0, .ref 0), (1, .int a1), (2, .int a2)]) (st2 := [.ref 0]) (w3 := w) rfl rfl ?_
  refine sx_RP.gf (v := .ref 1) rfl rfl hI.1.o0 rfl rfl (show _ = 4 from rfl) ?_
  refine sx_RP.step (pc2 := 5) (ls2 := [(0, .ref 0), (1, .int a1), (2, .int a2)]) (st2 := [.int a1, .ref 1]) (w3 := w) rfl rfl ?_
  rcases Decidable.em (0 ≤ a1 ∧ a1 < nI n) with c1 | c1
  · obtain ⟨x2, hx3, rfl⟩ := idx_get c1 (by omega)
    refine sx_RP.cu (as := [.ref 1, .int (nI x2)]) (rest2 := []) (st3 := [.int 1]) rfl rfl (sx_inv_v2 (mi := 28) (k := 120) (st := [.int (nI x2), .ref 1]) (w := w) rfl rfl (hI.1.oC (Or.inl rfl)) rfl rfl rfl) rfl rfl (p27y hI (Or.inl rfl) en0 hn c1) rfl ?_
    refine sx_RP.step (pc2 := 11) (ls2 := [(0, .ref 0), (1, .int (nI x2)), (2, .int a2)]) (st2 := []) (w3 := w) rfl rfl ?_
    refine sx_RP.step (pc2 := 12) (ls2 := [(0, .ref 0), (1, .int (nI x2)), (2, .int a2)]) (st2 := [.int a2]) (w3 := w) rfl rfl ?_
    rcases in_cases a2 0 3 (m := 0) (n := 3) rfl rfl (by decide) (by decide) with q4 | ⟨x5, hx6, hx7, rfl⟩
    · refine sx_RP.cu (as := [.int a2]) (rest2 := []) (st3 := [.int 0]) rfl rfl rfl rfl rfl (cx_23n q4) rfl ?_
      refine sx_RP.step (pc2 := 18) (ls2 := [(0, .ref 0), (1, .int (nI x2)), (2, .int a2)]) (st2 := []) (w3 := w) rfl rfl ?_
      refine sx_RP.step (pc2 := 19) (ls2 := [(0, .ref 0), (1, .int (nI x2)), (2, .int a2)]) (st2 := [.ref 0]) (w3 := w) rfl rfl ?_
      refine sx_RP.step (pc2 := 21) (ls2 := [(0, .ref 0), (1, .int (nI x2)), (2, .int a2)]) (st2 := [.int (-1000000001), .ref 0]) (w3 := w) rfl rfl ?_
      refine sx_RP.callp (as2 := [.ref 0, .int (-1000000001)]) (rest2 := []) rfl rfl (sx_inv_v2 (mi := 28) (k := 78) (st := [.int (-1000000001), .ref 0]) (w := w) rfl rfl hI.1.o0 rfl rfl rfl) rfl rfl rfl (S9_0 hI) (show _ = 24 from rfl) ?_
      rintro r4 w10 ⟨rfl, hI11, hs9⟩
      show sx_RP _ _ _ _ _ [.int (-1000000001)] _ _
      refine sx_RP.ret (r := (some (.int (-1000000001)))) rfl rfl ?_
      exact ⟨⟨by rw [(tur_1 (l := l) (fun z => q4 z.2)).1], by rw [(tur_1 (l := l) (fun z => q4 z.2)).2]; exact hR.same hI (Or.inl rfl) (fun a h1 h2 => hs9 a (by omega))⟩, hI11, fun a ha => hs9 a (by unfold oc at ha; omega)⟩
    · refine sx_RP.cu (as := [.int (nI x5)]) (rest2 := []) (st3 := [.int 1]) rfl rfl rfl rfl rfl (cx_23p ⟨nI_le (a := 0) hx6 (by omega), nI_le (b := 3) hx7 (by decide)⟩) rfl ?_
      refine sx_RP.step (pc2 := 25) (ls2 := [(0, .ref 0), (1, .int (nI x2)), (2, .int (nI x5))]) (st2 := []) (w3 := w) rfl rfl ?_
      refine sx_RP.step (pc2 := 26) (ls2 := [(0, .ref 0), (1, .int (nI x2)), (2, .int (nI x5))]) (st2 := [.ref 0]) (w3 := w) rfl rfl ?_
      refine sx_RP.gf (v := .ref 1) rfl rfl hI.1.o0 rfl rfl (show _ = 29 from rfl) ?_
      refine sx_RP.gref (k := 2) (b := 3) hI (Or.inl rfl) rfl rfl (by omega) (show _ = 32 from rfl) ?_
      refine sx_RP.step (pc2 := 33) (ls2 := [(0, .ref 0), (1, .int (nI x2)), (2, .int (nI x5))]) (st2 := [.int (nI x2), .ref 3]) (w3 := w) rfl rfl ?_
      refine sx_RP.ald (v := .ref (1 + 4 + x2)) rfl (hI.1.aG (Or.inl rfl)) rfl (grA_at (show x2 < 10 by omega)) (show _ = 34 from rfl) ?_
      refine sx_RP.step (pc2 := 35) (ls2 := [(3, .ref (1 + 4 + x2)), (0, .ref 0), (1, .int (nI x2)), (2, .int (nI x5))]) (st2 := []) (w3 := w) rfl rfl ?_
      refine sx_RP.step (pc2 := 36) (ls2 := [(3, .ref (1 + 4 + x2)), (0, .ref 0), (1, .int (nI x2)), (2, .int (nI x5))]) (st2 := [.ref (1 + 4 + x2)]) (w3 := w) rfl rfl ?_
      refine sx_RP.gg (k := 5) hI (gAd.of (Or.inl rfl) (show x2 < 10 by omega)) rfl rfl (by decide) (show _ = 39 from rfl) ?_
      obtain ⟨x12, hx13, ex14⟩ : inR (fi w (1 + 4 + x2) 5) 1 := hI.gk (k := 5) (gAd.of (Or.inl rfl) (show x2 < 10 by omega)) (by decide)
      rw [ex14]
      refine sx_RP.br (p1 := 49) (l1 := [(3, .ref (1 + 4 + x2)), (0, .ref 0), (1, .int (nI x2)), (2, .int (nI x5))]) (s1 := []) (v1 := w) (p2 := 42) (l2 := [(3, .ref (1 + 4 + x2)), (0, .ref 0), (1, .int (nI x2)), (2, .int (nI x5))]) (s2 := []) (v2 := w) rfl rfl (fun q15 => ?_) (fun q15 => ?_)
      · replace q15 := of_decide_eq_true q15
        replace q15 := (nI_eq (a := x12) (b := 0) (by omega) (by omega)).mp q15
        refine sx_RP.step (pc2 := 50) (ls2 := [(3, .ref (1 + 4 + x2)), (0, .ref 0), (1, .int (nI x2)), (2, .int (nI x5))]) (st2 := [.ref (1 + 4 + x2)]) (w3 := w) rfl rfl ?_
        refine sx_RP.gg (k := 3) hI (gAd.of (Or.inl rfl) (show x2 < 10 by omega)) rfl rfl (by decide) (show _ = 53 from rfl) ?_
        obtain ⟨x16, hx17, ex18⟩ : inR (fi w (1 + 4 + x2) 3) 3 := hI.gk (k := 3) (gAd.of (Or.inl rfl) (show x2 < 10 by omega)) (by decide)
        rw [ex18]
        refine sx_RP.step (pc2 := 55) (ls2 := [(4, .int (nI x16)), (3, .ref (1 + 4 + x2)), (0, .ref 0), (1, .int (nI x2)), (2, .int (nI x5))]) (st2 := []) (w3 := w) rfl rfl ?_
        refine sx_RP.step (pc2 := 57) (ls2 := [(4, .int (nI x16)), (3, .ref (1 + 4 + x2)), (0, .ref 0), (1, .int (nI x2)), (2, .int (nI x5))]) (st2 := [.int (nI x16)]) (w3 := w) rfl rfl ?_
        refine sx_RP.step (pc2 := 58) (ls2 := [(4, .int (nI x16)), (3, .ref (1 + 4 + x2)), (0, .ref 0), (1, .int (nI x2)), (2, .int (nI x5))]) (st2 := [.int (nI x5), .int (nI x16)]) (w3 := w) rfl rfl ?_
        refine sx_RP.br (p1 := 71) (l1 := [(4, .int (nI x16)), (3, .ref (1 + 4 + x2)), (0, .ref 0), (1, .int (nI x2)), (2, .int (nI x5))]) (s1 := []) (v1 := w) (p2 := 61) (l2 := [(4, .int (nI x16)), (3, .ref (1 + 4 + x2)), (0, .ref 0), (1, .int (nI x2)), (2, .int (nI x5))]) (s2 := []) (v2 := w) rfl rfl (fun q19 => ?_) (fun q19 => ?_)
        · replace q19 := of_decide_eq_true q19
          replace q19 := (nI_eq (a := x16) (b := x5) (by omega) (by omega)).mp q19
          refine sx_RP.step (pc2 := 73) (ls2 := [(4, .int (nI x16)), (3, .ref (1 + 4 + x2)), (0, .ref 0), (1, .int (nI x2)), (2, .int (nI x5))]) (st2 := [.int (nI x16)]) (w3 := w) rfl rfl ?_
          refine sx_RP.ret (r := (some (.int (nI x16)))) rfl rfl ?_
          exact ⟨⟨by rw [(tur_3 (l := l) (a1 := nI x2) (a2 := nI x5) (fun z => z ⟨by rw [en]; exact c1, ⟨nI_le (a := 0) (show 0 ≤ x5 by omega) (by omega), nI_le (b := 3) (show x5 ≤ 3 by omega) (by decide)⟩⟩) (fun z => z (by rw [iN_n (show x2 < 2 ^ 31 by omega), ((hR.ga (i := x2) (k := 5) (by rw [en, iN_n (by omega)]; exact hx3) (by decide)).symm.trans ex14), q15]; rfl)) (by rw [iN_n (show x2 < 2 ^ 31 by omega), ((hR.ga (i := x2) (k := 3) (by rw [en, iN_n (by omega)]; exact hx3) (by decide)).symm.trans ex18), q19])).1, q19], by rw [(tur_3 (l := l) (a1 := nI x2) (a2 := nI x5) (fun z => z ⟨by rw [en]; exact c1, ⟨nI_le (a := 0) (show 0 ≤ x5 by omega) (by omega), nI_le (b := 3) (show x5 ≤ 3 by omega) (by decide)⟩⟩) (fun z => z (by rw [iN_n (show x2 < 2 ^ 31 by omega), ((hR.ga (i := x2) (k := 5) (by rw [en, iN_n (by omega)]; exact hx3) (by decide)).symm.trans ex14), q15]; rfl)) (by rw [iN_n (show x2 < 2 ^ 31 by omega), ((hR.ga (i := x2) (k := 3) (by rw [en, iN_n (by omega)]; exact hx3) (by decide)).symm.trans ex18), q19])).2]; exact hR⟩, hI, fun _ _ => rfl⟩
        · replace q19 := of_decide_eq_false q19
          replace q19 := mt (nI_eq (a := x16) (b := x5) (by omega) (by omega)).mpr q19
          refine sx_RP.step (pc2 := 62) (ls2 := [(4, .int (nI x16)), (3, .ref (1 + 4 + x2)), (0, .ref 0), (1, .int (nI x2)), (2, .int (nI x5))]) (st2 := [.ref (1 + 4 + x2)]) (w3 := w) rfl rfl ?_
          refine sx_RP.step (pc2 := 63) (ls2 := [(4, .int (nI x16)), (3, .ref (1 + 4 + x2)), (0, .ref 0), (1, .int (nI x2)), (2, .int (nI x5))]) (st2 := [.int (nI x5), .ref (1 + 4 + x2)]) (w3 := w) rfl rfl ?_
          refine sx_RP.xG (k := 3) hI (gAd.of (Or.inl rfl) (show x2 < 10 by omega)) rfl rfl (by decide) rfl (inR.n (show x5 ≤ 3 by omega)) (show _ = 66 from rfl) (fun w20 hI21 hs22 hv23 hr24 => ?_)
          have ex25 := (fi_same 3 (hs22 1 (by omega))).trans en0
          have ex26 := (hr24 5 (by decide)).trans ex14
          refine sx_RP.step (pc2 := 67) (ls2 := [(4, .int (nI x16)), (3, .ref (1 + 4 + x2)), (0, .ref 0), (1, .int (nI x2)), (2, .int (nI x5))]) (st2 := [.ref (1 + 4 + x2)]) (w3 := w20) rfl rfl ?_
          refine sx_RP.step (pc2 := 68) (ls2 := [(4, .int (nI x16)), (3, .ref (1 + 4 + x2)), (0, .ref 0), (1, .int (nI x2)), (2, .int (nI x5))]) (st2 := [.int 0, .ref (1 + 4 + x2)]) (w3 := w20) rfl rfl ?_
          refine sx_RP.xG (k := 4) hI21 (gAd.of (Or.inl rfl) (show x2 < 10 by omega)) rfl rfl (by decide) rfl trivial (show _ = 71 from rfl) (fun w27 hI28 hs29 hv30 hr31 => ?_)
          have ex32 := (fi_same 3 (hs29 1 (by omega))).trans ex25
          have ex33 := (hr31 5 (by decide)).trans ex26
          refine sx_RP.step (pc2 := 73) (ls2 := [(4, .int (nI x16)), (3, .ref (1 + 4 + x2)), (0, .ref 0), (1, .int (nI x2)), (2, .int (nI x5))]) (st2 := [.int (nI x16)]) (w3 := w27) rfl rfl ?_
          refine sx_RP.ret (r := (some (.int (nI x16)))) rfl rfl ?_
          refine ⟨⟨by rw [(tur_z (l := l) (a1 := nI x2) (a2 := nI x5) (fun z => z ⟨by rw [en]; exact c1, ⟨nI_le (a := 0) (show 0 ≤ x5 by omega) (by omega), nI_le (b := 3) (show x5 ≤ 3 by omega) (by decide)⟩⟩) (fun z => z (by rw [iN_n (show x2 < 2 ^ 31 by omega), ((hR.ga (i := x2) (k := 5) (by rw [en, iN_n (by omega)]; exact hx3) (by decide)).symm.trans ex14), q15]; rfl)) (by rw [iN_n (show x2 < 2 ^ 31 by omega), ((hR.ga (i := x2) (k := 3) (by rw [en, iN_n (by omega)]; exact hx3) (by decide)).symm.trans ex18)]; intro z; exact q19 ((nI_eq (by omega) (by omega)).mp z))).1, iN_n (show x2 < 2 ^ 31 by omega), ((hR.ga (i := x2) (k := 3) (by rw [en, iN_n (by omega)]; exact hx3) (by decide)).symm.trans ex18)], ?_⟩, hI28, fun a ha => (hs29 a (by unfold oc at ha; omega)).trans (hs22 a (by unfold oc at ha; omega))⟩
          rw [(tur_z (l := l) (a1 := nI x2) (a2 := nI x5) (fun z => z ⟨by rw [en]; exact c1, ⟨nI_le (a := 0) (show 0 ≤ x5 by omega) (by omega), nI_le (b := 3) (show x5 ≤ 3 by omega) (by decide)⟩⟩) (fun z => z (by rw [iN_n (show x2 < 2 ^ 31 by omega), ((hR.ga (i := x2) (k := 5) (by rw [en, iN_n (by omega)]; exact hx3) (by decide)).symm.trans ex14), q15]; rfl)) (by rw [iN_n (show x2 < 2 ^ 31 by omega), ((hR.ga (i := x2) (k := 3) (by rw [en, iN_n (by omega)]; exact hx3) (by decide)).symm.trans ex18)]; intro z; exact q19 ((nI_eq (by omega) (by omega)).mp z))).2, iN_n (show x2 < 2 ^ 31 by omega)]
          exact (hR.sGa (by omega) (by decide) hs22 hv23 hr24).sGa (by omega) (by decide) hs29 hv30 hr31
      · replace q15 := of_decide_eq_false q15
        replace q15 := mt (nI_eq (a := x12) (b := 0) (by omega) (by omega)).mpr q15
        refine sx_RP.step (pc2 := 43) (ls2 := [(3, .ref (1 + 4 + x2)), (0, .ref 0), (1, .int (nI x2)), (2, .int (nI x5))]) (st2 := [.ref 0]) (w3 := w) rfl rfl ?_
        refine sx_RP.step (pc2 := 45) (ls2 := [(3, .ref (1 + 4 + x2)), (0, .ref 0), (1, .int (nI x2)), (2, .int (nI x5))]) (st2 := [.int (-1000000005), .ref 0]) (w3 := w) rfl rfl ?_
        refine sx_RP.callp (as2 := [.ref 0, .int (-1000000005)]) (rest2 := []) rfl rfl (sx_inv_v2 (mi := 28) (k := 78) (st := [.int (-1000000005), .ref 0]) (w := w) rfl rfl hI.1.o0 rfl rfl rfl) rfl rfl rfl (S9_4 hI) (show _ = 48 from rfl) ?_
        rintro r4 w35 ⟨rfl, hI36, hs34⟩
        show sx_RP _ _ _ _ _ [.int (-1000000005)] _ _
        refine sx_RP.ret (r := (some (.int (-1000000005)))) rfl rfl ?_
        exact ⟨⟨by rw [(tur_2 (l := l) (a1 := nI x2) (a2 := nI x5) (fun z => z ⟨by rw [en]; exact c1, ⟨nI_le (a := 0) (show 0 ≤ x5 by omega) (by omega), nI_le (b := 3) (show x5 ≤ 3 by omega) (by decide)⟩⟩) (by rw [iN_n (show x2 < 2 ^ 31 by omega), ((hR.ga (i := x2) (k := 5) (by rw [en, iN_n (by omega)]; exact hx3) (by decide)).symm.trans ex14)]; intro z; exact q15 ((nI_eq (by omega) (by decide)).mp z))).1], by rw [(tur_2 (l := l) (a1 := nI x2) (a2 := nI x5) (fun z => z ⟨by rw [en]; exact c1, ⟨nI_le (a := 0) (show 0 ≤ x5 by omega) (by omega), nI_le (b := 3) (show x5 ≤ 3 by omega) (by decide)⟩⟩) (by rw [iN_n (show x2 < 2 ^ 31 by omega), ((hR.ga (i := x2) (k := 5) (by rw [en, iN_n (by omega)]; exact hx3) (by decide)).symm.trans ex14)]; intro z; exact q15 ((nI_eq (by omega) (by decide)).mp z))).2]; exact hR.same hI (Or.inl rfl) (fun a h1 h2 => hs34 a (by omega))⟩, hI36, fun a ha => hs34 a (by unfold oc at ha; omega)⟩
  · refine sx_RP.cu (as := [.ref 1, .int a1]) (rest2 := []) (st3 := [.int 0]) rfl rfl (sx_inv_v2 (mi := 28) (k := 120) (st := [.int a1, .ref 1]) (w := w) rfl rfl (hI.1.oC (Or.inl rfl)) rfl rfl rfl) rfl rfl (p27n hI (Or.inl rfl) en0 hn c1) rfl ?_
    refine sx_RP.step (pc2 := 18) (ls2 := [(0, .ref 0), (1, .int a1), (2, .int a2)]) (st2 := []) (w3 := w) rfl rfl ?_
    refine sx_RP.step (pc2 := 19) (ls2 := [(0, .ref 0), (1, .int a1), (2, .int a2)]) (st2 := [.ref 0]) (w3 := w) rfl rfl ?_
    refine sx_RP.step (pc2 := 21) (ls2 := [(0, .ref 0), (1, .int a1), (2, .int a2)]) (st2 := [.int (-1000000001), .ref 0]) (w3 := w) rfl rfl ?_
    refine sx_RP.callp (as2 := [.ref 0, .int (-1000000001)]) (rest2 := []) rfl rfl (sx_inv_v2 (mi := 28) (k := 78) (st := [.int (-1000000001), .ref 0]) (w := w) rfl rfl hI.1.o0 rfl rfl rfl) rfl rfl rfl (S9_0 hI) (show _ = 24 from rfl) ?_
    rintro r4 w38 ⟨rfl, hI39, hs37⟩
    show sx_RP _ _ _ _ _ [.int (-1000000001)] _ _
    refine sx_RP.ret (r := (some (.int (-1000000001)))) rfl rfl ?_
    exact ⟨⟨by rw [(tur_1 (l := l) (fun z => c1 (by rw [← en]; exact z.1))).1], by rw [(tur_1 (l := l) (fun z => c1 (by rw [← en]; exact z.1))).2]; exact hR.same hI (Or.inl rfl) (fun a h1 h2 => hs37 a (by omega))⟩, hI39, fun a ha => hs37 a (by unfold oc at ha; omega)⟩
set_option maxRecDepth 20000 in
set_option maxHeartbeats 4000000 in
theorem Z29 {xs : Option (List Int32)} {d : Nat} {w : List sx_C} (hI : WI w) (l : List Int32) (hR : rel w 1 l) (a1 a2 : Int32) : sx_RP xs (d + 7) 29 0 (lv_args 0 [.ref 0, .int a1, .int a2]) [] w (fun r w2 => (r = some (.int (bec2A l a1 a2)) ∧ rel w2 1 (bec2R l a1 a2)) ∧ WI w2 ∧ EO w w2) := by
  obtain ⟨n, hn, en⟩ := hR.n10 hI (Or.inl rfl)
  have en0 := hR.many.trans en
  refine sx_RP.step (pc2 := 1) (ls2 := [(0, .ref 0), (1, .int a1), (2, .int a2)]) (st2 := [.ref 0]) (w3 := w) rfl rfl ?_
  refine sx_RP.gf (v := .ref 1) rfl rfl hI.1.o0 rfl rfl (show _ = 4 from rfl) ?_
  refine sx_RP.step (pc2 := 5) (ls2 := [(0, .ref 0), (1, .int a1), (2, .int a2)]) (st2 := [.int a1, .ref 1]) (w3 := w) rfl rfl ?_
  rcases Decidable.em (0 ≤ a1 ∧ a1 < nI n) with c1 | c1
  · obtain ⟨x2, hx3, rfl⟩ := idx_get c1 (by omega)
    refine sx_RP.cu (as := [.ref 1, .int (nI x2)]) (rest2 := []) (st3 := [.int 1]) rfl rfl (sx_inv_v2 (mi := 29) (k := 120) (st := [.int (nI x2), .ref 1]) (w := w) rfl rfl (hI.1.oC (Or.inl rfl)) rfl rfl rfl) rfl rfl (p27y hI (Or.inl rfl) en0 hn c1) rfl ?_
    refine sx_RP.step (pc2 := 11) (ls2 := [(0, .ref 0), (1, .int (nI x2)), (2, .int a2)]) (st2 := []) (w3 := w) rfl rfl ?_
    refine sx_RP.step (pc2 := 12) (ls2 := [(0, .ref 0), (1, .int (nI x2)), (2, .int a2)]) (st2 := [.int a2]) (w3 := w) rfl rfl ?_
    rcases in_cases a2 0 5 (m := 0) (n := 5) rfl rfl (by decide) (by decide) with q4 | ⟨x5, hx6, hx7, rfl⟩
    · refine sx_RP.cu (as := [.int a2]) (rest2 := []) (st3 := [.int 0]) rfl rfl rfl rfl rfl (cx_22n q4) rfl ?_
      refine sx_RP.step (pc2 := 18) (ls2 := [(0, .ref 0), (1, .int (nI x2)), (2, .int a2)]) (st2 := []) (w3 := w) rfl rfl ?_
      refine sx_RP.step (pc2 := 19) (ls2 := [(0, .ref 0), (1, .int (nI x2)), (2, .int a2)]) (st2 := [.ref 0]) (w3 := w) rfl rfl ?_
      refine sx_RP.step (pc2 := 21) (ls2 := [(0, .ref 0), (1, .int (nI x2)), (2, .int a2)]) (st2 := [.int (-1000000001), .ref 0]) (w3 := w) rfl rfl ?_
      refine sx_RP.callp (as2 := [.ref 0, .int (-1000000001)]) (rest2 := []) rfl rfl (sx_inv_v2 (mi := 29) (k := 78) (st := [.int (-1000000001), .ref 0]) (w := w) rfl rfl hI.1.o0 rfl rfl rfl) rfl rfl rfl (S9_0 hI) (show _ = 24 from rfl) ?_
      rintro r4 w10 ⟨rfl, hI11, hs9⟩
      show sx_RP _ _ _ _ _ [.int (-1000000001)] _ _
      refine sx_RP.ret (r := (some (.int (-1000000001)))) rfl rfl ?_
      exact ⟨⟨by rw [(bec2_1 (l := l) (fun z => q4 z.2)).1], by rw [(bec2_1 (l := l) (fun z => q4 z.2)).2]; exact hR.same hI (Or.inl rfl) (fun a h1 h2 => hs9 a (by omega))⟩, hI11, fun a ha => hs9 a (by unfold oc at ha; omega)⟩
    · refine sx_RP.cu (as := [.int (nI x5)]) (rest2 := []) (st3 := [.int 1]) rfl rfl rfl rfl rfl (cx_22p ⟨nI_le (a := 0) hx6 (by omega), nI_le (b := 5) hx7 (by decide)⟩) rfl ?_
      refine sx_RP.step (pc2 := 25) (ls2 := [(0, .ref 0), (1, .int (nI x2)), (2, .int (nI x5))]) (st2 := []) (w3 := w) rfl rfl ?_
      refine sx_RP.step (pc2 := 26) (ls2 := [(0, .ref 0), (1, .int (nI x2)), (2, .int (nI x5))]) (st2 := [.ref 0]) (w3 := w) rfl rfl ?_
      refine sx_RP.gf (v := .ref 1) rfl rfl hI.1.o0 rfl rfl (show _ = 29 from rfl) ?_
      refine sx_RP.gref (k := 2) (b := 3) hI (Or.inl rfl) rfl rfl (by omega) (show _ = 32 from rfl) ?_
      refine sx_RP.step (pc2 := 33) (ls2 := [(0, .ref 0), (1, .int (nI x2)), (2, .int (nI x5))]) (st2 := [.int (nI x2), .ref 3]) (w3 := w) rfl rfl ?_
      refine sx_RP.ald (v := .ref (1 + 4 + x2)) rfl (hI.1.aG (Or.inl rfl)) rfl (grA_at (show x2 < 10 by omega)) (show _ = 34 from rfl) ?_
      refine sx_RP.step (pc2 := 35) (ls2 := [(3, .ref (1 + 4 + x2)), (0, .ref 0), (1, .int (nI x2)), (2, .int (nI x5))]) (st2 := []) (w3 := w) rfl rfl ?_
      refine sx_RP.step (pc2 := 36) (ls2 := [(3, .ref (1 + 4 + x2)), (0, .ref 0), (1, .int (nI x2)), (2, .int (nI x5))]) (st2 := [.ref (1 + 4 + x2)]) (w3 := w) rfl rfl ?_
      refine sx_RP.gg (k := 0) hI (gAd.of (Or.inl rfl) (show x2 < 10 by omega)) rfl rfl (by decide) (show _ = 39 from rfl) ?_
      obtain ⟨x12, hx13, ex14⟩ : inR (fi w (1 + 4 + x2) 0) 5 := hI.gk (k := 0) (gAd.of (Or.inl rfl) (show x2 < 10 by omega)) (by decide)
      rw [ex14]
      refine sx_RP.step (pc2 := 41) (ls2 := [(4, .int (nI x12)), (3, .ref (1 + 4 + x2)), (0, .ref 0), (1, .int (nI x2)), (2, .int (nI x5))]) (st2 := []) (w3 := w) rfl rfl ?_
      refine sx_RP.step (pc2 := 42) (ls2 := [(4, .int (nI x12)), (3, .ref (1 + 4 + x2)), (0, .ref 0), (1, .int (nI x2)), (2, .int (nI x5))]) (st2 := [.ref (1 + 4 + x2)]) (w3 := w) rfl rfl ?_
      refine sx_RP.step (pc2 := 43) (ls2 := [(4, .int (nI x12)), (3, .ref (1 + 4 + x2)), (0, .ref 0), (1, .int (nI x2)), (2, .int (nI x5))]) (st2 := [.int (nI x5), .ref (1 + 4 + x2)]) (w3 := w) rfl rfl ?_
      refine sx_RP.xG (k := 0) hI (gAd.of (Or.inl rfl) (show x2 < 10 by omega)) rfl rfl (by decide) rfl (inR.n (show x5 ≤ 5 by omega)) (show _ = 46 from rfl) (fun w15 hI16 hs17 hv18 hr19 => ?_)
      have ex20 := (fi_same 3 (hs17 1 (by omega))).trans en0
      refine sx_RP.step (pc2 := 48) (ls2 := [(4, .int (nI x12)), (3, .ref (1 + 4 + x2)), (0, .ref 0), (1, .int (nI x2)), (2, .int (nI x5))]) (st2 := [.int (nI x12)]) (w3 := w15) rfl rfl ?_
      refine sx_RP.ret (r := (some (.int (nI x12)))) rfl rfl ?_
      refine ⟨⟨by rw [(bec2_z (l := l) (a1 := nI x2) (a2 := nI x5) (fun z => z ⟨by rw [en]; exact c1, ⟨nI_le (a := 0) (show 0 ≤ x5 by omega) (by omega), nI_le (b := 5) (show x5 ≤ 5 by omega) (by decide)⟩⟩)).1, iN_n (show x2 < 2 ^ 31 by omega), ((hR.ga (i := x2) (k := 0) (by rw [en, iN_n (by omega)]; exact hx3) (by decide)).symm.trans ex14)], ?_⟩, hI16, fun a ha => hs17 a (by unfold oc at ha; omega)⟩
      rw [(bec2_z (l := l) (a1 := nI x2) (a2 := nI x5) (fun z => z ⟨by rw [en]; exact c1, ⟨nI_le (a := 0) (show 0 ≤ x5 by omega) (by omega), nI_le (b := 5) (show x5 ≤ 5 by omega) (by decide)⟩⟩)).2, iN_n (show x2 < 2 ^ 31 by omega)]
      exact hR.sGa (by omega) (by decide) hs17 hv18 hr19
  · refine sx_RP.cu (as := [.ref 1, .int a1]) (rest2 := []) (st3 := [.int 0]) rfl rfl (sx_inv_v2 (mi := 29) (k := 120) (st := [.int a1, .ref 1]) (w := w) rfl rfl (hI.1.oC (Or.inl rfl)) rfl rfl rfl) rfl rfl (p27n hI (Or.inl rfl) en0 hn c1) rfl ?_
    refine sx_RP.step (pc2 := 18) (ls2 := [(0, .ref 0), (1, .int a1), (2, .int a2)]) (st2 := []) (w3 := w) rfl rfl ?_
    refine sx_RP.step (pc2 := 19) (ls2 := [(0, .ref 0), (1, .int a1), (2, .int a2)]) (st2 := [.ref 0]) (w3 := w) rfl rfl ?_
    refine sx_RP.step (pc2 := 21) (ls2 := [(0, .ref 0), (1, .int a1), (2, .int a2)]) (st2 := [.int (-1000000001), .ref 0]) (w3 := w) rfl rfl ?_
    refine sx_RP.callp (as2 := [.ref 0, .int (-1000000001)]) (rest2 := []) rfl rfl (sx_inv_v2 (mi := 29) (k := 78) (st := [.int (-1000000001), .ref 0]) (w := w) rfl rfl hI.1.o0 rfl rfl rfl) rfl rfl rfl (S9_0 hI) (show _ = 24 from rfl) ?_
    rintro r4 w22 ⟨rfl, hI23, hs21⟩
    show sx_RP _ _ _ _ _ [.int (-1000000001)] _ _
    refine sx_RP.ret (r := (some (.int (-1000000001)))) rfl rfl ?_
    exact ⟨⟨by rw [(bec2_1 (l := l) (fun z => c1 (by rw [← en]; exact z.1))).1], by rw [(bec2_1 (l := l) (fun z => c1 (by rw [← en]; exact z.1))).2]; exact hR.same hI (Or.inl rfl) (fun a h1 h2 => hs21 a (by omega))⟩, hI23, fun a ha => hs21 a (by unfold oc at ha; omega)⟩
set_option maxRecDepth 20000 in
set_option maxHeartbeats 4000000 in
theorem x137y {xs : Option (List Int32)} {d g : Nat} {w : List sx_C} (hI : WI w) (hg : g < 10) (hh : (ia w 112).getD (103 + 6 * g + 5) 0 = 0) : sx_RU xs (d + 1) 137 0 (lv_args 0 [.ref 111, .int (nI g)]) [] w (some (.int 1)) w := by
  have h : sx_RP xs (d + 1) 137 0 (lv_args 0 [.ref 111, .int (nI g)]) [] w (fun r w2 => r = some (.int 1) ∧ w2 = w) := by
    refine sx_RP.step (pc2 := 1) (ls2 := [(0, .ref 111), (1, .int (nI g))]) (st2 := [.ref 111]) (w3 := w) rfl rfl ?_
    refine sx_RP.step (pc2 := 2) (ls2 := [(0, .ref 111), (1, .int (nI g))]) (st2 := [.int (nI g), .ref 111]) (w3 := w) rfl rfl ?_
    refine sx_RP.step (pc2 := 3) (ls2 := [(0, .ref 111), (1, .int (nI g))]) (st2 := [.int 5, .int (nI g), .ref 111]) (w3 := w) rfl rfl ?_
    refine sx_RP.cu (as := [.ref 111, .int (nI g), .int 5]) (rest2 := []) (st3 := [.int ((ia w 112).getD (103 + 6 * g + 5) 0)]) rfl rfl (sx_inv_v2 (mi := 137) (k := 59) (st := [.int 5, .int (nI g), .ref 111]) (w := w) rfl rfl hI.1.o111 rfl rfl rfl) rfl rfl (x138 hI hg (show 5 < 6 by decide)) rfl ?_
    refine sx_RP.br (p2 := 9) (l2 := [(0, .ref 111), (1, .int (nI g))]) (s2 := []) (v2 := w) rfl rfl (fun q => absurd (of_decide_eq_true q) (fun z => z hh)) (fun _ => ?_)
    refine sx_RP.step (pc2 := 10) (ls2 := [(0, .ref 111), (1, .int (nI g))]) (st2 := [.int 1]) (w3 := w) rfl rfl ?_
    refine sx_RP.step (pc2 := 14) (ls2 := [(0, .ref 111), (1, .int (nI g))]) (st2 := [.int 1]) (w3 := w) rfl rfl ?_
    refine sx_RP.ret (r := (some (.int 1))) rfl rfl ?_
    exact ⟨rfl, rfl⟩
  obtain ⟨r, w2, h1, rfl, rfl⟩ := h
  exact h1
set_option maxRecDepth 20000 in
set_option maxHeartbeats 4000000 in
theorem x137n {xs : Option (List Int32)} {d g : Nat} {w : List sx_C} (hI : WI w) (hg : g < 10) (hh : ¬ (ia w 112).getD (103 + 6 * g + 5) 0 = 0) : sx_RU xs (d + 1) 137 0 (lv_args 0 [.ref 111, .int (nI g)]) [] w (some (.int 0)) w := by
  have h : sx_RP xs (d + 1) 137 0 (lv_args 0 [.ref 111, .int (nI g)]) [] w (fun r w2 => r = some (.int 0) ∧ w2 = w) := by
    refine sx_RP.step (pc2 := 1) (ls2 := [(0, .ref 111), (1, .int (nI g))]) (st2 := [.ref 111]) (w3 := w) rfl rfl ?_
    refine sx_RP.step (pc2 := 2) (ls2 := [(0, .ref 111), (1, .int (nI g))]) (st2 := [.int (nI g), .ref 111]) (w3 := w) rfl rfl ?_
    refine sx_RP.step (pc2 := 3) (ls2 := [(0, .ref 111), (1, .int (nI g))]) (st2 := [.int 5, .int (nI g), .ref 111]) (w3 := w) rfl rfl ?_
    refine sx_RP.cu (as := [.ref 111, .int (nI g), .int 5]) (rest2 := []) (st3 := [.int ((ia w 112).getD (103 + 6 * g + 5) 0)]) rfl rfl (sx_inv_v2 (mi := 137) (k := 59) (st := [.int 5, .int (nI g), .ref 111]) (w := w) rfl rfl hI.1.o111 rfl rfl rfl) rfl rfl (x138 hI hg (show 5 < 6 by decide)) rfl ?_
    refine sx_RP.br (p1 := 13) (l1 := [(0, .ref 111), (1, .int (nI g))]) (s1 := []) (v1 := w) rfl rfl (fun _ => ?_) (fun q => absurd hh (of_decide_eq_false q))
    refine sx_RP.step (pc2 := 14) (ls2 := [(0, .ref 111), (1, .int (nI g))]) (st2 := [.int 0]) (w3 := w) rfl rfl ?_
    refine sx_RP.ret (r := (some (.int 0))) rfl rfl ?_
    exact ⟨rfl, rfl⟩
  obtain ⟨r, w2, h1, rfl, rfl⟩ := h
  exact h1
set_option maxRecDepth 20000 in
set_option maxHeartbeats 4000000 in
theorem Y157 {xs : Option (List Int32)} {d : Nat} {w : List sx_C} (hI : WI w) (a1 a2 : Int32) : sx_RP xs (d + 7) 157 0 (lv_args 0 [.ref 111, .int a1, .int a2]) [] w (fun r w2 => (r = some (.int (turA (ia w 112) a1 a2)) ∧ ia w2 112 = turR (ia w 112) a1 a2) ∧ WI w2 ∧ EOm w w2) := by
  obtain ⟨n, hn, en⟩ := (hI.sA (a := 112) (by decide) 1 (by decide)).1 rfl
  refine sx_RP.step (pc2 := 1) (ls2 := [(0, .ref 111), (1, .int a1), (2, .int a2)]) (st2 := [.ref 111]) (w3 := w) rfl rfl ?_
  refine sx_RP.step (pc2 := 2) (ls2 := [(0, .ref 111), (1, .int a1), (2, .int a2)]) (st2 := [.int a1, .ref 111]) (w3 := w) rfl rfl ?_
  rcases Decidable.em (0 ≤ a1 ∧ a1 < nI n) with c1 | c1
  · obtain ⟨x2, hx3, rfl⟩ := idx_get c1 (by omega)
    refine sx_RP.cu (as := [.ref 111, .int (nI x2)]) (rest2 := []) (st3 := [.int 1]) rfl rfl (sx_inv_v2 (mi := 157) (k := 124) (st := [.int (nI x2), .ref 111]) (w := w) rfl rfl hI.1.o111 rfl rfl rfl) rfl rfl (p156y hI en hn c1) rfl ?_
    refine sx_RP.step (pc2 := 8) (ls2 := [(0, .ref 111), (1, .int (nI x2)), (2, .int a2)]) (st2 := []) (w3 := w) rfl rfl ?_
    refine sx_RP.step (pc2 := 9) (ls2 := [(0, .ref 111), (1, .int (nI x2)), (2, .int a2)]) (st2 := [.int a2]) (w3 := w) rfl rfl ?_
    rcases in_cases a2 0 3 (m := 0) (n := 3) rfl rfl (by decide) (by decide) with q4 | ⟨x5, hx6, hx7, rfl⟩
    · refine sx_RP.cu (as := [.int a2]) (rest2 := []) (st3 := [.int 0]) rfl rfl rfl rfl rfl (cx_152n q4) rfl ?_
      refine sx_RP.step (pc2 := 15) (ls2 := [(0, .ref 111), (1, .int (nI x2)), (2, .int a2)]) (st2 := []) (w3 := w) rfl rfl ?_
      refine sx_RP.step (pc2 := 16) (ls2 := [(0, .ref 111), (1, .int (nI x2)), (2, .int a2)]) (st2 := [.ref 111]) (w3 := w) rfl rfl ?_
      refine sx_RP.step (pc2 := 17) (ls2 := [(0, .ref 111), (1, .int (nI x2)), (2, .int a2)]) (st2 := [.int 0, .ref 111]) (w3 := w) rfl rfl ?_
      refine sx_RP.callp (as2 := [.ref 111, .int 0]) (rest2 := []) rfl rfl (sx_inv_v2 (mi := 157) (k := 70) (st := [.int 0, .ref 111]) (w := w) rfl rfl hI.1.o111 rfl rfl rfl) rfl rfl rfl (S133_0 hI) (show _ = 20 from rfl) ?_
      rintro r4 w10 ⟨rfl, hI11, hs9⟩
      show sx_RP _ _ _ _ _ [.int (-1000000001)] _ _
      refine sx_RP.ret (r := (some (.int (-1000000001)))) rfl rfl ?_
      exact ⟨⟨by rw [(tur_1 (fun z => q4 z.2)).1], by rw [(tur_1 (fun z => q4 z.2)).2]; exact ia_of (hs9 112 (by decide))⟩, hI11, fun a ha => hs9 a (by unfold ocm at ha; omega)⟩
    · refine sx_RP.cu (as := [.int (nI x5)]) (rest2 := []) (st3 := [.int 1]) rfl rfl rfl rfl rfl (cx_152p ⟨nI_le (a := 0) hx6 (by omega), nI_le (b := 3) hx7 (by decide)⟩) rfl ?_
      refine sx_RP.step (pc2 := 21) (ls2 := [(0, .ref 111), (1, .int (nI x2)), (2, .int (nI x5))]) (st2 := []) (w3 := w) rfl rfl ?_
      refine sx_RP.step (pc2 := 22) (ls2 := [(0, .ref 111), (1, .int (nI x2)), (2, .int (nI x5))]) (st2 := [.ref 111]) (w3 := w) rfl rfl ?_
      refine sx_RP.step (pc2 := 23) (ls2 := [(0, .ref 111), (1, .int (nI x2)), (2, .int (nI x5))]) (st2 := [.int (nI x2), .ref 111]) (w3 := w) rfl rfl ?_
      rcases Decidable.em ((ia w 112).getD (103 + 6 * x2 + 5) 0 = 0) with c12 | c12
      · refine sx_RP.cu (as := [.ref 111, .int (nI x2)]) (rest2 := []) (st3 := [.int 1]) rfl rfl (sx_inv_v2 (mi := 157) (k := 74) (st := [.int (nI x2), .ref 111]) (w := w) rfl rfl hI.1.o111 rfl rfl rfl) rfl rfl (x137y hI (by omega) c12) rfl ?_
        refine sx_RP.step (pc2 := 35) (ls2 := [(0, .ref 111), (1, .int (nI x2)), (2, .int (nI x5))]) (st2 := []) (w3 := w) rfl rfl ?_
        refine sx_RP.step (pc2 := 36) (ls2 := [(0, .ref 111), (1, .int (nI x2)), (2, .int (nI x5))]) (st2 := [.ref 111]) (w3 := w) rfl rfl ?_
        refine sx_RP.step (pc2 := 37) (ls2 := [(0, .ref 111), (1, .int (nI x2)), (2, .int (nI x5))]) (st2 := [.int (nI x2), .ref 111]) (w3 := w) rfl rfl ?_
        refine sx_RP.step (pc2 := 38) (ls2 := [(0, .ref 111), (1, .int (nI x2)), (2, .int (nI x5))]) (st2 := [.int 3, .int (nI x2), .ref 111]) (w3 := w) rfl rfl ?_
        refine sx_RP.step (pc2 := 39) (ls2 := [(0, .ref 111), (1, .int (nI x2)), (2, .int (nI x5))]) (st2 := [.int (nI x5), .int 3, .int (nI x2), .ref 111]) (w3 := w) rfl rfl ?_
        refine sx_RP.callp (as2 := [.ref 111, .int (nI x2), .int 3, .int (nI x5)]) (rest2 := []) rfl rfl (sx_inv_v2 (mi := 157) (k := 110) (st := [.int (nI x5), .int 3, .int (nI x2), .ref 111]) (w := w) rfl rfl hI.1.o111 rfl rfl rfl) rfl rfl rfl (X154 (c := 3) hI (show x2 < 10 by omega) (by decide) (eOK_g (g := x2) (c := 3) (by omega) (by decide) (inR.n (show x5 ≤ 3 by omega)))) (show _ = 42 from rfl) ?_
        rintro r4 w15 ⟨⟨rfl, hv13⟩, hI16, hs14⟩
        show sx_RP _ _ _ _ _ [.int ((ia w 112).getD (103 + 6 * x2 + 3) 0)] _ _
        refine sx_RP.step (pc2 := 43) (ls2 := [(3, .int ((ia w 112).getD (103 + 6 * x2 + 3) 0)), (0, .ref 111), (1, .int (nI x2)), (2, .int (nI x5))]) (st2 := []) (w3 := w15) rfl rfl ?_
        refine sx_RP.step (pc2 := 44) (ls2 := [(3, .int ((ia w 112).getD (103 + 6 * x2 + 3) 0)), (0, .ref 111), (1, .int (nI x2)), (2, .int (nI x5))]) (st2 := [.ref 111]) (w3 := w15) rfl rfl ?_
        refine sx_RP.step (pc2 := 45) (ls2 := [(3, .int ((ia w 112).getD (103 + 6 * x2 + 3) 0)), (0, .ref 111), (1, .int (nI x2)), (2, .int (nI x5))]) (st2 := [.int (nI x2), .ref 111]) (w3 := w15) rfl rfl ?_
        refine sx_RP.step (pc2 := 46) (ls2 := [(3, .int ((ia w 112).getD (103 + 6 * x2 + 3) 0)), (0, .ref 111), (1, .int (nI x2)), (2, .int (nI x5))]) (st2 := [.int 4, .int (nI x2), .ref 111]) (w3 := w15) rfl rfl ?_
        refine sx_RP.step (pc2 := 47) (ls2 := [(3, .int ((ia w 112).getD (103 + 6 * x2 + 3) 0)), (0, .ref 111), (1, .int (nI x2)), (2, .int (nI x5))]) (st2 := [.int ((ia w 112).getD (103 + 6 * x2 + 3) 0), .int 4, .int (nI x2), .ref 111]) (w3 := w15) rfl rfl ?_
        refine sx_RP.step (pc2 := 48) (ls2 := [(3, .int ((ia w 112).getD (103 + 6 * x2 + 3) 0)), (0, .ref 111), (1, .int (nI x2)), (2, .int (nI x5))]) (st2 := [.int (nI x5), .int ((ia w 112).getD (103 + 6 * x2 + 3) 0), .int 4, .int (nI x2), .ref 111]) (w3 := w15) rfl rfl ?_
        refine sx_RP.br (p1 := 60) (l1 := [(3, .int ((ia w 112).getD (103 + 6 * x2 + 3) 0)), (0, .ref 111), (1, .int (nI x2)), (2, .int (nI x5))]) (s1 := [.int 4, .int (nI x2), .ref 111]) (v1 := w15) (p2 := 51) (l2 := [(3, .int ((ia w 112).getD (103 + 6 * x2 + 3) 0)), (0, .ref 111), (1, .int (nI x2)), (2, .int (nI x5))]) (s2 := [.int 4, .int (nI x2), .ref 111]) (v2 := w15) rfl rfl (fun q17 => ?_) (fun q17 => ?_)
        · replace q17 := of_decide_eq_true q17
          refine sx_RP.step (pc2 := 61) (ls2 := [(3, .int ((ia w 112).getD (103 + 6 * x2 + 3) 0)), (0, .ref 111), (1, .int (nI x2)), (2, .int (nI x5))]) (st2 := [.int 0, .int 4, .int (nI x2), .ref 111]) (w3 := w15) rfl rfl ?_
          refine sx_RP.callp (as2 := [.ref 111, .int (nI x2), .int 4, .int 0]) (rest2 := []) rfl rfl (sx_inv_v2 (mi := 157) (k := 110) (st := [.int 0, .int 4, .int (nI x2), .ref 111]) (w := w15) rfl rfl hI16.1.o111 rfl rfl rfl) rfl rfl rfl (X154 (c := 4) hI16 (show x2 < 10 by omega) (by decide) (eOK_g (g := x2) (c := 4) (by omega) (by decide) trivial)) (show _ = 64 from rfl) ?_
          rintro r4 w20 ⟨⟨rfl, hv18⟩, hI21, hs19⟩
          show sx_RP _ _ _ _ _ [.int ((ia w15 112).getD (103 + 6 * x2 + 4) 0)] _ _
          refine sx_RP.step (pc2 := 65) (ls2 := [(3, .int ((ia w 112).getD (103 + 6 * x2 + 3) 0)), (0, .ref 111), (1, .int (nI x2)), (2, .int (nI x5))]) (st2 := []) (w3 := w20) rfl rfl ?_
          refine sx_RP.step (pc2 := 66) (ls2 := [(3, .int ((ia w 112).getD (103 + 6 * x2 + 3) 0)), (0, .ref 111), (1, .int (nI x2)), (2, .int (nI x5))]) (st2 := [.int ((ia w 112).getD (103 + 6 * x2 + 3) 0)]) (w3 := w20) rfl rfl ?_
          refine sx_RP.ret (r := (some (.int ((ia w 112).getD (103 + 6 * x2 + 3) 0)))) rfl rfl ?_
          exact ⟨⟨by rw [(tur_z (l := ia w 112) (a1 := nI x2) (a2 := nI x5) (fun z => z ⟨by rw [en]; exact c1, ⟨nI_le (a := 0) (show 0 ≤ x5 by omega) (by omega), nI_le (b := 3) (show x5 ≤ 3 by omega) (by decide)⟩⟩) (fun z => z (by rw [iN_n (show x2 < 2 ^ 31 by omega)]; exact c12)) (by rw [iN_n (show x2 < 2 ^ 31 by omega)]; exact q17)).1, iN_n (show x2 < 2 ^ 31 by omega)], by rw [(tur_z (l := ia w 112) (a1 := nI x2) (a2 := nI x5) (fun z => z ⟨by rw [en]; exact c1, ⟨nI_le (a := 0) (show 0 ≤ x5 by omega) (by omega), nI_le (b := 3) (show x5 ≤ 3 by omega) (by decide)⟩⟩) (fun z => z (by rw [iN_n (show x2 < 2 ^ 31 by omega)]; exact c12)) (by rw [iN_n (show x2 < 2 ^ 31 by omega)]; exact q17)).2, hv18, hv13, iN_n (show x2 < 2 ^ 31 by omega)]⟩, hI21, fun a ha => (hs19 a (by unfold ocm at ha; omega)).trans (hs14 a (by unfold ocm at ha; omega))⟩
        · replace q17 := Decidable.not_not.mp (of_decide_eq_false q17)
          refine sx_RP.step (pc2 := 52) (ls2 := [(3, .int ((ia w 112).getD (103 + 6 * x2 + 3) 0)), (0, .ref 111), (1, .int (nI x2)), (2, .int (nI x5))]) (st2 := [.ref 111, .int 4, .int (nI x2), .ref 111]) (w3 := w15) rfl rfl ?_
          refine sx_RP.step (pc2 := 53) (ls2 := [(3, .int ((ia w 112).getD (103 + 6 * x2 + 3) 0)), (0, .ref 111), (1, .int (nI x2)), (2, .int (nI x5))]) (st2 := [.int (nI x2), .ref 111, .int 4, .int (nI x2), .ref 111]) (w3 := w15) rfl rfl ?_
          refine sx_RP.step (pc2 := 54) (ls2 := [(3, .int ((ia w 112).getD (103 + 6 * x2 + 3) 0)), (0, .ref 111), (1, .int (nI x2)), (2, .int (nI x5))]) (st2 := [.int 4, .int (nI x2), .ref 111, .int 4, .int (nI x2), .ref 111]) (w3 := w15) rfl rfl ?_
          refine sx_RP.cu (as := [.ref 111, .int (nI x2), .int 4]) (rest2 := [.int 4, .int (nI x2), .ref 111]) (st3 := [.int ((ia w15 112).getD (103 + 6 * x2 + 4) 0), .int 4, .int (nI x2), .ref 111]) rfl rfl (sx_inv_v2 (mi := 157) (k := 59) (st := [.int 4, .int (nI x2), .ref 111, .int 4, .int (nI x2), .ref 111]) (w := w15) rfl rfl hI16.1.o111 rfl rfl rfl) rfl rfl (x138 hI16 (show x2 < 10 by omega) (show 4 < 6 by decide)) rfl ?_
          refine sx_RP.step (pc2 := 61) (ls2 := [(3, .int ((ia w 112).getD (103 + 6 * x2 + 3) 0)), (0, .ref 111), (1, .int (nI x2)), (2, .int (nI x5))]) (st2 := [.int ((ia w15 112).getD (103 + 6 * x2 + 4) 0), .int 4, .int (nI x2), .ref 111]) (w3 := w15) rfl rfl ?_
          refine sx_RP.callp (as2 := [.ref 111, .int (nI x2), .int 4, .int ((ia w15 112).getD (103 + 6 * x2 + 4) 0)]) (rest2 := []) rfl rfl (sx_inv_v2 (mi := 157) (k := 110) (st := [.int ((ia w15 112).getD (103 + 6 * x2 + 4) 0), .int 4, .int (nI x2), .ref 111]) (w := w15) rfl rfl hI16.1.o111 rfl rfl rfl) rfl rfl rfl (X154 (c := 4) hI16 (show x2 < 10 by omega) (by decide) (eOK_g (g := x2) (c := 4) (by omega) (by decide) trivial)) (show _ = 64 from rfl) ?_
          rintro r4 w24 ⟨⟨rfl, hv22⟩, hI25, hs23⟩
          show sx_RP _ _ _ _ _ [.int ((ia w15 112).getD (103 + 6 * x2 + 4) 0)] _ _
          refine sx_RP.step (pc2 := 65) (ls2 := [(3, .int ((ia w 112).getD (103 + 6 * x2 + 3) 0)), (0, .ref 111), (1, .int (nI x2)), (2, .int (nI x5))]) (st2 := []) (w3 := w24) rfl rfl ?_
          refine sx_RP.step (pc2 := 66) (ls2 := [(3, .int ((ia w 112).getD (103 + 6 * x2 + 3) 0)), (0, .ref 111), (1, .int (nI x2)), (2, .int (nI x5))]) (st2 := [.int ((ia w 112).getD (103 + 6 * x2 + 3) 0)]) (w3 := w24) rfl rfl ?_
          refine sx_RP.ret (r := (some (.int ((ia w 112).getD (103 + 6 * x2 + 3) 0)))) rfl rfl ?_
          exact ⟨⟨by rw [(tur_3 (l := ia w 112) (a1 := nI x2) (a2 := nI x5) (fun z => z ⟨by rw [en]; exact c1, ⟨nI_le (a := 0) (show 0 ≤ x5 by omega) (by omega), nI_le (b := 3) (show x5 ≤ 3 by omega) (by decide)⟩⟩) (fun z => z (by rw [iN_n (show x2 < 2 ^ 31 by omega)]; exact c12)) (by rw [iN_n (show x2 < 2 ^ 31 by omega)]; exact q17)).1, q17], by rw [(tur_3 (l := ia w 112) (a1 := nI x2) (a2 := nI x5) (fun z => z ⟨by rw [en]; exact c1, ⟨nI_le (a := 0) (show 0 ≤ x5 by omega) (by omega), nI_le (b := 3) (show x5 ≤ 3 by omega) (by decide)⟩⟩) (fun z => z (by rw [iN_n (show x2 < 2 ^ 31 by omega)]; exact c12)) (by rw [iN_n (show x2 < 2 ^ 31 by omega)]; exact q17)).2, hv22, hv13, set_self9 (by rw [List.length_set, hI.1.a112.2]; omega) rfl]; exact set_self9 (by rw [hI.1.a112.2]; omega) q17⟩, hI25, fun a ha => (hs23 a (by unfold ocm at ha; omega)).trans (hs14 a (by unfold ocm at ha; omega))⟩
      · refine sx_RP.cu (as := [.ref 111, .int (nI x2)]) (rest2 := []) (st3 := [.int 0]) rfl rfl (sx_inv_v2 (mi := 157) (k := 74) (st := [.int (nI x2), .ref 111]) (w := w) rfl rfl hI.1.o111 rfl rfl rfl) rfl rfl (x137n hI (by omega) c12) rfl ?_
        refine sx_RP.step (pc2 := 29) (ls2 := [(0, .ref 111), (1, .int (nI x2)), (2, .int (nI x5))]) (st2 := []) (w3 := w) rfl rfl ?_
        refine sx_RP.step (pc2 := 30) (ls2 := [(0, .ref 111), (1, .int (nI x2)), (2, .int (nI x5))]) (st2 := [.ref 111]) (w3 := w) rfl rfl ?_
        refine sx_RP.step (pc2 := 31) (ls2 := [(0, .ref 111), (1, .int (nI x2)), (2, .int (nI x5))]) (st2 := [.int 4, .ref 111]) (w3 := w) rfl rfl ?_
        refine sx_RP.callp (as2 := [.ref 111, .int 4]) (rest2 := []) rfl rfl (sx_inv_v2 (mi := 157) (k := 70) (st := [.int 4, .ref 111]) (w := w) rfl rfl hI.1.o111 rfl rfl rfl) rfl rfl rfl (S133_4 hI) (show _ = 34 from rfl) ?_
        rintro r4 w27 ⟨rfl, hI28, hs26⟩
        show sx_RP _ _ _ _ _ [.int (-1000000005)] _ _
        refine sx_RP.ret (r := (some (.int (-1000000005)))) rfl rfl ?_
        exact ⟨⟨by rw [(tur_2 (l := ia w 112) (a1 := nI x2) (a2 := nI x5) (fun z => z ⟨by rw [en]; exact c1, ⟨nI_le (a := 0) (show 0 ≤ x5 by omega) (by omega), nI_le (b := 3) (show x5 ≤ 3 by omega) (by decide)⟩⟩) (by rw [iN_n (show x2 < 2 ^ 31 by omega)]; exact c12)).1], by rw [(tur_2 (l := ia w 112) (a1 := nI x2) (a2 := nI x5) (fun z => z ⟨by rw [en]; exact c1, ⟨nI_le (a := 0) (show 0 ≤ x5 by omega) (by omega), nI_le (b := 3) (show x5 ≤ 3 by omega) (by decide)⟩⟩) (by rw [iN_n (show x2 < 2 ^ 31 by omega)]; exact c12)).2]; exact ia_of (hs26 112 (by decide))⟩, hI28, fun a ha => hs26 a (by unfold ocm at ha; omega)⟩
  · refine sx_RP.cu (as := [.ref 111, .int a1]) (rest2 := []) (st3 := [.int 0]) rfl rfl (sx_inv_v2 (mi := 157) (k := 124) (st := [.int a1, .ref 111]) (w := w) rfl rfl hI.1.o111 rfl rfl rfl) rfl rfl (p156n hI en hn c1) rfl ?_
    refine sx_RP.step (pc2 := 15) (ls2 := [(0, .ref 111), (1, .int a1), (2, .int a2)]) (st2 := []) (w3 := w) rfl rfl ?_
    refine sx_RP.step (pc2 := 16) (ls2 := [(0, .ref 111), (1, .int a1), (2, .int a2)]) (st2 := [.ref 111]) (w3 := w) rfl rfl ?_
    refine sx_RP.step (pc2 := 17) (ls2 := [(0, .ref 111), (1, .int a1), (2, .int a2)]) (st2 := [.int 0, .ref 111]) (w3 := w) rfl rfl ?_
    refine sx_RP.callp (as2 := [.ref 111, .int 0]) (rest2 := []) rfl rfl (sx_inv_v2 (mi := 157) (k := 70) (st := [.int 0, .ref 111]) (w := w) rfl rfl hI.1.o111 rfl rfl rfl) rfl rfl rfl (S133_0 hI) (show _ = 20 from rfl) ?_
    rintro r4 w30 ⟨rfl, hI31, hs29⟩
    show sx_RP _ _ _ _ _ [.int (-1000000001)] _ _
    refine sx_RP.ret (r := (some (.int (-1000000001)))) rfl rfl ?_
    exact ⟨⟨by rw [(tur_1 (fun z => c1 (by rw [← en]; exact z.1))).1], by rw [(tur_1 (fun z => c1 (by rw [← en]; exact z.1))).2]; exact ia_of (hs29 112 (by decide))⟩, hI31, fun a ha => hs29 a (by unfold ocm at ha; omega)⟩
set_option maxRecDepth 20000 in
set_option maxHeartbeats 4000000 in
theorem Y158 {xs : Option (List Int32)} {d : Nat} {w : List sx_C} (hI : WI w) (a1 a2 : Int32) : sx_RP xs (d + 7) 158 0 (lv_args 0 [.ref 111, .int a1, .int a2]) [] w (fun r w2 => (r = some (.int (bec2A (ia w 112) a1 a2)) ∧ ia w2 112 = bec2R (ia w 112) a1 a2) ∧ WI w2 ∧ EOm w w2) := by
  obtain ⟨n, hn, en⟩ := (hI.sA (a := 112) (by decide) 1 (by decide)).1 rfl
  refine sx_RP.step (pc2 := 1) (ls2 := [(0, .ref 111), (1, .int a1), (2, .int a2)]) (st2 := [.ref 111]) (w3 := w) rfl rfl ?_
  refine sx_RP.step (pc2 := 2) (ls2 := [(0, .ref 111), (1, .int a1), (2, .int a2)]) (st2 := [.int a1, .ref 111]) (w3 := w) rfl rfl ?_
  rcases Decidable.em (0 ≤ a1 ∧ a1 < nI n) with c1 | c1
  · obtain ⟨x2, hx3, rfl⟩ := idx_get c1 (by omega)
    refine sx_RP.cu (as := [.ref 111, .int (nI x2)]) (rest2 := []) (st3 := [.int 1]) rfl rfl (sx_inv_v2 (mi := 158) (k := 124) (st := [.int (nI x2), .ref 111]) (w := w) rfl rfl hI.1.o111 rfl rfl rfl) rfl rfl (p156y hI en hn c1) rfl ?_
    refine sx_RP.step (pc2 := 8) (ls2 := [(0, .ref 111), (1, .int (nI x2)), (2, .int a2)]) (st2 := []) (w3 := w) rfl rfl ?_
    refine sx_RP.step (pc2 := 9) (ls2 := [(0, .ref 111), (1, .int (nI x2)), (2, .int a2)]) (st2 := [.int a2]) (w3 := w) rfl rfl ?_
    rcases in_cases a2 0 5 (m := 0) (n := 5) rfl rfl (by decide) (by decide) with q4 | ⟨x5, hx6, hx7, rfl⟩
    · refine sx_RP.cu (as := [.int a2]) (rest2 := []) (st3 := [.int 0]) rfl rfl rfl rfl rfl (cx_151n q4) rfl ?_
      refine sx_RP.step (pc2 := 25) (ls2 := [(0, .ref 111), (1, .int (nI x2)), (2, .int a2)]) (st2 := []) (w3 := w) rfl rfl ?_
      refine sx_RP.step (pc2 := 26) (ls2 := [(0, .ref 111), (1, .int (nI x2)), (2, .int a2)]) (st2 := [.ref 111]) (w3 := w) rfl rfl ?_
      refine sx_RP.step (pc2 := 27) (ls2 := [(0, .ref 111), (1, .int (nI x2)), (2, .int a2)]) (st2 := [.int 0, .ref 111]) (w3 := w) rfl rfl ?_
      refine sx_RP.callp (as2 := [.ref 111, .int 0]) (rest2 := []) rfl rfl (sx_inv_v2 (mi := 158) (k := 70) (st := [.int 0, .ref 111]) (w := w) rfl rfl hI.1.o111 rfl rfl rfl) rfl rfl rfl (S133_0 hI) (show _ = 30 from rfl) ?_
      rintro r4 w10 ⟨rfl, hI11, hs9⟩
      show sx_RP _ _ _ _ _ [.int (-1000000001)] _ _
      refine sx_RP.ret (r := (some (.int (-1000000001)))) rfl rfl ?_
      exact ⟨⟨by rw [(bec2_1 (fun z => q4 z.2)).1], by rw [(bec2_1 (fun z => q4 z.2)).2]; exact ia_of (hs9 112 (by decide))⟩, hI11, fun a ha => hs9 a (by unfold ocm at ha; omega)⟩
    · refine sx_RP.cu (as := [.int (nI x5)]) (rest2 := []) (st3 := [.int 1]) rfl rfl rfl rfl rfl (cx_151p ⟨nI_le (a := 0) hx6 (by omega), nI_le (b := 5) hx7 (by decide)⟩) rfl ?_
      refine sx_RP.step (pc2 := 15) (ls2 := [(0, .ref 111), (1, .int (nI x2)), (2, .int (nI x5))]) (st2 := []) (w3 := w) rfl rfl ?_
      refine sx_RP.step (pc2 := 16) (ls2 := [(0, .ref 111), (1, .int (nI x2)), (2, .int (nI x5))]) (st2 := [.ref 111]) (w3 := w) rfl rfl ?_
      refine sx_RP.step (pc2 := 17) (ls2 := [(0, .ref 111), (1, .int (nI x2)), (2, .int (nI x5))]) (st2 := [.int (nI x2), .ref 111]) (w3 := w) rfl rfl ?_
      refine sx_RP.step (pc2 := 18) (ls2 := [(0, .ref 111), (1, .int (nI x2)), (2, .int (nI x5))]) (st2 := [.int 0, .int (nI x2), .ref 111]) (w3 := w) rfl rfl ?_
      refine sx_RP.step (pc2 := 19) (ls2 := [(0, .ref 111), (1, .int (nI x2)), (2, .int (nI x5))]) (st2 := [.int (nI x5), .int 0, .int (nI x2), .ref 111]) (w3 := w) rfl rfl ?_
      refine sx_RP.callp (as2 := [.ref 111, .int (nI x2), .int 0, .int (nI x5)]) (rest2 := []) rfl rfl (sx_inv_v2 (mi := 158) (k := 110) (st := [.int (nI x5), .int 0, .int (nI x2), .ref 111]) (w := w) rfl rfl hI.1.o111 rfl rfl rfl) rfl rfl rfl (X154 (c := 0) hI (show x2 < 10 by omega) (by decide) (eOK_g (g := x2) (c := 0) (by omega) (by decide) (inR.n (show x5 ≤ 5 by omega)))) (show _ = 22 from rfl) ?_
      rintro r4 w14 ⟨⟨rfl, hv12⟩, hI15, hs13⟩
      show sx_RP _ _ _ _ _ [.int ((ia w 112).getD (103 + 6 * x2 + 0) 0)] _ _
      refine sx_RP.step (pc2 := 30) (ls2 := [(0, .ref 111), (1, .int (nI x2)), (2, .int (nI x5))]) (st2 := [.int ((ia w 112).getD (103 + 6 * x2 + 0) 0)]) (w3 := w14) rfl rfl ?_
      refine sx_RP.ret (r := (some (.int ((ia w 112).getD (103 + 6 * x2 + 0) 0)))) rfl rfl ?_
      exact ⟨⟨by rw [(bec2_z (l := ia w 112) (a1 := nI x2) (a2 := nI x5) (fun z => z ⟨by rw [en]; exact c1, ⟨nI_le (a := 0) (show 0 ≤ x5 by omega) (by omega), nI_le (b := 5) (show x5 ≤ 5 by omega) (by decide)⟩⟩)).1, iN_n (show x2 < 2 ^ 31 by omega)], by rw [(bec2_z (l := ia w 112) (a1 := nI x2) (a2 := nI x5) (fun z => z ⟨by rw [en]; exact c1, ⟨nI_le (a := 0) (show 0 ≤ x5 by omega) (by omega), nI_le (b := 5) (show x5 ≤ 5 by omega) (by decide)⟩⟩)).2, hv12, iN_n (show x2 < 2 ^ 31 by omega)]⟩, hI15, fun a ha => hs13 a (by unfold ocm at ha; omega)⟩
  · refine sx_RP.cu (as := [.ref 111, .int a1]) (rest2 := []) (st3 := [.int 0]) rfl rfl (sx_inv_v2 (mi := 158) (k := 124) (st := [.int a1, .ref 111]) (w := w) rfl rfl hI.1.o111 rfl rfl rfl) rfl rfl (p156n hI en hn c1) rfl ?_
    refine sx_RP.step (pc2 := 25) (ls2 := [(0, .ref 111), (1, .int a1), (2, .int a2)]) (st2 := []) (w3 := w) rfl rfl ?_
    refine sx_RP.step (pc2 := 26) (ls2 := [(0, .ref 111), (1, .int a1), (2, .int a2)]) (st2 := [.ref 111]) (w3 := w) rfl rfl ?_
    refine sx_RP.step (pc2 := 27) (ls2 := [(0, .ref 111), (1, .int a1), (2, .int a2)]) (st2 := [.int 0, .ref 111]) (w3 := w) rfl rfl ?_
    refine sx_RP.callp (as2 := [.ref 111, .int 0]) (rest2 := []) rfl rfl (sx_inv_v2 (mi := 158) (k := 70) (st := [.int 0, .ref 111]) (w := w) rfl rfl hI.1.o111 rfl rfl rfl) rfl rfl rfl (S133_0 hI) (show _ = 30 from rfl) ?_
    rintro r4 w17 ⟨rfl, hI18, hs16⟩
    show sx_RP _ _ _ _ _ [.int (-1000000001)] _ _
    refine sx_RP.ret (r := (some (.int (-1000000001)))) rfl rfl ?_
    exact ⟨⟨by rw [(bec2_1 (fun z => c1 (by rw [← en]; exact z.1))).1], by rw [(bec2_1 (fun z => c1 (by rw [← en]; exact z.1))).2]; exact ia_of (hs16 112 (by decide))⟩, hI18, fun a ha => hs16 a (by unfold ocm at ha; omega)⟩
