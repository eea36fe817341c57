-- cells laid in the camp that is told to: group B's part stands
theorem campB_s30 {w w2 : List sx_C} (hI : WI w) (h : Same (29 + 1) w w2) : campB w2 29 = campB w 29 := by
  have hm := hI.many isA29
  unfold campB
  rw [fi_same 3 (h 29 (by decide)), fi_same 5 (h 29 (by decide)), fi_same 8 (h 29 (by decide)), fi_same 9 (h 29 (by decide)), fi_same 10 (h 29 (by decide)), ia_of (h (29 + 3) (by decide))]
  exact mkB_congr rfl (fun i hi => fi_same 0 (h _ (by omega))) rfl (fun _ _ => rfl) rfl rfl rfl
theorem campB_s29 {w w2 : List sx_C} (hI : WI w) (h : Same 29 w w2) (hr : ∀ j, fi w2 29 j = fi w 29 j) : campB w2 29 = campB w 29 := by
  have hm := hI.many isA29
  unfold campB
  rw [hr 3, hr 5, hr 8, hr 9, hr 10, ia_of (h (29 + 3) (by decide))]
  exact mkB_congr rfl (fun i hi => fi_same 0 (h _ (by omega))) rfl (fun _ _ => rfl) rfl rfl rfl
def EG (w w2 : List sx_C) : Prop := Out 29 w w2 ∧ campB w2 29 = campB w 29
theorem EG.rf {w : List sx_C} : EG w w := ⟨Out.rf, rfl⟩
theorem EG.tr {w w1 w2 : List sx_C} (h : EG w w1) (h2 : EG w1 w2) : EG w w2 := ⟨fun a ha => (h2.1 a ha).trans (h.1 a ha), h2.2.trans h.2⟩
section SXEG
variable {xs : Option (List Int32)} {d mi pc pc2 a idx p : Nat} {ls : sx_L} {r : List Value} {w w0 : List sx_C} {P : Option Value → List sx_C → Prop}
theorem sx_RP.stSG {i x : Int32} (hI : WI w) (hE : EG w0 w) (hA : isA 29) (hi : sx_ins mi pc = some (.iastore, 1)) (hn : sx_in i 48 = true) (hv : inR x 3) (hp : pc + 1 = pc2) (kk : ∀ w2, WI w2 → EG w0 w2 → sx_RP xs d mi pc2 ls r w2 P) : sx_RP xs d mi pc ls (.int x :: .int i :: .ref (29 + 1) :: r) w P := by
  have hw := hI.1.aS hA
  exact sx_RP.ist hi hw.1 hw.2 hn rfl rfl hp (kk _ (hI.set hw.1 sh_set (cOK.st hA (inR.set (fun k hk => hI.st hA hk) hv))) (hE.tr ⟨Out.st Out.rf Same.set (by decide), campB_s30 hI Same.set⟩))
theorem sx_RP.pwG {v : Int64} (hI : WI w) (hE : EG w0 w) (ha : isA 29) (hi : sx_ins mi pc = some (.putfield idx, 3)) (hq : sx_lk (sx_fl (sx_own mi)) idx = some (1, 1, p)) (hf : sx_fin mi 1 1 = true) (hp : pc + 3 = pc2) (kk : ∀ w2, WI w2 → EG w0 w2 → sx_RP xs d mi pc2 ls r w2 P) : sx_RP xs d mi pc ls (.long v :: .ref 29 :: r) w P :=
  sx_RP.xW hI ha hi hq hf hp (fun w2 h1 h2 _ h4 => kk w2 h1 (hE.tr ⟨Out.st Out.rf h2 (by decide), campB_s29 hI h2 h4⟩))
end SXEG
set_option maxRecDepth 20000 in
set_option maxHeartbeats 4000000 in
theorem X104B {xs : Option (List Int32)} {d : Nat} {w w0 : List sx_C} (hA : isA 29) {u t : Nat} (x : Int32) (hu : u ≤ 4) (ht : t ≤ 47) (hI : WI w) (hE : EG w0 w) {j : Nat} (hj : j ≤ 48) (kk : ∀ (w4 : List sx_C), WI w4 → EG w0 w4 → j + 1 ≤ 48 → sx_RP xs d 104 3 [(0, .ref 29), (1, .int (nI u)), (2, .int x), (3, .int (nI t)), (4, .int (nI (j + 1)))] [] w4 (fun r w2 => (r = none) ∧ WI w2 ∧ EG w0 w2)) : sx_RP xs d 104 3 [(0, .ref 29), (1, .int (nI u)), (2, .int x), (3, .int (nI t)), (4, .int (nI j))] [] w (fun r w2 => (r = none) ∧ WI w2 ∧ EG w0 w2) := by
  refine sx_RP.step (pc2 := 5) (ls2 := [(0, .ref 29), (1, .int (nI u)), (2, .int x), (3, .int (nI t)), (4, .int (nI j))]) (st2 := [.int (nI j)]) (w3 := w) rfl rfl ?_
  refine sx_RP.step (pc2 := 6) (ls2 := [(0, .ref 29), (1, .int (nI u)), (2, .int x), (3, .int (nI t)), (4, .int (nI j))]) (st2 := [.int (nI t), .int (nI j)]) (w3 := w) rfl rfl ?_
  refine sx_RP.br (p1 := 44) (l1 := [(0, .ref 29), (1, .int (nI u)), (2, .int x), (3, .int (nI t)), (4, .int (nI j))]) (s1 := []) (v1 := w) (p2 := 9) (l2 := [(0, .ref 29), (1, .int (nI u)), (2, .int x), (3, .int (nI t)), (4, .int (nI j))]) (s2 := []) (v2 := w) rfl rfl (fun q1 => ?_) (fun q1 => ?_)
  · replace q1 := of_decide_eq_true q1
    replace q1 := (nI_ltI (a := t) (b := j) (by omega) (by omega)).mp q1
    refine sx_RP.ret (r := none) rfl rfl ?_
    exact ⟨rfl, hI, hE⟩
  · replace q1 := of_decide_eq_false q1
    replace q1 := mt (nI_ltI (a := t) (b := j) (by omega) (by omega)).mpr q1
    refine sx_RP.step (pc2 := 10) (ls2 := [(0, .ref 29), (1, .int (nI u)), (2, .int x), (3, .int (nI t)), (4, .int (nI j))]) (st2 := [.int (nI u)]) (w3 := w) rfl rfl ?_
    refine sx_RP.step (pc2 := 11) (ls2 := [(0, .ref 29), (1, .int (nI u)), (2, .int x), (3, .int (nI t)), (4, .int (nI j))]) (st2 := [.int 4, .int (nI u)]) (w3 := w) rfl rfl ?_
    refine sx_RP.br (p1 := 30) (l1 := [(0, .ref 29), (1, .int (nI u)), (2, .int x), (3, .int (nI t)), (4, .int (nI j))]) (s1 := []) (v1 := w) (p2 := 14) (l2 := [(0, .ref 29), (1, .int (nI u)), (2, .int x), (3, .int (nI t)), (4, .int (nI j))]) (s2 := []) (v2 := w) rfl rfl (fun q2 => ?_) (fun q2 => ?_)
    · replace q2 := of_decide_eq_true q2
      replace q2 := mt (nI_eq (a := u) (b := 4) (by omega) (by omega)).mpr q2
      refine sx_RP.step (pc2 := 31) (ls2 := [(0, .ref 29), (1, .int (nI u)), (2, .int x), (3, .int (nI t)), (4, .int (nI j))]) (st2 := [.ref 29]) (w3 := w) rfl rfl ?_
      refine sx_RP.gref (k := 0) (b := 29 + 1) hI hA rfl rfl (by omega) (show _ = 34 from rfl) ?_
      refine sx_RP.step (pc2 := 36) (ls2 := [(0, .ref 29), (1, .int (nI u)), (2, .int x), (3, .int (nI t)), (4, .int (nI j))]) (st2 := [.int (nI j), .ref (29 + 1)]) (w3 := w) rfl rfl ?_
      refine sx_RP.step (pc2 := 37) (ls2 := [(0, .ref 29), (1, .int (nI u)), (2, .int x), (3, .int (nI t)), (4, .int (nI j))]) (st2 := [.int (nI u), .int (nI j), .ref (29 + 1)]) (w3 := w) rfl rfl ?_
      refine sx_RP.stSG hI hE hA rfl (sx_in_nI (show j < 48 by omega) (by decide)) (inR.n (show u ≤ 3 by omega)) (show _ = 38 from rfl) (fun w3 hI4 hE5 => ?_)
      refine sx_RP.step (pc2 := 41) (ls2 := [(4, .int ((nI j) + 1)), (0, .ref 29), (1, .int (nI u)), (2, .int x), (3, .int (nI t))]) (st2 := []) (w3 := w3) rfl rfl ?_
      rw [nI_1 j]
      refine sx_RP.step (pc2 := 3) (ls2 := [(4, .int (nI (j + 1))), (0, .ref 29), (1, .int (nI u)), (2, .int x), (3, .int (nI t))]) (st2 := []) (w3 := w3) rfl rfl ?_
      exact sx_RP.ls (sx_lr.cons rfl (sx_lr.cons rfl (sx_lr.cons rfl (sx_lr.cons rfl (sx_lr.cons rfl sx_lr.nil))))) (kk w3 hI4 hE5 (by omega))
    · replace q2 := Decidable.not_not.mp (of_decide_eq_false q2)
      replace q2 := (nI_eq (a := u) (b := 4) (by omega) (by omega)).mp q2
      refine sx_RP.step (pc2 := 15) (ls2 := [(0, .ref 29), (1, .int (nI u)), (2, .int x), (3, .int (nI t)), (4, .int (nI j))]) (st2 := [.ref 29]) (w3 := w) rfl rfl ?_
      refine sx_RP.step (pc2 := 16) (ls2 := [(0, .ref 29), (1, .int (nI u)), (2, .int x), (3, .int (nI t)), (4, .int (nI j))]) (st2 := [.ref 29, .ref 29]) (w3 := w) rfl rfl ?_
      refine sx_RP.gw hI hA rfl rfl (show _ = 19 from rfl) ?_
      refine sx_RP.step (pc2 := 20) (ls2 := [(0, .ref 29), (1, .int (nI u)), (2, .int x), (3, .int (nI t)), (4, .int (nI j))]) (st2 := [.long 1, .long (fj w 29 1), .ref 29]) (w3 := w) rfl rfl ?_
      refine sx_RP.step (pc2 := 22) (ls2 := [(0, .ref 29), (1, .int (nI u)), (2, .int x), (3, .int (nI t)), (4, .int (nI j))]) (st2 := [.int (nI j), .long 1, .long (fj w 29 1), .ref 29]) (w3 := w) rfl rfl ?_
      refine sx_RP.step (pc2 := 23) (ls2 := [(0, .ref 29), (1, .int (nI u)), (2, .int x), (3, .int (nI t)), (4, .int (nI j))]) (st2 := [.long ((1 : Int64) <<< ((nI j).toInt64 &&& 63)), .long (fj w 29 1), .ref 29]) (w3 := w) rfl rfl ?_
      refine sx_RP.step (pc2 := 24) (ls2 := [(0, .ref 29), (1, .int (nI u)), (2, .int x), (3, .int (nI t)), (4, .int (nI j))]) (st2 := [.long ((fj w 29 1) ||| ((1 : Int64) <<< ((nI j).toInt64 &&& 63))), .ref 29]) (w3 := w) rfl rfl ?_
      refine sx_RP.pwG hI hE hA rfl rfl rfl (show _ = 27 from rfl) (fun w6 hI7 hE8 => ?_)
      refine sx_RP.step (pc2 := 38) (ls2 := [(0, .ref 29), (1, .int (nI u)), (2, .int x), (3, .int (nI t)), (4, .int (nI j))]) (st2 := []) (w3 := w6) rfl rfl ?_
      refine sx_RP.step (pc2 := 41) (ls2 := [(4, .int ((nI j) + 1)), (0, .ref 29), (1, .int (nI u)), (2, .int x), (3, .int (nI t))]) (st2 := []) (w3 := w6) rfl rfl ?_
      rw [nI_1 j]
      refine sx_RP.step (pc2 := 3) (ls2 := [(4, .int (nI (j + 1))), (0, .ref 29), (1, .int (nI u)), (2, .int x), (3, .int (nI t))]) (st2 := []) (w3 := w6) rfl rfl ?_
      exact sx_RP.ls (sx_lr.cons rfl (sx_lr.cons rfl (sx_lr.cons rfl (sx_lr.cons rfl (sx_lr.cons rfl sx_lr.nil))))) (kk w6 hI7 hE8 (by omega))
set_option maxRecDepth 20000 in
set_option maxHeartbeats 4000000 in
theorem X104L {xs : Option (List Int32)} {d : Nat} {w0 : List sx_C} (hA : isA 29) {u t : Nat} (x : Int32) (hu : u ≤ 4) (ht : t ≤ 47) : ∀ (fz j : Nat) (w : List sx_C) , 48 ≤ j + fz * 1 → j ≤ 48 → WI w → EG w0 w → sx_RP xs d 104 3 [(0, .ref 29), (1, .int (nI u)), (2, .int x), (3, .int (nI t)), (4, .int (nI j))] [] w (fun r w2 => (r = none) ∧ WI w2 ∧ EG w0 w2)
  | 0, j, w, h, hj, hI, hE => X104B hA x hu ht hI hE hj   (fun w4  hI4 hE4 hlt  => absurd hlt (by omega)) 
  | fz + 1, j, w, h, hj, hI, hE => X104B hA x hu ht hI hE hj   (fun w4  hI4 hE4 hlt  => X104L hA x hu ht  fz (j + 1) w4  (by omega) hlt hI4 hE4 ) 
set_option maxRecDepth 20000 in
set_option maxHeartbeats 4000000 in
theorem X104 {xs : Option (List Int32)} {d : Nat} {w : List sx_C} (hI : WI w) (hA : isA 29) {u f t : Nat} (hu : u ≤ 4) (hf : f ≤ 48) (ht : t ≤ 47) : sx_RP xs d 104 0 (lv_args 0 [.ref 29, .int (nI u), .int (nI f), .int (nI t)]) [] w (fun r w2 => (r = none) ∧ WI w2 ∧ EG w w2) := by
  have hE : EG w w := EG.rf
  refine sx_RP.step (pc2 := 1) (ls2 := [(0, .ref 29), (1, .int (nI u)), (2, .int (nI f)), (3, .int (nI t))]) (st2 := [.int (nI f)]) (w3 := w) rfl rfl ?_
  refine sx_RP.step (pc2 := 3) (ls2 := [(4, .int (nI f)), (0, .ref 29), (1, .int (nI u)), (2, .int (nI f)), (3, .int (nI t))]) (st2 := []) (w3 := w) rfl rfl ?_
  exact sx_RP.ls (sx_lr.cons rfl (sx_lr.cons rfl (sx_lr.cons rfl (sx_lr.cons rfl (sx_lr.cons rfl sx_lr.nil))))) (X104L hA (nI f) hu ht 48 f w  (by omega) (by omega) hI hE )
def grT (n : Nat) (X : Nat → Nat) (b : BB) (last p : Nat) : Bool × Nat × BB := if wdT n X p 116 = true then (if nmT n X (nP n X p) (last + 1) 47 = true then (true, nP n X (nP n X p), b) else (false, nP n X p, b)) else (true, p, b)
def grL (n : Nat) (X : Nat → Nat) (b : BB) : Nat → Nat → Nat → Bool × Nat × BB
  | 0, last, p => grT n X b last p
  | f + 1, last, p => if soT n X p = 2 then (if nmT n X p (last + 1) 47 = true then grL n X b f (vaT n X p) (nP n X p) else (false, p, b)) else grT n X b last p
def groT (n : Nat) (X : Nat → Nat) (p : Nat) (b : BB) : Bool × Nat × BB := if nmT n X (nP n X p) 0 47 = true then grL n X b 48 (vaT n X (nP n X p)) (nP n X (nP n X p)) else (false, nP n X p, b)
set_option maxRecDepth 20000 in
set_option maxHeartbeats 4000000 in
theorem X102t {xs : Option (List Int32)} {d u l p : Nat} {w : List sx_C} {n : Nat} {X : Nat → Nat} {b : BB} {w0 : List sx_C} (hu : u ≤ 4) (hl : l ≤ 47) (hI : WI w) (hC : CT n X w) (hT : TK' n X p w) (hp : p ≤ n) (hB : campB w 29 = b) (hO : OffT w0 w) : sx_RP xs (d + 3) 102 86 [(0, .ref 96), (1, .int (nI u)), (2, .ref 29), (3, .int (nI l))] [] w (fun r2 w2 => (r2 = some (.int (b01 (grT n X b l p).1)) ∧ Rd n X (grT n X b l p) w2) ∧ WI w2 ∧ CT n X w2 ∧ OffT w0 w2) := by
  refine sx_RP.step (pc2 := 87) (ls2 := [(0, .ref 96), (1, .int (nI u)), (2, .ref 29), (3, .int (nI l))]) (st2 := [.ref 96]) (w3 := w) rfl rfl ?_
  refine sx_RP.step (pc2 := 89) (ls2 := [(0, .ref 96), (1, .int (nI u)), (2, .ref 29), (3, .int (nI l))]) (st2 := [.float 116, .ref 96]) (w3 := w) rfl rfl ?_
  rcases Bool.eq_false_or_eq_true (wdT n X p (116 : UInt32)) with c1 | c1
  · refine sx_RP.cu (as := [.ref 96, .float 116]) (rest2 := []) (st3 := [.int 1]) rfl rfl (sx_inv_v2 (mi := 102) (k := 52) (st := [.float 116, .ref 96]) (w := w) rfl rfl hI.1.o96 rfl rfl rfl) rfl rfl (x101t (k := (116 : UInt32)) (m := 2) hI hC hT hp (by decide) rfl (by decide) c1) rfl ?_
    refine sx_RP.step (pc2 := 97) (ls2 := [(0, .ref 96), (1, .int (nI u)), (2, .ref 29), (3, .int (nI l))]) (st2 := []) (w3 := w) rfl rfl ?_
    refine sx_RP.step (pc2 := 98) (ls2 := [(0, .ref 96), (1, .int (nI u)), (2, .ref 29), (3, .int (nI l))]) (st2 := [.ref 96]) (w3 := w) rfl rfl ?_
    refine sx_RP.callp (as2 := [.ref 96]) (rest2 := []) rfl rfl (sx_inv_v2 (mi := 102) (k := 29) (st := [.ref 96]) (w := w) rfl rfl hI.1.o96 rfl rfl rfl) rfl rfl rfl (X94 hI hC hT.2.2.1 (beT_le hp)) (show _ = 101 from rfl) ?_
    rintro r4 w5 ⟨⟨rfl, hT2, h13⟩, hI6, hs4⟩
    show sx_RP _ _ _ _ _ [] _ _
    have hT11 : TK' n X (nP n X p) w5 := hT2
    have hC7 := hC.same h13 (ia_of (hs4 97 (by decide)))
    have hp8 : nP n X p ≤ n := nP_le hp
    have hB9 := (campB_96 hI hs4).trans hB
    have hO10 := hO.tr hs4.offT
    refine sx_RP.step (pc2 := 102) (ls2 := [(0, .ref 96), (1, .int (nI u)), (2, .ref 29), (3, .int (nI l))]) (st2 := [.ref 96]) (w3 := w5) rfl rfl ?_
    refine sx_RP.step (pc2 := 103) (ls2 := [(0, .ref 96), (1, .int (nI u)), (2, .ref 29), (3, .int (nI l))]) (st2 := [.int (nI l), .ref 96]) (w3 := w5) rfl rfl ?_
    refine sx_RP.step (pc2 := 104) (ls2 := [(0, .ref 96), (1, .int (nI u)), (2, .ref 29), (3, .int (nI l))]) (st2 := [.int 1, .int (nI l), .ref 96]) (w3 := w5) rfl rfl ?_
    refine sx_RP.step (pc2 := 105) (ls2 := [(0, .ref 96), (1, .int (nI u)), (2, .ref 29), (3, .int (nI l))]) (st2 := [.int ((nI l) + 1), .ref 96]) (w3 := w5) rfl rfl ?_
    rw [show ((nI l) + 1 : Int32) = nI (l + 1) from nI_add l 1]
    refine sx_RP.step (pc2 := 107) (ls2 := [(0, .ref 96), (1, .int (nI u)), (2, .ref 29), (3, .int (nI l))]) (st2 := [.int 47, .int (nI (l + 1)), .ref 96]) (w3 := w5) rfl rfl ?_
    rcases Bool.eq_false_or_eq_true (nmT n X (nP n X p) (l + 1) 47) with c12 | c12
    · refine sx_RP.cu (as := [.ref 96, .int (nI (l + 1)), .int 47]) (rest2 := []) (st3 := [.int 1]) rfl rfl (sx_inv_v2 (mi := 102) (k := 66) (st := [.int 47, .int (nI (l + 1)), .ref 96]) (w := w5) rfl rfl hI6.1.o96 rfl rfl rfl) rfl rfl (x103t (lo := (l + 1)) (hi := 47) hI6 hC7 hT11 (by omega) (by omega) c12) rfl ?_
      refine sx_RP.step (pc2 := 115) (ls2 := [(0, .ref 96), (1, .int (nI u)), (2, .ref 29), (3, .int (nI l))]) (st2 := []) (w3 := w5) rfl rfl ?_
      refine sx_RP.step (pc2 := 116) (ls2 := [(0, .ref 96), (1, .int (nI u)), (2, .ref 29), (3, .int (nI l))]) (st2 := [.ref 29]) (w3 := w5) rfl rfl ?_
      refine sx_RP.step (pc2 := 117) (ls2 := [(0, .ref 96), (1, .int (nI u)), (2, .ref 29), (3, .int (nI l))]) (st2 := [.int (nI u), .ref 29]) (w3 := w5) rfl rfl ?_
      refine sx_RP.step (pc2 := 118) (ls2 := [(0, .ref 96), (1, .int (nI u)), (2, .ref 29), (3, .int (nI l))]) (st2 := [.int (nI l), .int (nI u), .ref 29]) (w3 := w5) rfl rfl ?_
      refine sx_RP.step (pc2 := 119) (ls2 := [(0, .ref 96), (1, .int (nI u)), (2, .ref 29), (3, .int (nI l))]) (st2 := [.int 1, .int (nI l), .int (nI u), .ref 29]) (w3 := w5) rfl rfl ?_
      refine sx_RP.step (pc2 := 120) (ls2 := [(0, .ref 96), (1, .int (nI u)), (2, .ref 29), (3, .int (nI l))]) (st2 := [.int ((nI l) + 1), .int (nI u), .ref 29]) (w3 := w5) rfl rfl ?_
      rw [show ((nI l) + 1 : Int32) = nI (l + 1) from nI_add l 1]
      refine sx_RP.step (pc2 := 121) (ls2 := [(0, .ref 96), (1, .int (nI u)), (2, .ref 29), (3, .int (nI l))]) (st2 := [.ref 96, .int (nI (l + 1)), .int (nI u), .ref 29]) (w3 := w5) rfl rfl ?_
      refine sx_RP.gt (k := 5) hI6 rfl rfl (by decide) (show _ = 124 from rfl) ?_
      rw [hT11.2.2.2]
      have hv14 := nmT_in c12
      refine sx_RP.callp (as2 := [.ref 29, .int (nI u), .int (nI (l + 1)), .int (nI (vaT n X (nP n X p)))]) (rest2 := []) rfl rfl (sx_inv_v2 (mi := 102) (k := 70) (st := [.int (nI (vaT n X (nP n X p))), .int (nI (l + 1)), .int (nI u), .ref 29]) (w := w5) rfl rfl (hI6.1.oC (Or.inr (Or.inr rfl))) rfl rfl rfl) rfl rfl rfl (X104 hI6 isA29 (u := u) (f := (l + 1)) (t := (vaT n X (nP n X p))) (by omega) (by omega) (by omega)) (show _ = 127 from rfl) ?_
      rintro r4 w15 ⟨rfl, hI16, he13⟩
      show sx_RP _ _ _ _ _ [] _ _
      have hC17 := hC7.out he13.1
      have hT18 := hT11.out he13.1
      have hB19 := he13.2.trans hB9
      have hO20 := hO10.tr he13.1.offT
      refine sx_RP.step (pc2 := 128) (ls2 := [(0, .ref 96), (1, .int (nI u)), (2, .ref 29), (3, .int (nI l))]) (st2 := [.ref 96]) (w3 := w15) rfl rfl ?_
      refine sx_RP.callp (as2 := [.ref 96]) (rest2 := []) rfl rfl (sx_inv_v2 (mi := 102) (k := 29) (st := [.ref 96]) (w := w15) rfl rfl hI16.1.o96 rfl rfl rfl) rfl rfl rfl (X94 hI16 hC17 hT18.2.2.1 (beT_le hp8)) (show _ = 131 from rfl) ?_
      rintro r4 w24 ⟨⟨rfl, hT21, h122⟩, hI25, hs23⟩
      show sx_RP _ _ _ _ _ [] _ _
      have hT30 : TK' n X (nP n X (nP n X p)) w24 := hT21
      have hC26 := hC17.same h122 (ia_of (hs23 97 (by decide)))
      have hp27 : nP n X (nP n X p) ≤ n := nP_le hp8
      have hB28 := (campB_96 hI16 hs23).trans hB19
      have hO29 := hO20.tr hs23.offT
      refine sx_RP.step (pc2 := 132) (ls2 := [(0, .ref 96), (1, .int (nI u)), (2, .ref 29), (3, .int (nI l))]) (st2 := [.int 1]) (w3 := w24) rfl rfl ?_
      refine sx_RP.ret (r := (some (.int 1))) rfl rfl ?_
      rw [show grT n X b l p = (true, nP n X (nP n X p), b) by unfold grT; rw [if_pos c1, if_pos c12]]
      exact ⟨⟨rfl, hT30, fun _ => hB28⟩, hI25, hC26, hO29⟩
    · refine sx_RP.cu (as := [.ref 96, .int (nI (l + 1)), .int 47]) (rest2 := []) (st3 := [.int 0]) rfl rfl (sx_inv_v2 (mi := 102) (k := 66) (st := [.int 47, .int (nI (l + 1)), .ref 96]) (w := w5) rfl rfl hI6.1.o96 rfl rfl rfl) rfl rfl (x103f (lo := (l + 1)) (hi := 47) hI6 hC7 hT11 (by omega) (by omega) c12) rfl ?_
      refine sx_RP.step (pc2 := 113) (ls2 := [(0, .ref 96), (1, .int (nI u)), (2, .ref 29), (3, .int (nI l))]) (st2 := []) (w3 := w5) rfl rfl ?_
      refine sx_RP.step (pc2 := 114) (ls2 := [(0, .ref 96), (1, .int (nI u)), (2, .ref 29), (3, .int (nI l))]) (st2 := [.int 0]) (w3 := w5) rfl rfl ?_
      refine sx_RP.ret (r := (some (.int 0))) rfl rfl ?_
      rw [show grT n X b l p = (false, nP n X p, b) by unfold grT; rw [if_pos c1, if_neg (by rw [c12]; decide)]]
      exact ⟨⟨rfl, hT11, fun z => absurd (show false = true from z) (by decide)⟩, hI6, hC7, hO10⟩
  · refine sx_RP.cu (as := [.ref 96, .float 116]) (rest2 := []) (st3 := [.int 0]) rfl rfl (sx_inv_v2 (mi := 102) (k := 52) (st := [.float 116, .ref 96]) (w := w) rfl rfl hI.1.o96 rfl rfl rfl) rfl rfl (x101f (k := (116 : UInt32)) (m := 2) hI hC hT hp (by decide) rfl (by decide) c1) rfl ?_
    refine sx_RP.step (pc2 := 95) (ls2 := [(0, .ref 96), (1, .int (nI u)), (2, .ref 29), (3, .int (nI l))]) (st2 := []) (w3 := w) rfl rfl ?_
    refine sx_RP.step (pc2 := 96) (ls2 := [(0, .ref 96), (1, .int (nI u)), (2, .ref 29), (3, .int (nI l))]) (st2 := [.int 1]) (w3 := w) rfl rfl ?_
    refine sx_RP.ret (r := (some (.int 1))) rfl rfl ?_
    rw [show grT n X b l p = (true, p, b) by unfold grT; rw [if_neg (by rw [c1]; decide)]]
    exact ⟨⟨rfl, hT, fun _ => hB⟩, hI, hC, hO⟩
set_option maxRecDepth 20000 in
set_option maxHeartbeats 4000000 in
theorem X102L {xs : Option (List Int32)} {d u : Nat} {n : Nat} {X : Nat → Nat} {b : BB} {w0 : List sx_C} (hu : u ≤ 4) : ∀ (fz i l p : Nat) (w : List sx_C), i + fz = 48 → l ≤ 47 → WI w → CT n X w → TK' n X p w → p ≤ n → campB w 29 = b → OffT w0 w → sx_RP xs (d + 3) 102 35 [(0, .ref 96), (1, .int (nI u)), (2, .ref 29), (3, .int (nI l)), (4, .int (nI i))] [] w (fun r2 w2 => (r2 = some (.int (b01 (grL n X b fz l p).1)) ∧ Rd n X (grL n X b fz l p) w2) ∧ WI w2 ∧ CT n X w2 ∧ OffT w0 w2)
  | 0, i, l, p, w, hi, hl, hI, hC, hT, hp, hB, hO => by
    obtain rfl : i = 48 := by omega
    refine sx_RP.step (pc2 := 37) (ls2 := [(0, .ref 96), (1, .int (nI u)), (2, .ref 29), (3, .int (nI l)), (4, .int 48)]) (st2 := [.int 48]) (w3 := w) rfl rfl ?_
    refine sx_RP.step (pc2 := 39) (ls2 := [(0, .ref 96), (1, .int (nI u)), (2, .ref 29), (3, .int (nI l)), (4, .int 48)]) (st2 := [.int 48, .int 48]) (w3 := w) rfl rfl ?_
    refine sx_RP.step (pc2 := 86) (ls2 := [(0, .ref 96), (1, .int (nI u)), (2, .ref 29), (3, .int (nI l)), (4, .int 48)]) (st2 := []) (w3 := w) rfl rfl ?_
    exact sx_RP.ls (sx_lr.cons rfl (sx_lr.cons rfl (sx_lr.cons rfl (sx_lr.cons rfl sx_lr.nil)))) (X102t hu hl hI hC hT hp hB hO)
  | fz + 1, i, l, p, w, hi, hl, hI, hC, hT, hp, hB, hO => by
    have hv0 := vaT_le (n := n) (p := p) (X := X)
    have hs4 := soT_le (p := p) hC
    refine sx_RP.step (pc2 := 37) (ls2 := [(0, .ref 96), (1, .int (nI u)), (2, .ref 29), (3, .int (nI l)), (4, .int (nI i))]) (st2 := [.int (nI i)]) (w3 := w) rfl rfl ?_
    refine sx_RP.step (pc2 := 39) (ls2 := [(0, .ref 96), (1, .int (nI u)), (2, .ref 29), (3, .int (nI l)), (4, .int (nI i))]) (st2 := [.int 48, .int (nI i)]) (w3 := w) rfl rfl ?_
    refine sx_RP.br (p2 := 42) (l2 := [(0, .ref 96), (1, .int (nI u)), (2, .ref 29), (3, .int (nI l)), (4, .int (nI i))]) (s2 := []) (v2 := w) rfl rfl (fun q => absurd (of_decide_eq_true q) (fun z => absurd ((nI_leI (a := 48) (b := i) (by omega) (by omega)).mp z) (by omega))) (fun _ => ?_)
    refine sx_RP.step (pc2 := 43) (ls2 := [(0, .ref 96), (1, .int (nI u)), (2, .ref 29), (3, .int (nI l)), (4, .int (nI i))]) (st2 := [.ref 96]) (w3 := w) rfl rfl ?_
    refine sx_RP.gt (k := 2) hI rfl rfl (by decide) (show _ = 46 from rfl) ?_
    rw [hT.2.1]
    refine sx_RP.step (pc2 := 47) (ls2 := [(0, .ref 96), (1, .int (nI u)), (2, .ref 29), (3, .int (nI l)), (4, .int (nI i))]) (st2 := [.int 2, .int (nI (soT n X (p)))]) (w3 := w) rfl rfl ?_
    refine sx_RP.br (p1 := 86) (l1 := [(0, .ref 96), (1, .int (nI u)), (2, .ref 29), (3, .int (nI l)), (4, .int (nI i))]) (s1 := []) (v1 := w) (p2 := 50) (l2 := [(0, .ref 96), (1, .int (nI u)), (2, .ref 29), (3, .int (nI l)), (4, .int (nI i))]) (s2 := []) (v2 := w) rfl rfl (fun q1 => ?_) (fun q1 => ?_)
    · replace q1 := of_decide_eq_true q1
      replace q1 := mt (nI_eq (a := (soT n X (p))) (b := 2) (by omega) (by omega)).mpr q1
      rw [show grL n X b (fz + 1) l p = grT n X b l p by unfold grL; rw [if_neg (by omega)]]
      exact sx_RP.ls (sx_lr.cons rfl (sx_lr.cons rfl (sx_lr.cons rfl (sx_lr.cons rfl sx_lr.nil)))) (X102t hu hl hI hC hT hp hB hO)
    · replace q1 := Decidable.not_not.mp (of_decide_eq_false q1)
      replace q1 := (nI_eq (a := (soT n X (p))) (b := 2) (by omega) (by omega)).mp q1
      refine sx_RP.step (pc2 := 51) (ls2 := [(0, .ref 96), (1, .int (nI u)), (2, .ref 29), (3, .int (nI l)), (4, .int (nI i))]) (st2 := [.ref 96]) (w3 := w) rfl rfl ?_
      refine sx_RP.step (pc2 := 52) (ls2 := [(0, .ref 96), (1, .int (nI u)), (2, .ref 29), (3, .int (nI l)), (4, .int (nI i))]) (st2 := [.int (nI l), .ref 96]) (w3 := w) rfl rfl ?_
      refine sx_RP.step (pc2 := 53) (ls2 := [(0, .ref 96), (1, .int (nI u)), (2, .ref 29), (3, .int (nI l)), (4, .int (nI i))]) (st2 := [.int 1, .int (nI l), .ref 96]) (w3 := w) rfl rfl ?_
      refine sx_RP.step (pc2 := 54) (ls2 := [(0, .ref 96), (1, .int (nI u)), (2, .ref 29), (3, .int (nI l)), (4, .int (nI i))]) (st2 := [.int ((nI l) + 1), .ref 96]) (w3 := w) rfl rfl ?_
      rw [show ((nI l) + 1 : Int32) = nI (l + 1) from nI_add l 1]
      refine sx_RP.step (pc2 := 56) (ls2 := [(0, .ref 96), (1, .int (nI u)), (2, .ref 29), (3, .int (nI l)), (4, .int (nI i))]) (st2 := [.int 47, .int (nI (l + 1)), .ref 96]) (w3 := w) rfl rfl ?_
      rcases Bool.eq_false_or_eq_true (nmT n X p (l + 1) 47) with c2 | c2
      · refine sx_RP.cu (as := [.ref 96, .int (nI (l + 1)), .int 47]) (rest2 := []) (st3 := [.int 1]) rfl rfl (sx_inv_v2 (mi := 102) (k := 66) (st := [.int 47, .int (nI (l + 1)), .ref 96]) (w := w) rfl rfl hI.1.o96 rfl rfl rfl) rfl rfl (x103t (lo := (l + 1)) (hi := 47) hI hC hT (by omega) (by omega) c2) rfl ?_
        refine sx_RP.step (pc2 := 64) (ls2 := [(0, .ref 96), (1, .int (nI u)), (2, .ref 29), (3, .int (nI l)), (4, .int (nI i))]) (st2 := []) (w3 := w) rfl rfl ?_
        refine sx_RP.step (pc2 := 65) (ls2 := [(0, .ref 96), (1, .int (nI u)), (2, .ref 29), (3, .int (nI l)), (4, .int (nI i))]) (st2 := [.ref 96]) (w3 := w) rfl rfl ?_
        refine sx_RP.gt (k := 5) hI rfl rfl (by decide) (show _ = 68 from rfl) ?_
        rw [hT.2.2.2]
        refine sx_RP.step (pc2 := 69) (ls2 := [(3, .int (nI (vaT n X (p)))), (0, .ref 96), (1, .int (nI u)), (2, .ref 29), (4, .int (nI i))]) (st2 := []) (w3 := w) rfl rfl ?_
        refine sx_RP.step (pc2 := 70) (ls2 := [(3, .int (nI (vaT n X (p)))), (0, .ref 96), (1, .int (nI u)), (2, .ref 29), (4, .int (nI i))]) (st2 := [.ref 29]) (w3 := w) rfl rfl ?_
        refine sx_RP.step (pc2 := 71) (ls2 := [(3, .int (nI (vaT n X (p)))), (0, .ref 96), (1, .int (nI u)), (2, .ref 29), (4, .int (nI i))]) (st2 := [.int (nI u), .ref 29]) (w3 := w) rfl rfl ?_
        refine sx_RP.step (pc2 := 72) (ls2 := [(3, .int (nI (vaT n X (p)))), (0, .ref 96), (1, .int (nI u)), (2, .ref 29), (4, .int (nI i))]) (st2 := [.int (nI (vaT n X (p))), .int (nI u), .ref 29]) (w3 := w) rfl rfl ?_
        refine sx_RP.step (pc2 := 73) (ls2 := [(3, .int (nI (vaT n X (p)))), (0, .ref 96), (1, .int (nI u)), (2, .ref 29), (4, .int (nI i))]) (st2 := [.int (nI (vaT n X (p))), .int (nI (vaT n X (p))), .int (nI u), .ref 29]) (w3 := w) rfl rfl ?_
        have hv4 := nmT_in c2
        refine sx_RP.callp (as2 := [.ref 29, .int (nI u), .int (nI (vaT n X (p))), .int (nI (vaT n X (p)))]) (rest2 := []) rfl rfl (sx_inv_v2 (mi := 102) (k := 70) (st := [.int (nI (vaT n X (p))), .int (nI (vaT n X (p))), .int (nI u), .ref 29]) (w := w) rfl rfl (hI.1.oC (Or.inr (Or.inr rfl))) rfl rfl rfl) rfl rfl rfl (X104 hI isA29 (u := u) (f := (vaT n X (p))) (t := (vaT n X (p))) (by omega) (by omega) (by omega)) (show _ = 76 from rfl) ?_
        rintro r4 w5 ⟨rfl, hI6, he3⟩
        show sx_RP _ _ _ _ _ [] _ _
        have hC7 := hC.out he3.1
        have hT8 := hT.out he3.1
        have hB9 := he3.2.trans hB
        have hO10 := hO.tr he3.1.offT
        refine sx_RP.step (pc2 := 77) (ls2 := [(3, .int (nI (vaT n X (p)))), (0, .ref 96), (1, .int (nI u)), (2, .ref 29), (4, .int (nI i))]) (st2 := [.ref 96]) (w3 := w5) rfl rfl ?_
        refine sx_RP.callp (as2 := [.ref 96]) (rest2 := []) rfl rfl (sx_inv_v2 (mi := 102) (k := 29) (st := [.ref 96]) (w := w5) rfl rfl hI6.1.o96 rfl rfl rfl) rfl rfl rfl (X94 hI6 hC7 hT8.2.2.1 (beT_le hp)) (show _ = 80 from rfl) ?_
        rintro r4 w14 ⟨⟨rfl, hT11, h112⟩, hI15, hs13⟩
        show sx_RP _ _ _ _ _ [] _ _
        have hT20 : TK' n X (nP n X p) w14 := hT11
        have hC16 := hC7.same h112 (ia_of (hs13 97 (by decide)))
        have hp17 : nP n X p ≤ n := nP_le hp
        have hB18 := (campB_96 hI6 hs13).trans hB9
        have hO19 := hO10.tr hs13.offT
        refine sx_RP.step (pc2 := 83) (ls2 := [(4, .int ((nI i) + 1)), (3, .int (nI (vaT n X (p)))), (0, .ref 96), (1, .int (nI u)), (2, .ref 29)]) (st2 := []) (w3 := w14) rfl rfl ?_
        rw [nI_1 i]
        refine sx_RP.step (pc2 := 35) (ls2 := [(4, .int (nI (i + 1))), (3, .int (nI (vaT n X (p)))), (0, .ref 96), (1, .int (nI u)), (2, .ref 29)]) (st2 := []) (w3 := w14) rfl rfl ?_
        rw [show grL n X b (fz + 1) l p = grL n X b fz (vaT n X p) (nP n X p) by conv => lhs; unfold grL; rw [if_pos (by omega), if_pos c2]]
        exact sx_RP.ls (sx_lr.cons rfl (sx_lr.cons rfl (sx_lr.cons rfl (sx_lr.cons rfl (sx_lr.cons rfl sx_lr.nil))))) (X102L hu fz (i + 1) (vaT n X p) (nP n X p) w14 (by omega) (by omega) hI15 hC16 hT20 hp17 hB18 hO19)
      · refine sx_RP.cu (as := [.ref 96, .int (nI (l + 1)), .int 47]) (rest2 := []) (st3 := [.int 0]) rfl rfl (sx_inv_v2 (mi := 102) (k := 66) (st := [.int 47, .int (nI (l + 1)), .ref 96]) (w := w) rfl rfl hI.1.o96 rfl rfl rfl) rfl rfl (x103f (lo := (l + 1)) (hi := 47) hI hC hT (by omega) (by omega) c2) rfl ?_
        refine sx_RP.step (pc2 := 62) (ls2 := [(0, .ref 96), (1, .int (nI u)), (2, .ref 29), (3, .int (nI l)), (4, .int (nI i))]) (st2 := []) (w3 := w) rfl rfl ?_
        refine sx_RP.step (pc2 := 63) (ls2 := [(0, .ref 96), (1, .int (nI u)), (2, .ref 29), (3, .int (nI l)), (4, .int (nI i))]) (st2 := [.int 0]) (w3 := w) rfl rfl ?_
        refine sx_RP.ret (r := (some (.int 0))) rfl rfl ?_
        rw [show grL n X b (fz + 1) l p = (false, p, b) by unfold grL; rw [if_pos (by omega), if_neg (by rw [c2]; decide)]]
        exact ⟨⟨rfl, hT, fun z => absurd (show false = true from z) (by decide)⟩, hI, hC, hO⟩
set_option maxRecDepth 20000 in
set_option maxHeartbeats 4000000 in
theorem X102 {xs : Option (List Int32)} {d u p n : Nat} {X : Nat → Nat} {b : BB} {w : List sx_C} (hu : u ≤ 4) (hI : WI w) (hC : CT n X w) (hT : TK' n X p w) (hp : p ≤ n) (hB : campB w 29 = b) : sx_RP xs (d + 3) 102 0 (lv_args 0 [.ref 96, .int (nI u), .ref 29]) [] w (fun r2 w2 => (r2 = some (.int (b01 (groT n X p b).1)) ∧ Rd n X (groT n X p b) w2) ∧ WI w2 ∧ CT n X w2 ∧ OffT w w2) := by
  refine sx_RP.step (pc2 := 1) (ls2 := [(0, .ref 96), (1, .int (nI u)), (2, .ref 29)]) (st2 := [.ref 96]) (w3 := w) rfl rfl ?_
  refine sx_RP.callp (as2 := [.ref 96]) (rest2 := []) rfl rfl (sx_inv_v2 (mi := 102) (k := 29) (st := [.ref 96]) (w := w) rfl rfl hI.1.o96 rfl rfl rfl) rfl rfl rfl (X94 hI hC hT.2.2.1 (beT_le hp)) (show _ = 4 from rfl) ?_
  rintro r4 w4 ⟨⟨rfl, hT1, h12⟩, hI5, hs3⟩
  show sx_RP _ _ _ _ _ [] _ _
  have hT10 : TK' n X (nP n X p) w4 := hT1
  have hC6 := hC.same h12 (ia_of (hs3 97 (by decide)))
  have hp7 : nP n X p ≤ n := nP_le hp
  have hB8 := (campB_96 hI hs3).trans hB
  have hO9 := OffT.rf.tr hs3.offT
  refine sx_RP.step (pc2 := 5) (ls2 := [(0, .ref 96), (1, .int (nI u)), (2, .ref 29)]) (st2 := [.ref 96]) (w3 := w4) rfl rfl ?_
  refine sx_RP.step (pc2 := 6) (ls2 := [(0, .ref 96), (1, .int (nI u)), (2, .ref 29)]) (st2 := [.int 0, .ref 96]) (w3 := w4) rfl rfl ?_
  refine sx_RP.step (pc2 := 8) (ls2 := [(0, .ref 96), (1, .int (nI u)), (2, .ref 29)]) (st2 := [.int 47, .int 0, .ref 96]) (w3 := w4) rfl rfl ?_
  rcases Bool.eq_false_or_eq_true (nmT n X (nP n X p) 0 47) with c11 | c11
  · refine sx_RP.cu (as := [.ref 96, .int 0, .int 47]) (rest2 := []) (st3 := [.int 1]) rfl rfl (sx_inv_v2 (mi := 102) (k := 66) (st := [.int 47, .int 0, .ref 96]) (w := w4) rfl rfl hI5.1.o96 rfl rfl rfl) rfl rfl (x103t (lo := 0) (hi := 47) hI5 hC6 hT10 (by omega) (by omega) c11) rfl ?_
    refine sx_RP.step (pc2 := 16) (ls2 := [(0, .ref 96), (1, .int (nI u)), (2, .ref 29)]) (st2 := []) (w3 := w4) rfl rfl ?_
    refine sx_RP.step (pc2 := 17) (ls2 := [(0, .ref 96), (1, .int (nI u)), (2, .ref 29)]) (st2 := [.ref 96]) (w3 := w4) rfl rfl ?_
    refine sx_RP.gt (k := 5) hI5 rfl rfl (by decide) (show _ = 20 from rfl) ?_
    rw [hT10.2.2.2]
    refine sx_RP.step (pc2 := 21) (ls2 := [(3, .int (nI (vaT n X (nP n X p)))), (0, .ref 96), (1, .int (nI u)), (2, .ref 29)]) (st2 := []) (w3 := w4) rfl rfl ?_
    refine sx_RP.step (pc2 := 22) (ls2 := [(3, .int (nI (vaT n X (nP n X p)))), (0, .ref 96), (1, .int (nI u)), (2, .ref 29)]) (st2 := [.ref 29]) (w3 := w4) rfl rfl ?_
    refine sx_RP.step (pc2 := 23) (ls2 := [(3, .int (nI (vaT n X (nP n X p)))), (0, .ref 96), (1, .int (nI u)), (2, .ref 29)]) (st2 := [.int (nI u), .ref 29]) (w3 := w4) rfl rfl ?_
    refine sx_RP.step (pc2 := 24) (ls2 := [(3, .int (nI (vaT n X (nP n X p)))), (0, .ref 96), (1, .int (nI u)), (2, .ref 29)]) (st2 := [.int (nI (vaT n X (nP n X p))), .int (nI u), .ref 29]) (w3 := w4) rfl rfl ?_
    refine sx_RP.step (pc2 := 25) (ls2 := [(3, .int (nI (vaT n X (nP n X p)))), (0, .ref 96), (1, .int (nI u)), (2, .ref 29)]) (st2 := [.int (nI (vaT n X (nP n X p))), .int (nI (vaT n X (nP n X p))), .int (nI u), .ref 29]) (w3 := w4) rfl rfl ?_
    have hv13 := nmT_in c11
    refine sx_RP.callp (as2 := [.ref 29, .int (nI u), .int (nI (vaT n X (nP n X p))), .int (nI (vaT n X (nP n X p)))]) (rest2 := []) rfl rfl (sx_inv_v2 (mi := 102) (k := 70) (st := [.int (nI (vaT n X (nP n X p))), .int (nI (vaT n X (nP n X p))), .int (nI u), .ref 29]) (w := w4) rfl rfl (hI5.1.oC (Or.inr (Or.inr rfl))) rfl rfl rfl) rfl rfl rfl (X104 hI5 isA29 (u := u) (f := (vaT n X (nP n X p))) (t := (vaT n X (nP n X p))) (by omega) (by omega) (by omega)) (show _ = 28 from rfl) ?_
    rintro r4 w14 ⟨rfl, hI15, he12⟩
    show sx_RP _ _ _ _ _ [] _ _
    have hC16 := hC6.out he12.1
    have hT17 := hT10.out he12.1
    have hB18 := he12.2.trans hB8
    have hO19 := hO9.tr he12.1.offT
    refine sx_RP.step (pc2 := 29) (ls2 := [(3, .int (nI (vaT n X (nP n X p)))), (0, .ref 96), (1, .int (nI u)), (2, .ref 29)]) (st2 := [.ref 96]) (w3 := w14) rfl rfl ?_
    refine sx_RP.callp (as2 := [.ref 96]) (rest2 := []) rfl rfl (sx_inv_v2 (mi := 102) (k := 29) (st := [.ref 96]) (w := w14) rfl rfl hI15.1.o96 rfl rfl rfl) rfl rfl rfl (X94 hI15 hC16 hT17.2.2.1 (beT_le hp7)) (show _ = 32 from rfl) ?_
    rintro r4 w23 ⟨⟨rfl, hT20, h121⟩, hI24, hs22⟩
    show sx_RP _ _ _ _ _ [] _ _
    have hT29 : TK' n X (nP n X (nP n X p)) w23 := hT20
    have hC25 := hC16.same h121 (ia_of (hs22 97 (by decide)))
    have hp26 : nP n X (nP n X p) ≤ n := nP_le hp7
    have hB27 := (campB_96 hI15 hs22).trans hB18
    have hO28 := hO19.tr hs22.offT
    refine sx_RP.step (pc2 := 33) (ls2 := [(3, .int (nI (vaT n X (nP n X p)))), (0, .ref 96), (1, .int (nI u)), (2, .ref 29)]) (st2 := [.int 0]) (w3 := w23) rfl rfl ?_
    refine sx_RP.step (pc2 := 35) (ls2 := [(4, .int 0), (3, .int (nI (vaT n X (nP n X p)))), (0, .ref 96), (1, .int (nI u)), (2, .ref 29)]) (st2 := []) (w3 := w23) rfl rfl ?_
    rw [show groT n X p b = grL n X b 48 (vaT n X (nP n X p)) (nP n X (nP n X p)) by unfold groT; rw [if_pos c11]]
    exact sx_RP.ls (sx_lr.cons rfl (sx_lr.cons rfl (sx_lr.cons rfl (sx_lr.cons rfl (sx_lr.cons rfl sx_lr.nil))))) (X102L hu 48 0 (vaT n X (nP n X p)) (nP n X (nP n X p)) w23 (by omega) (by omega) hI24 hC25 hT29 hp26 hB27 hO28)
  · refine sx_RP.cu (as := [.ref 96, .int 0, .int 47]) (rest2 := []) (st3 := [.int 0]) rfl rfl (sx_inv_v2 (mi := 102) (k := 66) (st := [.int 47, .int 0, .ref 96]) (w := w4) rfl rfl hI5.1.o96 rfl rfl rfl) rfl rfl (x103f (lo := 0) (hi := 47) hI5 hC6 hT10 (by omega) (by omega) c11) rfl ?_
    refine sx_RP.step (pc2 := 14) (ls2 := [(0, .ref 96), (1, .int (nI u)), (2, .ref 29)]) (st2 := []) (w3 := w4) rfl rfl ?_
    refine sx_RP.step (pc2 := 15) (ls2 := [(0, .ref 96), (1, .int (nI u)), (2, .ref 29)]) (st2 := [.int 0]) (w3 := w4) rfl rfl ?_
    refine sx_RP.ret (r := (some (.int 0))) rfl rfl ?_
    rw [show groT n X p b = (false, nP n X p, b) by unfold groT; rw [if_neg (by rw [c11]; decide)]]
    exact ⟨⟨rfl, hT10, fun z => absurd (show false = true from z) (by decide)⟩, hI5, hC6, hO9⟩
