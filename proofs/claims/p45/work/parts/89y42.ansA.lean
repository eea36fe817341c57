-- answers: falls, count, mine
theorem bit_and {a b : Int64} {i : Nat} : bitL (a &&& b) i = (bitL a i && bitL b i) := by
  unfold bitL
  rw [Int64.toBitVec_and, BitVec.getLsbD_and]
theorem ctP_lt {f : Nat → Bool} (n : Nat) : ∀ m : Nat, ctP (fun i => ltB n i && f i) (n + m) = ctP f n
  | 0 => ctP_congr n (fun i hi => by rw [ltB_y hi, Bool.true_and])
  | m + 1 => by
    show ctP (fun i => ltB n i && f i) (n + m) + (if (ltB n (n + m) && f (n + m)) = true then 1 else 0) = ctP f n
    rw [ctP_lt n m, ltB_n (by omega), Bool.false_and, if_neg (by decide), Int32.add_zero]
theorem ctP_ge {f : Nat → Bool} {n : Nat} (hn : n ≤ 64) : 0 ≤ ctP f n := by
  have h := cnN_le (f := f) n
  rw [ctP_cn]
  exact nI_le (a := 0) (Nat.zero_le _) (by omega)
def wlB (l : List Int32) (i : Nat) : Bool := l.getD (55 + i) 0 == 1
theorem wlB_y {l : List Int32} {i : Nat} (h : l.getD (55 + i) 0 = 1) : wlB l i = true := by
  unfold wlB
  rw [h]
  rfl
theorem wlB_n {l : List Int32} {i : Nat} (h : ¬ l.getD (55 + i) 0 = 1) : wlB l i = false := beq_eq_false_iff_ne.mpr h
def flB (l : List Int32) (c p i : Nat) : Bool := wlB l i && rcB l c p i
def fanF (l : List Int32) (c p : Nat) : Int32 := ctP (flB l c p) 48
theorem fl_y {l : List Int32} {c p j : Nat} (h : l.getD (55 + j) 0 = 1) (h2 : rcB l c p j = true) : ctP (flB l c p) j + 1 = ctP (flB l c p) (j + 1) := by
  show _ = ctP (flB l c p) j + (if (wlB l j && rcB l c p j) = true then 1 else 0)
  rw [wlB_y h, h2]
  rfl
theorem fl_1 {l : List Int32} {c p j : Nat} (h : ¬ l.getD (55 + j) 0 = 1) : ctP (flB l c p) j + 0 = ctP (flB l c p) (j + 1) := by
  show _ = ctP (flB l c p) j + (if (wlB l j && rcB l c p j) = true then 1 else 0)
  rw [wlB_n h, Bool.false_and]
  rfl
theorem fl_2 {l : List Int32} {c p j : Nat} (h2 : rcB l c p j = false) : ctP (flB l c p) j + 0 = ctP (flB l c p) (j + 1) := by
  show _ = ctP (flB l c p) j + (if (wlB l j && rcB l c p j) = true then 1 else 0)
  rw [h2, Bool.and_false]
  rfl
theorem rel.wbit {w : List sx_C} {l : List Int32} (hR : rel w 1 l) {i : Nat} (hi : i < 64) : bitL (fj w 1 1) i = (ltB 48 i && wlB l i) := by
  have e := hR.wl hi
  unfold wbt wlr at e
  by_cases h : i < 48
  · rw [if_pos h] at e
    rw [ltB_y h, Bool.true_and]
    unfold wlB
    rw [← e]
    cases bitL (fj w 1 1) i <;> rfl
  · rw [if_neg h] at e
    rw [ltB_n h, Bool.false_and]
    cases hb : bitL (fj w 1 1) i with
    | false => rfl
    | true =>
      rw [hb] at e
      exact absurd e (by decide)
theorem fl_C {w : List sx_C} {l : List Int32} (hR : rel w 1 l) {c p : Nat} {u : Int64} (hu : ∀ i, i < 64 → bitL u i = (ltB 48 i && rcB l c p i)) : ctP (bitL (u &&& fj w 1 1)) 64 = fanF l c p := by
  rw [ctP_congr (g := fun i => ltB 48 i && flB l c p i) 64 (fun i hi => by
    rw [bit_and, hu i hi, hR.wbit hi]
    unfold flB
    cases ltB 48 i <;> cases wlB l i <;> cases rcB l c p i <;> rfl)]
  exact ctP_lt 48 16
theorem wl_C {w : List sx_C} {l : List Int32} (hR : rel w 1 l) : ctP (bitL (fj w 1 1)) 64 = ctP (wlB l) 48 := by
  rw [ctP_congr (g := fun i => ltB 48 i && wlB l i) 64 (fun i hi => hR.wbit hi)]
  exact ctP_lt 48 16
theorem wl_s {l : List Int32} (hW : WB l) {j : Nat} (hj : j < 48) : ctP (wlB l) j + l.getD (55 + j) 0 = ctP (wlB l) (j + 1) := by
  show _ = ctP (wlB l) j + (if wlB l j = true then 1 else 0)
  obtain ⟨b, hb, e⟩ := hW j hj
  rcases (show b = 0 ∨ b = 1 by omega) with rfl | rfl
  · rw [wlB_n (by rw [e]; decide), e]
    rfl
  · rw [wlB_y (by rw [e]; rfl), e]
    rfl
def falA (l : List Int32) (a1 a2 : Int32) : Int32 := if (0 ≤ a1 ∧ a1 ≤ 47) ∧ (1 ≤ a2 ∧ a2 ≤ 30) then fanF l (iN a1) (iN a2) else -1000000001
theorem falA_n {l : List Int32} {a1 a2 : Int32} (h : ¬ ((0 ≤ a1 ∧ a1 ≤ 47) ∧ (1 ≤ a2 ∧ a2 ≤ 30))) : falA l a1 a2 = -1000000001 := if_neg h
theorem falA_y {l : List Int32} {c p : Nat} (hc : c < 48) (h1 : 1 ≤ p) (hp : p ≤ 30) : falA l (nI c) (nI p) = fanF l c p := by
  unfold falA
  rw [if_pos ⟨cel_in hc, nI_le (a := 1) (by omega) (by omega), nI_le (b := 30) (by omega) (by decide)⟩, iN_n (by omega), iN_n (by omega)]
def cntA (l t : List Int32) (a1 : Int32) : Int32 := if a1 = 0 then l.getD 1 0 else (if a1 = 1 then l.getD 2 0 else (if a1 = 2 then ctP (wlB l) 48 else (if a1 = 3 then nI t.length else (if a1 = 4 then l.getD 4 0 else (if a1 = 5 then l.getD 5 0 else (if a1 = 6 then l.getD 6 0 else -1000000001))))))
theorem cntA_0 {l t : List Int32} : cntA l t (nI 0) = l.getD 1 0 := rfl
theorem cntA_1 {l t : List Int32} : cntA l t (nI 1) = l.getD 2 0 := rfl
theorem cntA_2 {l t : List Int32} : cntA l t (nI 2) = ctP (wlB l) 48 := rfl
theorem cntA_3 {l t : List Int32} : cntA l t (nI 3) = nI t.length := rfl
theorem cntA_4 {l t : List Int32} : cntA l t (nI 4) = l.getD 4 0 := rfl
theorem cntA_5 {l t : List Int32} : cntA l t (nI 5) = l.getD 5 0 := rfl
theorem cntA_6 {l t : List Int32} : cntA l t (nI 6) = l.getD 6 0 := rfl
theorem cntA_n {l t : List Int32} {a1 : Int32} (h : a1.toInt < 0 ∨ ((6 : Nat) : Int) < a1.toInt) : cntA l t a1 = -1000000001 := by
  unfold cntA
  rw [if_neg (fun e => by rw [e] at h; exact absurd h (by decide)), if_neg (fun e => by rw [e] at h; exact absurd h (by decide)), if_neg (fun e => by rw [e] at h; exact absurd h (by decide)), if_neg (fun e => by rw [e] at h; exact absurd h (by decide)), if_neg (fun e => by rw [e] at h; exact absurd h (by decide)), if_neg (fun e => by rw [e] at h; exact absurd h (by decide)), if_neg (fun e => by rw [e] at h; exact absurd h (by decide))]
def mnF (l : List Int32) (p : Nat) : Nat → Nat → Int32 → Int32 → Int32
  | 0, _, _, b => b
  | q + 1, j, m, b => if ¬ l.getD (7 + j) 0 = 3 ∧ m < fanF l j p then mnF l p q (j + 1) (fanF l j p) (nI j) else mnF l p q (j + 1) m b
theorem mn_y {l : List Int32} {p q j : Nat} {m b : Int32} (h : ¬ l.getD (7 + j) 0 = 3) (h2 : m < fanF l j p) : mnF l p (q + 1) j m b = mnF l p q (j + 1) (fanF l j p) (nI j) := if_pos ⟨h, h2⟩
theorem mn_1 {l : List Int32} {p q j : Nat} {m b : Int32} (h : l.getD (7 + j) 0 = 3) : mnF l p (q + 1) j m b = mnF l p q (j + 1) m b := if_neg (fun z => z.1 h)
theorem mn_2 {l : List Int32} {p q j : Nat} {m b : Int32} (h2 : fanF l j p ≤ m) : mnF l p (q + 1) j m b = mnF l p q (j + 1) m b := if_neg (fun z => absurd h2 (Int32.not_le.mpr z.2))
def mnA (b : Int32) : Int32 := if b = -1 then -1000000004 else b
def minA (l : List Int32) (a1 : Int32) : Int32 := if 1 ≤ a1 ∧ a1 ≤ 30 then mnA (mnF l (iN a1) 48 0 0 (-1)) else -1000000001
theorem minA_n {l : List Int32} {a1 : Int32} (h : ¬ (1 ≤ a1 ∧ a1 ≤ 30)) : minA l a1 = -1000000001 := if_neg h
theorem minA_y {l : List Int32} {p : Nat} (h1 : 1 ≤ p) (hp : p ≤ 30) : minA l (nI p) = mnA (mnF l p 48 0 0 (-1)) := by
  unfold minA
  rw [if_pos ⟨nI_le (a := 1) (by omega) (by omega), nI_le (b := 30) (by omega) (by decide)⟩, iN_n (by omega)]
theorem mnA_k {k : Nat} (h : k < 48) : mnA (nI k) = nI k := if_neg (nI_ne1 (by omega))
set_option maxRecDepth 20000 in
set_option maxHeartbeats 4000000 in
theorem x78 {xs : Option (List Int32)} {d : Nat} {w : List sx_C} (hI : WI w) (v : Int64) : sx_RU xs d 78 0 (lv_args 0 [.long v]) [] w (some (.int (ctP (bitL v) 64))) w := by
  have h : sx_RP xs d 78 0 (lv_args 0 [.long v]) [] w (fun r9 w2 => r9 = some (.int (ctP (bitL v) 64)) ∧ w2 = w) := by
    refine sx_RP.step (pc2 := 1) (ls2 := [(0, .long v)]) (st2 := [.long v]) (w3 := w) rfl rfl ?_
    refine sx_RP.step (pc2 := 2) (ls2 := [(0, .long v)]) (st2 := [.long v, .long v]) (w3 := w) rfl rfl ?_
    refine sx_RP.step (pc2 := 3) (ls2 := [(0, .long v)]) (st2 := [.int 1, .long v, .long v]) (w3 := w) rfl rfl ?_
    refine sx_RP.step (pc2 := 4) (ls2 := [(0, .long v)]) (st2 := [.long ((v.toUInt64 >>> ((1 : Int32).toInt64.toUInt64 &&& Int64.toUInt64 63)).toInt64), .long v]) (w3 := w) rfl rfl ?_
    refine sx_RP.step (pc2 := 7) (ls2 := [(0, .long v)]) (st2 := [.long 6148914691236517205, .long ((v.toUInt64 >>> ((1 : Int32).toInt64.toUInt64 &&& Int64.toUInt64 63)).toInt64), .long v]) (w3 := w) rfl rfl ?_
    refine sx_RP.step (pc2 := 8) (ls2 := [(0, .long v)]) (st2 := [.long (((v.toUInt64 >>> ((1 : Int32).toInt64.toUInt64 &&& Int64.toUInt64 63)).toInt64) &&& 6148914691236517205), .long v]) (w3 := w) rfl rfl ?_
    refine sx_RP.step (pc2 := 9) (ls2 := [(0, .long v)]) (st2 := [.long (v - (((v.toUInt64 >>> ((1 : Int32).toInt64.toUInt64 &&& Int64.toUInt64 63)).toInt64) &&& 6148914691236517205))]) (w3 := w) rfl rfl ?_
    refine sx_RP.step (pc2 := 10) (ls2 := [(0, .long (bc1 v))]) (st2 := []) (w3 := w) rfl rfl ?_
    refine sx_RP.step (pc2 := 11) (ls2 := [(0, .long (bc1 v))]) (st2 := [.long (bc1 v)]) (w3 := w) rfl rfl ?_
    refine sx_RP.step (pc2 := 14) (ls2 := [(0, .long (bc1 v))]) (st2 := [.long 3689348814741910323, .long (bc1 v)]) (w3 := w) rfl rfl ?_
    refine sx_RP.step (pc2 := 15) (ls2 := [(0, .long (bc1 v))]) (st2 := [.long ((bc1 v) &&& 3689348814741910323)]) (w3 := w) rfl rfl ?_
    refine sx_RP.step (pc2 := 16) (ls2 := [(0, .long (bc1 v))]) (st2 := [.long (bc1 v), .long ((bc1 v) &&& 3689348814741910323)]) (w3 := w) rfl rfl ?_
    refine sx_RP.step (pc2 := 17) (ls2 := [(0, .long (bc1 v))]) (st2 := [.int 2, .long (bc1 v), .long ((bc1 v) &&& 3689348814741910323)]) (w3 := w) rfl rfl ?_
    refine sx_RP.step (pc2 := 18) (ls2 := [(0, .long (bc1 v))]) (st2 := [.long (((bc1 v).toUInt64 >>> ((2 : Int32).toInt64.toUInt64 &&& Int64.toUInt64 63)).toInt64), .long ((bc1 v) &&& 3689348814741910323)]) (w3 := w) rfl rfl ?_
    refine sx_RP.step (pc2 := 21) (ls2 := [(0, .long (bc1 v))]) (st2 := [.long 3689348814741910323, .long (((bc1 v).toUInt64 >>> ((2 : Int32).toInt64.toUInt64 &&& Int64.toUInt64 63)).toInt64), .long ((bc1 v) &&& 3689348814741910323)]) (w3 := w) rfl rfl ?_
    refine sx_RP.step (pc2 := 22) (ls2 := [(0, .long (bc1 v))]) (st2 := [.long ((((bc1 v).toUInt64 >>> ((2 : Int32).toInt64.toUInt64 &&& Int64.toUInt64 63)).toInt64) &&& 3689348814741910323), .long ((bc1 v) &&& 3689348814741910323)]) (w3 := w) rfl rfl ?_
    refine sx_RP.step (pc2 := 23) (ls2 := [(0, .long (bc1 v))]) (st2 := [.long (((bc1 v) &&& 3689348814741910323) + ((((bc1 v).toUInt64 >>> ((2 : Int32).toInt64.toUInt64 &&& Int64.toUInt64 63)).toInt64) &&& 3689348814741910323))]) (w3 := w) rfl rfl ?_
    refine sx_RP.step (pc2 := 24) (ls2 := [(0, .long (bc2 (bc1 v)))]) (st2 := []) (w3 := w) rfl rfl ?_
    refine sx_RP.step (pc2 := 25) (ls2 := [(0, .long (bc2 (bc1 v)))]) (st2 := [.long (bc2 (bc1 v))]) (w3 := w) rfl rfl ?_
    refine sx_RP.step (pc2 := 26) (ls2 := [(0, .long (bc2 (bc1 v)))]) (st2 := [.long (bc2 (bc1 v)), .long (bc2 (bc1 v))]) (w3 := w) rfl rfl ?_
    refine sx_RP.step (pc2 := 27) (ls2 := [(0, .long (bc2 (bc1 v)))]) (st2 := [.int 4, .long (bc2 (bc1 v)), .long (bc2 (bc1 v))]) (w3 := w) rfl rfl ?_
    refine sx_RP.step (pc2 := 28) (ls2 := [(0, .long (bc2 (bc1 v)))]) (st2 := [.long (((bc2 (bc1 v)).toUInt64 >>> ((4 : Int32).toInt64.toUInt64 &&& Int64.toUInt64 63)).toInt64), .long (bc2 (bc1 v))]) (w3 := w) rfl rfl ?_
    refine sx_RP.step (pc2 := 29) (ls2 := [(0, .long (bc2 (bc1 v)))]) (st2 := [.long ((bc2 (bc1 v)) + (((bc2 (bc1 v)).toUInt64 >>> ((4 : Int32).toInt64.toUInt64 &&& Int64.toUInt64 63)).toInt64))]) (w3 := w) rfl rfl ?_
    refine sx_RP.step (pc2 := 32) (ls2 := [(0, .long (bc2 (bc1 v)))]) (st2 := [.long 1085102592571150095, .long ((bc2 (bc1 v)) + (((bc2 (bc1 v)).toUInt64 >>> ((4 : Int32).toInt64.toUInt64 &&& Int64.toUInt64 63)).toInt64))]) (w3 := w) rfl rfl ?_
    refine sx_RP.step (pc2 := 33) (ls2 := [(0, .long (bc2 (bc1 v)))]) (st2 := [.long (((bc2 (bc1 v)) + (((bc2 (bc1 v)).toUInt64 >>> ((4 : Int32).toInt64.toUInt64 &&& Int64.toUInt64 63)).toInt64)) &&& 1085102592571150095)]) (w3 := w) rfl rfl ?_
    refine sx_RP.step (pc2 := 34) (ls2 := [(0, .long (bc3 (bc2 (bc1 v))))]) (st2 := []) (w3 := w) rfl rfl ?_
    refine sx_RP.step (pc2 := 35) (ls2 := [(0, .long (bc3 (bc2 (bc1 v))))]) (st2 := [.long (bc3 (bc2 (bc1 v)))]) (w3 := w) rfl rfl ?_
    refine sx_RP.step (pc2 := 36) (ls2 := [(0, .long (bc3 (bc2 (bc1 v))))]) (st2 := [.long (bc3 (bc2 (bc1 v))), .long (bc3 (bc2 (bc1 v)))]) (w3 := w) rfl rfl ?_
    refine sx_RP.step (pc2 := 38) (ls2 := [(0, .long (bc3 (bc2 (bc1 v))))]) (st2 := [.int 8, .long (bc3 (bc2 (bc1 v))), .long (bc3 (bc2 (bc1 v)))]) (w3 := w) rfl rfl ?_
    refine sx_RP.step (pc2 := 39) (ls2 := [(0, .long (bc3 (bc2 (bc1 v))))]) (st2 := [.long (((bc3 (bc2 (bc1 v))).toUInt64 >>> ((8 : Int32).toInt64.toUInt64 &&& Int64.toUInt64 63)).toInt64), .long (bc3 (bc2 (bc1 v)))]) (w3 := w) rfl rfl ?_
    refine sx_RP.step (pc2 := 40) (ls2 := [(0, .long (bc3 (bc2 (bc1 v))))]) (st2 := [.long ((bc3 (bc2 (bc1 v))) + (((bc3 (bc2 (bc1 v))).toUInt64 >>> ((8 : Int32).toInt64.toUInt64 &&& Int64.toUInt64 63)).toInt64))]) (w3 := w) rfl rfl ?_
    refine sx_RP.step (pc2 := 41) (ls2 := [(0, .long (bc4 (bc3 (bc2 (bc1 v)))))]) (st2 := []) (w3 := w) rfl rfl ?_
    refine sx_RP.step (pc2 := 42) (ls2 := [(0, .long (bc4 (bc3 (bc2 (bc1 v)))))]) (st2 := [.long (bc4 (bc3 (bc2 (bc1 v))))]) (w3 := w) rfl rfl ?_
    refine sx_RP.step (pc2 := 43) (ls2 := [(0, .long (bc4 (bc3 (bc2 (bc1 v)))))]) (st2 := [.long (bc4 (bc3 (bc2 (bc1 v)))), .long (bc4 (bc3 (bc2 (bc1 v))))]) (w3 := w) rfl rfl ?_
    refine sx_RP.step (pc2 := 45) (ls2 := [(0, .long (bc4 (bc3 (bc2 (bc1 v)))))]) (st2 := [.int 16, .long (bc4 (bc3 (bc2 (bc1 v)))), .long (bc4 (bc3 (bc2 (bc1 v))))]) (w3 := w) rfl rfl ?_
    refine sx_RP.step (pc2 := 46) (ls2 := [(0, .long (bc4 (bc3 (bc2 (bc1 v)))))]) (st2 := [.long (((bc4 (bc3 (bc2 (bc1 v)))).toUInt64 >>> ((16 : Int32).toInt64.toUInt64 &&& Int64.toUInt64 63)).toInt64), .long (bc4 (bc3 (bc2 (bc1 v))))]) (w3 := w) rfl rfl ?_
    refine sx_RP.step (pc2 := 47) (ls2 := [(0, .long (bc4 (bc3 (bc2 (bc1 v)))))]) (st2 := [.long ((bc4 (bc3 (bc2 (bc1 v)))) + (((bc4 (bc3 (bc2 (bc1 v)))).toUInt64 >>> ((16 : Int32).toInt64.toUInt64 &&& Int64.toUInt64 63)).toInt64))]) (w3 := w) rfl rfl ?_
    refine sx_RP.step (pc2 := 48) (ls2 := [(0, .long (bc5 (bc4 (bc3 (bc2 (bc1 v))))))]) (st2 := []) (w3 := w) rfl rfl ?_
    refine sx_RP.step (pc2 := 49) (ls2 := [(0, .long (bc5 (bc4 (bc3 (bc2 (bc1 v))))))]) (st2 := [.long (bc5 (bc4 (bc3 (bc2 (bc1 v)))))]) (w3 := w) rfl rfl ?_
    refine sx_RP.step (pc2 := 50) (ls2 := [(0, .long (bc5 (bc4 (bc3 (bc2 (bc1 v))))))]) (st2 := [.long (bc5 (bc4 (bc3 (bc2 (bc1 v))))), .long (bc5 (bc4 (bc3 (bc2 (bc1 v)))))]) (w3 := w) rfl rfl ?_
    refine sx_RP.step (pc2 := 52) (ls2 := [(0, .long (bc5 (bc4 (bc3 (bc2 (bc1 v))))))]) (st2 := [.int 32, .long (bc5 (bc4 (bc3 (bc2 (bc1 v))))), .long (bc5 (bc4 (bc3 (bc2 (bc1 v)))))]) (w3 := w) rfl rfl ?_
    refine sx_RP.step (pc2 := 53) (ls2 := [(0, .long (bc5 (bc4 (bc3 (bc2 (bc1 v))))))]) (st2 := [.long (((bc5 (bc4 (bc3 (bc2 (bc1 v))))).toUInt64 >>> ((32 : Int32).toInt64.toUInt64 &&& Int64.toUInt64 63)).toInt64), .long (bc5 (bc4 (bc3 (bc2 (bc1 v)))))]) (w3 := w) rfl rfl ?_
    refine sx_RP.step (pc2 := 54) (ls2 := [(0, .long (bc5 (bc4 (bc3 (bc2 (bc1 v))))))]) (st2 := [.long ((bc5 (bc4 (bc3 (bc2 (bc1 v))))) + (((bc5 (bc4 (bc3 (bc2 (bc1 v))))).toUInt64 >>> ((32 : Int32).toInt64.toUInt64 &&& Int64.toUInt64 63)).toInt64))]) (w3 := w) rfl rfl ?_
    refine sx_RP.step (pc2 := 55) (ls2 := [(0, .long (bc6 (bc5 (bc4 (bc3 (bc2 (bc1 v)))))))]) (st2 := []) (w3 := w) rfl rfl ?_
    refine sx_RP.step (pc2 := 56) (ls2 := [(0, .long (bc6 (bc5 (bc4 (bc3 (bc2 (bc1 v)))))))]) (st2 := [.long (bc6 (bc5 (bc4 (bc3 (bc2 (bc1 v))))))]) (w3 := w) rfl rfl ?_
    refine sx_RP.step (pc2 := 57) (ls2 := [(0, .long (bc6 (bc5 (bc4 (bc3 (bc2 (bc1 v)))))))]) (st2 := [.int ((bc6 (bc5 (bc4 (bc3 (bc2 (bc1 v)))))).toInt32)]) (w3 := w) rfl rfl ?_
    refine sx_RP.step (pc2 := 59) (ls2 := [(0, .long (bc6 (bc5 (bc4 (bc3 (bc2 (bc1 v)))))))]) (st2 := [.int 127, .int ((bc6 (bc5 (bc4 (bc3 (bc2 (bc1 v)))))).toInt32)]) (w3 := w) rfl rfl ?_
    refine sx_RP.step (pc2 := 60) (ls2 := [(0, .long (bc6 (bc5 (bc4 (bc3 (bc2 (bc1 v)))))))]) (st2 := [.int (((bc6 (bc5 (bc4 (bc3 (bc2 (bc1 v)))))).toInt32) &&& 127)]) (w3 := w) rfl rfl ?_
    refine sx_RP.ret (r := (some (.int (((bc6 (bc5 (bc4 (bc3 (bc2 (bc1 v)))))).toInt32) &&& 127)))) rfl rfl ?_
    exact ⟨by rw [bc_ok], rfl⟩
  obtain ⟨r9, w2, h1, rfl, rfl⟩ := h
  exact h1
set_option maxRecDepth 20000 in
set_option maxHeartbeats 4000000 in
theorem A76 {xs : Option (List Int32)} {d : Nat} {w : List sx_C} (hI : WI w) (l : List Int32) (hR : rel w 1 l) (a1 a2 : Int32) : sx_RP xs (d + 7) 76 0 (lv_args 0 [.ref 0, .int a1, .int a2]) [] w (fun r w2 => r = some (.int (falA l a1 a2)) ∧ WI w2) := by
  refine sx_RP.step (pc2 := 1) (ls2 := [(0, .ref 0), (1, .int a1), (2, .int a2)]) (st2 := [.int a1]) (w3 := w) rfl rfl ?_
  rcases in_cases a1 0 47 (m := 0) (n := 47) rfl rfl (by decide) (by decide) with q1 | ⟨x2, hx3, hx4, rfl⟩
  · refine sx_RP.cu (as := [.int a1]) (rest2 := []) (st3 := [.int 0]) rfl rfl rfl rfl rfl (cx_7n q1) rfl ?_
    refine sx_RP.step (pc2 := 17) (ls2 := [(0, .ref 0), (1, .int a1), (2, .int a2)]) (st2 := []) (w3 := w) rfl rfl ?_
    refine sx_RP.step (pc2 := 18) (ls2 := [(0, .ref 0), (1, .int a1), (2, .int a2)]) (st2 := [.ref 0]) (w3 := w) rfl rfl ?_
    refine sx_RP.step (pc2 := 20) (ls2 := [(0, .ref 0), (1, .int a1), (2, .int a2)]) (st2 := [.int (-1000000001), .ref 0]) (w3 := w) rfl rfl ?_
    refine sx_RP.callp (as2 := [.ref 0, .int (-1000000001)]) (rest2 := []) rfl rfl (sx_inv_v2 (mi := 76) (k := 78) (st := [.int (-1000000001), .ref 0]) (w := w) rfl rfl hI.1.o0 rfl rfl rfl) rfl rfl rfl (S9_0 hI) (show _ = 23 from rfl) ?_
    rintro r4 w7 ⟨rfl, hI8, hs6⟩
    show sx_RP _ _ _ _ _ [.int (-1000000001)] _ _
    refine sx_RP.ret (r := (some (.int (-1000000001)))) rfl rfl ?_
    exact ⟨by rw [falA_n (fun z => q1 z.1)], hI8⟩
  · refine sx_RP.cu (as := [.int (nI x2)]) (rest2 := []) (st3 := [.int 1]) rfl rfl rfl rfl rfl (cx_7p ⟨nI_le (a := 0) hx3 (by omega), nI_le (b := 47) hx4 (by decide)⟩) rfl ?_
    refine sx_RP.step (pc2 := 7) (ls2 := [(0, .ref 0), (1, .int (nI x2)), (2, .int a2)]) (st2 := []) (w3 := w) rfl rfl ?_
    refine sx_RP.step (pc2 := 8) (ls2 := [(0, .ref 0), (1, .int (nI x2)), (2, .int a2)]) (st2 := [.int a2]) (w3 := w) rfl rfl ?_
    refine sx_RP.step (pc2 := 9) (ls2 := [(0, .ref 0), (1, .int (nI x2)), (2, .int a2)]) (st2 := [.int 1, .int a2]) (w3 := w) rfl rfl ?_
    refine sx_RP.step (pc2 := 11) (ls2 := [(0, .ref 0), (1, .int (nI x2)), (2, .int a2)]) (st2 := [.int 30, .int 1, .int a2]) (w3 := w) rfl rfl ?_
    rcases in_cases a2 1 30 (m := 1) (n := 30) rfl rfl (by decide) (by decide) with q9 | ⟨x10, hx11, hx12, rfl⟩
    · refine sx_RP.cu (as := [.int a2, .int 1, .int 30]) (rest2 := []) (st3 := [.int 0]) rfl rfl rfl rfl rfl (cx_8n q9) rfl ?_
      refine sx_RP.step (pc2 := 17) (ls2 := [(0, .ref 0), (1, .int (nI x2)), (2, .int a2)]) (st2 := []) (w3 := w) rfl rfl ?_
      refine sx_RP.step (pc2 := 18) (ls2 := [(0, .ref 0), (1, .int (nI x2)), (2, .int a2)]) (st2 := [.ref 0]) (w3 := w) rfl rfl ?_
      refine sx_RP.step (pc2 := 20) (ls2 := [(0, .ref 0), (1, .int (nI x2)), (2, .int a2)]) (st2 := [.int (-1000000001), .ref 0]) (w3 := w) rfl rfl ?_
      refine sx_RP.callp (as2 := [.ref 0, .int (-1000000001)]) (rest2 := []) rfl rfl (sx_inv_v2 (mi := 76) (k := 78) (st := [.int (-1000000001), .ref 0]) (w := w) rfl rfl hI.1.o0 rfl rfl rfl) rfl rfl rfl (S9_0 hI) (show _ = 23 from rfl) ?_
      rintro r4 w15 ⟨rfl, hI16, hs14⟩
      show sx_RP _ _ _ _ _ [.int (-1000000001)] _ _
      refine sx_RP.ret (r := (some (.int (-1000000001)))) rfl rfl ?_
      exact ⟨by rw [falA_n (fun z => q9 z.2)], hI16⟩
    · refine sx_RP.cu (as := [.int (nI x10), .int 1, .int 30]) (rest2 := []) (st3 := [.int 1]) rfl rfl rfl rfl rfl (cx_8p ⟨nI_le (a := 1) hx11 (by omega), nI_le (b := 30) hx12 (by decide)⟩) rfl ?_
      refine sx_RP.step (pc2 := 24) (ls2 := [(0, .ref 0), (1, .int (nI x2)), (2, .int (nI x10))]) (st2 := []) (w3 := w) rfl rfl ?_
      refine sx_RP.step (pc2 := 25) (ls2 := [(0, .ref 0), (1, .int (nI x2)), (2, .int (nI x10))]) (st2 := [.ref 0]) (w3 := w) rfl rfl ?_
      refine sx_RP.gf (v := .ref 1) rfl rfl hI.1.o0 rfl rfl (show _ = 28 from rfl) ?_
      refine sx_RP.step (pc2 := 29) (ls2 := [(0, .ref 0), (1, .int (nI x2)), (2, .int (nI x10))]) (st2 := [.int (nI x2), .ref 1]) (w3 := w) rfl rfl ?_
      refine sx_RP.step (pc2 := 30) (ls2 := [(0, .ref 0), (1, .int (nI x2)), (2, .int (nI x10))]) (st2 := [.int (nI x10), .int (nI x2), .ref 1]) (w3 := w) rfl rfl ?_
      refine sx_RP.callp (as2 := [.ref 1, .int (nI x2), .int (nI x10)]) (rest2 := []) rfl rfl (sx_inv_v2 (mi := 76) (k := 253) (st := [.int (nI x10), .int (nI x2), .ref 1]) (w := w) rfl rfl (hI.1.oC (Or.inl rfl)) rfl rfl rfl) rfl rfl rfl (X77 hI l hR (show x2 < 48 by omega) (show x10 ≤ 30 by omega)) (show _ = 33 from rfl) ?_
      rintro r4 w19 ⟨⟨u17, rfl, hu18⟩, ew⟩
      show sx_RP _ _ _ _ _ [.long u17] _ _
      rw [ew]
      refine sx_RP.step (pc2 := 34) (ls2 := [(0, .ref 0), (1, .int (nI x2)), (2, .int (nI x10))]) (st2 := [.ref 0, .long u17]) (w3 := w) rfl rfl ?_
      refine sx_RP.gf (v := .ref 1) rfl rfl hI.1.o0 rfl rfl (show _ = 37 from rfl) ?_
      refine sx_RP.gw hI (Or.inl rfl) rfl rfl (show _ = 40 from rfl) ?_
      refine sx_RP.step (pc2 := 41) (ls2 := [(0, .ref 0), (1, .int (nI x2)), (2, .int (nI x10))]) (st2 := [.long (u17 &&& (fj w 1 1))]) (w3 := w) rfl rfl ?_
      refine sx_RP.cu (as := [.long (u17 &&& (fj w 1 1))]) (rest2 := []) (st3 := [.int (ctP (bitL (u17 &&& (fj w 1 1))) 64)]) rfl rfl rfl rfl rfl (x78 hI (u17 &&& (fj w 1 1))) rfl ?_
      refine sx_RP.ret (r := (some (.int (ctP (bitL (u17 &&& (fj w 1 1))) 64)))) rfl rfl ?_
      exact ⟨by rw [falA_y (by omega) (by omega) (by omega), fl_C hR hu18], hI⟩
set_option maxRecDepth 20000 in
set_option maxHeartbeats 4000000 in
theorem x198L {xs : Option (List Int32)} {d : Nat} {w : List sx_C} (hI : WI w) {c p : Nat} (hc : c < 48) (hp : p ≤ 30) : ∀ (q j : Nat), j + q = 48 → sx_RP xs (d + 2) 198 5 [(0, .ref 111), (1, .int (nI c)), (2, .int (nI p)), (3, .int (ctP (flB (ia w 112) c p) j)), (4, .int (nI j))] [] w (fun r w2 => r = some (.int (fanF (ia w 112) c p)) ∧ w2 = w)
  | 0, j, hj => by
    obtain rfl : j = 48 := by omega
    refine sx_RP.step (pc2 := 7) (ls2 := [(0, .ref 111), (1, .int (nI c)), (2, .int (nI p)), (3, .int (ctP (flB (ia w 112) c p) 48)), (4, .int 48)]) (st2 := [.int 48]) (w3 := w) rfl rfl ?_
    refine sx_RP.step (pc2 := 9) (ls2 := [(0, .ref 111), (1, .int (nI c)), (2, .int (nI p)), (3, .int (ctP (flB (ia w 112) c p) 48)), (4, .int 48)]) (st2 := [.int 48, .int 48]) (w3 := w) rfl rfl ?_
    refine sx_RP.step (pc2 := 51) (ls2 := [(0, .ref 111), (1, .int (nI c)), (2, .int (nI p)), (3, .int (ctP (flB (ia w 112) c p) 48)), (4, .int 48)]) (st2 := []) (w3 := w) rfl rfl ?_
    refine sx_RP.step (pc2 := 52) (ls2 := [(0, .ref 111), (1, .int (nI c)), (2, .int (nI p)), (3, .int (ctP (flB (ia w 112) c p) 48)), (4, .int 48)]) (st2 := [.int (ctP (flB (ia w 112) c p) 48)]) (w3 := w) rfl rfl ?_
    refine sx_RP.ret (r := (some (.int (ctP (flB (ia w 112) c p) 48)))) rfl rfl ?_
    exact ⟨rfl, rfl⟩
  | q + 1, j, hj => by
    refine sx_RP.step (pc2 := 7) (ls2 := [(0, .ref 111), (1, .int (nI c)), (2, .int (nI p)), (3, .int (ctP (flB (ia w 112) c p) j)), (4, .int (nI j))]) (st2 := [.int (nI j)]) (w3 := w) rfl rfl ?_
    refine sx_RP.step (pc2 := 9) (ls2 := [(0, .ref 111), (1, .int (nI c)), (2, .int (nI p)), (3, .int (ctP (flB (ia w 112) c p) j)), (4, .int (nI j))]) (st2 := [.int 48, .int (nI j)]) (w3 := w) rfl rfl ?_
    refine sx_RP.br (p2 := 12) (l2 := [(0, .ref 111), (1, .int (nI c)), (2, .int (nI p)), (3, .int (ctP (flB (ia w 112) c p) j)), (4, .int (nI j))]) (s2 := []) (v2 := w) rfl rfl (fun q => absurd (of_decide_eq_true q) (fun z => absurd ((nI_leI (a := 48) (b := j) (by omega) (by omega)).mp z) (by omega))) (fun _ => ?_)
    refine sx_RP.step (pc2 := 13) (ls2 := [(0, .ref 111), (1, .int (nI c)), (2, .int (nI p)), (3, .int (ctP (flB (ia w 112) c p) j)), (4, .int (nI j))]) (st2 := [.int (ctP (flB (ia w 112) c p) j)]) (w3 := w) rfl rfl ?_
    refine sx_RP.step (pc2 := 14) (ls2 := [(0, .ref 111), (1, .int (nI c)), (2, .int (nI p)), (3, .int (ctP (flB (ia w 112) c p) j)), (4, .int (nI j))]) (st2 := [.ref 111, .int (ctP (flB (ia w 112) c p) j)]) (w3 := w) rfl rfl ?_
    refine sx_RP.gf (v := .ref 112) rfl rfl hI.1.o111 rfl rfl (show _ = 17 from rfl) ?_
    refine sx_RP.step (pc2 := 19) (ls2 := [(0, .ref 111), (1, .int (nI c)), (2, .int (nI p)), (3, .int (ctP (flB (ia w 112) c p) j)), (4, .int (nI j))]) (st2 := [.int 55, .ref 112, .int (ctP (flB (ia w 112) c p) j)]) (w3 := w) rfl rfl ?_
    refine sx_RP.step (pc2 := 21) (ls2 := [(0, .ref 111), (1, .int (nI c)), (2, .int (nI p)), (3, .int (ctP (flB (ia w 112) c p) j)), (4, .int (nI j))]) (st2 := [.int (nI j), .int 55, .ref 112, .int (ctP (flB (ia w 112) c p) j)]) (w3 := w) rfl rfl ?_
    refine sx_RP.step (pc2 := 22) (ls2 := [(0, .ref 111), (1, .int (nI c)), (2, .int (nI p)), (3, .int (ctP (flB (ia w 112) c p) j)), (4, .int (nI j))]) (st2 := [.int (55 + (nI j)), .ref 112, .int (ctP (flB (ia w 112) c p) j)]) (w3 := w) rfl rfl ?_
    rw [show (55 + (nI j) : Int32) = nI (55 + j) from nI_add 55 j]
    refine sx_RP.ild (c := (55 + j)) rfl hI.1.a112.1 hI.1.a112.2 (sx_in_nI (show (55 + j) < 172 by omega) (by decide)) (show (nI (55 + j)).toNatClampNeg = (55 + j) from nI_clamp (by omega)) (show _ = 23 from rfl) ?_
    refine sx_RP.step (pc2 := 24) (ls2 := [(0, .ref 111), (1, .int (nI c)), (2, .int (nI p)), (3, .int (ctP (flB (ia w 112) c p) j)), (4, .int (nI j))]) (st2 := [.int 1, .int ((ia w 112).getD (55 + j) 0), .int (ctP (flB (ia w 112) c p) j)]) (w3 := w) rfl rfl ?_
    refine sx_RP.br (p1 := 42) (l1 := [(0, .ref 111), (1, .int (nI c)), (2, .int (nI p)), (3, .int (ctP (flB (ia w 112) c p) j)), (4, .int (nI j))]) (s1 := [.int (ctP (flB (ia w 112) c p) j)]) (v1 := w) (p2 := 27) (l2 := [(0, .ref 111), (1, .int (nI c)), (2, .int (nI p)), (3, .int (ctP (flB (ia w 112) c p) j)), (4, .int (nI j))]) (s2 := [.int (ctP (flB (ia w 112) c p) j)]) (v2 := w) rfl rfl (fun q1 => ?_) (fun q1 => ?_)
    · replace q1 := of_decide_eq_true q1
      refine sx_RP.step (pc2 := 43) (ls2 := [(0, .ref 111), (1, .int (nI c)), (2, .int (nI p)), (3, .int (ctP (flB (ia w 112) c p) j)), (4, .int (nI j))]) (st2 := [.int 0, .int (ctP (flB (ia w 112) c p) j)]) (w3 := w) rfl rfl ?_
      refine sx_RP.step (pc2 := 44) (ls2 := [(0, .ref 111), (1, .int (nI c)), (2, .int (nI p)), (3, .int (ctP (flB (ia w 112) c p) j)), (4, .int (nI j))]) (st2 := [.int ((ctP (flB (ia w 112) c p) j) + 0)]) (w3 := w) rfl rfl ?_
      refine sx_RP.step (pc2 := 45) (ls2 := [(3, .int ((ctP (flB (ia w 112) c p) j) + 0)), (0, .ref 111), (1, .int (nI c)), (2, .int (nI p)), (4, .int (nI j))]) (st2 := []) (w3 := w) rfl rfl ?_
      refine sx_RP.step (pc2 := 48) (ls2 := [(4, .int ((nI j) + 1)), (3, .int ((ctP (flB (ia w 112) c p) j) + 0)), (0, .ref 111), (1, .int (nI c)), (2, .int (nI p))]) (st2 := []) (w3 := w) rfl rfl ?_
      rw [nI_1 j]
      refine sx_RP.step (pc2 := 5) (ls2 := [(4, .int (nI (j + 1))), (3, .int ((ctP (flB (ia w 112) c p) j) + 0)), (0, .ref 111), (1, .int (nI c)), (2, .int (nI p))]) (st2 := []) (w3 := w) rfl rfl ?_
      rw [fl_1 (l := ia w 112) (c := c) (p := p) q1]
      exact sx_RP.ls (sx_lr.cons rfl (sx_lr.cons rfl (sx_lr.cons rfl (sx_lr.cons rfl (sx_lr.cons rfl sx_lr.nil))))) (x198L hI hc hp q (j + 1) (by omega))
    · replace q1 := Decidable.not_not.mp (of_decide_eq_false q1)
      refine sx_RP.step (pc2 := 28) (ls2 := [(0, .ref 111), (1, .int (nI c)), (2, .int (nI p)), (3, .int (ctP (flB (ia w 112) c p) j)), (4, .int (nI j))]) (st2 := [.ref 111, .int (ctP (flB (ia w 112) c p) j)]) (w3 := w) rfl rfl ?_
      refine sx_RP.step (pc2 := 29) (ls2 := [(0, .ref 111), (1, .int (nI c)), (2, .int (nI p)), (3, .int (ctP (flB (ia w 112) c p) j)), (4, .int (nI j))]) (st2 := [.int (nI c), .ref 111, .int (ctP (flB (ia w 112) c p) j)]) (w3 := w) rfl rfl ?_
      refine sx_RP.step (pc2 := 30) (ls2 := [(0, .ref 111), (1, .int (nI c)), (2, .int (nI p)), (3, .int (ctP (flB (ia w 112) c p) j)), (4, .int (nI j))]) (st2 := [.int (nI p), .int (nI c), .ref 111, .int (ctP (flB (ia w 112) c p) j)]) (w3 := w) rfl rfl ?_
      refine sx_RP.step (pc2 := 32) (ls2 := [(0, .ref 111), (1, .int (nI c)), (2, .int (nI p)), (3, .int (ctP (flB (ia w 112) c p) j)), (4, .int (nI j))]) (st2 := [.int (nI j), .int (nI p), .int (nI c), .ref 111, .int (ctP (flB (ia w 112) c p) j)]) (w3 := w) rfl rfl ?_
      rcases Bool.eq_false_or_eq_true (rcB (ia w 112) c p j) with hB | hB
      · refine sx_RP.cu (as := [.ref 111, .int (nI c), .int (nI p), .int (nI j)]) (rest2 := [.int (ctP (flB (ia w 112) c p) j)]) (st3 := [.int 1, .int (ctP (flB (ia w 112) c p) j)]) rfl rfl (sx_inv_v2 (mi := 198) (k := 192) (st := [.int (nI j), .int (nI p), .int (nI c), .ref 111, .int (ctP (flB (ia w 112) c p) j)]) (w := w) rfl rfl hI.1.o111 rfl rfl rfl) rfl rfl ((by have z := x199 (xs := xs) (d := d) hI hc hp (show j < 48 by omega); rw [hB] at z; exact z)) rfl ?_
        refine sx_RP.step (pc2 := 38) (ls2 := [(0, .ref 111), (1, .int (nI c)), (2, .int (nI p)), (3, .int (ctP (flB (ia w 112) c p) j)), (4, .int (nI j))]) (st2 := [.int (ctP (flB (ia w 112) c p) j)]) (w3 := w) rfl rfl ?_
        refine sx_RP.step (pc2 := 39) (ls2 := [(0, .ref 111), (1, .int (nI c)), (2, .int (nI p)), (3, .int (ctP (flB (ia w 112) c p) j)), (4, .int (nI j))]) (st2 := [.int 1, .int (ctP (flB (ia w 112) c p) j)]) (w3 := w) rfl rfl ?_
        refine sx_RP.step (pc2 := 43) (ls2 := [(0, .ref 111), (1, .int (nI c)), (2, .int (nI p)), (3, .int (ctP (flB (ia w 112) c p) j)), (4, .int (nI j))]) (st2 := [.int 1, .int (ctP (flB (ia w 112) c p) j)]) (w3 := w) rfl rfl ?_
        refine sx_RP.step (pc2 := 44) (ls2 := [(0, .ref 111), (1, .int (nI c)), (2, .int (nI p)), (3, .int (ctP (flB (ia w 112) c p) j)), (4, .int (nI j))]) (st2 := [.int ((ctP (flB (ia w 112) c p) j) + 1)]) (w3 := w) rfl rfl ?_
        refine sx_RP.step (pc2 := 45) (ls2 := [(3, .int ((ctP (flB (ia w 112) c p) j) + 1)), (0, .ref 111), (1, .int (nI c)), (2, .int (nI p)), (4, .int (nI j))]) (st2 := []) (w3 := w) rfl rfl ?_
        refine sx_RP.step (pc2 := 48) (ls2 := [(4, .int ((nI j) + 1)), (3, .int ((ctP (flB (ia w 112) c p) j) + 1)), (0, .ref 111), (1, .int (nI c)), (2, .int (nI p))]) (st2 := []) (w3 := w) rfl rfl ?_
        rw [nI_1 j]
        refine sx_RP.step (pc2 := 5) (ls2 := [(4, .int (nI (j + 1))), (3, .int ((ctP (flB (ia w 112) c p) j) + 1)), (0, .ref 111), (1, .int (nI c)), (2, .int (nI p))]) (st2 := []) (w3 := w) rfl rfl ?_
        rw [fl_y q1 hB]
        exact sx_RP.ls (sx_lr.cons rfl (sx_lr.cons rfl (sx_lr.cons rfl (sx_lr.cons rfl (sx_lr.cons rfl sx_lr.nil))))) (x198L hI hc hp q (j + 1) (by omega))
      · refine sx_RP.cu (as := [.ref 111, .int (nI c), .int (nI p), .int (nI j)]) (rest2 := [.int (ctP (flB (ia w 112) c p) j)]) (st3 := [.int 0, .int (ctP (flB (ia w 112) c p) j)]) rfl rfl (sx_inv_v2 (mi := 198) (k := 192) (st := [.int (nI j), .int (nI p), .int (nI c), .ref 111, .int (ctP (flB (ia w 112) c p) j)]) (w := w) rfl rfl hI.1.o111 rfl rfl rfl) rfl rfl ((by have z := x199 (xs := xs) (d := d) hI hc hp (show j < 48 by omega); rw [hB] at z; exact z)) rfl ?_
        refine sx_RP.step (pc2 := 42) (ls2 := [(0, .ref 111), (1, .int (nI c)), (2, .int (nI p)), (3, .int (ctP (flB (ia w 112) c p) j)), (4, .int (nI j))]) (st2 := [.int (ctP (flB (ia w 112) c p) j)]) (w3 := w) rfl rfl ?_
        refine sx_RP.step (pc2 := 43) (ls2 := [(0, .ref 111), (1, .int (nI c)), (2, .int (nI p)), (3, .int (ctP (flB (ia w 112) c p) j)), (4, .int (nI j))]) (st2 := [.int 0, .int (ctP (flB (ia w 112) c p) j)]) (w3 := w) rfl rfl ?_
        refine sx_RP.step (pc2 := 44) (ls2 := [(0, .ref 111), (1, .int (nI c)), (2, .int (nI p)), (3, .int (ctP (flB (ia w 112) c p) j)), (4, .int (nI j))]) (st2 := [.int ((ctP (flB (ia w 112) c p) j) + 0)]) (w3 := w) rfl rfl ?_
        refine sx_RP.step (pc2 := 45) (ls2 := [(3, .int ((ctP (flB (ia w 112) c p) j) + 0)), (0, .ref 111), (1, .int (nI c)), (2, .int (nI p)), (4, .int (nI j))]) (st2 := []) (w3 := w) rfl rfl ?_
        refine sx_RP.step (pc2 := 48) (ls2 := [(4, .int ((nI j) + 1)), (3, .int ((ctP (flB (ia w 112) c p) j) + 0)), (0, .ref 111), (1, .int (nI c)), (2, .int (nI p))]) (st2 := []) (w3 := w) rfl rfl ?_
        rw [nI_1 j]
        refine sx_RP.step (pc2 := 5) (ls2 := [(4, .int (nI (j + 1))), (3, .int ((ctP (flB (ia w 112) c p) j) + 0)), (0, .ref 111), (1, .int (nI c)), (2, .int (nI p))]) (st2 := []) (w3 := w) rfl rfl ?_
        rw [fl_2 hB]
        exact sx_RP.ls (sx_lr.cons rfl (sx_lr.cons rfl (sx_lr.cons rfl (sx_lr.cons rfl (sx_lr.cons rfl sx_lr.nil))))) (x198L hI hc hp q (j + 1) (by omega))
set_option maxRecDepth 20000 in
set_option maxHeartbeats 4000000 in
theorem x198 {xs : Option (List Int32)} {d : Nat} {w : List sx_C} (hI : WI w) {c p : Nat} (hc : c < 48) (hp : p ≤ 30) : sx_RU xs (d + 2) 198 0 (lv_args 0 [.ref 111, .int (nI c), .int (nI p)]) [] w (some (.int (fanF (ia w 112) c p))) w := by
  have h : sx_RP xs (d + 2) 198 0 (lv_args 0 [.ref 111, .int (nI c), .int (nI p)]) [] w (fun r9 w2 => r9 = some (.int (fanF (ia w 112) c p)) ∧ w2 = w) := by
    refine sx_RP.step (pc2 := 1) (ls2 := [(0, .ref 111), (1, .int (nI c)), (2, .int (nI p))]) (st2 := [.int 0]) (w3 := w) rfl rfl ?_
    refine sx_RP.step (pc2 := 2) (ls2 := [(3, .int 0), (0, .ref 111), (1, .int (nI c)), (2, .int (nI p))]) (st2 := []) (w3 := w) rfl rfl ?_
    refine sx_RP.step (pc2 := 3) (ls2 := [(3, .int 0), (0, .ref 111), (1, .int (nI c)), (2, .int (nI p))]) (st2 := [.int 0]) (w3 := w) rfl rfl ?_
    refine sx_RP.step (pc2 := 5) (ls2 := [(4, .int 0), (3, .int 0), (0, .ref 111), (1, .int (nI c)), (2, .int (nI p))]) (st2 := []) (w3 := w) rfl rfl ?_
    exact sx_RP.ls (sx_lr.cons rfl (sx_lr.cons rfl (sx_lr.cons rfl (sx_lr.cons rfl (sx_lr.cons rfl sx_lr.nil))))) (x198L hI hc hp 48 0 (by omega))
  obtain ⟨r9, w2, h1, rfl, rfl⟩ := h
  exact h1
set_option maxRecDepth 20000 in
set_option maxHeartbeats 4000000 in
theorem A196 {xs : Option (List Int32)} {d : Nat} {w : List sx_C} (hI : WI w) (a1 a2 : Int32) : sx_RP xs (d + 7) 196 0 (lv_args 0 [.ref 111, .int a1, .int a2]) [] w (fun r w2 => r = some (.int (falA (ia w 112) a1 a2)) ∧ WI w2) := by
  refine sx_RP.step (pc2 := 1) (ls2 := [(0, .ref 111), (1, .int a1), (2, .int a2)]) (st2 := [.int a1]) (w3 := w) rfl rfl ?_
  rcases in_cases a1 0 47 (m := 0) (n := 47) rfl rfl (by decide) (by decide) with q1 | ⟨x2, hx3, hx4, rfl⟩
  · refine sx_RP.cu (as := [.int a1]) (rest2 := []) (st3 := [.int 0]) rfl rfl rfl rfl rfl (cx_131n q1) rfl ?_
    refine sx_RP.step (pc2 := 23) (ls2 := [(0, .ref 111), (1, .int a1), (2, .int a2)]) (st2 := []) (w3 := w) rfl rfl ?_
    refine sx_RP.step (pc2 := 24) (ls2 := [(0, .ref 111), (1, .int a1), (2, .int a2)]) (st2 := [.ref 111]) (w3 := w) rfl rfl ?_
    refine sx_RP.step (pc2 := 25) (ls2 := [(0, .ref 111), (1, .int a1), (2, .int a2)]) (st2 := [.int 0, .ref 111]) (w3 := w) rfl rfl ?_
    refine sx_RP.callp (as2 := [.ref 111, .int 0]) (rest2 := []) rfl rfl (sx_inv_v2 (mi := 196) (k := 70) (st := [.int 0, .ref 111]) (w := w) rfl rfl hI.1.o111 rfl rfl rfl) rfl rfl rfl (S133_0 hI) (show _ = 28 from rfl) ?_
    rintro r4 w7 ⟨rfl, hI8, hs6⟩
    show sx_RP _ _ _ _ _ [.int (-1000000001)] _ _
    refine sx_RP.ret (r := (some (.int (-1000000001)))) rfl rfl ?_
    exact ⟨by rw [falA_n (fun z => q1 z.1)], hI8⟩
  · refine sx_RP.cu (as := [.int (nI x2)]) (rest2 := []) (st3 := [.int 1]) rfl rfl rfl rfl rfl (cx_131p ⟨nI_le (a := 0) hx3 (by omega), nI_le (b := 47) hx4 (by decide)⟩) rfl ?_
    refine sx_RP.step (pc2 := 7) (ls2 := [(0, .ref 111), (1, .int (nI x2)), (2, .int a2)]) (st2 := []) (w3 := w) rfl rfl ?_
    refine sx_RP.step (pc2 := 8) (ls2 := [(0, .ref 111), (1, .int (nI x2)), (2, .int a2)]) (st2 := [.int a2]) (w3 := w) rfl rfl ?_
    rcases in_cases a2 1 30 (m := 1) (n := 30) rfl rfl (by decide) (by decide) with q9 | ⟨x10, hx11, hx12, rfl⟩
    · refine sx_RP.cu (as := [.int a2]) (rest2 := []) (st3 := [.int 0]) rfl rfl rfl rfl rfl (cx_197n q9) rfl ?_
      refine sx_RP.step (pc2 := 23) (ls2 := [(0, .ref 111), (1, .int (nI x2)), (2, .int a2)]) (st2 := []) (w3 := w) rfl rfl ?_
      refine sx_RP.step (pc2 := 24) (ls2 := [(0, .ref 111), (1, .int (nI x2)), (2, .int a2)]) (st2 := [.ref 111]) (w3 := w) rfl rfl ?_
      refine sx_RP.step (pc2 := 25) (ls2 := [(0, .ref 111), (1, .int (nI x2)), (2, .int a2)]) (st2 := [.int 0, .ref 111]) (w3 := w) rfl rfl ?_
      refine sx_RP.callp (as2 := [.ref 111, .int 0]) (rest2 := []) rfl rfl (sx_inv_v2 (mi := 196) (k := 70) (st := [.int 0, .ref 111]) (w := w) rfl rfl hI.1.o111 rfl rfl rfl) rfl rfl rfl (S133_0 hI) (show _ = 28 from rfl) ?_
      rintro r4 w15 ⟨rfl, hI16, hs14⟩
      show sx_RP _ _ _ _ _ [.int (-1000000001)] _ _
      refine sx_RP.ret (r := (some (.int (-1000000001)))) rfl rfl ?_
      exact ⟨by rw [falA_n (fun z => q9 z.2)], hI16⟩
    · refine sx_RP.cu (as := [.int (nI x10)]) (rest2 := []) (st3 := [.int 1]) rfl rfl rfl rfl rfl (cx_197p ⟨nI_le (a := 1) hx11 (by omega), nI_le (b := 30) hx12 (by decide)⟩) rfl ?_
      refine sx_RP.step (pc2 := 14) (ls2 := [(0, .ref 111), (1, .int (nI x2)), (2, .int (nI x10))]) (st2 := []) (w3 := w) rfl rfl ?_
      refine sx_RP.step (pc2 := 15) (ls2 := [(0, .ref 111), (1, .int (nI x2)), (2, .int (nI x10))]) (st2 := [.ref 111]) (w3 := w) rfl rfl ?_
      refine sx_RP.step (pc2 := 16) (ls2 := [(0, .ref 111), (1, .int (nI x2)), (2, .int (nI x10))]) (st2 := [.int (nI x2), .ref 111]) (w3 := w) rfl rfl ?_
      refine sx_RP.step (pc2 := 17) (ls2 := [(0, .ref 111), (1, .int (nI x2)), (2, .int (nI x10))]) (st2 := [.int (nI x10), .int (nI x2), .ref 111]) (w3 := w) rfl rfl ?_
      refine sx_RP.cu (as := [.ref 111, .int (nI x2), .int (nI x10)]) (rest2 := []) (st3 := [.int (fanF (ia w 112) x2 x10)]) rfl rfl (sx_inv_v2 (mi := 196) (k := 198) (st := [.int (nI x10), .int (nI x2), .ref 111]) (w := w) rfl rfl hI.1.o111 rfl rfl rfl) rfl rfl (x198 hI (show x2 < 48 by omega) (show x10 ≤ 30 by omega)) rfl ?_
      refine sx_RP.step (pc2 := 28) (ls2 := [(0, .ref 111), (1, .int (nI x2)), (2, .int (nI x10))]) (st2 := [.int (fanF (ia w 112) x2 x10)]) (w3 := w) rfl rfl ?_
      refine sx_RP.ret (r := (some (.int (fanF (ia w 112) x2 x10)))) rfl rfl ?_
      exact ⟨by rw [falA_y (by omega) (by omega) (by omega)], hI⟩
theorem a76 {xs : Option (List Int32)} {d : Nat} {w : List sx_C} {s : ST} (hI : WI w) (hC : CLS w s) (a1 a2 : Int32) : sx_RP xs (d + 7) 76 0 (lv_args 0 [.ref 0, .int a1, .int a2]) [] w (fun r w2 => r = some (.int (falA s.1 a1 a2)) ∧ WI w2 ∧ CLS w2 (s) ∧ ∀ a, 111 ≤ a → w2[a]? = w[a]?) :=
  ((c76 (xs := xs) (d := d) hI hC a1 a2).and (A76 hI s.1 hC.1.1 a1 a2)).mono9 (fun r w2 z => ⟨z.2.1, z.1.2.1, z.1.2.2.1, z.1.2.2.2⟩)
theorem a196 {xs : Option (List Int32)} {d : Nat} {w : List sx_C} {s : ST} (hI : WI w) (hR : REF w s) (a1 a2 : Int32) : sx_RP xs (d + 7) 196 0 (lv_args 0 [.ref 111, .int a1, .int a2]) [] w (fun r w2 => r = some (.int (falA s.1 a1 a2)) ∧ WI w2 ∧ REF w2 (s) ∧ ∀ a, a < 111 → w2[a]? = w[a]?) := by
  refine ((r196 (xs := xs) (d := d) hI hR a1 a2).and (A196 hI a1 a2)).mono9 (fun r w2 z => ⟨?_, z.1.2.1, z.1.2.2.1, z.1.2.2.2⟩)
  rw [z.2.1, hR.1.1]
set_option maxRecDepth 20000 in
set_option maxHeartbeats 4000000 in
theorem A127 {xs : Option (List Int32)} {d : Nat} {w : List sx_C} (hI : WI w) (l : List Int32) (hR : rel w 1 l) (a1 : Int32) : sx_RP xs (d + 7) 127 0 (lv_args 0 [.ref 0, .int a1]) [] w (fun r w2 => r = some (.int (cntA l (tapC w) a1)) ∧ WI w2) := by
  refine sx_RP.step (pc2 := 1) (ls2 := [(0, .ref 0), (1, .int a1)]) (st2 := [.int a1]) (w3 := w) rfl rfl ?_
  rcases sw_cases (n := 6) (a1) with q1 | ⟨x2, hx3, ex4⟩
  · refine sx_RP.swo (t := 103) rfl q1 rfl ?_
    refine sx_RP.step (pc2 := 104) (ls2 := [(0, .ref 0), (1, .int a1)]) (st2 := [.ref 0]) (w3 := w) rfl rfl ?_
    refine sx_RP.step (pc2 := 106) (ls2 := [(0, .ref 0), (1, .int a1)]) (st2 := [.int (-1000000001), .ref 0]) (w3 := w) rfl rfl ?_
    refine sx_RP.callp (as2 := [.ref 0, .int (-1000000001)]) (rest2 := []) rfl rfl (sx_inv_v2 (mi := 127) (k := 78) (st := [.int (-1000000001), .ref 0]) (w := w) rfl rfl hI.1.o0 rfl rfl rfl) rfl rfl rfl (S9_0 hI) (show _ = 109 from rfl) ?_
    rintro r4 w6 ⟨rfl, hI7, hs5⟩
    show sx_RP _ _ _ _ _ [.int (-1000000001)] _ _
    refine sx_RP.ret (r := (some (.int (-1000000001)))) rfl rfl ?_
    exact ⟨by rw [cntA_n q1], hI7⟩
  · rw [ex4]
    rcases (show x2 = 0 ∨ x2 = 1 ∨ x2 = 2 ∨ x2 = 3 ∨ x2 = 4 ∨ x2 = 5 ∨ x2 = 6 by omega) with rfl | rfl | rfl | rfl | rfl | rfl | rfl
    · refine sx_RP.step (pc2 := 44) (ls2 := [(0, .ref 0), (1, .int (nI 0))]) (st2 := []) (w3 := w) rfl rfl ?_
      refine sx_RP.step (pc2 := 45) (ls2 := [(0, .ref 0), (1, .int (nI 0))]) (st2 := [.ref 0]) (w3 := w) rfl rfl ?_
      refine sx_RP.gf (v := .ref 1) rfl rfl hI.1.o0 rfl rfl (show _ = 48 from rfl) ?_
      refine sx_RP.gc (k := 3) hI (Or.inl rfl) rfl rfl (by omega) (show _ = 51 from rfl) ?_
      obtain ⟨x8, hx9, ex10⟩ : inR (fi w 1 3) 10 := (hI.c (Or.inl rfl)).1
      rw [ex10]
      refine sx_RP.ret (r := (some (.int (nI x8)))) rfl rfl ?_
      exact ⟨by rw [cntA_0, ← hR.many, ex10], hI⟩
    · refine sx_RP.step (pc2 := 52) (ls2 := [(0, .ref 0), (1, .int (nI 1))]) (st2 := []) (w3 := w) rfl rfl ?_
      refine sx_RP.step (pc2 := 53) (ls2 := [(0, .ref 0), (1, .int (nI 1))]) (st2 := [.ref 0]) (w3 := w) rfl rfl ?_
      refine sx_RP.gf (v := .ref 1) rfl rfl hI.1.o0 rfl rfl (show _ = 56 from rfl) ?_
      refine sx_RP.gc (k := 5) hI (Or.inl rfl) rfl rfl (by omega) (show _ = 59 from rfl) ?_
      obtain ⟨x11, hx12, ex13⟩ : inR (fi w 1 5) 9 := (hI.c (Or.inl rfl)).2
      rw [ex13]
      refine sx_RP.ret (r := (some (.int (nI x11)))) rfl rfl ?_
      exact ⟨by rw [cntA_1, ← hR.dished, ex13], hI⟩
    · refine sx_RP.step (pc2 := 60) (ls2 := [(0, .ref 0), (1, .int (nI 2))]) (st2 := []) (w3 := w) rfl rfl ?_
      refine sx_RP.step (pc2 := 61) (ls2 := [(0, .ref 0), (1, .int (nI 2))]) (st2 := [.ref 0]) (w3 := w) rfl rfl ?_
      refine sx_RP.gf (v := .ref 1) rfl rfl hI.1.o0 rfl rfl (show _ = 64 from rfl) ?_
      refine sx_RP.gw hI (Or.inl rfl) rfl rfl (show _ = 67 from rfl) ?_
      refine sx_RP.cu (as := [.long (fj w 1 1)]) (rest2 := []) (st3 := [.int (ctP (bitL (fj w 1 1)) 64)]) rfl rfl rfl rfl rfl (x78 hI (fj w 1 1)) rfl ?_
      refine sx_RP.ret (r := (some (.int (ctP (bitL (fj w 1 1)) 64)))) rfl rfl ?_
      exact ⟨by rw [cntA_2, wl_C hR], hI⟩
    · refine sx_RP.step (pc2 := 71) (ls2 := [(0, .ref 0), (1, .int (nI 3))]) (st2 := []) (w3 := w) rfl rfl ?_
      refine sx_RP.step (pc2 := 72) (ls2 := [(0, .ref 0), (1, .int (nI 3))]) (st2 := [.ref 0]) (w3 := w) rfl rfl ?_
      refine sx_RP.gf (v := .ref 96) rfl rfl hI.1.o0 rfl rfl (show _ = 75 from rfl) ?_
      refine sx_RP.gt (k := 1) hI rfl rfl (by decide) (show _ = 78 from rfl) ?_
      obtain ⟨x14, hx15, ex16⟩ : inR (fi w 96 1) 120 := hI.t.1
      rw [ex16]
      refine sx_RP.ret (r := (some (.int (nI x14)))) rfl rfl ?_
      exact ⟨by rw [cntA_3, show (tapC w).length = x14 from tapC_len ex16 (by omega)], hI⟩
    · refine sx_RP.step (pc2 := 79) (ls2 := [(0, .ref 0), (1, .int (nI 4))]) (st2 := []) (w3 := w) rfl rfl ?_
      refine sx_RP.step (pc2 := 80) (ls2 := [(0, .ref 0), (1, .int (nI 4))]) (st2 := [.ref 0]) (w3 := w) rfl rfl ?_
      refine sx_RP.gf (v := .ref 1) rfl rfl hI.1.o0 rfl rfl (show _ = 83 from rfl) ?_
      refine sx_RP.gc (k := 8) hI (Or.inl rfl) rfl rfl (by omega) (show _ = 86 from rfl) ?_
      refine sx_RP.ret (r := (some (.int (fi w 1 8)))) rfl rfl ?_
      exact ⟨by rw [cntA_4, ← hR.2.1.2.2.2.2.1], hI⟩
    · refine sx_RP.step (pc2 := 87) (ls2 := [(0, .ref 0), (1, .int (nI 5))]) (st2 := []) (w3 := w) rfl rfl ?_
      refine sx_RP.step (pc2 := 88) (ls2 := [(0, .ref 0), (1, .int (nI 5))]) (st2 := [.ref 0]) (w3 := w) rfl rfl ?_
      refine sx_RP.gf (v := .ref 1) rfl rfl hI.1.o0 rfl rfl (show _ = 91 from rfl) ?_
      refine sx_RP.gc (k := 9) hI (Or.inl rfl) rfl rfl (by omega) (show _ = 94 from rfl) ?_
      refine sx_RP.ret (r := (some (.int (fi w 1 9)))) rfl rfl ?_
      exact ⟨by rw [cntA_5, ← hR.2.1.2.2.2.2.2.1], hI⟩
    · refine sx_RP.step (pc2 := 95) (ls2 := [(0, .ref 0), (1, .int (nI 6))]) (st2 := []) (w3 := w) rfl rfl ?_
      refine sx_RP.step (pc2 := 96) (ls2 := [(0, .ref 0), (1, .int (nI 6))]) (st2 := [.ref 0]) (w3 := w) rfl rfl ?_
      refine sx_RP.gf (v := .ref 1) rfl rfl hI.1.o0 rfl rfl (show _ = 99 from rfl) ?_
      refine sx_RP.gc (k := 10) hI (Or.inl rfl) rfl rfl (by omega) (show _ = 102 from rfl) ?_
      refine sx_RP.ret (r := (some (.int (fi w 1 10)))) rfl rfl ?_
      exact ⟨by rw [cntA_6, ← hR.2.1.2.2.2.2.2.2], hI⟩
set_option maxRecDepth 20000 in
set_option maxHeartbeats 4000000 in
theorem x244L {xs : Option (List Int32)} {d : Nat} {w : List sx_C} (hI : WI w) (hW : WB (ia w 112)) : ∀ (q j : Nat), j + q = 48 → sx_RP xs d 244 4 [(0, .ref 111), (1, .int (ctP (wlB (ia w 112)) j)), (2, .int (nI j))] [] w (fun r w2 => r = some (.int (ctP (wlB (ia w 112)) 48)) ∧ w2 = w)
  | 0, j, hj => by
    obtain rfl : j = 48 := by omega
    refine sx_RP.step (pc2 := 5) (ls2 := [(0, .ref 111), (1, .int (ctP (wlB (ia w 112)) 48)), (2, .int 48)]) (st2 := [.int 48]) (w3 := w) rfl rfl ?_
    refine sx_RP.step (pc2 := 7) (ls2 := [(0, .ref 111), (1, .int (ctP (wlB (ia w 112)) 48)), (2, .int 48)]) (st2 := [.int 48, .int 48]) (w3 := w) rfl rfl ?_
    refine sx_RP.step (pc2 := 28) (ls2 := [(0, .ref 111), (1, .int (ctP (wlB (ia w 112)) 48)), (2, .int 48)]) (st2 := []) (w3 := w) rfl rfl ?_
    refine sx_RP.step (pc2 := 29) (ls2 := [(0, .ref 111), (1, .int (ctP (wlB (ia w 112)) 48)), (2, .int 48)]) (st2 := [.int (ctP (wlB (ia w 112)) 48)]) (w3 := w) rfl rfl ?_
    refine sx_RP.ret (r := (some (.int (ctP (wlB (ia w 112)) 48)))) rfl rfl ?_
    exact ⟨rfl, rfl⟩
  | q + 1, j, hj => by
    refine sx_RP.step (pc2 := 5) (ls2 := [(0, .ref 111), (1, .int (ctP (wlB (ia w 112)) j)), (2, .int (nI j))]) (st2 := [.int (nI j)]) (w3 := w) rfl rfl ?_
    refine sx_RP.step (pc2 := 7) (ls2 := [(0, .ref 111), (1, .int (ctP (wlB (ia w 112)) j)), (2, .int (nI j))]) (st2 := [.int 48, .int (nI j)]) (w3 := w) rfl rfl ?_
    refine sx_RP.br (p2 := 10) (l2 := [(0, .ref 111), (1, .int (ctP (wlB (ia w 112)) j)), (2, .int (nI j))]) (s2 := []) (v2 := w) rfl rfl (fun q => absurd (of_decide_eq_true q) (fun z => absurd ((nI_leI (a := 48) (b := j) (by omega) (by omega)).mp z) (by omega))) (fun _ => ?_)
    refine sx_RP.step (pc2 := 11) (ls2 := [(0, .ref 111), (1, .int (ctP (wlB (ia w 112)) j)), (2, .int (nI j))]) (st2 := [.int (ctP (wlB (ia w 112)) j)]) (w3 := w) rfl rfl ?_
    refine sx_RP.step (pc2 := 12) (ls2 := [(0, .ref 111), (1, .int (ctP (wlB (ia w 112)) j)), (2, .int (nI j))]) (st2 := [.ref 111, .int (ctP (wlB (ia w 112)) j)]) (w3 := w) rfl rfl ?_
    refine sx_RP.gf (v := .ref 112) rfl rfl hI.1.o111 rfl rfl (show _ = 15 from rfl) ?_
    refine sx_RP.step (pc2 := 17) (ls2 := [(0, .ref 111), (1, .int (ctP (wlB (ia w 112)) j)), (2, .int (nI j))]) (st2 := [.int 55, .ref 112, .int (ctP (wlB (ia w 112)) j)]) (w3 := w) rfl rfl ?_
    refine sx_RP.step (pc2 := 18) (ls2 := [(0, .ref 111), (1, .int (ctP (wlB (ia w 112)) j)), (2, .int (nI j))]) (st2 := [.int (nI j), .int 55, .ref 112, .int (ctP (wlB (ia w 112)) j)]) (w3 := w) rfl rfl ?_
    refine sx_RP.step (pc2 := 19) (ls2 := [(0, .ref 111), (1, .int (ctP (wlB (ia w 112)) j)), (2, .int (nI j))]) (st2 := [.int (55 + (nI j)), .ref 112, .int (ctP (wlB (ia w 112)) j)]) (w3 := w) rfl rfl ?_
    rw [show (55 + (nI j) : Int32) = nI (55 + j) from nI_add 55 j]
    refine sx_RP.ild (c := (55 + j)) rfl hI.1.a112.1 hI.1.a112.2 (sx_in_nI (show (55 + j) < 172 by omega) (by decide)) (show (nI (55 + j)).toNatClampNeg = (55 + j) from nI_clamp (by omega)) (show _ = 20 from rfl) ?_
    refine sx_RP.step (pc2 := 21) (ls2 := [(0, .ref 111), (1, .int (ctP (wlB (ia w 112)) j)), (2, .int (nI j))]) (st2 := [.int ((ctP (wlB (ia w 112)) j) + ((ia w 112).getD (55 + j) 0))]) (w3 := w) rfl rfl ?_
    refine sx_RP.step (pc2 := 22) (ls2 := [(1, .int ((ctP (wlB (ia w 112)) j) + ((ia w 112).getD (55 + j) 0))), (0, .ref 111), (2, .int (nI j))]) (st2 := []) (w3 := w) rfl rfl ?_
    refine sx_RP.step (pc2 := 25) (ls2 := [(2, .int ((nI j) + 1)), (1, .int ((ctP (wlB (ia w 112)) j) + ((ia w 112).getD (55 + j) 0))), (0, .ref 111)]) (st2 := []) (w3 := w) rfl rfl ?_
    rw [nI_1 j]
    refine sx_RP.step (pc2 := 4) (ls2 := [(2, .int (nI (j + 1))), (1, .int ((ctP (wlB (ia w 112)) j) + ((ia w 112).getD (55 + j) 0))), (0, .ref 111)]) (st2 := []) (w3 := w) rfl rfl ?_
    rw [wl_s hW (by omega)]
    exact sx_RP.ls (sx_lr.cons rfl (sx_lr.cons rfl (sx_lr.cons rfl sx_lr.nil))) (x244L hI hW q (j + 1) (by omega))
set_option maxRecDepth 20000 in
set_option maxHeartbeats 4000000 in
theorem x244 {xs : Option (List Int32)} {d : Nat} {w : List sx_C} (hI : WI w) (hW : WB (ia w 112)) : sx_RU xs d 244 0 (lv_args 0 [.ref 111]) [] w (some (.int (ctP (wlB (ia w 112)) 48))) w := by
  have h : sx_RP xs d 244 0 (lv_args 0 [.ref 111]) [] w (fun r9 w2 => r9 = some (.int (ctP (wlB (ia w 112)) 48)) ∧ w2 = w) := by
    refine sx_RP.step (pc2 := 1) (ls2 := [(0, .ref 111)]) (st2 := [.int 0]) (w3 := w) rfl rfl ?_
    refine sx_RP.step (pc2 := 2) (ls2 := [(1, .int 0), (0, .ref 111)]) (st2 := []) (w3 := w) rfl rfl ?_
    refine sx_RP.step (pc2 := 3) (ls2 := [(1, .int 0), (0, .ref 111)]) (st2 := [.int 0]) (w3 := w) rfl rfl ?_
    refine sx_RP.step (pc2 := 4) (ls2 := [(2, .int 0), (1, .int 0), (0, .ref 111)]) (st2 := []) (w3 := w) rfl rfl ?_
    exact sx_RP.ls (sx_lr.cons rfl (sx_lr.cons rfl (sx_lr.cons rfl sx_lr.nil))) (x244L hI hW 48 0 (by omega))
  obtain ⟨r9, w2, h1, rfl, rfl⟩ := h
  exact h1
set_option maxRecDepth 20000 in
set_option maxHeartbeats 4000000 in
theorem A243 {xs : Option (List Int32)} {d : Nat} {w : List sx_C} (hI : WI w) (hW : WB (ia w 112)) (a1 : Int32) : sx_RP xs (d + 7) 243 0 (lv_args 0 [.ref 111, .int a1]) [] w (fun r w2 => r = some (.int (cntA (ia w 112) (tapM w) a1)) ∧ WI w2) := by
  refine sx_RP.step (pc2 := 1) (ls2 := [(0, .ref 111), (1, .int a1)]) (st2 := [.int a1]) (w3 := w) rfl rfl ?_
  rcases sw_cases (n := 6) (a1) with q1 | ⟨x2, hx3, ex4⟩
  · refine sx_RP.swo (t := 90) rfl q1 rfl ?_
    refine sx_RP.step (pc2 := 91) (ls2 := [(0, .ref 111), (1, .int a1)]) (st2 := [.ref 111]) (w3 := w) rfl rfl ?_
    refine sx_RP.step (pc2 := 92) (ls2 := [(0, .ref 111), (1, .int a1)]) (st2 := [.int 0, .ref 111]) (w3 := w) rfl rfl ?_
    refine sx_RP.callp (as2 := [.ref 111, .int 0]) (rest2 := []) rfl rfl (sx_inv_v2 (mi := 243) (k := 70) (st := [.int 0, .ref 111]) (w := w) rfl rfl hI.1.o111 rfl rfl rfl) rfl rfl rfl (S133_0 hI) (show _ = 95 from rfl) ?_
    rintro r4 w6 ⟨rfl, hI7, hs5⟩
    show sx_RP _ _ _ _ _ [.int (-1000000001)] _ _
    refine sx_RP.ret (r := (some (.int (-1000000001)))) rfl rfl ?_
    exact ⟨by rw [cntA_n q1], hI7⟩
  · rw [ex4]
    rcases (show x2 = 0 ∨ x2 = 1 ∨ x2 = 2 ∨ x2 = 3 ∨ x2 = 4 ∨ x2 = 5 ∨ x2 = 6 by omega) with rfl | rfl | rfl | rfl | rfl | rfl | rfl
    · refine sx_RP.step (pc2 := 44) (ls2 := [(0, .ref 111), (1, .int (nI 0))]) (st2 := []) (w3 := w) rfl rfl ?_
      refine sx_RP.step (pc2 := 45) (ls2 := [(0, .ref 111), (1, .int (nI 0))]) (st2 := [.ref 111]) (w3 := w) rfl rfl ?_
      refine sx_RP.gf (v := .ref 112) rfl rfl hI.1.o111 rfl rfl (show _ = 48 from rfl) ?_
      refine sx_RP.step (pc2 := 49) (ls2 := [(0, .ref 111), (1, .int (nI 0))]) (st2 := [.int 1, .ref 112]) (w3 := w) rfl rfl ?_
      refine sx_RP.ild (c := 1) rfl hI.1.a112.1 hI.1.a112.2 (sx_in_nI (show 1 < 172 by omega) (by decide)) (show (nI 1).toNatClampNeg = 1 from nI_clamp (by omega)) (show _ = 50 from rfl) ?_
      obtain ⟨x8, hx9, ex10⟩ : inR ((ia w 112).getD 1 0) 10 := (hI.s (1) (by omega)).1 rfl
      rw [ex10]
      refine sx_RP.ret (r := (some (.int (nI x8)))) rfl rfl ?_
      exact ⟨by rw [cntA_0, ex10], hI⟩
    · refine sx_RP.step (pc2 := 51) (ls2 := [(0, .ref 111), (1, .int (nI 1))]) (st2 := []) (w3 := w) rfl rfl ?_
      refine sx_RP.step (pc2 := 52) (ls2 := [(0, .ref 111), (1, .int (nI 1))]) (st2 := [.ref 111]) (w3 := w) rfl rfl ?_
      refine sx_RP.gf (v := .ref 112) rfl rfl hI.1.o111 rfl rfl (show _ = 55 from rfl) ?_
      refine sx_RP.step (pc2 := 56) (ls2 := [(0, .ref 111), (1, .int (nI 1))]) (st2 := [.int 2, .ref 112]) (w3 := w) rfl rfl ?_
      refine sx_RP.ild (c := 2) rfl hI.1.a112.1 hI.1.a112.2 (sx_in_nI (show 2 < 172 by omega) (by decide)) (show (nI 2).toNatClampNeg = 2 from nI_clamp (by omega)) (show _ = 57 from rfl) ?_
      obtain ⟨x11, hx12, ex13⟩ : inR ((ia w 112).getD 2 0) 9 := (hI.s (2) (by omega)).2.1 rfl
      rw [ex13]
      refine sx_RP.ret (r := (some (.int (nI x11)))) rfl rfl ?_
      exact ⟨by rw [cntA_1, ex13], hI⟩
    · refine sx_RP.step (pc2 := 58) (ls2 := [(0, .ref 111), (1, .int (nI 2))]) (st2 := []) (w3 := w) rfl rfl ?_
      refine sx_RP.step (pc2 := 59) (ls2 := [(0, .ref 111), (1, .int (nI 2))]) (st2 := [.ref 111]) (w3 := w) rfl rfl ?_
      refine sx_RP.cu (as := [.ref 111]) (rest2 := []) (st3 := [.int (ctP (wlB (ia w 112)) 48)]) rfl rfl (sx_inv_v2 (mi := 243) (k := 355) (st := [.ref 111]) (w := w) rfl rfl hI.1.o111 rfl rfl rfl) rfl rfl (x244 hI hW) rfl ?_
      refine sx_RP.ret (r := (some (.int (ctP (wlB (ia w 112)) 48)))) rfl rfl ?_
      exact ⟨by rw [cntA_2], hI⟩
    · refine sx_RP.step (pc2 := 63) (ls2 := [(0, .ref 111), (1, .int (nI 3))]) (st2 := []) (w3 := w) rfl rfl ?_
      refine sx_RP.step (pc2 := 64) (ls2 := [(0, .ref 111), (1, .int (nI 3))]) (st2 := [.ref 111]) (w3 := w) rfl rfl ?_
      refine sx_RP.gf (v := .int (fi w 111 11)) rfl rfl hI.1.o111 rfl rfl (show _ = 67 from rfl) ?_
      obtain ⟨x14, hx15, ex16⟩ : inR (fi w 111 11) 120 := hI.m.2.1
      rw [ex16]
      refine sx_RP.ret (r := (some (.int (nI x14)))) rfl rfl ?_
      exact ⟨by rw [cntA_3, show (tapM w).length = x14 from tapM_len9 ex16 (by omega)], hI⟩
    · refine sx_RP.step (pc2 := 68) (ls2 := [(0, .ref 111), (1, .int (nI 4))]) (st2 := []) (w3 := w) rfl rfl ?_
      refine sx_RP.step (pc2 := 69) (ls2 := [(0, .ref 111), (1, .int (nI 4))]) (st2 := [.ref 111]) (w3 := w) rfl rfl ?_
      refine sx_RP.gf (v := .ref 112) rfl rfl hI.1.o111 rfl rfl (show _ = 72 from rfl) ?_
      refine sx_RP.step (pc2 := 73) (ls2 := [(0, .ref 111), (1, .int (nI 4))]) (st2 := [.int 4, .ref 112]) (w3 := w) rfl rfl ?_
      refine sx_RP.ild (c := 4) rfl hI.1.a112.1 hI.1.a112.2 (sx_in_nI (show 4 < 172 by omega) (by decide)) (show (nI 4).toNatClampNeg = 4 from nI_clamp (by omega)) (show _ = 74 from rfl) ?_
      refine sx_RP.ret (r := (some (.int ((ia w 112).getD 4 0)))) rfl rfl ?_
      exact ⟨by rw [cntA_4], hI⟩
    · refine sx_RP.step (pc2 := 75) (ls2 := [(0, .ref 111), (1, .int (nI 5))]) (st2 := []) (w3 := w) rfl rfl ?_
      refine sx_RP.step (pc2 := 76) (ls2 := [(0, .ref 111), (1, .int (nI 5))]) (st2 := [.ref 111]) (w3 := w) rfl rfl ?_
      refine sx_RP.gf (v := .ref 112) rfl rfl hI.1.o111 rfl rfl (show _ = 79 from rfl) ?_
      refine sx_RP.step (pc2 := 80) (ls2 := [(0, .ref 111), (1, .int (nI 5))]) (st2 := [.int 5, .ref 112]) (w3 := w) rfl rfl ?_
      refine sx_RP.ild (c := 5) rfl hI.1.a112.1 hI.1.a112.2 (sx_in_nI (show 5 < 172 by omega) (by decide)) (show (nI 5).toNatClampNeg = 5 from nI_clamp (by omega)) (show _ = 81 from rfl) ?_
      refine sx_RP.ret (r := (some (.int ((ia w 112).getD 5 0)))) rfl rfl ?_
      exact ⟨by rw [cntA_5], hI⟩
    · refine sx_RP.step (pc2 := 82) (ls2 := [(0, .ref 111), (1, .int (nI 6))]) (st2 := []) (w3 := w) rfl rfl ?_
      refine sx_RP.step (pc2 := 83) (ls2 := [(0, .ref 111), (1, .int (nI 6))]) (st2 := [.ref 111]) (w3 := w) rfl rfl ?_
      refine sx_RP.gf (v := .ref 112) rfl rfl hI.1.o111 rfl rfl (show _ = 86 from rfl) ?_
      refine sx_RP.step (pc2 := 88) (ls2 := [(0, .ref 111), (1, .int (nI 6))]) (st2 := [.int 6, .ref 112]) (w3 := w) rfl rfl ?_
      refine sx_RP.ild (c := 6) rfl hI.1.a112.1 hI.1.a112.2 (sx_in_nI (show 6 < 172 by omega) (by decide)) (show (nI 6).toNatClampNeg = 6 from nI_clamp (by omega)) (show _ = 89 from rfl) ?_
      refine sx_RP.ret (r := (some (.int ((ia w 112).getD 6 0)))) rfl rfl ?_
      exact ⟨by rw [cntA_6], hI⟩
theorem a127 {xs : Option (List Int32)} {d : Nat} {w : List sx_C} {s : ST} (hI : WI w) (hC : CLS w s) (a1 : Int32) : sx_RP xs (d + 7) 127 0 (lv_args 0 [.ref 0, .int a1]) [] w (fun r w2 => r = some (.int (cntA s.1 s.2.2.2.1 a1)) ∧ WI w2 ∧ CLS w2 (s) ∧ ∀ a, 111 ≤ a → w2[a]? = w[a]?) := by
  refine ((c127 (xs := xs) (d := d) hI hC a1).and (A127 hI s.1 hC.1.1 a1)).mono9 (fun r w2 z => ⟨?_, z.1.2.1, z.1.2.2.1, z.1.2.2.2⟩)
  rw [z.2.1, hC.2.1.1]
theorem a243 {xs : Option (List Int32)} {d : Nat} {w : List sx_C} {s : ST} (hI : WI w) (hR : REF w s) (hW : WB s.1) (a1 : Int32) : sx_RP xs (d + 7) 243 0 (lv_args 0 [.ref 111, .int a1]) [] w (fun r w2 => r = some (.int (cntA s.1 s.2.2.2.1 a1)) ∧ WI w2 ∧ REF w2 (s) ∧ ∀ a, a < 111 → w2[a]? = w[a]?) := by
  refine ((r243 (xs := xs) (d := d) hI hR a1).and (A243 hI (by rw [hR.1.1]; exact hW) a1)).mono9 (fun r w2 z => ⟨?_, z.1.2.1, z.1.2.2.1, z.1.2.2.2⟩)
  rw [z.2.1, hR.1.1, hR.2.1]
set_option maxRecDepth 20000 in
set_option maxHeartbeats 4000000 in
theorem X81L {xs : Option (List Int32)} {d p : Nat} {w : List sx_C} {l : List Int32} (hR : rel w 1 l) (hp : p ≤ 30) : ∀ (q j : Nat) (m b : Int32), j + q = 48 → WI w → 0 ≤ m → (b = -1 ∨ ∃ k, k < 48 ∧ b = nI k) → sx_RP xs (d + 7) 81 24 [(0, .ref 0), (1, .int (nI p)), (2, .int m), (3, .int b), (4, .int (nI j))] [] w (fun r w2 => r = some (.int (mnA (mnF l p q j m b))) ∧ WI w2)
  | 0, j, m, b, hj, hI, hm, hb => by
    obtain rfl : j = 48 := by omega
    rcases hb with rfl | ⟨k, hk, rfl⟩
    · refine sx_RP.step (pc2 := 26) (ls2 := [(0, .ref 0), (1, .int (nI p)), (2, .int m), (3, .int (-1)), (4, .int 48)]) (st2 := [.int 48]) (w3 := w) rfl rfl ?_
      refine sx_RP.step (pc2 := 28) (ls2 := [(0, .ref 0), (1, .int (nI p)), (2, .int m), (3, .int (-1)), (4, .int 48)]) (st2 := [.int 48, .int 48]) (w3 := w) rfl rfl ?_
      refine sx_RP.step (pc2 := 86) (ls2 := [(0, .ref 0), (1, .int (nI p)), (2, .int m), (3, .int (-1)), (4, .int 48)]) (st2 := []) (w3 := w) rfl rfl ?_
      refine sx_RP.step (pc2 := 87) (ls2 := [(0, .ref 0), (1, .int (nI p)), (2, .int m), (3, .int (-1)), (4, .int 48)]) (st2 := [.int (-1)]) (w3 := w) rfl rfl ?_
      refine sx_RP.step (pc2 := 88) (ls2 := [(0, .ref 0), (1, .int (nI p)), (2, .int m), (3, .int (-1)), (4, .int 48)]) (st2 := [.int (-1), .int (-1)]) (w3 := w) rfl rfl ?_
      refine sx_RP.step (pc2 := 91) (ls2 := [(0, .ref 0), (1, .int (nI p)), (2, .int m), (3, .int (-1)), (4, .int 48)]) (st2 := []) (w3 := w) rfl rfl ?_
      refine sx_RP.step (pc2 := 92) (ls2 := [(0, .ref 0), (1, .int (nI p)), (2, .int m), (3, .int (-1)), (4, .int 48)]) (st2 := [.ref 0]) (w3 := w) rfl rfl ?_
      refine sx_RP.step (pc2 := 94) (ls2 := [(0, .ref 0), (1, .int (nI p)), (2, .int m), (3, .int (-1)), (4, .int 48)]) (st2 := [.int (-1000000004), .ref 0]) (w3 := w) rfl rfl ?_
      refine sx_RP.callp (as2 := [.ref 0, .int (-1000000004)]) (rest2 := []) rfl rfl (sx_inv_v2 (mi := 81) (k := 78) (st := [.int (-1000000004), .ref 0]) (w := w) rfl rfl hI.1.o0 rfl rfl rfl) rfl rfl rfl (S9_3 hI) (show _ = 97 from rfl) ?_
      rintro r4 w2 ⟨rfl, hI3, hs1⟩
      show sx_RP _ _ _ _ _ [.int (-1000000004)] _ _
      refine sx_RP.step (pc2 := 101) (ls2 := [(0, .ref 0), (1, .int (nI p)), (2, .int m), (3, .int (-1)), (4, .int 48)]) (st2 := [.int (-1000000004)]) (w3 := w2) rfl rfl ?_
      refine sx_RP.ret (r := (some (.int (-1000000004)))) rfl rfl ?_
      exact ⟨rfl, hI3⟩
    · refine sx_RP.step (pc2 := 26) (ls2 := [(0, .ref 0), (1, .int (nI p)), (2, .int m), (3, .int (nI k)), (4, .int 48)]) (st2 := [.int 48]) (w3 := w) rfl rfl ?_
      refine sx_RP.step (pc2 := 28) (ls2 := [(0, .ref 0), (1, .int (nI p)), (2, .int m), (3, .int (nI k)), (4, .int 48)]) (st2 := [.int 48, .int 48]) (w3 := w) rfl rfl ?_
      refine sx_RP.step (pc2 := 86) (ls2 := [(0, .ref 0), (1, .int (nI p)), (2, .int m), (3, .int (nI k)), (4, .int 48)]) (st2 := []) (w3 := w) rfl rfl ?_
      refine sx_RP.step (pc2 := 87) (ls2 := [(0, .ref 0), (1, .int (nI p)), (2, .int m), (3, .int (nI k)), (4, .int 48)]) (st2 := [.int (nI k)]) (w3 := w) rfl rfl ?_
      refine sx_RP.step (pc2 := 88) (ls2 := [(0, .ref 0), (1, .int (nI p)), (2, .int m), (3, .int (nI k)), (4, .int 48)]) (st2 := [.int (-1), .int (nI k)]) (w3 := w) rfl rfl ?_
      refine sx_RP.br (p1 := 100) (l1 := [(0, .ref 0), (1, .int (nI p)), (2, .int m), (3, .int (nI k)), (4, .int 48)]) (s1 := []) (v1 := w) rfl rfl (fun _ => ?_) (fun q => absurd (nI_ne1 (by omega)) (of_decide_eq_false q))
      refine sx_RP.step (pc2 := 101) (ls2 := [(0, .ref 0), (1, .int (nI p)), (2, .int m), (3, .int (nI k)), (4, .int 48)]) (st2 := [.int (nI k)]) (w3 := w) rfl rfl ?_
      refine sx_RP.ret (r := (some (.int (nI k)))) rfl rfl ?_
      exact ⟨by show _ = some (Value.int (mnA (nI k))); rw [mnA_k hk], hI⟩
  | q + 1, j, m, b, hj, hI, hm, hb => by
    refine sx_RP.step (pc2 := 26) (ls2 := [(0, .ref 0), (1, .int (nI p)), (2, .int m), (3, .int b), (4, .int (nI j))]) (st2 := [.int (nI j)]) (w3 := w) rfl rfl ?_
    refine sx_RP.step (pc2 := 28) (ls2 := [(0, .ref 0), (1, .int (nI p)), (2, .int m), (3, .int b), (4, .int (nI j))]) (st2 := [.int 48, .int (nI j)]) (w3 := w) rfl rfl ?_
    refine sx_RP.br (p2 := 31) (l2 := [(0, .ref 0), (1, .int (nI p)), (2, .int m), (3, .int b), (4, .int (nI j))]) (s2 := []) (v2 := w) rfl rfl (fun q => absurd (of_decide_eq_true q) (fun z => absurd ((nI_leI (a := 48) (b := j) (by omega) (by omega)).mp z) (by omega))) (fun _ => ?_)
    refine sx_RP.step (pc2 := 32) (ls2 := [(0, .ref 0), (1, .int (nI p)), (2, .int m), (3, .int b), (4, .int (nI j))]) (st2 := [.ref 0]) (w3 := w) rfl rfl ?_
    refine sx_RP.gf (v := .ref 1) rfl rfl hI.1.o0 rfl rfl (show _ = 35 from rfl) ?_
    refine sx_RP.step (pc2 := 37) (ls2 := [(0, .ref 0), (1, .int (nI p)), (2, .int m), (3, .int b), (4, .int (nI j))]) (st2 := [.int (nI j), .ref 1]) (w3 := w) rfl rfl ?_
    refine sx_RP.step (pc2 := 38) (ls2 := [(0, .ref 0), (1, .int (nI p)), (2, .int m), (3, .int b), (4, .int (nI j))]) (st2 := [.int (nI p), .int (nI j), .ref 1]) (w3 := w) rfl rfl ?_
    refine sx_RP.callp (as2 := [.ref 1, .int (nI j), .int (nI p)]) (rest2 := []) rfl rfl (sx_inv_v2 (mi := 81) (k := 253) (st := [.int (nI p), .int (nI j), .ref 1]) (w := w) rfl rfl (hI.1.oC (Or.inl rfl)) rfl rfl rfl) rfl rfl rfl (X77 hI l hR (show j < 48 by omega) (show p ≤ 30 by omega)) (show _ = 41 from rfl) ?_
    rintro r4 w3 ⟨⟨u1, rfl, hu2⟩, ew⟩
    show sx_RP _ _ _ _ _ [.long u1] _ _
    rw [ew]
    refine sx_RP.step (pc2 := 42) (ls2 := [(0, .ref 0), (1, .int (nI p)), (2, .int m), (3, .int b), (4, .int (nI j))]) (st2 := [.ref 0, .long u1]) (w3 := w) rfl rfl ?_
    refine sx_RP.gf (v := .ref 1) rfl rfl hI.1.o0 rfl rfl (show _ = 45 from rfl) ?_
    refine sx_RP.gw hI (Or.inl rfl) rfl rfl (show _ = 48 from rfl) ?_
    refine sx_RP.step (pc2 := 49) (ls2 := [(0, .ref 0), (1, .int (nI p)), (2, .int m), (3, .int b), (4, .int (nI j))]) (st2 := [.long (u1 &&& (fj w 1 1))]) (w3 := w) rfl rfl ?_
    refine sx_RP.cu (as := [.long (u1 &&& (fj w 1 1))]) (rest2 := []) (st3 := [.int (ctP (bitL (u1 &&& (fj w 1 1))) 64)]) rfl rfl rfl rfl rfl (x78 hI (u1 &&& (fj w 1 1))) rfl ?_
    refine sx_RP.step (pc2 := 54) (ls2 := [(5, .int (ctP (bitL (u1 &&& (fj w 1 1))) 64)), (0, .ref 0), (1, .int (nI p)), (2, .int m), (3, .int b), (4, .int (nI j))]) (st2 := []) (w3 := w) rfl rfl ?_
    refine sx_RP.step (pc2 := 55) (ls2 := [(5, .int (ctP (bitL (u1 &&& (fj w 1 1))) 64)), (0, .ref 0), (1, .int (nI p)), (2, .int m), (3, .int b), (4, .int (nI j))]) (st2 := [.ref 0]) (w3 := w) rfl rfl ?_
    refine sx_RP.gf (v := .ref 1) rfl rfl hI.1.o0 rfl rfl (show _ = 58 from rfl) ?_
    refine sx_RP.gref (k := 0) (b := 2) hI (Or.inl rfl) rfl rfl (by omega) (show _ = 61 from rfl) ?_
    refine sx_RP.step (pc2 := 63) (ls2 := [(5, .int (ctP (bitL (u1 &&& (fj w 1 1))) 64)), (0, .ref 0), (1, .int (nI p)), (2, .int m), (3, .int b), (4, .int (nI j))]) (st2 := [.int (nI j), .ref 2]) (w3 := w) rfl rfl ?_
    refine sx_RP.ild (c := j) rfl (hI.1.aS (Or.inl rfl)).1 (hI.1.aS (Or.inl rfl)).2 (sx_in_nI (show j < 48 by omega) (by decide)) (show (nI j).toNatClampNeg = j from nI_clamp (by omega)) (show _ = 64 from rfl) ?_
    obtain ⟨x5, hx6, ex7⟩ : inR ((ia w 2).getD j 0) 3 := hI.st (Or.inl rfl) (show j < 48 by omega)
    rw [ex7]
    refine sx_RP.step (pc2 := 65) (ls2 := [(5, .int (ctP (bitL (u1 &&& (fj w 1 1))) 64)), (0, .ref 0), (1, .int (nI p)), (2, .int m), (3, .int b), (4, .int (nI j))]) (st2 := [.int 3, .int (nI x5)]) (w3 := w) rfl rfl ?_
    refine sx_RP.br (p1 := 80) (l1 := [(5, .int (ctP (bitL (u1 &&& (fj w 1 1))) 64)), (0, .ref 0), (1, .int (nI p)), (2, .int m), (3, .int b), (4, .int (nI j))]) (s1 := []) (v1 := w) (p2 := 68) (l2 := [(5, .int (ctP (bitL (u1 &&& (fj w 1 1))) 64)), (0, .ref 0), (1, .int (nI p)), (2, .int m), (3, .int b), (4, .int (nI j))]) (s2 := []) (v2 := w) rfl rfl (fun q8 => ?_) (fun q8 => ?_)
    · replace q8 := of_decide_eq_true q8
      replace q8 := (nI_eq (a := x5) (b := 3) (by omega) (by omega)).mp q8
      refine sx_RP.step (pc2 := 83) (ls2 := [(4, .int ((nI j) + 1)), (5, .int (ctP (bitL (u1 &&& (fj w 1 1))) 64)), (0, .ref 0), (1, .int (nI p)), (2, .int m), (3, .int b)]) (st2 := []) (w3 := w) rfl rfl ?_
      rw [nI_1 j]
      refine sx_RP.step (pc2 := 24) (ls2 := [(4, .int (nI (j + 1))), (5, .int (ctP (bitL (u1 &&& (fj w 1 1))) 64)), (0, .ref 0), (1, .int (nI p)), (2, .int m), (3, .int b)]) (st2 := []) (w3 := w) rfl rfl ?_
      have es : l.getD (7 + j) 0 = nI x5 := (hR.gr (by omega)).symm.trans ex7
      rw [mn_1 (es.trans (by rw [q8]; rfl))]
      exact sx_RP.ls (sx_lr.cons rfl (sx_lr.cons rfl (sx_lr.cons rfl (sx_lr.cons rfl (sx_lr.cons rfl sx_lr.nil))))) (X81L hR hp q (j + 1) m b (by omega) hI hm hb)
    · replace q8 := of_decide_eq_false q8
      replace q8 := mt (nI_eq (a := x5) (b := 3) (by omega) (by omega)).mpr q8
      refine sx_RP.step (pc2 := 70) (ls2 := [(5, .int (ctP (bitL (u1 &&& (fj w 1 1))) 64)), (0, .ref 0), (1, .int (nI p)), (2, .int m), (3, .int b), (4, .int (nI j))]) (st2 := [.int (ctP (bitL (u1 &&& (fj w 1 1))) 64)]) (w3 := w) rfl rfl ?_
      refine sx_RP.step (pc2 := 71) (ls2 := [(5, .int (ctP (bitL (u1 &&& (fj w 1 1))) 64)), (0, .ref 0), (1, .int (nI p)), (2, .int m), (3, .int b), (4, .int (nI j))]) (st2 := [.int m, .int (ctP (bitL (u1 &&& (fj w 1 1))) 64)]) (w3 := w) rfl rfl ?_
      refine sx_RP.br (p1 := 80) (l1 := [(5, .int (ctP (bitL (u1 &&& (fj w 1 1))) 64)), (0, .ref 0), (1, .int (nI p)), (2, .int m), (3, .int b), (4, .int (nI j))]) (s1 := []) (v1 := w) (p2 := 74) (l2 := [(5, .int (ctP (bitL (u1 &&& (fj w 1 1))) 64)), (0, .ref 0), (1, .int (nI p)), (2, .int m), (3, .int b), (4, .int (nI j))]) (s2 := []) (v2 := w) rfl rfl (fun q9 => ?_) (fun q9 => ?_)
      · replace q9 := of_decide_eq_true q9
        refine sx_RP.step (pc2 := 83) (ls2 := [(4, .int ((nI j) + 1)), (5, .int (ctP (bitL (u1 &&& (fj w 1 1))) 64)), (0, .ref 0), (1, .int (nI p)), (2, .int m), (3, .int b)]) (st2 := []) (w3 := w) rfl rfl ?_
        rw [nI_1 j]
        refine sx_RP.step (pc2 := 24) (ls2 := [(4, .int (nI (j + 1))), (5, .int (ctP (bitL (u1 &&& (fj w 1 1))) 64)), (0, .ref 0), (1, .int (nI p)), (2, .int m), (3, .int b)]) (st2 := []) (w3 := w) rfl rfl ?_
        have es : l.getD (7 + j) 0 = nI x5 := (hR.gr (by omega)).symm.trans ex7
        have e3 : ¬ l.getD (7 + j) 0 = 3 := fun z => q8 ((nI_eq (a := x5) (b := 3) (by omega) (by decide)).mp (es.symm.trans z))
        have ef := fl_C hR hu2
        rw [mn_2 (by rw [← ef]; exact q9)]
        exact sx_RP.ls (sx_lr.cons rfl (sx_lr.cons rfl (sx_lr.cons rfl (sx_lr.cons rfl (sx_lr.cons rfl sx_lr.nil))))) (X81L hR hp q (j + 1) m b (by omega) hI hm hb)
      · replace q9 := of_decide_eq_false q9
        refine sx_RP.step (pc2 := 76) (ls2 := [(5, .int (ctP (bitL (u1 &&& (fj w 1 1))) 64)), (0, .ref 0), (1, .int (nI p)), (2, .int m), (3, .int b), (4, .int (nI j))]) (st2 := [.int (ctP (bitL (u1 &&& (fj w 1 1))) 64)]) (w3 := w) rfl rfl ?_
        refine sx_RP.step (pc2 := 77) (ls2 := [(2, .int (ctP (bitL (u1 &&& (fj w 1 1))) 64)), (5, .int (ctP (bitL (u1 &&& (fj w 1 1))) 64)), (0, .ref 0), (1, .int (nI p)), (3, .int b), (4, .int (nI j))]) (st2 := []) (w3 := w) rfl rfl ?_
        refine sx_RP.step (pc2 := 79) (ls2 := [(2, .int (ctP (bitL (u1 &&& (fj w 1 1))) 64)), (5, .int (ctP (bitL (u1 &&& (fj w 1 1))) 64)), (0, .ref 0), (1, .int (nI p)), (3, .int b), (4, .int (nI j))]) (st2 := [.int (nI j)]) (w3 := w) rfl rfl ?_
        refine sx_RP.step (pc2 := 80) (ls2 := [(3, .int (nI j)), (2, .int (ctP (bitL (u1 &&& (fj w 1 1))) 64)), (5, .int (ctP (bitL (u1 &&& (fj w 1 1))) 64)), (0, .ref 0), (1, .int (nI p)), (4, .int (nI j))]) (st2 := []) (w3 := w) rfl rfl ?_
        refine sx_RP.step (pc2 := 83) (ls2 := [(4, .int ((nI j) + 1)), (3, .int (nI j)), (2, .int (ctP (bitL (u1 &&& (fj w 1 1))) 64)), (5, .int (ctP (bitL (u1 &&& (fj w 1 1))) 64)), (0, .ref 0), (1, .int (nI p))]) (st2 := []) (w3 := w) rfl rfl ?_
        rw [nI_1 j]
        refine sx_RP.step (pc2 := 24) (ls2 := [(4, .int (nI (j + 1))), (3, .int (nI j)), (2, .int (ctP (bitL (u1 &&& (fj w 1 1))) 64)), (5, .int (ctP (bitL (u1 &&& (fj w 1 1))) 64)), (0, .ref 0), (1, .int (nI p))]) (st2 := []) (w3 := w) rfl rfl ?_
        have es : l.getD (7 + j) 0 = nI x5 := (hR.gr (by omega)).symm.trans ex7
        have e3 : ¬ l.getD (7 + j) 0 = 3 := fun z => q8 ((nI_eq (a := x5) (b := 3) (by omega) (by decide)).mp (es.symm.trans z))
        have ef := fl_C hR hu2
        rw [mn_y e3 (by rw [← ef]; exact Int32.not_le.mp q9), ef]
        exact sx_RP.ls (sx_lr.cons rfl (sx_lr.cons rfl (sx_lr.cons rfl (sx_lr.cons rfl (sx_lr.cons rfl sx_lr.nil))))) (X81L hR hp q (j + 1) _ _ (by omega) hI (ctP_ge (by decide)) (Or.inr ⟨j, by omega, rfl⟩))
set_option maxRecDepth 20000 in
set_option maxHeartbeats 4000000 in
theorem A81 {xs : Option (List Int32)} {d : Nat} {w : List sx_C} (hI : WI w) (l : List Int32) (hR : rel w 1 l) (a1 : Int32) : sx_RP xs (d + 7) 81 0 (lv_args 0 [.ref 0, .int a1]) [] w (fun r w2 => r = some (.int (minA l a1)) ∧ WI w2) := by
  refine sx_RP.step (pc2 := 1) (ls2 := [(0, .ref 0), (1, .int a1)]) (st2 := [.int a1]) (w3 := w) rfl rfl ?_
  refine sx_RP.step (pc2 := 2) (ls2 := [(0, .ref 0), (1, .int a1)]) (st2 := [.int 1, .int a1]) (w3 := w) rfl rfl ?_
  refine sx_RP.step (pc2 := 4) (ls2 := [(0, .ref 0), (1, .int a1)]) (st2 := [.int 30, .int 1, .int a1]) (w3 := w) rfl rfl ?_
  rcases in_cases a1 1 30 (m := 1) (n := 30) rfl rfl (by decide) (by decide) with q1 | ⟨x2, hx3, hx4, rfl⟩
  · refine sx_RP.cu (as := [.int a1, .int 1, .int 30]) (rest2 := []) (st3 := [.int 0]) rfl rfl rfl rfl rfl (cx_8n q1) rfl ?_
    refine sx_RP.step (pc2 := 10) (ls2 := [(0, .ref 0), (1, .int a1)]) (st2 := []) (w3 := w) rfl rfl ?_
    refine sx_RP.step (pc2 := 11) (ls2 := [(0, .ref 0), (1, .int a1)]) (st2 := [.ref 0]) (w3 := w) rfl rfl ?_
    refine sx_RP.step (pc2 := 13) (ls2 := [(0, .ref 0), (1, .int a1)]) (st2 := [.int (-1000000001), .ref 0]) (w3 := w) rfl rfl ?_
    refine sx_RP.callp (as2 := [.ref 0, .int (-1000000001)]) (rest2 := []) rfl rfl (sx_inv_v2 (mi := 81) (k := 78) (st := [.int (-1000000001), .ref 0]) (w := w) rfl rfl hI.1.o0 rfl rfl rfl) rfl rfl rfl (S9_0 hI) (show _ = 16 from rfl) ?_
    rintro r4 w7 ⟨rfl, hI8, hs6⟩
    show sx_RP _ _ _ _ _ [.int (-1000000001)] _ _
    refine sx_RP.ret (r := (some (.int (-1000000001)))) rfl rfl ?_
    exact ⟨by rw [minA_n q1], hI8⟩
  · refine sx_RP.cu (as := [.int (nI x2), .int 1, .int 30]) (rest2 := []) (st3 := [.int 1]) rfl rfl rfl rfl rfl (cx_8p ⟨nI_le (a := 1) hx3 (by omega), nI_le (b := 30) hx4 (by decide)⟩) rfl ?_
    refine sx_RP.step (pc2 := 17) (ls2 := [(0, .ref 0), (1, .int (nI x2))]) (st2 := []) (w3 := w) rfl rfl ?_
    refine sx_RP.step (pc2 := 18) (ls2 := [(0, .ref 0), (1, .int (nI x2))]) (st2 := [.int 0]) (w3 := w) rfl rfl ?_
    refine sx_RP.step (pc2 := 19) (ls2 := [(2, .int 0), (0, .ref 0), (1, .int (nI x2))]) (st2 := []) (w3 := w) rfl rfl ?_
    refine sx_RP.step (pc2 := 20) (ls2 := [(2, .int 0), (0, .ref 0), (1, .int (nI x2))]) (st2 := [.int (-1)]) (w3 := w) rfl rfl ?_
    refine sx_RP.step (pc2 := 21) (ls2 := [(3, .int (-1)), (2, .int 0), (0, .ref 0), (1, .int (nI x2))]) (st2 := []) (w3 := w) rfl rfl ?_
    refine sx_RP.step (pc2 := 22) (ls2 := [(3, .int (-1)), (2, .int 0), (0, .ref 0), (1, .int (nI x2))]) (st2 := [.int 0]) (w3 := w) rfl rfl ?_
    refine sx_RP.step (pc2 := 24) (ls2 := [(4, .int 0), (3, .int (-1)), (2, .int 0), (0, .ref 0), (1, .int (nI x2))]) (st2 := []) (w3 := w) rfl rfl ?_
    rw [minA_y (by omega) (by omega)]
    exact sx_RP.ls (sx_lr.cons rfl (sx_lr.cons rfl (sx_lr.cons rfl (sx_lr.cons rfl (sx_lr.cons rfl sx_lr.nil))))) (X81L hR (show x2 ≤ 30 by omega) 48 0 0 (-1) (by omega) hI (by decide) (Or.inl rfl))
set_option maxRecDepth 20000 in
set_option maxHeartbeats 4000000 in
theorem X202L {xs : Option (List Int32)} {d p : Nat} {w : List sx_C} (hp : p ≤ 30) : ∀ (q j : Nat) (m b : Int32), j + q = 48 → WI w → 0 ≤ m → (b = -1 ∨ ∃ k, k < 48 ∧ b = nI k) → sx_RP xs (d + 7) 202 20 [(0, .ref 111), (1, .int (nI p)), (2, .int b), (3, .int m), (4, .int (nI j))] [] w (fun r w2 => r = some (.int (mnA (mnF (ia w 112) p q j m b))) ∧ WI w2)
  | 0, j, m, b, hj, hI, hm, hb => by
    obtain rfl : j = 48 := by omega
    rcases hb with rfl | ⟨k, hk, rfl⟩
    · refine sx_RP.step (pc2 := 22) (ls2 := [(0, .ref 111), (1, .int (nI p)), (2, .int (-1)), (3, .int m), (4, .int 48)]) (st2 := [.int 48]) (w3 := w) rfl rfl ?_
      refine sx_RP.step (pc2 := 24) (ls2 := [(0, .ref 111), (1, .int (nI p)), (2, .int (-1)), (3, .int m), (4, .int 48)]) (st2 := [.int 48, .int 48]) (w3 := w) rfl rfl ?_
      refine sx_RP.step (pc2 := 86) (ls2 := [(0, .ref 111), (1, .int (nI p)), (2, .int (-1)), (3, .int m), (4, .int 48)]) (st2 := []) (w3 := w) rfl rfl ?_
      refine sx_RP.step (pc2 := 87) (ls2 := [(0, .ref 111), (1, .int (nI p)), (2, .int (-1)), (3, .int m), (4, .int 48)]) (st2 := [.int (-1)]) (w3 := w) rfl rfl ?_
      refine sx_RP.step (pc2 := 90) (ls2 := [(0, .ref 111), (1, .int (nI p)), (2, .int (-1)), (3, .int m), (4, .int 48)]) (st2 := []) (w3 := w) rfl rfl ?_
      refine sx_RP.step (pc2 := 91) (ls2 := [(0, .ref 111), (1, .int (nI p)), (2, .int (-1)), (3, .int m), (4, .int 48)]) (st2 := [.ref 111]) (w3 := w) rfl rfl ?_
      refine sx_RP.step (pc2 := 92) (ls2 := [(0, .ref 111), (1, .int (nI p)), (2, .int (-1)), (3, .int m), (4, .int 48)]) (st2 := [.int 3, .ref 111]) (w3 := w) rfl rfl ?_
      refine sx_RP.callp (as2 := [.ref 111, .int 3]) (rest2 := []) rfl rfl (sx_inv_v2 (mi := 202) (k := 70) (st := [.int 3, .ref 111]) (w := w) rfl rfl hI.1.o111 rfl rfl rfl) rfl rfl rfl (S133_3 hI) (show _ = 95 from rfl) ?_
      rintro r4 w2 ⟨rfl, hI3, hs1⟩
      show sx_RP _ _ _ _ _ [.int (-1000000004)] _ _
      refine sx_RP.step (pc2 := 99) (ls2 := [(0, .ref 111), (1, .int (nI p)), (2, .int (-1)), (3, .int m), (4, .int 48)]) (st2 := [.int (-1000000004)]) (w3 := w2) rfl rfl ?_
      refine sx_RP.ret (r := (some (.int (-1000000004)))) rfl rfl ?_
      exact ⟨rfl, hI3⟩
    · refine sx_RP.step (pc2 := 22) (ls2 := [(0, .ref 111), (1, .int (nI p)), (2, .int (nI k)), (3, .int m), (4, .int 48)]) (st2 := [.int 48]) (w3 := w) rfl rfl ?_
      refine sx_RP.step (pc2 := 24) (ls2 := [(0, .ref 111), (1, .int (nI p)), (2, .int (nI k)), (3, .int m), (4, .int 48)]) (st2 := [.int 48, .int 48]) (w3 := w) rfl rfl ?_
      refine sx_RP.step (pc2 := 86) (ls2 := [(0, .ref 111), (1, .int (nI p)), (2, .int (nI k)), (3, .int m), (4, .int 48)]) (st2 := []) (w3 := w) rfl rfl ?_
      refine sx_RP.step (pc2 := 87) (ls2 := [(0, .ref 111), (1, .int (nI p)), (2, .int (nI k)), (3, .int m), (4, .int 48)]) (st2 := [.int (nI k)]) (w3 := w) rfl rfl ?_
      refine sx_RP.br (p1 := 98) (l1 := [(0, .ref 111), (1, .int (nI p)), (2, .int (nI k)), (3, .int m), (4, .int 48)]) (s1 := []) (v1 := w) rfl rfl (fun _ => ?_) (fun q => absurd (nI_pos' (by omega)) (of_decide_eq_false q))
      refine sx_RP.step (pc2 := 99) (ls2 := [(0, .ref 111), (1, .int (nI p)), (2, .int (nI k)), (3, .int m), (4, .int 48)]) (st2 := [.int (nI k)]) (w3 := w) rfl rfl ?_
      refine sx_RP.ret (r := (some (.int (nI k)))) rfl rfl ?_
      exact ⟨by show _ = some (Value.int (mnA (nI k))); rw [mnA_k hk], hI⟩
  | q + 1, j, m, b, hj, hI, hm, hb => by
    refine sx_RP.step (pc2 := 22) (ls2 := [(0, .ref 111), (1, .int (nI p)), (2, .int b), (3, .int m), (4, .int (nI j))]) (st2 := [.int (nI j)]) (w3 := w) rfl rfl ?_
    refine sx_RP.step (pc2 := 24) (ls2 := [(0, .ref 111), (1, .int (nI p)), (2, .int b), (3, .int m), (4, .int (nI j))]) (st2 := [.int 48, .int (nI j)]) (w3 := w) rfl rfl ?_
    refine sx_RP.br (p2 := 27) (l2 := [(0, .ref 111), (1, .int (nI p)), (2, .int b), (3, .int m), (4, .int (nI j))]) (s2 := []) (v2 := w) rfl rfl (fun q => absurd (of_decide_eq_true q) (fun z => absurd ((nI_leI (a := 48) (b := j) (by omega) (by omega)).mp z) (by omega))) (fun _ => ?_)
    refine sx_RP.step (pc2 := 28) (ls2 := [(0, .ref 111), (1, .int (nI p)), (2, .int b), (3, .int m), (4, .int (nI j))]) (st2 := [.ref 111]) (w3 := w) rfl rfl ?_
    refine sx_RP.gf (v := .ref 112) rfl rfl hI.1.o111 rfl rfl (show _ = 31 from rfl) ?_
    refine sx_RP.step (pc2 := 33) (ls2 := [(0, .ref 111), (1, .int (nI p)), (2, .int b), (3, .int m), (4, .int (nI j))]) (st2 := [.int 7, .ref 112]) (w3 := w) rfl rfl ?_
    refine sx_RP.step (pc2 := 35) (ls2 := [(0, .ref 111), (1, .int (nI p)), (2, .int b), (3, .int m), (4, .int (nI j))]) (st2 := [.int (nI j), .int 7, .ref 112]) (w3 := w) rfl rfl ?_
    refine sx_RP.step (pc2 := 36) (ls2 := [(0, .ref 111), (1, .int (nI p)), (2, .int b), (3, .int m), (4, .int (nI j))]) (st2 := [.int (7 + (nI j)), .ref 112]) (w3 := w) rfl rfl ?_
    rw [show (7 + (nI j) : Int32) = nI (7 + j) from nI_add 7 j]
    refine sx_RP.ild (c := (7 + j)) rfl hI.1.a112.1 hI.1.a112.2 (sx_in_nI (show (7 + j) < 172 by omega) (by decide)) (show (nI (7 + j)).toNatClampNeg = (7 + j) from nI_clamp (by omega)) (show _ = 37 from rfl) ?_
    obtain ⟨x1, hx2, ex3⟩ : inR ((ia w 112).getD (7 + j) 0) 3 := (hI.s ((7 + j)) (by omega)).2.2.1 (by omega)
    rw [ex3]
    refine sx_RP.step (pc2 := 38) (ls2 := [(0, .ref 111), (1, .int (nI p)), (2, .int b), (3, .int m), (4, .int (nI j))]) (st2 := [.int 3, .int (nI x1)]) (w3 := w) rfl rfl ?_
    refine sx_RP.br (p1 := 45) (l1 := [(0, .ref 111), (1, .int (nI p)), (2, .int b), (3, .int m), (4, .int (nI j))]) (s1 := []) (v1 := w) (p2 := 41) (l2 := [(0, .ref 111), (1, .int (nI p)), (2, .int b), (3, .int m), (4, .int (nI j))]) (s2 := []) (v2 := w) rfl rfl (fun q4 => ?_) (fun q4 => ?_)
    · replace q4 := of_decide_eq_true q4
      replace q4 := mt (nI_eq (a := x1) (b := 3) (by omega) (by omega)).mpr q4
      refine sx_RP.step (pc2 := 46) (ls2 := [(0, .ref 111), (1, .int (nI p)), (2, .int b), (3, .int m), (4, .int (nI j))]) (st2 := [.ref 111]) (w3 := w) rfl rfl ?_
      refine sx_RP.step (pc2 := 48) (ls2 := [(0, .ref 111), (1, .int (nI p)), (2, .int b), (3, .int m), (4, .int (nI j))]) (st2 := [.int (nI j), .ref 111]) (w3 := w) rfl rfl ?_
      refine sx_RP.step (pc2 := 49) (ls2 := [(0, .ref 111), (1, .int (nI p)), (2, .int b), (3, .int m), (4, .int (nI j))]) (st2 := [.int (nI p), .int (nI j), .ref 111]) (w3 := w) rfl rfl ?_
      refine sx_RP.cu (as := [.ref 111, .int (nI j), .int (nI p)]) (rest2 := []) (st3 := [.int (fanF (ia w 112) j p)]) rfl rfl (sx_inv_v2 (mi := 202) (k := 198) (st := [.int (nI p), .int (nI j), .ref 111]) (w := w) rfl rfl hI.1.o111 rfl rfl rfl) rfl rfl (x198 hI (show j < 48 by omega) hp) rfl ?_
      refine sx_RP.step (pc2 := 54) (ls2 := [(5, .int (fanF (ia w 112) j p)), (0, .ref 111), (1, .int (nI p)), (2, .int b), (3, .int m), (4, .int (nI j))]) (st2 := []) (w3 := w) rfl rfl ?_
      refine sx_RP.step (pc2 := 56) (ls2 := [(5, .int (fanF (ia w 112) j p)), (0, .ref 111), (1, .int (nI p)), (2, .int b), (3, .int m), (4, .int (nI j))]) (st2 := [.int (fanF (ia w 112) j p)]) (w3 := w) rfl rfl ?_
      refine sx_RP.step (pc2 := 57) (ls2 := [(5, .int (fanF (ia w 112) j p)), (0, .ref 111), (1, .int (nI p)), (2, .int b), (3, .int m), (4, .int (nI j))]) (st2 := [.int m, .int (fanF (ia w 112) j p)]) (w3 := w) rfl rfl ?_
      refine sx_RP.br (p1 := 65) (l1 := [(5, .int (fanF (ia w 112) j p)), (0, .ref 111), (1, .int (nI p)), (2, .int b), (3, .int m), (4, .int (nI j))]) (s1 := []) (v1 := w) (p2 := 60) (l2 := [(5, .int (fanF (ia w 112) j p)), (0, .ref 111), (1, .int (nI p)), (2, .int b), (3, .int m), (4, .int (nI j))]) (s2 := []) (v2 := w) rfl rfl (fun q5 => ?_) (fun q5 => ?_)
      · replace q5 := of_decide_eq_true q5
        refine sx_RP.step (pc2 := 66) (ls2 := [(5, .int (fanF (ia w 112) j p)), (0, .ref 111), (1, .int (nI p)), (2, .int b), (3, .int m), (4, .int (nI j))]) (st2 := [.int b]) (w3 := w) rfl rfl ?_
        refine sx_RP.step (pc2 := 67) (ls2 := [(2, .int b), (5, .int (fanF (ia w 112) j p)), (0, .ref 111), (1, .int (nI p)), (3, .int m), (4, .int (nI j))]) (st2 := []) (w3 := w) rfl rfl ?_
        refine sx_RP.step (pc2 := 69) (ls2 := [(2, .int b), (5, .int (fanF (ia w 112) j p)), (0, .ref 111), (1, .int (nI p)), (3, .int m), (4, .int (nI j))]) (st2 := [.int (fanF (ia w 112) j p)]) (w3 := w) rfl rfl ?_
        refine sx_RP.step (pc2 := 70) (ls2 := [(2, .int b), (5, .int (fanF (ia w 112) j p)), (0, .ref 111), (1, .int (nI p)), (3, .int m), (4, .int (nI j))]) (st2 := [.int m, .int (fanF (ia w 112) j p)]) (w3 := w) rfl rfl ?_
        refine sx_RP.br (p1 := 78) (l1 := [(2, .int b), (5, .int (fanF (ia w 112) j p)), (0, .ref 111), (1, .int (nI p)), (3, .int m), (4, .int (nI j))]) (s1 := []) (v1 := w) rfl rfl (fun _ => ?_) (fun q => absurd q5 (of_decide_eq_false q))
        refine sx_RP.step (pc2 := 79) (ls2 := [(2, .int b), (5, .int (fanF (ia w 112) j p)), (0, .ref 111), (1, .int (nI p)), (3, .int m), (4, .int (nI j))]) (st2 := [.int m]) (w3 := w) rfl rfl ?_
        refine sx_RP.step (pc2 := 80) (ls2 := [(3, .int m), (2, .int b), (5, .int (fanF (ia w 112) j p)), (0, .ref 111), (1, .int (nI p)), (4, .int (nI j))]) (st2 := []) (w3 := w) rfl rfl ?_
        refine sx_RP.step (pc2 := 83) (ls2 := [(4, .int ((nI j) + 1)), (3, .int m), (2, .int b), (5, .int (fanF (ia w 112) j p)), (0, .ref 111), (1, .int (nI p))]) (st2 := []) (w3 := w) rfl rfl ?_
        rw [nI_1 j]
        refine sx_RP.step (pc2 := 20) (ls2 := [(4, .int (nI (j + 1))), (3, .int m), (2, .int b), (5, .int (fanF (ia w 112) j p)), (0, .ref 111), (1, .int (nI p))]) (st2 := []) (w3 := w) rfl rfl ?_
        rw [mn_2 q5]
        exact sx_RP.ls (sx_lr.cons rfl (sx_lr.cons rfl (sx_lr.cons rfl (sx_lr.cons rfl (sx_lr.cons rfl sx_lr.nil))))) (X202L hp q (j + 1) m b (by omega) hI hm hb)
      · replace q5 := of_decide_eq_false q5
        refine sx_RP.step (pc2 := 62) (ls2 := [(5, .int (fanF (ia w 112) j p)), (0, .ref 111), (1, .int (nI p)), (2, .int b), (3, .int m), (4, .int (nI j))]) (st2 := [.int (nI j)]) (w3 := w) rfl rfl ?_
        refine sx_RP.step (pc2 := 66) (ls2 := [(5, .int (fanF (ia w 112) j p)), (0, .ref 111), (1, .int (nI p)), (2, .int b), (3, .int m), (4, .int (nI j))]) (st2 := [.int (nI j)]) (w3 := w) rfl rfl ?_
        refine sx_RP.step (pc2 := 67) (ls2 := [(2, .int (nI j)), (5, .int (fanF (ia w 112) j p)), (0, .ref 111), (1, .int (nI p)), (3, .int m), (4, .int (nI j))]) (st2 := []) (w3 := w) rfl rfl ?_
        refine sx_RP.step (pc2 := 69) (ls2 := [(2, .int (nI j)), (5, .int (fanF (ia w 112) j p)), (0, .ref 111), (1, .int (nI p)), (3, .int m), (4, .int (nI j))]) (st2 := [.int (fanF (ia w 112) j p)]) (w3 := w) rfl rfl ?_
        refine sx_RP.step (pc2 := 70) (ls2 := [(2, .int (nI j)), (5, .int (fanF (ia w 112) j p)), (0, .ref 111), (1, .int (nI p)), (3, .int m), (4, .int (nI j))]) (st2 := [.int m, .int (fanF (ia w 112) j p)]) (w3 := w) rfl rfl ?_
        refine sx_RP.br (p2 := 73) (l2 := [(2, .int (nI j)), (5, .int (fanF (ia w 112) j p)), (0, .ref 111), (1, .int (nI p)), (3, .int m), (4, .int (nI j))]) (s2 := []) (v2 := w) rfl rfl (fun q => absurd (of_decide_eq_true q) q5) (fun _ => ?_)
        refine sx_RP.step (pc2 := 75) (ls2 := [(2, .int (nI j)), (5, .int (fanF (ia w 112) j p)), (0, .ref 111), (1, .int (nI p)), (3, .int m), (4, .int (nI j))]) (st2 := [.int (fanF (ia w 112) j p)]) (w3 := w) rfl rfl ?_
        refine sx_RP.step (pc2 := 79) (ls2 := [(2, .int (nI j)), (5, .int (fanF (ia w 112) j p)), (0, .ref 111), (1, .int (nI p)), (3, .int m), (4, .int (nI j))]) (st2 := [.int (fanF (ia w 112) j p)]) (w3 := w) rfl rfl ?_
        refine sx_RP.step (pc2 := 80) (ls2 := [(3, .int (fanF (ia w 112) j p)), (2, .int (nI j)), (5, .int (fanF (ia w 112) j p)), (0, .ref 111), (1, .int (nI p)), (4, .int (nI j))]) (st2 := []) (w3 := w) rfl rfl ?_
        refine sx_RP.step (pc2 := 83) (ls2 := [(4, .int ((nI j) + 1)), (3, .int (fanF (ia w 112) j p)), (2, .int (nI j)), (5, .int (fanF (ia w 112) j p)), (0, .ref 111), (1, .int (nI p))]) (st2 := []) (w3 := w) rfl rfl ?_
        rw [nI_1 j]
        refine sx_RP.step (pc2 := 20) (ls2 := [(4, .int (nI (j + 1))), (3, .int (fanF (ia w 112) j p)), (2, .int (nI j)), (5, .int (fanF (ia w 112) j p)), (0, .ref 111), (1, .int (nI p))]) (st2 := []) (w3 := w) rfl rfl ?_
        rw [mn_y (fun z => q4 ((nI_eq (a := x1) (b := 3) (by omega) (by decide)).mp (ex3.symm.trans z))) (Int32.not_le.mp q5)]
        exact sx_RP.ls (sx_lr.cons rfl (sx_lr.cons rfl (sx_lr.cons rfl (sx_lr.cons rfl (sx_lr.cons rfl sx_lr.nil))))) (X202L hp q (j + 1) _ _ (by omega) hI (ctP_ge (by decide)) (Or.inr ⟨j, by omega, rfl⟩))
    · replace q4 := Decidable.not_not.mp (of_decide_eq_false q4)
      replace q4 := (nI_eq (a := x1) (b := 3) (by omega) (by omega)).mp q4
      refine sx_RP.step (pc2 := 42) (ls2 := [(0, .ref 111), (1, .int (nI p)), (2, .int b), (3, .int m), (4, .int (nI j))]) (st2 := [.int 0]) (w3 := w) rfl rfl ?_
      refine sx_RP.step (pc2 := 52) (ls2 := [(0, .ref 111), (1, .int (nI p)), (2, .int b), (3, .int m), (4, .int (nI j))]) (st2 := [.int 0]) (w3 := w) rfl rfl ?_
      refine sx_RP.step (pc2 := 54) (ls2 := [(5, .int 0), (0, .ref 111), (1, .int (nI p)), (2, .int b), (3, .int m), (4, .int (nI j))]) (st2 := []) (w3 := w) rfl rfl ?_
      refine sx_RP.step (pc2 := 56) (ls2 := [(5, .int 0), (0, .ref 111), (1, .int (nI p)), (2, .int b), (3, .int m), (4, .int (nI j))]) (st2 := [.int 0]) (w3 := w) rfl rfl ?_
      refine sx_RP.step (pc2 := 57) (ls2 := [(5, .int 0), (0, .ref 111), (1, .int (nI p)), (2, .int b), (3, .int m), (4, .int (nI j))]) (st2 := [.int m, .int 0]) (w3 := w) rfl rfl ?_
      refine sx_RP.br (p1 := 65) (l1 := [(5, .int 0), (0, .ref 111), (1, .int (nI p)), (2, .int b), (3, .int m), (4, .int (nI j))]) (s1 := []) (v1 := w) rfl rfl (fun _ => ?_) (fun q => absurd hm (of_decide_eq_false q))
      refine sx_RP.step (pc2 := 66) (ls2 := [(5, .int 0), (0, .ref 111), (1, .int (nI p)), (2, .int b), (3, .int m), (4, .int (nI j))]) (st2 := [.int b]) (w3 := w) rfl rfl ?_
      refine sx_RP.step (pc2 := 67) (ls2 := [(2, .int b), (5, .int 0), (0, .ref 111), (1, .int (nI p)), (3, .int m), (4, .int (nI j))]) (st2 := []) (w3 := w) rfl rfl ?_
      refine sx_RP.step (pc2 := 69) (ls2 := [(2, .int b), (5, .int 0), (0, .ref 111), (1, .int (nI p)), (3, .int m), (4, .int (nI j))]) (st2 := [.int 0]) (w3 := w) rfl rfl ?_
      refine sx_RP.step (pc2 := 70) (ls2 := [(2, .int b), (5, .int 0), (0, .ref 111), (1, .int (nI p)), (3, .int m), (4, .int (nI j))]) (st2 := [.int m, .int 0]) (w3 := w) rfl rfl ?_
      refine sx_RP.br (p1 := 78) (l1 := [(2, .int b), (5, .int 0), (0, .ref 111), (1, .int (nI p)), (3, .int m), (4, .int (nI j))]) (s1 := []) (v1 := w) rfl rfl (fun _ => ?_) (fun q => absurd hm (of_decide_eq_false q))
      refine sx_RP.step (pc2 := 79) (ls2 := [(2, .int b), (5, .int 0), (0, .ref 111), (1, .int (nI p)), (3, .int m), (4, .int (nI j))]) (st2 := [.int m]) (w3 := w) rfl rfl ?_
      refine sx_RP.step (pc2 := 80) (ls2 := [(3, .int m), (2, .int b), (5, .int 0), (0, .ref 111), (1, .int (nI p)), (4, .int (nI j))]) (st2 := []) (w3 := w) rfl rfl ?_
      refine sx_RP.step (pc2 := 83) (ls2 := [(4, .int ((nI j) + 1)), (3, .int m), (2, .int b), (5, .int 0), (0, .ref 111), (1, .int (nI p))]) (st2 := []) (w3 := w) rfl rfl ?_
      rw [nI_1 j]
      refine sx_RP.step (pc2 := 20) (ls2 := [(4, .int (nI (j + 1))), (3, .int m), (2, .int b), (5, .int 0), (0, .ref 111), (1, .int (nI p))]) (st2 := []) (w3 := w) rfl rfl ?_
      rw [mn_1 (l := ia w 112) (ex3.trans (by rw [q4]; rfl))]
      exact sx_RP.ls (sx_lr.cons rfl (sx_lr.cons rfl (sx_lr.cons rfl (sx_lr.cons rfl (sx_lr.cons rfl sx_lr.nil))))) (X202L hp q (j + 1) m b (by omega) hI hm hb)
set_option maxRecDepth 20000 in
set_option maxHeartbeats 4000000 in
theorem A202 {xs : Option (List Int32)} {d : Nat} {w : List sx_C} (hI : WI w) (a1 : Int32) : sx_RP xs (d + 7) 202 0 (lv_args 0 [.ref 111, .int a1]) [] w (fun r w2 => r = some (.int (minA (ia w 112) a1)) ∧ WI w2) := by
  refine sx_RP.step (pc2 := 1) (ls2 := [(0, .ref 111), (1, .int a1)]) (st2 := [.int a1]) (w3 := w) rfl rfl ?_
  rcases in_cases a1 1 30 (m := 1) (n := 30) rfl rfl (by decide) (by decide) with q1 | ⟨x2, hx3, hx4, rfl⟩
  · refine sx_RP.cu (as := [.int a1]) (rest2 := []) (st3 := [.int 0]) rfl rfl rfl rfl rfl (cx_197n q1) rfl ?_
    refine sx_RP.step (pc2 := 7) (ls2 := [(0, .ref 111), (1, .int a1)]) (st2 := []) (w3 := w) rfl rfl ?_
    refine sx_RP.step (pc2 := 8) (ls2 := [(0, .ref 111), (1, .int a1)]) (st2 := [.ref 111]) (w3 := w) rfl rfl ?_
    refine sx_RP.step (pc2 := 9) (ls2 := [(0, .ref 111), (1, .int a1)]) (st2 := [.int 0, .ref 111]) (w3 := w) rfl rfl ?_
    refine sx_RP.callp (as2 := [.ref 111, .int 0]) (rest2 := []) rfl rfl (sx_inv_v2 (mi := 202) (k := 70) (st := [.int 0, .ref 111]) (w := w) rfl rfl hI.1.o111 rfl rfl rfl) rfl rfl rfl (S133_0 hI) (show _ = 12 from rfl) ?_
    rintro r4 w7 ⟨rfl, hI8, hs6⟩
    show sx_RP _ _ _ _ _ [.int (-1000000001)] _ _
    refine sx_RP.ret (r := (some (.int (-1000000001)))) rfl rfl ?_
    exact ⟨by rw [minA_n q1], hI8⟩
  · refine sx_RP.cu (as := [.int (nI x2)]) (rest2 := []) (st3 := [.int 1]) rfl rfl rfl rfl rfl (cx_197p ⟨nI_le (a := 1) hx3 (by omega), nI_le (b := 30) hx4 (by decide)⟩) rfl ?_
    refine sx_RP.step (pc2 := 13) (ls2 := [(0, .ref 111), (1, .int (nI x2))]) (st2 := []) (w3 := w) rfl rfl ?_
    refine sx_RP.step (pc2 := 14) (ls2 := [(0, .ref 111), (1, .int (nI x2))]) (st2 := [.int (-1)]) (w3 := w) rfl rfl ?_
    refine sx_RP.step (pc2 := 15) (ls2 := [(2, .int (-1)), (0, .ref 111), (1, .int (nI x2))]) (st2 := []) (w3 := w) rfl rfl ?_
    refine sx_RP.step (pc2 := 16) (ls2 := [(2, .int (-1)), (0, .ref 111), (1, .int (nI x2))]) (st2 := [.int 0]) (w3 := w) rfl rfl ?_
    refine sx_RP.step (pc2 := 17) (ls2 := [(3, .int 0), (2, .int (-1)), (0, .ref 111), (1, .int (nI x2))]) (st2 := []) (w3 := w) rfl rfl ?_
    refine sx_RP.step (pc2 := 18) (ls2 := [(3, .int 0), (2, .int (-1)), (0, .ref 111), (1, .int (nI x2))]) (st2 := [.int 0]) (w3 := w) rfl rfl ?_
    refine sx_RP.step (pc2 := 20) (ls2 := [(4, .int 0), (3, .int 0), (2, .int (-1)), (0, .ref 111), (1, .int (nI x2))]) (st2 := []) (w3 := w) rfl rfl ?_
    rw [minA_y (by omega) (by omega)]
    exact sx_RP.ls (sx_lr.cons rfl (sx_lr.cons rfl (sx_lr.cons rfl (sx_lr.cons rfl (sx_lr.cons rfl sx_lr.nil))))) (X202L (show x2 ≤ 30 by omega) 48 0 0 (-1) (by omega) hI (by decide) (Or.inl rfl))
theorem a81 {xs : Option (List Int32)} {d : Nat} {w : List sx_C} {s : ST} (hI : WI w) (hC : CLS w s) (a1 : Int32) : sx_RP xs (d + 7) 81 0 (lv_args 0 [.ref 0, .int a1]) [] w (fun r w2 => r = some (.int (minA s.1 a1)) ∧ WI w2 ∧ CLS w2 (s) ∧ ∀ a, 111 ≤ a → w2[a]? = w[a]?) :=
  ((c81 (xs := xs) (d := d) hI hC a1).and (A81 hI s.1 hC.1.1 a1)).mono9 (fun r w2 z => ⟨z.2.1, z.1.2.1, z.1.2.2.1, z.1.2.2.2⟩)
theorem a202 {xs : Option (List Int32)} {d : Nat} {w : List sx_C} {s : ST} (hI : WI w) (hR : REF w s) (a1 : Int32) : sx_RP xs (d + 7) 202 0 (lv_args 0 [.ref 111, .int a1]) [] w (fun r w2 => r = some (.int (minA s.1 a1)) ∧ WI w2 ∧ REF w2 (s) ∧ ∀ a, a < 111 → w2[a]? = w[a]?) := by
  refine ((r202 (xs := xs) (d := d) hI hR a1).and (A202 hI a1)).mono9 (fun r w2 z => ⟨?_, z.1.2.1, z.1.2.2.1, z.1.2.2.2⟩)
  rw [z.2.1, hR.1.1]
